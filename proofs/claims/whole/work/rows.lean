section
-- ===== PART A: goes FIRST, ahead of the names: the tables' words, and 'selects' of the private methods out of them =====
/-- a private method of a class that the tables say can be made, by its rows of tables_1 -/
def lw_okq (q : MethodName × Nat) : Prop := (q.1.cls ≠ "java/lang/invoke/MethodHandle" ∧ q.1.cls ≠ "java/lang/invoke/VarHandle") ∧ Cond.instantiable q.1.cls q.2 ∈ tables_1 ∧ Cond.privateMethod q.1 ∈ tables_1 ∧ Cond.instanceMethod q.1 ∈ tables_1
theorem lw_p0 : lw_okq (⟨"TenFingers$Board", "empty", "()V"⟩, 2) := ⟨⟨by decide +kernel, by decide +kernel⟩, List.mem_of_getElem? (i := 30) (by decide +kernel), List.mem_of_getElem? (i := 36) (by decide +kernel), List.mem_of_getElem? (i := 37) (by decide +kernel)⟩
theorem lw_p1 : lw_okq (⟨"TenFingers", "refuse", "(I)I"⟩, 7) := ⟨⟨by decide +kernel, by decide +kernel⟩, List.mem_of_getElem? (i := 15) (by decide +kernel), List.mem_of_getElem? (i := 186) (by decide +kernel), List.mem_of_getElem? (i := 187) (by decide +kernel)⟩
theorem lw_p2 : lw_okq (⟨"TenFingers$Board", "lay", "(II)V"⟩, 2) := ⟨⟨by decide +kernel, by decide +kernel⟩, List.mem_of_getElem? (i := 30) (by decide +kernel), List.mem_of_getElem? (i := 222) (by decide +kernel), List.mem_of_getElem? (i := 223) (by decide +kernel)⟩
theorem lw_p3 : lw_okq (⟨"TenFingers$Words", "noWord", "(I)Z"⟩, 3) := ⟨⟨by decide +kernel, by decide +kernel⟩, List.mem_of_getElem? (i := 77) (by decide +kernel), List.mem_of_getElem? (i := 334) (by decide +kernel), List.mem_of_getElem? (i := 335) (by decide +kernel)⟩
theorem lw_p4 : lw_okq (⟨"TenFingers$Pieces", "addHundredths", "(II)V"⟩, 4) := ⟨⟨by decide +kernel, by decide +kernel⟩, List.mem_of_getElem? (i := 123) (by decide +kernel), List.mem_of_getElem? (i := 370) (by decide +kernel), List.mem_of_getElem? (i := 371) (by decide +kernel)⟩
theorem lw_p5 : lw_okq (⟨"TenFingers", "timeOfMeant", "(IIZ)I"⟩, 7) := ⟨⟨by decide +kernel, by decide +kernel⟩, List.mem_of_getElem? (i := 15) (by decide +kernel), List.mem_of_getElem? (i := 399) (by decide +kernel), List.mem_of_getElem? (i := 400) (by decide +kernel)⟩
theorem lw_p6 : lw_okq (⟨"TenFingers", "bestExchange", "(II)I"⟩, 7) := ⟨⟨by decide +kernel, by decide +kernel⟩, List.mem_of_getElem? (i := 15) (by decide +kernel), List.mem_of_getElem? (i := 485) (by decide +kernel), List.mem_of_getElem? (i := 486) (by decide +kernel)⟩
theorem lw_p7 : lw_okq (⟨"TenFingers$Strokes", "gapAt", "(ILTenFingers$Hand;)I"⟩, 2) := ⟨⟨by decide +kernel, by decide +kernel⟩, List.mem_of_getElem? (i := 144) (by decide +kernel), List.mem_of_getElem? (i := 522) (by decide +kernel), List.mem_of_getElem? (i := 523) (by decide +kernel)⟩
theorem lw_p8 : lw_okq (⟨"TenFingers", "handNearest", "()I"⟩, 7) := ⟨⟨by decide +kernel, by decide +kernel⟩, List.mem_of_getElem? (i := 15) (by decide +kernel), List.mem_of_getElem? (i := 531) (by decide +kernel), List.mem_of_getElem? (i := 532) (by decide +kernel)⟩
theorem lw_p9 : lw_okq (⟨"TenFingers$Strokes", "showsLaw", "(II)Z"⟩, 2) := ⟨⟨by decide +kernel, by decide +kernel⟩, List.mem_of_getElem? (i := 144) (by decide +kernel), List.mem_of_getElem? (i := 543) (by decide +kernel), List.mem_of_getElem? (i := 544) (by decide +kernel)⟩
theorem lw_p10 : lw_okq (⟨"TenFingers$Strokes", "acheAt", "(I)I"⟩, 2) := ⟨⟨by decide +kernel, by decide +kernel⟩, List.mem_of_getElem? (i := 144) (by decide +kernel), List.mem_of_getElem? (i := 558) (by decide +kernel), List.mem_of_getElem? (i := 559) (by decide +kernel)⟩
theorem lw_p11 : lw_okq (⟨"TenFingers", "allAtPace", "(III)I"⟩, 7) := ⟨⟨by decide +kernel, by decide +kernel⟩, List.mem_of_getElem? (i := 15) (by decide +kernel), List.mem_of_getElem? (i := 575) (by decide +kernel), List.mem_of_getElem? (i := 576) (by decide +kernel)⟩
theorem lw_p12 : lw_okq (⟨"TenFingers", "refusalsOf", "(I)I"⟩, 7) := ⟨⟨by decide +kernel, by decide +kernel⟩, List.mem_of_getElem? (i := 15) (by decide +kernel), List.mem_of_getElem? (i := 620) (by decide +kernel), List.mem_of_getElem? (i := 621) (by decide +kernel)⟩
theorem lw_p13 : lw_okq (⟨"TenFingersModel", "refuse", "(I)I"⟩, 6) := ⟨⟨by decide +kernel, by decide +kernel⟩, List.mem_of_getElem? (i := 624) (by decide +kernel), List.mem_of_getElem? (i := 653) (by decide +kernel), List.mem_of_getElem? (i := 654) (by decide +kernel)⟩
theorem lw_p14 : lw_okq (⟨"TenFingersModel", "boardFault", "()I"⟩, 6) := ⟨⟨by decide +kernel, by decide +kernel⟩, List.mem_of_getElem? (i := 624) (by decide +kernel), List.mem_of_getElem? (i := 668) (by decide +kernel), List.mem_of_getElem? (i := 669) (by decide +kernel)⟩
theorem lw_p15 : lw_okq (⟨"TenFingersModel", "lettersFault", "(Z)I"⟩, 6) := ⟨⟨by decide +kernel, by decide +kernel⟩, List.mem_of_getElem? (i := 624) (by decide +kernel), List.mem_of_getElem? (i := 679) (by decide +kernel), List.mem_of_getElem? (i := 680) (by decide +kernel)⟩
def lw_privs_1 : List (MethodName × Nat) := [(⟨"TenFingers$Board", "empty", "()V"⟩, 2), (⟨"TenFingers", "refuse", "(I)I"⟩, 7), (⟨"TenFingers$Board", "lay", "(II)V"⟩, 2), (⟨"TenFingers$Words", "noWord", "(I)Z"⟩, 3), (⟨"TenFingers$Pieces", "addHundredths", "(II)V"⟩, 4), (⟨"TenFingers", "timeOfMeant", "(IIZ)I"⟩, 7), (⟨"TenFingers", "bestExchange", "(II)I"⟩, 7), (⟨"TenFingers$Strokes", "gapAt", "(ILTenFingers$Hand;)I"⟩, 2), (⟨"TenFingers", "handNearest", "()I"⟩, 7), (⟨"TenFingers$Strokes", "showsLaw", "(II)Z"⟩, 2), (⟨"TenFingers$Strokes", "acheAt", "(I)I"⟩, 2), (⟨"TenFingers", "allAtPace", "(III)I"⟩, 7), (⟨"TenFingers", "refusalsOf", "(I)I"⟩, 7), (⟨"TenFingersModel", "refuse", "(I)I"⟩, 6), (⟨"TenFingersModel", "boardFault", "()I"⟩, 6), (⟨"TenFingersModel", "lettersFault", "(Z)I"⟩, 6)]
theorem lw_r1 : ∀ q ∈ lw_privs_1, lw_okq q := List.forall_mem_cons.mpr ⟨lw_p0, List.forall_mem_cons.mpr ⟨lw_p1, List.forall_mem_cons.mpr ⟨lw_p2, List.forall_mem_cons.mpr ⟨lw_p3, List.forall_mem_cons.mpr ⟨lw_p4, List.forall_mem_cons.mpr ⟨lw_p5, List.forall_mem_cons.mpr ⟨lw_p6, List.forall_mem_cons.mpr ⟨lw_p7, List.forall_mem_cons.mpr ⟨lw_p8, List.forall_mem_cons.mpr ⟨lw_p9, List.forall_mem_cons.mpr ⟨lw_p10, List.forall_mem_cons.mpr ⟨lw_p11, List.forall_mem_cons.mpr ⟨lw_p12, List.forall_mem_cons.mpr ⟨lw_p13, List.forall_mem_cons.mpr ⟨lw_p14, List.forall_mem_cons.mpr ⟨lw_p15, fun _ h => absurd h List.not_mem_nil⟩⟩⟩⟩⟩⟩⟩⟩⟩⟩⟩⟩⟩⟩⟩⟩
theorem lw_p16 : lw_okq (⟨"TenFingersModel", "keyAt", "(II)I"⟩, 6) := ⟨⟨by decide +kernel, by decide +kernel⟩, List.mem_of_getElem? (i := 624) (by decide +kernel), List.mem_of_getElem? (i := 691) (by decide +kernel), List.mem_of_getElem? (i := 692) (by decide +kernel)⟩
theorem lw_p17 : lw_okq (⟨"TenFingersModel", "gapOf", "(IIIZ)I"⟩, 6) := ⟨⟨by decide +kernel, by decide +kernel⟩, List.mem_of_getElem? (i := 624) (by decide +kernel), List.mem_of_getElem? (i := 723) (by decide +kernel), List.mem_of_getElem? (i := 724) (by decide +kernel)⟩
theorem lw_p18 : lw_okq (⟨"TenFingersModel", "wordAt", "(I)I"⟩, 6) := ⟨⟨by decide +kernel, by decide +kernel⟩, List.mem_of_getElem? (i := 624) (by decide +kernel), List.mem_of_getElem? (i := 745) (by decide +kernel), List.mem_of_getElem? (i := 746) (by decide +kernel)⟩
theorem lw_p19 : lw_okq (⟨"TenFingersModel", "stands", "(II)Z"⟩, 6) := ⟨⟨by decide +kernel, by decide +kernel⟩, List.mem_of_getElem? (i := 624) (by decide +kernel), List.mem_of_getElem? (i := 749) (by decide +kernel), List.mem_of_getElem? (i := 750) (by decide +kernel)⟩
theorem lw_p20 : lw_okq (⟨"TenFingersModel", "sizeOf", "(I)I"⟩, 6) := ⟨⟨by decide +kernel, by decide +kernel⟩, List.mem_of_getElem? (i := 624) (by decide +kernel), List.mem_of_getElem? (i := 753) (by decide +kernel), List.mem_of_getElem? (i := 754) (by decide +kernel)⟩
theorem lw_p21 : lw_okq (⟨"TenFingersModel", "timeOf", "(IIZ)I"⟩, 6) := ⟨⟨by decide +kernel, by decide +kernel⟩, List.mem_of_getElem? (i := 624) (by decide +kernel), List.mem_of_getElem? (i := 765) (by decide +kernel), List.mem_of_getElem? (i := 766) (by decide +kernel)⟩
theorem lw_p22 : lw_okq (⟨"TenFingersModel", "gapAt", "(IIIZ)I"⟩, 6) := ⟨⟨by decide +kernel, by decide +kernel⟩, List.mem_of_getElem? (i := 624) (by decide +kernel), List.mem_of_getElem? (i := 769) (by decide +kernel), List.mem_of_getElem? (i := 770) (by decide +kernel)⟩
theorem lw_p23 : lw_okq (⟨"TenFingersModel", "whereOf", "(II)I"⟩, 6) := ⟨⟨by decide +kernel, by decide +kernel⟩, List.mem_of_getElem? (i := 624) (by decide +kernel), List.mem_of_getElem? (i := 777) (by decide +kernel), List.mem_of_getElem? (i := 778) (by decide +kernel)⟩
theorem lw_p24 : lw_okq (⟨"TenFingersModel", "slipAt", "()I"⟩, 6) := ⟨⟨by decide +kernel, by decide +kernel⟩, List.mem_of_getElem? (i := 624) (by decide +kernel), List.mem_of_getElem? (i := 781) (by decide +kernel), List.mem_of_getElem? (i := 782) (by decide +kernel)⟩
theorem lw_p25 : lw_okq (⟨"TenFingersModel", "swapAt", "()I"⟩, 6) := ⟨⟨by decide +kernel, by decide +kernel⟩, List.mem_of_getElem? (i := 624) (by decide +kernel), List.mem_of_getElem? (i := 785) (by decide +kernel), List.mem_of_getElem? (i := 786) (by decide +kernel)⟩
theorem lw_p26 : lw_okq (⟨"TenFingersModel", "doubleAt", "()I"⟩, 6) := ⟨⟨by decide +kernel, by decide +kernel⟩, List.mem_of_getElem? (i := 624) (by decide +kernel), List.mem_of_getElem? (i := 789) (by decide +kernel), List.mem_of_getElem? (i := 790) (by decide +kernel)⟩
theorem lw_p27 : lw_okq (⟨"TenFingersModel", "byKeys", "(IZ)I"⟩, 6) := ⟨⟨by decide +kernel, by decide +kernel⟩, List.mem_of_getElem? (i := 624) (by decide +kernel), List.mem_of_getElem? (i := 793) (by decide +kernel), List.mem_of_getElem? (i := 794) (by decide +kernel)⟩
theorem lw_p28 : lw_okq (⟨"TenFingersModel", "earlyAt", "()I"⟩, 6) := ⟨⟨by decide +kernel, by decide +kernel⟩, List.mem_of_getElem? (i := 624) (by decide +kernel), List.mem_of_getElem? (i := 797) (by decide +kernel), List.mem_of_getElem? (i := 798) (by decide +kernel)⟩
theorem lw_p29 : lw_okq (⟨"TenFingersModel", "lostAt", "()I"⟩, 6) := ⟨⟨by decide +kernel, by decide +kernel⟩, List.mem_of_getElem? (i := 624) (by decide +kernel), List.mem_of_getElem? (i := 801) (by decide +kernel), List.mem_of_getElem? (i := 802) (by decide +kernel)⟩
theorem lw_p30 : lw_okq (⟨"TenFingersModel", "caughtAt", "()I"⟩, 6) := ⟨⟨by decide +kernel, by decide +kernel⟩, List.mem_of_getElem? (i := 624) (by decide +kernel), List.mem_of_getElem? (i := 805) (by decide +kernel), List.mem_of_getElem? (i := 806) (by decide +kernel)⟩
theorem lw_p31 : lw_okq (⟨"TenFingersModel", "changes", "(III)V"⟩, 6) := ⟨⟨by decide +kernel, by decide +kernel⟩, List.mem_of_getElem? (i := 624) (by decide +kernel), List.mem_of_getElem? (i := 817) (by decide +kernel), List.mem_of_getElem? (i := 818) (by decide +kernel)⟩
def lw_privs_2 : List (MethodName × Nat) := [(⟨"TenFingersModel", "keyAt", "(II)I"⟩, 6), (⟨"TenFingersModel", "gapOf", "(IIIZ)I"⟩, 6), (⟨"TenFingersModel", "wordAt", "(I)I"⟩, 6), (⟨"TenFingersModel", "stands", "(II)Z"⟩, 6), (⟨"TenFingersModel", "sizeOf", "(I)I"⟩, 6), (⟨"TenFingersModel", "timeOf", "(IIZ)I"⟩, 6), (⟨"TenFingersModel", "gapAt", "(IIIZ)I"⟩, 6), (⟨"TenFingersModel", "whereOf", "(II)I"⟩, 6), (⟨"TenFingersModel", "slipAt", "()I"⟩, 6), (⟨"TenFingersModel", "swapAt", "()I"⟩, 6), (⟨"TenFingersModel", "doubleAt", "()I"⟩, 6), (⟨"TenFingersModel", "byKeys", "(IZ)I"⟩, 6), (⟨"TenFingersModel", "earlyAt", "()I"⟩, 6), (⟨"TenFingersModel", "lostAt", "()I"⟩, 6), (⟨"TenFingersModel", "caughtAt", "()I"⟩, 6), (⟨"TenFingersModel", "changes", "(III)V"⟩, 6)]
theorem lw_r2 : ∀ q ∈ lw_privs_2, lw_okq q := List.forall_mem_cons.mpr ⟨lw_p16, List.forall_mem_cons.mpr ⟨lw_p17, List.forall_mem_cons.mpr ⟨lw_p18, List.forall_mem_cons.mpr ⟨lw_p19, List.forall_mem_cons.mpr ⟨lw_p20, List.forall_mem_cons.mpr ⟨lw_p21, List.forall_mem_cons.mpr ⟨lw_p22, List.forall_mem_cons.mpr ⟨lw_p23, List.forall_mem_cons.mpr ⟨lw_p24, List.forall_mem_cons.mpr ⟨lw_p25, List.forall_mem_cons.mpr ⟨lw_p26, List.forall_mem_cons.mpr ⟨lw_p27, List.forall_mem_cons.mpr ⟨lw_p28, List.forall_mem_cons.mpr ⟨lw_p29, List.forall_mem_cons.mpr ⟨lw_p30, List.forall_mem_cons.mpr ⟨lw_p31, fun _ h => absurd h List.not_mem_nil⟩⟩⟩⟩⟩⟩⟩⟩⟩⟩⟩⟩⟩⟩⟩⟩
theorem lw_p32 : lw_okq (⟨"TenFingersModel", "betterOf", "(II)I"⟩, 6) := ⟨⟨by decide +kernel, by decide +kernel⟩, List.mem_of_getElem? (i := 624) (by decide +kernel), List.mem_of_getElem? (i := 825) (by decide +kernel), List.mem_of_getElem? (i := 826) (by decide +kernel)⟩
theorem lw_p33 : lw_okq (⟨"TenFingersModel", "farOf", "(II)I"⟩, 6) := ⟨⟨by decide +kernel, by decide +kernel⟩, List.mem_of_getElem? (i := 624) (by decide +kernel), List.mem_of_getElem? (i := 849) (by decide +kernel), List.mem_of_getElem? (i := 850) (by decide +kernel)⟩
theorem lw_p34 : lw_okq (⟨"TenFingersModel", "acheAt", "(II)I"⟩, 6) := ⟨⟨by decide +kernel, by decide +kernel⟩, List.mem_of_getElem? (i := 624) (by decide +kernel), List.mem_of_getElem? (i := 865) (by decide +kernel), List.mem_of_getElem? (i := 866) (by decide +kernel)⟩
theorem lw_p35 : lw_okq (⟨"TenFingersModel", "paceOf", "(IIII)I"⟩, 6) := ⟨⟨by decide +kernel, by decide +kernel⟩, List.mem_of_getElem? (i := 624) (by decide +kernel), List.mem_of_getElem? (i := 877) (by decide +kernel), List.mem_of_getElem? (i := 878) (by decide +kernel)⟩
def lw_privs_3 : List (MethodName × Nat) := [(⟨"TenFingersModel", "betterOf", "(II)I"⟩, 6), (⟨"TenFingersModel", "farOf", "(II)I"⟩, 6), (⟨"TenFingersModel", "acheAt", "(II)I"⟩, 6), (⟨"TenFingersModel", "paceOf", "(IIII)I"⟩, 6)]
theorem lw_r3 : ∀ q ∈ lw_privs_3, lw_okq q := List.forall_mem_cons.mpr ⟨lw_p32, List.forall_mem_cons.mpr ⟨lw_p33, List.forall_mem_cons.mpr ⟨lw_p34, List.forall_mem_cons.mpr ⟨lw_p35, fun _ h => absurd h List.not_mem_nil⟩⟩⟩⟩
def lw_privs : List (MethodName × Nat) := lw_privs_1 ++ (lw_privs_2 ++ (lw_privs_3))
def lw_tbl : List Cond := k2_sels lw_privs ++ tables_1
theorem lw_privs_ok : ∀ q ∈ lw_privs, lw_okq q := by
  show ∀ q ∈ lw_privs_1 ++ (lw_privs_2 ++ (lw_privs_3)), lw_okq q
  exact List.forall_mem_append.mpr ⟨lw_r1, List.forall_mem_append.mpr ⟨lw_r2, lw_r3⟩⟩

def RX0 : String := "TenFingers$Board"
def TX0 : u_T := fun k => match k with
  | 0 => ("TenFingers$Board", "letterOfKey", "[I", true)
  | _ => ("TenFingers$Board", "keyOfLetter", "[I", true)
def tyX0 : Nat → FieldType := fun k => match k with
  | 0 => .array .int
  | _ => .array .int
theorem nmX0 : ∀ a, a < 2 → ∀ b, b < 2 → a ≠ b → (TX0 a).2.1 ≠ (TX0 b).2.1 := by decide +kernel
theorem tyX0_ok : ∀ k, k < 2 → parseFieldDescriptor (TX0 k).2.2.1 = some (tyX0 k) := by decide +kernel
abbrev cX0_init : ByteArray := prog_2_method_1_code
def yX0_init : MethodName := ⟨RX0, "<init>", "()V"⟩
abbrev cX0_empty : ByteArray := prog_2_method_2_code
def yX0_empty : MethodName := ⟨RX0, "empty", "()V"⟩
abbrev cX0_letterAt : ByteArray := prog_2_method_3_code
def yX0_letterAt : MethodName := ⟨RX0, "letterAt", "(I)I"⟩
abbrev cX0_keyAt : ByteArray := prog_2_method_4_code
def yX0_keyAt : MethodName := ⟨RX0, "keyAt", "(I)I"⟩
abbrev cX0_readFrom : ByteArray := prog_2_method_5_code
def yX0_readFrom : MethodName := ⟨RX0, "readFrom", "(LTenFingers$Series;)I"⟩
abbrev cX0_swap : ByteArray := prog_2_method_6_code
def yX0_swap : MethodName := ⟨RX0, "swap", "(II)V"⟩
abbrev cX0_lay : ByteArray := prog_2_method_7_code
def yX0_lay : MethodName := ⟨RX0, "lay", "(II)V"⟩
abbrev cX0_copyFrom : ByteArray := prog_2_method_8_code
def yX0_copyFrom : MethodName := ⟨RX0, "copyFrom", "(LTenFingers$Board;)V"⟩
def RX1 : String := "TenFingers$Hand"
def TX1 : u_T := fun k => match k with
  | _ => ("TenFingers$Hand", "laws", "[I", true)
def tyX1 : Nat → FieldType := fun k => match k with
  | _ => .array .int
theorem nmX1 : ∀ a, a < 1 → ∀ b, b < 1 → a ≠ b → (TX1 a).2.1 ≠ (TX1 b).2.1 := by decide +kernel
theorem tyX1_ok : ∀ k, k < 1 → parseFieldDescriptor (TX1 k).2.2.1 = some (tyX1 k) := by decide +kernel
abbrev cX1_init : ByteArray := prog_3_method_1_code
def yX1_init : MethodName := ⟨RX1, "<init>", "()V"⟩
abbrev cX1_changeLaw : ByteArray := prog_3_method_2_code
def yX1_changeLaw : MethodName := ⟨RX1, "changeLaw", "(II)I"⟩
abbrev cX1_gapTo : ByteArray := prog_3_method_3_code
def yX1_gapTo : MethodName := ⟨RX1, "gapTo", "(IIZ)I"⟩
abbrev cX1_copyFrom : ByteArray := prog_3_method_4_code
def yX1_copyFrom : MethodName := ⟨RX1, "copyFrom", "(LTenFingers$Hand;)V"⟩
def RX2 : String := "TenFingers$Keys"
def TX2 : u_T := fun k => match k with
  | _ => ("", "", "", false)
def tyX2 : Nat → FieldType := fun k => match k with
  | _ => .int
theorem nmX2 : ∀ a, a < 0 → ∀ b, b < 0 → a ≠ b → (TX2 a).2.1 ≠ (TX2 b).2.1 := by decide +kernel
theorem tyX2_ok : ∀ k, k < 0 → parseFieldDescriptor (TX2 k).2.2.1 = some (tyX2 k) := by decide +kernel
abbrev cX2_fingerBy : ByteArray := prog_4_method_2_code
def yX2_fingerBy : MethodName := ⟨RX2, "fingerBy", "(IZ)I"⟩
abbrev cX2_inRightHalf : ByteArray := prog_4_method_3_code
def yX2_inRightHalf : MethodName := ⟨RX2, "inRightHalf", "(I)Z"⟩
abbrev cX2_linesBetween : ByteArray := prog_4_method_4_code
def yX2_linesBetween : MethodName := ⟨RX2, "linesBetween", "(II)I"⟩
abbrev cX2_columnsBetween : ByteArray := prog_4_method_5_code
def yX2_columnsBetween : MethodName := ⟨RX2, "columnsBetween", "(II)I"⟩
abbrev cX2_lawBetween : ByteArray := prog_4_method_6_code
def yX2_lawBetween : MethodName := ⟨RX2, "lawBetween", "(IIZ)I"⟩
abbrev cX2_beside : ByteArray := prog_4_method_7_code
def yX2_beside : MethodName := ⟨RX2, "beside", "(II)Z"⟩
abbrev cX2_mirrored : ByteArray := prog_4_method_8_code
def yX2_mirrored : MethodName := ⟨RX2, "mirrored", "(II)Z"⟩
def RX3 : String := "TenFingers$Pieces"
def TX3 : u_T := fun k => match k with
  | 0 => ("TenFingers$Pieces", "begins", "LTenFingers$Series;", true)
  | 1 => ("TenFingers$Pieces", "lengths", "LTenFingers$Series;", true)
  | 2 => ("TenFingers$Pieces", "words", "LTenFingers$Series;", true)
  | _ => ("TenFingers$Pieces", "hundredths", "LTenFingers$Series;", true)
def tyX3 : Nat → FieldType := fun k => match k with
  | 0 => .object "TenFingers$Series"
  | 1 => .object "TenFingers$Series"
  | 2 => .object "TenFingers$Series"
  | _ => .object "TenFingers$Series"
theorem nmX3 : ∀ a, a < 4 → ∀ b, b < 4 → a ≠ b → (TX3 a).2.1 ≠ (TX3 b).2.1 := by decide +kernel
theorem tyX3_ok : ∀ k, k < 4 → parseFieldDescriptor (TX3 k).2.2.1 = some (tyX3 k) := by decide +kernel
abbrev cX3_init : ByteArray := prog_5_method_1_code
def yX3_init : MethodName := ⟨RX3, "<init>", "()V"⟩
abbrev cX3_cutFrom : ByteArray := prog_5_method_2_code
def yX3_cutFrom : MethodName := ⟨RX3, "cutFrom", "(LTenFingers$Series;LTenFingers$Words;)V"⟩
abbrev cX3_addHundredths : ByteArray := prog_5_method_3_code
def yX3_addHundredths : MethodName := ⟨RX3, "addHundredths", "(II)V"⟩
abbrev cX3_size : ByteArray := prog_5_method_4_code
def yX3_size : MethodName := ⟨RX3, "size", "()I"⟩
abbrev cX3_beginAt : ByteArray := prog_5_method_5_code
def yX3_beginAt : MethodName := ⟨RX3, "beginAt", "(I)I"⟩
abbrev cX3_lengthAt : ByteArray := prog_5_method_6_code
def yX3_lengthAt : MethodName := ⟨RX3, "lengthAt", "(I)I"⟩
abbrev cX3_wordAt : ByteArray := prog_5_method_7_code
def yX3_wordAt : MethodName := ⟨RX3, "wordAt", "(I)I"⟩
abbrev cX3_hundredthsAt : ByteArray := prog_5_method_8_code
def yX3_hundredthsAt : MethodName := ⟨RX3, "hundredthsAt", "(I)I"⟩
def RX4 : String := "TenFingers$Reading"
def TX4 : u_T := fun k => match k with
  | _ => ("", "", "", false)
def tyX4 : Nat → FieldType := fun k => match k with
  | _ => .int
theorem nmX4 : ∀ a, a < 0 → ∀ b, b < 0 → a ≠ b → (TX4 a).2.1 ≠ (TX4 b).2.1 := by decide +kernel
theorem tyX4_ok : ∀ k, k < 0 → parseFieldDescriptor (TX4 k).2.2.1 = some (tyX4 k) := by decide +kernel
abbrev cX4_isLetter : ByteArray := prog_6_method_2_code
def yX4_isLetter : MethodName := ⟨RX4, "isLetter", "(I)Z"⟩
abbrev cX4_boardFault : ByteArray := prog_6_method_3_code
def yX4_boardFault : MethodName := ⟨RX4, "boardFault", "(LTenFingers$Series;)I"⟩
abbrev cX4_textFault : ByteArray := prog_6_method_4_code
def yX4_textFault : MethodName := ⟨RX4, "textFault", "(LTenFingers$Series;Z)I"⟩
abbrev cX4_signsInto : ByteArray := prog_6_method_5_code
def yX4_signsInto : MethodName := ⟨RX4, "signsInto", "(LTenFingers$Series;LTenFingers$Series;)I"⟩
def RX5 : String := "TenFingers$Series"
def TX5 : u_T := fun k => match k with
  | 0 => ("TenFingers$Series", "items", "[I", true)
  | _ => ("TenFingers$Series", "size", "I", false)
def tyX5 : Nat → FieldType := fun k => match k with
  | 0 => .array .int
  | _ => .int
theorem nmX5 : ∀ a, a < 2 → ∀ b, b < 2 → a ≠ b → (TX5 a).2.1 ≠ (TX5 b).2.1 := by decide +kernel
theorem tyX5_ok : ∀ k, k < 2 → parseFieldDescriptor (TX5 k).2.2.1 = some (tyX5 k) := by decide +kernel
abbrev cX5_init : ByteArray := prog_7_method_1_code
def yX5_init : MethodName := ⟨RX5, "<init>", "(I)V"⟩
abbrev cX5_size : ByteArray := prog_7_method_2_code
def yX5_size : MethodName := ⟨RX5, "size", "()I"⟩
abbrev cX5_at : ByteArray := prog_7_method_3_code
def yX5_at : MethodName := ⟨RX5, "at", "(I)I"⟩
abbrev cX5_add : ByteArray := prog_7_method_4_code
def yX5_add : MethodName := ⟨RX5, "add", "(I)V"⟩
abbrev cX5_clear : ByteArray := prog_7_method_5_code
def yX5_clear : MethodName := ⟨RX5, "clear", "()V"⟩
abbrev cX5_copyFrom : ByteArray := prog_7_method_6_code
def yX5_copyFrom : MethodName := ⟨RX5, "copyFrom", "(LTenFingers$Series;)V"⟩
def RX6 : String := "TenFingers$Slips"
def TX6 : u_T := fun k => match k with
  | _ => ("", "", "", false)
def tyX6 : Nat → FieldType := fun k => match k with
  | _ => .int
theorem nmX6 : ∀ a, a < 0 → ∀ b, b < 0 → a ≠ b → (TX6 a).2.1 ≠ (TX6 b).2.1 := by decide +kernel
theorem tyX6_ok : ∀ k, k < 0 → parseFieldDescriptor (TX6 k).2.2.1 = some (tyX6 k) := by decide +kernel
abbrev cX6_placeOf : ByteArray := prog_8_method_2_code
def yX6_placeOf : MethodName := ⟨RX6, "placeOf", "(ILTenFingers$Series;LTenFingers$Series;LTenFingers$Board;)I"⟩
abbrev cX6_firstUnlike : ByteArray := prog_8_method_3_code
def yX6_firstUnlike : MethodName := ⟨RX6, "firstUnlike", "(LTenFingers$Series;LTenFingers$Series;)I"⟩
abbrev cX6_sameRest : ByteArray := prog_8_method_4_code
def yX6_sameRest : MethodName := ⟨RX6, "sameRest", "(LTenFingers$Series;ILTenFingers$Series;I)Z"⟩
abbrev cX6_slipPlace : ByteArray := prog_8_method_5_code
def yX6_slipPlace : MethodName := ⟨RX6, "slipPlace", "(LTenFingers$Series;LTenFingers$Series;)I"⟩
abbrev cX6_swappedPlace : ByteArray := prog_8_method_6_code
def yX6_swappedPlace : MethodName := ⟨RX6, "swappedPlace", "(LTenFingers$Series;LTenFingers$Series;)I"⟩
abbrev cX6_doubledPlace : ByteArray := prog_8_method_7_code
def yX6_doubledPlace : MethodName := ⟨RX6, "doubledPlace", "(LTenFingers$Series;LTenFingers$Series;)I"⟩
abbrev cX6_keyPlace : ByteArray := prog_8_method_8_code
def yX6_keyPlace : MethodName := ⟨RX6, "keyPlace", "(ILTenFingers$Series;LTenFingers$Series;LTenFingers$Board;)I"⟩
abbrev cX6_earlyPlace : ByteArray := prog_8_method_9_code
def yX6_earlyPlace : MethodName := ⟨RX6, "earlyPlace", "(LTenFingers$Series;LTenFingers$Series;)I"⟩
abbrev cX6_lostPlace : ByteArray := prog_8_method_10_code
def yX6_lostPlace : MethodName := ⟨RX6, "lostPlace", "(LTenFingers$Series;LTenFingers$Series;)I"⟩
abbrev cX6_caughtPlace : ByteArray := prog_8_method_11_code
def yX6_caughtPlace : MethodName := ⟨RX6, "caughtPlace", "(LTenFingers$Series;LTenFingers$Series;)I"⟩
def RX7 : String := "TenFingers$State"
def TX7 : u_T := fun k => match k with
  | 0 => ("TenFingers$State", "boards", "[LTenFingers$Board;", true)
  | 1 => ("TenFingers$State", "hands", "[LTenFingers$Hand;", true)
  | 2 => ("TenFingers$State", "meant", "LTenFingers$Series;", true)
  | 3 => ("TenFingers$State", "written", "LTenFingers$Series;", true)
  | 4 => ("TenFingers$State", "words", "LTenFingers$Words;", true)
  | _ => ("TenFingers$State", "row", "LTenFingers$Series;", true)
def tyX7 : Nat → FieldType := fun k => match k with
  | 0 => .array (.object "TenFingers$Board")
  | 1 => .array (.object "TenFingers$Hand")
  | 2 => .object "TenFingers$Series"
  | 3 => .object "TenFingers$Series"
  | 4 => .object "TenFingers$Words"
  | _ => .object "TenFingers$Series"
theorem nmX7 : ∀ a, a < 6 → ∀ b, b < 6 → a ≠ b → (TX7 a).2.1 ≠ (TX7 b).2.1 := by decide +kernel
theorem tyX7_ok : ∀ k, k < 6 → parseFieldDescriptor (TX7 k).2.2.1 = some (tyX7 k) := by decide +kernel
abbrev cX7_init : ByteArray := prog_9_method_1_code
def yX7_init : MethodName := ⟨RX7, "<init>", "()V"⟩
abbrev cX7_copyFrom : ByteArray := prog_9_method_2_code
def yX7_copyFrom : MethodName := ⟨RX7, "copyFrom", "(LTenFingers$State;)V"⟩
def RX8 : String := "TenFingers$Strokes"
def TX8 : u_T := fun k => match k with
  | 0 => ("TenFingers$Strokes", "keys", "LTenFingers$Series;", true)
  | _ => ("TenFingers$Strokes", "used", "[Z", true)
def tyX8 : Nat → FieldType := fun k => match k with
  | 0 => .object "TenFingers$Series"
  | _ => .array .boolean
theorem nmX8 : ∀ a, a < 2 → ∀ b, b < 2 → a ≠ b → (TX8 a).2.1 ≠ (TX8 b).2.1 := by decide +kernel
theorem tyX8_ok : ∀ k, k < 2 → parseFieldDescriptor (TX8 k).2.2.1 = some (tyX8 k) := by decide +kernel
abbrev cX8_init : ByteArray := prog_10_method_1_code
def yX8_init : MethodName := ⟨RX8, "<init>", "()V"⟩
abbrev cX8_layOut : ByteArray := prog_10_method_2_code
def yX8_layOut : MethodName := ⟨RX8, "layOut", "(LTenFingers$Series;LTenFingers$Board;)V"⟩
abbrev cX8_uses : ByteArray := prog_10_method_3_code
def yX8_uses : MethodName := ⟨RX8, "uses", "(I)Z"⟩
abbrev cX8_gapAt : ByteArray := prog_10_method_4_code
def yX8_gapAt : MethodName := ⟨RX8, "gapAt", "(ILTenFingers$Hand;)I"⟩
abbrev cX8_timeBy : ByteArray := prog_10_method_5_code
def yX8_timeBy : MethodName := ⟨RX8, "timeBy", "(LTenFingers$Hand;LTenFingers$Pieces;Z)I"⟩
abbrev cX8_timeExchanged : ByteArray := prog_10_method_6_code
def yX8_timeExchanged : MethodName := ⟨RX8, "timeExchanged", "(LTenFingers$Hand;LTenFingers$Pieces;II)I"⟩
abbrev cX8_farFrom : ByteArray := prog_10_method_7_code
def yX8_farFrom : MethodName := ⟨RX8, "farFrom", "(LTenFingers$Series;LTenFingers$Hand;)I"⟩
abbrev cX8_showsLaw : ByteArray := prog_10_method_8_code
def yX8_showsLaw : MethodName := ⟨RX8, "showsLaw", "(II)Z"⟩
abbrev cX8_outermost : ByteArray := prog_10_method_9_code
def yX8_outermost : MethodName := ⟨RX8, "outermost", "(LTenFingers$Series;IZ)I"⟩
abbrev cX8_acheAt : ByteArray := prog_10_method_10_code
def yX8_acheAt : MethodName := ⟨RX8, "acheAt", "(I)I"⟩
abbrev cX8_acheOf : ByteArray := prog_10_method_11_code
def yX8_acheOf : MethodName := ⟨RX8, "acheOf", "(I)I"⟩
abbrev cX8_pausesWith : ByteArray := prog_10_method_12_code
def yX8_pausesWith : MethodName := ⟨RX8, "pausesWith", "(II)I"⟩
def RX9 : String := "TenFingers$Words"
def TX9 : u_T := fun k => match k with
  | 0 => ("TenFingers$Words", "letters", "[LTenFingers$Series;", true)
  | 1 => ("TenFingers$Words", "practised", "[I", true)
  | _ => ("TenFingers$Words", "size", "I", false)
def tyX9 : Nat → FieldType := fun k => match k with
  | 0 => .array (.object "TenFingers$Series")
  | 1 => .array .int
  | _ => .int
theorem nmX9 : ∀ a, a < 3 → ∀ b, b < 3 → a ≠ b → (TX9 a).2.1 ≠ (TX9 b).2.1 := by decide +kernel
theorem tyX9_ok : ∀ k, k < 3 → parseFieldDescriptor (TX9 k).2.2.1 = some (tyX9 k) := by decide +kernel
abbrev cX9_init : ByteArray := prog_11_method_1_code
def yX9_init : MethodName := ⟨RX9, "<init>", "()V"⟩
abbrev cX9_size : ByteArray := prog_11_method_2_code
def yX9_size : MethodName := ⟨RX9, "size", "()I"⟩
abbrev cX9_noWord : ByteArray := prog_11_method_3_code
def yX9_noWord : MethodName := ⟨RX9, "noWord", "(I)Z"⟩
abbrev cX9_addFrom : ByteArray := prog_11_method_4_code
def yX9_addFrom : MethodName := ⟨RX9, "addFrom", "(LTenFingers$Series;)I"⟩
abbrev cX9_useMore : ByteArray := prog_11_method_5_code
def yX9_useMore : MethodName := ⟨RX9, "useMore", "(II)I"⟩
abbrev cX9_lengthOf : ByteArray := prog_11_method_6_code
def yX9_lengthOf : MethodName := ⟨RX9, "lengthOf", "(I)I"⟩
abbrev cX9_hundredthsOf : ByteArray := prog_11_method_7_code
def yX9_hundredthsOf : MethodName := ⟨RX9, "hundredthsOf", "(I)I"⟩
abbrev cX9_longestAt : ByteArray := prog_11_method_8_code
def yX9_longestAt : MethodName := ⟨RX9, "longestAt", "(LTenFingers$Series;I)I"⟩
abbrev cX9_standsAt : ByteArray := prog_11_method_9_code
def yX9_standsAt : MethodName := ⟨RX9, "standsAt", "(LTenFingers$Series;LTenFingers$Series;I)Z"⟩
abbrev cX9_copyFrom : ByteArray := prog_11_method_10_code
def yX9_copyFrom : MethodName := ⟨RX9, "copyFrom", "(LTenFingers$Words;)V"⟩
def RX10 : String := "TenFingers"
def TX10 : u_T := fun k => match k with
  | 0 => ("TenFingers", "now", "LTenFingers$State;", true)
  | 1 => ("TenFingers", "kept", "LTenFingers$State;", true)
  | 2 => ("TenFingers", "tape", "LTenFingers$Series;", true)
  | 3 => ("TenFingers", "pieceRow", "LTenFingers$Pieces;", true)
  | 4 => ("TenFingers", "strokes", "LTenFingers$Strokes;", true)
  | 5 => ("TenFingers", "refused", "[I", true)
  | _ => ("TenFingers", "imageTaken", "Z", false)
def tyX10 : Nat → FieldType := fun k => match k with
  | 0 => .object "TenFingers$State"
  | 1 => .object "TenFingers$State"
  | 2 => .object "TenFingers$Series"
  | 3 => .object "TenFingers$Pieces"
  | 4 => .object "TenFingers$Strokes"
  | 5 => .array .int
  | _ => .boolean
theorem nmX10 : ∀ a, a < 7 → ∀ b, b < 7 → a ≠ b → (TX10 a).2.1 ≠ (TX10 b).2.1 := by decide +kernel
theorem tyX10_ok : ∀ k, k < 7 → parseFieldDescriptor (TX10 k).2.2.1 = some (tyX10 k) := by decide +kernel
abbrev cX10_init : ByteArray := prog_1_method_1_code
def yX10_init : MethodName := ⟨RX10, "<init>", "()V"⟩
abbrev cX10_feed : ByteArray := prog_1_method_2_code
def yX10_feed : MethodName := ⟨RX10, "feed", "(IJ)I"⟩
abbrev cX10_board : ByteArray := prog_1_method_3_code
def yX10_board : MethodName := ⟨RX10, "board", "(I)I"⟩
abbrev cX10_text : ByteArray := prog_1_method_4_code
def yX10_text : MethodName := ⟨RX10, "text", "(Z)I"⟩
abbrev cX10_word : ByteArray := prog_1_method_5_code
def yX10_word : MethodName := ⟨RX10, "word", "()I"⟩
abbrev cX10_keyOf : ByteArray := prog_1_method_6_code
def yX10_keyOf : MethodName := ⟨RX10, "keyOf", "(II)I"⟩
abbrev cX10_letterOn : ByteArray := prog_1_method_7_code
def yX10_letterOn : MethodName := ⟨RX10, "letterOn", "(II)I"⟩
abbrev cX10_fingerOf : ByteArray := prog_1_method_8_code
def yX10_fingerOf : MethodName := ⟨RX10, "fingerOf", "(IZ)I"⟩
abbrev cX10_law : ByteArray := prog_1_method_9_code
def yX10_law : MethodName := ⟨RX10, "law", "(III)I"⟩
abbrev cX10_gap : ByteArray := prog_1_method_10_code
def yX10_gap : MethodName := ⟨RX10, "gap", "(IIII)I"⟩
abbrev cX10_sign : ByteArray := prog_1_method_11_code
def yX10_sign : MethodName := ⟨RX10, "sign", "(ZI)I"⟩
abbrev cX10_practise : ByteArray := prog_1_method_12_code
def yX10_practise : MethodName := ⟨RX10, "practise", "(II)I"⟩
abbrev cX10_piece : ByteArray := prog_1_method_13_code
def yX10_piece : MethodName := ⟨RX10, "piece", "(II)I"⟩
abbrev cX10_pieces : ByteArray := prog_1_method_14_code
def yX10_pieces : MethodName := ⟨RX10, "pieces", "()I"⟩
abbrev cX10_time : ByteArray := prog_1_method_15_code
def yX10_time : MethodName := ⟨RX10, "time", "(IIZ)I"⟩
abbrev cX10_may : ByteArray := prog_1_method_16_code
def yX10_may : MethodName := ⟨RX10, "may", "(I)I"⟩
abbrev cX10_where : ByteArray := prog_1_method_17_code
def yX10_where : MethodName := ⟨RX10, "where", "(II)I"⟩
abbrev cX10_exchange : ByteArray := prog_1_method_18_code
def yX10_exchange : MethodName := ⟨RX10, "exchange", "(III)I"⟩
abbrev cX10_better : ByteArray := prog_1_method_19_code
def yX10_better : MethodName := ⟨RX10, "better", "(II)I"⟩
abbrev cX10_climb : ByteArray := prog_1_method_20_code
def yX10_climb : MethodName := ⟨RX10, "climb", "(III)I"⟩
abbrev cX10_summer : ByteArray := prog_1_method_21_code
def yX10_summer : MethodName := ⟨RX10, "summer", "(III)I"⟩
abbrev cX10_put : ByteArray := prog_1_method_22_code
def yX10_put : MethodName := ⟨RX10, "put", "(I)I"⟩
abbrev cX10_unput : ByteArray := prog_1_method_23_code
def yX10_unput : MethodName := ⟨RX10, "unput", "()I"⟩
abbrev cX10_far : ByteArray := prog_1_method_24_code
def yX10_far : MethodName := ⟨RX10, "far", "(II)I"⟩
abbrev cX10_nearest : ByteArray := prog_1_method_25_code
def yX10_nearest : MethodName := ⟨RX10, "nearest", "(I)I"⟩
abbrev cX10_span : ByteArray := prog_1_method_26_code
def yX10_span : MethodName := ⟨RX10, "span", "(IIZ)I"⟩
abbrev cX10_ache : ByteArray := prog_1_method_27_code
def yX10_ache : MethodName := ⟨RX10, "ache", "(II)I"⟩
abbrev cX10_pauses : ByteArray := prog_1_method_28_code
def yX10_pauses : MethodName := ⟨RX10, "pauses", "(III)I"⟩
abbrev cX10_pace : ByteArray := prog_1_method_29_code
def yX10_pace : MethodName := ⟨RX10, "pace", "(IIII)I"⟩
abbrev cX10_soonest : ByteArray := prog_1_method_30_code
def yX10_soonest : MethodName := ⟨RX10, "soonest", "(III)I"⟩
abbrev cX10_image : ByteArray := prog_1_method_31_code
def yX10_image : MethodName := ⟨RX10, "image", "()I"⟩
abbrev cX10_on : ByteArray := prog_1_method_32_code
def yX10_on : MethodName := ⟨RX10, "on", "()I"⟩
abbrev cX10_count : ByteArray := prog_1_method_33_code
def yX10_count : MethodName := ⟨RX10, "count", "(I)I"⟩
abbrev cX10_refusalsOf : ByteArray := prog_1_method_34_code
def yX10_refusalsOf : MethodName := ⟨RX10, "refusalsOf", "(I)I"⟩
abbrev cX10_refuse : ByteArray := prog_1_method_35_code
def yX10_refuse : MethodName := ⟨RX10, "refuse", "(I)I"⟩
abbrev cX10_noBoard : ByteArray := prog_1_method_36_code
def yX10_noBoard : MethodName := ⟨RX10, "noBoard", "(I)Z"⟩
abbrev cX10_noHand : ByteArray := prog_1_method_37_code
def yX10_noHand : MethodName := ⟨RX10, "noHand", "(I)Z"⟩
abbrev cX10_noKey : ByteArray := prog_1_method_38_code
def yX10_noKey : MethodName := ⟨RX10, "noKey", "(I)Z"⟩
abbrev cX10_timeOfMeant : ByteArray := prog_1_method_39_code
def yX10_timeOfMeant : MethodName := ⟨RX10, "timeOfMeant", "(IIZ)I"⟩
abbrev cX10_bestExchange : ByteArray := prog_1_method_40_code
def yX10_bestExchange : MethodName := ⟨RX10, "bestExchange", "(II)I"⟩
abbrev cX10_handNearest : ByteArray := prog_1_method_41_code
def yX10_handNearest : MethodName := ⟨RX10, "handNearest", "()I"⟩
abbrev cX10_allAtPace : ByteArray := prog_1_method_42_code
def yX10_allAtPace : MethodName := ⟨RX10, "allAtPace", "(III)I"⟩
def RX11 : String := "TenFingersModel"
def TX11 : u_T := fun k => match k with
  | 0 => ("TenFingersModel", "refusals", "[I", true)
  | 1 => ("TenFingersModel", "s", "[I", true)
  | 2 => ("TenFingersModel", "image", "[I", true)
  | 3 => ("TenFingersModel", "isImage", "Z", false)
  | 4 => ("TenFingersModel", "tape", "[I", true)
  | _ => ("TenFingersModel", "taped", "I", false)
def tyX11 : Nat → FieldType := fun k => match k with
  | 0 => .array .int
  | 1 => .array .int
  | 2 => .array .int
  | 3 => .boolean
  | 4 => .array .int
  | _ => .int
theorem nmX11 : ∀ a, a < 6 → ∀ b, b < 6 → a ≠ b → (TX11 a).2.1 ≠ (TX11 b).2.1 := by decide +kernel
theorem tyX11_ok : ∀ k, k < 6 → parseFieldDescriptor (TX11 k).2.2.1 = some (tyX11 k) := by decide +kernel
abbrev cX11_init : ByteArray := prog_13_method_1_code
def yX11_init : MethodName := ⟨RX11, "<init>", "()V"⟩
abbrev cX11_refuse : ByteArray := prog_13_method_2_code
def yX11_refuse : MethodName := ⟨RX11, "refuse", "(I)I"⟩
abbrev cX11_isIn : ByteArray := prog_13_method_3_code
def yX11_isIn : MethodName := ⟨RX11, "isIn", "(II)Z"⟩
abbrev cX11_within : ByteArray := prog_13_method_4_code
def yX11_within : MethodName := ⟨RX11, "within", "(III)I"⟩
abbrev cX11_amount : ByteArray := prog_13_method_5_code
def yX11_amount : MethodName := ⟨RX11, "amount", "(I)I"⟩
abbrev cX11_isHand : ByteArray := prog_13_method_6_code
def yX11_isHand : MethodName := ⟨RX11, "isHand", "(I)Z"⟩
abbrev cX11_isBoard : ByteArray := prog_13_method_7_code
def yX11_isBoard : MethodName := ⟨RX11, "isBoard", "(I)Z"⟩
abbrev cX11_isKey : ByteArray := prog_13_method_8_code
def yX11_isKey : MethodName := ⟨RX11, "isKey", "(I)Z"⟩
abbrev cX11_feed : ByteArray := prog_13_method_9_code
def yX11_feed : MethodName := ⟨RX11, "feed", "(IJ)I"⟩
abbrev cX11_isLetter : ByteArray := prog_13_method_10_code
def yX11_isLetter : MethodName := ⟨RX11, "isLetter", "(I)Z"⟩
abbrev cX11_boardFault : ByteArray := prog_13_method_11_code
def yX11_boardFault : MethodName := ⟨RX11, "boardFault", "()I"⟩
abbrev cX11_board : ByteArray := prog_13_method_12_code
def yX11_board : MethodName := ⟨RX11, "board", "(I)I"⟩
abbrev cX11_lettersFault : ByteArray := prog_13_method_13_code
def yX11_lettersFault : MethodName := ⟨RX11, "lettersFault", "(Z)I"⟩
abbrev cX11_text : ByteArray := prog_13_method_14_code
def yX11_text : MethodName := ⟨RX11, "text", "(Z)I"⟩
abbrev cX11_word : ByteArray := prog_13_method_15_code
def yX11_word : MethodName := ⟨RX11, "word", "()I"⟩
abbrev cX11_keyAt : ByteArray := prog_13_method_16_code
def yX11_keyAt : MethodName := ⟨RX11, "keyAt", "(II)I"⟩
abbrev cX11_keyOf : ByteArray := prog_13_method_17_code
def yX11_keyOf : MethodName := ⟨RX11, "keyOf", "(II)I"⟩
abbrev cX11_letterOn : ByteArray := prog_13_method_18_code
def yX11_letterOn : MethodName := ⟨RX11, "letterOn", "(II)I"⟩
abbrev cX11_finger : ByteArray := prog_13_method_19_code
def yX11_finger : MethodName := ⟨RX11, "finger", "(IZ)I"⟩
abbrev cX11_fingerOf : ByteArray := prog_13_method_20_code
def yX11_fingerOf : MethodName := ⟨RX11, "fingerOf", "(IZ)I"⟩
abbrev cX11_law : ByteArray := prog_13_method_21_code
def yX11_law : MethodName := ⟨RX11, "law", "(III)I"⟩
abbrev cX11_lawOf : ByteArray := prog_13_method_22_code
def yX11_lawOf : MethodName := ⟨RX11, "lawOf", "(IIZ)I"⟩
abbrev cX11_gapOf : ByteArray := prog_13_method_23_code
def yX11_gapOf : MethodName := ⟨RX11, "gapOf", "(IIIZ)I"⟩
abbrev cX11_gap : ByteArray := prog_13_method_24_code
def yX11_gap : MethodName := ⟨RX11, "gap", "(IIII)I"⟩
abbrev cX11_sign : ByteArray := prog_13_method_25_code
def yX11_sign : MethodName := ⟨RX11, "sign", "(ZI)I"⟩
abbrev cX11_practise : ByteArray := prog_13_method_26_code
def yX11_practise : MethodName := ⟨RX11, "practise", "(II)I"⟩
abbrev cX11_stands : ByteArray := prog_13_method_27_code
def yX11_stands : MethodName := ⟨RX11, "stands", "(II)Z"⟩
abbrev cX11_sizeOf : ByteArray := prog_13_method_28_code
def yX11_sizeOf : MethodName := ⟨RX11, "sizeOf", "(I)I"⟩
abbrev cX11_wordAt : ByteArray := prog_13_method_29_code
def yX11_wordAt : MethodName := ⟨RX11, "wordAt", "(I)I"⟩
abbrev cX11_piece : ByteArray := prog_13_method_30_code
def yX11_piece : MethodName := ⟨RX11, "piece", "(II)I"⟩
abbrev cX11_pieces : ByteArray := prog_13_method_31_code
def yX11_pieces : MethodName := ⟨RX11, "pieces", "()I"⟩
abbrev cX11_gapAt : ByteArray := prog_13_method_32_code
def yX11_gapAt : MethodName := ⟨RX11, "gapAt", "(IIIZ)I"⟩
abbrev cX11_timeOf : ByteArray := prog_13_method_33_code
def yX11_timeOf : MethodName := ⟨RX11, "timeOf", "(IIZ)I"⟩
abbrev cX11_time : ByteArray := prog_13_method_34_code
def yX11_time : MethodName := ⟨RX11, "time", "(IIZ)I"⟩
abbrev cX11_slipAt : ByteArray := prog_13_method_35_code
def yX11_slipAt : MethodName := ⟨RX11, "slipAt", "()I"⟩
abbrev cX11_swapAt : ByteArray := prog_13_method_36_code
def yX11_swapAt : MethodName := ⟨RX11, "swapAt", "()I"⟩
abbrev cX11_doubleAt : ByteArray := prog_13_method_37_code
def yX11_doubleAt : MethodName := ⟨RX11, "doubleAt", "()I"⟩
abbrev cX11_byKeys : ByteArray := prog_13_method_38_code
def yX11_byKeys : MethodName := ⟨RX11, "byKeys", "(IZ)I"⟩
abbrev cX11_earlyAt : ByteArray := prog_13_method_39_code
def yX11_earlyAt : MethodName := ⟨RX11, "earlyAt", "()I"⟩
abbrev cX11_lostAt : ByteArray := prog_13_method_40_code
def yX11_lostAt : MethodName := ⟨RX11, "lostAt", "()I"⟩
abbrev cX11_caughtAt : ByteArray := prog_13_method_41_code
def yX11_caughtAt : MethodName := ⟨RX11, "caughtAt", "()I"⟩
abbrev cX11_whereOf : ByteArray := prog_13_method_42_code
def yX11_whereOf : MethodName := ⟨RX11, "whereOf", "(II)I"⟩
abbrev cX11_may : ByteArray := prog_13_method_43_code
def yX11_may : MethodName := ⟨RX11, "may", "(I)I"⟩
abbrev cX11_where : ByteArray := prog_13_method_44_code
def yX11_where : MethodName := ⟨RX11, "where", "(II)I"⟩
abbrev cX11_changes : ByteArray := prog_13_method_45_code
def yX11_changes : MethodName := ⟨RX11, "changes", "(III)V"⟩
abbrev cX11_exchange : ByteArray := prog_13_method_46_code
def yX11_exchange : MethodName := ⟨RX11, "exchange", "(III)I"⟩
abbrev cX11_betterOf : ByteArray := prog_13_method_47_code
def yX11_betterOf : MethodName := ⟨RX11, "betterOf", "(II)I"⟩
abbrev cX11_better : ByteArray := prog_13_method_48_code
def yX11_better : MethodName := ⟨RX11, "better", "(II)I"⟩
abbrev cX11_climb : ByteArray := prog_13_method_49_code
def yX11_climb : MethodName := ⟨RX11, "climb", "(III)I"⟩
abbrev cX11_summer : ByteArray := prog_13_method_50_code
def yX11_summer : MethodName := ⟨RX11, "summer", "(III)I"⟩
abbrev cX11_put : ByteArray := prog_13_method_51_code
def yX11_put : MethodName := ⟨RX11, "put", "(I)I"⟩
abbrev cX11_unput : ByteArray := prog_13_method_52_code
def yX11_unput : MethodName := ⟨RX11, "unput", "()I"⟩
abbrev cX11_farOf : ByteArray := prog_13_method_53_code
def yX11_farOf : MethodName := ⟨RX11, "farOf", "(II)I"⟩
abbrev cX11_far : ByteArray := prog_13_method_54_code
def yX11_far : MethodName := ⟨RX11, "far", "(II)I"⟩
abbrev cX11_nearest : ByteArray := prog_13_method_55_code
def yX11_nearest : MethodName := ⟨RX11, "nearest", "(I)I"⟩
abbrev cX11_span : ByteArray := prog_13_method_56_code
def yX11_span : MethodName := ⟨RX11, "span", "(IIZ)I"⟩
abbrev cX11_acheAt : ByteArray := prog_13_method_57_code
def yX11_acheAt : MethodName := ⟨RX11, "acheAt", "(II)I"⟩
abbrev cX11_ache : ByteArray := prog_13_method_58_code
def yX11_ache : MethodName := ⟨RX11, "ache", "(II)I"⟩
abbrev cX11_pauses : ByteArray := prog_13_method_59_code
def yX11_pauses : MethodName := ⟨RX11, "pauses", "(III)I"⟩
abbrev cX11_paceOf : ByteArray := prog_13_method_60_code
def yX11_paceOf : MethodName := ⟨RX11, "paceOf", "(IIII)I"⟩
abbrev cX11_pace : ByteArray := prog_13_method_61_code
def yX11_pace : MethodName := ⟨RX11, "pace", "(IIII)I"⟩
abbrev cX11_soonest : ByteArray := prog_13_method_62_code
def yX11_soonest : MethodName := ⟨RX11, "soonest", "(III)I"⟩
abbrev cX11_image : ByteArray := prog_13_method_63_code
def yX11_image : MethodName := ⟨RX11, "image", "()I"⟩
abbrev cX11_on : ByteArray := prog_13_method_64_code
def yX11_on : MethodName := ⟨RX11, "on", "()I"⟩
abbrev cX11_count : ByteArray := prog_13_method_65_code
def yX11_count : MethodName := ⟨RX11, "count", "(I)I"⟩
def RL : String := "TenFingersLaw"
abbrev cL_law : ByteArray := code
abbrev vwCl : List vw_C := [(RX0, TX0, 2), (RX1, TX1, 1), (RX3, TX3, 4), (RX5, TX5, 2), (RX7, TX7, 6), (RX8, TX8, 2), (RX9, TX9, 3), (RX10, TX10, 7), (RX11, TX11, 6)]
-- the words of the tables that stay
def tf_TB : List Cond := lw_tbl.filter goodWord
theorem tf_tbl {args : Array Value} {s : State} (h : ∀ w ∈ lw_tbl, w.before args s = true) : ∀ w ∈ tf_TB, w.before args s = true := fun w hw => h w (List.mem_filter.mp hw).1
theorem tf_gin {ws : List Cond} (h : ∀ w ∈ ws, w ∈ tf_TB) : GoodIn tf_TB ws := fun w hw => ⟨h w hw, good_of_word (List.mem_filter.mp (h w hw)).2⟩
set_option maxRecDepth 100000 in
theorem tf_in0 : ∀ w ∈ u_ws RX0 TX0 2, w ∈ tf_TB := by decide +kernel
set_option maxRecDepth 100000 in
theorem tf_in1 : ∀ w ∈ u_ws RX1 TX1 1, w ∈ tf_TB := by decide +kernel
set_option maxRecDepth 100000 in
theorem tf_in3 : ∀ w ∈ u_ws RX3 TX3 4, w ∈ tf_TB := by decide +kernel
set_option maxRecDepth 100000 in
theorem tf_in5 : ∀ w ∈ u_ws RX5 TX5 2, w ∈ tf_TB := by decide +kernel
set_option maxRecDepth 100000 in
theorem tf_in7 : ∀ w ∈ u_ws RX7 TX7 6, w ∈ tf_TB := by decide +kernel
set_option maxRecDepth 100000 in
theorem tf_in8 : ∀ w ∈ u_ws RX8 TX8 2, w ∈ tf_TB := by decide +kernel
set_option maxRecDepth 100000 in
theorem tf_in9 : ∀ w ∈ u_ws RX9 TX9 3, w ∈ tf_TB := by decide +kernel
set_option maxRecDepth 100000 in
theorem tf_in10 : ∀ w ∈ u_ws RX10 TX10 7, w ∈ tf_TB := by decide +kernel
set_option maxRecDepth 100000 in
theorem tf_in11 : ∀ w ∈ u_ws RX11 TX11 6, w ∈ tf_TB := by decide +kernel
end
section
/-! A LAYER OVER THE KIT: an abstract heap (shapes G: by number of an object its tag, its length, its references; numbers S: by object and place an int), a run of straight code that is computed, contracts that speak of the abstract heap alone. Object 0 is none, 1 and 2 the static arrays, 3 the script, from 4 on what is made. -/
abbrev tf_G : Type := List (Nat × Nat × List Nat)
abbrev tf_Sg : Type := Nat → Nat → Int32
abbrev tf_D : Type := va_G × (Nat → ClassId)
def tf_e (G : tf_G) (o : Nat) : Nat × Nat × List Nat := G.getD o (99, 0, [])
def tf_tg (G : tf_G) (o : Nat) : Nat := (tf_e G o).1
def tf_ln (G : tf_G) (o : Nat) : Nat := (tf_e G o).2.1
def tf_rf (G : tf_G) (o k : Nat) : Nat := (tf_e G o).2.2.getD k 0
def tf_set (S : tf_Sg) (o k : Nat) (v : Int32) : tf_Sg := fun a j => if a = o ∧ j = k then v else S a j
def tf_rv (ad : Nat → Nat) (x : Nat) : Value := if x = 0 then .null else .ref (ad x)
def tf_tv (ad : Nat → Nat) : Value → Value
  | .ref x => .ref (ad x)
  | v => v
/-- the classes by number: name, fields, how many -/
def tf_cl (ci : Nat) : vw_C := vwCl.getD ci (RX0, TX0, 2)
def tf_ty : Nat → Nat → FieldType
  | 0 => tyX0
  | 1 => tyX1
  | 2 => tyX3
  | 3 => tyX5
  | 4 => tyX7
  | 5 => tyX8
  | 6 => tyX9
  | 7 => tyX10
  | _ => tyX11
/-- which fields hold references -/
def tf_isr : Nat → Nat → Bool
  | 3, k => k == 0
  | 6, k => Nat.blt k 2
  | 7, k => Nat.blt k 6
  | 8, k => Nat.blt k 3 || k == 4
  | _, _ => true
theorem tf_isr_ok : ∀ ci, ci < 9 → ∀ k, k < (tf_cl ci).2.2 → tf_isr ci k = (tf_ty ci k).isReference := by decide +kernel
theorem tf_hin (ci : Nat) (h : ci < 9) : ∀ w ∈ u_ws (tf_cl ci).1 (tf_cl ci).2.1 (tf_cl ci).2.2, w ∈ tf_TB := by
  match ci, h with
  | 0, _ => exact tf_in0
  | 1, _ => exact tf_in1
  | 2, _ => exact tf_in3
  | 3, _ => exact tf_in5
  | 4, _ => exact tf_in7
  | 5, _ => exact tf_in8
  | 6, _ => exact tf_in9
  | 7, _ => exact tf_in10
  | 8, _ => exact tf_in11
theorem tf_hcl (ci : Nat) (h : ci < 9) : vwCl[ci]? = some ((tf_cl ci).1, (tf_cl ci).2.1, (tf_cl ci).2.2) := by
  match ci, h with
  | 0, _ | 1, _ | 2, _ | 3, _ | 4, _ | 5, _ | 6, _ | 7, _ | 8, _ => rfl
theorem tf_hty (ci : Nat) (h : ci < 9) : ∀ k, k < (tf_cl ci).2.2 → parseFieldDescriptor ((tf_cl ci).2.1 k).2.2.1 = some (tf_ty ci k) := by
  match ci, h with
  | 0, _ => exact tyX0_ok
  | 1, _ => exact tyX1_ok
  | 2, _ => exact tyX3_ok
  | 3, _ => exact tyX5_ok
  | 4, _ => exact tyX7_ok
  | 5, _ => exact tyX8_ok
  | 6, _ => exact tyX9_ok
  | 7, _ => exact tyX10_ok
  | 8, _ => exact tyX11_ok
theorem tf_hnm (ci : Nat) (h : ci < 9) : ∀ a, a < (tf_cl ci).2.2 → ∀ b, b < (tf_cl ci).2.2 → a ≠ b → ((tf_cl ci).2.1 a).2.1 ≠ ((tf_cl ci).2.1 b).2.1 := by
  match ci, h with
  | 0, _ => exact nmX0
  | 1, _ => exact nmX1
  | 2, _ => exact nmX3
  | 3, _ => exact nmX5
  | 4, _ => exact nmX7
  | 5, _ => exact nmX8
  | 6, _ => exact nmX9
  | 7, _ => exact nmX10
  | 8, _ => exact nmX11
/-- the fields of an object, the cell of any -/
def tf_fs (ad : Nat → Nat) (S : tf_Sg) (o : Nat) (e : Nat × Nat × List Nat) : List Value := (List.range (tf_cl e.1).2.2).map fun k => if tf_isr e.1 k = true then tf_rv ad (e.2.2.getD k 0) else .int (S o k)
def tf_ra (ad : Nat → Nat) (e : Nat × Nat × List Nat) : Nat → Option Nat := fun j => if e.2.2.getD j 0 = 0 then none else some (ad (e.2.2.getD j 0))
def tf_cell (D : tf_D) (ad : Nat → Nat) (S : tf_Sg) (o : Nat) (e : Nat × Nat × List Nat) : va_E :=
  if e.1 < 9 then .inr (e.1, tf_fs ad S o e)
  else if e.1 < 11 then .inl (D.2 e.1, e.2.1, .inl (S o))
  else .inl (D.2 e.1, e.2.1, .inr (.inr (.inr (.inr (tf_ra ad e)))))
def tf_tys (D : tf_D) : List (ClassId × FieldType) := [(D.2 9, .int), (D.2 10, .boolean), (D.2 11, .object RX0), (D.2 12, .object RX1), (D.2 13, .object RX5)]
def tf_ws (D : tf_D) (ad : Nat → Nat) (G : tf_G) (S : tf_Sg) : va_W := (List.range (G.length - 4)).map fun j => (ad (j + 4), tf_cell D ad S (j + 4) (tf_e G (j + 4)))
/-- what is only read: the static arrays, the script; the links to a nest mate's private method; the classes of arrays of objects -/
def tf_nest : List (String × Nat) := [(RX0, 21), (RX2, 9), (RX1, 18), (RX8, 43), (RX6, 62)]
def tf_Ro (ad : Nat → Nat) (G : tf_G) (S : tf_Sg) (A : Nat → Prop) (U : State) (H : Heap) : Prop :=
  va_Z "TenFingers$Keys" "FINGER_OF_COLUMN" "[I" (.ref (ad 1)) A U H ∧ va_Z "TenFingers$Hand" "FIRST_LAWS" "[I" (.ref (ad 2)) A U H ∧
  (∀ i, tf_tg G i = 14 → va_T .int (ad i) (tf_ln G i) (fun j => .int (S i j)) A U H) ∧ (∀ q ∈ tf_nest, va_Nw (.methodLinkNest q.1 q.2 yX10_noKey "TenFingers") U) ∧ (∀ C ∈ [RX0, RX1, RX5], va_AO C U)
/-- every reference kept in a shape is a number of an object that is there, or 0 -/
def tf_wf (G : tf_G) : Prop := ∀ o k, tf_rf G o k < G.length
/-- what is only read is as at the start -/
def tf_ro (G0 : tf_G) (S0 : tf_Sg) (G : tf_G) (S : tf_Sg) : Prop := (∀ i, tf_tg G i = 14 → tf_tg G0 i = 14 ∧ tf_ln G i = tf_ln G0 i ∧ S i = S0 i) ∧ (∀ i, i < 4 → 14 ≤ tf_tg G i) ∧ G0.length ≤ G.length ∧ 4 ≤ G0.length ∧ tf_wf G
/-- a world at a state: a contract's start -/
def tf_Wd (D : tf_D) (ad : Nat → Nat) (G : tf_G) (S : tf_Sg) (A : Nat → Prop) (U : State) : Prop :=
  va_P D.1 vwCl (tf_ws D ad G S) U.heap ∧ va_K D.1 vwCl (tf_tys D) U ∧ va_D A (tf_ws D ad G S) ∧ tf_Ro ad G S A U U.heap ∧ tf_ro G S G S
abbrev tf_M : Type := MethodName × ByteArray × Nat × Option FieldType
def tf_w (M : tf_M) : List Cond := .code M.1 M.2.1 M.2.2.1 M.2.2.2 :: tf_TB
def tf_rm (d mc ms : Nat) : Room := { frames := d, cells := mc, slots := ms, locals := 32 * d }
/-- the contract: from (G, S) with these arguments the method answers r and leaves (G', S') -/
def tf_Fn (M : tf_M) (d mc ms : Nat) (G : tf_G) (S : tf_Sg) (av : List Value) (G' : tf_G) (S' : tf_Sg) (r : Option Value) : Prop :=
  ∀ (l : Launch) (D : tf_D) (ad : Nat → Nat) (sz : Nat), Met l M.1 (tf_w M) (tf_rm d mc ms)
    (va_Pc (av.map (tf_tv ad)) (fun U => U.heap.size = sz ∧ tf_Wd D ad G S (va_A (tf_ws D ad G S) sz) U))
    (fun _ st o t => (∃ ad' : Nat → Nat, (∀ i, i < G.length ∨ G'.length ≤ i → ad' i = ad i) ∧ o = .returned (r.map (tf_tv ad')) ∧ va_P D.1 vwCl (tf_ws D ad' G' S') t.heap ∧ va_D (va_A (tf_ws D ad G S) sz) (tf_ws D ad' G' S') ∧ tf_ro G S G' S') ∧ va_F (va_A (tf_ws D ad G S) sz) st t)
    mc ms (va_A (tf_ws D ad G S) sz)
abbrev tf_X : Type := Program × Launch × Env × Room × State × MethodId × Array Value × List Frame × Method × Code × (Nat → Prop) × (State → Prop) × tf_D × (Nat → Nat) × tf_G × tf_Sg
def tf_W : tf_X → Heap → List Loc → Nat → Nat → Nat → Array Slot → List Value → Prop
  | (p, l, e, R, s, m, args, below, meth, c, _, Q, _, _, _, _), H, locs, kc, ks, pc, ls, st => W p l e R s m args below meth c H locs kc ks Q (F0 m pc ls st)
/-- the world inside a method -/
def tf_In : tf_X → (Nat → Nat) → tf_G → tf_Sg → Heap → List Loc → Prop
  | (_, _, _, _, s, _, _, _, _, _, A, _, D, ad0, G0, S0), ad, G, S, H, locs =>
    (∀ i, i < G0.length ∨ G.length ≤ i → ad i = ad0 i) ∧ va_P D.1 vwCl (tf_ws D ad G S) H ∧ va_K D.1 vwCl (tf_tys D) s ∧ va_D A (tf_ws D ad G S) ∧ va_S A s.heap H locs ∧ tf_Ro ad0 G0 S0 A s s.heap ∧ tf_ro G0 S0 G S
def tf_hl (lsC : Array Slot) (nL : Nat) (ad : Nat → Nat) (ls : List (Option Value)) : Prop := ls.length = nL ∧ lsC.size = nL ∧ lv_wf lsC ∧ ∀ (i : Nat) (v : Value), ls[i]? = some (some v) → lsC[i]? = some (.val (tf_tv ad v))
def tf_K (x : tf_X) (kc ks : Nat) (G : tf_G) (S : tf_Sg) (pc : Nat) (ls : List (Option Value)) (st : List Value) : Prop :=
  ∀ (ad : Nat → Nat) (H : Heap) (locs : List Loc) (lsC : Array Slot), tf_In x ad G S H locs → tf_hl lsC ls.length ad ls → tf_W x H locs kc ks pc lsC (st.map (tf_tv ad))
/-- what stays through a method: the machine, its code, the tables, the room -/
def tf_C : tf_X → ByteArray → String → Nat → Nat → Nat → Nat → Bool → Prop
  | (p, _, _, R, s, m, args, _, meth, c, A, _, _, _, _, _), cc, own, nL, d, mc, ms, ini =>
    p.tables.exec = Jvm.exec ∧ c.code = cc ∧ c.maxLocals = nL ∧ s.vm.findClass own = some m.cls ∧ (∀ w ∈ tf_TB, w.before args s = true) ∧ d ≤ R.frames ∧ 32 * d ≤ R.locals ∧ mc ≤ R.cells ∧ ms ≤ R.slots ∧ (∀ q, s.heap.size ≤ q → A q) ∧ (ini = true → meth.name = "<init>")
/-! tables of a method's code, links of a class -/
abbrev tf_T : Type := List (Nat × Instr × Nat × Nat × Int32)
def tf_at (pc : Nat) : tf_T → Option (Instr × Nat × Nat × Int32)
  | [] => none
  | q :: r => bif Nat.beq q.1 pc then some q.2 else tf_at pc r
def tf_len : Instr → Nat
  | .iload _ | .aload _ | .istore _ | .astore _ | .bipush _ | .lload _ | .newarray _ => 2
  | .sipush _ | .iinc _ _ | .goto _ | .ifCond _ _ | .if_icmp _ _ | .getfield _ | .putfield _ | .getstatic _ | .invokevirtual _ | .invokestatic _ | .invokespecial _ | .new _ | .anewarray _ | .ldc2_w _ => 3
  | .tableswitch _ _ _ _ => 0
  | _ => 1
def tf_ok2 (cc : ByteArray) (q : Nat × Instr × Nat × Nat × Int32) : Bool :=
  decide (decode cc q.1 = .ok (q.2.1, q.2.2.1 - q.1)) && (Nat.beq (tf_len q.2.1) 0 || Nat.beq q.2.2.1 (q.1 + tf_len q.2.1)) && (match q.2.1 with
    | .iconst n => decide (Int32.ofInt n = q.2.2.2.2)
    | .bipush n => decide ((Int8.ofInt n).toInt32 = q.2.2.2.2)
    | .sipush n => decide ((Int16.ofInt n).toInt32 = q.2.2.2.2)
    | .iinc _ n => decide (Int32.ofInt n = q.2.2.2.2)
    | .goto off => decide ((q.1 : Int) + off = (q.2.2.2.1 : Int))
    | .ifCond _ off => decide ((q.1 : Int) + off = (q.2.2.2.1 : Int))
    | .if_icmp _ off => decide ((q.1 : Int) + off = (q.2.2.2.1 : Int))
    | _ => true)
def tf_okT (cc : ByteArray) (T : tf_T) : Prop := T.all (tf_ok2 cc) = true
theorem tf_at_in {pc : Nat} : ∀ {T : tf_T} {r : Instr × Nat × Nat × Int32}, tf_at pc T = some r → (pc, r) ∈ T
  | [], _, h => by simp [tf_at] at h
  | q :: t, r, h => by
    simp only [tf_at] at h
    cases hq : Nat.beq q.1 pc with
    | true =>
      rw [hq] at h
      simp only [cond_true, Option.some.injEq] at h
      have := Nat.eq_of_beq_eq_true hq
      subst this
      subst h
      exact List.mem_cons_self
    | false =>
      rw [hq] at h
      simp only [cond_false] at h
      exact List.mem_cons_of_mem _ (tf_at_in h)
theorem tf_dec {cc : ByteArray} {T : tf_T} (hT : tf_okT cc T) {pc : Nat} {i : Instr} {nx tg : Nat} {v : Int32} (h : tf_at pc T = some (i, nx, tg, v)) : tf_ok2 cc (pc, i, nx, tg, v) = true := List.all_eq_true.mp hT _ (tf_at_in h)
theorem tf_dc {cc : ByteArray} {pc : Nat} {i : Instr} {nx tg : Nat} {v : Int32} (h : tf_ok2 cc (pc, i, nx, tg, v) = true) (n : Nat) (hn : tf_len i = n + 1) : decode cc pc = .ok (i, n + 1) ∧ nx = pc + (n + 1) := by
  simp only [tf_ok2, Bool.and_eq_true, Bool.or_eq_true, decide_eq_true_eq] at h
  obtain ⟨⟨h1, h2⟩, -⟩ := h
  have h3 : nx = pc + (n + 1) := by
    rcases h2 with h2 | h2
    · have := Nat.eq_of_beq_eq_true h2
      rw [hn] at this
      cases this
    · have := Nat.eq_of_beq_eq_true h2
      rw [hn] at this
      exact this
  subst h3
  rw [Nat.add_sub_cancel_left] at h1
  exact ⟨h1, rfl⟩
abbrev tf_F : Type := List (Nat × Nat × Nat)
def tf_fl (idx : Nat) : tf_F → Option (Nat × Nat)
  | [] => none
  | q :: r => bif Nat.beq q.1 idx then some q.2 else tf_fl idx r
def tf_mth : Nat → MethodName × ByteArray × Nat
  | 0 => (Lib.Math.min.name, Lib.Math.min.code, 2)
  | 1 => (Lib.Math.max.name, Lib.Math.max.code, 2)
  | _ => (Lib.Math.abs.name, Lib.Math.abs.code, 1)
def tf_ok1 (own : String) (q : Nat × Nat × Nat) : Bool :=
  bif Nat.blt q.2.1 9 then decide (Cond.fieldLink own q.1 (tf_cl q.2.1).1 ((tf_cl q.2.1).2.1 q.2.2).2.1 ((tf_cl q.2.1).2.1 q.2.2).2.2.1 ∈ tf_TB) && Nat.blt q.2.2 (tf_cl q.2.1).2.2 && decide (((tf_cl q.2.1).2.1 q.2.2).1 = (tf_cl q.2.1).1)
  else bif Nat.beq q.2.1 100 then (if q.2.2 = 1 then decide (Cond.fieldLink own q.1 "TenFingers$Keys" "FINGER_OF_COLUMN" "[I" ∈ tf_TB) else if q.2.2 = 2 then decide (Cond.fieldLink own q.1 "TenFingers$Hand" "FIRST_LAWS" "[I" ∈ tf_TB) else false)
  else bif Nat.beq q.2.1 101 then decide (Cond.methodLink own q.1 (tf_mth q.2.2).1 ∈ tf_TB ∧ Cond.static (tf_mth q.2.2).1 ∈ tf_TB ∧ Cond.initialized "java/lang/Math" ∈ tf_TB ∧ Cond.code (tf_mth q.2.2).1 (tf_mth q.2.2).2.1 (tf_mth q.2.2).2.2 (some .int) ∈ tf_TB)
  else bif Nat.beq q.2.1 102 then decide (Cond.methodLink own q.1 objectInit ∈ tf_TB ∧ Cond.instanceMethod objectInit ∈ tf_TB ∧ Cond.code objectInit ⟨#[0xb1]⟩ 1 none ∈ tf_TB)
  else bif Nat.beq q.2.1 103 then decide (Cond.constantLong own q.1 (Int64.ofNat q.2.2) ∈ tf_TB)
  else false
def tf_okF (own : String) (F : tf_F) : Prop := F.all (tf_ok1 own) = true
theorem tf_fl_in {idx : Nat} : ∀ {F : tf_F} {r : Nat × Nat}, tf_fl idx F = some r → (idx, r) ∈ F
  | [], _, h => by simp [tf_fl] at h
  | q :: t, r, h => by
    simp only [tf_fl] at h
    cases hq : Nat.beq q.1 idx with
    | true =>
      rw [hq] at h
      simp only [cond_true, Option.some.injEq] at h
      have := Nat.eq_of_beq_eq_true hq
      subst this
      subst h
      exact List.mem_cons_self
    | false =>
      rw [hq] at h
      simp only [cond_false] at h
      exact List.mem_cons_of_mem _ (tf_fl_in h)
theorem tf_flk {own : String} {F : tf_F} (hF : tf_okF own F) {idx ci k : Nat} (h : tf_fl idx F = some (ci, k)) : tf_ok1 own (idx, ci, k) = true := List.all_eq_true.mp hF _ (tf_fl_in h)
end
section
/-- the locals: read and written -/
def tf_isz : Nat → Nat → Bool
  | 7, 6 => true
  | 8, 3 => true
  | _, _ => false
theorem tf_isz_ok : ∀ ci, ci < 9 → ∀ k, k < (tf_cl ci).2.2 → tf_isr ci k = false → ((tf_cl ci).2.1 k).2.2.2 = false ∧ tf_ty ci k = (if tf_isz ci k = true then FieldType.boolean else .int) := by decide +kernel
def tf_room (st : List Value) : Bool := Nat.ble ((st.map fun v => v.category).sum) 8
/-- one instruction that goes on to the next one: locals, stack, numbers, what must hold -/
def tf_op (G : tf_G) (F : tf_F) (ls : List (Option Value)) (S : tf_Sg) (v : Int32) : Instr → List Value → Option (List (Option Value) × List Value × tf_Sg × Option Prop)
  | .iconst _, st => some (ls, .int v :: st, S, none)
  | .bipush _, st => some (ls, .int v :: st, S, none)
  | .sipush _, st => some (ls, .int v :: st, S, none)
  | .iload n, st => match ls.getD n none with
    | some (.int x) => some (ls, .int x :: st, S, none)
    | _ => none
  | .iload_n n, st => match ls.getD n.val none with
    | some (.int x) => some (ls, .int x :: st, S, none)
    | _ => none
  | .aload n, st => match ls.getD n none with
    | some (.ref x) => some (ls, .ref x :: st, S, none)
    | _ => none
  | .aload_n n, st => match ls.getD n.val none with
    | some (.ref x) => some (ls, .ref x :: st, S, none)
    | _ => none
  | .lload_n n, st => match ls.getD n.val none with
    | some (.long x) => some (ls, .long x :: st, S, none)
    | _ => none
  | .istore n, .int x :: st => match Nat.blt n ls.length, (match n with | 0 => none | k + 1 => ls.getD k none) with
    | true, some (.long _) => none
    | true, some (.double _) => none
    | true, _ => some (ls.set n (some (.int x)), st, S, none)
    | _, _ => none
  | .istore_n n, .int x :: st => match Nat.blt n.val ls.length, (match n.val with | 0 => none | k + 1 => ls.getD k none) with
    | true, some (.long _) => none
    | true, some (.double _) => none
    | true, _ => some (ls.set n.val (some (.int x)), st, S, none)
    | _, _ => none
  | .astore_n n, .ref x :: st => match Nat.blt n.val ls.length, (match n.val with | 0 => none | k + 1 => ls.getD k none) with
    | true, some (.long _) => none
    | true, some (.double _) => none
    | true, _ => some (ls.set n.val (some (.ref x)), st, S, none)
    | _, _ => none
  | .iinc n _, st => match Nat.blt n ls.length, ls.getD n none, (match n with | 0 => none | k + 1 => ls.getD k none) with
    | true, some (.int _), some (.long _) => none
    | true, some (.int _), some (.double _) => none
    | true, some (.int x), _ => some (ls.set n (some (.int (x + v))), st, S, none)
    | _, _, _ => none
  | .iadd, .int y :: .int x :: st => some (ls, .int (x + y) :: st, S, none)
  | .isub, .int y :: .int x :: st => some (ls, .int (x - y) :: st, S, none)
  | .imul, .int y :: .int x :: st => some (ls, .int (x * y) :: st, S, none)
  | .iand, .int y :: .int x :: st => some (ls, .int (x &&& y) :: st, S, none)
  | .ior, .int y :: .int x :: st => some (ls, .int (x ||| y) :: st, S, none)
  | .ishl, .int y :: .int x :: st => some (ls, .int (x <<< (y &&& 31)) :: st, S, none)
  | .ishr, .int y :: .int x :: st => some (ls, .int (x >>> (y &&& 31)) :: st, S, none)
  | .idiv, .int y :: .int x :: st => some (ls, .int (x / y) :: st, S, some (¬ y = 0))
  | .irem, .int y :: .int x :: st => some (ls, .int (x - x / y * y) :: st, S, some (¬ y = 0))
  | .ineg, .int x :: st => some (ls, .int (-x) :: st, S, none)
  | .i2l, .int x :: st => some (ls, .long x.toInt64 :: st, S, none)
  | .l2i, .long x :: st => some (ls, .int x.toInt32 :: st, S, none)
  | .land, .long y :: .long x :: st => some (ls, .long (x &&& y) :: st, S, none)
  | .lor, .long y :: .long x :: st => some (ls, .long (x ||| y) :: st, S, none)
  | .lshl, .int y :: .long x :: st => some (ls, .long (x <<< (y.toInt64 &&& 63)) :: st, S, none)
  | .lshr, .int y :: .long x :: st => some (ls, .long (x >>> (y.toInt64 &&& 63)) :: st, S, none)
  | .lushr, .int y :: .long x :: st => some (ls, .long ((x.toUInt64 >>> (y.toInt64.toUInt64 &&& Int64.toUInt64 63)).toInt64) :: st, S, none)
  | .dup, .int x :: st => some (ls, .int x :: .int x :: st, S, none)
  | .dup, .ref x :: st => some (ls, .ref x :: .ref x :: st, S, none)
  | .dup2, .int x :: .ref y :: st => some (ls, .int x :: .ref y :: .int x :: .ref y :: st, S, none)
  | .pop, .int _ :: st => some (ls, st, S, none)
  | .getfield idx, .ref o :: st => match tf_fl idx F with
    | some (ci, k) => match Nat.blt ci 9, tf_isr ci k with
      | true, true => some (ls, .ref (tf_rf G o k) :: st, S, some (tf_tg G o = ci ∧ tf_rf G o k ≠ 0))
      | true, false => some (ls, .int (S o k) :: st, S, some (tf_tg G o = ci))
      | _, _ => none
    | none => none
  | .putfield idx, .int x :: .ref o :: st => match tf_fl idx F with
    | some (ci, k) => match Nat.blt ci 9, tf_isr ci k, tf_isz ci k with
      | true, false, false => some (ls, st, tf_set S o k x, some (tf_tg G o = ci))
      | true, false, true => some (ls, st, tf_set S o k x, some (tf_tg G o = ci ∧ (x = 0 ∨ x = 1)))
      | _, _, _ => none
    | none => none
  | .iaload, .int i :: .ref a :: st => some (ls, .int (S a i.toNatClampNeg) :: st, S, some ((tf_tg G a = 9 ∨ tf_tg G a = 14) ∧ vp_in i (tf_ln G a)))
  | .baload, .int i :: .ref a :: st => some (ls, .int (S a i.toNatClampNeg) :: st, S, some (tf_tg G a = 10 ∧ vp_in i (tf_ln G a)))
  | .aaload, .int i :: .ref a :: st => some (ls, .ref (tf_rf G a i.toNatClampNeg) :: st, S, some ((tf_tg G a = 11 ∨ tf_tg G a = 12 ∨ tf_tg G a = 13) ∧ vp_in i (tf_ln G a) ∧ tf_rf G a i.toNatClampNeg ≠ 0))
  | .iastore, .int x :: .int i :: .ref a :: st => some (ls, st, tf_set S a i.toNatClampNeg x, some (tf_tg G a = 9 ∧ vp_in i (tf_ln G a)))
  | .bastore, .int x :: .int i :: .ref a :: st => some (ls, st, tf_set S a i.toNatClampNeg x, some (tf_tg G a = 10 ∧ vp_in i (tf_ln G a) ∧ (x = 0 ∨ x = 1)))
  | .arraylength, .ref a :: st => some (ls, .int (nI (tf_ln G a)) :: st, S, some (tf_tg G a = 9 ∨ tf_tg G a = 14))
  | .getstatic idx, st => match tf_fl idx F with
    | some (100, 1) => some (ls, .ref 1 :: st, S, none)
    | some (100, 2) => some (ls, .ref 2 :: st, S, none)
    | _ => none
  | .invokestatic idx, .int y :: .int x :: st => match tf_fl idx F, tf_room st with
    | some (101, 0), true => some (ls, .int (if y < x then y else x) :: st, S, none)
    | some (101, 1), true => some (ls, .int (if x < y then y else x) :: st, S, none)
    | some (101, 2), true => bif tf_room (.int x :: st) then some (ls, .int (if 0 ≤ y then y else 0 - y) :: .int x :: st, S, none) else none
    | _, _ => none
  | .invokestatic idx, .int y :: st => match tf_fl idx F, tf_room st with
    | some (101, 2), true => some (ls, .int (if 0 ≤ y then y else 0 - y) :: st, S, none)
    | _, _ => none
  | .invokespecial idx, .ref _ :: st => match tf_fl idx F, tf_room st with
    | some (102, _), true => some (ls, st, S, none)
    | _, _ => none
  | .ldc2_w idx, st => match tf_fl idx F with
    | some (103, n) => some (ls, .long (Int64.ofNat n) :: st, S, none)
    | _ => none
  | _, _ => none
/-- a branch: its condition, the stack behind it -/
def tf_br : Instr → List Value → Option (Prop × List Value)
  | .ifCond .eq _, .int x :: st => some (x = 0, st)
  | .ifCond .ne _, .int x :: st => some (x ≠ 0, st)
  | .ifCond .lt _, .int x :: st => some (x < 0, st)
  | .ifCond .ge _, .int x :: st => some (0 ≤ x, st)
  | .ifCond .gt _, .int x :: st => some (0 < x, st)
  | .ifCond .le _, .int x :: st => some (x ≤ 0, st)
  | .if_icmp .eq _, .int y :: .int x :: st => some (x = y, st)
  | .if_icmp .ne _, .int y :: .int x :: st => some (x ≠ y, st)
  | .if_icmp .lt _, .int y :: .int x :: st => some (x < y, st)
  | .if_icmp .ge _, .int y :: .int x :: st => some (y ≤ x, st)
  | .if_icmp .gt _, .int y :: .int x :: st => some (y < x, st)
  | .if_icmp .le _, .int y :: .int x :: st => some (x ≤ y, st)
  | _, _ => none
def tf_and (C : Prop) : Option Prop → Prop
  | none => C
  | some c => C ∧ c
/-- n instructions, the branches taken as told -/
def tf_run (G : tf_G) (F : tf_F) (T : tf_T) : Nat → List Bool → Nat → List (Option Value) → List Value → tf_Sg → Prop → Option (Nat × List (Option Value) × List Value × tf_Sg × Prop)
  | 0, _, pc, ls, st, S, C => some (pc, ls, st, S, C)
  | n + 1, bs, pc, ls, st, S, C => match tf_at pc T with
    | none => none
    | some (i, nx, tg, v) => match i with
      | .goto _ => tf_run G F T n bs tg ls st S C
      | i => match tf_br i st with
        | some (c, st') => match bs with
          | [] => none
          | true :: bs => tf_run G F T n bs tg ls st' S (C ∧ c)
          | false :: bs => tf_run G F T n bs nx ls st' S (C ∧ ¬ c)
        | none => match tf_op G F ls S v i st with
          | none => none
          | some (ls', st', S', c) => tf_run G F T n bs nx ls' st' S' (tf_and C c)
end
section
theorem tf_getD {α : Type} {l : List (Option α)} {n : Nat} {v : α} (h : l.getD n none = some v) : l[n]? = some (some v) := by
  rw [List.getD_eq_getElem?_getD] at h
  cases h2 : l[n]? with
  | none => rw [h2] at h; cases h
  | some w => rw [h2] at h; simp only [Option.getD_some] at h; rw [h]
def tf_lv (ad : Nat → Nat) (ls : List (Option Value)) : List (Nat × Value) := (List.range ls.length).filterMap fun i => (ls.getD i none).map fun v => (i, tf_tv ad v)
theorem tf_lv_in {ad : Nat → Nat} {ls : List (Option Value)} {i : Nat} {w : Value} : (i, w) ∈ tf_lv ad ls ↔ ∃ v, ls[i]? = some (some v) ∧ w = tf_tv ad v := by
  unfold tf_lv
  rw [List.mem_filterMap]
  constructor
  · rintro ⟨j, hj, h⟩
    cases hv : ls.getD j none with
    | none => rw [hv] at h; cases h
    | some v =>
      rw [hv] at h
      simp only [Option.map_some, Option.some.injEq, Prod.mk.injEq] at h
      obtain ⟨rfl, rfl⟩ := h
      exact ⟨v, tf_getD hv, rfl⟩
  · rintro ⟨v, hv, rfl⟩
    refine ⟨i, List.mem_range.mpr (List.getElem?_eq_some_iff.mp hv).1, ?_⟩
    rw [List.getD_eq_getElem?_getD, hv]
    rfl
theorem tf_hl_has {lsC : Array Slot} {nL : Nat} {ad : Nat → Nat} {ls : List (Option Value)} (h : tf_hl lsC nL ad ls) : lv_has lsC nL (tf_lv ad ls) := by
  refine ⟨h.2.1, h.2.2.1, fun q hq => ?_⟩
  obtain ⟨i, w⟩ := q
  obtain ⟨v, hv, rfl⟩ := tf_lv_in.mp hq
  exact h.2.2.2 i v hv
theorem tf_cat (ad : Nat → Nat) (v : Value) : (tf_tv ad v).category = v.category := by cases v <;> rfl
/-- a stored local, as the kit lists it -/
theorem tf_hl_set {lsC : Array Slot} {nL : Nat} {ad : Nat → Nat} {ls : List (Option Value)} {n : Nat} {v : Value} (hl : ls.length = nL) (hn : n < ls.length) (hp : ∀ k w, n = k + 1 → ls[k]? = some (some w) → w.category ≠ 2)
    (h : lv_has lsC nL ((n, tf_tv ad v) :: (tf_lv ad ls).filter (fun q => !(q.1 == n) && !(q.1 + 1 == n && q.2.category == 2)))) : tf_hl lsC (ls.set n (some v)).length ad (ls.set n (some v)) := by
  refine ⟨rfl, by rw [List.length_set, hl]; exact h.1, h.2.1, fun i w hw => ?_⟩
  by_cases hi : i = n
  · subst hi
    rw [List.getElem?_set_self hn] at hw
    cases hw
    exact h.2.2 _ List.mem_cons_self
  · rw [List.getElem?_set_ne (Ne.symm hi)] at hw
    refine h.2.2 (i, tf_tv ad w) (List.mem_cons_of_mem _ (List.mem_filter.mpr ⟨tf_lv_in.mpr ⟨w, hw, rfl⟩, ?_⟩))
    simp only [Bool.and_eq_true, Bool.not_eq_true', beq_eq_false_iff_ne, ne_eq, Bool.and_eq_false_iff]
    refine ⟨hi, ?_⟩
    by_cases hj : i + 1 = n
    · exact Or.inr (by rw [tf_cat]; exact hp i w hj.symm hw)
    · exact Or.inl hj
theorem tf_prev {ls : List (Option Value)} {n k : Nat} {w : Value} {r : Option Value} (hr : (match n with | 0 => none | k + 1 => ls.getD k none) = r) (hl : ∀ x, r ≠ some (.long x)) (hd : ∀ x, r ≠ some (.double x)) (hk : n = k + 1) (hw : ls[k]? = some (some w)) : w.category ≠ 2 := by
  subst hk
  have h2 : ls.getD k none = some w := by rw [List.getD_eq_getElem?_getD, hw]; rfl
  simp only [h2] at hr
  subst hr
  intro hc
  cases w with
  | long x => exact hl x rfl
  | double x => exact hd x rfl
  | _ => simp [Value.category] at hc
/-- the world's list: its places, a cell that changes, one that comes -/
theorem tf_tg_lt {G : tf_G} {o : Nat} (h : tf_tg G o ≠ 99) : o < G.length := by
  apply Nat.not_le.mp
  intro hle
  apply h
  simp [tf_tg, tf_e, List.getD_eq_getElem?_getD, List.getElem?_eq_none hle]
theorem tf_ws_at {D : tf_D} {ad : Nat → Nat} {G : tf_G} {S : tf_Sg} {o : Nat} (h4 : 4 ≤ o) (hlt : o < G.length) : (tf_ws D ad G S)[o - 4]? = some (ad o, tf_cell D ad S o (tf_e G o)) := by
  unfold tf_ws
  rw [List.getElem?_map, List.getElem?_range (by omega)]
  simp [Nat.sub_add_cancel h4]
theorem tf_cell_S {D : tf_D} {ad : Nat → Nat} {S S' : tf_Sg} {o : Nat} {e : Nat × Nat × List Nat} (h : S' o = S o) : tf_cell D ad S' o e = tf_cell D ad S o e := by
  unfold tf_cell tf_fs
  rw [h]
theorem tf_ws_set {D : tf_D} {ad : Nat → Nat} {G : tf_G} {S S' : tf_Sg} {o : Nat} (h4 : 4 ≤ o) (hlt : o < G.length) (hS : ∀ a, a ≠ o → S' a = S a) : (tf_ws D ad G S).set (o - 4) (ad o, tf_cell D ad S' o (tf_e G o)) = tf_ws D ad G S' := by
  apply List.ext_getElem?
  intro k
  by_cases hk : k = o - 4
  · subst hk
    rw [List.getElem?_set_self (by unfold tf_ws; rw [List.length_map, List.length_range]; omega), tf_ws_at h4 hlt]
  · rw [List.getElem?_set_ne (Ne.symm hk)]
    unfold tf_ws
    rw [List.getElem?_map, List.getElem?_map]
    by_cases hr : k < G.length - 4
    · rw [List.getElem?_range hr]
      simp only [Option.map_some, Option.some.injEq, Prod.mk.injEq, true_and]
      exact (tf_cell_S (hS _ (by omega))).symm
    · rw [List.getElem?_eq_none (by simpa using hr)]
      rfl
theorem tf_4 {G0 : tf_G} {S0 : tf_Sg} {G : tf_G} {S : tf_Sg} (hr : tf_ro G0 S0 G S) {o : Nat} (h : tf_tg G o < 14) : 4 ≤ o ∧ o < G.length := by
  refine ⟨Nat.not_lt.mp fun q => ?_, tf_tg_lt (by omega)⟩
  have := hr.2.1 o q
  omega
theorem tf_ro_set {G0 : tf_G} {S0 : tf_Sg} {G : tf_G} {S S' : tf_Sg} {o : Nat} (hr : tf_ro G0 S0 G S) (h : tf_tg G o < 14) (hS : ∀ a, a ≠ o → S' a = S a) : tf_ro G0 S0 G S' := by
  refine ⟨fun i hi => ?_, hr.2⟩
  obtain ⟨h1, h2, h3⟩ := hr.1 i hi
  exact ⟨h1, h2, by rw [hS i (by intro e; subst e; omega)]; exact h3⟩
theorem tf_set_ne {S : tf_Sg} {o k : Nat} {v : Int32} : ∀ a, a ≠ o → tf_set S o k v a = S a := by
  intro a h
  funext j
  simp [tf_set, h]
theorem tf_set_self {S : tf_Sg} {o k : Nat} {v : Int32} : tf_set S o k v o = upd (S o) k v := by
  funext j
  simp [tf_set, upd]
theorem tf_cell_o {D : tf_D} {ad : Nat → Nat} {S : tf_Sg} {o : Nat} {e : Nat × Nat × List Nat} (h : e.1 < 9) : tf_cell D ad S o e = .inr (e.1, tf_fs ad S o e) := by
  unfold tf_cell
  rw [if_pos h]
theorem tf_cell_i {D : tf_D} {ad : Nat → Nat} {S : tf_Sg} {o : Nat} {e : Nat × Nat × List Nat} (h : e.1 = 9 ∨ e.1 = 10) : tf_cell D ad S o e = .inl (D.2 e.1, e.2.1, .inl (S o)) := by
  unfold tf_cell
  rw [if_neg (by omega), if_pos (by omega)]
theorem tf_cell_r {D : tf_D} {ad : Nat → Nat} {S : tf_Sg} {o : Nat} {e : Nat × Nat × List Nat} (h : 11 ≤ e.1) : tf_cell D ad S o e = .inl (D.2 e.1, e.2.1, .inr (.inr (.inr (.inr (tf_ra ad e))))) := by
  unfold tf_cell
  rw [if_neg (by omega), if_neg (by omega)]
theorem tf_fs_at {ad : Nat → Nat} {S : tf_Sg} {o : Nat} {e : Nat × Nat × List Nat} {k : Nat} (hk : k < (tf_cl e.1).2.2) : (tf_fs ad S o e)[k]? = some (if tf_isr e.1 k = true then tf_rv ad (e.2.2.getD k 0) else .int (S o k)) := by
  unfold tf_fs
  rw [List.getElem?_map, List.getElem?_range hk]
  rfl
theorem tf_fs_set {ad : Nat → Nat} {S : tf_Sg} {o : Nat} {e : Nat × Nat × List Nat} {k : Nat} {v : Int32} (hk : k < (tf_cl e.1).2.2) (hi : tf_isr e.1 k = false) : (tf_fs ad S o e).set k (.int v) = tf_fs ad (tf_set S o k v) o e := by
  apply List.ext_getElem?
  intro j
  by_cases hj : j = k
  · subst hj
    rw [List.getElem?_set_self (by unfold tf_fs; rw [List.length_map, List.length_range]; exact hk), tf_fs_at hk]
    simp [hi, tf_set]
  · rw [List.getElem?_set_ne (Ne.symm hj)]
    unfold tf_fs
    rw [List.getElem?_map, List.getElem?_map]
    by_cases hr : j < (tf_cl e.1).2.2
    · rw [List.getElem?_range hr]
      simp [tf_set, hj]
    · rw [List.getElem?_eq_none (by simpa using hr)]
      rfl
end
section
theorem tf_K_of {x : tf_X} {kc ks : Nat} {G : tf_G} {S : tf_Sg} {pc : Nat} {ls : List (Option Value)} {st : List Value} {ad : Nat → Nat} {H : Heap} {locs : List Loc} {lsC : Array Slot} (h : tf_K x kc ks G S pc ls st) (hI : tf_In x ad G S H locs) (hl : tf_hl lsC ls.length ad ls) : tf_W x H locs kc ks pc lsC (st.map (tf_tv ad)) := h ad H locs lsC hI hl
theorem tf_okF_f {own : String} {F : tf_F} (hF : tf_okF own F) {idx ci k : Nat} (h : tf_fl idx F = some (ci, k)) (hc : ci < 9) : Cond.fieldLink own idx (tf_cl ci).1 ((tf_cl ci).2.1 k).2.1 ((tf_cl ci).2.1 k).2.2.1 ∈ tf_TB ∧ k < (tf_cl ci).2.2 ∧ ((tf_cl ci).2.1 k).1 = (tf_cl ci).1 := by
  have h1 := tf_flk hF h
  unfold tf_ok1 at h1
  have hb : Nat.blt ci 9 = true := Nat.ble_eq_true_of_le hc
  simp only [hb, cond_true, Bool.and_eq_true, decide_eq_true_eq] at h1
  exact ⟨h1.1.1, Nat.le_of_ble_eq_true h1.1.2, h1.2⟩
theorem tf_okF_g1 {own : String} {F : tf_F} (hF : tf_okF own F) {idx : Nat} (h : tf_fl idx F = some (100, 1)) : Cond.fieldLink own idx "TenFingers$Keys" "FINGER_OF_COLUMN" "[I" ∈ tf_TB := by
  have h1 := tf_flk hF h
  simpa [tf_ok1] using h1
theorem tf_okF_g2 {own : String} {F : tf_F} (hF : tf_okF own F) {idx : Nat} (h : tf_fl idx F = some (100, 2)) : Cond.fieldLink own idx "TenFingers$Hand" "FIRST_LAWS" "[I" ∈ tf_TB := by
  have h1 := tf_flk hF h
  simpa [tf_ok1] using h1
set_option maxRecDepth 100000 in
theorem tf_okF_m {own : String} {F : tf_F} (hF : tf_okF own F) {idx k : Nat} (h : tf_fl idx F = some (101, k)) : Cond.methodLink own idx (tf_mth k).1 ∈ tf_TB ∧ Cond.static (tf_mth k).1 ∈ tf_TB ∧ Cond.initialized "java/lang/Math" ∈ tf_TB ∧ Cond.code (tf_mth k).1 (tf_mth k).2.1 (tf_mth k).2.2 (some .int) ∈ tf_TB := by
  have h1 := tf_flk hF h
  unfold tf_ok1 at h1
  exact of_decide_eq_true h1
set_option maxRecDepth 100000 in
theorem tf_okF_o {own : String} {F : tf_F} (hF : tf_okF own F) {idx k : Nat} (h : tf_fl idx F = some (102, k)) : Cond.methodLink own idx objectInit ∈ tf_TB ∧ Cond.instanceMethod objectInit ∈ tf_TB ∧ Cond.code objectInit ⟨#[0xb1]⟩ 1 none ∈ tf_TB := by
  have h1 := tf_flk hF h
  unfold tf_ok1 at h1
  exact of_decide_eq_true h1
set_option maxRecDepth 100000 in
theorem tf_okF_c {own : String} {F : tf_F} (hF : tf_okF own F) {idx k : Nat} (h : tf_fl idx F = some (103, k)) : Cond.constantLong own idx (Int64.ofNat k) ∈ tf_TB := by
  have h1 := tf_flk hF h
  unfold tf_ok1 at h1
  exact of_decide_eq_true h1
theorem tf_room_ok {ad : Nat → Nat} {st : List Value} (h : tf_room st = true) : ((st.map (tf_tv ad)).map fun v => v.category).sum ≤ 8 := by
  have h1 := Nat.le_of_ble_eq_true h
  rw [List.map_map]
  have : ((fun v : Value => v.category) ∘ tf_tv ad) = (fun v : Value => v.category) := by
    funext v
    exact tf_cat ad v
  rw [this]
  exact h1
theorem tf_nar01 {x : Int32} (h : x = 0 ∨ x = 1) : narrow .boolean (.int x) = .int x := by
  rcases h with rfl | rfl <;> rfl
set_option maxHeartbeats 4000000 in
theorem tf_op_ok {x : tf_X} {cc : ByteArray} {own : String} {nL d mc ms : Nat} {ini : Bool} (hx : tf_C x cc own nL d mc ms ini) (hd : 1 ≤ d) {F : tf_F} (hF : tf_okF own F) {G : tf_G} {S S' : tf_Sg} {ls ls' : List (Option Value)} {st st' : List Value} {c : Option Prop} {i : Instr} {v : Int32} {pc nx tg : Nat}
    (hi : tf_ok2 cc (pc, i, nx, tg, v) = true) (h : tf_op G F ls S v i st = some (ls', st', S', c)) (hc : tf_and True c) {kc ks : Nat} (hkc : kc ≤ mc) (hks : ks ≤ ms) (hnL : ls.length = nL) (kk : tf_K x kc ks G S' nx ls' st') : tf_K x kc ks G S pc ls st ∧ ls'.length = nL := by
  obtain ⟨p, l, e, R, s, m, args, below, meth, c0, A, Q, D, ad0, G0, S0⟩ := x
  obtain ⟨hxx, hb, hml, hown, hts, hfr, hlo, hmc, hms, hA, hini⟩ := hx
  unfold tf_op at h
  split at h
  · -- iconst
    simp only [Option.some.injEq, Prod.mk.injEq] at h
    obtain ⟨rfl, rfl, rfl, rfl⟩ := h
    refine ⟨fun ad H locs lsC hI hl => ?_, hnL⟩
    obtain ⟨hdg, rfl⟩ := tf_dc hi 0 rfl
    simp only [tf_ok2, Bool.and_eq_true, decide_eq_true_eq] at hi
    exact lv_iconst hxx hb hdg hi.2 (kk ad H locs lsC hI hl)
  · -- bipush
    simp only [Option.some.injEq, Prod.mk.injEq] at h
    obtain ⟨rfl, rfl, rfl, rfl⟩ := h
    refine ⟨fun ad H locs lsC hI hl => ?_, hnL⟩
    obtain ⟨hdg, rfl⟩ := tf_dc hi 1 rfl
    simp only [tf_ok2, Bool.and_eq_true, decide_eq_true_eq] at hi
    exact lv_bipush hxx hb hdg hi.2 (kk ad H locs lsC hI hl)
  · -- sipush
    simp only [Option.some.injEq, Prod.mk.injEq] at h
    obtain ⟨rfl, rfl, rfl, rfl⟩ := h
    refine ⟨fun ad H locs lsC hI hl => ?_, hnL⟩
    obtain ⟨hdg, rfl⟩ := tf_dc hi 2 rfl
    simp only [tf_ok2, Bool.and_eq_true, decide_eq_true_eq] at hi
    exact lv_sipush hxx hb hdg hi.2 (kk ad H locs lsC hI hl)
  · -- iload
    split at h
    · next n st x hg =>
      simp only [Option.some.injEq, Prod.mk.injEq] at h
      obtain ⟨rfl, rfl, rfl, rfl⟩ := h
      refine ⟨fun ad H locs lsC hI hl => ?_, hnL⟩
      obtain ⟨hdg, rfl⟩ := tf_dc hi 1 rfl
      exact lv_iload hxx hb hdg (hl.2.2.2 _ _ (tf_getD hg)) (kk ad H locs lsC hI hl)
    · cases h
  · -- iload_n
    split at h
    · next n st x hg =>
      simp only [Option.some.injEq, Prod.mk.injEq] at h
      obtain ⟨rfl, rfl, rfl, rfl⟩ := h
      refine ⟨fun ad H locs lsC hI hl => ?_, hnL⟩
      obtain ⟨hdg, rfl⟩ := tf_dc hi 0 rfl
      exact lv_iload_n hxx hb hdg rfl (hl.2.2.2 _ _ (tf_getD hg)) (kk ad H locs lsC hI hl)
    · cases h
  · -- aload
    split at h
    · next n st x hg =>
      simp only [Option.some.injEq, Prod.mk.injEq] at h
      obtain ⟨rfl, rfl, rfl, rfl⟩ := h
      refine ⟨fun ad H locs lsC hI hl => ?_, hnL⟩
      obtain ⟨hdg, rfl⟩ := tf_dc hi 1 rfl
      exact lv_aload hxx hb hdg (hl.2.2.2 _ _ (tf_getD hg)) (kk ad H locs lsC hI hl)
    · cases h
  · -- aload_n
    split at h
    · next n st x hg =>
      simp only [Option.some.injEq, Prod.mk.injEq] at h
      obtain ⟨rfl, rfl, rfl, rfl⟩ := h
      refine ⟨fun ad H locs lsC hI hl => ?_, hnL⟩
      obtain ⟨hdg, rfl⟩ := tf_dc hi 0 rfl
      exact lv_aload_n hxx hb hdg rfl (hl.2.2.2 _ _ (tf_getD hg)) (kk ad H locs lsC hI hl)
    · cases h
  · -- lload_n
    split at h
    · next n st x hg =>
      simp only [Option.some.injEq, Prod.mk.injEq] at h
      obtain ⟨rfl, rfl, rfl, rfl⟩ := h
      refine ⟨fun ad H locs lsC hI hl => ?_, hnL⟩
      obtain ⟨hdg, rfl⟩ := tf_dc hi 0 rfl
      exact lv_lload_n hxx hb hdg rfl (hl.2.2.2 _ _ (tf_getD hg)) (kk ad H locs lsC hI hl)
    · cases h
  · -- lv_istore
    next n x st =>
    obtain ⟨hdg, rfl⟩ := tf_dc hi 1 rfl
    split at h
    · cases h
    · cases h
    · next _ _ hlt hq1 hq2 =>
      simp only [Option.some.injEq, Prod.mk.injEq] at h
      obtain ⟨rfl, rfl, rfl, rfl⟩ := h
      have hn : n < ls.length := Nat.le_of_ble_eq_true hlt
      refine ⟨fun ad H locs lsC hI hl => ?_, by rw [List.length_set]; exact hnL⟩
      refine lv_istore hxx hb hdg (tf_hl_has hl) hn rfl (fun lsN hN => ?_)
      exact kk ad H locs lsN hI (tf_hl_set (v := .int x) rfl hn (fun k w e1 e2 => tf_prev rfl hq1 hq2 e1 e2) hN)
    · cases h
  · -- lv_istore_n
    next n x st =>
    obtain ⟨hdg, rfl⟩ := tf_dc hi 0 rfl
    split at h
    · cases h
    · cases h
    · next _ _ hlt hq1 hq2 =>
      simp only [Option.some.injEq, Prod.mk.injEq] at h
      obtain ⟨rfl, rfl, rfl, rfl⟩ := h
      have hn : n.val < ls.length := Nat.le_of_ble_eq_true hlt
      refine ⟨fun ad H locs lsC hI hl => ?_, by rw [List.length_set]; exact hnL⟩
      refine lv_istore_n hxx hb hdg rfl (tf_hl_has hl) hn rfl (fun lsN hN => ?_)
      exact kk ad H locs lsN hI (tf_hl_set (v := .int x) rfl hn (fun k w e1 e2 => tf_prev rfl hq1 hq2 e1 e2) hN)
    · cases h
  · -- lv_astore_n
    next n x st =>
    obtain ⟨hdg, rfl⟩ := tf_dc hi 0 rfl
    split at h
    · cases h
    · cases h
    · next _ _ hlt hq1 hq2 =>
      simp only [Option.some.injEq, Prod.mk.injEq] at h
      obtain ⟨rfl, rfl, rfl, rfl⟩ := h
      have hn : n.val < ls.length := Nat.le_of_ble_eq_true hlt
      refine ⟨fun ad H locs lsC hI hl => ?_, by rw [List.length_set]; exact hnL⟩
      refine lv_astore_n hxx hb hdg rfl (tf_hl_has hl) hn rfl (fun lsN hN => ?_)
      exact kk ad H locs lsN hI (tf_hl_set (v := .ref x) rfl hn (fun k w e1 e2 => tf_prev rfl hq1 hq2 e1 e2) hN)
    · cases h
  · -- iinc
    next st n n2 =>
    obtain ⟨hdg, rfl⟩ := tf_dc hi 2 rfl
    split at h
    · cases h
    · cases h
    · next _ _ _ x hlt hg hq1 hq2 =>
      simp only [Option.some.injEq, Prod.mk.injEq] at h
      obtain ⟨rfl, rfl, rfl, rfl⟩ := h
      have hn : n < ls.length := Nat.le_of_ble_eq_true hlt
      refine ⟨fun ad H locs lsC hI hl => ?_, by rw [List.length_set]; exact hnL⟩
      simp only [tf_ok2, Bool.and_eq_true, decide_eq_true_eq] at hi
      obtain ⟨k0, hk0⟩ := List.getElem?_of_mem (tf_lv_in.mpr ⟨_, tf_getD hg, rfl⟩ : (n, tf_tv ad (.int x)) ∈ tf_lv ad ls)
      refine lv_iinc (v := x + v) hxx hb hdg (tf_hl_has hl) (k := k0) hk0 (by rw [hi.2]) hn rfl (fun lsN hN => ?_)
      exact kk ad H locs lsN hI (tf_hl_set (v := .int (x + v)) rfl hn (fun k w e1 e2 => tf_prev rfl hq1 hq2 e1 e2) hN)
    · cases h
  · -- lv_iadd
    simp only [Option.some.injEq, Prod.mk.injEq] at h
    obtain ⟨rfl, rfl, rfl, rfl⟩ := h
    refine ⟨fun ad H locs lsC hI hl => ?_, hnL⟩
    obtain ⟨hdg, rfl⟩ := tf_dc hi 0 rfl
    exact lv_iadd hxx hb hdg (kk ad H locs lsC hI hl)
  · -- lv_isub
    simp only [Option.some.injEq, Prod.mk.injEq] at h
    obtain ⟨rfl, rfl, rfl, rfl⟩ := h
    refine ⟨fun ad H locs lsC hI hl => ?_, hnL⟩
    obtain ⟨hdg, rfl⟩ := tf_dc hi 0 rfl
    exact lv_isub hxx hb hdg (kk ad H locs lsC hI hl)
  · -- lv_imul
    simp only [Option.some.injEq, Prod.mk.injEq] at h
    obtain ⟨rfl, rfl, rfl, rfl⟩ := h
    refine ⟨fun ad H locs lsC hI hl => ?_, hnL⟩
    obtain ⟨hdg, rfl⟩ := tf_dc hi 0 rfl
    exact lv_imul hxx hb hdg (kk ad H locs lsC hI hl)
  · -- lv_iand
    simp only [Option.some.injEq, Prod.mk.injEq] at h
    obtain ⟨rfl, rfl, rfl, rfl⟩ := h
    refine ⟨fun ad H locs lsC hI hl => ?_, hnL⟩
    obtain ⟨hdg, rfl⟩ := tf_dc hi 0 rfl
    exact lv_iand hxx hb hdg (kk ad H locs lsC hI hl)
  · -- lv_ior
    simp only [Option.some.injEq, Prod.mk.injEq] at h
    obtain ⟨rfl, rfl, rfl, rfl⟩ := h
    refine ⟨fun ad H locs lsC hI hl => ?_, hnL⟩
    obtain ⟨hdg, rfl⟩ := tf_dc hi 0 rfl
    exact lv_ior hxx hb hdg (kk ad H locs lsC hI hl)
  · -- lv_ishl
    simp only [Option.some.injEq, Prod.mk.injEq] at h
    obtain ⟨rfl, rfl, rfl, rfl⟩ := h
    refine ⟨fun ad H locs lsC hI hl => ?_, hnL⟩
    obtain ⟨hdg, rfl⟩ := tf_dc hi 0 rfl
    exact lv_ishl hxx hb hdg (kk ad H locs lsC hI hl)
  · -- lv_ishr
    simp only [Option.some.injEq, Prod.mk.injEq] at h
    obtain ⟨rfl, rfl, rfl, rfl⟩ := h
    refine ⟨fun ad H locs lsC hI hl => ?_, hnL⟩
    obtain ⟨hdg, rfl⟩ := tf_dc hi 0 rfl
    exact lv_ishr hxx hb hdg (kk ad H locs lsC hI hl)
  · -- lv_idiv
    simp only [Option.some.injEq, Prod.mk.injEq] at h
    obtain ⟨rfl, rfl, rfl, rfl⟩ := h
    refine ⟨fun ad H locs lsC hI hl => ?_, hnL⟩
    obtain ⟨hdg, rfl⟩ := tf_dc hi 0 rfl
    exact lv_idiv hxx hb hdg hc.2 (kk ad H locs lsC hI hl)
  · -- lv_irem
    simp only [Option.some.injEq, Prod.mk.injEq] at h
    obtain ⟨rfl, rfl, rfl, rfl⟩ := h
    refine ⟨fun ad H locs lsC hI hl => ?_, hnL⟩
    obtain ⟨hdg, rfl⟩ := tf_dc hi 0 rfl
    exact lv_irem hxx hb hdg hc.2 (kk ad H locs lsC hI hl)
  · -- lv_ineg
    simp only [Option.some.injEq, Prod.mk.injEq] at h
    obtain ⟨rfl, rfl, rfl, rfl⟩ := h
    refine ⟨fun ad H locs lsC hI hl => ?_, hnL⟩
    obtain ⟨hdg, rfl⟩ := tf_dc hi 0 rfl
    exact lv_ineg hxx hb hdg (kk ad H locs lsC hI hl)
  · -- lv_i2l
    simp only [Option.some.injEq, Prod.mk.injEq] at h
    obtain ⟨rfl, rfl, rfl, rfl⟩ := h
    refine ⟨fun ad H locs lsC hI hl => ?_, hnL⟩
    obtain ⟨hdg, rfl⟩ := tf_dc hi 0 rfl
    exact lv_i2l hxx hb hdg rfl (kk ad H locs lsC hI hl)
  · -- lv_l2i
    simp only [Option.some.injEq, Prod.mk.injEq] at h
    obtain ⟨rfl, rfl, rfl, rfl⟩ := h
    refine ⟨fun ad H locs lsC hI hl => ?_, hnL⟩
    obtain ⟨hdg, rfl⟩ := tf_dc hi 0 rfl
    exact lv_l2i hxx hb hdg rfl (kk ad H locs lsC hI hl)
  · -- lv_land
    simp only [Option.some.injEq, Prod.mk.injEq] at h
    obtain ⟨rfl, rfl, rfl, rfl⟩ := h
    refine ⟨fun ad H locs lsC hI hl => ?_, hnL⟩
    obtain ⟨hdg, rfl⟩ := tf_dc hi 0 rfl
    exact lv_land hxx hb hdg (kk ad H locs lsC hI hl)
  · -- lv_lor
    simp only [Option.some.injEq, Prod.mk.injEq] at h
    obtain ⟨rfl, rfl, rfl, rfl⟩ := h
    refine ⟨fun ad H locs lsC hI hl => ?_, hnL⟩
    obtain ⟨hdg, rfl⟩ := tf_dc hi 0 rfl
    exact lv_lor hxx hb hdg (kk ad H locs lsC hI hl)
  · -- lv_lshl
    simp only [Option.some.injEq, Prod.mk.injEq] at h
    obtain ⟨rfl, rfl, rfl, rfl⟩ := h
    refine ⟨fun ad H locs lsC hI hl => ?_, hnL⟩
    obtain ⟨hdg, rfl⟩ := tf_dc hi 0 rfl
    exact lv_lshl hxx hb hdg rfl (kk ad H locs lsC hI hl)
  · -- lv_lshr
    simp only [Option.some.injEq, Prod.mk.injEq] at h
    obtain ⟨rfl, rfl, rfl, rfl⟩ := h
    refine ⟨fun ad H locs lsC hI hl => ?_, hnL⟩
    obtain ⟨hdg, rfl⟩ := tf_dc hi 0 rfl
    exact lv_lshr hxx hb hdg rfl (kk ad H locs lsC hI hl)
  · -- lv_lushr
    simp only [Option.some.injEq, Prod.mk.injEq] at h
    obtain ⟨rfl, rfl, rfl, rfl⟩ := h
    refine ⟨fun ad H locs lsC hI hl => ?_, hnL⟩
    obtain ⟨hdg, rfl⟩ := tf_dc hi 0 rfl
    exact lv_lushr hxx hb hdg rfl (kk ad H locs lsC hI hl)
  · -- lv_dup
    simp only [Option.some.injEq, Prod.mk.injEq] at h
    obtain ⟨rfl, rfl, rfl, rfl⟩ := h
    refine ⟨fun ad H locs lsC hI hl => ?_, hnL⟩
    obtain ⟨hdg, rfl⟩ := tf_dc hi 0 rfl
    exact lv_dup hxx hb hdg rfl (kk ad H locs lsC hI hl)
  · -- lv_dup
    simp only [Option.some.injEq, Prod.mk.injEq] at h
    obtain ⟨rfl, rfl, rfl, rfl⟩ := h
    refine ⟨fun ad H locs lsC hI hl => ?_, hnL⟩
    obtain ⟨hdg, rfl⟩ := tf_dc hi 0 rfl
    exact lv_dup hxx hb hdg rfl (kk ad H locs lsC hI hl)
  · -- lv_dup2_11
    simp only [Option.some.injEq, Prod.mk.injEq] at h
    obtain ⟨rfl, rfl, rfl, rfl⟩ := h
    refine ⟨fun ad H locs lsC hI hl => ?_, hnL⟩
    obtain ⟨hdg, rfl⟩ := tf_dc hi 0 rfl
    exact lv_dup2_11 hxx hb hdg rfl rfl (kk ad H locs lsC hI hl)
  · -- lv_pop
    simp only [Option.some.injEq, Prod.mk.injEq] at h
    obtain ⟨rfl, rfl, rfl, rfl⟩ := h
    refine ⟨fun ad H locs lsC hI hl => ?_, hnL⟩
    obtain ⟨hdg, rfl⟩ := tf_dc hi 0 rfl
    exact lv_pop hxx hb hdg rfl (kk ad H locs lsC hI hl)
  · -- getfield
    next idx o st =>
    obtain ⟨hdg, rfl⟩ := tf_dc hi 2 rfl
    split at h
    · next ci k hfl =>
      split at h
      · next hci hr =>
        simp only [Option.some.injEq, Prod.mk.injEq] at h
        obtain ⟨rfl, rfl, rfl, rfl⟩ := h
        obtain ⟨-, htg, hne⟩ := hc
        refine ⟨fun ad H locs lsC hI hl => ?_, hnL⟩
        have hc9 : ci < 9 := Nat.le_of_ble_eq_true hci
        obtain ⟨f1, f2, f3⟩ := tf_okF_f hF hfl hc9
        obtain ⟨g1, g2⟩ := tf_4 hI.2.2.2.2.2.2 (show tf_tg G o < 14 by omega)
        have hat := tf_ws_at (D := D) (ad := ad) (G := G) (S := S) g1 g2
        rw [tf_cell_o (show tf_tg G o < 9 by omega)] at hat
        have htg2 : (tf_e G o).1 = ci := htg
        rw [htg2] at hat
        have hv : (tf_fs ad S o (tf_e G o))[k]? = some (.ref (ad (tf_rf G o k))) := by
          rw [tf_fs_at (by rw [htg2]; exact f2), htg2, if_pos hr]
          show some (tf_rv ad (tf_rf G o k)) = _
          unfold tf_rv
          rw [if_neg hne]
        exact va_get (D := D.1) (ci := ci) hxx hb hts (tf_hin ci hc9) hown hI.2.2.1 hI.2.1 (o - 4) hat (tf_hcl ci hc9) k f2 (hts _ f1) (fun y hy => by rw [f3] at hy; exact hy) hv hdg (kk ad H locs lsC hI hl)
      · next hci hr =>
        simp only [Option.some.injEq, Prod.mk.injEq] at h
        obtain ⟨rfl, rfl, rfl, rfl⟩ := h
        obtain ⟨-, htg⟩ := hc
        refine ⟨fun ad H locs lsC hI hl => ?_, hnL⟩
        have hc9 : ci < 9 := Nat.le_of_ble_eq_true hci
        obtain ⟨f1, f2, f3⟩ := tf_okF_f hF hfl hc9
        obtain ⟨g1, g2⟩ := tf_4 hI.2.2.2.2.2.2 (show tf_tg G o < 14 by omega)
        have hat := tf_ws_at (D := D) (ad := ad) (G := G) (S := S) g1 g2
        rw [tf_cell_o (show tf_tg G o < 9 by omega)] at hat
        have htg2 : (tf_e G o).1 = ci := htg
        rw [htg2] at hat
        have hv : (tf_fs ad S o (tf_e G o))[k]? = some (.int (S o k)) := by
          rw [tf_fs_at (by rw [htg2]; exact f2), htg2, if_neg (by rw [hr]; decide)]
        exact va_get (D := D.1) (ci := ci) hxx hb hts (tf_hin ci hc9) hown hI.2.2.1 hI.2.1 (o - 4) hat (tf_hcl ci hc9) k f2 (hts _ f1) (fun y hy => by rw [f3] at hy; exact hy) hv hdg (kk ad H locs lsC hI hl)
      · cases h
    · cases h
  · -- putfield
    next idx y o st =>
    obtain ⟨hdg, rfl⟩ := tf_dc hi 2 rfl
    split at h
    · next ci k hfl =>
      have main : ∀ (hci : Nat.blt ci 9 = true) (hr : tf_isr ci k = false) (htg : tf_tg G o = ci) (hz : tf_isz ci k = true → y = 0 ∨ y = 1), tf_K (p, l, e, R, s, m, args, below, meth, c0, A, Q, D, ad0, G0, S0) kc ks G (tf_set S o k y) (pc + (2 + 1)) ls st → tf_K (p, l, e, R, s, m, args, below, meth, c0, A, Q, D, ad0, G0, S0) kc ks G S pc ls (.int y :: .ref o :: st) := by
        intro hci hr htg hz kk ad H locs lsC hI hl
        have hc9 : ci < 9 := Nat.le_of_ble_eq_true hci
        obtain ⟨f1, f2, f3⟩ := tf_okF_f hF hfl hc9
        obtain ⟨g1, g2⟩ := tf_4 hI.2.2.2.2.2.2 (show tf_tg G o < 14 by omega)
        have hat := tf_ws_at (D := D) (ad := ad) (G := G) (S := S) g1 g2
        have htg2 : (tf_e G o).1 = ci := htg
        have hcell := tf_cell_o (D := D) (ad := ad) (S := tf_set S o k y) (o := o) (e := tf_e G o) (show tf_tg G o < 9 by omega)
        rw [htg2] at hcell
        rw [tf_cell_o (show tf_tg G o < 9 by omega), htg2] at hat
        obtain ⟨z1, z2⟩ := tf_isz_ok ci hc9 k f2 hr
        have hn : narrow (tf_ty ci k) (.int y) = .int y := by
          rw [z2]
          split
          · next hb1 => exact tf_nar01 (hz hb1)
          · rfl
        have hfit : fits (tf_ty ci k) (.int y) = true := by
          rw [z2]
          split
          · next hb1 => rcases hz hb1 with rfl | rfl <;> rfl
          · rfl
        refine va_put (D := D.1) (ci := ci) (v := .int y) (ty := tf_ty ci k) hxx hb hts (tf_hin ci hc9) (tf_ty ci) (tf_hty ci hc9) (tf_hnm ci hc9) hown hI.2.2.1 hI.2.1 hI.2.2.2.1 hI.2.2.2.2.1 (o - 4) hat (tf_hcl ci hc9) k f2 (hts _ f1) (fun w hw => by rw [f3] at hw; exact hw) z1 (tf_hty ci hc9 k f2) hn hfit (by unfold tf_fs; rw [List.length_map, List.length_range, htg2]; exact f2) hdg (fun H1 locs1 hP hD hS => ?_)
        have hset : (tf_ws D ad G S).set (o - 4) (ad o, .inr (ci, (tf_fs ad S o (tf_e G o)).set k (.int y))) = tf_ws D ad G (tf_set S o k y) := by
          rw [tf_fs_set (by rw [htg2]; exact f2) (by rw [htg2]; exact hr), ← hcell]
          exact tf_ws_set g1 g2 tf_set_ne
        rw [hset] at hP hD
        exact kk ad H1 locs1 lsC ⟨hI.1, hP, hI.2.2.1, hD, hS, hI.2.2.2.2.2.1, tf_ro_set hI.2.2.2.2.2.2 (show tf_tg G o < 14 by omega) tf_set_ne⟩ hl
      split at h
      · next hci hr hz =>
        simp only [Option.some.injEq, Prod.mk.injEq] at h
        obtain ⟨rfl, rfl, rfl, rfl⟩ := h
        exact ⟨main hci hr hc.2 (fun q => by rw [hz] at q; cases q) kk, hnL⟩
      · next hci hr hz =>
        simp only [Option.some.injEq, Prod.mk.injEq] at h
        obtain ⟨rfl, rfl, rfl, rfl⟩ := h
        exact ⟨main hci hr hc.2.1 (fun _ => hc.2.2) kk, hnL⟩
      · cases h
    · cases h
  · -- iaload
    next i a st =>
    obtain ⟨hdg, rfl⟩ := tf_dc hi 0 rfl
    simp only [Option.some.injEq, Prod.mk.injEq] at h
    obtain ⟨rfl, rfl, rfl, rfl⟩ := h
    obtain ⟨-, htg, hin⟩ := hc
    refine ⟨fun ad H locs lsC hI hl => ?_, hnL⟩
    rcases htg with htg | htg
    · obtain ⟨g1, g2⟩ := tf_4 hI.2.2.2.2.2.2 (show tf_tg G a < 14 by omega)
      have hat := tf_ws_at (D := D) (ad := ad) (G := G) (S := S) g1 g2
      rw [tf_cell_i (Or.inl htg), show (tf_e G a).1 = 9 from htg] at hat
      exact va_iald (D := D.1) hxx hb hI.2.2.1 hI.2.1 (a - 4) 0 hat rfl hin hdg (kk ad H locs lsC hI hl)
    · obtain ⟨q1, q2, q3⟩ := hI.2.2.2.2.2.2.1 a htg
      have hT := hI.2.2.2.2.2.1.2.2.1 a q1
      rw [← hI.1 a (Or.inl (tf_tg_lt (by omega))), ← q2] at hT
      exact va_ti hxx hb hT hI.2.2.2.2.1 hin (v := .int (S a i.toNatClampNeg)) (by rw [q3]) hdg (kk ad H locs lsC hI hl)
  · -- baload
    next i a st =>
    obtain ⟨hdg, rfl⟩ := tf_dc hi 0 rfl
    simp only [Option.some.injEq, Prod.mk.injEq] at h
    obtain ⟨rfl, rfl, rfl, rfl⟩ := h
    obtain ⟨-, htg, hin⟩ := hc
    refine ⟨fun ad H locs lsC hI hl => ?_, hnL⟩
    obtain ⟨g1, g2⟩ := tf_4 hI.2.2.2.2.2.2 (show tf_tg G a < 14 by omega)
    have hat := tf_ws_at (D := D) (ad := ad) (G := G) (S := S) g1 g2
    rw [tf_cell_i (Or.inr htg), show (tf_e G a).1 = 10 from htg] at hat
    exact va_zald (D := D.1) hxx hb hI.2.2.1 hI.2.1 (a - 4) 1 hat rfl hin hdg (kk ad H locs lsC hI hl)
  · -- aaload
    next i a st =>
    obtain ⟨hdg, rfl⟩ := tf_dc hi 0 rfl
    simp only [Option.some.injEq, Prod.mk.injEq] at h
    obtain ⟨rfl, rfl, rfl, rfl⟩ := h
    obtain ⟨-, htg, hin, hne⟩ := hc
    refine ⟨fun ad H locs lsC hI hl => ?_, hnL⟩
    obtain ⟨g1, g2⟩ := tf_4 hI.2.2.2.2.2.2 (show tf_tg G a < 14 by omega)
    have hat := tf_ws_at (D := D) (ad := ad) (G := G) (S := S) g1 g2
    rw [tf_cell_r (show 11 ≤ tf_tg G a by omega)] at hat
    have hv : va_rf (tf_ra ad (tf_e G a) i.toNatClampNeg) = .ref (ad (tf_rf G a i.toNatClampNeg)) := by
      have hne2 : (tf_e G a).2.2.getD i.toNatClampNeg 0 ≠ 0 := hne
      unfold tf_ra
      rw [if_neg hne2]
      rfl
    have hk := kk ad H locs lsC hI hl
    rcases htg with htg | htg | htg
    · rw [show (tf_e G a).1 = 11 from htg] at hat
      exact va_aldq (D := D.1) (C := RX0) hxx hb hI.2.2.1 hI.2.1 (a - 4) 2 hat rfl hin hdg (by rw [hv]; exact hk)
    · rw [show (tf_e G a).1 = 12 from htg] at hat
      exact va_aldq (D := D.1) (C := RX1) hxx hb hI.2.2.1 hI.2.1 (a - 4) 3 hat rfl hin hdg (by rw [hv]; exact hk)
    · rw [show (tf_e G a).1 = 13 from htg] at hat
      exact va_aldq (D := D.1) (C := RX5) hxx hb hI.2.2.1 hI.2.1 (a - 4) 4 hat rfl hin hdg (by rw [hv]; exact hk)
  · -- iastore
    next y i a st =>
    obtain ⟨hdg, rfl⟩ := tf_dc hi 0 rfl
    simp only [Option.some.injEq, Prod.mk.injEq] at h
    obtain ⟨rfl, rfl, rfl, rfl⟩ := h
    obtain ⟨-, htg, hin⟩ := hc
    refine ⟨fun ad H locs lsC hI hl => ?_, hnL⟩
    obtain ⟨g1, g2⟩ := tf_4 hI.2.2.2.2.2.2 (show tf_tg G a < 14 by omega)
    have hat := tf_ws_at (D := D) (ad := ad) (G := G) (S := S) g1 g2
    rw [tf_cell_i (Or.inl htg), show (tf_e G a).1 = 9 from htg] at hat
    refine va_iast (D := D.1) hxx hb hI.2.2.1 hI.2.1 hI.2.2.2.1 hI.2.2.2.2.1 (a - 4) 0 hat rfl hin hdg (fun H1 locs1 hP hD hS => ?_)
    have hset : (tf_ws D ad G S).set (a - 4) (ad a, .inl (D.2 9, (tf_e G a).2.1, .inl (upd (S a) i.toNatClampNeg y))) = tf_ws D ad G (tf_set S a i.toNatClampNeg y) := by
      have hcell := tf_cell_i (D := D) (ad := ad) (S := tf_set S a i.toNatClampNeg y) (o := a) (e := tf_e G a) (Or.inl htg)
      rw [show (tf_e G a).1 = 9 from htg, tf_set_self] at hcell
      rw [← hcell]
      exact tf_ws_set g1 g2 tf_set_ne
    rw [hset] at hP hD
    exact kk ad H1 locs1 lsC ⟨hI.1, hP, hI.2.2.1, hD, hS, hI.2.2.2.2.2.1, tf_ro_set hI.2.2.2.2.2.2 (show tf_tg G a < 14 by omega) tf_set_ne⟩ hl
  · -- bastore
    next y i a st =>
    obtain ⟨hdg, rfl⟩ := tf_dc hi 0 rfl
    simp only [Option.some.injEq, Prod.mk.injEq] at h
    obtain ⟨rfl, rfl, rfl, rfl⟩ := h
    obtain ⟨-, htg, hin, hy⟩ := hc
    refine ⟨fun ad H locs lsC hI hl => ?_, hnL⟩
    obtain ⟨g1, g2⟩ := tf_4 hI.2.2.2.2.2.2 (show tf_tg G a < 14 by omega)
    have hat := tf_ws_at (D := D) (ad := ad) (G := G) (S := S) g1 g2
    rw [tf_cell_i (Or.inr htg), show (tf_e G a).1 = 10 from htg] at hat
    refine va_zast (D := D.1) hxx hb hI.2.2.1 hI.2.1 hI.2.2.2.1 hI.2.2.2.2.1 (a - 4) 1 hat rfl hin hdg (fun H1 locs1 hP hD hS => ?_)
    have hnar : vp_nar .boolean y = y := by rcases hy with rfl | rfl <;> rfl
    rw [hnar] at hP hD
    have hset : (tf_ws D ad G S).set (a - 4) (ad a, .inl (D.2 10, (tf_e G a).2.1, .inl (upd (S a) i.toNatClampNeg y))) = tf_ws D ad G (tf_set S a i.toNatClampNeg y) := by
      have hcell := tf_cell_i (D := D) (ad := ad) (S := tf_set S a i.toNatClampNeg y) (o := a) (e := tf_e G a) (Or.inr htg)
      rw [show (tf_e G a).1 = 10 from htg, tf_set_self] at hcell
      rw [← hcell]
      exact tf_ws_set g1 g2 tf_set_ne
    rw [hset] at hP hD
    exact kk ad H1 locs1 lsC ⟨hI.1, hP, hI.2.2.1, hD, hS, hI.2.2.2.2.2.1, tf_ro_set hI.2.2.2.2.2.2 (show tf_tg G a < 14 by omega) tf_set_ne⟩ hl
  · -- arraylength
    next a st =>
    obtain ⟨hdg, rfl⟩ := tf_dc hi 0 rfl
    simp only [Option.some.injEq, Prod.mk.injEq] at h
    obtain ⟨rfl, rfl, rfl, rfl⟩ := h
    obtain ⟨-, htg⟩ := hc
    refine ⟨fun ad H locs lsC hI hl => ?_, hnL⟩
    rcases htg with htg | htg
    · obtain ⟨g1, g2⟩ := tf_4 hI.2.2.2.2.2.2 (show tf_tg G a < 14 by omega)
      have hat := tf_ws_at (D := D) (ad := ad) (G := G) (S := S) g1 g2
      rw [tf_cell_i (Or.inl htg), show (tf_e G a).1 = 9 from htg] at hat
      exact va_alen (D := D.1) hxx hb hI.2.2.1 hI.2.1 (a - 4) 0 hat (ty := .int) rfl rfl hdg (kk ad H locs lsC hI hl)
    · obtain ⟨q1, q2, q3⟩ := hI.2.2.2.2.2.2.1 a htg
      have hT := hI.2.2.2.2.2.1.2.2.1 a q1
      rw [← hI.1 a (Or.inl (tf_tg_lt (by omega))), ← q2] at hT
      obtain ⟨cell, h1, h2, h3, h4, h5, h6, h7⟩ := hT
      exact W.alen (n := nI (tf_ln G a)) hxx hb (by rw [hI.2.2.2.2.1.2.1 (ad a) (Array.getElem?_eq_some_iff.mp h1).1 h7]; exact h1) h2 h5 rfl rfl hdg (kk ad H locs lsC hI hl)
  · -- getstatic
    next idx st =>
    obtain ⟨hdg, rfl⟩ := tf_dc hi 2 rfl
    split at h
    · next hfl =>
      simp only [Option.some.injEq, Prod.mk.injEq] at h
      obtain ⟨rfl, rfl, rfl, rfl⟩ := h
      refine ⟨fun ad H locs lsC hI hl => ?_, hnL⟩
      have h4 : 4 ≤ G0.length := hI.2.2.2.2.2.2.2.2.2.1
      have hZ := hI.2.2.2.2.2.1.1
      rw [← hI.1 1 (Or.inl (by omega))] at hZ
      exact va_gets hxx hb hZ hI.2.2.2.2.1 hown (hts _ (tf_okF_g1 hF hfl)) (fun _ h => h) hdg (kk ad H locs lsC hI hl)
    · next hfl =>
      simp only [Option.some.injEq, Prod.mk.injEq] at h
      obtain ⟨rfl, rfl, rfl, rfl⟩ := h
      refine ⟨fun ad H locs lsC hI hl => ?_, hnL⟩
      have h4 : 4 ≤ G0.length := hI.2.2.2.2.2.2.2.2.2.1
      have hZ := hI.2.2.2.2.2.1.2.1
      rw [← hI.1 2 (Or.inl (by omega))] at hZ
      exact va_gets hxx hb hZ hI.2.2.2.2.1 hown (hts _ (tf_okF_g2 hF hfl)) (fun _ h => h) hdg (kk ad H locs lsC hI hl)
    · cases h
  · -- Math, two
    next idx y x st =>
    obtain ⟨hdg, rfl⟩ := tf_dc hi 2 rfl
    split at h
    · next hfl hrm =>
      simp only [Option.some.injEq, Prod.mk.injEq] at h
      obtain ⟨rfl, rfl, rfl, rfl⟩ := h
      refine ⟨fun ad H locs lsC hI hl => ?_, hnL⟩
      obtain ⟨m1, m2, m3, m4⟩ := tf_okF_m hF hfl
      have := tf_room_ok (ad := ad) hrm
      exact va_mmin hxx hb (by rw [hml, hl.2.1, hnL]) hown (hts _ m1) (hts _ m2) (hts _ m3) (hts _ m4) (by omega) (by omega) (by omega) (by omega) hdg (kk ad H locs lsC hI hl)
    · next hfl hrm =>
      simp only [Option.some.injEq, Prod.mk.injEq] at h
      obtain ⟨rfl, rfl, rfl, rfl⟩ := h
      refine ⟨fun ad H locs lsC hI hl => ?_, hnL⟩
      obtain ⟨m1, m2, m3, m4⟩ := tf_okF_m hF hfl
      have := tf_room_ok (ad := ad) hrm
      exact va_mmax hxx hb (by rw [hml, hl.2.1, hnL]) hown (hts _ m1) (hts _ m2) (hts _ m3) (hts _ m4) (by omega) (by omega) (by omega) (by omega) hdg (kk ad H locs lsC hI hl)
    · next hfl hrm =>
      cases hr2 : tf_room (.int x :: st) with
      | false => rw [hr2] at h; simp only [cond_false] at h; cases h
      | true =>
        rw [hr2] at h
        simp only [cond_true, Option.some.injEq, Prod.mk.injEq] at h
        obtain ⟨rfl, rfl, rfl, rfl⟩ := h
        refine ⟨fun ad H locs lsC hI hl => ?_, hnL⟩
        obtain ⟨m1, m2, m3, m4⟩ := tf_okF_m hF hfl
        have := tf_room_ok (ad := ad) hr2
        exact va_mabs hxx hb (by rw [hml, hl.2.1, hnL]) hown (hts _ m1) (hts _ m2) (hts _ m3) (hts _ m4) (by omega) (by rw [List.map_cons] at this; exact Nat.le_trans (Nat.add_le_add_right this 13) (by omega)) (by omega) (by omega) hdg (kk ad H locs lsC hI hl)
    · cases h
  · -- Math, one
    next idx y st _ =>
    obtain ⟨hdg, rfl⟩ := tf_dc hi 2 rfl
    split at h
    · next hfl hrm =>
      simp only [Option.some.injEq, Prod.mk.injEq] at h
      obtain ⟨rfl, rfl, rfl, rfl⟩ := h
      refine ⟨fun ad H locs lsC hI hl => ?_, hnL⟩
      obtain ⟨m1, m2, m3, m4⟩ := tf_okF_m hF hfl
      have := tf_room_ok (ad := ad) hrm
      exact va_mabs hxx hb (by rw [hml, hl.2.1, hnL]) hown (hts _ m1) (hts _ m2) (hts _ m3) (hts _ m4) (by omega) (by omega) (by omega) (by omega) hdg (kk ad H locs lsC hI hl)
    · cases h
  · -- Object
    next idx o st =>
    obtain ⟨hdg, rfl⟩ := tf_dc hi 2 rfl
    split at h
    · next k hfl hrm =>
      simp only [Option.some.injEq, Prod.mk.injEq] at h
      obtain ⟨rfl, rfl, rfl, rfl⟩ := h
      refine ⟨fun ad H locs lsC hI hl => ?_, hnL⟩
      obtain ⟨m1, m2, m3⟩ := tf_okF_o hF hfl
      have := tf_room_ok (ad := ad) hrm
      exact W.objInit hxx hb hown (hts _ m1) (hts _ m2) (hts _ m3) rfl (by show lsC.size = _; rw [hml, hl.2.1, hnL]) rfl hdg (by omega) (by show 2 * 0 + _ + 12 ≤ _; omega) (kk ad H locs lsC hI hl)
    · cases h
  · -- ldc2_w
    next idx st =>
    obtain ⟨hdg, rfl⟩ := tf_dc hi 2 rfl
    split at h
    · next n hfl =>
      simp only [Option.some.injEq, Prod.mk.injEq] at h
      obtain ⟨rfl, rfl, rfl, rfl⟩ := h
      refine ⟨fun ad H locs lsC hI hl => ?_, hnL⟩
      exact lv_ldc2 hxx hb hown (hts _ (tf_okF_c hF hfl)) hdg (kk ad H locs lsC hI hl)
    · cases h
  · cases h
end
section
theorem tf_and_mono {C : Prop} {c : Option Prop} (h : tf_and C c) : C ∧ tf_and True c := by
  cases c with
  | none => exact ⟨h, trivial⟩
  | some c => exact ⟨h.1, trivial, h.2⟩
theorem tf_br_ok {x : tf_X} {cc : ByteArray} {own : String} {nL d mc ms : Nat} {ini : Bool} (hx : tf_C x cc own nL d mc ms ini) {G : tf_G} {S : tf_Sg} {ls : List (Option Value)} {st st' : List Value} {c : Prop} {i : Instr} {v : Int32} {pc nx tg : Nat}
    (hi : tf_ok2 cc (pc, i, nx, tg, v) = true) (h : tf_br i st = some (c, st')) {kc ks : Nat} (kt : c → tf_K x kc ks G S tg ls st') (kf : ¬ c → tf_K x kc ks G S nx ls st') : tf_K x kc ks G S pc ls st := by
  obtain ⟨p, l, e, R, s, m, args, below, meth, c0, A, Q, D, ad0, G0, S0⟩ := x
  obtain ⟨hxx, hb, -⟩ := hx
  intro ad H locs lsC hI hl
  unfold tf_br at h
  split at h
  all_goals try (cases h; done)
  all_goals
    simp only [Option.some.injEq, Prod.mk.injEq] at h
    obtain ⟨rfl, rfl⟩ := h
    obtain ⟨hdg, rfl⟩ := tf_dc hi 2 rfl
    simp only [tf_ok2, Bool.and_eq_true, decide_eq_true_eq] at hi
    obtain ⟨-, hi⟩ := hi
    have kt' := fun hc => kt hc ad H locs lsC hI hl
    have kf' := fun hc => kf hc ad H locs lsC hI hl
  · exact lv_if_eq hxx hb hdg hi kt' kf'
  · exact lv_if_ne hxx hb hdg hi kt' (fun hc => kf' (fun h => h hc))
  · exact lv_if_lt hxx hb hdg hi kt' kf'
  · exact lv_if_ge hxx hb hdg hi kt' kf'
  · exact lv_if_gt hxx hb hdg hi kt' kf'
  · exact lv_if_le hxx hb hdg hi kt' kf'
  · exact lv_icmp_eq hxx hb hdg hi kt' kf'
  · exact lv_icmp_ne hxx hb hdg hi kt' (fun hc => kf' (fun h => h hc))
  · exact lv_icmp_lt hxx hb hdg hi kt' kf'
  · exact lv_icmp_ge hxx hb hdg hi kt' kf'
  · exact lv_icmp_gt hxx hb hdg hi kt' kf'
  · exact lv_icmp_le hxx hb hdg hi kt' kf'
theorem tf_goto_ok {x : tf_X} {cc : ByteArray} {own : String} {nL d mc ms : Nat} {ini : Bool} (hx : tf_C x cc own nL d mc ms ini) {G : tf_G} {S : tf_Sg} {ls : List (Option Value)} {st : List Value} {off : Int} {v : Int32} {pc nx tg : Nat}
    (hi : tf_ok2 cc (pc, .goto off, nx, tg, v) = true) {kc ks : Nat} (kk : tf_K x kc ks G S tg ls st) : tf_K x kc ks G S pc ls st := by
  obtain ⟨p, l, e, R, s, m, args, below, meth, c0, A, Q, D, ad0, G0, S0⟩ := x
  obtain ⟨hxx, hb, -⟩ := hx
  intro ad H locs lsC hI hl
  obtain ⟨hdg, rfl⟩ := tf_dc hi 2 rfl
  simp only [tf_ok2, Bool.and_eq_true, decide_eq_true_eq] at hi
  exact lv_goto hxx hb hdg hi.2 (kk ad H locs lsC hI hl)
theorem tf_op_len {F : tf_F} {G : tf_G} {S S' : tf_Sg} {ls ls' : List (Option Value)} {st st' : List Value} {c : Option Prop} {i : Instr} {v : Int32} (h : tf_op G F ls S v i st = some (ls', st', S', c)) : ls'.length = ls.length := by
  unfold tf_op at h
  split at h
  all_goals try (cases h; done)
  all_goals try (simp only [Option.some.injEq, Prod.mk.injEq] at h; obtain ⟨rfl, -⟩ := h; rfl)
  all_goals split at h
  all_goals try (cases h; done)
  all_goals try (simp only [Option.some.injEq, Prod.mk.injEq] at h; obtain ⟨rfl, -⟩ := h; first | rfl | exact List.length_set)
  all_goals first | (split at h) | (cases hq : tf_room _ <;> simp [hq] at h)
  all_goals try (cases h; done)
  all_goals try (simp only [Option.some.injEq, Prod.mk.injEq] at h; obtain ⟨rfl, -⟩ := h; first | rfl | exact List.length_set)
  all_goals (generalize tf_room _ = bb at h; cases bb <;> first | (simp at h; done) | (simp only [cond_true, Option.some.injEq, Prod.mk.injEq] at h; obtain ⟨rfl, -⟩ := h; rfl))
theorem tf_run_ok {x : tf_X} {cc : ByteArray} {own : String} {nL d mc ms : Nat} {ini : Bool} (hx : tf_C x cc own nL d mc ms ini) (hd : 1 ≤ d) {F : tf_F} (hF : tf_okF own F) {T : tf_T} (hT : tf_okT cc T) {G : tf_G} {kc ks : Nat} (hkc : kc ≤ mc) (hks : ks ≤ ms) : ∀ (n : Nat) (bs : List Bool) (pc : Nat) (ls : List (Option Value)) (st : List Value) (S : tf_Sg) (C : Prop) {pc' : Nat} {ls' : List (Option Value)} {st' : List Value} {S' : tf_Sg} {C' : Prop},
    tf_run G F T n bs pc ls st S C = some (pc', ls', st', S', C') → C' → ls.length = nL → C ∧ (tf_K x kc ks G S' pc' ls' st' → tf_K x kc ks G S pc ls st)
  | 0, _, pc, ls, st, S, C, pc', ls', st', S', C', h, hC, hl => by
    simp only [tf_run, Option.some.injEq, Prod.mk.injEq] at h
    obtain ⟨rfl, rfl, rfl, rfl, rfl⟩ := h
    exact ⟨hC, id⟩
  | n + 1, bs, pc, ls, st, S, C, pc', ls', st', S', C', h, hC, hl => by
    simp only [tf_run] at h
    split at h
    · cases h
    · next i nx tg v hat =>
      have hi := tf_dec hT hat
      split at h
      · obtain ⟨h1, h2⟩ := tf_run_ok hx hd hF hT hkc hks n bs _ ls st S C h hC hl
        exact ⟨h1, fun kk => tf_goto_ok hx hi (h2 kk)⟩
      · split at h
        · next c st1 hbr =>
          split at h
          · cases h
          · obtain ⟨h1, h2⟩ := tf_run_ok hx hd hF hT hkc hks n _ _ ls _ S _ h hC hl
            exact ⟨h1.1, fun kk => tf_br_ok hx hi hbr (fun _ => h2 kk) (fun hn => absurd h1.2 hn)⟩
          · obtain ⟨h1, h2⟩ := tf_run_ok hx hd hF hT hkc hks n _ _ ls _ S _ h hC hl
            exact ⟨h1.1, fun kk => tf_br_ok hx hi hbr (fun hn => absurd hn h1.2) (fun _ => h2 kk)⟩
        · split at h
          · cases h
          · next ls1 st1 S1 c hop =>
            have hlen := tf_op_len hop
            obtain ⟨h1, h2⟩ := tf_run_ok hx hd hF hT hkc hks n bs _ ls1 st1 S1 _ h hC (hlen.trans hl)
            obtain ⟨h3, h4⟩ := tf_and_mono h1
            exact ⟨h3, fun kk => (tf_op_ok hx hd hF hi hop h4 hkc hks hl (h2 kk)).1⟩
/-- a stretch of straight code -/
theorem tf_go {x : tf_X} {cc : ByteArray} {own : String} {nL d mc ms : Nat} {ini : Bool} (hx : tf_C x cc own nL d mc ms ini) {F : tf_F} {T : tf_T} (hFT : 1 ≤ d ∧ tf_okF own F ∧ tf_okT cc T) {G : tf_G} {kc ks : Nat} (n : Nat) (bs : List Bool) (pc' : Nat) (ls' : List (Option Value)) (st' : List Value) (S' : tf_Sg) {pc : Nat} {ls : List (Option Value)} {st : List Value} {S : tf_Sg} {C' : Prop}
    (h : tf_run G F T n bs pc ls st S True = some (pc', ls', st', S', C')) (hk : kc ≤ mc ∧ ks ≤ ms ∧ ls.length = nL) (hC : C') (kk : tf_K x kc ks G S' pc' ls' st') : tf_K x kc ks G S pc ls st := (tf_run_ok hx hFT.1 hFT.2.1 hFT.2.2 hk.1 hk.2.1 n bs pc ls st S True h hC hk.2.2).2 kk
theorem tf_range_map {α : Type} (l : List α) : (List.range l.length).map (fun i => l[i]?) = l.map some := by
  apply List.ext_getElem?
  intro k
  rw [List.getElem?_map, List.getElem?_map]
  by_cases hk : k < l.length
  · rw [List.getElem?_range hk]
    simp [hk]
  · rw [List.getElem?_eq_none (by simpa using hk), List.getElem?_eq_none (by simpa using hk)]
    rfl
theorem tf_free {x : tf_X} {ad : Nat → Nat} {G : tf_G} {S : tf_Sg} {H : Heap} {locs : List Loc} {A0 : Nat → Prop} {D : tf_D} {H0 : Heap} (hD : va_D A0 (tf_ws D ad G S)) (hS : va_S A0 H0 H locs) (hA : ∀ q, H0.size ≤ q → A0 q) : ∀ q, va_A (tf_ws D ad G S) H.size q → A0 q := va_free (wc := tf_ws D ad G S) hD hS hA (List.range (tf_ws D ad G S).length) (tf_range_map _)
/-- the world at a call is a contract's start -/
theorem tf_in_wd {p : Program} {l : Launch} {e : Env} {R : Room} {s : State} {m : MethodId} {args : Array Value} {below : List Frame} {meth : Method} {c0 : Code} {A : Nat → Prop} {Q : State → Prop} {D : tf_D} {ad0 : Nat → Nat} {G0 : tf_G} {S0 : tf_Sg} {ad : Nat → Nat} {G : tf_G} {S : tf_Sg} {H : Heap} {locs : List Loc}
    (hI : tf_In (p, l, e, R, s, m, args, below, meth, c0, A, Q, D, ad0, G0, S0) ad G S H locs) (hA : ∀ q, s.heap.size ≤ q → A q) {U : State} (hU : U.heap = H) (hW : s.WarmedH U.vm) : U.heap.size = H.size ∧ tf_Wd D ad G S (va_A (tf_ws D ad G S) H.size) U := by
  obtain ⟨hag, hP, hK, hD, hS, ⟨z1, z2, zt, zn, za⟩, hro⟩ := hI
  have h4 : 4 ≤ G0.length := hro.2.2.2.1
  have hF : ∀ q, va_A (tf_ws D ad G S) H.size q → A q := va_free (wc := tf_ws D ad G S) hD hS hA (List.range (tf_ws D ad G S).length) (tf_range_map _)
  refine ⟨by rw [hU], by rw [hU]; exact hP, va_K.moved hW.alike hK, hD.self, ?_, fun i hi => ⟨hi, rfl, rfl⟩, hro.2.1, Nat.le_refl _, Nat.le_trans h4 hro.2.2.1, hro.2.2.2.2⟩
  rw [hU]
  refine ⟨?_, ?_, fun i hi => ?_, fun q hq => va_Nw.warmM hW (zn q hq), fun C hC => (za C hC).moved hW.alike⟩
  · rw [hag 1 (Or.inl (by omega))]
    exact ((z1.moved hW.alike).kept hS.2.1).narrow hF
  · rw [hag 2 (Or.inl (by omega))]
    exact ((z2.moved hW.alike).kept hS.2.1).narrow hF
  · obtain ⟨r1, r2, r3⟩ := hro.1 i hi
    have h := zt i r1
    rw [← r2, ← r3, ← hag i (Or.inl (tf_tg_lt (by omega)))] at h
    exact ((h.moved hW.alike).kept hS.2.1).narrow hF
theorem tf_ro_trans {G0 G G' : tf_G} {S0 S S' : tf_Sg} (h1 : tf_ro G0 S0 G S) (h2 : tf_ro G S G' S') : tf_ro G0 S0 G' S' := by
  refine ⟨fun i hi => ?_, h2.2.1, Nat.le_trans h1.2.2.1 h2.2.2.1, h1.2.2.2.1, h2.2.2.2.2⟩
  obtain ⟨a1, a2, a3⟩ := h2.1 i hi
  obtain ⟨b1, b2, b3⟩ := h1.1 i a1
  exact ⟨b1, a2.trans b2, a3.trans b3⟩
/-- references that are known -/
def tf_vs (n n' : Nat) (l : List Value) : Prop := ∀ o, Value.ref o ∈ l → o < n ∨ n' ≤ o
theorem tf_vs_same {n : Nat} {l : List Value} : tf_vs n n l := fun o _ => Nat.lt_or_ge o n
theorem tf_tv_same {ad ad' : Nat → Nat} {n n' : Nat} (hag : ∀ i, i < n ∨ n' ≤ i → ad' i = ad i) {l : List Value} (hv : tf_vs n n' l) {v : Value} (h : v ∈ l) : tf_tv ad' v = tf_tv ad v := by
  cases v with
  | ref o => show Value.ref _ = .ref _; rw [hag o (hv o h)]
  | _ => rfl
theorem tf_hl_ad {lsC : Array Slot} {ad ad' : Nat → Nat} {n n' : Nat} {ls : List (Option Value)} (hag : ∀ i, i < n ∨ n' ≤ i → ad' i = ad i) (hv : tf_vs n n' (ls.filterMap id)) (h : tf_hl lsC ls.length ad ls) : tf_hl lsC ls.length ad' ls :=
  ⟨h.1, h.2.1, h.2.2.1, fun i v hiv => by rw [tf_tv_same hag hv (List.mem_filterMap.mpr ⟨some v, List.mem_of_getElem? hiv, rfl⟩)]; exact h.2.2.2 i v hiv⟩
/-- what a call leaves -/
def tf_Qa (D : tf_D) (ad : Nat → Nat) (G : tf_G) (S : tf_Sg) (sz : Nat) (G' : tf_G) (S' : tf_Sg) (r : Option Value) : State → Outcome → State → Prop := fun st o t =>
  (∃ ad' : Nat → Nat, (∀ i, i < G.length ∨ G'.length ≤ i → ad' i = ad i) ∧ o = .returned (r.map (tf_tv ad')) ∧ va_P D.1 vwCl (tf_ws D ad' G' S') t.heap ∧ va_D (va_A (tf_ws D ad G S) sz) (tf_ws D ad' G' S') ∧ tf_ro G S G' S') ∧ va_F (va_A (tf_ws D ad G S) sz) st t
theorem tf_back {p : Program} {l : Launch} {e : Env} {R : Room} {s : State} {m : MethodId} {args : Array Value} {below : List Frame} {meth : Method} {c0 : Code} {A : Nat → Prop} {Q : State → Prop} {D : tf_D} {ad0 : Nat → Nat} {G0 : tf_G} {S0 : tf_Sg} {ad : Nat → Nat} {G G' : tf_G} {S S' : tf_Sg} {H : Heap} {locs : List Loc} {r : Option Value} {kc ks mc1 ms1 pc : Nat} {ls : List (Option Value)} {rest : List Value} {lsC : Array Slot} {st0 : List Value}
    (hI : tf_In (p, l, e, R, s, m, args, below, meth, c0, A, Q, D, ad0, G0, S0) ad G S H locs) (hA : ∀ q, s.heap.size ≤ q → A q) (hl : tf_hl lsC ls.length ad ls) (hv1 : tf_vs G.length G'.length (ls.filterMap id)) (hv2 : tf_vs G.length G'.length rest)
    (hr : va_Run p l e R s m args below meth c0 H locs kc ks mc1 ms1 (F0 m pc lsC st0) (rest.map (tf_tv ad)) (tf_Qa D ad G S H.size G' S' r) (va_A (tf_ws D ad G S) H.size))
    (kk : tf_K (p, l, e, R, s, m, args, below, meth, c0, A, Q, D, ad0, G0, S0) (kc + mc1) (ks + ms1) G' S' (pc + 3) ls (r.toList ++ rest)) : W p l e R s m args below meth c0 H locs kc ks Q (F0 m pc lsC st0) := by
  intro T hT X
  obtain ⟨v, st₀, t, T', L, h0, X', hL, e1, e2, ⟨⟨ad', hag, hv, hP1, hD1, hro⟩, hz, hk⟩, st⟩ := hr T hT X
  have hv' : v = r.map (tf_tv ad') := by injection hv
  subst hv'
  rw [h0] at hz hk
  obtain ⟨hag0, hP, hK, hD, hS, hRo, hro0⟩ := hI
  have hF : ∀ q, va_A (tf_ws D ad G S) H.size q → A q := va_free (wc := tf_ws D ad G S) hD hS hA (List.range (tf_ws D ad G S).length) (tf_range_map _)
  have hI' : tf_In (p, l, e, R, s, m, args, below, meth, c0, A, Q, D, ad0, G0, S0) ad' G' S' T'.heap (locs ++ L) := by
    refine ⟨fun i hi => ?_, by rw [e1]; exact hP1, hK, hD1.weaken (fun k q _ h => hF q.1 h), ⟨Nat.le_trans hS.1 (by rw [e1]; exact hz), fun q h1 h2 => ?_, fun q hq => ?_⟩, hRo, tf_ro_trans hro0 hro⟩
    · have g1 := hro.2.2.1
      have g2 := hro0.2.2.1
      rw [hag i (by omega), hag0 i (by omega)]
    · rw [e1, hk q (Nat.lt_of_lt_of_le h1 hS.1) (fun z => h2 (hF q z))]
      exact hS.2.1 q h1 h2
    · rcases List.mem_append.mp hq with h | h
      · exact hS.2.2 q h
      · exact hF _ (hL q h)
  have hst : ((r.toList ++ rest).map (tf_tv ad')) = (r.map (tf_tv ad')).toList ++ rest.map (tf_tv ad) := by
    rw [List.map_append]
    congr 1
    · cases r <;> rfl
    · exact List.map_congr_left fun v hv => tf_tv_same hag hv2 hv
  have k2 := kk ad' T'.heap (locs ++ L) lsC hI' (tf_hl_ad hag hv1 hl)
  rw [hst] at k2
  obtain ⟨t2, a1, b1⟩ := k2 T' rfl X'
  exact ⟨t2, st t2 a1, b1⟩
/-! the four calls; the links of a call -/
def tf_okL (own : String) (idx n : Nat) (M : tf_M) : Prop := M.1.cls ≠ "java/lang/invoke/MethodHandle" ∧ M.1.cls ≠ "java/lang/invoke/VarHandle" ∧ (parseMethodDescriptor M.1.desc).map (fun d => d.parameters.length) = some n ∧ M.2.2.1 ≤ 13 ∧ Cond.code M.1 M.2.1 M.2.2.1 M.2.2.2 ∈ tf_TB ∧ Cond.initialized M.1.cls ∈ tf_TB
def tf_okV (own : String) (idx n ci : Nat) (M : tf_M) : Prop := tf_okL own idx n M ∧ Cond.methodLink own idx M.1 ∈ tf_TB ∧ Cond.instanceMethod M.1 ∈ tf_TB ∧ Cond.selects M.1.cls M.1 M.1 ∈ tf_TB ∧ ci < 9 ∧ (tf_cl ci).1 = M.1.cls
def tf_okS (own : String) (idx n : Nat) (M : tf_M) : Prop := tf_okL own idx n M ∧ Cond.methodLink own idx M.1 ∈ tf_TB ∧ Cond.static M.1 ∈ tf_TB
def tf_okN (own : String) (idx n : Nat) (M : tf_M) : Prop := tf_okL own idx n M ∧ (own, idx) ∈ tf_nest ∧ M.1 = yX10_noKey ∧ Cond.static M.1 ∈ tf_TB
def tf_okI (own : String) (idx n : Nat) (M : tf_M) : Prop := tf_okL own idx n M ∧ Cond.methodLink own idx M.1 ∈ tf_TB ∧ Cond.instanceMethod M.1 ∈ tf_TB ∧ M.1.name = "<init>" ∧ M.2.2.2 = none
theorem tf_gw {M : tf_M} {own : String} {idx n : Nat} (h : tf_okL own idx n M) : ∀ w ∈ tf_w M, w ∈ tf_TB := by
  intro w hw
  rcases List.mem_cons.mp hw with rfl | hw
  · exact h.2.2.2.2.1
  · exact hw
theorem tf_blind {D : tf_D} {ad : Nat → Nat} {G : tf_G} {S : tf_Sg} {A : Nat → Prop} {av : List Value} {sz : Nat} : FrameBlind (va_Pc av (fun U => U.heap.size = sz ∧ tf_Wd D ad G S A U)) := by
  intro a U g mk q
  obtain ⟨q0, q1, q2, q3, q4, q5, q6⟩ := q
  refine ⟨q0, q1, q2, va_K.moved (u := U) (U := U.calling g mk a) (Vm.Alike.refl U.vm) q3, q4, ?_, q6⟩
  obtain ⟨z1, z2, zt, zn, za⟩ := q5
  exact ⟨va_Z.moved (u := U) (U := U.calling g mk a) (Vm.Alike.refl U.vm) z1, va_Z.moved (u := U) (U := U.calling g mk a) (Vm.Alike.refl U.vm) z2, fun i hi => va_T.moved (u := U) (U := U.calling g mk a) (Vm.Alike.refl U.vm) (zt i hi), fun q hq => va_Nw.same (u := U) (U := U.calling g mk a) rfl rfl (zn q hq), fun C hC => va_AO.moved (u := U) (U := U.calling g mk a) (Vm.Alike.refl U.vm) (za C hC)⟩
theorem tf_cb {args : Array Value} {s : State} {R : Room} {M : tf_M} {own : String} {idx n d d1 mc1 ms1 : Nat} (hts : ∀ w ∈ tf_TB, w.before args s = true) (hL : tf_okL own idx n M) (hl : Cond.methodLink own idx M.1 ∈ tf_TB) (hd : d1 + 1 ≤ d) (hR : d ≤ R.frames ∧ 32 * d ≤ R.locals) : CallB R s args own idx M.1 M.2.1 M.2.2.1 M.2.2.2 (tf_w M) (tf_rm d1 mc1 ms1) mc1 ms1 n :=
  callB_of (ws' := tf_TB) n hts (tf_gin (tf_gw hL)) rfl rfl rfl (hts _ hL.2.2.2.2.2) (hts _ hl) ⟨hL.1, hL.2.1, hL.2.2.1⟩ ⟨by show d1 + 1 ≤ _; omega, by have := hL.2.2.2.1; show 8 + (_ + 11) + 32 * d1 ≤ _; omega⟩
theorem tf_stk {ad : Nat → Nat} {st As rest : List Value} (h : st = As.reverse ++ rest) : st.map (tf_tv ad) = (As.map (tf_tv ad)).reverse ++ rest.map (tf_tv ad) := by
  rw [h, List.map_append, List.map_reverse]
theorem tf_kS {x : tf_X} {cc : ByteArray} {own : String} {nL d mc ms : Nat} {ini : Bool} (hx : tf_C x cc own nL d mc ms ini) {F : tf_F} {T : tf_T} (hFT : 1 ≤ d ∧ tf_okF own F ∧ tf_okT cc T) {G G' : tf_G} {S S' : tf_Sg} {kc ks mc1 ms1 d1 : Nat} {M : tf_M} {As rest : List Value} {r : Option Value} {idx nx tg pc : Nat} {v : Int32} {ls : List (Option Value)} {st : List Value}
    (hF : tf_Fn M d1 mc1 ms1 G S As G' S' r) (hat : tf_at pc T = some (.invokestatic idx, nx, tg, v)) (hL : tf_okS own idx As.length M) (hst : st = As.reverse ++ rest) (hrm : tf_room rest = true) (hk : d1 + 1 ≤ d ∧ kc + mc1 ≤ mc ∧ ks + ms1 ≤ ms ∧ ls.length = nL) (hv1 : tf_vs G.length G'.length (ls.filterMap id)) (hv2 : tf_vs G.length G'.length rest)
    (kk : tf_K x (kc + mc1) (ks + ms1) G' S' nx ls (r.toList ++ rest)) : tf_K x kc ks G S pc ls st := by
  obtain ⟨p, l, e, R, s, m, args, below, meth, c0, A, Q, D, ad0, G0, S0⟩ := x
  obtain ⟨hxx, hb, hml, hown, hts, hfr, hlo, hmc, hms, hA, hini⟩ := hx
  intro ad H locs lsC hI hl
  obtain ⟨hdg, rfl⟩ := tf_dc (tf_dec hFT.2.2 hat) 2 rfl
  refine tf_back hI hA hl hv1 hv2 (G' := G') (S' := S') (r := r) (mc1 := mc1) (ms1 := ms1) ?_ kk
  exact va_runS (As := As.map (tf_tv ad)) (n := As.length) ⟨hxx, hb, hml, hown, hts⟩ (hF l D ad H.size) ⟨tf_cb hts hL.1 hL.2.1 hk.1 ⟨hfr, hlo⟩, hts _ hL.2.2⟩ ⟨tf_blind, fun U hU hW => ⟨rfl, tf_in_wd hI hA hU hW⟩⟩ rfl (List.length_map _) (hl.2.1.trans hk.2.2.2) (tf_stk hst) (by have := tf_room_ok (ad := ad) hrm; show 2 * 0 + _ ≤ 8; omega) hdg ⟨by omega, by omega⟩
theorem tf_kN {x : tf_X} {cc : ByteArray} {own : String} {nL d mc ms : Nat} {ini : Bool} (hx : tf_C x cc own nL d mc ms ini) {F : tf_F} {T : tf_T} (hFT : 1 ≤ d ∧ tf_okF own F ∧ tf_okT cc T) {G G' : tf_G} {S S' : tf_Sg} {kc ks mc1 ms1 d1 : Nat} {M : tf_M} {As rest : List Value} {r : Option Value} {idx nx tg pc : Nat} {v : Int32} {ls : List (Option Value)} {st : List Value}
    (hF : tf_Fn M d1 mc1 ms1 G S As G' S' r) (hat : tf_at pc T = some (.invokestatic idx, nx, tg, v)) (hL : tf_okN own idx As.length M) (hst : st = As.reverse ++ rest) (hrm : tf_room rest = true) (hk : d1 + 1 ≤ d ∧ kc + mc1 ≤ mc ∧ ks + ms1 ≤ ms ∧ ls.length = nL) (hv1 : tf_vs G.length G'.length (ls.filterMap id)) (hv2 : tf_vs G.length G'.length rest)
    (kk : tf_K x (kc + mc1) (ks + ms1) G' S' nx ls (r.toList ++ rest)) : tf_K x kc ks G S pc ls st := by
  obtain ⟨p, l, e, R, s, m, args, below, meth, c0, A, Q, D, ad0, G0, S0⟩ := x
  obtain ⟨hxx, hb, hml, hown, hts, hfr, hlo, hmc, hms, hA, hini⟩ := hx
  intro ad H locs lsC hI hl
  obtain ⟨hdg, rfl⟩ := tf_dc (tf_dec hFT.2.2 hat) 2 rfl
  refine tf_back hI hA hl hv1 hv2 (G' := G') (S' := S') (r := r) (mc1 := mc1) (ms1 := ms1) ?_ kk
  have hN := hI.2.2.2.2.2.1.2.2.2.1 _ hL.2.1
  rw [← hL.2.2.1] at hN
  have h13 := hL.1.2.2.2.1
  exact va_runSN (As := As.map (tf_tv ad)) (n := As.length) ⟨hxx, hb, hml, hown, hts⟩ (hF l D ad H.size) ⟨va_cnB (ws' := tf_TB) As.length hts (tf_gin (tf_gw hL.1)) rfl rfl rfl hN (hts _ hL.1.2.2.2.2.2) ⟨hL.1.1, hL.1.2.1, hL.1.2.2.1⟩ ⟨by show d1 + 1 ≤ _; omega, by show 8 + (_ + 11) + 32 * d1 ≤ _; omega⟩, hts _ hL.2.2.2, trivial⟩ ⟨tf_blind, fun U hU hW => ⟨rfl, tf_in_wd hI hA hU hW⟩⟩ rfl (List.length_map _) (hl.2.1.trans hk.2.2.2) (tf_stk hst) (by have := tf_room_ok (ad := ad) hrm; show 2 * 0 + _ ≤ 8; omega) hdg ⟨by omega, by omega⟩
theorem tf_kV {x : tf_X} {cc : ByteArray} {own : String} {nL d mc ms : Nat} {ini : Bool} (hx : tf_C x cc own nL d mc ms ini) {F : tf_F} {T : tf_T} (hFT : 1 ≤ d ∧ tf_okF own F ∧ tf_okT cc T) {G G' : tf_G} {S S' : tf_Sg} {kc ks mc1 ms1 d1 ci : Nat} {M : tf_M} {o : Nat} {As rest : List Value} {r : Option Value} {idx nx tg pc : Nat} {v : Int32} {ls : List (Option Value)} {st : List Value}
    (hF : tf_Fn M d1 mc1 ms1 G S (.ref o :: As) G' S' r) (hat : tf_at pc T = some (.invokevirtual idx, nx, tg, v)) (hL : tf_okV own idx As.length ci M) (htg : tf_tg G o = ci) (hst : st = As.reverse ++ .ref o :: rest) (hrm : tf_room rest = true) (hk : d1 + 1 ≤ d ∧ kc + mc1 ≤ mc ∧ ks + ms1 ≤ ms ∧ ls.length = nL) (hv1 : tf_vs G.length G'.length (ls.filterMap id)) (hv2 : tf_vs G.length G'.length rest)
    (kk : tf_K x (kc + mc1) (ks + ms1) G' S' nx ls (r.toList ++ rest)) : tf_K x kc ks G S pc ls st := by
  obtain ⟨p, l, e, R, s, m, args, below, meth, c0, A, Q, D, ad0, G0, S0⟩ := x
  obtain ⟨hxx, hb, hml, hown, hts, hfr, hlo, hmc, hms, hA, hini⟩ := hx
  intro ad H locs lsC hI hl
  obtain ⟨hdg, rfl⟩ := tf_dc (tf_dec hFT.2.2 hat) 2 rfl
  refine tf_back hI hA hl hv1 hv2 (G' := G') (S' := S') (r := r) (mc1 := mc1) (ms1 := ms1) ?_ kk
  obtain ⟨hL1, hL2, hL3, hL4, hc9, hcn⟩ := hL
  obtain ⟨g1, g2⟩ := tf_4 hI.2.2.2.2.2.2 (show tf_tg G o < 14 by omega)
  have hat2 := tf_ws_at (D := D) (ad := ad) (G := G) (S := S) g1 g2
  rw [tf_cell_o (show tf_tg G o < 9 by omega), show (tf_e G o).1 = ci from htg] at hat2
  have hrecv := va_recv hI.2.2.1 hI.2.1 (tf_hcl ci hc9) hat2
  simp only [hcn] at hrecv
  exact va_runV (As := As.map (tf_tv ad)) (n := As.length) (C := M.1.cls) (b := ad o) ⟨hxx, hb, hml, hown, hts⟩ (hF l D ad H.size) ⟨tf_cb hts hL1 hL2 hk.1 ⟨hfr, hlo⟩, hts _ hL3, hts _ hL4⟩ ⟨tf_blind, hrecv, fun U hU hW => ⟨rfl, tf_in_wd hI hA hU hW⟩⟩ rfl (List.length_map _) (hl.2.1.trans hk.2.2.2) (tf_stk hst) (by have := tf_room_ok (ad := ad) hrm; show 2 * 0 + _ ≤ 8; omega) hdg ⟨by omega, by omega⟩
theorem tf_kI {x : tf_X} {cc : ByteArray} {own : String} {nL d mc ms : Nat} {ini : Bool} (hx : tf_C x cc own nL d mc ms ini) {F : tf_F} {T : tf_T} (hFT : 1 ≤ d ∧ tf_okF own F ∧ tf_okT cc T) {G G' : tf_G} {S S' : tf_Sg} {kc ks mc1 ms1 d1 : Nat} {M : tf_M} {o : Nat} {As rest : List Value} {r : Option Value} {idx nx tg pc : Nat} {v : Int32} {ls : List (Option Value)} {st : List Value}
    (hF : tf_Fn M d1 mc1 ms1 G S (.ref o :: As) G' S' r) (hat : tf_at pc T = some (.invokespecial idx, nx, tg, v)) (hL : tf_okI own idx As.length M) (hst : st = As.reverse ++ .ref o :: rest) (hrm : tf_room rest = true) (hk : d1 + 1 ≤ d ∧ kc + mc1 ≤ mc ∧ ks + ms1 ≤ ms ∧ ls.length = nL) (hv1 : tf_vs G.length G'.length (ls.filterMap id)) (hv2 : tf_vs G.length G'.length rest)
    (kk : tf_K x (kc + mc1) (ks + ms1) G' S' nx ls (r.toList ++ rest)) : tf_K x kc ks G S pc ls st := by
  obtain ⟨p, l, e, R, s, m, args, below, meth, c0, A, Q, D, ad0, G0, S0⟩ := x
  obtain ⟨hxx, hb, hml, hown, hts, hfr, hlo, hmc, hms, hA, hini⟩ := hx
  intro ad H locs lsC hI hl
  obtain ⟨hdg, rfl⟩ := tf_dc (tf_dec hFT.2.2 hat) 2 rfl
  refine tf_back hI hA hl hv1 hv2 (G' := G') (S' := S') (r := r) (mc1 := mc1) (ms1 := ms1) ?_ kk
  obtain ⟨hL1, hL2, hL3, hL4, hL5⟩ := hL
  have hcb := tf_cb (R := R) (mc1 := mc1) (ms1 := ms1) hts hL1 hL2 hk.1 ⟨hfr, hlo⟩
  rw [hL5] at hcb
  exact va_runI (As := As.map (tf_tv ad)) (n := As.length) (b := ad o) ⟨hxx, hb, hml, hown, hts⟩ (hF l D ad H.size) ⟨hcb, hL4, hts _ hL3⟩ ⟨tf_blind, fun U hU hW => ⟨rfl, tf_in_wd hI hA hU hW⟩⟩ rfl (List.length_map _) (hl.2.1.trans hk.2.2.2) (tf_stk hst) (by have := tf_room_ok (ad := ad) hrm; show 2 * 0 + _ ≤ 8; omega) hdg ⟨by omega, by omega⟩
end
section
/-! a method from its entry to its end -/
def tf_entL : List Value → List (Option Value)
  | [] => []
  | .long x :: vs => some (.long x) :: none :: tf_entL vs
  | .double x :: vs => some (.double x) :: none :: tf_entL vs
  | v :: vs => some v :: tf_entL vs
def tf_ent (av : List Value) (n : Nat) : List (Option Value) := tf_entL av ++ List.replicate (n - (tf_entL av).length) none
theorem tf_entL_cons (v : Value) (vs : List Value) : tf_entL (v :: vs) = (if v.category = 2 then [some v, none] else [some v]) ++ tf_entL vs := by
  cases v <;> rfl
theorem tf_entL_len (ad : Nat → Nat) : ∀ av : List Value, (lg_sl (av.map (tf_tv ad))).length = (tf_entL av).length
  | [] => rfl
  | v :: vs => by
    rw [tf_entL_cons, List.map_cons]
    unfold lg_sl
    rw [List.flatMap_cons, List.length_append, List.length_append, tf_cat]
    have h := tf_entL_len ad vs
    unfold lg_sl at h
    rw [h]
    split <;> rfl
theorem tf_ent_in (ad : Nat → Nat) : ∀ (av : List Value) (k i : Nat) (v : Value), (tf_entL av)[i]? = some (some v) → (k + i, tf_tv ad v) ∈ lv_args k (av.map (tf_tv ad))
  | [], k, i, v, h => by simp [tf_entL] at h
  | w :: vs, k, i, v, h => by
    rw [tf_entL_cons] at h
    rw [List.map_cons]
    unfold lv_args
    rw [tf_cat]
    by_cases hc : w.category = 2
    · rw [if_pos hc] at h ⊢
      match i, h with
      | 0, h =>
        simp at h
        subst h
        exact List.mem_cons_self
      | 1, h => simp at h
      | i + 2, h =>
        have h2 : (tf_entL vs)[i]? = some (some v) := by simpa using h
        have := tf_ent_in ad vs (k + 2) i v h2
        refine List.mem_cons_of_mem _ ?_
        rw [show k + (i + 2) = k + 2 + i by omega]
        exact this
    · rw [if_neg hc] at h ⊢
      match i, h with
      | 0, h =>
        simp at h
        subst h
        exact List.mem_cons_self
      | i + 1, h =>
        have h2 : (tf_entL vs)[i]? = some (some v) := by simpa using h
        have := tf_ent_in ad vs (k + 1) i v h2
        refine List.mem_cons_of_mem _ ?_
        rw [show k + (i + 1) = k + 1 + i by omega]
        exact this
def tf_ri : Option Value → Instr
  | some _ => .ireturn
  | none => .return_
/-- the end of a method: what it answers, what it leaves -/
def tf_Rt (x : tf_X) (cc : ByteArray) (mc ms : Nat) (G' : tf_G) (S' : tf_Sg) (r : Option Value) : Prop :=
  ∀ (ad : Nat → Nat) (H : Heap) (locs : List Loc) (lsC : Array Slot) (pc : Nat), tf_In x ad G' S' H locs → decode cc pc = .ok (tf_ri r, 1) → tf_W x H locs mc ms pc lsC (r.toList.map (tf_tv ad))
theorem tf_ret {x : tf_X} {cc : ByteArray} {mc ms : Nat} {F : tf_F} {T : tf_T} {d : Nat} {own : String} (hFT : 1 ≤ d ∧ tf_okF own F ∧ tf_okT cc T) {G G' : tf_G} {S S' : tf_Sg} {r : Option Value} {kc ks pc nx tg : Nat} {v : Int32} {ls : List (Option Value)} {st : List Value}
    (hR : tf_Rt x cc mc ms G' S' r) (hat : tf_at pc T = some (tf_ri r, nx, tg, v)) (hk : kc ≤ mc ∧ ks ≤ ms) (hG : G = G') (hS : S = S') (hst : st = r.toList) : tf_K x kc ks G S pc ls st := by
  subst hG
  subst hS
  subst hst
  obtain ⟨p, l, e, R, s, m, args, below, meth, c0, A, Q, D, ad0, G0, S0⟩ := x
  intro ad H locs lsC hI hl
  have hdg : decode cc pc = .ok (tf_ri r, 1) := by
    cases r with
    | none => exact (tf_dc (tf_dec hFT.2.2 hat) 0 rfl).1
    | some w => exact (tf_dc (tf_dec hFT.2.2 hat) 0 rfl).1
  exact W.widen hk.1 hk.2 (hR ad H locs lsC pc hI hdg)
/-- what a method of a return type may answer -/
def tf_rok : Option FieldType → Option Value → Prop
  | none, none => True
  | some .int, some (.int _) => True
  | some .boolean, some (.int v) => v = 0 ∨ v = 1
  | _, _ => False
theorem tf_rok_of {t : Option FieldType} {r : Option Value} (h : tf_rok t r) : (t = none ∧ r = none) ∨ (∃ v, t = some .int ∧ r = some (.int v)) ∨ (∃ v, (v = 0 ∨ v = 1) ∧ t = some .boolean ∧ r = some (.int v)) := by
  unfold tf_rok at h
  split at h
  · exact Or.inl ⟨rfl, rfl⟩
  · exact Or.inr (Or.inl ⟨_, rfl, rfl⟩)
  · exact Or.inr (Or.inr ⟨_, h, rfl, rfl⟩)
  · exact h.elim
theorem tf_Fn_of {M : tf_M} {own : String} {d mc ms : Nat} {G G' : tf_G} {S S' : tf_Sg} {av : List Value} {r : Option Value} (ini : Bool) (hy : plainName M.1.cls = true ∧ M.1.cls = own ∧ (ini = true → M.1.name = "<init>")) (hlen : (tf_entL av).length ≤ M.2.2.1) (hrok : tf_rok M.2.2.2 r)
    (body : ∀ x, tf_C x M.2.1 own M.2.2.1 d mc ms ini → tf_Rt x M.2.1 mc ms G' S' r → tf_K x 0 0 G S 0 (tf_ent av M.2.2.1) []) : tf_Fn M d mc ms G S av G' S' r := by
  intro l D ad sz
  refine Met.ofW (cc := M.2.1) (maxL := M.2.2.1) (ret := M.2.2.2) (ws' := tf_TB) hy.1 rfl ?_
  intro p e s m args below meth c s₁ B hml hv
  obtain ⟨rfl, hsz, hP, hK, hD0, hRo, hro⟩ := hv
  subst hsz
  have hts0 := atoms_spec (ws := tf_w M) B.pre
  have hts : ∀ w ∈ tf_TB, w.before (av.map (tf_tv ad)).toArray s = true := fun w hw => hts0 w (List.mem_cons_of_mem _ hw)
  have hown : s.vm.findClass own = some m.cls := by rw [← hy.2.1]; exact findClass_of_methodNamed B.named
  have hlocks := B.notSynchronized
  have hin : ini = true → meth.name = "<init>" := fun h => by rw [(name_of_methodNamed B.named B.method).1]; exact hy.2.2 h
  have hA : ∀ q, s.heap.size ≤ q → va_A (tf_ws D ad G S) s.heap.size q := fun q h => Or.inr h
  let x : tf_X := (p, l, e, tf_rm d mc ms, s, m, (av.map (tf_tv ad)).toArray, below, meth, c, va_A (tf_ws D ad G S) s.heap.size, MQ below (fun _ st o t => (∃ ad' : Nat → Nat, (∀ i, i < G.length ∨ G'.length ≤ i → ad' i = ad i) ∧ o = .returned (r.map (tf_tv ad')) ∧ va_P D.1 vwCl (tf_ws D ad' G' S') t.heap ∧ va_D (va_A (tf_ws D ad G S) s.heap.size) (tf_ws D ad' G' S') ∧ tf_ro G S G' S') ∧ va_F (va_A (tf_ws D ad G S) s.heap.size) st t) (av.map (tf_tv ad)).toArray s mc ms (va_A (tf_ws D ad G S) s.heap.size), D, ad, G, S)
  have hC : tf_C x M.2.1 own M.2.2.1 d mc ms ini := ⟨B.exec, B.bytes, hml, hown, hts, Nat.le_refl _, Nat.le_refl _, Nat.le_refl _, Nat.le_refl _, hA, hin⟩
  have hR : tf_Rt x M.2.1 mc ms G' S' r := by
    intro ad1 H locs lsC pc hI hdg
    obtain ⟨hag, hP1, hK1, hD1, hS1, hRo1, hro1⟩ := hI
    have hq : ∀ t : State, t.heap = H → (∃ ad' : Nat → Nat, (∀ i, i < G.length ∨ G'.length ≤ i → ad' i = ad i) ∧ Outcome.returned (r.map (tf_tv ad1)) = .returned (r.map (tf_tv ad')) ∧ va_P D.1 vwCl (tf_ws D ad' G' S') t.heap ∧ va_D (va_A (tf_ws D ad G S) s.heap.size) (tf_ws D ad' G' S') ∧ tf_ro G S G' S') ∧ va_F (va_A (tf_ws D ad G S) s.heap.size) s t := fun t ht => ⟨⟨ad1, hag, rfl, by rw [ht]; exact hP1, hD1, hro1⟩, hS1.F ht⟩
    have hbr := B.returns
    rcases tf_rok_of hrok with ⟨h1, h2⟩ | ⟨v, h1, h2⟩ | ⟨v, hv, h1, h2⟩
    · subst h2
      rw [h1] at hbr
      exact W.vret B.exec B.bytes hbr (fun t ht _ => hq t ht) hS1.2.2 hdg
    · subst h2
      rw [h1] at hbr
      exact W.iret B.exec B.bytes hbr (fun t ht _ => hq t ht) hS1.2.2 hdg
    · subst h2
      rw [h1] at hbr
      exact W.zret B.exec B.bytes hbr (tf_nar01 hv) (fun t ht _ => hq t ht) hS1.2.2 hdg
  have hW := body x hC hR ad s.heap [] ((lg_sl (av.map (tf_tv ad)) ++ List.replicate (M.2.2.1 - (lg_sl (av.map (tf_tv ad))).length) Slot.unset).toArray) ⟨fun _ _ => rfl, hP, hK, hD0, va_S.rf, hRo, hro⟩ (by
    have hle : (lg_sl (av.map (tf_tv ad))).length ≤ M.2.2.1 := by rw [tf_entL_len]; exact hlen
    have hh := lv_entry (av.map (tf_tv ad)) hle
    have hl2 : (tf_ent av M.2.2.1).length = M.2.2.1 := by unfold tf_ent; rw [List.length_append, List.length_replicate]; omega
    refine ⟨rfl, by rw [hl2]; exact hh.1, hh.2.1, fun i v hiv => ?_⟩
    have hi : i < (tf_entL av).length := by
      apply Nat.not_le.mp
      intro hle2
      unfold tf_ent at hiv
      rw [List.getElem?_append_right hle2] at hiv
      rw [List.getElem?_replicate] at hiv
      split at hiv <;> cases hiv
    unfold tf_ent at hiv
    rw [List.getElem?_append_left hi] at hiv
    have := tf_ent_in ad av 0 i v hiv
    rw [Nat.zero_add] at this
    exact hh.2.2 _ this)
  rw [lg_entry_eq]
  exact hW
/-! what is made: an object, a row of numbers, a row of references; a reference written -/
def tf_new (S : tf_Sg) (n : Nat) : tf_Sg := fun a j => if a = n then 0 else S a j
def tf_upa (ad : Nat → Nat) (n q : Nat) : Nat → Nat := fun i => if i = n then q else ad i
theorem tf_e_app {G : tf_G} {z : Nat × Nat × List Nat} {o : Nat} (h : o < G.length) : tf_e (G ++ [z]) o = tf_e G o := by
  unfold tf_e
  rw [List.getD_eq_getElem?_getD, List.getD_eq_getElem?_getD, List.getElem?_append_left h]
theorem tf_e_app_n {G : tf_G} {z : Nat × Nat × List Nat} : tf_e (G ++ [z]) G.length = z := by
  unfold tf_e
  rw [List.getD_eq_getElem?_getD, List.getElem?_append_right (Nat.le_refl _), Nat.sub_self]
  rfl
theorem tf_cell_ad {D : tf_D} {ad ad' : Nat → Nat} {S S' : tf_Sg} {o : Nat} {e : Nat × Nat × List Nat} (hS : S' o = S o) (h : ∀ k, ad' (e.2.2.getD k 0) = ad (e.2.2.getD k 0)) : tf_cell D ad' S' o e = tf_cell D ad S o e := by
  unfold tf_cell tf_fs tf_ra
  rw [hS]
  simp only [tf_rv, h]
theorem tf_ws_push {D : tf_D} {ad : Nat → Nat} {G : tf_G} {S : tf_Sg} {z : Nat × Nat × List Nat} {q : Nat} {e : va_E} (h4 : 4 ≤ G.length) (hw : tf_wf G) (hz : tf_cell D (tf_upa ad G.length q) (tf_new S G.length) G.length z = e) : tf_ws D ad G S ++ [(q, e)] = tf_ws D (tf_upa ad G.length q) (G ++ [z]) (tf_new S G.length) := by
  apply List.ext_getElem?
  intro k
  have hlen : (tf_ws D ad G S).length = G.length - 4 := by unfold tf_ws; rw [List.length_map, List.length_range]
  by_cases hk : k < G.length - 4
  · rw [List.getElem?_append_left (by omega)]
    unfold tf_ws
    rw [List.getElem?_map, List.getElem?_map, List.getElem?_range hk, List.getElem?_range (by rw [List.length_append]; simp; omega)]
    simp only [Option.map_some, Option.some.injEq, Prod.mk.injEq]
    rw [tf_e_app (show k + 4 < G.length by omega)]
    refine ⟨by unfold tf_upa; rw [if_neg (by omega)], (tf_cell_ad ?_ ?_).symm⟩
    · funext j
      unfold tf_new
      rw [if_neg (by omega)]
    · intro j
      have := hw (k + 4) j
      unfold tf_rf at this
      unfold tf_upa
      rw [if_neg (by omega)]
  · by_cases hk2 : k = G.length - 4
    · subst hk2
      rw [List.getElem?_append_right (by omega), hlen, Nat.sub_self]
      unfold tf_ws
      rw [List.getElem?_map, List.getElem?_range (by rw [List.length_append]; simp; omega)]
      simp only [List.getElem?_cons_zero, Option.map_some, Nat.sub_add_cancel h4, tf_e_app_n, hz]
      unfold tf_upa
      rw [if_pos rfl]
    · rw [List.getElem?_eq_none (by rw [List.length_append, hlen]; simp; omega)]
      unfold tf_ws
      rw [List.getElem?_eq_none (by rw [List.length_map, List.length_range, List.length_append]; simp; omega)]
theorem tf_ro_push {G0 : tf_G} {S0 : tf_Sg} {G : tf_G} {S : tf_Sg} {z : Nat × Nat × List Nat} (hr : tf_ro G0 S0 G S) (hz : z.1 ≠ 14) (hw : tf_wf (G ++ [z])) : tf_ro G0 S0 (G ++ [z]) (tf_new S G.length) := by
  have h4 := Nat.le_trans hr.2.2.2.1 hr.2.2.1
  have key : ∀ i, i ≠ G.length → tf_e (G ++ [z]) i = tf_e G i := by
    intro i hi
    by_cases hlt : i < G.length
    · exact tf_e_app hlt
    · unfold tf_e
      rw [List.getD_eq_getElem?_getD, List.getD_eq_getElem?_getD, List.getElem?_eq_none (by rw [List.length_append]; simp; omega), List.getElem?_eq_none (by omega)]
  refine ⟨fun i hi => ?_, fun i hi => ?_, by rw [List.length_append]; have := hr.2.2.1; omega, hr.2.2.2.1, hw⟩
  · have hne : i ≠ G.length := by
      intro e
      subst e
      unfold tf_tg at hi
      rw [tf_e_app_n] at hi
      exact hz hi
    unfold tf_tg at hi
    rw [key i hne] at hi
    obtain ⟨h1, h2, h3⟩ := hr.1 i hi
    refine ⟨h1, by unfold tf_ln at h2 ⊢; rw [key i hne]; exact h2, ?_⟩
    rw [← h3]
    funext j
    unfold tf_new
    rw [if_neg hne]
  · unfold tf_tg
    rw [key i (by omega)]
    exact hr.2.1 i hi
theorem tf_hl_up {lsC : Array Slot} {ad : Nat → Nat} {n q : Nat} {ls : List (Option Value)} (hv : tf_vs n (n + 1) (ls.filterMap id)) (h : tf_hl lsC ls.length ad ls) : tf_hl lsC ls.length (tf_upa ad n q) ls :=
  tf_hl_ad (n := n) (n' := n + 1) (fun i hi => by unfold tf_upa; rw [if_neg (by omega)]) hv h
theorem tf_st_up {ad : Nat → Nat} {n q : Nat} {st : List Value} (hv : tf_vs n (n + 1) st) : st.map (tf_tv (tf_upa ad n q)) = st.map (tf_tv ad) :=
  List.map_congr_left fun v h => tf_tv_same (n := n) (n' := n + 1) (fun i hi => by unfold tf_upa; rw [if_neg (by omega)]) hv h
theorem tf_tys_one {D : tf_D} {s : State} {cl : List vw_C} {k : Nat} {cA : ClassId} {t : FieldType} (hK : va_K D.1 cl (tf_tys D ++ [(cA, t)]) s) (hk : (tf_tys D)[k]? = some (D.2 (k + 9), t)) : cA = D.2 (k + 9) := by
  have hl : k < (tf_tys D).length := (List.getElem?_eq_some_iff.mp hk).1
  have h1 := (hK.2 k (D.2 (k + 9), t) (by rw [List.getElem?_append_left hl]; exact hk)).2
  have h2 := (hK.2 (tf_tys D).length (cA, t) (by rw [List.getElem?_append_right (Nat.le_refl _), Nat.sub_self]; rfl)).2
  have key : ∀ c, va_RA s c t → s.vm.findClass ("[" ++ t.toString) = some c := by
    intro c h
    cases t with
    | object C => obtain ⟨_, _, _, _, _, h4⟩ := h; exact h4
    | _ => exact h
  have e1 := key _ h1
  have e2 := key _ h2
  rw [e1] at e2
  exact (Option.some.inj e2).symm
theorem tf_wf_push {G : tf_G} {z : Nat × Nat × List Nat} (hw : tf_wf G) (hz : ∀ k, z.2.2.getD k 0 ≤ G.length) : tf_wf (G ++ [z]) := by
  intro o k
  rw [List.length_append]
  show _ < G.length + 1
  by_cases h : o < G.length
  · have := hw o k
    unfold tf_rf at this ⊢
    rw [tf_e_app h]
    omega
  · by_cases h2 : o = G.length
    · subst h2
      unfold tf_rf
      rw [tf_e_app_n]
      have := hz k
      omega
    · have hn : (G ++ [z])[o]? = none := List.getElem?_eq_none (by rw [List.length_append]; simp; omega)
      unfold tf_rf tf_e
      simp [List.getD_eq_getElem?_getD, hn]
/-- new: an object of a class, all zero -/
def tf_z0 (ci : Nat) : Nat × Nat × List Nat := (ci, 0, List.replicate (tf_cl ci).2.2 0)
theorem tf_rep (n k : Nat) : (List.replicate n 0).getD k 0 = 0 := by
  rw [List.getD_eq_getElem?_getD, List.getElem?_replicate]
  split <;> rfl
theorem tf_dflt : ∀ ci, ci < 9 → ∀ k, k < (tf_cl ci).2.2 → defaultValue (tf_ty ci k) = (if tf_isr ci k = true then Value.null else .int 0) := by decide +kernel
theorem tf_knew {x : tf_X} {cc : ByteArray} {own : String} {nL d mc ms : Nat} {ini : Bool} (hx : tf_C x cc own nL d mc ms ini) {F : tf_F} {T : tf_T} (hFT : 1 ≤ d ∧ tf_okF own F ∧ tf_okT cc T) {G : tf_G} {S : tf_Sg} {kc ks idx nx tg pc : Nat} {v : Int32} {ls : List (Option Value)} {st : List Value} (ci : Nat)
    (hat : tf_at pc T = some (.new idx, nx, tg, v)) (hL : ci < 9 ∧ Cond.classLink own idx (tf_cl ci).1 ∈ tf_TB ∧ Cond.instantiable (tf_cl ci).1 (tf_cl ci).2.2 ∈ tf_TB ∧ Cond.initialized (tf_cl ci).1 ∈ tf_TB) (hk : kc + 1 ≤ mc ∧ ks + (tf_cl ci).2.2 ≤ ms) (hv1 : tf_vs G.length (G.length + 1) (ls.filterMap id)) (hv2 : tf_vs G.length (G.length + 1) st)
    (kk : tf_K x (kc + 1) (ks + (tf_cl ci).2.2) (G ++ [tf_z0 ci]) (tf_new S G.length) nx ls (.ref G.length :: st)) : tf_K x kc ks G S pc ls st := by
  obtain ⟨p, l, e, R, s, m, args, below, meth, c0, A, Q, D, ad0, G0, S0⟩ := x
  obtain ⟨hxx, hb, hml, hown, hts, hfr, hlo, hmc, hms, hA, hini⟩ := hx
  intro ad H locs lsC hI hl
  obtain ⟨hdg, rfl⟩ := tf_dc (tf_dec hFT.2.2 hat) 2 rfl
  obtain ⟨hag, hP, hK, hD, hS, hRo, hro⟩ := hI
  have hw := hro.2.2.2.2
  have h4 : 4 ≤ G.length := Nat.le_trans hro.2.2.2.1 hro.2.2.1
  refine va_new (D := D.1) (ci := ci) (fs := tf_fs (tf_upa ad G.length 0) (tf_new S G.length) G.length (tf_z0 ci)) hxx hb hts (tf_hin ci hL.1) (tf_ty ci) (tf_hty ci hL.1) hown (hts _ hL.2.1) (hts _ hL.2.2.1) (hts _ hL.2.2.2) hK hP hD hS hA (tf_hcl ci hL.1) (fun j hj => ?_) (by omega) (by omega) hdg (fun q H1 hP1 hD1 hS1 => ?_)
  · rw [tf_dflt ci hL.1 j hj]
    unfold vp_V
    rw [List.getD_eq_getElem?_getD, tf_fs_at (e := tf_z0 ci) hj]
    show _ = (if tf_isr ci j = true then _ else _)
    split
    · simp only [tf_z0, tf_rep, tf_rv, if_true]
    · simp [tf_new]
  · have he : tf_cell D (tf_upa ad G.length q) (tf_new S G.length) G.length (tf_z0 ci) = .inr (ci, tf_fs (tf_upa ad G.length 0) (tf_new S G.length) G.length (tf_z0 ci)) := by
      rw [tf_cell_o (show (tf_z0 ci).1 < 9 from hL.1)]
      unfold tf_fs
      simp only [tf_z0, tf_rep, tf_rv, if_true]
    rw [tf_ws_push h4 hw he] at hP1 hD1
    have hw2 : tf_wf (G ++ [tf_z0 ci]) := tf_wf_push hw (fun k => by simp only [tf_z0, tf_rep]; exact Nat.zero_le _)
    have k2 := kk (tf_upa ad G.length q) H1 locs lsC ⟨fun i hi => ?_, hP1, hK, hD1, hS1, hRo, tf_ro_push hro (by show ci ≠ 14; omega) hw2⟩ (tf_hl_up hv1 hl)
    · rw [List.map_cons, tf_st_up hv2] at k2
      have hq : tf_tv (tf_upa ad G.length q) (.ref G.length) = .ref q := by
        show Value.ref _ = _
        unfold tf_upa
        rw [if_pos rfl]
      rw [hq] at k2
      exact k2
    · rw [List.length_append] at hi
      have hi2 : i ≠ G.length := by
        have := hro.2.2.1
        rcases hi with hi | hi
        · omega
        · simp at hi; omega
      unfold tf_upa
      rw [if_neg hi2]
      refine hag i ?_
      simp at hi
      omega
theorem tf_hag {ad ad0 : Nat → Nat} {G0 G : tf_G} {z : Nat × Nat × List Nat} {q : Nat} (hle : G0.length ≤ G.length) (hag : ∀ i, i < G0.length ∨ G.length ≤ i → ad i = ad0 i) : ∀ i, i < G0.length ∨ (G ++ [z]).length ≤ i → tf_upa ad G.length q i = ad0 i := by
  intro i hi
  rw [List.length_append] at hi
  simp at hi
  unfold tf_upa
  rw [if_neg (by omega)]
  exact hag i (by omega)
theorem tf_upa_n {ad : Nat → Nat} {n q : Nat} : tf_tv (tf_upa ad n q) (.ref n) = .ref q := by
  show Value.ref _ = _
  unfold tf_upa
  rw [if_pos rfl]
/-- newarray: a row of numbers, all zero -/
theorem tf_ac9 : Cond.arrayClass .int ∈ tf_TB := by decide +kernel
theorem tf_ac10 : Cond.arrayClass .boolean ∈ tf_TB := by decide +kernel
theorem tf_he9 (D : tf_D) (ad : Nat → Nat) (G : tf_G) (S : tf_Sg) (N q : Nat) : tf_cell D (tf_upa ad G.length q) (tf_new S G.length) G.length (9, N, []) = .inl (D.2 9, N, .inl (fun _ => 0)) := by
  have h : tf_new S G.length G.length = fun _ => 0 := by funext j; simp [tf_new]
  rw [tf_cell_i (Or.inl rfl), h]
theorem tf_he10 (D : tf_D) (ad : Nat → Nat) (G : tf_G) (S : tf_Sg) (N q : Nat) : tf_cell D (tf_upa ad G.length q) (tf_new S G.length) G.length (10, N, []) = .inl (D.2 10, N, .inl (fun _ => 0)) := by
  have h : tf_new S G.length G.length = fun _ => 0 := by funext j; simp [tf_new]
  rw [tf_cell_i (Or.inr rfl), h]
theorem tf_knewi {x : tf_X} {cc : ByteArray} {own : String} {nL d mc ms : Nat} {ini : Bool} (hx : tf_C x cc own nL d mc ms ini) {F : tf_F} {T : tf_T} (hFT : 1 ≤ d ∧ tf_okF own F ∧ tf_okT cc T) {G : tf_G} {S : tf_Sg} {kc ks nx tg pc : Nat} {v : Int32} {ls : List (Option Value)} {st : List Value} {i : Int32} (N : Nat)
    (hat : tf_at pc T = some (.newarray .int, nx, tg, v)) (hi : ¬ i < 0 ∧ i.toNatClampNeg = N ∧ N ≤ 1000) (hk : kc + 1 ≤ mc ∧ ks + N ≤ ms) (hv1 : tf_vs G.length (G.length + 1) (ls.filterMap id)) (hv2 : tf_vs G.length (G.length + 1) st)
    (kk : tf_K x (kc + 1) (ks + N) (G ++ [(9, N, [])]) (tf_new S G.length) nx ls (.ref G.length :: st)) : tf_K x kc ks G S pc ls (.int i :: st) := by
  obtain ⟨p, l, e, R, s, m, args, below, meth, c0, A, Q, D, ad0, G0, S0⟩ := x
  obtain ⟨hxx, hb, hml, hown, hts, hfr, hlo, hmc, hms, hA, hini⟩ := hx
  intro ad H locs lsC hI hl
  obtain ⟨hdg, rfl⟩ := tf_dc (tf_dec hFT.2.2 hat) 1 rfl
  obtain ⟨hag, hP, hK, hD, hS, hRo, hro⟩ := hI
  have h4 : 4 ≤ G.length := Nat.le_trans hro.2.2.2.1 hro.2.2.1
  have hAc : (Cond.arrayClass .int).before args s = true := hts _ tf_ac9
  have hby : N * componentBytes .int ≤ 536870912 := by show N * 4 ≤ _; omega
  refine va_newa (D := D.1) (atype := .int) (ty := .int) (a0 := (N, .inl (fun _ => 0))) hxx hb hAc rfl hK hP hD hS hA (fun cA => vp_cell_i cA N (fun _ => 0)) hi.1 hi.2.1 hby (by omega) (by omega) hdg (fun q cA H1 hK1 hP1 hD1 hS1 => ?_)
  have hcA : cA = D.2 9 := tf_tys_one (k := 0) hK1 rfl
  subst hcA
  rw [tf_ws_push h4 hro.2.2.2.2 (tf_he9 D ad G S N q)] at hP1 hD1
  have k2 := kk (tf_upa ad G.length q) H1 locs lsC ⟨tf_hag hro.2.2.1 hag, hP1, hK, hD1, hS1, hRo, tf_ro_push hro (by show 9 ≠ 14; decide) (tf_wf_push hro.2.2.2.2 (fun k => by show ([] : List Nat).getD k 0 ≤ _; simp))⟩ (tf_hl_up hv1 hl)
  rw [List.map_cons, tf_st_up hv2, tf_upa_n] at k2
  exact k2
theorem tf_knewz {x : tf_X} {cc : ByteArray} {own : String} {nL d mc ms : Nat} {ini : Bool} (hx : tf_C x cc own nL d mc ms ini) {F : tf_F} {T : tf_T} (hFT : 1 ≤ d ∧ tf_okF own F ∧ tf_okT cc T) {G : tf_G} {S : tf_Sg} {kc ks nx tg pc : Nat} {v : Int32} {ls : List (Option Value)} {st : List Value} {i : Int32} (N : Nat)
    (hat : tf_at pc T = some (.newarray .boolean, nx, tg, v)) (hi : ¬ i < 0 ∧ i.toNatClampNeg = N ∧ N ≤ 1000) (hk : kc + 1 ≤ mc ∧ ks + N ≤ ms) (hv1 : tf_vs G.length (G.length + 1) (ls.filterMap id)) (hv2 : tf_vs G.length (G.length + 1) st)
    (kk : tf_K x (kc + 1) (ks + N) (G ++ [(10, N, [])]) (tf_new S G.length) nx ls (.ref G.length :: st)) : tf_K x kc ks G S pc ls (.int i :: st) := by
  obtain ⟨p, l, e, R, s, m, args, below, meth, c0, A, Q, D, ad0, G0, S0⟩ := x
  obtain ⟨hxx, hb, hml, hown, hts, hfr, hlo, hmc, hms, hA, hini⟩ := hx
  intro ad H locs lsC hI hl
  obtain ⟨hdg, rfl⟩ := tf_dc (tf_dec hFT.2.2 hat) 1 rfl
  obtain ⟨hag, hP, hK, hD, hS, hRo, hro⟩ := hI
  have h4 : 4 ≤ G.length := Nat.le_trans hro.2.2.2.1 hro.2.2.1
  have hAc : (Cond.arrayClass .boolean).before args s = true := hts _ tf_ac10
  have hby : N * componentBytes .boolean ≤ 536870912 := by show N * 1 ≤ _; omega
  refine va_newa (D := D.1) (atype := .boolean) (ty := .boolean) (a0 := (N, .inl (fun _ => 0))) hxx hb hAc rfl hK hP hD hS hA (fun cA => vp_cell_i cA N (fun _ => 0)) hi.1 hi.2.1 hby (by omega) (by omega) hdg (fun q cA H1 hK1 hP1 hD1 hS1 => ?_)
  have hcA : cA = D.2 10 := tf_tys_one (k := 1) hK1 rfl
  subst hcA
  rw [tf_ws_push h4 hro.2.2.2.2 (tf_he10 D ad G S N q)] at hP1 hD1
  have k2 := kk (tf_upa ad G.length q) H1 locs lsC ⟨tf_hag hro.2.2.1 hag, hP1, hK, hD1, hS1, hRo, tf_ro_push hro (by show 10 ≠ 14; decide) (tf_wf_push hro.2.2.2.2 (fun k => by show ([] : List Nat).getD k 0 ≤ _; simp))⟩ (tf_hl_up hv1 hl)
  rw [List.map_cons, tf_st_up hv2, tf_upa_n] at k2
  exact k2
/-- anewarray: a row of references, all null -/
def tf_aC : Nat → String
  | 2 => RX0
  | 3 => RX1
  | _ => RX5
theorem tf_knewq {x : tf_X} {cc : ByteArray} {own : String} {nL d mc ms : Nat} {ini : Bool} (hx : tf_C x cc own nL d mc ms ini) {F : tf_F} {T : tf_T} (hFT : 1 ≤ d ∧ tf_okF own F ∧ tf_okT cc T) {G : tf_G} {S : tf_Sg} {kc ks nx tg pc idx : Nat} {v : Int32} {ls : List (Option Value)} {st : List Value} {i : Int32} (k N : Nat)
    (hat : tf_at pc T = some (.anewarray idx, nx, tg, v)) (hL : Cond.classLink own idx (tf_aC k) ∈ tf_TB ∧ (k = 2 ∨ k = 3 ∨ k = 4)) (hi : ¬ i < 0 ∧ i.toNatClampNeg = N ∧ N ≤ 1000) (hk : kc + 1 ≤ mc ∧ ks + N ≤ ms) (hv1 : tf_vs G.length (G.length + 1) (ls.filterMap id)) (hv2 : tf_vs G.length (G.length + 1) st)
    (kk : tf_K x (kc + 1) (ks + N) (G ++ [(k + 9, N, List.replicate N 0)]) (tf_new S G.length) nx ls (.ref G.length :: st)) : tf_K x kc ks G S pc ls (.int i :: st) := by
  obtain ⟨p, l, e, R, s, m, args, below, meth, c0, A, Q, D, ad0, G0, S0⟩ := x
  obtain ⟨hxx, hb, hml, hown, hts, hfr, hlo, hmc, hms, hA, hini⟩ := hx
  intro ad H locs lsC hI hl
  obtain ⟨hdg, rfl⟩ := tf_dc (tf_dec hFT.2.2 hat) 2 rfl
  obtain ⟨hag, hP, hK, hD, hS, hRo, hro⟩ := hI
  have h4 : 4 ≤ G.length := Nat.le_trans hro.2.2.2.1 hro.2.2.1
  have hAO : va_AO (tf_aC k) s := hRo.2.2.2.2 _ (by rcases hL.2 with rfl | rfl | rfl <;> simp [tf_aC])
  have hty : (tf_tys D)[k]? = some (D.2 (k + 9), .object (tf_aC k)) := by rcases hL.2 with rfl | rfl | rfl <;> rfl
  refine va_newq (D := D.1) (C := tf_aC k) hxx hb hown (hts _ hL.1) hAO hK hP hD hS hA hi.1 hi.2.1 (by omega) (by omega) (by omega) hdg (fun q cA H1 hK1 hP1 hD1 hS1 => ?_)
  have hcA := tf_tys_one (k := k) hK1 hty
  subst hcA
  have he : tf_cell D (tf_upa ad G.length q) (tf_new S G.length) G.length (k + 9, N, List.replicate N 0) = .inl (D.2 (k + 9), N, .inr (.inr (.inr (.inr (fun _ => none))))) := by
    rw [tf_cell_r (by show 11 ≤ k + 9; rcases hL.2 with rfl | rfl | rfl <;> decide)]
    unfold tf_ra
    simp only [tf_rep, if_true]
  rw [tf_ws_push h4 hro.2.2.2.2 he] at hP1 hD1
  have k2 := kk (tf_upa ad G.length q) H1 locs lsC ⟨tf_hag hro.2.2.1 hag, hP1, hK, hD1, hS1, hRo, tf_ro_push hro (by show k + 9 ≠ 14; rcases hL.2 with rfl | rfl | rfl <;> decide) (tf_wf_push hro.2.2.2.2 (fun k => by simp only [tf_rep]; exact Nat.zero_le _))⟩ (tf_hl_up hv1 hl)
  rw [List.map_cons, tf_st_up hv2, tf_upa_n] at k2
  exact k2
/-- a reference is written: into a field of the object that is made, into a row -/
def tf_sr (G : tf_G) (o k v : Nat) : tf_G := G.set o ((tf_e G o).1, (tf_e G o).2.1, (tf_e G o).2.2.set k v)
theorem tf_e_set {G : tf_G} {o : Nat} {z : Nat × Nat × List Nat} (h : o < G.length) (i : Nat) : tf_e (G.set o z) i = if i = o then z else tf_e G i := by
  unfold tf_e
  rw [List.getD_eq_getElem?_getD, List.getD_eq_getElem?_getD]
  by_cases hi : i = o
  · subst hi
    rw [List.getElem?_set_self h, if_pos rfl]
    rfl
  · rw [List.getElem?_set_ne (Ne.symm hi), if_neg hi]
theorem tf_ws_sr {D : tf_D} {ad : Nat → Nat} {G : tf_G} {S : tf_Sg} {o : Nat} {z : Nat × Nat × List Nat} (h4 : 4 ≤ o) (hlt : o < G.length) : (tf_ws D ad G S).set (o - 4) (ad o, tf_cell D ad S o z) = tf_ws D ad (G.set o z) S := by
  apply List.ext_getElem?
  intro k
  have hlen : (tf_ws D ad G S).length = G.length - 4 := by unfold tf_ws; rw [List.length_map, List.length_range]
  by_cases hk : k = o - 4
  · subst hk
    rw [List.getElem?_set_self (by omega), tf_ws_at h4 (by rw [List.length_set]; exact hlt), tf_e_set hlt, if_pos rfl]
  · rw [List.getElem?_set_ne (Ne.symm hk)]
    unfold tf_ws
    rw [List.getElem?_map, List.getElem?_map, List.length_set]
    by_cases hr : k < G.length - 4
    · rw [List.getElem?_range hr]
      simp only [Option.map_some]
      rw [tf_e_set hlt, if_neg (by omega)]
    · rw [List.getElem?_eq_none (by simpa using hr)]
      rfl
theorem tf_ro_sr {G0 : tf_G} {S0 : tf_Sg} {G : tf_G} {S : tf_Sg} {o k v : Nat} (hr : tf_ro G0 S0 G S) (h : o < G.length) (hv : v < G.length) : tf_ro G0 S0 (tf_sr G o k v) S := by
  have ht : ∀ i, tf_tg (tf_sr G o k v) i = tf_tg G i ∧ tf_ln (tf_sr G o k v) i = tf_ln G i := by
    intro i
    unfold tf_tg tf_ln tf_sr
    rw [tf_e_set h]
    by_cases hi : i = o
    · rw [if_pos hi, hi]; exact ⟨rfl, rfl⟩
    · rw [if_neg hi]; exact ⟨rfl, rfl⟩
  have hl : (tf_sr G o k v).length = G.length := by unfold tf_sr; rw [List.length_set]
  refine ⟨fun i hi => ?_, fun i hi => by rw [(ht i).1]; exact hr.2.1 i hi, by rw [hl]; exact hr.2.2.1, hr.2.2.2.1, fun i j => ?_⟩
  · rw [(ht i).1] at hi
    rw [(ht i).2]
    exact hr.1 i hi
  · rw [hl]
    unfold tf_rf tf_sr
    rw [tf_e_set h]
    by_cases hi : i = o
    · rw [if_pos hi]
      show ((tf_e G o).2.2.set k v).getD j 0 < _
      rw [List.getD_eq_getElem?_getD]
      by_cases hj : j = k
      · subst hj
        by_cases hlt : j < (tf_e G o).2.2.length
        · rw [List.getElem?_set_self hlt]; exact hv
        · rw [List.getElem?_eq_none (by rw [List.length_set]; omega)]
          show 0 < _
          omega
      · rw [List.getElem?_set_ne (Ne.symm hj), ← List.getD_eq_getElem?_getD]
        exact hr.2.2.2.2 o j
    · rw [if_neg hi]
      exact hr.2.2.2.2 i j
theorem tf_hag_sr {ad ad0 : Nat → Nat} {G0 G : tf_G} {o k v : Nat} (hag : ∀ i, i < G0.length ∨ G.length ≤ i → ad i = ad0 i) : ∀ i, i < G0.length ∨ (tf_sr G o k v).length ≤ i → ad i = ad0 i := by
  unfold tf_sr
  rw [List.length_set]
  exact hag
theorem tf_fs_sr {ad : Nat → Nat} {S : tf_Sg} {o k v : Nat} {e : Nat × Nat × List Nat} (hk : k < (tf_cl e.1).2.2) (hr : tf_isr e.1 k = true) (hl : k < e.2.2.length) (hv : v ≠ 0) : (tf_fs ad S o e).set k (.ref (ad v)) = tf_fs ad S o (e.1, e.2.1, e.2.2.set k v) := by
  apply List.ext_getElem?
  intro j
  by_cases hj : j = k
  · subst hj
    rw [List.getElem?_set_self (by unfold tf_fs; rw [List.length_map, List.length_range]; exact hk), tf_fs_at (e := (e.1, e.2.1, e.2.2.set j v)) hk]
    simp only [hr, if_true]
    rw [List.getD_eq_getElem?_getD, List.getElem?_set_self hl]
    unfold tf_rv
    simp [hv]
  · rw [List.getElem?_set_ne (Ne.symm hj)]
    unfold tf_fs
    rw [List.getElem?_map, List.getElem?_map]
    by_cases hr : j < (tf_cl e.1).2.2
    · rw [List.getElem?_range hr]
      simp only [Option.map_some]
      rw [List.getD_eq_getElem?_getD, List.getD_eq_getElem?_getD, List.getElem?_set_ne (Ne.symm hj)]
    · rw [List.getElem?_eq_none (by simpa using hr)]
      rfl
theorem tf_fin : ∀ ci, ci < 9 → ∀ k, k < (tf_cl ci).2.2 → tf_isr ci k = true → ((tf_cl ci).2.1 k).2.2.2 = true ∧ ((tf_cl ci).2.1 k).1 = (tf_cl ci).1 := by decide +kernel
theorem tf_refty {t : FieldType} (h : t.isReference = true) (a : Nat) : narrow t (.ref a) = .ref a ∧ fits t (.ref a) = true := by
  cases t <;> first | (cases h; done) | exact ⟨rfl, rfl⟩
end
section
theorem tf_kputr {x : tf_X} {cc : ByteArray} {own : String} {nL d mc ms : Nat} (hx : tf_C x cc own nL d mc ms true) {F : tf_F} {T : tf_T} (hFT : 1 ≤ d ∧ tf_okF own F ∧ tf_okT cc T) {G : tf_G} {S : tf_Sg} {kc ks nx tg pc idx o w ci k : Nat} {v : Int32} {ls : List (Option Value)} {st : List Value}
    (hat : tf_at pc T = some (.putfield idx, nx, tg, v)) (hfl : tf_fl idx F = some (ci, k)) (hc : ci < 9 ∧ tf_isr ci k = true ∧ own = (tf_cl ci).1) (htg : tf_tg G o = ci) (hl2 : k < (tf_e G o).2.2.length) (hw : w ≠ 0 ∧ w < G.length)
    (kk : tf_K x kc ks (tf_sr G o k w) S nx ls st) : tf_K x kc ks G S pc ls (.ref w :: .ref o :: st) := by
  obtain ⟨p, l, e, R, s, m, args, below, meth, c0, A, Q, D, ad0, G0, S0⟩ := x
  obtain ⟨hxx, hb, hml, hown, hts, hfr, hlo, hmc, hms, hA, hini⟩ := hx
  intro ad H locs lsC hI hl
  obtain ⟨hdg, rfl⟩ := tf_dc (tf_dec hFT.2.2 hat) 2 rfl
  obtain ⟨hag, hP, hK, hD, hS, hRo, hro⟩ := hI
  obtain ⟨hc9, hr, ho⟩ := hc
  obtain ⟨f1, f2, f3⟩ := tf_okF_f hFT.2.1 hfl hc9
  obtain ⟨g1, g2⟩ := tf_4 hro (show tf_tg G o < 14 by omega)
  have hat2 := tf_ws_at (D := D) (ad := ad) (G := G) (S := S) g1 g2
  have htg2 : (tf_e G o).1 = ci := htg
  rw [tf_cell_o (show tf_tg G o < 9 by omega), htg2] at hat2
  obtain ⟨z1, z2⟩ := tf_fin ci hc9 k f2 hr
  have hrt : (tf_ty ci k).isReference = true := by rw [← tf_isr_ok ci hc9 k f2]; exact hr
  obtain ⟨y1, y2⟩ := tf_refty hrt (ad w)
  refine va_putF (D := D.1) (ci := ci) (v := .ref (ad w)) (ty := tf_ty ci k) hxx hb hts (tf_hin ci hc9) (tf_ty ci) (tf_hty ci hc9) (tf_hnm ci hc9) hown hK hP hD hS (o - 4) hat2 (tf_hcl ci hc9) k f2 (hts _ f1) (fun u hu => by rw [f3] at hu; exact hu) z1 (hini rfl) (by rw [z2, ho]) (tf_hty ci hc9 k f2) y1 y2 (by unfold tf_fs; rw [List.length_map, List.length_range, htg2]; exact f2) hdg (fun H1 locs1 hP1 hD1 hS1 => ?_)
  have hset : (tf_ws D ad G S).set (o - 4) (ad o, .inr (ci, (tf_fs ad S o (tf_e G o)).set k (.ref (ad w)))) = tf_ws D ad (tf_sr G o k w) S := by
    rw [tf_fs_sr (by rw [htg2]; exact f2) (by rw [htg2]; exact hr) hl2 hw.1]
    have hcell := tf_cell_o (D := D) (ad := ad) (S := S) (o := o) (e := ((tf_e G o).1, (tf_e G o).2.1, (tf_e G o).2.2.set k w)) (show tf_tg G o < 9 by omega)
    rw [show ((tf_e G o).1, (tf_e G o).2.1, (tf_e G o).2.2.set k w).1 = ci from htg2] at hcell
    unfold tf_sr
    rw [htg2, ← hcell]
    exact tf_ws_sr g1 g2
  rw [hset] at hP1 hD1
  exact kk ad H1 locs1 lsC ⟨tf_hag_sr hag, hP1, hK, hD1, hS1, hRo, tf_ro_sr hro g2 hw.2⟩ hl
/-- which class's objects a row of references holds -/
def tf_ac : Nat → Nat
  | 11 => 0
  | 12 => 1
  | _ => 3
theorem tf_kaast {x : tf_X} {cc : ByteArray} {own : String} {nL d mc ms : Nat} {ini : Bool} (hx : tf_C x cc own nL d mc ms ini) {F : tf_F} {T : tf_T} (hFT : 1 ≤ d ∧ tf_okF own F ∧ tf_okT cc T) {G : tf_G} {S : tf_Sg} {kc ks nx tg pc a w : Nat} {v i : Int32} {ls : List (Option Value)} {st : List Value}
    (hat : tf_at pc T = some (.aastore, nx, tg, v)) (htg : tf_tg G a = 11 ∨ tf_tg G a = 12 ∨ tf_tg G a = 13) (htw : tf_tg G w = tf_ac (tf_tg G a)) (hin : vp_in i (tf_ln G a)) (hl2 : i.toNatClampNeg < (tf_e G a).2.2.length)
    (kk : tf_K x kc ks (tf_sr G a i.toNatClampNeg w) S nx ls st) : tf_K x kc ks G S pc ls (.ref w :: .int i :: .ref a :: st) := by
  obtain ⟨p, l, e, R, s, m, args, below, meth, c0, A, Q, D, ad0, G0, S0⟩ := x
  obtain ⟨hxx, hb, hml, hown, hts, hfr, hlo, hmc, hms, hA, hini⟩ := hx
  intro ad H locs lsC hI hl
  obtain ⟨hdg, rfl⟩ := tf_dc (tf_dec hFT.2.2 hat) 0 rfl
  obtain ⟨hag, hP, hK, hD, hS, hRo, hro⟩ := hI
  obtain ⟨g1, g2⟩ := tf_4 hro (show tf_tg G a < 14 by omega)
  have hat2 := tf_ws_at (D := D) (ad := ad) (G := G) (S := S) g1 g2
  rw [tf_cell_r (show 11 ≤ tf_tg G a by omega)] at hat2
  have hcw : tf_ac (tf_tg G a) < 9 := by rcases htg with h | h | h <;> rw [h] <;> decide
  obtain ⟨w1, w2⟩ := tf_4 hro (show tf_tg G w < 14 by omega)
  have hatw := tf_ws_at (D := D) (ad := ad) (G := G) (S := S) w1 w2
  rw [tf_cell_o (show tf_tg G w < 9 by omega), show (tf_e G w).1 = tf_ac (tf_tg G a) from htw] at hatw
  have hset : (tf_ws D ad G S).set (a - 4) (ad a, .inl (D.2 (tf_e G a).1, (tf_e G a).2.1, .inr (.inr (.inr (.inr (va_up (tf_ra ad (tf_e G a)) i.toNatClampNeg (some (ad w)))))))) = tf_ws D ad (tf_sr G a i.toNatClampNeg w) S := by
    have hcell := tf_cell_r (D := D) (ad := ad) (S := S) (o := a) (e := ((tf_e G a).1, (tf_e G a).2.1, (tf_e G a).2.2.set i.toNatClampNeg w)) (show 11 ≤ tf_tg G a by omega)
    have hra : tf_ra ad ((tf_e G a).1, (tf_e G a).2.1, (tf_e G a).2.2.set i.toNatClampNeg w) = va_up (tf_ra ad (tf_e G a)) i.toNatClampNeg (some (ad w)) := by
      funext j
      unfold tf_ra va_up
      by_cases hj : j = i.toNatClampNeg
      · subst hj
        simp only [if_true]
        rw [List.getD_eq_getElem?_getD, List.getElem?_set_self hl2]
        rw [if_neg (by simp; omega)]
        rfl
      · rw [if_neg hj]
        simp only
        rw [List.getD_eq_getElem?_getD, List.getElem?_set_ne (Ne.symm hj), ← List.getD_eq_getElem?_getD]
    rw [hra] at hcell
    rw [← hcell]
    exact tf_ws_sr g1 g2
  have fin : ∀ (H1 : Heap) (locs1 : List Loc), va_P D.1 vwCl ((tf_ws D ad G S).set (a - 4) (ad a, .inl (D.2 (tf_e G a).1, (tf_e G a).2.1, .inr (.inr (.inr (.inr (va_up (tf_ra ad (tf_e G a)) i.toNatClampNeg (some (ad w))))))))) H1 → va_D A ((tf_ws D ad G S).set (a - 4) (ad a, .inl (D.2 (tf_e G a).1, (tf_e G a).2.1, .inr (.inr (.inr (.inr (va_up (tf_ra ad (tf_e G a)) i.toNatClampNeg (some (ad w))))))))) → va_S A s.heap H1 locs1 → W p l e R s m args below meth c0 H1 locs1 kc ks Q (F0 m (pc + 1) lsC (st.map (tf_tv ad))) := by
    intro H1 locs1 hP1 hD1 hS1
    rw [hset] at hP1 hD1
    exact kk ad H1 locs1 lsC ⟨tf_hag_sr hag, hP1, hK, hD1, hS1, hRo, tf_ro_sr hro g2 w2⟩ hl
  rcases htg with h | h | h
  · have ha : (tf_e G a).1 = 11 := h
    rw [ha] at hat2 fin
    rw [h] at hatw
    exact va_astq (D := D.1) (r := (RX0, TX0, 2)) hxx hb hK hP hD hS (a - 4) 2 (w - 4) 0 hat2 rfl hatw rfl hin hdg fin
  · have ha : (tf_e G a).1 = 12 := h
    rw [ha] at hat2 fin
    rw [h] at hatw
    exact va_astq (D := D.1) (r := (RX1, TX1, 1)) hxx hb hK hP hD hS (a - 4) 3 (w - 4) 1 hat2 rfl hatw rfl hin hdg fin
  · have ha : (tf_e G a).1 = 13 := h
    rw [ha] at hat2 fin
    rw [h] at hatw
    exact va_astq (D := D.1) (r := (RX5, TX5, 2)) hxx hb hK hP hD hS (a - 4) 4 (w - 4) 3 hat2 rfl hatw rfl hin hdg fin
/-! calls that make nothing -/
theorem tf_cS {x : tf_X} {cc : ByteArray} {own : String} {nL d mc ms : Nat} {ini : Bool} (hx : tf_C x cc own nL d mc ms ini) {F : tf_F} {T : tf_T} (hFT : 1 ≤ d ∧ tf_okF own F ∧ tf_okT cc T) {G : tf_G} {S S' : tf_Sg} {kc ks d1 : Nat} {M : tf_M} {As rest st2 : List Value} {r : Option Value} {idx nx tg pc : Nat} {v : Int32} {ls : List (Option Value)} {st : List Value}
    (hF : tf_Fn M d1 0 0 G S As G S' r) (hat : tf_at pc T = some (.invokestatic idx, nx, tg, v)) (hL : tf_okS own idx As.length M) (hst : st = As.reverse ++ rest) (h2 : tf_room rest = true ∧ d1 + 1 ≤ d ∧ kc ≤ mc ∧ ks ≤ ms ∧ ls.length = nL ∧ r.toList ++ rest = st2)
    (kk : tf_K x kc ks G S' nx ls st2) : tf_K x kc ks G S pc ls st :=
  tf_kS hx hFT hF hat hL hst h2.1 ⟨h2.2.1, h2.2.2.1, h2.2.2.2.1, h2.2.2.2.2.1⟩ tf_vs_same tf_vs_same (by rw [h2.2.2.2.2.2]; exact kk)
theorem tf_cN {x : tf_X} {cc : ByteArray} {own : String} {nL d mc ms : Nat} {ini : Bool} (hx : tf_C x cc own nL d mc ms ini) {F : tf_F} {T : tf_T} (hFT : 1 ≤ d ∧ tf_okF own F ∧ tf_okT cc T) {G : tf_G} {S S' : tf_Sg} {kc ks d1 : Nat} {M : tf_M} {As rest st2 : List Value} {r : Option Value} {idx nx tg pc : Nat} {v : Int32} {ls : List (Option Value)} {st : List Value}
    (hF : tf_Fn M d1 0 0 G S As G S' r) (hat : tf_at pc T = some (.invokestatic idx, nx, tg, v)) (hL : tf_okN own idx As.length M) (hst : st = As.reverse ++ rest) (h2 : tf_room rest = true ∧ d1 + 1 ≤ d ∧ kc ≤ mc ∧ ks ≤ ms ∧ ls.length = nL ∧ r.toList ++ rest = st2)
    (kk : tf_K x kc ks G S' nx ls st2) : tf_K x kc ks G S pc ls st :=
  tf_kN hx hFT hF hat hL hst h2.1 ⟨h2.2.1, h2.2.2.1, h2.2.2.2.1, h2.2.2.2.2.1⟩ tf_vs_same tf_vs_same (by rw [h2.2.2.2.2.2]; exact kk)
theorem tf_cV {x : tf_X} {cc : ByteArray} {own : String} {nL d mc ms : Nat} {ini : Bool} (hx : tf_C x cc own nL d mc ms ini) {F : tf_F} {T : tf_T} (hFT : 1 ≤ d ∧ tf_okF own F ∧ tf_okT cc T) {G : tf_G} {S S' : tf_Sg} {kc ks d1 ci o : Nat} {M : tf_M} {As rest st2 : List Value} {r : Option Value} {idx nx tg pc : Nat} {v : Int32} {ls : List (Option Value)} {st : List Value}
    (hF : tf_Fn M d1 0 0 G S (.ref o :: As) G S' r) (hat : tf_at pc T = some (.invokevirtual idx, nx, tg, v)) (hL : tf_okV own idx As.length ci M) (htg : tf_tg G o = ci) (hst : st = As.reverse ++ .ref o :: rest) (h2 : tf_room rest = true ∧ d1 + 1 ≤ d ∧ kc ≤ mc ∧ ks ≤ ms ∧ ls.length = nL ∧ r.toList ++ rest = st2)
    (kk : tf_K x kc ks G S' nx ls st2) : tf_K x kc ks G S pc ls st :=
  tf_kV hx hFT hF hat hL htg hst h2.1 ⟨h2.2.1, h2.2.2.1, h2.2.2.2.1, h2.2.2.2.2.1⟩ tf_vs_same tf_vs_same (by rw [h2.2.2.2.2.2]; exact kk)
/-! switches -/
theorem tf_dcS {cc : ByteArray} {pc : Nat} {i : Instr} {nx tg : Nat} {v : Int32} (h : tf_ok2 cc (pc, i, nx, tg, v) = true) : decode cc pc = .ok (i, nx - pc) := by
  simp only [tf_ok2, Bool.and_eq_true, decide_eq_true_eq] at h
  exact h.1.1
theorem tf_swI {x : tf_X} {cc : ByteArray} {own : String} {nL d mc ms : Nat} {ini : Bool} (hx : tf_C x cc own nL d mc ms ini) {F : tf_F} {T : tf_T} (hFT : 1 ≤ d ∧ tf_okF own F ∧ tf_okT cc T) {G : tf_G} {S : tf_Sg} {kc ks nx tg pc : Nat} {v y : Int32} {ls : List (Option Value)} {st : List Value} {dflt lo hi off : Int} {offs : Array Int} (tgt : Nat)
    (hat : tf_at pc T = some (.tableswitch dflt lo hi offs, nx, tg, v)) (h1 : ¬ y.toInt < lo ∧ ¬ hi < y.toInt ∧ offs[(y.toInt - lo).toNat]? = some off ∧ (pc : Int) + off = (tgt : Int))
    (kk : tf_K x kc ks G S tgt ls st) : tf_K x kc ks G S pc ls (.int y :: st) := by
  obtain ⟨p, l, e, R, s, m, args, below, meth, c0, A, Q, D, ad0, G0, S0⟩ := x
  obtain ⟨hxx, hb, -⟩ := hx
  intro ad H locs lsC hI hl
  exact lv_tableIn hxx hb (tf_dcS (tf_dec hFT.2.2 hat)) h1.1 h1.2.1 h1.2.2.1 h1.2.2.2 (kk ad H locs lsC hI hl)
theorem tf_swO {x : tf_X} {cc : ByteArray} {own : String} {nL d mc ms : Nat} {ini : Bool} (hx : tf_C x cc own nL d mc ms ini) {F : tf_F} {T : tf_T} (hFT : 1 ≤ d ∧ tf_okF own F ∧ tf_okT cc T) {G : tf_G} {S : tf_Sg} {kc ks nx tg pc : Nat} {v y : Int32} {ls : List (Option Value)} {st : List Value} {dflt lo hi : Int} {offs : Array Int} (tgt : Nat)
    (hat : tf_at pc T = some (.tableswitch dflt lo hi offs, nx, tg, v)) (h1 : (y.toInt < lo ∨ hi < y.toInt) ∧ (pc : Int) + dflt = (tgt : Int))
    (kk : tf_K x kc ks G S tgt ls st) : tf_K x kc ks G S pc ls (.int y :: st) := by
  obtain ⟨p, l, e, R, s, m, args, below, meth, c0, A, Q, D, ad0, G0, S0⟩ := x
  obtain ⟨hxx, hb, -⟩ := hx
  intro ad H locs lsC hI hl
  exact lv_tableOut hxx hb (tf_dcS (tf_dec hFT.2.2 hat)) h1.1 h1.2 (kk ad H locs lsC hI hl)
end
section
/-! words for rows of numbers with a length (Series) -/
theorem tf_cl_nI {n : Nat} (h : n < 2147483648) : (nI n).toNatClampNeg = n := nI_clamp h
theorem tf_set_s {S : tf_Sg} {o k : Nat} {v : Int32} : tf_set S o k v o k = v := by simp [tf_set]
theorem tf_set_n {S : tf_Sg} {o k a : Nat} {v : Int32} (h : a ≠ o) : tf_set S o k v a = S a := tf_set_ne a h
theorem tf_set_k {S : tf_Sg} {o k j : Nat} {v : Int32} (h : j ≠ k) : tf_set S o k v o j = S o j := by simp [tf_set, h]
/-- the shape of a Series -/
def tf_se (G : tf_G) (o cap : Nat) : Prop := tf_tg G o = 3 ∧ tf_tg G (tf_rf G o 0) = 9 ∧ tf_rf G o 0 ≠ 0 ∧ tf_ln G (tf_rf G o 0) = cap ∧ cap ≤ 48
theorem tf_se_ne {G : tf_G} {o cap : Nat} (h : tf_se G o cap) : tf_rf G o 0 ≠ o := by
  intro e
  have h1 := h.1
  have h2 := h.2.1
  rw [e] at h2
  omega
/-- the first n places are written, the length too -/
def tf_wr (S : tf_Sg) (o a n : Nat) (f : Nat → Int32) : tf_Sg := fun x j => if x = a then (if j < n then f j else S a j) else if x = o ∧ j = 1 then nI n else S x j
theorem tf_wr_ne {S : tf_Sg} {o a n x : Nat} {f : Nat → Int32} (h1 : x ≠ o) (h2 : x ≠ a) : tf_wr S o a n f x = S x := by
  funext j
  simp [tf_wr, h1, h2]
theorem tf_wr_0 {S : tf_Sg} {o a : Nat} {f : Nat → Int32} : tf_wr S o a 0 f = tf_set S o 1 0 ∨ o = a := by
  by_cases h : o = a
  · exact Or.inr h
  · refine Or.inl ?_
    funext x j
    unfold tf_wr tf_set
    by_cases hx : x = a
    · subst hx
      rw [if_pos rfl, if_neg (by omega), if_neg (fun q => h q.1.symm)]
    · rw [if_neg hx, nI_0]
theorem tf_wr_o {S : tf_Sg} {o a n : Nat} {f : Nat → Int32} (h : a ≠ o) : tf_wr S o a n f o 1 = nI n := by
  unfold tf_wr
  rw [if_neg (fun q => h q.symm), if_pos ⟨rfl, rfl⟩]
theorem tf_wr_a {S : tf_Sg} {o a n j : Nat} {f : Nat → Int32} (h : j < n) : tf_wr S o a n f a j = f j := by
  unfold tf_wr
  rw [if_pos rfl, if_pos h]
theorem tf_wr_s {S : tf_Sg} {o a n : Nat} {f : Nat → Int32} (h : a ≠ o) : tf_set (tf_set (tf_wr S o a n f) a n (f n)) o 1 (nI (n + 1)) = tf_wr S o a (n + 1) f := by
  funext x j
  by_cases hx : x = a
  · subst hx
    rw [tf_set_n h]
    by_cases hj : j = n
    · subst hj
      rw [tf_set_s, tf_wr_a (by omega)]
    · rw [tf_set_k hj]
      unfold tf_wr
      rw [if_pos rfl, if_pos rfl]
      by_cases hl : j < n
      · rw [if_pos hl, if_pos (by omega)]
      · rw [if_neg hl, if_neg (by omega)]
  · by_cases ho : x = o
    · subst ho
      by_cases hj : j = 1
      · subst hj
        rw [tf_set_s, tf_wr_o h]
      · rw [tf_set_k hj, tf_set_n hx]
        unfold tf_wr
        rw [if_neg hx, if_neg hx, if_neg (fun q => hj q.2), if_neg (fun q => hj q.2)]
    · rw [tf_set_n ho, tf_set_n hx, tf_wr_ne ho hx, tf_wr_ne ho hx]
/-- what at(i) answers -/
def tf_atv (G : tf_G) (S : tf_Sg) (o : Nat) (i : Int32) : Int32 := if ¬ i < 0 ∧ ¬ S o 1 ≤ i then S (tf_rf G o 0) i.toNatClampNeg else (-9)
theorem tf_atv_in {G : tf_G} {S : tf_Sg} {o n j : Nat} (hn : S o 1 = nI n) (hl : n < 2147483648) (h : j < n) : tf_atv G S o (nI j) = S (tf_rf G o 0) j := by
  unfold tf_atv
  rw [if_pos ⟨nI_pos (by omega), by rw [hn]; exact nI_ge h hl⟩, tf_cl_nI (by omega)]
theorem tf_atv_out {G : tf_G} {S : tf_Sg} {o n : Nat} {i : Int32} (hn : S o 1 = nI n) (h : i < 0 ∨ nI n ≤ i) : tf_atv G S o i = -9 := by
  unfold tf_atv
  rw [if_neg]
  rintro ⟨a, b⟩
  rw [hn] at b
  rcases h with h | h
  · exact a h
  · exact b h
theorem tf_nlt {i : Int32} {n c : Nat} (h0 : ¬ i < 0) (h : ¬ nI n ≤ i) (hn : n ≤ c) (hc : c < 2147483648) : vp_in i c := by
  obtain ⟨j, hj, rfl⟩ := nI_of h0
  have : ¬ n ≤ j := fun q => h (nI_le q hj)
  exact vp_in_nI (by omega) hc
/-! natural forms -/
theorem tf_add {x y : Int32} {a b : Nat} (hx : x = nI a) (hy : y = nI b) : x + y = nI (a + b) := by rw [hx, hy, nI_add]
theorem tf_mul {x y : Int32} {a b : Nat} (hx : x = nI a) (hy : y = nI b) : x * y = nI (a * b) := by rw [hx, hy, pk_mul]
theorem tf_sub {x y : Int32} {a b : Nat} (hx : x = nI a) (hy : y = nI b) (h : b ≤ a) : x - y = nI (a - b) := by rw [hx, hy, pk_sub h]
theorem tf_div {x y : Int32} {a d : Nat} (hx : x = nI a) (hy : y = nI d) (ha : a < 2147483648) (h0 : 0 < d) (hd : d < 2147483648) : x / y = nI (a / d) := by rw [hx, hy]; exact pk_div ha h0 hd
theorem tf_rem {x y : Int32} {a d : Nat} (hx : x = nI a) (hy : y = nI d) (ha : a < 2147483648) (h0 : 0 < d) (hd : d < 2147483648) : x - x / y * y = nI (a % d) := by rw [hx, hy]; exact pk_rem ha h0 hd
theorem tf_cln {x : Int32} {n : Nat} (hx : x = nI n) (hn : n < 2147483648) : x.toNatClampNeg = n := by rw [hx]; exact nI_clamp hn
theorem tf_rd {S : tf_Sg} {a : Nat} {f : Nat → Nat} (hs : ∀ k, S a k = nI (f k)) {x : Int32} {n : Nat} (hx : x = nI n) (hn : n < 2147483648) : S a x.toNatClampNeg = nI (f n) := by rw [tf_cln hx hn, hs]
theorem tf_in {x : Int32} {n N M : Nat} (hx : x = nI n) (hM : M = N) (h : n < N) (hN : N < 2147483648) : vp_in x M := by rw [hx, hM]; exact vp_in_nI h hN
theorem tf_eqT {x y : Int32} {a b : Nat} (hx : x = nI a) (hy : y = nI b) (h : a = b) : x = y := by rw [hx, hy, h]
theorem tf_neF {x y : Int32} {a b : Nat} (hx : x = nI a) (hy : y = nI b) (h : a = b) : ¬ x ≠ y := fun q => q (tf_eqT hx hy h)
theorem tf_eqF {x y : Int32} {a b : Nat} (hx : x = nI a) (hy : y = nI b) (h : a ≠ b) (ha : a < 2147483648) (hb : b < 2147483648) : ¬ x = y := by rw [hx, hy]; exact fun q => h ((nI_eq ha hb).mp q)
theorem tf_ltT {x y : Int32} {a b : Nat} (hx : x = nI a) (hy : y = nI b) (h : a < b) (ha : a < 2147483648) (hb : b < 2147483648) : x < y := by rw [hx, hy]; exact nI_lt h hb
theorem tf_ltF {x y : Int32} {a b : Nat} (hx : x = nI a) (hy : y = nI b) (h : b ≤ a) (ha : a < 2147483648) (hb : b < 2147483648) : ¬ x < y := by rw [hx, hy]; exact nI_nlt h ha
theorem tf_leT {x y : Int32} {a b : Nat} (hx : x = nI a) (hy : y = nI b) (h : a ≤ b) (ha : a < 2147483648) (hb : b < 2147483648) : x ≤ y := by rw [hx, hy]; exact nI_le h hb
theorem tf_leF {x y : Int32} {a b : Nat} (hx : x = nI a) (hy : y = nI b) (h : b < a) (ha : a < 2147483648) (hb : b < 2147483648) : ¬ x ≤ y := by rw [hx, hy]; exact nI_ge h ha
/-- fewer locals are known -/
def tf_lss : List (Option Value) → List (Option Value) → Prop
  | [], [] => True
  | none :: a, _ :: b => tf_lss a b
  | some v :: a, w :: b => w = some v ∧ tf_lss a b
  | _, _ => False
theorem tf_lss_at : ∀ {a b : List (Option Value)}, tf_lss a b → a.length = b.length ∧ ∀ (i : Nat) (v : Value), a[i]? = some (some v) → b[i]? = some (some v)
  | [], [], _ => ⟨rfl, fun i v h => by simp at h⟩
  | [], _ :: _, h => h.elim
  | none :: a, [], h => h.elim
  | some _ :: a, [], h => h.elim
  | none :: a, w :: b, h => by
    obtain ⟨h1, h2⟩ := tf_lss_at (a := a) (b := b) h
    refine ⟨by simp [h1], fun i v hi => ?_⟩
    cases i with
    | zero => simp at hi
    | succ i => simpa using h2 i v (by simpa using hi)
  | some u :: a, w :: b, h => by
    obtain ⟨h1, h2⟩ := tf_lss_at (a := a) (b := b) h.2
    refine ⟨by simp [h1], fun i v hi => ?_⟩
    cases i with
    | zero =>
      have hw := h.1
      simp at hi
      subst hi
      simp [hw]
    | succ i => simpa using h2 i v (by simpa using hi)
theorem tf_fgt {x : tf_X} {kc ks : Nat} {G : tf_G} {S : tf_Sg} {pc : Nat} {ls : List (Option Value)} {st : List Value} (ls' : List (Option Value)) (h : tf_lss ls' ls) (kk : tf_K x kc ks G S pc ls' st) : tf_K x kc ks G S pc ls st := by
  intro ad H locs lsC hI hl
  obtain ⟨h1, h2⟩ := tf_lss_at h
  exact kk ad H locs lsC hI ⟨rfl, by rw [h1]; exact hl.2.1, hl.2.2.1, fun i v hi => hl.2.2.2 i v (h2 i v hi)⟩
end
section
def fX5 : tf_F := [(3, 102, 0), (9, 101, 1), (15, 3, 0), (21, 3, 1)]
set_option maxRecDepth 100000 in
theorem okfX5 : tf_okF RX5 fX5 := by unfold tf_okF; decide +kernel

def tX5_at : tf_T := [(0, .iload_n 1, 1, 0, 0),
  (1, .ifCond .lt 20, 4, 21, 0),
  (4, .iload_n 1, 5, 0, 0),
  (5, .aload_n 0, 6, 0, 0),
  (6, .getfield 21, 9, 0, 0),
  (9, .if_icmp .ge 12, 12, 21, 0),
  (12, .aload_n 0, 13, 0, 0),
  (13, .getfield 15, 16, 0, 0),
  (16, .iload_n 1, 17, 0, 0),
  (17, .iaload, 18, 0, 0),
  (18, .goto 5, 21, 23, 0),
  (21, .bipush (-9), 23, 0, (-9)),
  (23, .ireturn, 24, 0, 0)]
set_option maxRecDepth 100000 in
theorem okX5_at : tf_okT cX5_at tX5_at := by unfold tf_okT; decide +kernel
theorem ftX5_at : 1 ≤ 1 ∧ tf_okF RX5 fX5 ∧ tf_okT cX5_at tX5_at := ⟨by decide, okfX5, okX5_at⟩
def mX5_at : tf_M := (yX5_at, cX5_at, 2, (some .int))

def tX5_add : tf_T := [(0, .aload_n 0, 1, 0, 0),
  (1, .getfield 21, 4, 0, 0),
  (4, .aload_n 0, 5, 0, 0),
  (5, .getfield 15, 8, 0, 0),
  (8, .arraylength, 9, 0, 0),
  (9, .if_icmp .ge 23, 12, 32, 0),
  (12, .aload_n 0, 13, 0, 0),
  (13, .getfield 15, 16, 0, 0),
  (16, .aload_n 0, 17, 0, 0),
  (17, .getfield 21, 20, 0, 0),
  (20, .iload_n 1, 21, 0, 0),
  (21, .iastore, 22, 0, 0),
  (22, .aload_n 0, 23, 0, 0),
  (23, .dup, 24, 0, 0),
  (24, .getfield 21, 27, 0, 0),
  (27, .iconst 1, 28, 0, 1),
  (28, .iadd, 29, 0, 0),
  (29, .putfield 21, 32, 0, 0),
  (32, .return_, 33, 0, 0)]
set_option maxRecDepth 100000 in
theorem okX5_add : tf_okT cX5_add tX5_add := by unfold tf_okT; decide +kernel
theorem ftX5_add : 1 ≤ 1 ∧ tf_okF RX5 fX5 ∧ tf_okT cX5_add tX5_add := ⟨by decide, okfX5, okX5_add⟩
def mX5_add : tf_M := (yX5_add, cX5_add, 2, none)

def tX5_clear : tf_T := [(0, .aload_n 0, 1, 0, 0),
  (1, .iconst 0, 2, 0, 0),
  (2, .putfield 21, 5, 0, 0),
  (5, .return_, 6, 0, 0)]
set_option maxRecDepth 100000 in
theorem okX5_clear : tf_okT cX5_clear tX5_clear := by unfold tf_okT; decide +kernel
theorem ftX5_clear : 1 ≤ 1 ∧ tf_okF RX5 fX5 ∧ tf_okT cX5_clear tX5_clear := ⟨by decide, okfX5, okX5_clear⟩
def mX5_clear : tf_M := (yX5_clear, cX5_clear, 1, none)

def tX5_size : tf_T := [(0, .aload_n 0, 1, 0, 0),
  (1, .getfield 21, 4, 0, 0),
  (4, .ireturn, 5, 0, 0)]
set_option maxRecDepth 100000 in
theorem okX5_size : tf_okT cX5_size tX5_size := by unfold tf_okT; decide +kernel
theorem ftX5_size : 1 ≤ 1 ∧ tf_okF RX5 fX5 ∧ tf_okT cX5_size tX5_size := ⟨by decide, okfX5, okX5_size⟩
def mX5_size : tf_M := (yX5_size, cX5_size, 1, (some .int))

def tX5_copyFrom : tf_T := [(0, .aload_n 0, 1, 0, 0),
  (1, .invokevirtual 25, 4, 0, 0),
  (4, .iconst 0, 5, 0, 0),
  (5, .istore_n 2, 6, 0, 0),
  (6, .iload_n 2, 7, 0, 0),
  (7, .aload_n 1, 8, 0, 0),
  (8, .getfield 21, 11, 0, 0),
  (11, .if_icmp .ge 18, 14, 29, 0),
  (14, .aload_n 0, 15, 0, 0),
  (15, .aload_n 1, 16, 0, 0),
  (16, .iload_n 2, 17, 0, 0),
  (17, .invokevirtual 28, 20, 0, 0),
  (20, .invokevirtual 32, 23, 0, 0),
  (23, .iinc 2 1, 26, 0, 1),
  (26, .goto (-20), 29, 6, 0),
  (29, .return_, 30, 0, 0)]
set_option maxRecDepth 100000 in
theorem okX5_copyFrom : tf_okT cX5_copyFrom tX5_copyFrom := by unfold tf_okT; decide +kernel
theorem ftX5_copyFrom : 1 ≤ 2 ∧ tf_okF RX5 fX5 ∧ tf_okT cX5_copyFrom tX5_copyFrom := ⟨by decide, okfX5, okX5_copyFrom⟩
def mX5_copyFrom : tf_M := (yX5_copyFrom, cX5_copyFrom, 3, none)

def tX5_init : tf_T := [(0, .aload_n 0, 1, 0, 0),
  (1, .invokespecial 3, 4, 0, 0),
  (4, .aload_n 0, 5, 0, 0),
  (5, .iload_n 1, 6, 0, 0),
  (6, .iconst 0, 7, 0, 0),
  (7, .invokestatic 9, 10, 0, 0),
  (10, .newarray .int, 12, 0, 0),
  (12, .putfield 15, 15, 0, 0),
  (15, .aload_n 0, 16, 0, 0),
  (16, .iconst 0, 17, 0, 0),
  (17, .putfield 21, 20, 0, 0),
  (20, .return_, 21, 0, 0)]
set_option maxRecDepth 100000 in
theorem okX5_init : tf_okT cX5_init tX5_init := by unfold tf_okT; decide +kernel
theorem ftX5_init : 1 ≤ 1 ∧ tf_okF RX5 fX5 ∧ tf_okT cX5_init tX5_init := ⟨by decide, okfX5, okX5_init⟩
def mX5_init : tf_M := (yX5_init, cX5_init, 2, none)

set_option maxRecDepth 100000 in
theorem lX5_25 : tf_okV RX5 25 0 3 mX5_clear := by unfold tf_okV tf_okL; decide +kernel

set_option maxRecDepth 100000 in
theorem lX5_28 : tf_okV RX5 28 1 3 mX5_at := by unfold tf_okV tf_okL; decide +kernel

set_option maxRecDepth 100000 in
theorem lX5_32 : tf_okV RX5 32 1 3 mX5_add := by unfold tf_okV tf_okL; decide +kernel

set_option maxHeartbeats 1000000 in
theorem c_size {G : tf_G} {S : tf_Sg} {o : Nat} (h1 : tf_tg G o = 3) : tf_Fn mX5_size 1 0 0 G S [.ref o] G S (some (.int (S o 1))) := by
  refine tf_Fn_of (own := RX5) false ⟨by decide, rfl, by decide⟩ (Nat.le_of_ble_eq_true rfl) trivial (fun x hx hR => ?_)
  show tf_K x 0 0 G S 0 [some (.ref o)] []
  refine tf_go hx ftX5_size 2 [] 4 [some (.ref o)] [.int (S o 1)] S rfl ⟨by decide, by decide, rfl⟩ ⟨trivial, (by first | assumption | rfl | decide | omega)⟩ ?_
  exact tf_ret ftX5_size hR rfl ⟨by decide, by decide⟩ rfl rfl rfl

set_option maxHeartbeats 1000000 in
theorem c_at {G : tf_G} {S : tf_Sg} {o cap n : Nat} (i : Int32) (hs : tf_se G o cap) (hn : S o 1 = nI n) (hle : n ≤ cap) : tf_Fn mX5_at 1 0 0 G S [.ref o, .int i] G S (some (.int (tf_atv G S o i))) := by
  obtain ⟨h1, h2, h3, h4, h5⟩ := id hs
  refine tf_Fn_of (own := RX5) false ⟨by decide, rfl, by decide⟩ (Nat.le_of_ble_eq_true rfl) trivial (fun x hx hR => ?_)
  show tf_K x 0 0 G S 0 [some (.ref o), some (.int i)] []
  by_cases c1 : i < 0
  · refine tf_go hx ftX5_at 3 [true] 23 [some (.ref o), some (.int i)] [.int (-9)] S rfl ⟨by decide, by decide, rfl⟩ ⟨trivial, (by first | assumption | rfl | decide | omega)⟩ ?_
    exact tf_ret ftX5_at hR rfl ⟨by decide, by decide⟩ rfl rfl (by unfold tf_atv; rw [if_neg (by rintro ⟨h, -⟩; exact h c1)]; rfl)
  · by_cases c2 : S o 1 ≤ i
    · refine tf_go hx ftX5_at 7 [false, true] 23 [some (.ref o), some (.int i)] [.int (-9)] S rfl ⟨by decide, by decide, rfl⟩ ⟨⟨⟨trivial, (by first | assumption | rfl | decide | omega)⟩, (by first | assumption | rfl | decide | omega)⟩, (by first | assumption | rfl | decide | omega)⟩ ?_
      exact tf_ret ftX5_at hR rfl ⟨by decide, by decide⟩ rfl rfl (by unfold tf_atv; rw [if_neg (by rintro ⟨-, h⟩; exact h c2)]; rfl)
    · have h6 : vp_in i (tf_ln G (tf_rf G o 0)) := by rw [h4]; exact tf_nlt c1 (by rw [← hn]; exact c2) hle (by omega)
      refine tf_go hx ftX5_at 11 [false, false] 23 [some (.ref o), some (.int i)] [.int (S (tf_rf G o 0) (Int32.toNatClampNeg i))] S rfl ⟨by decide, by decide, rfl⟩ ⟨⟨⟨⟨⟨trivial, (by first | assumption | rfl | decide | omega)⟩, (by first | assumption | rfl | decide | omega)⟩, (by first | assumption | rfl | decide | omega)⟩, ⟨by first | assumption | rfl | decide | omega, by first | assumption | rfl | decide | omega⟩⟩, ⟨Or.inl (by first | assumption | rfl | decide | omega), by first | assumption | rfl | decide | omega⟩⟩ ?_
      exact tf_ret ftX5_at hR rfl ⟨by decide, by decide⟩ rfl rfl (by unfold tf_atv; rw [if_pos ⟨c1, c2⟩]; rfl)

set_option maxHeartbeats 1000000 in
theorem c_add {G : tf_G} {S : tf_Sg} {o cap n : Nat} (v : Int32) (hs : tf_se G o cap) (hn : S o 1 = nI n) (hlt : n < cap) : tf_Fn mX5_add 1 0 0 G S [.ref o, .int v] G (tf_set (tf_set S (tf_rf G o 0) n v) o 1 (nI (n + 1))) none := by
  obtain ⟨h1, h2, h3, h4, h5⟩ := id hs
  refine tf_Fn_of (own := RX5) false ⟨by decide, rfl, by decide⟩ (Nat.le_of_ble_eq_true rfl) trivial (fun x hx hR => ?_)
  show tf_K x 0 0 G S 0 [some (.ref o), some (.int v)] []
  have hne := tf_se_ne hs
  have hc : (S o 1).toNatClampNeg = n := by rw [hn]; exact tf_cl_nI (by omega)
  have h6 : vp_in (S o 1) (tf_ln G (tf_rf G o 0)) := by rw [h4, hn]; exact vp_in_nI hlt (by omega)
  refine tf_go hx ftX5_add 18 [false] 32 [some (.ref o), some (.int v)] [] (tf_set (tf_set S (tf_rf G o 0) (Int32.toNatClampNeg (S o 1)) v) o 1 (((tf_set S (tf_rf G o 0) (Int32.toNatClampNeg (S o 1)) v) o 1) + 1)) rfl ⟨by decide, by decide, rfl⟩ ⟨⟨⟨⟨⟨⟨⟨⟨⟨trivial, (by first | assumption | rfl | decide | omega)⟩, ⟨by first | assumption | rfl | decide | omega, by first | assumption | rfl | decide | omega⟩⟩, (Or.inl (by first | assumption | rfl | decide | omega))⟩, (by rw [h4, hn]; exact nI_ge hlt (by omega))⟩, ⟨by first | assumption | rfl | decide | omega, by first | assumption | rfl | decide | omega⟩⟩, (by first | assumption | rfl | decide | omega)⟩, ⟨by first | assumption | rfl | decide | omega, by first | assumption | rfl | decide | omega⟩⟩, (by first | assumption | rfl | decide | omega)⟩, (by first | assumption | rfl | decide | omega)⟩ ?_
  exact tf_ret ftX5_add hR rfl ⟨by decide, by decide⟩ rfl (by rw [hc, tf_set_n (Ne.symm hne), hn, nI_1]) rfl

set_option maxHeartbeats 1000000 in
theorem c_clear {G : tf_G} {S : tf_Sg} {o : Nat} (h1 : tf_tg G o = 3) : tf_Fn mX5_clear 1 0 0 G S [.ref o] G (tf_set S o 1 0) none := by
  refine tf_Fn_of (own := RX5) false ⟨by decide, rfl, by decide⟩ (Nat.le_of_ble_eq_true rfl) trivial (fun x hx hR => ?_)
  show tf_K x 0 0 G S 0 [some (.ref o)] []
  refine tf_go hx ftX5_clear 3 [] 5 [some (.ref o)] [] (tf_set S o 1 0) rfl ⟨by decide, by decide, rfl⟩ ⟨trivial, (by first | assumption | rfl | decide | omega)⟩ ?_
  exact tf_ret ftX5_clear hR rfl ⟨by decide, by decide⟩ rfl rfl rfl

set_option maxHeartbeats 1000000 in
theorem c_copyFrom {G : tf_G} {S : tf_Sg} {o p cap cap2 n : Nat} (hs : tf_se G o cap) (hs2 : tf_se G p cap2) (hp : S p 1 = nI n) (hle : n ≤ cap) (hle2 : n ≤ cap2) (hpo : p ≠ o) (hpa : p ≠ tf_rf G o 0) (hao : tf_rf G p 0 ≠ o) (haa : tf_rf G p 0 ≠ tf_rf G o 0) : tf_Fn mX5_copyFrom 2 0 0 G S [.ref o, .ref p] G (tf_wr S o (tf_rf G o 0) n (fun j => S (tf_rf G p 0) j)) none := by
  obtain ⟨h1, h2, h3, h4, h5⟩ := id hs
  obtain ⟨g1, g2, g3, g4, g5⟩ := id hs2
  refine tf_Fn_of (own := RX5) false ⟨by decide, rfl, by decide⟩ (Nat.le_of_ble_eq_true rfl) trivial (fun x hx hR => ?_)
  show tf_K x 0 0 G S 0 [some (.ref o), some (.ref p), none] []
  have hne := tf_se_ne hs
  refine tf_go hx ftX5_copyFrom 1 [] 1 [some (.ref o), some (.ref p), none] [.ref o] S rfl ⟨by decide, by decide, rfl⟩ trivial ?_
  refine tf_cV hx ftX5_copyFrom (nx := 4) (As := []) (rest := []) (st2 := []) (c_clear h1) rfl lX5_25 (by first | assumption | rfl | decide) rfl ⟨rfl, by decide, by decide, by decide, rfl, rfl⟩ ?_
  refine tf_go hx ftX5_copyFrom 2 [] 6 [some (.ref o), some (.ref p), some (.int 0)] [] (tf_set S o 1 0) rfl ⟨by decide, by decide, rfl⟩ trivial ?_
  rw [← (tf_wr_0 (S := S) (o := o) (a := tf_rf G o 0) (f := (fun j => S (tf_rf G p 0) j))).resolve_right (Ne.symm hne)]
  have loop : ∀ (m k : Nat), k + m = n → tf_K x 0 0 G (tf_wr S o (tf_rf G o 0) k (fun j => S (tf_rf G p 0) j)) 6 [some (.ref o), some (.ref p), some (.int (nI k))] [] := by
    intro m
    induction m with
      | zero =>
        intro k hk
        have hp1 : tf_wr S o (tf_rf G o 0) k (fun j => S (tf_rf G p 0) j) p 1 = nI n := by rw [tf_wr_ne hpo hpa, hp]
        have hk2 : k = n := by omega
        subst hk2
        refine tf_go hx ftX5_copyFrom 4 [true] 29 [some (.ref o), some (.ref p), some (.int (nI k))] [] (tf_wr S o (tf_rf G o 0) k (fun j => S (tf_rf G p 0) j)) rfl ⟨by decide, by decide, rfl⟩ ⟨⟨trivial, (by first | assumption | rfl | decide | omega)⟩, (by rw [hp1]; exact nI_le (Nat.le_refl _) (by omega))⟩ ?_
        exact tf_ret ftX5_copyFrom hR rfl ⟨by decide, by decide⟩ rfl rfl rfl
      | succ m ih =>
        intro k hk
        have hp1 : tf_wr S o (tf_rf G o 0) k (fun j => S (tf_rf G p 0) j) p 1 = nI n := by rw [tf_wr_ne hpo hpa, hp]
        refine tf_go hx ftX5_copyFrom 7 [false] 17 [some (.ref o), some (.ref p), some (.int (nI k))] [.int (nI k), .ref p, .ref o] (tf_wr S o (tf_rf G o 0) k (fun j => S (tf_rf G p 0) j)) rfl ⟨by decide, by decide, rfl⟩ ⟨⟨trivial, (by first | assumption | rfl | decide | omega)⟩, (by rw [hp1]; exact nI_ge (by omega) (by omega))⟩ ?_
        have hv : tf_atv G (tf_wr S o (tf_rf G o 0) k (fun j => S (tf_rf G p 0) j)) p (nI k) = S (tf_rf G p 0) k := by rw [tf_atv_in hp1 (by omega) (by omega), tf_wr_ne hao haa]
        refine tf_cV hx ftX5_copyFrom (nx := 20) (As := [.int (nI k)]) (rest := [.ref o]) (st2 := [.int (S (tf_rf G p 0) k), .ref o]) ((by have h := c_at (nI k) hs2 hp1 (by omega); rw [hv] at h; exact h)) rfl lX5_28 (by first | assumption | rfl | decide) rfl ⟨rfl, by decide, by decide, by decide, rfl, rfl⟩ ?_
        refine tf_cV hx ftX5_copyFrom (nx := 23) (As := [.int (S (tf_rf G p 0) k)]) (rest := []) (st2 := []) ((by have h := c_add (S (tf_rf G p 0) k) hs (tf_wr_o (S := S) (f := fun j => S (tf_rf G p 0) j) hne) (show k < cap by omega); rw [show tf_set (tf_set (tf_wr S o (tf_rf G o 0) k (fun j => S (tf_rf G p 0) j)) (tf_rf G o 0) k (S (tf_rf G p 0) k)) o 1 (nI (k + 1)) = tf_wr S o (tf_rf G o 0) (k + 1) (fun j => S (tf_rf G p 0) j) from tf_wr_s hne] at h; exact h)) rfl lX5_32 (by first | assumption | rfl | decide) rfl ⟨rfl, by decide, by decide, by decide, rfl, rfl⟩ ?_
        refine tf_go hx ftX5_copyFrom 2 [] 6 [some (.ref o), some (.ref p), some (.int ((nI k) + 1))] [] (tf_wr S o (tf_rf G o 0) (k + 1) (fun j => S (tf_rf G p 0) j)) rfl ⟨by decide, by decide, rfl⟩ trivial ?_
        rw [show ((nI k) + 1) = nI (k + 1) from (tf_add rfl (rfl : (1 : Int32) = nI 1))]
        exact ih (k + 1) (by omega)
  have h0 := loop n 0 (by omega)
  rw [nI_0] at h0
  exact h0
end
section
/-! WHAT IS SAID OF THE ROW s OF THE REFERENCE, in natural numbers: f k is its k-th number -/
def tf_fi (k t : Nat) : Nat := if t ≠ 0 then (if k % 10 < 5 then 0 else 4) else if k % 10 < 4 then k % 10 else if k % 10 = 4 then 3 else if k % 10 < 7 then 4 else k % 10 - 2
def tf_la (p q t : Nat) : Nat := if p = q then 2 else if tf_fi p t = tf_fi q t then 3 else if tf_fi p t / 4 = tf_fi q t / 4 then 1 else 0
def tf_di (a b : Nat) : Nat := (a - b) + (b - a)
/-- GAP from a key to a key -/
def tf_ga (f : Nat → Nat) (h p q t : Nat) : Nat :=
  if tf_la p q t = 2 then f (120 + 6 * h + 2)
  else if tf_la p q t = 3 then f (120 + 6 * h + 3) + f (120 + 6 * h + 4) * (tf_di (p % 10) (q % 10) + tf_di (p / 10) (q / 10))
  else if tf_la p q t = 1 then f (120 + 6 * h + 1) + f (120 + 6 * h + 5) * tf_di (p / 10) (q / 10)
  else f (120 + 6 * h)
/-- the first place from k on, of m, that P holds of; else the end -/
def tf_fst (P : Nat → Bool) : Nat → Nat → Nat
  | 0, k => k
  | m + 1, k => if P k = true then k else tf_fst P m (k + 1)
theorem tf_fst_0 {P : Nat → Bool} {k : Nat} : tf_fst P 0 k = k := rfl
theorem tf_fst_y {P : Nat → Bool} {m k : Nat} (h : P k = true) : tf_fst P (m + 1) k = k := by unfold tf_fst; rw [if_pos h]
theorem tf_fst_n {P : Nat → Bool} {m k : Nat} (h : ¬ P k = true) : tf_fst P (m + 1) k = tf_fst P m (k + 1) := by conv => { lhs; unfold tf_fst }; rw [if_neg h]
/-- the KEY of a letter; 30: none -/
def tf_ke (f : Nat → Nat) (b l : Nat) : Nat := tf_fst (fun k => f (30 * b + k) == l + 1) 30 0
/-- a place or none, as it is answered -/
def tf_on (n k : Nat) : Int32 := if k < n then nI k else (-9)
theorem tf_fst_le (P : Nat → Bool) : ∀ m k, k ≤ tf_fst P m k ∧ tf_fst P m k ≤ k + m
  | 0, k => ⟨Nat.le_refl _, Nat.le_refl _⟩
  | m + 1, k => by
    unfold tf_fst
    have h := tf_fst_le P m (k + 1)
    split <;> omega
theorem tf_fst_at (P : Nat → Bool) : ∀ m k, tf_fst P m k < k + m → P (tf_fst P m k) = true
  | 0, k, h => by unfold tf_fst at h; omega
  | m + 1, k, h => by
    unfold tf_fst at h ⊢
    split
    · assumption
    · next hn =>
      rw [if_neg hn] at h
      exact tf_fst_at P m (k + 1) (by omega)
theorem tf_fst_no (P : Nat → Bool) : ∀ m k j, k ≤ j → j < tf_fst P m k → P j = false
  | 0, k, j, h1, h2 => by unfold tf_fst at h2; omega
  | m + 1, k, j, h1, h2 => by
    unfold tf_fst at h2
    split at h2
    · omega
    · next hn =>
      by_cases hj : j = k
      · subst hj
        simpa using hn
      · exact tf_fst_no P m (k + 1) j (by omega) h2
theorem tf_fst_eq (P : Nat → Bool) {m k j : Nat} (h1 : k ≤ j) (h2 : j < k + m) (h3 : P j = true) (h4 : ∀ i, k ≤ i → i < j → P i = false) : tf_fst P m k = j := by
  have h := tf_fst_le P m k
  rcases Nat.lt_trichotomy (tf_fst P m k) j with h5 | h5 | h5
  · have h6 := tf_fst_at P m k (by omega)
    rw [h4 _ h.1 h5] at h6
    cases h6
  · exact h5
  · rw [tf_fst_no P m k j h1 h5] at h3
    cases h3
theorem tf_fst_end (P : Nat → Bool) {m k : Nat} (h : ∀ i, k ≤ i → i < k + m → P i = false) : tf_fst P m k = k + m := by
  have h1 := tf_fst_le P m k
  rcases Nat.lt_or_ge (tf_fst P m k) (k + m) with h2 | h2
  · have h3 := tf_fst_at P m k h2
    rw [h _ h1.1 h2] at h3
    cases h3
  · omega
theorem tf_ke_le (f : Nat → Nat) (b l : Nat) : tf_ke f b l ≤ 30 := by have := tf_fst_le (fun k => f (30 * b + k) == l + 1) 30 0; unfold tf_ke; omega
theorem tf_fi_le (k t : Nat) : tf_fi k t < 8 := by unfold tf_fi; repeat (first | split | omega)
theorem tf_la_le (p q t : Nat) : tf_la p q t < 4 := by unfold tf_la; repeat (first | split | omega)
theorem tf_di_le {a b n : Nat} (ha : a < n) (hb : b < n) : tf_di a b < n := by unfold tf_di; omega
theorem tf_amt {a b : Nat} (ha : a < 1000000) (hb : b < 1000000) : (if nI a - nI b < 0 then -(nI a - nI b) else nI a - nI b) = nI (tf_di a b) := by
  unfold tf_di
  by_cases h : a < b
  · rw [if_pos (pk_sneg (by omega) h), show a - b = 0 by omega, Nat.zero_add]
    have : -(nI a - nI b) = nI b - nI a := by rw [Int32.neg_sub]
    rw [this, pk_sub (by omega)]
  · rw [pk_sub (by omega), if_neg (nI_pos (by omega)), show b - a = 0 by omega, Nat.add_zero]
/-- the shape of the reference -/
def tf_mo (G : tf_G) (o : Nat) : Prop := tf_tg G o = 8 ∧ (tf_rf G o 0 ≠ 0 ∧ tf_tg G (tf_rf G o 0) = 9 ∧ tf_ln G (tf_rf G o 0) = 7) ∧ (tf_rf G o 1 ≠ 0 ∧ tf_tg G (tf_rf G o 1) = 9 ∧ tf_ln G (tf_rf G o 1) = 368) ∧ (tf_rf G o 2 ≠ 0 ∧ tf_tg G (tf_rf G o 2) = 9 ∧ tf_ln G (tf_rf G o 2) = 368) ∧ (tf_rf G o 4 ≠ 0 ∧ tf_tg G (tf_rf G o 4) = 9 ∧ tf_ln G (tf_rf G o 4) = 48)
/-- the row s is f, of small numbers -/
def tf_sf (G : tf_G) (S : tf_Sg) (o : Nat) (f : Nat → Nat) : Prop := (∀ k, S (tf_rf G o 1) k = nI (f k)) ∧ ∀ k, f k < 10000
/-- what always holds of the row -/
def tf_gd (f : Nat → Nat) : Prop := (f 364 ≤ 40 ∧ f 365 ≤ 40 ∧ f 366 ≤ 10 ∧ f 367 ≤ 40) ∧ (∀ w, w < f 366 → 2 ≤ f (224 + 10 * w) ∧ f (224 + 10 * w) ≤ 8) ∧ (∀ i, i < f 364 → f (144 + i) < 26) ∧ (∀ i, i < f 365 → f (184 + i) ≤ 26) ∧ (∀ w, w < f 366 → ∀ j, j < f (224 + 10 * w) → f (224 + 10 * w + 2 + j) < 26) ∧ (∀ i, i < 24 → f (120 + i) ≤ 999) ∧ (∀ k, k < 120 → f k ≤ 26) ∧ (∀ b, b < 4 → ∀ k j, k < 30 → j < 30 → f (30 * b + k) = f (30 * b + j) → f (30 * b + k) ≠ 0 → k = j)
/-- a WORD stands at a place -/
def tf_sd (f : Nat → Nat) (w i : Nat) : Bool := decide (3 ≤ f (224 + 10 * w + 1)) && decide (i + f (224 + 10 * w) ≤ f 364) && decide (tf_fst (fun k => !(f (144 + i + k) == f (224 + 10 * w + 2 + k))) (f (224 + 10 * w)) 0 = f (224 + 10 * w))
def tf_sz (f : Nat → Nat) (w : Nat) : Nat := if w < 10 then f (224 + 10 * w) else 1
/-- the WORD of the PIECE that begins at a place; 10 or more: none -/
def tf_wl (f : Nat → Nat) (i : Nat) : Nat → Nat → Nat → Nat
  | 0, _, best => best
  | m + 1, w, best => tf_wl f i m (w + 1) (if tf_sd f w i = true ∧ (10 ≤ best ∨ tf_sz f best < tf_sz f w) then w else best)
def tf_wd (f : Nat → Nat) (i : Nat) : Nat := tf_wl f i (f 366) 0 10
def tf_np (f : Nat → Nat) : Nat → Nat → Nat
  | 0, _ => 0
  | m + 1, a => if a < f 364 then 1 + tf_np f m (a + tf_sz f (tf_wd f a)) else 0
/-- where the PIECE of a number begins; 40: none -/
def tf_pb (f : Nat → Nat) (i : Int32) : Nat → Nat → Nat → Nat
  | 0, _, _ => 40
  | m + 1, a, n => if a < f 364 then (if nI n = i then a else tf_pb f i m (a + tf_sz f (tf_wd f a)) (n + 1)) else 40
def tf_pa (f : Nat → Nat) (i : Int32) : Nat := tf_pb f i 40 0 0
/-- the GAP ahead of the i-th letter -/
def tf_gt (f : Nat → Nat) (h b i t : Nat) : Nat := if tf_ke f b (f (144 + i)) = 30 then 999 else if i = 0 ∨ tf_ke f b (f (144 + i - 1)) = 30 then f (120 + 6 * h) else tf_ga f h (tf_ke f b (f (144 + i - 1))) (tf_ke f b (f (144 + i))) t
/-- hundredths of a PIECE -/
def tf_pt (f : Nat → Nat) (w : Nat) : Nat := if w < 10 then 100 - 5 * (if f (224 + 10 * w + 1) ≤ 10 then f (224 + 10 * w + 1) else 10) else 100
def tf_ti (f : Nat → Nat) (h b t a p : Nat) : Nat → Nat → Nat
  | 0, _ => 0
  | m + 1, k => (if k = 0 then tf_gt f h b a t else tf_gt f h b (a + k) t * p / 100) + tf_ti f h b t a p m (k + 1)
def tf_tl (f : Nat → Nat) (h b t : Nat) : Nat → Nat → Nat
  | 0, _ => 0
  | m + 1, a => if a < f 364 then tf_ti f h b t a (tf_pt f (tf_wd f a)) (tf_sz f (tf_wd f a)) 0 + tf_tl f h b t m (a + tf_sz f (tf_wd f a)) else 0
/-- TIME -/
def tf_tm (f : Nat → Nat) (h b t : Nat) : Nat := tf_tl f h b t 40 0
theorem tf_on_y {n k : Nat} (h : k < n) : tf_on n k = nI k := by unfold tf_on; rw [if_pos h]
theorem tf_on_n {n k : Nat} (h : ¬ k < n) : tf_on n k = -9 := by unfold tf_on; rw [if_neg h]
theorem tf_wl_le (f : Nat → Nat) (i : Nat) : ∀ m w best, w + m ≤ f 366 → (best = 10 ∨ best < f 366) → tf_wl f i m w best = 10 ∨ tf_wl f i m w best < f 366
  | 0, _, best, _, hb => hb
  | m + 1, w, best, hm, hb => by
    unfold tf_wl
    refine tf_wl_le f i m (w + 1) _ (by omega) ?_
    split
    · exact Or.inr (by omega)
    · exact hb
theorem tf_wd_le (f : Nat → Nat) (i : Nat) : tf_wd f i = 10 ∨ tf_wd f i < f 366 := tf_wl_le f i (f 366) 0 10 (by omega) (Or.inl rfl)
theorem tf_sz_le {f : Nat → Nat} (hg : tf_gd f) {w : Nat} (h : w = 10 ∨ w < f 366) : 1 ≤ tf_sz f w ∧ tf_sz f w ≤ 8 := by
  have h0 := hg.1
  unfold tf_sz
  split
  · rcases h with h | h
    · omega
    · have := hg.2.1 w h
      omega
  · omega
theorem tf_ga_le {f : Nat → Nat} (hg : tf_gd f) {h p q t : Nat} (hh : h < 4) (hp : p < 30) (hq : q < 30) : tf_ga f h p q t ≤ 12000 := by
  have l := hg.2.2.2.2.2.1
  have d1 := tf_di_le (show p / 10 < 3 by omega) (show q / 10 < 3 by omega)
  have d2 := tf_di_le (show p % 10 < 10 by omega) (show q % 10 < 10 by omega)
  have a1 := l (6 * h) (by omega)
  have a2 := l (6 * h + 1) (by omega)
  have a3 := l (6 * h + 2) (by omega)
  have a4 := l (6 * h + 3) (by omega)
  have a5 := l (6 * h + 4) (by omega)
  have a6 := l (6 * h + 5) (by omega)
  rw [← Nat.add_assoc] at a2 a3 a4 a5 a6
  have m1 := Nat.mul_le_mul a5 (show tf_di (p % 10) (q % 10) + tf_di (p / 10) (q / 10) ≤ 11 by omega)
  have m2 := Nat.mul_le_mul a6 (show tf_di (p / 10) (q / 10) ≤ 2 by omega)
  unfold tf_ga
  repeat (first | split | omega)
theorem tf_gt_le {f : Nat → Nat} (hg : tf_gd f) {h b i t : Nat} (hh : h < 4) : tf_gt f h b i t ≤ 12000 := by
  have l := hg.2.2.2.2.2.1 (6 * h) (by omega)
  unfold tf_gt
  split
  · omega
  · split
    · omega
    · next h1 h2 =>
      have k1 := tf_ke_le f b (f (144 + i))
      have k2 := tf_ke_le f b (f (144 + i - 1))
      have h3 : ¬ tf_ke f b (f (144 + i - 1)) = 30 := fun q => h2 (Or.inr q)
      exact tf_ga_le hg hh (by omega) (by omega)
theorem tf_wl_s {f : Nat → Nat} {i m w best : Nat} : tf_wl f i (m + 1) w best = tf_wl f i m (w + 1) (if tf_sd f w i = true ∧ (10 ≤ best ∨ tf_sz f best < tf_sz f w) then w else best) := rfl
theorem tf_np_s {f : Nat → Nat} {m a : Nat} : tf_np f (m + 1) a = if a < f 364 then 1 + tf_np f m (a + tf_sz f (tf_wd f a)) else 0 := rfl
theorem tf_pb_s {f : Nat → Nat} {i : Int32} {m a n : Nat} : tf_pb f i (m + 1) a n = if a < f 364 then (if nI n = i then a else tf_pb f i m (a + tf_sz f (tf_wd f a)) (n + 1)) else 40 := rfl
theorem tf_ti_s {f : Nat → Nat} {h b t a p m k : Nat} : tf_ti f h b t a p (m + 1) k = (if k = 0 then tf_gt f h b a t else tf_gt f h b (a + k) t * p / 100) + tf_ti f h b t a p m (k + 1) := rfl
theorem tf_tl_s {f : Nat → Nat} {h b t m a : Nat} : tf_tl f h b t (m + 1) a = if a < f 364 then tf_ti f h b t a (tf_pt f (tf_wd f a)) (tf_sz f (tf_wd f a)) 0 + tf_tl f h b t m (a + tf_sz f (tf_wd f a)) else 0 := rfl
theorem tf_wl_sd (f : Nat → Nat) (i : Nat) : ∀ m w best, (best = 10 ∨ tf_sd f best i = true) → tf_wl f i m w best = 10 ∨ tf_sd f (tf_wl f i m w best) i = true
  | 0, _, _, hb => hb
  | m + 1, w, best, hb => by
    rw [tf_wl_s]
    refine tf_wl_sd f i m (w + 1) _ ?_
    split
    · next h => exact Or.inr h.1
    · exact hb
theorem tf_wd_in {f : Nat → Nat} (hg : tf_gd f) {i : Nat} (hi : i < f 364) : i + tf_sz f (tf_wd f i) ≤ f 364 := by
  rcases tf_wl_sd f i (f 366) 0 10 (Or.inl rfl) with h | h
  · unfold tf_wd
    rw [h]
    unfold tf_sz
    rw [if_neg (by omega)]
    omega
  · have h2 : tf_sd f (tf_wd f i) i = true := h
    unfold tf_sz
    split
    · unfold tf_sd at h2
      simp only [Bool.and_eq_true, decide_eq_true_eq] at h2
      omega
    · omega
end
section
def fX11 : tf_F := [(1, 102, 0), (7, 8, 0), (13, 8, 1), (16, 8, 2), (19, 8, 4), (30, 8, 5), (34, 103, 255), (136, 8, 3)]
set_option maxRecDepth 100000 in
theorem okfX11 : tf_okF RX11 fX11 := by unfold tf_okF; decide +kernel

def tX11_isIn : tf_T := [(0, .iload_n 0, 1, 0, 0),
  (1, .ifCond .lt 12, 4, 13, 0),
  (4, .iload_n 0, 5, 0, 0),
  (5, .iload_n 1, 6, 0, 0),
  (6, .if_icmp .ge 7, 9, 13, 0),
  (9, .iconst 1, 10, 0, 1),
  (10, .goto 4, 13, 14, 0),
  (13, .iconst 0, 14, 0, 0),
  (14, .ireturn, 15, 0, 0)]
set_option maxRecDepth 100000 in
theorem okX11_isIn : tf_okT cX11_isIn tX11_isIn := by unfold tf_okT; decide +kernel
theorem ftX11_isIn : 1 ≤ 1 ∧ tf_okF RX11 fX11 ∧ tf_okT cX11_isIn tX11_isIn := ⟨by decide, okfX11, okX11_isIn⟩
def mX11_isIn : tf_M := (yX11_isIn, cX11_isIn, 2, (some .boolean))

def tX11_within : tf_T := [(0, .iload_n 0, 1, 0, 0),
  (1, .iload_n 1, 2, 0, 0),
  (2, .if_icmp .ge 8, 5, 10, 0),
  (5, .bipush (-4), 7, 0, (-4)),
  (7, .goto 14, 10, 21, 0),
  (10, .iload_n 0, 11, 0, 0),
  (11, .iload_n 2, 12, 0, 0),
  (12, .if_icmp .le 8, 15, 20, 0),
  (15, .bipush (-6), 17, 0, (-6)),
  (17, .goto 4, 20, 21, 0),
  (20, .iconst 0, 21, 0, 0),
  (21, .ireturn, 22, 0, 0)]
set_option maxRecDepth 100000 in
theorem okX11_within : tf_okT cX11_within tX11_within := by unfold tf_okT; decide +kernel
theorem ftX11_within : 1 ≤ 1 ∧ tf_okF RX11 fX11 ∧ tf_okT cX11_within tX11_within := ⟨by decide, okfX11, okX11_within⟩
def mX11_within : tf_M := (yX11_within, cX11_within, 3, (some .int))

def tX11_amount : tf_T := [(0, .iload_n 0, 1, 0, 0),
  (1, .ifCond .ge 8, 4, 9, 0),
  (4, .iload_n 0, 5, 0, 0),
  (5, .ineg, 6, 0, 0),
  (6, .goto 4, 9, 10, 0),
  (9, .iload_n 0, 10, 0, 0),
  (10, .ireturn, 11, 0, 0)]
set_option maxRecDepth 100000 in
theorem okX11_amount : tf_okT cX11_amount tX11_amount := by unfold tf_okT; decide +kernel
theorem ftX11_amount : 1 ≤ 1 ∧ tf_okF RX11 fX11 ∧ tf_okT cX11_amount tX11_amount := ⟨by decide, okfX11, okX11_amount⟩
def mX11_amount : tf_M := (yX11_amount, cX11_amount, 1, (some .int))

def tX11_isHand : tf_T := [(0, .iload_n 0, 1, 0, 0),
  (1, .iconst 4, 2, 0, 4),
  (2, .invokestatic 22, 5, 0, 0),
  (5, .ireturn, 6, 0, 0)]
set_option maxRecDepth 100000 in
theorem okX11_isHand : tf_okT cX11_isHand tX11_isHand := by unfold tf_okT; decide +kernel
theorem ftX11_isHand : 1 ≤ 2 ∧ tf_okF RX11 fX11 ∧ tf_okT cX11_isHand tX11_isHand := ⟨by decide, okfX11, okX11_isHand⟩
def mX11_isHand : tf_M := (yX11_isHand, cX11_isHand, 1, (some .boolean))

def tX11_isBoard : tf_T := [(0, .iload_n 0, 1, 0, 0),
  (1, .iconst 4, 2, 0, 4),
  (2, .invokestatic 22, 5, 0, 0),
  (5, .ireturn, 6, 0, 0)]
set_option maxRecDepth 100000 in
theorem okX11_isBoard : tf_okT cX11_isBoard tX11_isBoard := by unfold tf_okT; decide +kernel
theorem ftX11_isBoard : 1 ≤ 2 ∧ tf_okF RX11 fX11 ∧ tf_okT cX11_isBoard tX11_isBoard := ⟨by decide, okfX11, okX11_isBoard⟩
def mX11_isBoard : tf_M := (yX11_isBoard, cX11_isBoard, 1, (some .boolean))

def tX11_isKey : tf_T := [(0, .iload_n 0, 1, 0, 0),
  (1, .bipush 30, 3, 0, 30),
  (3, .invokestatic 22, 6, 0, 0),
  (6, .ireturn, 7, 0, 0)]
set_option maxRecDepth 100000 in
theorem okX11_isKey : tf_okT cX11_isKey tX11_isKey := by unfold tf_okT; decide +kernel
theorem ftX11_isKey : 1 ≤ 2 ∧ tf_okF RX11 fX11 ∧ tf_okT cX11_isKey tX11_isKey := ⟨by decide, okfX11, okX11_isKey⟩
def mX11_isKey : tf_M := (yX11_isKey, cX11_isKey, 1, (some .boolean))

def tX11_isLetter : tf_T := [(0, .iload_n 0, 1, 0, 0),
  (1, .bipush 97, 3, 0, 97),
  (3, .if_icmp .lt 13, 6, 16, 0),
  (6, .iload_n 0, 7, 0, 0),
  (7, .bipush 122, 9, 0, 122),
  (9, .if_icmp .gt 7, 12, 16, 0),
  (12, .iconst 1, 13, 0, 1),
  (13, .goto 4, 16, 17, 0),
  (16, .iconst 0, 17, 0, 0),
  (17, .ireturn, 18, 0, 0)]
set_option maxRecDepth 100000 in
theorem okX11_isLetter : tf_okT cX11_isLetter tX11_isLetter := by unfold tf_okT; decide +kernel
theorem ftX11_isLetter : 1 ≤ 1 ∧ tf_okF RX11 fX11 ∧ tf_okT cX11_isLetter tX11_isLetter := ⟨by decide, okfX11, okX11_isLetter⟩
def mX11_isLetter : tf_M := (yX11_isLetter, cX11_isLetter, 1, (some .boolean))

def tX11_finger : tf_T := [(0, .iload_n 0, 1, 0, 0),
  (1, .bipush 10, 3, 0, 10),
  (3, .irem, 4, 0, 0),
  (4, .istore_n 2, 5, 0, 0),
  (5, .iload_n 1, 6, 0, 0),
  (6, .ifCond .eq 14, 9, 20, 0),
  (9, .iload_n 2, 10, 0, 0),
  (10, .iconst 5, 11, 0, 5),
  (11, .if_icmp .ge 7, 14, 18, 0),
  (14, .iconst 0, 15, 0, 0),
  (15, .goto 4, 18, 19, 0),
  (18, .iconst 4, 19, 0, 4),
  (19, .ireturn, 20, 0, 0),
  (20, .iload_n 2, 21, 0, 0),
  (21, .iconst 4, 22, 0, 4),
  (22, .if_icmp .ge 7, 25, 29, 0),
  (25, .iload_n 2, 26, 0, 0),
  (26, .goto 25, 29, 51, 0),
  (29, .iload_n 2, 30, 0, 0),
  (30, .iconst 4, 31, 0, 4),
  (31, .if_icmp .ne 7, 34, 38, 0),
  (34, .iconst 3, 35, 0, 3),
  (35, .goto 16, 38, 51, 0),
  (38, .iload_n 2, 39, 0, 0),
  (39, .bipush 7, 41, 0, 7),
  (41, .if_icmp .ge 7, 44, 48, 0),
  (44, .iconst 4, 45, 0, 4),
  (45, .goto 6, 48, 51, 0),
  (48, .iload_n 2, 49, 0, 0),
  (49, .iconst 2, 50, 0, 2),
  (50, .isub, 51, 0, 0),
  (51, .ireturn, 52, 0, 0)]
set_option maxRecDepth 100000 in
theorem okX11_finger : tf_okT cX11_finger tX11_finger := by unfold tf_okT; decide +kernel
theorem ftX11_finger : 1 ≤ 1 ∧ tf_okF RX11 fX11 ∧ tf_okT cX11_finger tX11_finger := ⟨by decide, okfX11, okX11_finger⟩
def mX11_finger : tf_M := (yX11_finger, cX11_finger, 3, (some .int))

def tX11_lawOf : tf_T := [(0, .iload_n 0, 1, 0, 0),
  (1, .iload_n 1, 2, 0, 0),
  (2, .if_icmp .ne 5, 5, 7, 0),
  (5, .iconst 2, 6, 0, 2),
  (6, .ireturn, 7, 0, 0),
  (7, .iload_n 0, 8, 0, 0),
  (8, .iload_n 2, 9, 0, 0),
  (9, .invokestatic 58, 12, 0, 0),
  (12, .istore_n 3, 13, 0, 0),
  (13, .iload_n 1, 14, 0, 0),
  (14, .iload_n 2, 15, 0, 0),
  (15, .invokestatic 58, 18, 0, 0),
  (18, .istore 4, 20, 0, 0),
  (20, .iload_n 3, 21, 0, 0),
  (21, .iload 4, 23, 0, 0),
  (23, .if_icmp .ne 7, 26, 30, 0),
  (26, .iconst 3, 27, 0, 3),
  (27, .goto 18, 30, 45, 0),
  (30, .iload_n 3, 31, 0, 0),
  (31, .iconst 4, 32, 0, 4),
  (32, .idiv, 33, 0, 0),
  (33, .iload 4, 35, 0, 0),
  (35, .iconst 4, 36, 0, 4),
  (36, .idiv, 37, 0, 0),
  (37, .if_icmp .ne 7, 40, 44, 0),
  (40, .iconst 1, 41, 0, 1),
  (41, .goto 4, 44, 45, 0),
  (44, .iconst 0, 45, 0, 0),
  (45, .ireturn, 46, 0, 0)]
set_option maxRecDepth 100000 in
theorem okX11_lawOf : tf_okT cX11_lawOf tX11_lawOf := by unfold tf_okT; decide +kernel
theorem ftX11_lawOf : 1 ≤ 2 ∧ tf_okF RX11 fX11 ∧ tf_okT cX11_lawOf tX11_lawOf := ⟨by decide, okfX11, okX11_lawOf⟩
def mX11_lawOf : tf_M := (yX11_lawOf, cX11_lawOf, 5, (some .int))

def tX11_gapOf : tf_T := [(0, .bipush 120, 2, 0, 120),
  (2, .bipush 6, 4, 0, 6),
  (4, .iload_n 1, 5, 0, 0),
  (5, .imul, 6, 0, 0),
  (6, .iadd, 7, 0, 0),
  (7, .istore 5, 9, 0, 0),
  (9, .iload_n 2, 10, 0, 0),
  (10, .bipush 10, 12, 0, 10),
  (12, .idiv, 13, 0, 0),
  (13, .iload_n 3, 14, 0, 0),
  (14, .bipush 10, 16, 0, 10),
  (16, .idiv, 17, 0, 0),
  (17, .isub, 18, 0, 0),
  (18, .invokestatic 69, 21, 0, 0),
  (21, .istore 6, 23, 0, 0),
  (23, .iload_n 2, 24, 0, 0),
  (24, .iload_n 3, 25, 0, 0),
  (25, .iload 4, 27, 0, 0),
  (27, .invokestatic 72, 30, 0, 0),
  (30, .tableswitch 95 1 3 #[72, 26, 36], 56, 0, 0),
  (56, .aload_n 0, 57, 0, 0),
  (57, .getfield 13, 60, 0, 0),
  (60, .iload 5, 62, 0, 0),
  (62, .iconst 2, 63, 0, 2),
  (63, .iadd, 64, 0, 0),
  (64, .iaload, 65, 0, 0),
  (65, .ireturn, 66, 0, 0),
  (66, .aload_n 0, 67, 0, 0),
  (67, .getfield 13, 70, 0, 0),
  (70, .iload 5, 72, 0, 0),
  (72, .iconst 3, 73, 0, 3),
  (73, .iadd, 74, 0, 0),
  (74, .iaload, 75, 0, 0),
  (75, .aload_n 0, 76, 0, 0),
  (76, .getfield 13, 79, 0, 0),
  (79, .iload 5, 81, 0, 0),
  (81, .iconst 4, 82, 0, 4),
  (82, .iadd, 83, 0, 0),
  (83, .iaload, 84, 0, 0),
  (84, .iload_n 2, 85, 0, 0),
  (85, .bipush 10, 87, 0, 10),
  (87, .irem, 88, 0, 0),
  (88, .iload_n 3, 89, 0, 0),
  (89, .bipush 10, 91, 0, 10),
  (91, .irem, 92, 0, 0),
  (92, .isub, 93, 0, 0),
  (93, .invokestatic 69, 96, 0, 0),
  (96, .iload 6, 98, 0, 0),
  (98, .iadd, 99, 0, 0),
  (99, .imul, 100, 0, 0),
  (100, .iadd, 101, 0, 0),
  (101, .ireturn, 102, 0, 0),
  (102, .aload_n 0, 103, 0, 0),
  (103, .getfield 13, 106, 0, 0),
  (106, .iload 5, 108, 0, 0),
  (108, .iconst 1, 109, 0, 1),
  (109, .iadd, 110, 0, 0),
  (110, .iaload, 111, 0, 0),
  (111, .aload_n 0, 112, 0, 0),
  (112, .getfield 13, 115, 0, 0),
  (115, .iload 5, 117, 0, 0),
  (117, .iconst 5, 118, 0, 5),
  (118, .iadd, 119, 0, 0),
  (119, .iaload, 120, 0, 0),
  (120, .iload 6, 122, 0, 0),
  (122, .imul, 123, 0, 0),
  (123, .iadd, 124, 0, 0),
  (124, .ireturn, 125, 0, 0),
  (125, .aload_n 0, 126, 0, 0),
  (126, .getfield 13, 129, 0, 0),
  (129, .iload 5, 131, 0, 0),
  (131, .iconst 0, 132, 0, 0),
  (132, .iadd, 133, 0, 0),
  (133, .iaload, 134, 0, 0),
  (134, .ireturn, 135, 0, 0)]
set_option maxRecDepth 100000 in
theorem okX11_gapOf : tf_okT cX11_gapOf tX11_gapOf := by unfold tf_okT; decide +kernel
theorem ftX11_gapOf : 1 ≤ 3 ∧ tf_okF RX11 fX11 ∧ tf_okT cX11_gapOf tX11_gapOf := ⟨by decide, okfX11, okX11_gapOf⟩
def mX11_gapOf : tf_M := (yX11_gapOf, cX11_gapOf, 7, (some .int))

def tX11_keyAt : tf_T := [(0, .iconst 0, 1, 0, 0),
  (1, .istore_n 3, 2, 0, 0),
  (2, .iload_n 3, 3, 0, 0),
  (3, .bipush 30, 5, 0, 30),
  (5, .if_icmp .ge 28, 8, 33, 0),
  (8, .aload_n 0, 9, 0, 0),
  (9, .getfield 13, 12, 0, 0),
  (12, .bipush 30, 14, 0, 30),
  (14, .iload_n 1, 15, 0, 0),
  (15, .imul, 16, 0, 0),
  (16, .iload_n 3, 17, 0, 0),
  (17, .iadd, 18, 0, 0),
  (18, .iaload, 19, 0, 0),
  (19, .iload_n 2, 20, 0, 0),
  (20, .iconst 1, 21, 0, 1),
  (21, .iadd, 22, 0, 0),
  (22, .if_icmp .ne 5, 25, 27, 0),
  (25, .iload_n 3, 26, 0, 0),
  (26, .ireturn, 27, 0, 0),
  (27, .iinc 3 1, 30, 0, 1),
  (30, .goto (-28), 33, 2, 0),
  (33, .bipush (-9), 35, 0, (-9)),
  (35, .ireturn, 36, 0, 0)]
set_option maxRecDepth 100000 in
theorem okX11_keyAt : tf_okT cX11_keyAt tX11_keyAt := by unfold tf_okT; decide +kernel
theorem ftX11_keyAt : 1 ≤ 1 ∧ tf_okF RX11 fX11 ∧ tf_okT cX11_keyAt tX11_keyAt := ⟨by decide, okfX11, okX11_keyAt⟩
def mX11_keyAt : tf_M := (yX11_keyAt, cX11_keyAt, 4, (some .int))

set_option maxRecDepth 100000 in
theorem lX11_22 : tf_okS RX11 22 2 mX11_isIn := by unfold tf_okS tf_okL; decide +kernel

set_option maxRecDepth 100000 in
theorem lX11_58 : tf_okS RX11 58 2 mX11_finger := by unfold tf_okS tf_okL; decide +kernel

set_option maxRecDepth 100000 in
theorem lX11_69 : tf_okS RX11 69 1 mX11_amount := by unfold tf_okS tf_okL; decide +kernel

set_option maxRecDepth 100000 in
theorem lX11_72 : tf_okS RX11 72 3 mX11_lawOf := by unfold tf_okS tf_okL; decide +kernel

set_option maxHeartbeats 1000000 in
theorem m_isIn {G : tf_G} {S : tf_Sg} (v n : Int32)  : tf_Fn mX11_isIn 1 0 0 G S [.int v, .int n] G S (some (.int (if ¬ v < 0 ∧ ¬ n ≤ v then 1 else 0))) := by
  refine tf_Fn_of (own := RX11) false ⟨by decide, rfl, by decide⟩ (Nat.le_of_ble_eq_true rfl) (by show (if _ then (1 : Int32) else 0) = 0 ∨ _; split; exact Or.inr rfl; exact Or.inl rfl) (fun x hx hR => ?_)
  show tf_K x 0 0 G S 0 [some (.int v), some (.int n)] []
  by_cases c1 : v < 0
  · refine tf_go hx ftX11_isIn 3 [true] 14 [some (.int v), some (.int n)] [.int 0] S rfl ⟨by decide, by decide, rfl⟩ ⟨trivial, (by first | assumption | rfl | decide | omega)⟩ ?_
    exact tf_ret ftX11_isIn hR rfl ⟨by decide, by decide⟩ rfl rfl (by rw [if_neg (by rintro ⟨h, -⟩; exact h c1)]; rfl)
  · by_cases c2 : n ≤ v
    · refine tf_go hx ftX11_isIn 6 [false, true] 14 [some (.int v), some (.int n)] [.int 0] S rfl ⟨by decide, by decide, rfl⟩ ⟨⟨trivial, (by first | assumption | rfl | decide | omega)⟩, (by first | assumption | rfl | decide | omega)⟩ ?_
      exact tf_ret ftX11_isIn hR rfl ⟨by decide, by decide⟩ rfl rfl (by rw [if_neg (by rintro ⟨-, h⟩; exact h c2)]; rfl)
    · refine tf_go hx ftX11_isIn 7 [false, false] 14 [some (.int v), some (.int n)] [.int 1] S rfl ⟨by decide, by decide, rfl⟩ ⟨⟨trivial, (by first | assumption | rfl | decide | omega)⟩, (by first | assumption | rfl | decide | omega)⟩ ?_
      exact tf_ret ftX11_isIn hR rfl ⟨by decide, by decide⟩ rfl rfl (by rw [if_pos ⟨c1, c2⟩]; rfl)

set_option maxHeartbeats 1000000 in
theorem m_within {G : tf_G} {S : tf_Sg} (v lo hi : Int32)  : tf_Fn mX11_within 1 0 0 G S [.int v, .int lo, .int hi] G S (some (.int (if ¬ lo ≤ v then (-4) else if ¬ v ≤ hi then (-6) else 0))) := by
  refine tf_Fn_of (own := RX11) false ⟨by decide, rfl, by decide⟩ (Nat.le_of_ble_eq_true rfl) trivial (fun x hx hR => ?_)
  show tf_K x 0 0 G S 0 [some (.int v), some (.int lo), some (.int hi)] []
  by_cases c1 : lo ≤ v
  · by_cases c2 : v ≤ hi
    · refine tf_go hx ftX11_within 7 [true, true] 21 [some (.int v), some (.int lo), some (.int hi)] [.int 0] S rfl ⟨by decide, by decide, rfl⟩ ⟨⟨trivial, (by first | assumption | rfl | decide | omega)⟩, (by first | assumption | rfl | decide | omega)⟩ ?_
      exact tf_ret ftX11_within hR rfl ⟨by decide, by decide⟩ rfl rfl (by rw [if_neg (fun h => h c1), if_neg (fun h => h c2)]; rfl)
    · refine tf_go hx ftX11_within 8 [true, false] 21 [some (.int v), some (.int lo), some (.int hi)] [.int (-6)] S rfl ⟨by decide, by decide, rfl⟩ ⟨⟨trivial, (by first | assumption | rfl | decide | omega)⟩, (by first | assumption | rfl | decide | omega)⟩ ?_
      exact tf_ret ftX11_within hR rfl ⟨by decide, by decide⟩ rfl rfl (by rw [if_neg (fun h => h c1), if_pos c2]; rfl)
  · refine tf_go hx ftX11_within 5 [false] 21 [some (.int v), some (.int lo), some (.int hi)] [.int (-4)] S rfl ⟨by decide, by decide, rfl⟩ ⟨trivial, (by first | assumption | rfl | decide | omega)⟩ ?_
    exact tf_ret ftX11_within hR rfl ⟨by decide, by decide⟩ rfl rfl (by rw [if_pos c1]; rfl)

set_option maxHeartbeats 1000000 in
theorem m_amount {G : tf_G} {S : tf_Sg} (v : Int32)  : tf_Fn mX11_amount 1 0 0 G S [.int v] G S (some (.int (if v < 0 then -v else v))) := by
  refine tf_Fn_of (own := RX11) false ⟨by decide, rfl, by decide⟩ (Nat.le_of_ble_eq_true rfl) trivial (fun x hx hR => ?_)
  show tf_K x 0 0 G S 0 [some (.int v)] []
  by_cases c1 : 0 ≤ v
  · refine tf_go hx ftX11_amount 3 [true] 10 [some (.int v)] [.int v] S rfl ⟨by decide, by decide, rfl⟩ ⟨trivial, (by first | assumption | rfl | decide | omega)⟩ ?_
    exact tf_ret ftX11_amount hR rfl ⟨by decide, by decide⟩ rfl rfl (by rw [if_neg (Int32.not_lt.mpr c1)]; rfl)
  · refine tf_go hx ftX11_amount 5 [false] 10 [some (.int v)] [.int (-v)] S rfl ⟨by decide, by decide, rfl⟩ ⟨trivial, (by first | assumption | rfl | decide | omega)⟩ ?_
    exact tf_ret ftX11_amount hR rfl ⟨by decide, by decide⟩ rfl rfl (by rw [if_pos (Int32.not_le.mp c1)]; rfl)

set_option maxHeartbeats 1000000 in
theorem m_isHand {G : tf_G} {S : tf_Sg} (v : Int32)  : tf_Fn mX11_isHand 2 0 0 G S [.int v] G S (some (.int (if ¬ v < 0 ∧ ¬ 4 ≤ v then 1 else 0))) := by
  refine tf_Fn_of (own := RX11) false ⟨by decide, rfl, by decide⟩ (Nat.le_of_ble_eq_true rfl) (by show (if _ then (1 : Int32) else 0) = 0 ∨ _; split; exact Or.inr rfl; exact Or.inl rfl) (fun x hx hR => ?_)
  show tf_K x 0 0 G S 0 [some (.int v)] []
  refine tf_go hx ftX11_isHand 2 [] 2 [some (.int v)] [.int 4, .int v] S rfl ⟨by decide, by decide, rfl⟩ trivial ?_
  refine tf_cS hx ftX11_isHand (nx := 5) (As := [.int v, .int 4]) (rest := []) (st2 := [.int (if ¬ v < 0 ∧ ¬ 4 ≤ v then 1 else 0)]) (m_isIn v 4) rfl lX11_22 rfl ⟨rfl, by decide, by decide, by decide, rfl, rfl⟩ ?_
  exact tf_ret ftX11_isHand hR rfl ⟨by decide, by decide⟩ rfl rfl rfl

set_option maxHeartbeats 1000000 in
theorem m_isBoard {G : tf_G} {S : tf_Sg} (v : Int32)  : tf_Fn mX11_isBoard 2 0 0 G S [.int v] G S (some (.int (if ¬ v < 0 ∧ ¬ 4 ≤ v then 1 else 0))) := by
  refine tf_Fn_of (own := RX11) false ⟨by decide, rfl, by decide⟩ (Nat.le_of_ble_eq_true rfl) (by show (if _ then (1 : Int32) else 0) = 0 ∨ _; split; exact Or.inr rfl; exact Or.inl rfl) (fun x hx hR => ?_)
  show tf_K x 0 0 G S 0 [some (.int v)] []
  refine tf_go hx ftX11_isBoard 2 [] 2 [some (.int v)] [.int 4, .int v] S rfl ⟨by decide, by decide, rfl⟩ trivial ?_
  refine tf_cS hx ftX11_isBoard (nx := 5) (As := [.int v, .int 4]) (rest := []) (st2 := [.int (if ¬ v < 0 ∧ ¬ 4 ≤ v then 1 else 0)]) (m_isIn v 4) rfl lX11_22 rfl ⟨rfl, by decide, by decide, by decide, rfl, rfl⟩ ?_
  exact tf_ret ftX11_isBoard hR rfl ⟨by decide, by decide⟩ rfl rfl rfl

set_option maxHeartbeats 1000000 in
theorem m_isKey {G : tf_G} {S : tf_Sg} (v : Int32)  : tf_Fn mX11_isKey 2 0 0 G S [.int v] G S (some (.int (if ¬ v < 0 ∧ ¬ 30 ≤ v then 1 else 0))) := by
  refine tf_Fn_of (own := RX11) false ⟨by decide, rfl, by decide⟩ (Nat.le_of_ble_eq_true rfl) (by show (if _ then (1 : Int32) else 0) = 0 ∨ _; split; exact Or.inr rfl; exact Or.inl rfl) (fun x hx hR => ?_)
  show tf_K x 0 0 G S 0 [some (.int v)] []
  refine tf_go hx ftX11_isKey 2 [] 3 [some (.int v)] [.int 30, .int v] S rfl ⟨by decide, by decide, rfl⟩ trivial ?_
  refine tf_cS hx ftX11_isKey (nx := 6) (As := [.int v, .int 30]) (rest := []) (st2 := [.int (if ¬ v < 0 ∧ ¬ 30 ≤ v then 1 else 0)]) (m_isIn v 30) rfl lX11_22 rfl ⟨rfl, by decide, by decide, by decide, rfl, rfl⟩ ?_
  exact tf_ret ftX11_isKey hR rfl ⟨by decide, by decide⟩ rfl rfl rfl

set_option maxHeartbeats 1000000 in
theorem m_isLetter {G : tf_G} {S : tf_Sg} (v : Int32)  : tf_Fn mX11_isLetter 1 0 0 G S [.int v] G S (some (.int (if ¬ v < 97 ∧ ¬ 122 < v then 1 else 0))) := by
  refine tf_Fn_of (own := RX11) false ⟨by decide, rfl, by decide⟩ (Nat.le_of_ble_eq_true rfl) (by show (if _ then (1 : Int32) else 0) = 0 ∨ _; split; exact Or.inr rfl; exact Or.inl rfl) (fun x hx hR => ?_)
  show tf_K x 0 0 G S 0 [some (.int v)] []
  by_cases c1 : v < 97
  · refine tf_go hx ftX11_isLetter 4 [true] 17 [some (.int v)] [.int 0] S rfl ⟨by decide, by decide, rfl⟩ ⟨trivial, (by first | assumption | rfl | decide | omega)⟩ ?_
    exact tf_ret ftX11_isLetter hR rfl ⟨by decide, by decide⟩ rfl rfl (by rw [if_neg (by rintro ⟨h, -⟩; exact h c1)]; rfl)
  · by_cases c2 : 122 < v
    · refine tf_go hx ftX11_isLetter 7 [false, true] 17 [some (.int v)] [.int 0] S rfl ⟨by decide, by decide, rfl⟩ ⟨⟨trivial, (by first | assumption | rfl | decide | omega)⟩, (by first | assumption | rfl | decide | omega)⟩ ?_
      exact tf_ret ftX11_isLetter hR rfl ⟨by decide, by decide⟩ rfl rfl (by rw [if_neg (by rintro ⟨-, h⟩; exact h c2)]; rfl)
    · refine tf_go hx ftX11_isLetter 8 [false, false] 17 [some (.int v)] [.int 1] S rfl ⟨by decide, by decide, rfl⟩ ⟨⟨trivial, (by first | assumption | rfl | decide | omega)⟩, (by first | assumption | rfl | decide | omega)⟩ ?_
      exact tf_ret ftX11_isLetter hR rfl ⟨by decide, by decide⟩ rfl rfl (by rw [if_pos ⟨c1, c2⟩]; rfl)

set_option maxHeartbeats 1000000 in
theorem m_finger {G : tf_G} {S : tf_Sg} (k t : Nat) (hk : k < 1000000) (ht : t < 2) : tf_Fn mX11_finger 1 0 0 G S [.int (nI k), .int (nI t)] G S (some (.int (nI (tf_fi k t)))) := by
  refine tf_Fn_of (own := RX11) false ⟨by decide, rfl, by decide⟩ (Nat.le_of_ble_eq_true rfl) trivial (fun x hx hR => ?_)
  show tf_K x 0 0 G S 0 [some (.int (nI k)), some (.int (nI t)), none] []
  unfold tf_fi at hR
  refine tf_go hx ftX11_finger 4 [] 5 [some (.int (nI k)), some (.int (nI t)), some (.int ((nI k) - (nI k) / 10 * 10))] [] S rfl ⟨by decide, by decide, rfl⟩ ⟨trivial, (by decide)⟩ ?_
  rw [show ((nI k) - (nI k) / 10 * 10) = nI (k % 10) from (tf_rem rfl (rfl : (10 : Int32) = nI 10) (by omega) (by decide) (by decide))]
  by_cases c1 : t = 0
  · by_cases c2 : k % 10 < 4
    · refine tf_go hx ftX11_finger 7 [true, false] 51 [some (.int (nI k)), some (.int (nI t)), some (.int (nI (k % 10)))] [.int (nI (k % 10))] S rfl ⟨by decide, by decide, rfl⟩ ⟨⟨trivial, (tf_eqT (a := t) (b := 0) rfl (rfl : (0 : Int32) = nI 0) (by omega))⟩, (tf_leF (a := 4) (b := (k % 10)) (rfl : (4 : Int32) = nI 4) rfl (by omega) (by omega) (by omega))⟩ ?_
      exact tf_ret ftX11_finger hR rfl ⟨by decide, by decide⟩ rfl rfl (by rw [if_neg (fun h => h c1), if_pos c2]; rfl)
    · by_cases c3 : k % 10 = 4
      · refine tf_go hx ftX11_finger 10 [true, true, false] 51 [some (.int (nI k)), some (.int (nI t)), some (.int (nI (k % 10)))] [.int 3] S rfl ⟨by decide, by decide, rfl⟩ ⟨⟨⟨trivial, (tf_eqT (a := t) (b := 0) rfl (rfl : (0 : Int32) = nI 0) (by omega))⟩, (tf_leT (a := 4) (b := (k % 10)) (rfl : (4 : Int32) = nI 4) rfl (by omega) (by omega) (by omega))⟩, (tf_neF (a := (k % 10)) (b := 4) rfl (rfl : (4 : Int32) = nI 4) (by omega))⟩ ?_
        exact tf_ret ftX11_finger hR rfl ⟨by decide, by decide⟩ rfl rfl (by rw [if_neg (fun h => h c1), if_neg c2, if_pos c3]; rfl)
      · by_cases c4 : k % 10 < 7
        · refine tf_go hx ftX11_finger 13 [true, true, true, false] 51 [some (.int (nI k)), some (.int (nI t)), some (.int (nI (k % 10)))] [.int 4] S rfl ⟨by decide, by decide, rfl⟩ ⟨⟨⟨⟨trivial, (tf_eqT (a := t) (b := 0) rfl (rfl : (0 : Int32) = nI 0) (by omega))⟩, (tf_leT (a := 4) (b := (k % 10)) (rfl : (4 : Int32) = nI 4) rfl (by omega) (by omega) (by omega))⟩, (tf_eqF (a := (k % 10)) (b := 4) rfl (rfl : (4 : Int32) = nI 4) (by omega) (by omega) (by omega))⟩, (tf_leF (a := 7) (b := (k % 10)) (rfl : (7 : Int32) = nI 7) rfl (by omega) (by omega) (by omega))⟩ ?_
          exact tf_ret ftX11_finger hR rfl ⟨by decide, by decide⟩ rfl rfl (by rw [if_neg (fun h => h c1), if_neg c2, if_neg c3, if_pos c4]; rfl)
        · refine tf_go hx ftX11_finger 14 [true, true, true, true] 51 [some (.int (nI k)), some (.int (nI t)), some (.int (nI (k % 10)))] [.int ((nI (k % 10)) - 2)] S rfl ⟨by decide, by decide, rfl⟩ ⟨⟨⟨⟨trivial, (tf_eqT (a := t) (b := 0) rfl (rfl : (0 : Int32) = nI 0) (by omega))⟩, (tf_leT (a := 4) (b := (k % 10)) (rfl : (4 : Int32) = nI 4) rfl (by omega) (by omega) (by omega))⟩, (tf_eqF (a := (k % 10)) (b := 4) rfl (rfl : (4 : Int32) = nI 4) (by omega) (by omega) (by omega))⟩, (tf_leT (a := 7) (b := (k % 10)) (rfl : (7 : Int32) = nI 7) rfl (by omega) (by omega) (by omega))⟩ ?_
          exact tf_ret ftX11_finger hR rfl ⟨by decide, by decide⟩ rfl rfl (by rw [if_neg (fun h => h c1), if_neg c2, if_neg c3, if_neg c4, show nI (k % 10) - 2 = nI (k % 10 - 2) from tf_sub (b := 2) rfl rfl (by omega)]; rfl)
  · by_cases c2 : k % 10 < 5
    · refine tf_go hx ftX11_finger 7 [false, false] 19 [some (.int (nI k)), some (.int (nI t)), some (.int (nI (k % 10)))] [.int 0] S rfl ⟨by decide, by decide, rfl⟩ ⟨⟨trivial, (tf_eqF (a := t) (b := 0) rfl (rfl : (0 : Int32) = nI 0) (by omega) (by omega) (by omega))⟩, (tf_leF (a := 5) (b := (k % 10)) (rfl : (5 : Int32) = nI 5) rfl (by omega) (by omega) (by omega))⟩ ?_
      exact tf_ret ftX11_finger hR rfl ⟨by decide, by decide⟩ rfl rfl (by rw [if_pos c1, if_pos c2]; rfl)
    · refine tf_go hx ftX11_finger 6 [false, true] 19 [some (.int (nI k)), some (.int (nI t)), some (.int (nI (k % 10)))] [.int 4] S rfl ⟨by decide, by decide, rfl⟩ ⟨⟨trivial, (tf_eqF (a := t) (b := 0) rfl (rfl : (0 : Int32) = nI 0) (by omega) (by omega) (by omega))⟩, (tf_leT (a := 5) (b := (k % 10)) (rfl : (5 : Int32) = nI 5) rfl (by omega) (by omega) (by omega))⟩ ?_
      exact tf_ret ftX11_finger hR rfl ⟨by decide, by decide⟩ rfl rfl (by rw [if_pos c1, if_neg c2]; rfl)

set_option maxHeartbeats 1000000 in
theorem m_lawOf {G : tf_G} {S : tf_Sg} (p q t : Nat) (hp : p < 1000000) (hq : q < 1000000) (ht : t < 2) : tf_Fn mX11_lawOf 2 0 0 G S [.int (nI p), .int (nI q), .int (nI t)] G S (some (.int (nI (tf_la p q t)))) := by
  refine tf_Fn_of (own := RX11) false ⟨by decide, rfl, by decide⟩ (Nat.le_of_ble_eq_true rfl) trivial (fun x hx hR => ?_)
  show tf_K x 0 0 G S 0 [some (.int (nI p)), some (.int (nI q)), some (.int (nI t)), none, none] []
  unfold tf_la at hR
  by_cases c1 : p = q
  · refine tf_go hx ftX11_lawOf 4 [false] 6 [some (.int (nI p)), some (.int (nI q)), some (.int (nI t)), none, none] [.int 2] S rfl ⟨by decide, by decide, rfl⟩ ⟨trivial, (tf_neF (a := p) (b := q) rfl rfl (by omega))⟩ ?_
    exact tf_ret ftX11_lawOf hR rfl ⟨by decide, by decide⟩ rfl rfl (by rw [if_pos c1]; rfl)
  · refine tf_go hx ftX11_lawOf 5 [true] 9 [some (.int (nI p)), some (.int (nI q)), some (.int (nI t)), none, none] [.int (nI t), .int (nI p)] S rfl ⟨by decide, by decide, rfl⟩ ⟨trivial, (tf_eqF (a := p) (b := q) rfl rfl (by omega) (by omega) (by omega))⟩ ?_
    refine tf_cS hx ftX11_lawOf (nx := 12) (As := [.int (nI p), .int (nI t)]) (rest := []) (st2 := [.int (nI (tf_fi p t))]) (m_finger p t hp ht) rfl lX11_58 rfl ⟨rfl, by decide, by decide, by decide, rfl, rfl⟩ ?_
    refine tf_go hx ftX11_lawOf 3 [] 15 [some (.int (nI p)), some (.int (nI q)), some (.int (nI t)), some (.int (nI (tf_fi p t))), none] [.int (nI t), .int (nI q)] S rfl ⟨by decide, by decide, rfl⟩ trivial ?_
    refine tf_cS hx ftX11_lawOf (nx := 18) (As := [.int (nI q), .int (nI t)]) (rest := []) (st2 := [.int (nI (tf_fi q t))]) (m_finger q t hq ht) rfl lX11_58 rfl ⟨rfl, by decide, by decide, by decide, rfl, rfl⟩ ?_
    have g1 := tf_fi_le p t
    have g2 := tf_fi_le q t
    by_cases c2 : tf_fi p t = tf_fi q t
    · refine tf_go hx ftX11_lawOf 6 [false] 45 [some (.int (nI p)), some (.int (nI q)), some (.int (nI t)), some (.int (nI (tf_fi p t))), some (.int (nI (tf_fi q t)))] [.int 3] S rfl ⟨by decide, by decide, rfl⟩ ⟨trivial, (tf_neF (a := (tf_fi p t)) (b := (tf_fi q t)) rfl rfl (by omega))⟩ ?_
      exact tf_ret ftX11_lawOf hR rfl ⟨by decide, by decide⟩ rfl rfl (by rw [if_neg c1, if_pos c2]; rfl)
    · refine tf_go hx ftX11_lawOf 4 [true] 30 [some (.int (nI p)), some (.int (nI q)), some (.int (nI t)), some (.int (nI (tf_fi p t))), some (.int (nI (tf_fi q t)))] [] S rfl ⟨by decide, by decide, rfl⟩ ⟨trivial, (tf_eqF (a := (tf_fi p t)) (b := (tf_fi q t)) rfl rfl (by omega) (by omega) (by omega))⟩ ?_
      refine tf_go hx ftX11_lawOf 4 [] 35 [some (.int (nI p)), some (.int (nI q)), some (.int (nI t)), some (.int (nI (tf_fi p t))), some (.int (nI (tf_fi q t)))] [.int (nI (tf_fi q t)), .int ((nI (tf_fi p t)) / 4)] S rfl ⟨by decide, by decide, rfl⟩ ⟨trivial, (by decide)⟩ ?_
      rw [show ((nI (tf_fi p t)) / 4) = nI ((tf_fi p t) / 4) from (tf_div rfl (rfl : (4 : Int32) = nI 4) (by omega) (by decide) (by decide))]
      by_cases c3 : tf_fi p t / 4 = tf_fi q t / 4
      · refine tf_go hx ftX11_lawOf 5 [false] 45 [some (.int (nI p)), some (.int (nI q)), some (.int (nI t)), some (.int (nI (tf_fi p t))), some (.int (nI (tf_fi q t)))] [.int 1] S rfl ⟨by decide, by decide, rfl⟩ ⟨⟨trivial, (by decide)⟩, (tf_neF (a := ((tf_fi p t) / 4)) (b := ((tf_fi q t) / 4)) rfl (tf_div rfl (rfl : (4 : Int32) = nI 4) (by omega) (by decide) (by decide)) (by omega))⟩ ?_
        exact tf_ret ftX11_lawOf hR rfl ⟨by decide, by decide⟩ rfl rfl (by rw [if_neg c1, if_neg c2, if_pos c3]; rfl)
      · refine tf_go hx ftX11_lawOf 4 [true] 45 [some (.int (nI p)), some (.int (nI q)), some (.int (nI t)), some (.int (nI (tf_fi p t))), some (.int (nI (tf_fi q t)))] [.int 0] S rfl ⟨by decide, by decide, rfl⟩ ⟨⟨trivial, (by decide)⟩, (tf_eqF (a := ((tf_fi p t) / 4)) (b := ((tf_fi q t) / 4)) rfl (tf_div rfl (rfl : (4 : Int32) = nI 4) (by omega) (by decide) (by decide)) (by omega) (by omega) (by omega))⟩ ?_
        exact tf_ret ftX11_lawOf hR rfl ⟨by decide, by decide⟩ rfl rfl (by rw [if_neg c1, if_neg c2, if_neg c3]; rfl)

set_option maxHeartbeats 1000000 in
theorem m_gapOf {G : tf_G} {S : tf_Sg} {o : Nat} {f : Nat → Nat} (h p q t : Nat) (ho : tf_mo G o) (hf : tf_sf G S o f) (hh : h < 4) (hp : p < 30) (hq : q < 30) (ht : t < 2) : tf_Fn mX11_gapOf 3 0 0 G S [.ref o, .int (nI h), .int (nI p), .int (nI q), .int (nI t)] G S (some (.int (nI (tf_ga f h p q t)))) := by
  obtain ⟨h1, ⟨r0, t0, n0⟩, ⟨r1, t1, n1⟩, ⟨r2, t2, n2⟩, ⟨r4, t4, n4⟩⟩ := id ho
  obtain ⟨hs, hb⟩ := id hf
  refine tf_Fn_of (own := RX11) false ⟨by decide, rfl, by decide⟩ (Nat.le_of_ble_eq_true rfl) trivial (fun x hx hR => ?_)
  show tf_K x 0 0 G S 0 [some (.ref o), some (.int (nI h)), some (.int (nI p)), some (.int (nI q)), some (.int (nI t)), none, none] []
  unfold tf_ga at hR
  refine tf_go hx ftX11_gapOf 13 [] 18 [some (.ref o), some (.int (nI h)), some (.int (nI p)), some (.int (nI q)), some (.int (nI t)), some (.int (120 + (6 * (nI h)))), none] [.int (((nI p) / 10) - ((nI q) / 10))] S rfl ⟨by decide, by decide, rfl⟩ ⟨⟨trivial, (by decide)⟩, (by decide)⟩ ?_
  rw [show ((nI p) / 10) = nI (p / 10) from (tf_div rfl (rfl : (10 : Int32) = nI 10) (by omega) (by decide) (by decide))]
  rw [show ((nI q) / 10) = nI (q / 10) from (tf_div rfl (rfl : (10 : Int32) = nI 10) (by omega) (by decide) (by decide))]
  rw [show (120 + (6 * (nI h))) = nI (120 + (6 * h)) from (tf_add (rfl : (120 : Int32) = nI 120) (tf_mul (rfl : (6 : Int32) = nI 6) rfl))]
  refine tf_cS hx ftX11_gapOf (nx := 21) (As := [.int ((nI (p / 10)) - (nI (q / 10)))]) (rest := []) (st2 := [.int (nI (tf_di (p / 10) (q / 10)))]) ((by have h := m_amount (G := G) (S := S) (nI (p / 10) - nI (q / 10)); rw [tf_amt (by omega) (by omega)] at h; exact h)) rfl lX11_69 rfl ⟨rfl, by decide, by decide, by decide, rfl, rfl⟩ ?_
  have d1 := tf_di_le (show p / 10 < 3 by omega) (show q / 10 < 3 by omega)
  have d2 := tf_di_le (show p % 10 < 10 by omega) (show q % 10 < 10 by omega)
  refine tf_go hx ftX11_gapOf 4 [] 27 [some (.ref o), some (.int (nI h)), some (.int (nI p)), some (.int (nI q)), some (.int (nI t)), some (.int (nI (120 + (6 * h)))), some (.int (nI (tf_di (p / 10) (q / 10))))] [.int (nI t), .int (nI q), .int (nI p)] S rfl ⟨by decide, by decide, rfl⟩ trivial ?_
  refine tf_cS hx ftX11_gapOf (nx := 30) (As := [.int (nI p), .int (nI q), .int (nI t)]) (rest := []) (st2 := [.int (nI (tf_la p q t))]) (m_lawOf p q t (by omega) (by omega) ht) rfl lX11_72 rfl ⟨rfl, by decide, by decide, by decide, rfl, rfl⟩ ?_
  have l1 := tf_la_le p q t
  by_cases c2 : tf_la p q t = 2
  · rw [c2]
    refine tf_swI hx ftX11_gapOf 56 rfl ⟨by decide, by decide, rfl, by decide⟩ ?_
    refine tf_go hx ftX11_gapOf 6 [] 65 [some (.ref o), some (.int (nI h)), some (.int (nI p)), some (.int (nI q)), some (.int (nI t)), some (.int (nI (120 + (6 * h)))), some (.int (nI (tf_di (p / 10) (q / 10))))] [.int (S (tf_rf G o 1) (Int32.toNatClampNeg ((nI (120 + (6 * h))) + 2)))] S rfl ⟨by decide, by decide, rfl⟩ ⟨⟨trivial, ⟨by first | assumption | rfl | decide | omega, by first | assumption | rfl | decide | omega⟩⟩, ⟨Or.inl (by first | assumption | rfl | decide | omega), by first | assumption | exact tf_in (n := ((120 + (6 * h)) + 2)) (tf_add rfl (rfl : (2 : Int32) = nI 2)) (by first | assumption | rfl) (by omega) (by decide)⟩⟩ ?_
    rw [show (S (tf_rf G o 1) (Int32.toNatClampNeg ((nI (120 + (6 * h))) + 2))) = nI (f ((120 + (6 * h)) + 2)) from (tf_rd hs (tf_add rfl (rfl : (2 : Int32) = nI 2)) (by omega))]
    exact tf_ret ftX11_gapOf hR rfl ⟨by decide, by decide⟩ rfl rfl (by rw [if_pos c2]; rfl)
  · by_cases c3 : tf_la p q t = 3
    · rw [c3]
      refine tf_swI hx ftX11_gapOf 66 rfl ⟨by decide, by decide, rfl, by decide⟩ ?_
      refine tf_go hx ftX11_gapOf 15 [] 88 [some (.ref o), some (.int (nI h)), some (.int (nI p)), some (.int (nI q)), some (.int (nI t)), some (.int (nI (120 + (6 * h)))), some (.int (nI (tf_di (p / 10) (q / 10))))] [.int ((nI p) - (nI p) / 10 * 10), .int (S (tf_rf G o 1) (Int32.toNatClampNeg ((nI (120 + (6 * h))) + 4))), .int (S (tf_rf G o 1) (Int32.toNatClampNeg ((nI (120 + (6 * h))) + 3)))] S rfl ⟨by decide, by decide, rfl⟩ ⟨⟨⟨⟨⟨trivial, ⟨by first | assumption | rfl | decide | omega, by first | assumption | rfl | decide | omega⟩⟩, ⟨Or.inl (by first | assumption | rfl | decide | omega), by first | assumption | exact tf_in (n := ((120 + (6 * h)) + 3)) (tf_add rfl (rfl : (3 : Int32) = nI 3)) (by first | assumption | rfl) (by omega) (by decide)⟩⟩, ⟨by first | assumption | rfl | decide | omega, by first | assumption | rfl | decide | omega⟩⟩, ⟨Or.inl (by first | assumption | rfl | decide | omega), by first | assumption | exact tf_in (n := ((120 + (6 * h)) + 4)) (tf_add rfl (rfl : (4 : Int32) = nI 4)) (by first | assumption | rfl) (by omega) (by decide)⟩⟩, (by decide)⟩ ?_
      rw [show ((nI p) - (nI p) / 10 * 10) = nI (p % 10) from (tf_rem rfl (rfl : (10 : Int32) = nI 10) (by omega) (by decide) (by decide))]
      rw [show (S (tf_rf G o 1) (Int32.toNatClampNeg ((nI (120 + (6 * h))) + 4))) = nI (f ((120 + (6 * h)) + 4)) from (tf_rd hs (tf_add rfl (rfl : (4 : Int32) = nI 4)) (by omega))]
      rw [show (S (tf_rf G o 1) (Int32.toNatClampNeg ((nI (120 + (6 * h))) + 3))) = nI (f ((120 + (6 * h)) + 3)) from (tf_rd hs (tf_add rfl (rfl : (3 : Int32) = nI 3)) (by omega))]
      refine tf_go hx ftX11_gapOf 4 [] 93 [some (.ref o), some (.int (nI h)), some (.int (nI p)), some (.int (nI q)), some (.int (nI t)), some (.int (nI (120 + (6 * h)))), some (.int (nI (tf_di (p / 10) (q / 10))))] [.int ((nI (p % 10)) - ((nI q) - (nI q) / 10 * 10)), .int (nI (f ((120 + (6 * h)) + 4))), .int (nI (f ((120 + (6 * h)) + 3)))] S rfl ⟨by decide, by decide, rfl⟩ ⟨trivial, (by decide)⟩ ?_
      rw [show ((nI q) - (nI q) / 10 * 10) = nI (q % 10) from (tf_rem rfl (rfl : (10 : Int32) = nI 10) (by omega) (by decide) (by decide))]
      refine tf_cS hx ftX11_gapOf (nx := 96) (As := [.int ((nI (p % 10)) - (nI (q % 10)))]) (rest := [.int (nI (f ((120 + (6 * h)) + 4))), .int (nI (f ((120 + (6 * h)) + 3)))]) (st2 := [.int (nI (tf_di (p % 10) (q % 10))), .int (nI (f ((120 + (6 * h)) + 4))), .int (nI (f ((120 + (6 * h)) + 3)))]) ((by have h := m_amount (G := G) (S := S) (nI (p % 10) - nI (q % 10)); rw [tf_amt (by omega) (by omega)] at h; exact h)) rfl lX11_69 rfl ⟨rfl, by decide, by decide, by decide, rfl, rfl⟩ ?_
      refine tf_go hx ftX11_gapOf 4 [] 101 [some (.ref o), some (.int (nI h)), some (.int (nI p)), some (.int (nI q)), some (.int (nI t)), some (.int (nI (120 + (6 * h)))), some (.int (nI (tf_di (p / 10) (q / 10))))] [.int ((nI (f ((120 + (6 * h)) + 3))) + ((nI (f ((120 + (6 * h)) + 4))) * ((nI (tf_di (p % 10) (q % 10))) + (nI (tf_di (p / 10) (q / 10))))))] S rfl ⟨by decide, by decide, rfl⟩ trivial ?_
      rw [show ((nI (f ((120 + (6 * h)) + 3))) + ((nI (f ((120 + (6 * h)) + 4))) * ((nI (tf_di (p % 10) (q % 10))) + (nI (tf_di (p / 10) (q / 10)))))) = nI ((f ((120 + (6 * h)) + 3)) + ((f ((120 + (6 * h)) + 4)) * ((tf_di (p % 10) (q % 10)) + (tf_di (p / 10) (q / 10))))) from (tf_add rfl (tf_mul rfl (tf_add rfl rfl)))]
      exact tf_ret ftX11_gapOf hR rfl ⟨by decide, by decide⟩ rfl rfl (by rw [if_neg c2, if_pos c3]; rfl)
    · by_cases c1 : tf_la p q t = 1
      · rw [c1]
        refine tf_swI hx ftX11_gapOf 102 rfl ⟨by decide, by decide, rfl, by decide⟩ ?_
        refine tf_go hx ftX11_gapOf 15 [] 124 [some (.ref o), some (.int (nI h)), some (.int (nI p)), some (.int (nI q)), some (.int (nI t)), some (.int (nI (120 + (6 * h)))), some (.int (nI (tf_di (p / 10) (q / 10))))] [.int ((S (tf_rf G o 1) (Int32.toNatClampNeg ((nI (120 + (6 * h))) + 1))) + ((S (tf_rf G o 1) (Int32.toNatClampNeg ((nI (120 + (6 * h))) + 5))) * (nI (tf_di (p / 10) (q / 10)))))] S rfl ⟨by decide, by decide, rfl⟩ ⟨⟨⟨⟨trivial, ⟨by first | assumption | rfl | decide | omega, by first | assumption | rfl | decide | omega⟩⟩, ⟨Or.inl (by first | assumption | rfl | decide | omega), by first | assumption | exact tf_in (n := ((120 + (6 * h)) + 1)) (tf_add rfl (rfl : (1 : Int32) = nI 1)) (by first | assumption | rfl) (by omega) (by decide)⟩⟩, ⟨by first | assumption | rfl | decide | omega, by first | assumption | rfl | decide | omega⟩⟩, ⟨Or.inl (by first | assumption | rfl | decide | omega), by first | assumption | exact tf_in (n := ((120 + (6 * h)) + 5)) (tf_add rfl (rfl : (5 : Int32) = nI 5)) (by first | assumption | rfl) (by omega) (by decide)⟩⟩ ?_
        rw [show ((S (tf_rf G o 1) (Int32.toNatClampNeg ((nI (120 + (6 * h))) + 1))) + ((S (tf_rf G o 1) (Int32.toNatClampNeg ((nI (120 + (6 * h))) + 5))) * (nI (tf_di (p / 10) (q / 10))))) = nI ((f ((120 + (6 * h)) + 1)) + ((f ((120 + (6 * h)) + 5)) * (tf_di (p / 10) (q / 10)))) from (tf_add (tf_rd hs (tf_add rfl (rfl : (1 : Int32) = nI 1)) (by omega)) (tf_mul (tf_rd hs (tf_add rfl (rfl : (5 : Int32) = nI 5)) (by omega)) rfl))]
        exact tf_ret ftX11_gapOf hR rfl ⟨by decide, by decide⟩ rfl rfl (by rw [if_neg c2, if_neg c3, if_pos c1]; rfl)
      · rw [show tf_la p q t = 0 by omega]
        refine tf_swO hx ftX11_gapOf 125 rfl ⟨Or.inl (by decide), by decide⟩ ?_
        refine tf_go hx ftX11_gapOf 6 [] 134 [some (.ref o), some (.int (nI h)), some (.int (nI p)), some (.int (nI q)), some (.int (nI t)), some (.int (nI (120 + (6 * h)))), some (.int (nI (tf_di (p / 10) (q / 10))))] [.int (S (tf_rf G o 1) (Int32.toNatClampNeg ((nI (120 + (6 * h))) + 0)))] S rfl ⟨by decide, by decide, rfl⟩ ⟨⟨trivial, ⟨by first | assumption | rfl | decide | omega, by first | assumption | rfl | decide | omega⟩⟩, ⟨Or.inl (by first | assumption | rfl | decide | omega), by first | assumption | exact tf_in (n := ((120 + (6 * h)) + 0)) (tf_add rfl (rfl : (0 : Int32) = nI 0)) (by first | assumption | rfl) (by omega) (by decide)⟩⟩ ?_
        rw [show (S (tf_rf G o 1) (Int32.toNatClampNeg ((nI (120 + (6 * h))) + 0))) = nI (f ((120 + (6 * h)) + 0)) from (tf_rd hs (tf_add rfl (rfl : (0 : Int32) = nI 0)) (by omega))]
        exact tf_ret ftX11_gapOf hR rfl ⟨by decide, by decide⟩ rfl rfl (by rw [if_neg c2, if_neg c3, if_neg c1]; rfl)

set_option maxHeartbeats 1000000 in
theorem m_keyAt {G : tf_G} {S : tf_Sg} {o : Nat} {f : Nat → Nat} (b l : Nat) (ho : tf_mo G o) (hf : tf_sf G S o f) (hbb : b < 4) (hl : l < 30) : tf_Fn mX11_keyAt 1 0 0 G S [.ref o, .int (nI b), .int (nI l)] G S (some (.int (tf_on 30 (tf_ke f b l)))) := by
  obtain ⟨h1, ⟨r0, t0, n0⟩, ⟨r1, t1, n1⟩, ⟨r2, t2, n2⟩, ⟨r4, t4, n4⟩⟩ := id ho
  obtain ⟨hs, hb⟩ := id hf
  refine tf_Fn_of (own := RX11) false ⟨by decide, rfl, by decide⟩ (Nat.le_of_ble_eq_true rfl) trivial (fun x hx hR => ?_)
  show tf_K x 0 0 G S 0 [some (.ref o), some (.int (nI b)), some (.int (nI l)), none] []
  unfold tf_ke tf_on at hR
  refine tf_go hx ftX11_keyAt 2 [] 2 [some (.ref o), some (.int (nI b)), some (.int (nI l)), some (.int 0)] [] S rfl ⟨by decide, by decide, rfl⟩ trivial ?_
  have loop : ∀ (m k : Nat), k + m = 30 → (tf_fst (fun k => f (30 * b + k) == l + 1) m k = tf_fst (fun k => f (30 * b + k) == l + 1) 30 0) → tf_K x 0 0 G S 2 [some (.ref o), some (.int (nI b)), some (.int (nI l)), some (.int (nI k))] [] := by
    intro m
    induction m with
    | zero =>
      intro k hk he
      have hk2 : k = 30 := by omega
      refine tf_go hx ftX11_keyAt 4 [true] 35 [some (.ref o), some (.int (nI b)), some (.int (nI l)), some (.int (nI k))] [.int (-9)] S rfl ⟨by decide, by decide, rfl⟩ ⟨trivial, (tf_leT (a := 30) (b := k) (rfl : (30 : Int32) = nI 30) rfl (by omega) (by omega) (by omega))⟩ ?_
      exact tf_ret ftX11_keyAt hR rfl ⟨by decide, by decide⟩ rfl rfl (by rw [← he, tf_fst_0, if_neg (by omega)]; rfl)
    | succ m ih =>
      intro k hk he
      refine tf_go hx ftX11_keyAt 9 [false] 17 [some (.ref o), some (.int (nI b)), some (.int (nI l)), some (.int (nI k))] [.int (nI k), .int (30 * (nI b)), .ref (tf_rf G o 1)] S rfl ⟨by decide, by decide, rfl⟩ ⟨⟨trivial, (tf_leF (a := 30) (b := k) (rfl : (30 : Int32) = nI 30) rfl (by omega) (by omega) (by omega))⟩, ⟨by first | assumption | rfl | decide | omega, by first | assumption | rfl | decide | omega⟩⟩ ?_
      rw [show (30 * (nI b)) = nI (30 * b) from (tf_mul (rfl : (30 : Int32) = nI 30) rfl)]
      refine tf_go hx ftX11_keyAt 4 [] 21 [some (.ref o), some (.int (nI b)), some (.int (nI l)), some (.int (nI k))] [.int 1, .int (nI l), .int (S (tf_rf G o 1) (Int32.toNatClampNeg ((nI (30 * b)) + (nI k))))] S rfl ⟨by decide, by decide, rfl⟩ ⟨trivial, ⟨Or.inl (by first | assumption | rfl | decide | omega), by first | assumption | exact tf_in (n := ((30 * b) + k)) (tf_add rfl rfl) (by first | assumption | rfl) (by omega) (by decide)⟩⟩ ?_
      rw [show (S (tf_rf G o 1) (Int32.toNatClampNeg ((nI (30 * b)) + (nI k)))) = nI (f ((30 * b) + k)) from (tf_rd hs (tf_add rfl rfl) (by omega))]
      by_cases c1 : f (30 * b + k) = l + 1
      · refine tf_go hx ftX11_keyAt 3 [false] 26 [some (.ref o), some (.int (nI b)), some (.int (nI l)), some (.int (nI k))] [.int (nI k)] S rfl ⟨by decide, by decide, rfl⟩ ⟨trivial, (tf_neF (a := (f ((30 * b) + k))) (b := (l + 1)) rfl (tf_add rfl (rfl : (1 : Int32) = nI 1)) (by have := hb ((30 * b) + k); omega))⟩ ?_
        exact tf_ret ftX11_keyAt hR rfl ⟨by decide, by decide⟩ rfl rfl (by rw [← he, tf_fst_y (by simpa using c1), if_pos (by omega)]; rfl)
      · refine tf_go hx ftX11_keyAt 4 [true] 2 [some (.ref o), some (.int (nI b)), some (.int (nI l)), some (.int ((nI k) + 1))] [] S rfl ⟨by decide, by decide, rfl⟩ ⟨trivial, (tf_eqF (a := (f ((30 * b) + k))) (b := (l + 1)) rfl (tf_add rfl (rfl : (1 : Int32) = nI 1)) (by have := hb ((30 * b) + k); omega) (by have := hb ((30 * b) + k); omega) (by have := hb ((30 * b) + k); omega))⟩ ?_
        rw [show ((nI k) + 1) = nI (k + 1) from (tf_add rfl (rfl : (1 : Int32) = nI 1))]
        exact ih (k + 1) (by omega) (by rw [← he, tf_fst_n (by simpa using c1)])
  exact loop 30 0 rfl rfl
end
section
def tX11_refuse : tf_T := [(0, .aload_n 0, 1, 0, 0),
  (1, .getfield 7, 4, 0, 0),
  (4, .iload_n 1, 5, 0, 0),
  (5, .ineg, 6, 0, 0),
  (6, .dup2, 7, 0, 0),
  (7, .iaload, 8, 0, 0),
  (8, .iconst 1, 9, 0, 1),
  (9, .iadd, 10, 0, 0),
  (10, .iastore, 11, 0, 0),
  (11, .iload_n 1, 12, 0, 0),
  (12, .ireturn, 13, 0, 0)]
set_option maxRecDepth 100000 in
theorem okX11_refuse : tf_okT cX11_refuse tX11_refuse := by unfold tf_okT; decide +kernel
theorem ftX11_refuse : 1 ≤ 1 ∧ tf_okF RX11 fX11 ∧ tf_okT cX11_refuse tX11_refuse := ⟨by decide, okfX11, okX11_refuse⟩
def mX11_refuse : tf_M := (yX11_refuse, cX11_refuse, 2, (some .int))

def tX11_sizeOf : tf_T := [(0, .iload_n 1, 1, 0, 0),
  (1, .ifCond .ge 7, 4, 8, 0),
  (4, .iconst 1, 5, 0, 1),
  (5, .goto 16, 8, 21, 0),
  (8, .aload_n 0, 9, 0, 0),
  (9, .getfield 13, 12, 0, 0),
  (12, .sipush 224, 15, 0, 224),
  (15, .bipush 10, 17, 0, 10),
  (17, .iload_n 1, 18, 0, 0),
  (18, .imul, 19, 0, 0),
  (19, .iadd, 20, 0, 0),
  (20, .iaload, 21, 0, 0),
  (21, .ireturn, 22, 0, 0)]
set_option maxRecDepth 100000 in
theorem okX11_sizeOf : tf_okT cX11_sizeOf tX11_sizeOf := by unfold tf_okT; decide +kernel
theorem ftX11_sizeOf : 1 ≤ 1 ∧ tf_okF RX11 fX11 ∧ tf_okT cX11_sizeOf tX11_sizeOf := ⟨by decide, okfX11, okX11_sizeOf⟩
def mX11_sizeOf : tf_M := (yX11_sizeOf, cX11_sizeOf, 2, (some .int))

def tX11_stands : tf_T := [(0, .sipush 224, 3, 0, 224),
  (3, .bipush 10, 5, 0, 10),
  (5, .iload_n 1, 6, 0, 0),
  (6, .imul, 7, 0, 0),
  (7, .iadd, 8, 0, 0),
  (8, .istore_n 3, 9, 0, 0),
  (9, .aload_n 0, 10, 0, 0),
  (10, .getfield 13, 13, 0, 0),
  (13, .iload_n 3, 14, 0, 0),
  (14, .iconst 1, 15, 0, 1),
  (15, .iadd, 16, 0, 0),
  (16, .iaload, 17, 0, 0),
  (17, .iconst 3, 18, 0, 3),
  (18, .if_icmp .lt 22, 21, 40, 0),
  (21, .iload_n 2, 22, 0, 0),
  (22, .aload_n 0, 23, 0, 0),
  (23, .getfield 13, 26, 0, 0),
  (26, .iload_n 3, 27, 0, 0),
  (27, .iaload, 28, 0, 0),
  (28, .iadd, 29, 0, 0),
  (29, .aload_n 0, 30, 0, 0),
  (30, .getfield 13, 33, 0, 0),
  (33, .sipush 364, 36, 0, 364),
  (36, .iaload, 37, 0, 0),
  (37, .if_icmp .le 5, 40, 42, 0),
  (40, .iconst 0, 41, 0, 0),
  (41, .ireturn, 42, 0, 0),
  (42, .iconst 0, 43, 0, 0),
  (43, .istore 4, 45, 0, 0),
  (45, .iload 4, 47, 0, 0),
  (47, .aload_n 0, 48, 0, 0),
  (48, .getfield 13, 51, 0, 0),
  (51, .iload_n 3, 52, 0, 0),
  (52, .iaload, 53, 0, 0),
  (53, .if_icmp .ge 38, 56, 91, 0),
  (56, .aload_n 0, 57, 0, 0),
  (57, .getfield 13, 60, 0, 0),
  (60, .sipush 144, 63, 0, 144),
  (63, .iload_n 2, 64, 0, 0),
  (64, .iadd, 65, 0, 0),
  (65, .iload 4, 67, 0, 0),
  (67, .iadd, 68, 0, 0),
  (68, .iaload, 69, 0, 0),
  (69, .aload_n 0, 70, 0, 0),
  (70, .getfield 13, 73, 0, 0),
  (73, .iload_n 3, 74, 0, 0),
  (74, .iconst 2, 75, 0, 2),
  (75, .iadd, 76, 0, 0),
  (76, .iload 4, 78, 0, 0),
  (78, .iadd, 79, 0, 0),
  (79, .iaload, 80, 0, 0),
  (80, .if_icmp .eq 5, 83, 85, 0),
  (83, .iconst 0, 84, 0, 0),
  (84, .ireturn, 85, 0, 0),
  (85, .iinc 4 1, 88, 0, 1),
  (88, .goto (-43), 91, 45, 0),
  (91, .iconst 1, 92, 0, 1),
  (92, .ireturn, 93, 0, 0)]
set_option maxRecDepth 100000 in
theorem okX11_stands : tf_okT cX11_stands tX11_stands := by unfold tf_okT; decide +kernel
theorem ftX11_stands : 1 ≤ 1 ∧ tf_okF RX11 fX11 ∧ tf_okT cX11_stands tX11_stands := ⟨by decide, okfX11, okX11_stands⟩
def mX11_stands : tf_M := (yX11_stands, cX11_stands, 5, (some .boolean))

def tX11_wordAt : tf_T := [(0, .bipush (-9), 2, 0, (-9)),
  (2, .istore_n 2, 3, 0, 0),
  (3, .iconst 0, 4, 0, 0),
  (4, .istore_n 3, 5, 0, 0),
  (5, .iload_n 3, 6, 0, 0),
  (6, .aload_n 0, 7, 0, 0),
  (7, .getfield 13, 10, 0, 0),
  (10, .sipush 366, 13, 0, 366),
  (13, .iaload, 14, 0, 0),
  (14, .if_icmp .ge 37, 17, 51, 0),
  (17, .aload_n 0, 18, 0, 0),
  (18, .iload_n 3, 19, 0, 0),
  (19, .iload_n 1, 20, 0, 0),
  (20, .invokevirtual 80, 23, 0, 0),
  (23, .ifCond .eq 22, 26, 45, 0),
  (26, .iload_n 2, 27, 0, 0),
  (27, .ifCond .lt 16, 30, 43, 0),
  (30, .aload_n 0, 31, 0, 0),
  (31, .iload_n 3, 32, 0, 0),
  (32, .invokevirtual 83, 35, 0, 0),
  (35, .aload_n 0, 36, 0, 0),
  (36, .iload_n 2, 37, 0, 0),
  (37, .invokevirtual 83, 40, 0, 0),
  (40, .if_icmp .le 5, 43, 45, 0),
  (43, .iload_n 3, 44, 0, 0),
  (44, .istore_n 2, 45, 0, 0),
  (45, .iinc 3 1, 48, 0, 1),
  (48, .goto (-43), 51, 5, 0),
  (51, .iload_n 2, 52, 0, 0),
  (52, .ireturn, 53, 0, 0)]
set_option maxRecDepth 100000 in
theorem okX11_wordAt : tf_okT cX11_wordAt tX11_wordAt := by unfold tf_okT; decide +kernel
theorem ftX11_wordAt : 1 ≤ 2 ∧ tf_okF RX11 fX11 ∧ tf_okT cX11_wordAt tX11_wordAt := ⟨by decide, okfX11, okX11_wordAt⟩
def mX11_wordAt : tf_M := (yX11_wordAt, cX11_wordAt, 4, (some .int))

def tX11_pieces : tf_T := [(0, .iconst 0, 1, 0, 0),
  (1, .istore_n 1, 2, 0, 0),
  (2, .iconst 0, 3, 0, 0),
  (3, .istore_n 2, 4, 0, 0),
  (4, .iload_n 2, 5, 0, 0),
  (5, .aload_n 0, 6, 0, 0),
  (6, .getfield 13, 9, 0, 0),
  (9, .sipush 364, 12, 0, 364),
  (12, .iaload, 13, 0, 0),
  (13, .if_icmp .ge 21, 16, 34, 0),
  (16, .iinc 1 1, 19, 0, 1),
  (19, .iload_n 2, 20, 0, 0),
  (20, .aload_n 0, 21, 0, 0),
  (21, .aload_n 0, 22, 0, 0),
  (22, .iload_n 2, 23, 0, 0),
  (23, .invokevirtual 86, 26, 0, 0),
  (26, .invokevirtual 83, 29, 0, 0),
  (29, .iadd, 30, 0, 0),
  (30, .istore_n 2, 31, 0, 0),
  (31, .goto (-27), 34, 4, 0),
  (34, .iload_n 1, 35, 0, 0),
  (35, .ireturn, 36, 0, 0)]
set_option maxRecDepth 100000 in
theorem okX11_pieces : tf_okT cX11_pieces tX11_pieces := by unfold tf_okT; decide +kernel
theorem ftX11_pieces : 1 ≤ 3 ∧ tf_okF RX11 fX11 ∧ tf_okT cX11_pieces tX11_pieces := ⟨by decide, okfX11, okX11_pieces⟩
def mX11_pieces : tf_M := (yX11_pieces, cX11_pieces, 3, (some .int))

def tX11_gapAt : tf_T := [(0, .aload_n 0, 1, 0, 0),
  (1, .iload_n 2, 2, 0, 0),
  (2, .aload_n 0, 3, 0, 0),
  (3, .getfield 13, 6, 0, 0),
  (6, .sipush 144, 9, 0, 144),
  (9, .iload_n 3, 10, 0, 0),
  (10, .iadd, 11, 0, 0),
  (11, .iaload, 12, 0, 0),
  (12, .invokevirtual 51, 15, 0, 0),
  (15, .istore 5, 17, 0, 0),
  (17, .iload 5, 19, 0, 0),
  (19, .ifCond .ge 7, 22, 26, 0),
  (22, .sipush 999, 25, 0, 999),
  (25, .ireturn, 26, 0, 0),
  (26, .iload_n 3, 27, 0, 0),
  (27, .ifCond .ne 8, 30, 35, 0),
  (30, .bipush (-9), 32, 0, (-9)),
  (32, .goto 20, 35, 52, 0),
  (35, .aload_n 0, 36, 0, 0),
  (36, .iload_n 2, 37, 0, 0),
  (37, .aload_n 0, 38, 0, 0),
  (38, .getfield 13, 41, 0, 0),
  (41, .sipush 144, 44, 0, 144),
  (44, .iload_n 3, 45, 0, 0),
  (45, .iadd, 46, 0, 0),
  (46, .iconst 1, 47, 0, 1),
  (47, .isub, 48, 0, 0),
  (48, .iaload, 49, 0, 0),
  (49, .invokevirtual 51, 52, 0, 0),
  (52, .istore 6, 54, 0, 0),
  (54, .iload 6, 56, 0, 0),
  (56, .ifCond .ge 18, 59, 74, 0),
  (59, .aload_n 0, 60, 0, 0),
  (60, .getfield 13, 63, 0, 0),
  (63, .bipush 120, 65, 0, 120),
  (65, .bipush 6, 67, 0, 6),
  (67, .iload_n 1, 68, 0, 0),
  (68, .imul, 69, 0, 0),
  (69, .iadd, 70, 0, 0),
  (70, .iaload, 71, 0, 0),
  (71, .goto 14, 74, 85, 0),
  (74, .aload_n 0, 75, 0, 0),
  (75, .iload_n 1, 76, 0, 0),
  (76, .iload 6, 78, 0, 0),
  (78, .iload 5, 80, 0, 0),
  (80, .iload 4, 82, 0, 0),
  (82, .invokevirtual 76, 85, 0, 0),
  (85, .ireturn, 86, 0, 0)]
set_option maxRecDepth 100000 in
theorem okX11_gapAt : tf_okT cX11_gapAt tX11_gapAt := by unfold tf_okT; decide +kernel
theorem ftX11_gapAt : 1 ≤ 4 ∧ tf_okF RX11 fX11 ∧ tf_okT cX11_gapAt tX11_gapAt := ⟨by decide, okfX11, okX11_gapAt⟩
def mX11_gapAt : tf_M := (yX11_gapAt, cX11_gapAt, 7, (some .int))

def tX11_piece : tf_T := [(0, .iload_n 2, 1, 0, 0),
  (1, .iconst 3, 2, 0, 3),
  (2, .invokestatic 22, 5, 0, 0),
  (5, .ifCond .ne 10, 8, 15, 0),
  (8, .aload_n 0, 9, 0, 0),
  (9, .bipush (-2), 11, 0, (-2)),
  (11, .invokevirtual 26, 14, 0, 0),
  (14, .ireturn, 15, 0, 0),
  (15, .iconst 0, 16, 0, 0),
  (16, .istore_n 3, 17, 0, 0),
  (17, .iconst 0, 18, 0, 0),
  (18, .istore 4, 20, 0, 0),
  (20, .iload 4, 22, 0, 0),
  (22, .aload_n 0, 23, 0, 0),
  (23, .getfield 13, 26, 0, 0),
  (26, .sipush 364, 29, 0, 364),
  (29, .iaload, 30, 0, 0),
  (30, .if_icmp .ge 63, 33, 93, 0),
  (33, .iload_n 3, 34, 0, 0),
  (34, .iload_n 1, 35, 0, 0),
  (35, .if_icmp .ne 37, 38, 72, 0),
  (38, .iload_n 2, 39, 0, 0),
  (39, .ifCond .ne 8, 42, 47, 0),
  (42, .iload 4, 44, 0, 0),
  (44, .goto 27, 47, 71, 0),
  (47, .iload_n 2, 48, 0, 0),
  (48, .iconst 1, 49, 0, 1),
  (49, .if_icmp .ne 16, 52, 65, 0),
  (52, .aload_n 0, 53, 0, 0),
  (53, .aload_n 0, 54, 0, 0),
  (54, .iload 4, 56, 0, 0),
  (56, .invokevirtual 86, 59, 0, 0),
  (59, .invokevirtual 83, 62, 0, 0),
  (62, .goto 9, 65, 71, 0),
  (65, .aload_n 0, 66, 0, 0),
  (66, .iload 4, 68, 0, 0),
  (68, .invokevirtual 86, 71, 0, 0),
  (71, .ireturn, 72, 0, 0),
  (72, .iinc 3 1, 75, 0, 1),
  (75, .iload 4, 77, 0, 0),
  (77, .aload_n 0, 78, 0, 0),
  (78, .aload_n 0, 79, 0, 0),
  (79, .iload 4, 81, 0, 0),
  (81, .invokevirtual 86, 84, 0, 0),
  (84, .invokevirtual 83, 87, 0, 0),
  (87, .iadd, 88, 0, 0),
  (88, .istore 4, 90, 0, 0),
  (90, .goto (-70), 93, 20, 0),
  (93, .bipush (-9), 95, 0, (-9)),
  (95, .ireturn, 96, 0, 0)]
set_option maxRecDepth 100000 in
theorem okX11_piece : tf_okT cX11_piece tX11_piece := by unfold tf_okT; decide +kernel
theorem ftX11_piece : 1 ≤ 3 ∧ tf_okF RX11 fX11 ∧ tf_okT cX11_piece tX11_piece := ⟨by decide, okfX11, okX11_piece⟩
def mX11_piece : tf_M := (yX11_piece, cX11_piece, 5, (some .int))

def tX11_timeOf : tf_T := [(0, .iconst 0, 1, 0, 0),
  (1, .istore 4, 3, 0, 0),
  (3, .iconst 0, 4, 0, 0),
  (4, .istore 5, 6, 0, 0),
  (6, .iload 5, 8, 0, 0),
  (8, .aload_n 0, 9, 0, 0),
  (9, .getfield 13, 12, 0, 0),
  (12, .sipush 364, 15, 0, 364),
  (15, .iaload, 16, 0, 0),
  (16, .if_icmp .ge 143, 19, 159, 0),
  (19, .aload_n 0, 20, 0, 0),
  (20, .iload 5, 22, 0, 0),
  (22, .invokevirtual 86, 25, 0, 0),
  (25, .istore 6, 27, 0, 0),
  (27, .aload_n 0, 28, 0, 0),
  (28, .iload 6, 30, 0, 0),
  (30, .invokevirtual 83, 33, 0, 0),
  (33, .istore 7, 35, 0, 0),
  (35, .bipush 100, 37, 0, 100),
  (37, .istore 8, 39, 0, 0),
  (39, .iload 6, 41, 0, 0),
  (41, .ifCond .lt 52, 44, 93, 0),
  (44, .iload 8, 46, 0, 0),
  (46, .iconst 5, 47, 0, 5),
  (47, .aload_n 0, 48, 0, 0),
  (48, .getfield 13, 51, 0, 0),
  (51, .sipush 224, 54, 0, 224),
  (54, .bipush 10, 56, 0, 10),
  (56, .iload 6, 58, 0, 0),
  (58, .imul, 59, 0, 0),
  (59, .iadd, 60, 0, 0),
  (60, .iconst 1, 61, 0, 1),
  (61, .iadd, 62, 0, 0),
  (62, .iaload, 63, 0, 0),
  (63, .bipush 10, 65, 0, 10),
  (65, .if_icmp .le 8, 68, 73, 0),
  (68, .bipush 10, 70, 0, 10),
  (70, .goto 19, 73, 89, 0),
  (73, .aload_n 0, 74, 0, 0),
  (74, .getfield 13, 77, 0, 0),
  (77, .sipush 224, 80, 0, 224),
  (80, .bipush 10, 82, 0, 10),
  (82, .iload 6, 84, 0, 0),
  (84, .imul, 85, 0, 0),
  (85, .iadd, 86, 0, 0),
  (86, .iconst 1, 87, 0, 1),
  (87, .iadd, 88, 0, 0),
  (88, .iaload, 89, 0, 0),
  (89, .imul, 90, 0, 0),
  (90, .isub, 91, 0, 0),
  (91, .istore 8, 93, 0, 0),
  (93, .iconst 0, 94, 0, 0),
  (94, .istore 9, 96, 0, 0),
  (96, .iload 9, 98, 0, 0),
  (98, .iload 7, 100, 0, 0),
  (100, .if_icmp .ge 49, 103, 149, 0),
  (103, .iload 4, 105, 0, 0),
  (105, .iload 9, 107, 0, 0),
  (107, .ifCond .ne 15, 110, 122, 0),
  (110, .aload_n 0, 111, 0, 0),
  (111, .iload_n 1, 112, 0, 0),
  (112, .iload_n 2, 113, 0, 0),
  (113, .iload 5, 115, 0, 0),
  (115, .iload_n 3, 116, 0, 0),
  (116, .invokevirtual 89, 119, 0, 0),
  (119, .goto 21, 122, 140, 0),
  (122, .aload_n 0, 123, 0, 0),
  (123, .iload_n 1, 124, 0, 0),
  (124, .iload_n 2, 125, 0, 0),
  (125, .iload 5, 127, 0, 0),
  (127, .iload 9, 129, 0, 0),
  (129, .iadd, 130, 0, 0),
  (130, .iload_n 3, 131, 0, 0),
  (131, .invokevirtual 89, 134, 0, 0),
  (134, .iload 8, 136, 0, 0),
  (136, .imul, 137, 0, 0),
  (137, .bipush 100, 139, 0, 100),
  (139, .idiv, 140, 0, 0),
  (140, .iadd, 141, 0, 0),
  (141, .istore 4, 143, 0, 0),
  (143, .iinc 9 1, 146, 0, 1),
  (146, .goto (-50), 149, 96, 0),
  (149, .iload 5, 151, 0, 0),
  (151, .iload 7, 153, 0, 0),
  (153, .iadd, 154, 0, 0),
  (154, .istore 5, 156, 0, 0),
  (156, .goto (-150), 159, 6, 0),
  (159, .iload 4, 161, 0, 0),
  (161, .ireturn, 162, 0, 0)]
set_option maxRecDepth 100000 in
theorem okX11_timeOf : tf_okT cX11_timeOf tX11_timeOf := by unfold tf_okT; decide +kernel
theorem ftX11_timeOf : 1 ≤ 5 ∧ tf_okF RX11 fX11 ∧ tf_okT cX11_timeOf tX11_timeOf := ⟨by decide, okfX11, okX11_timeOf⟩
def mX11_timeOf : tf_M := (yX11_timeOf, cX11_timeOf, 10, (some .int))

set_option maxRecDepth 100000 in
theorem lX11_26 : tf_okV RX11 26 1 8 mX11_refuse := by unfold tf_okV tf_okL; decide +kernel

set_option maxRecDepth 100000 in
theorem lX11_51 : tf_okV RX11 51 2 8 mX11_keyAt := by unfold tf_okV tf_okL; decide +kernel

set_option maxRecDepth 100000 in
theorem lX11_76 : tf_okV RX11 76 4 8 mX11_gapOf := by unfold tf_okV tf_okL; decide +kernel

set_option maxRecDepth 100000 in
theorem lX11_80 : tf_okV RX11 80 2 8 mX11_stands := by unfold tf_okV tf_okL; decide +kernel

set_option maxRecDepth 100000 in
theorem lX11_83 : tf_okV RX11 83 1 8 mX11_sizeOf := by unfold tf_okV tf_okL; decide +kernel

set_option maxRecDepth 100000 in
theorem lX11_86 : tf_okV RX11 86 1 8 mX11_wordAt := by unfold tf_okV tf_okL; decide +kernel

set_option maxRecDepth 100000 in
theorem lX11_89 : tf_okV RX11 89 4 8 mX11_gapAt := by unfold tf_okV tf_okL; decide +kernel

set_option maxHeartbeats 1000000 in
theorem m_refuse {G : tf_G} {S : tf_Sg} {o : Nat} (c : Int32) (ho : tf_mo G o) (hc : vp_in (-c) 7) : tf_Fn mX11_refuse 1 0 0 G S [.ref o, .int c] G (tf_set S (tf_rf G o 0) (-c).toNatClampNeg (S (tf_rf G o 0) (-c).toNatClampNeg + 1)) (some (.int c)) := by
  obtain ⟨h1, ⟨r0, t0, n0⟩, ⟨r1, t1, n1⟩, ⟨r2, t2, n2⟩, ⟨r4, t4, n4⟩⟩ := id ho
  refine tf_Fn_of (own := RX11) false ⟨by decide, rfl, by decide⟩ (Nat.le_of_ble_eq_true rfl) trivial (fun x hx hR => ?_)
  show tf_K x 0 0 G S 0 [some (.ref o), some (.int c)] []
  have h6 : vp_in (-c) (tf_ln G (tf_rf G o 0)) := by rw [n0]; exact hc
  refine tf_go hx ftX11_refuse 10 [] 12 [some (.ref o), some (.int c)] [.int c] (tf_set S (tf_rf G o 0) (Int32.toNatClampNeg (-c)) ((S (tf_rf G o 0) (Int32.toNatClampNeg (-c))) + 1)) rfl ⟨by decide, by decide, rfl⟩ ⟨⟨⟨trivial, ⟨by first | assumption | rfl | decide | omega, by first | assumption | rfl | decide | omega⟩⟩, ⟨Or.inl (by first | assumption | rfl | decide | omega), by first | assumption | rfl | decide | omega⟩⟩, ⟨by first | assumption | rfl | decide | omega, by first | assumption | rfl | decide | omega⟩⟩ ?_
  exact tf_ret ftX11_refuse hR rfl ⟨by decide, by decide⟩ rfl rfl rfl

set_option maxHeartbeats 1000000 in
theorem m_sizeOf {G : tf_G} {S : tf_Sg} {o : Nat} {f : Nat → Nat} (w : Nat) (ho : tf_mo G o) (hf : tf_sf G S o f) : tf_Fn mX11_sizeOf 1 0 0 G S [.ref o, .int (tf_on 10 w)] G S (some (.int (nI (tf_sz f w)))) := by
  obtain ⟨h1, ⟨r0, t0, n0⟩, ⟨r1, t1, n1⟩, ⟨r2, t2, n2⟩, ⟨r4, t4, n4⟩⟩ := id ho
  obtain ⟨hs, hb⟩ := id hf
  refine tf_Fn_of (own := RX11) false ⟨by decide, rfl, by decide⟩ (Nat.le_of_ble_eq_true rfl) trivial (fun x hx hR => ?_)
  show tf_K x 0 0 G S 0 [some (.ref o), some (.int (tf_on 10 w))] []
  unfold tf_sz at hR
  by_cases c1 : w < 10
  · rw [tf_on_y c1]
    refine tf_go hx ftX11_sizeOf 10 [true] 21 [some (.ref o), some (.int (nI w))] [.int (S (tf_rf G o 1) (Int32.toNatClampNeg (224 + (10 * (nI w)))))] S rfl ⟨by decide, by decide, rfl⟩ ⟨⟨⟨trivial, (tf_leT (a := 0) (b := w) (rfl : (0 : Int32) = nI 0) rfl (by omega) (by omega) (by omega))⟩, ⟨by first | assumption | rfl | decide | omega, by first | assumption | rfl | decide | omega⟩⟩, ⟨Or.inl (by first | assumption | rfl | decide | omega), by first | assumption | exact tf_in (n := (224 + (10 * w))) (tf_add (rfl : (224 : Int32) = nI 224) (tf_mul (rfl : (10 : Int32) = nI 10) rfl)) (by first | assumption | rfl) (by omega) (by decide)⟩⟩ ?_
    rw [show (S (tf_rf G o 1) (Int32.toNatClampNeg (224 + (10 * (nI w))))) = nI (f (224 + (10 * w))) from (tf_rd hs (tf_add (rfl : (224 : Int32) = nI 224) (tf_mul (rfl : (10 : Int32) = nI 10) rfl)) (by omega))]
    exact tf_ret ftX11_sizeOf hR rfl ⟨by decide, by decide⟩ rfl rfl (by rw [if_pos c1]; rfl)
  · rw [tf_on_n c1]
    refine tf_go hx ftX11_sizeOf 4 [false] 21 [some (.ref o), some (.int (-9))] [.int 1] S rfl ⟨by decide, by decide, rfl⟩ ⟨trivial, (by decide)⟩ ?_
    exact tf_ret ftX11_sizeOf hR rfl ⟨by decide, by decide⟩ rfl rfl (by rw [if_neg c1]; rfl)

set_option maxHeartbeats 1000000 in
theorem m_stands {G : tf_G} {S : tf_Sg} {o : Nat} {f : Nat → Nat} (w i : Nat) (ho : tf_mo G o) (hf : tf_sf G S o f) (hg : tf_gd f) (hw : w < f 366) (hi : i < 41) : tf_Fn mX11_stands 1 0 0 G S [.ref o, .int (nI w), .int (nI i)] G S (some (.int (if tf_sd f w i = true then 1 else 0))) := by
  obtain ⟨h1, ⟨r0, t0, n0⟩, ⟨r1, t1, n1⟩, ⟨r2, t2, n2⟩, ⟨r4, t4, n4⟩⟩ := id ho
  obtain ⟨hs, hb⟩ := id hf
  obtain ⟨⟨g1, g2, g3, g4⟩, g5, g6, g7, g8, g9, g10, g11⟩ := id hg
  refine tf_Fn_of (own := RX11) false ⟨by decide, rfl, by decide⟩ (Nat.le_of_ble_eq_true rfl) (by show (if _ then (1 : Int32) else 0) = 0 ∨ _; split; exact Or.inr rfl; exact Or.inl rfl) (fun x hx hR => ?_)
  show tf_K x 0 0 G S 0 [some (.ref o), some (.int (nI w)), some (.int (nI i)), none, none] []
  have q1 := (g5 w hw).2
  refine tf_go hx ftX11_stands 6 [] 9 [some (.ref o), some (.int (nI w)), some (.int (nI i)), some (.int (224 + (10 * (nI w)))), none] [] S rfl ⟨by decide, by decide, rfl⟩ trivial ?_
  rw [show (224 + (10 * (nI w))) = nI (224 + (10 * w)) from (tf_add (rfl : (224 : Int32) = nI 224) (tf_mul (rfl : (10 : Int32) = nI 10) rfl))]
  refine tf_go hx ftX11_stands 7 [] 18 [some (.ref o), some (.int (nI w)), some (.int (nI i)), some (.int (nI (224 + (10 * w)))), none] [.int 3, .int (S (tf_rf G o 1) (Int32.toNatClampNeg ((nI (224 + (10 * w))) + 1)))] S rfl ⟨by decide, by decide, rfl⟩ ⟨⟨trivial, ⟨by first | assumption | rfl | decide | omega, by first | assumption | rfl | decide | omega⟩⟩, ⟨Or.inl (by first | assumption | rfl | decide | omega), by first | assumption | exact tf_in (n := ((224 + (10 * w)) + 1)) (tf_add rfl (rfl : (1 : Int32) = nI 1)) (by first | assumption | rfl) (by omega) (by decide)⟩⟩ ?_
  rw [show (S (tf_rf G o 1) (Int32.toNatClampNeg ((nI (224 + (10 * w))) + 1))) = nI (f ((224 + (10 * w)) + 1)) from (tf_rd hs (tf_add rfl (rfl : (1 : Int32) = nI 1)) (by omega))]
  by_cases c1 : f (224 + 10 * w + 1) < 3
  · refine tf_go hx ftX11_stands 2 [true] 41 [some (.ref o), some (.int (nI w)), some (.int (nI i)), some (.int (nI (224 + (10 * w)))), none] [.int 0] S rfl ⟨by decide, by decide, rfl⟩ ⟨trivial, (tf_ltT (a := (f ((224 + (10 * w)) + 1))) (b := 3) rfl (rfl : (3 : Int32) = nI 3) (by have := hb ((224 + (10 * w)) + 1); omega) (by have := hb ((224 + (10 * w)) + 1); omega) (by have := hb ((224 + (10 * w)) + 1); omega))⟩ ?_
    exact tf_ret ftX11_stands hR rfl ⟨by decide, by decide⟩ rfl rfl (by rw [if_neg (by unfold tf_sd; simp; omega)]; rfl)
  · refine tf_go hx ftX11_stands 1 [false] 21 [some (.ref o), some (.int (nI w)), some (.int (nI i)), some (.int (nI (224 + (10 * w)))), none] [] S rfl ⟨by decide, by decide, rfl⟩ ⟨trivial, (tf_ltF (a := (f ((224 + (10 * w)) + 1))) (b := 3) rfl (rfl : (3 : Int32) = nI 3) (by have := hb ((224 + (10 * w)) + 1); omega) (by have := hb ((224 + (10 * w)) + 1); omega) (by have := hb ((224 + (10 * w)) + 1); omega))⟩ ?_
    refine tf_go hx ftX11_stands 10 [] 37 [some (.ref o), some (.int (nI w)), some (.int (nI i)), some (.int (nI (224 + (10 * w)))), none] [.int (S (tf_rf G o 1) (Int32.toNatClampNeg 364)), .int ((nI i) + (S (tf_rf G o 1) (Int32.toNatClampNeg (nI (224 + (10 * w))))))] S rfl ⟨by decide, by decide, rfl⟩ ⟨⟨⟨⟨trivial, ⟨by first | assumption | rfl | decide | omega, by first | assumption | rfl | decide | omega⟩⟩, ⟨Or.inl (by first | assumption | rfl | decide | omega), by first | assumption | exact tf_in (n := (224 + (10 * w))) rfl (by first | assumption | rfl) (by omega) (by decide)⟩⟩, ⟨by first | assumption | rfl | decide | omega, by first | assumption | rfl | decide | omega⟩⟩, ⟨Or.inl (by first | assumption | rfl | decide | omega), by first | assumption | exact tf_in (n := 364) (rfl : (364 : Int32) = nI 364) (by first | assumption | rfl) (by omega) (by decide)⟩⟩ ?_
    rw [show (S (tf_rf G o 1) (Int32.toNatClampNeg 364)) = nI (f 364) from (tf_rd hs (rfl : (364 : Int32) = nI 364) (by omega))]
    rw [show ((nI i) + (S (tf_rf G o 1) (Int32.toNatClampNeg (nI (224 + (10 * w)))))) = nI (i + (f (224 + (10 * w)))) from (tf_add rfl (tf_rd hs rfl (by omega)))]
    by_cases c2 : f 364 < i + f (224 + 10 * w)
    · refine tf_go hx ftX11_stands 2 [false] 41 [some (.ref o), some (.int (nI w)), some (.int (nI i)), some (.int (nI (224 + (10 * w)))), none] [.int 0] S rfl ⟨by decide, by decide, rfl⟩ ⟨trivial, (tf_leF (a := (i + (f (224 + (10 * w))))) (b := (f 364)) rfl rfl (by have := hb (224 + (10 * w)); have := hb 364; omega) (by have := hb (224 + (10 * w)); have := hb 364; omega) (by have := hb (224 + (10 * w)); have := hb 364; omega))⟩ ?_
      exact tf_ret ftX11_stands hR rfl ⟨by decide, by decide⟩ rfl rfl (by rw [if_neg (by unfold tf_sd; simp; omega)]; rfl)
    · refine tf_go hx ftX11_stands 3 [true] 45 [some (.ref o), some (.int (nI w)), some (.int (nI i)), some (.int (nI (224 + (10 * w)))), some (.int 0)] [] S rfl ⟨by decide, by decide, rfl⟩ ⟨trivial, (tf_leT (a := (i + (f (224 + (10 * w))))) (b := (f 364)) rfl rfl (by have := hb (224 + (10 * w)); have := hb 364; omega) (by have := hb (224 + (10 * w)); have := hb 364; omega) (by have := hb (224 + (10 * w)); have := hb 364; omega))⟩ ?_
      have loop : ∀ (m k : Nat), k + m = f (224 + 10 * w) → (tf_fst (fun k => !(f (144 + i + k) == f (224 + 10 * w + 2 + k))) m k = tf_fst (fun k => !(f (144 + i + k) == f (224 + 10 * w + 2 + k))) (f (224 + 10 * w)) 0) → tf_K x 0 0 G S 45 [some (.ref o), some (.int (nI w)), some (.int (nI i)), some (.int (nI (224 + 10 * w))), some (.int (nI k))] [] := by
        intro m
        induction m with
        | zero =>
          intro k hk he
          refine tf_go hx ftX11_stands 5 [] 53 [some (.ref o), some (.int (nI w)), some (.int (nI i)), some (.int (nI (224 + 10 * w))), some (.int (nI k))] [.int (S (tf_rf G o 1) (Int32.toNatClampNeg (nI (224 + 10 * w)))), .int (nI k)] S rfl ⟨by decide, by decide, rfl⟩ ⟨⟨trivial, ⟨by first | assumption | rfl | decide | omega, by first | assumption | rfl | decide | omega⟩⟩, ⟨Or.inl (by first | assumption | rfl | decide | omega), by first | assumption | exact tf_in (n := (224 + 10 * w)) rfl (by first | assumption | rfl) (by omega) (by decide)⟩⟩ ?_
          rw [show (S (tf_rf G o 1) (Int32.toNatClampNeg (nI (224 + 10 * w)))) = nI (f (224 + 10 * w)) from (tf_rd hs rfl (by omega))]
          refine tf_go hx ftX11_stands 2 [true] 92 [some (.ref o), some (.int (nI w)), some (.int (nI i)), some (.int (nI (224 + 10 * w))), some (.int (nI k))] [.int 1] S rfl ⟨by decide, by decide, rfl⟩ ⟨trivial, (tf_leT (a := (f (224 + 10 * w))) (b := k) rfl rfl (by have := hb (224 + 10 * w); omega) (by have := hb (224 + 10 * w); omega) (by have := hb (224 + 10 * w); omega))⟩ ?_
          exact tf_ret ftX11_stands hR rfl ⟨by decide, by decide⟩ rfl rfl (by rw [if_pos (by rw [tf_fst_0] at he; unfold tf_sd; simp only [Bool.and_eq_true, decide_eq_true_eq]; omega)]; rfl)
        | succ m ih =>
          intro k hk he
          refine tf_go hx ftX11_stands 5 [] 53 [some (.ref o), some (.int (nI w)), some (.int (nI i)), some (.int (nI (224 + 10 * w))), some (.int (nI k))] [.int (S (tf_rf G o 1) (Int32.toNatClampNeg (nI (224 + 10 * w)))), .int (nI k)] S rfl ⟨by decide, by decide, rfl⟩ ⟨⟨trivial, ⟨by first | assumption | rfl | decide | omega, by first | assumption | rfl | decide | omega⟩⟩, ⟨Or.inl (by first | assumption | rfl | decide | omega), by first | assumption | exact tf_in (n := (224 + 10 * w)) rfl (by first | assumption | rfl) (by omega) (by decide)⟩⟩ ?_
          rw [show (S (tf_rf G o 1) (Int32.toNatClampNeg (nI (224 + 10 * w)))) = nI (f (224 + 10 * w)) from (tf_rd hs rfl (by omega))]
          refine tf_go hx ftX11_stands 1 [false] 56 [some (.ref o), some (.int (nI w)), some (.int (nI i)), some (.int (nI (224 + 10 * w))), some (.int (nI k))] [] S rfl ⟨by decide, by decide, rfl⟩ ⟨trivial, (tf_leF (a := (f (224 + 10 * w))) (b := k) rfl rfl (by have := hb (224 + 10 * w); omega) (by have := hb (224 + 10 * w); omega) (by have := hb (224 + 10 * w); omega))⟩ ?_
          refine tf_go hx ftX11_stands 15 [] 79 [some (.ref o), some (.int (nI w)), some (.int (nI i)), some (.int (nI (224 + 10 * w))), some (.int (nI k))] [.int (((nI (224 + 10 * w)) + 2) + (nI k)), .ref (tf_rf G o 1), .int (S (tf_rf G o 1) (Int32.toNatClampNeg ((144 + (nI i)) + (nI k))))] S rfl ⟨by decide, by decide, rfl⟩ ⟨⟨⟨trivial, ⟨by first | assumption | rfl | decide | omega, by first | assumption | rfl | decide | omega⟩⟩, ⟨Or.inl (by first | assumption | rfl | decide | omega), by first | assumption | exact tf_in (n := ((144 + i) + k)) (tf_add (tf_add (rfl : (144 : Int32) = nI 144) rfl) rfl) (by first | assumption | rfl) (by omega) (by decide)⟩⟩, ⟨by first | assumption | rfl | decide | omega, by first | assumption | rfl | decide | omega⟩⟩ ?_
          rw [show (((nI (224 + 10 * w)) + 2) + (nI k)) = nI (((224 + 10 * w) + 2) + k) from (tf_add (tf_add rfl (rfl : (2 : Int32) = nI 2)) rfl)]
          rw [show (S (tf_rf G o 1) (Int32.toNatClampNeg ((144 + (nI i)) + (nI k)))) = nI (f ((144 + i) + k)) from (tf_rd hs (tf_add (tf_add (rfl : (144 : Int32) = nI 144) rfl) rfl) (by omega))]
          by_cases c3 : f (144 + i + k) = f (224 + 10 * w + 2 + k)
          · refine tf_go hx ftX11_stands 4 [true] 45 [some (.ref o), some (.int (nI w)), some (.int (nI i)), some (.int (nI (224 + 10 * w))), some (.int ((nI k) + 1))] [] S rfl ⟨by decide, by decide, rfl⟩ ⟨⟨trivial, ⟨Or.inl (by first | assumption | rfl | decide | omega), by first | assumption | exact tf_in (n := (((224 + 10 * w) + 2) + k)) rfl (by first | assumption | rfl) (by omega) (by decide)⟩⟩, (tf_eqT (a := (f ((144 + i) + k))) (b := (f (((224 + 10 * w) + 2) + k))) rfl (tf_rd hs rfl (by omega)) (by have := hb ((144 + i) + k); have := hb (((224 + 10 * w) + 2) + k); omega))⟩ ?_
            rw [show ((nI k) + 1) = nI (k + 1) from (tf_add rfl (rfl : (1 : Int32) = nI 1))]
            exact ih (k + 1) (by omega) (by rw [← he, tf_fst_n (by simpa using c3)])
          · refine tf_go hx ftX11_stands 3 [false] 84 [some (.ref o), some (.int (nI w)), some (.int (nI i)), some (.int (nI (224 + 10 * w))), some (.int (nI k))] [.int 0] S rfl ⟨by decide, by decide, rfl⟩ ⟨⟨trivial, ⟨Or.inl (by first | assumption | rfl | decide | omega), by first | assumption | exact tf_in (n := (((224 + 10 * w) + 2) + k)) rfl (by first | assumption | rfl) (by omega) (by decide)⟩⟩, (tf_eqF (a := (f ((144 + i) + k))) (b := (f (((224 + 10 * w) + 2) + k))) rfl (tf_rd hs rfl (by omega)) (by have := hb ((144 + i) + k); have := hb (((224 + 10 * w) + 2) + k); omega) (by have := hb ((144 + i) + k); have := hb (((224 + 10 * w) + 2) + k); omega) (by have := hb ((144 + i) + k); have := hb (((224 + 10 * w) + 2) + k); omega))⟩ ?_
            exact tf_ret ftX11_stands hR rfl ⟨by decide, by decide⟩ rfl rfl (by rw [if_neg (by rw [tf_fst_y (by simpa using c3)] at he; unfold tf_sd; simp only [Bool.and_eq_true, decide_eq_true_eq]; omega)]; rfl)
      exact loop (f (224 + 10 * w)) 0 (by omega) rfl

set_option maxHeartbeats 1000000 in
theorem m_wordAt {G : tf_G} {S : tf_Sg} {o : Nat} {f : Nat → Nat} (i : Nat) (ho : tf_mo G o) (hf : tf_sf G S o f) (hg : tf_gd f) (hi : i < 41) : tf_Fn mX11_wordAt 2 0 0 G S [.ref o, .int (nI i)] G S (some (.int (tf_on 10 (tf_wd f i)))) := by
  obtain ⟨h1, ⟨r0, t0, n0⟩, ⟨r1, t1, n1⟩, ⟨r2, t2, n2⟩, ⟨r4, t4, n4⟩⟩ := id ho
  obtain ⟨hs, hb⟩ := id hf
  obtain ⟨⟨g1, g2, g3, g4⟩, g5, g6, g7, g8, g9, g10, g11⟩ := id hg
  refine tf_Fn_of (own := RX11) false ⟨by decide, rfl, by decide⟩ (Nat.le_of_ble_eq_true rfl) trivial (fun x hx hR => ?_)
  show tf_K x 0 0 G S 0 [some (.ref o), some (.int (nI i)), none, none] []
  unfold tf_wd at hR
  refine tf_go hx ftX11_wordAt 4 [] 5 [some (.ref o), some (.int (nI i)), some (.int (-9)), some (.int 0)] [] S rfl ⟨by decide, by decide, rfl⟩ trivial ?_
  have loop : ∀ (m k : Nat) (best : Nat), k + m = f 366 → (tf_wl f i m k best = tf_wl f i (f 366) 0 10) → (best = 10 ∨ best < f 366) → tf_K x 0 0 G S 5 [some (.ref o), some (.int (nI i)), some (.int (tf_on 10 best)), some (.int (nI k))] [] := by
    intro m
    induction m with
    | zero =>
      intro k best hk he hbe
      refine tf_go hx ftX11_wordAt 5 [] 14 [some (.ref o), some (.int (nI i)), some (.int (tf_on 10 best)), some (.int (nI k))] [.int (S (tf_rf G o 1) (Int32.toNatClampNeg 366)), .int (nI k)] S rfl ⟨by decide, by decide, rfl⟩ ⟨⟨trivial, ⟨by first | assumption | rfl | decide | omega, by first | assumption | rfl | decide | omega⟩⟩, ⟨Or.inl (by first | assumption | rfl | decide | omega), by first | assumption | exact tf_in (n := 366) (rfl : (366 : Int32) = nI 366) (by first | assumption | rfl) (by omega) (by decide)⟩⟩ ?_
      rw [show (S (tf_rf G o 1) (Int32.toNatClampNeg 366)) = nI (f 366) from (tf_rd hs (rfl : (366 : Int32) = nI 366) (by omega))]
      refine tf_go hx ftX11_wordAt 2 [true] 52 [some (.ref o), some (.int (nI i)), some (.int (tf_on 10 best)), some (.int (nI k))] [.int (tf_on 10 best)] S rfl ⟨by decide, by decide, rfl⟩ ⟨trivial, (tf_leT (a := (f 366)) (b := k) rfl rfl (by have := hb 366; omega) (by have := hb 366; omega) (by have := hb 366; omega))⟩ ?_
      exact tf_ret ftX11_wordAt hR rfl ⟨by decide, by decide⟩ rfl rfl (by rw [← he]; rfl)
    | succ m ih =>
      intro k best hk he hbe
      refine tf_go hx ftX11_wordAt 5 [] 14 [some (.ref o), some (.int (nI i)), some (.int (tf_on 10 best)), some (.int (nI k))] [.int (S (tf_rf G o 1) (Int32.toNatClampNeg 366)), .int (nI k)] S rfl ⟨by decide, by decide, rfl⟩ ⟨⟨trivial, ⟨by first | assumption | rfl | decide | omega, by first | assumption | rfl | decide | omega⟩⟩, ⟨Or.inl (by first | assumption | rfl | decide | omega), by first | assumption | exact tf_in (n := 366) (rfl : (366 : Int32) = nI 366) (by first | assumption | rfl) (by omega) (by decide)⟩⟩ ?_
      rw [show (S (tf_rf G o 1) (Int32.toNatClampNeg 366)) = nI (f 366) from (tf_rd hs (rfl : (366 : Int32) = nI 366) (by omega))]
      refine tf_go hx ftX11_wordAt 1 [false] 17 [some (.ref o), some (.int (nI i)), some (.int (tf_on 10 best)), some (.int (nI k))] [] S rfl ⟨by decide, by decide, rfl⟩ ⟨trivial, (tf_leF (a := (f 366)) (b := k) rfl rfl (by have := hb 366; omega) (by have := hb 366; omega) (by have := hb 366; omega))⟩ ?_
      refine tf_go hx ftX11_wordAt 3 [] 20 [some (.ref o), some (.int (nI i)), some (.int (tf_on 10 best)), some (.int (nI k))] [.int (nI i), .int (nI k), .ref o] S rfl ⟨by decide, by decide, rfl⟩ trivial ?_
      refine tf_cV hx ftX11_wordAt (nx := 23) (As := [.int (nI k), .int (nI i)]) (rest := []) (st2 := [.int (if tf_sd f k i = true then 1 else 0)]) (m_stands k i ho hf hg (by omega) hi) rfl lX11_80 (by first | assumption | rfl | decide) rfl ⟨rfl, by decide, by decide, by decide, rfl, rfl⟩ ?_
      rw [tf_wl_s] at he
      by_cases c1 : tf_sd f k i = true
      · rw [if_pos c1]
        refine tf_go hx ftX11_wordAt 1 [false] 26 [some (.ref o), some (.int (nI i)), some (.int (tf_on 10 best)), some (.int (nI k))] [] S rfl ⟨by decide, by decide, rfl⟩ ⟨trivial, (by decide)⟩ ?_
        refine tf_go hx ftX11_wordAt 1 [] 27 [some (.ref o), some (.int (nI i)), some (.int (tf_on 10 best)), some (.int (nI k))] [.int (tf_on 10 best)] S rfl ⟨by decide, by decide, rfl⟩ trivial ?_
        by_cases c2 : best < 10
        · rw [tf_on_y c2]
          refine tf_go hx ftX11_wordAt 1 [false] 30 [some (.ref o), some (.int (nI i)), some (.int (nI best)), some (.int (nI k))] [] S rfl ⟨by decide, by decide, rfl⟩ ⟨trivial, (tf_ltF (a := best) (b := 0) rfl (rfl : (0 : Int32) = nI 0) (by omega) (by omega) (by omega))⟩ ?_
          refine tf_go hx ftX11_wordAt 2 [] 32 [some (.ref o), some (.int (nI i)), some (.int (nI best)), some (.int (nI k))] [.int (nI k), .ref o] S rfl ⟨by decide, by decide, rfl⟩ trivial ?_
          refine tf_cV hx ftX11_wordAt (nx := 35) (As := [.int (nI k)]) (rest := []) (st2 := [.int (nI (tf_sz f k))]) ((by have h := m_sizeOf k ho hf; rw [tf_on_y (show k < 10 by omega)] at h; exact h)) rfl lX11_83 (by first | assumption | rfl | decide) rfl ⟨rfl, by decide, by decide, by decide, rfl, rfl⟩ ?_
          refine tf_go hx ftX11_wordAt 2 [] 37 [some (.ref o), some (.int (nI i)), some (.int (nI best)), some (.int (nI k))] [.int (nI best), .ref o, .int (nI (tf_sz f k))] S rfl ⟨by decide, by decide, rfl⟩ trivial ?_
          refine tf_cV hx ftX11_wordAt (nx := 40) (As := [.int (nI best)]) (rest := [.int (nI (tf_sz f k))]) (st2 := [.int (nI (tf_sz f best)), .int (nI (tf_sz f k))]) ((by have h := m_sizeOf best ho hf; rw [tf_on_y c2] at h; exact h)) rfl lX11_83 (by first | assumption | rfl | decide) rfl ⟨rfl, by decide, by decide, by decide, rfl, rfl⟩ ?_
          have s1 := tf_sz_le hg (w := k) (Or.inr (by omega))
          have s2 := tf_sz_le hg (w := best) (by omega)
          by_cases c3 : tf_sz f best < tf_sz f k
          · refine tf_go hx ftX11_wordAt 5 [false] 5 [some (.ref o), some (.int (nI i)), some (.int (nI k)), some (.int ((nI k) + 1))] [] S rfl ⟨by decide, by decide, rfl⟩ ⟨trivial, (tf_leF (a := (tf_sz f k)) (b := (tf_sz f best)) rfl rfl (by have := hb k; have := hb best; omega) (by have := hb k; have := hb best; omega) (by have := hb k; have := hb best; omega))⟩ ?_
            rw [show ((nI k) + 1) = nI (k + 1) from (tf_add rfl (rfl : (1 : Int32) = nI 1))]
            have h0 := ih (k + 1) k (by omega) (by rw [if_pos ⟨c1, Or.inr c3⟩] at he; exact he) (Or.inr (by omega))
            rw [tf_on_y (show k < 10 by omega)] at h0
            exact h0
          · refine tf_go hx ftX11_wordAt 3 [true] 5 [some (.ref o), some (.int (nI i)), some (.int (nI best)), some (.int ((nI k) + 1))] [] S rfl ⟨by decide, by decide, rfl⟩ ⟨trivial, (tf_leT (a := (tf_sz f k)) (b := (tf_sz f best)) rfl rfl (by have := hb k; have := hb best; omega) (by have := hb k; have := hb best; omega) (by have := hb k; have := hb best; omega))⟩ ?_
            rw [show ((nI k) + 1) = nI (k + 1) from (tf_add rfl (rfl : (1 : Int32) = nI 1))]
            have h0 := ih (k + 1) best (by omega) (by rw [if_neg (by rintro ⟨-, h⟩; omega)] at he; exact he) hbe
            rw [tf_on_y c2] at h0
            exact h0
        · rw [tf_on_n c2]
          refine tf_go hx ftX11_wordAt 5 [true] 5 [some (.ref o), some (.int (nI i)), some (.int (nI k)), some (.int ((nI k) + 1))] [] S rfl ⟨by decide, by decide, rfl⟩ ⟨trivial, (by decide)⟩ ?_
          rw [show ((nI k) + 1) = nI (k + 1) from (tf_add rfl (rfl : (1 : Int32) = nI 1))]
          have h0 := ih (k + 1) k (by omega) (by rw [if_pos ⟨c1, Or.inl (by omega)⟩] at he; exact he) (Or.inr (by omega))
          rw [tf_on_y (show k < 10 by omega)] at h0
          exact h0
      · rw [if_neg c1]
        refine tf_go hx ftX11_wordAt 3 [true] 5 [some (.ref o), some (.int (nI i)), some (.int (tf_on 10 best)), some (.int ((nI k) + 1))] [] S rfl ⟨by decide, by decide, rfl⟩ ⟨trivial, (tf_eqT (a := 0) (b := 0) (rfl : (0 : Int32) = nI 0) (rfl : (0 : Int32) = nI 0) (by omega))⟩ ?_
        rw [show ((nI k) + 1) = nI (k + 1) from (tf_add rfl (rfl : (1 : Int32) = nI 1))]
        exact ih (k + 1) best (by omega) (by rw [if_neg (by rintro ⟨h, -⟩; exact c1 h)] at he; exact he) hbe
  exact loop (f 366) 0 10 (by omega) rfl (Or.inl rfl)

set_option maxHeartbeats 1000000 in
theorem m_pieces {G : tf_G} {S : tf_Sg} {o : Nat} {f : Nat → Nat} (ho : tf_mo G o) (hf : tf_sf G S o f) (hg : tf_gd f) : tf_Fn mX11_pieces 3 0 0 G S [.ref o] G S (some (.int (nI (tf_np f 40 0)))) := by
  obtain ⟨h1, ⟨r0, t0, n0⟩, ⟨r1, t1, n1⟩, ⟨r2, t2, n2⟩, ⟨r4, t4, n4⟩⟩ := id ho
  obtain ⟨hs, hb⟩ := id hf
  obtain ⟨⟨g1, g2, g3, g4⟩, g5, g6, g7, g8, g9, g10, g11⟩ := id hg
  refine tf_Fn_of (own := RX11) false ⟨by decide, rfl, by decide⟩ (Nat.le_of_ble_eq_true rfl) trivial (fun x hx hR => ?_)
  show tf_K x 0 0 G S 0 [some (.ref o), none, none] []
  refine tf_go hx ftX11_pieces 4 [] 4 [some (.ref o), some (.int 0), some (.int 0)] [] S rfl ⟨by decide, by decide, rfl⟩ trivial ?_
  have loop : ∀ (m k : Nat) (n : Nat), f 364 ≤ k + m → (n + tf_np f m k = tf_np f 40 0) → (k ≤ 48) → tf_K x 0 0 G S 4 [some (.ref o), some (.int (nI n)), some (.int (nI k))] [] := by
    intro m
    induction m with
    | zero =>
      intro k n hk he hk3
      refine tf_go hx ftX11_pieces 5 [] 13 [some (.ref o), some (.int (nI n)), some (.int (nI k))] [.int (S (tf_rf G o 1) (Int32.toNatClampNeg 364)), .int (nI k)] S rfl ⟨by decide, by decide, rfl⟩ ⟨⟨trivial, ⟨by first | assumption | rfl | decide | omega, by first | assumption | rfl | decide | omega⟩⟩, ⟨Or.inl (by first | assumption | rfl | decide | omega), by first | assumption | exact tf_in (n := 364) (rfl : (364 : Int32) = nI 364) (by first | assumption | rfl) (by omega) (by decide)⟩⟩ ?_
      rw [show (S (tf_rf G o 1) (Int32.toNatClampNeg 364)) = nI (f 364) from (tf_rd hs (rfl : (364 : Int32) = nI 364) (by omega))]
      refine tf_go hx ftX11_pieces 2 [true] 35 [some (.ref o), some (.int (nI n)), some (.int (nI k))] [.int (nI n)] S rfl ⟨by decide, by decide, rfl⟩ ⟨trivial, (tf_leT (a := (f 364)) (b := k) rfl rfl (by have := hb 364; omega) (by have := hb 364; omega) (by have := hb 364; omega))⟩ ?_
      exact tf_ret ftX11_pieces hR rfl ⟨by decide, by decide⟩ rfl rfl (by rw [← he]; rfl)
    | succ m ih =>
      intro k n hk he hk3
      rw [tf_np_s] at he
      refine tf_go hx ftX11_pieces 5 [] 13 [some (.ref o), some (.int (nI n)), some (.int (nI k))] [.int (S (tf_rf G o 1) (Int32.toNatClampNeg 364)), .int (nI k)] S rfl ⟨by decide, by decide, rfl⟩ ⟨⟨trivial, ⟨by first | assumption | rfl | decide | omega, by first | assumption | rfl | decide | omega⟩⟩, ⟨Or.inl (by first | assumption | rfl | decide | omega), by first | assumption | exact tf_in (n := 364) (rfl : (364 : Int32) = nI 364) (by first | assumption | rfl) (by omega) (by decide)⟩⟩ ?_
      rw [show (S (tf_rf G o 1) (Int32.toNatClampNeg 364)) = nI (f 364) from (tf_rd hs (rfl : (364 : Int32) = nI 364) (by omega))]
      by_cases c1 : k < f 364
      · refine tf_go hx ftX11_pieces 1 [false] 16 [some (.ref o), some (.int (nI n)), some (.int (nI k))] [] S rfl ⟨by decide, by decide, rfl⟩ ⟨trivial, (tf_leF (a := (f 364)) (b := k) rfl rfl (by have := hb 364; omega) (by have := hb 364; omega) (by have := hb 364; omega))⟩ ?_
        refine tf_go hx ftX11_pieces 5 [] 23 [some (.ref o), some (.int ((nI n) + 1)), some (.int (nI k))] [.int (nI k), .ref o, .ref o, .int (nI k)] S rfl ⟨by decide, by decide, rfl⟩ trivial ?_
        rw [show ((nI n) + 1) = nI (n + 1) from (tf_add rfl (rfl : (1 : Int32) = nI 1))]
        refine tf_cV hx ftX11_pieces (nx := 26) (As := [.int (nI k)]) (rest := [.ref o, .int (nI k)]) (st2 := [.int (tf_on 10 (tf_wd f k)), .ref o, .int (nI k)]) (m_wordAt k ho hf hg (by omega)) rfl lX11_86 (by first | assumption | rfl | decide) rfl ⟨rfl, by decide, by decide, by decide, rfl, rfl⟩ ?_
        refine tf_cV hx ftX11_pieces (nx := 29) (As := [.int (tf_on 10 (tf_wd f k))]) (rest := [.int (nI k)]) (st2 := [.int (nI (tf_sz f (tf_wd f k))), .int (nI k)]) (m_sizeOf (tf_wd f k) ho hf) rfl lX11_83 (by first | assumption | rfl | decide) rfl ⟨rfl, by decide, by decide, by decide, rfl, rfl⟩ ?_
        have s1 := tf_sz_le hg (tf_wd_le f k)
        refine tf_go hx ftX11_pieces 3 [] 4 [some (.ref o), some (.int (nI (n + 1))), some (.int ((nI k) + (nI (tf_sz f (tf_wd f k)))))] [] S rfl ⟨by decide, by decide, rfl⟩ trivial ?_
        rw [show ((nI k) + (nI (tf_sz f (tf_wd f k)))) = nI (k + (tf_sz f (tf_wd f k))) from (tf_add rfl rfl)]
        exact ih (k + tf_sz f (tf_wd f k)) (n + 1) (by omega) (by rw [if_pos c1] at he; omega) (by omega)
      · refine tf_go hx ftX11_pieces 2 [true] 35 [some (.ref o), some (.int (nI n)), some (.int (nI k))] [.int (nI n)] S rfl ⟨by decide, by decide, rfl⟩ ⟨trivial, (tf_leT (a := (f 364)) (b := k) rfl rfl (by have := hb 364; omega) (by have := hb 364; omega) (by have := hb 364; omega))⟩ ?_
        exact tf_ret ftX11_pieces hR rfl ⟨by decide, by decide⟩ rfl rfl (by rw [if_neg c1] at he; rw [← he]; rfl)
  exact loop 40 0 0 (by omega) (by omega) (by omega)

set_option maxHeartbeats 1000000 in
theorem m_gapAt {G : tf_G} {S : tf_Sg} {o : Nat} {f : Nat → Nat} (h b i t : Nat) (ho : tf_mo G o) (hf : tf_sf G S o f) (hg : tf_gd f) (hh : h < 4) (hbb : b < 4) (hi : i < f 364) (ht : t < 2) : tf_Fn mX11_gapAt 4 0 0 G S [.ref o, .int (nI h), .int (nI b), .int (nI i), .int (nI t)] G S (some (.int (nI (tf_gt f h b i t)))) := by
  obtain ⟨h1, ⟨r0, t0, n0⟩, ⟨r1, t1, n1⟩, ⟨r2, t2, n2⟩, ⟨r4, t4, n4⟩⟩ := id ho
  obtain ⟨hs, hb⟩ := id hf
  obtain ⟨⟨g1, g2, g3, g4⟩, g5, g6, g7, g8, g9, g10, g11⟩ := id hg
  refine tf_Fn_of (own := RX11) false ⟨by decide, rfl, by decide⟩ (Nat.le_of_ble_eq_true rfl) trivial (fun x hx hR => ?_)
  show tf_K x 0 0 G S 0 [some (.ref o), some (.int (nI h)), some (.int (nI b)), some (.int (nI i)), some (.int (nI t)), none, none] []
  unfold tf_gt at hR
  have l1 := g6 i hi
  refine tf_go hx ftX11_gapAt 8 [] 12 [some (.ref o), some (.int (nI h)), some (.int (nI b)), some (.int (nI i)), some (.int (nI t)), none, none] [.int (S (tf_rf G o 1) (Int32.toNatClampNeg (144 + (nI i)))), .int (nI b), .ref o] S rfl ⟨by decide, by decide, rfl⟩ ⟨⟨trivial, ⟨by first | assumption | rfl | decide | omega, by first | assumption | rfl | decide | omega⟩⟩, ⟨Or.inl (by first | assumption | rfl | decide | omega), by first | assumption | exact tf_in (n := (144 + i)) (tf_add (rfl : (144 : Int32) = nI 144) rfl) (by first | assumption | rfl) (by omega) (by decide)⟩⟩ ?_
  rw [show (S (tf_rf G o 1) (Int32.toNatClampNeg (144 + (nI i)))) = nI (f (144 + i)) from (tf_rd hs (tf_add (rfl : (144 : Int32) = nI 144) rfl) (by omega))]
  refine tf_cV hx ftX11_gapAt (nx := 15) (As := [.int (nI b), .int (nI (f (144 + i)))]) (rest := []) (st2 := [.int (tf_on 30 (tf_ke f b (f (144 + i))))]) (m_keyAt b (f (144 + i)) ho hf hbb (by omega)) rfl lX11_51 (by first | assumption | rfl | decide) rfl ⟨rfl, by decide, by decide, by decide, rfl, rfl⟩ ?_
  have k1 := tf_ke_le f b (f (144 + i))
  by_cases c1 : tf_ke f b (f (144 + i)) = 30
  · rw [tf_on_n (by omega)]
    refine tf_go hx ftX11_gapAt 4 [false] 25 [some (.ref o), some (.int (nI h)), some (.int (nI b)), some (.int (nI i)), some (.int (nI t)), some (.int (-9)), none] [.int 999] S rfl ⟨by decide, by decide, rfl⟩ ⟨trivial, (by decide)⟩ ?_
    exact tf_ret ftX11_gapAt hR rfl ⟨by decide, by decide⟩ rfl rfl (by rw [if_pos c1]; rfl)
  · rw [tf_on_y (show tf_ke f b (f (144 + i)) < 30 by omega)]
    refine tf_go hx ftX11_gapAt 3 [true] 26 [some (.ref o), some (.int (nI h)), some (.int (nI b)), some (.int (nI i)), some (.int (nI t)), some (.int (nI (tf_ke f b (f (144 + i))))), none] [] S rfl ⟨by decide, by decide, rfl⟩ ⟨trivial, (tf_leT (a := 0) (b := (tf_ke f b (f (144 + i)))) (rfl : (0 : Int32) = nI 0) rfl (by have := hb b; have := hb (144 + i); omega) (by have := hb b; have := hb (144 + i); omega) (by have := hb b; have := hb (144 + i); omega))⟩ ?_
    refine tf_go hx ftX11_gapAt 1 [] 27 [some (.ref o), some (.int (nI h)), some (.int (nI b)), some (.int (nI i)), some (.int (nI t)), some (.int (nI (tf_ke f b (f (144 + i))))), none] [.int (nI i)] S rfl ⟨by decide, by decide, rfl⟩ trivial ?_
    by_cases c2 : i = 0
    · refine tf_go hx ftX11_gapAt 4 [false] 54 [some (.ref o), some (.int (nI h)), some (.int (nI b)), some (.int (nI i)), some (.int (nI t)), some (.int (nI (tf_ke f b (f (144 + i))))), some (.int (-9))] [] S rfl ⟨by decide, by decide, rfl⟩ ⟨trivial, (tf_neF (a := i) (b := 0) rfl (rfl : (0 : Int32) = nI 0) (by omega))⟩ ?_
      refine tf_go hx ftX11_gapAt 11 [false] 85 [some (.ref o), some (.int (nI h)), some (.int (nI b)), some (.int (nI i)), some (.int (nI t)), some (.int (nI (tf_ke f b (f (144 + i))))), some (.int (-9))] [.int (S (tf_rf G o 1) (Int32.toNatClampNeg (120 + (6 * (nI h)))))] S rfl ⟨by decide, by decide, rfl⟩ ⟨⟨⟨trivial, (by decide)⟩, ⟨by first | assumption | rfl | decide | omega, by first | assumption | rfl | decide | omega⟩⟩, ⟨Or.inl (by first | assumption | rfl | decide | omega), by first | assumption | exact tf_in (n := (120 + (6 * h))) (tf_add (rfl : (120 : Int32) = nI 120) (tf_mul (rfl : (6 : Int32) = nI 6) rfl)) (by first | assumption | rfl) (by omega) (by decide)⟩⟩ ?_
      rw [show (S (tf_rf G o 1) (Int32.toNatClampNeg (120 + (6 * (nI h))))) = nI (f (120 + (6 * h))) from (tf_rd hs (tf_add (rfl : (120 : Int32) = nI 120) (tf_mul (rfl : (6 : Int32) = nI 6) rfl)) (by omega))]
      exact tf_ret ftX11_gapAt hR rfl ⟨by decide, by decide⟩ rfl rfl (by rw [if_neg c1, if_pos (Or.inl c2)]; rfl)
    · have l2 := g6 (i - 1) (by omega)
      rw [show 144 + (i - 1) = 144 + i - 1 by omega] at l2
      refine tf_go hx ftX11_gapAt 1 [true] 35 [some (.ref o), some (.int (nI h)), some (.int (nI b)), some (.int (nI i)), some (.int (nI t)), some (.int (nI (tf_ke f b (f (144 + i))))), none] [] S rfl ⟨by decide, by decide, rfl⟩ ⟨trivial, (tf_eqF (a := i) (b := 0) rfl (rfl : (0 : Int32) = nI 0) (by omega) (by omega) (by omega))⟩ ?_
      refine tf_go hx ftX11_gapAt 10 [] 49 [some (.ref o), some (.int (nI h)), some (.int (nI b)), some (.int (nI i)), some (.int (nI t)), some (.int (nI (tf_ke f b (f (144 + i))))), none] [.int (S (tf_rf G o 1) (Int32.toNatClampNeg ((144 + (nI i)) - 1))), .int (nI b), .ref o] S rfl ⟨by decide, by decide, rfl⟩ ⟨⟨trivial, ⟨by first | assumption | rfl | decide | omega, by first | assumption | rfl | decide | omega⟩⟩, ⟨Or.inl (by first | assumption | rfl | decide | omega), by first | assumption | exact tf_in (n := ((144 + i) - 1)) (tf_sub (tf_add (rfl : (144 : Int32) = nI 144) rfl) (rfl : (1 : Int32) = nI 1) (by omega)) (by first | assumption | rfl) (by omega) (by decide)⟩⟩ ?_
      rw [show (S (tf_rf G o 1) (Int32.toNatClampNeg ((144 + (nI i)) - 1))) = nI (f ((144 + i) - 1)) from (tf_rd hs (tf_sub (tf_add (rfl : (144 : Int32) = nI 144) rfl) (rfl : (1 : Int32) = nI 1) (by omega)) (by omega))]
      refine tf_cV hx ftX11_gapAt (nx := 52) (As := [.int (nI b), .int (nI (f ((144 + i) - 1)))]) (rest := []) (st2 := [.int (tf_on 30 (tf_ke f b (f (144 + i - 1))))]) (m_keyAt b (f (144 + i - 1)) ho hf hbb (by omega)) rfl lX11_51 (by first | assumption | rfl | decide) rfl ⟨rfl, by decide, by decide, by decide, rfl, rfl⟩ ?_
      have k2 := tf_ke_le f b (f (144 + i - 1))
      by_cases c3 : tf_ke f b (f (144 + i - 1)) = 30
      · rw [tf_on_n (by omega)]
        refine tf_go hx ftX11_gapAt 12 [false] 85 [some (.ref o), some (.int (nI h)), some (.int (nI b)), some (.int (nI i)), some (.int (nI t)), some (.int (nI (tf_ke f b (f (144 + i))))), some (.int (-9))] [.int (S (tf_rf G o 1) (Int32.toNatClampNeg (120 + (6 * (nI h)))))] S rfl ⟨by decide, by decide, rfl⟩ ⟨⟨⟨trivial, (by decide)⟩, ⟨by first | assumption | rfl | decide | omega, by first | assumption | rfl | decide | omega⟩⟩, ⟨Or.inl (by first | assumption | rfl | decide | omega), by first | assumption | exact tf_in (n := (120 + (6 * h))) (tf_add (rfl : (120 : Int32) = nI 120) (tf_mul (rfl : (6 : Int32) = nI 6) rfl)) (by first | assumption | rfl) (by omega) (by decide)⟩⟩ ?_
        rw [show (S (tf_rf G o 1) (Int32.toNatClampNeg (120 + (6 * (nI h))))) = nI (f (120 + (6 * h))) from (tf_rd hs (tf_add (rfl : (120 : Int32) = nI 120) (tf_mul (rfl : (6 : Int32) = nI 6) rfl)) (by omega))]
        exact tf_ret ftX11_gapAt hR rfl ⟨by decide, by decide⟩ rfl rfl (by rw [if_neg c1, if_pos (Or.inr c3)]; rfl)
      · rw [tf_on_y (show tf_ke f b (f (144 + i - 1)) < 30 by omega)]
        refine tf_go hx ftX11_gapAt 3 [true] 74 [some (.ref o), some (.int (nI h)), some (.int (nI b)), some (.int (nI i)), some (.int (nI t)), some (.int (nI (tf_ke f b (f (144 + i))))), some (.int (nI (tf_ke f b (f (144 + i - 1)))))] [] S rfl ⟨by decide, by decide, rfl⟩ ⟨trivial, (tf_leT (a := 0) (b := (tf_ke f b (f (144 + i - 1)))) (rfl : (0 : Int32) = nI 0) rfl (by have := hb b; have := hb (144 + i - 1); omega) (by have := hb b; have := hb (144 + i - 1); omega) (by have := hb b; have := hb (144 + i - 1); omega))⟩ ?_
        refine tf_go hx ftX11_gapAt 5 [] 82 [some (.ref o), some (.int (nI h)), some (.int (nI b)), some (.int (nI i)), some (.int (nI t)), some (.int (nI (tf_ke f b (f (144 + i))))), some (.int (nI (tf_ke f b (f (144 + i - 1)))))] [.int (nI t), .int (nI (tf_ke f b (f (144 + i)))), .int (nI (tf_ke f b (f (144 + i - 1)))), .int (nI h), .ref o] S rfl ⟨by decide, by decide, rfl⟩ trivial ?_
        refine tf_cV hx ftX11_gapAt (nx := 85) (As := [.int (nI h), .int (nI (tf_ke f b (f (144 + i - 1)))), .int (nI (tf_ke f b (f (144 + i)))), .int (nI t)]) (rest := []) (st2 := [.int (nI (tf_ga f h (tf_ke f b (f (144 + i - 1))) (tf_ke f b (f (144 + i))) t))]) (m_gapOf h (tf_ke f b (f (144 + i - 1))) (tf_ke f b (f (144 + i))) t ho hf hh (by omega) (by omega) ht) rfl lX11_76 (by first | assumption | rfl | decide) rfl ⟨rfl, by decide, by decide, by decide, rfl, rfl⟩ ?_
        exact tf_ret ftX11_gapAt hR rfl ⟨by decide, by decide⟩ rfl rfl (by rw [if_neg c1, if_neg (by rintro (h | h); exact c2 h; exact c3 h)]; rfl)

/-- what is told of a PIECE -/
def tf_pv (f : Nat → Nat) (i w : Int32) : Int32 := if tf_pa f i < 40 then (if w = 0 then nI (tf_pa f i) else if w = 1 then nI (tf_sz f (tf_wd f (tf_pa f i))) else tf_on 10 (tf_wd f (tf_pa f i))) else (-9)

set_option maxHeartbeats 1000000 in
theorem m_piece {G : tf_G} {S : tf_Sg} {o : Nat} {f : Nat → Nat} (i w : Int32) (ho : tf_mo G o) (hf : tf_sf G S o f) (hg : tf_gd f) (hw : ¬ w < 0 ∧ ¬ 3 ≤ w) : tf_Fn mX11_piece 3 0 0 G S [.ref o, .int i, .int w] G S (some (.int (tf_pv f i w))) := by
  obtain ⟨h1, ⟨r0, t0, n0⟩, ⟨r1, t1, n1⟩, ⟨r2, t2, n2⟩, ⟨r4, t4, n4⟩⟩ := id ho
  obtain ⟨hs, hb⟩ := id hf
  obtain ⟨⟨g1, g2, g3, g4⟩, g5, g6, g7, g8, g9, g10, g11⟩ := id hg
  refine tf_Fn_of (own := RX11) false ⟨by decide, rfl, by decide⟩ (Nat.le_of_ble_eq_true rfl) trivial (fun x hx hR => ?_)
  show tf_K x 0 0 G S 0 [some (.ref o), some (.int i), some (.int w), none, none] []
  refine tf_go hx ftX11_piece 2 [] 2 [some (.ref o), some (.int i), some (.int w), none, none] [.int 3, .int w] S rfl ⟨by decide, by decide, rfl⟩ trivial ?_
  refine tf_cS hx ftX11_piece (nx := 5) (As := [.int w, .int 3]) (rest := []) (st2 := [.int (if ¬ w < 0 ∧ ¬ 3 ≤ w then 1 else 0)]) (m_isIn w 3) rfl lX11_22 rfl ⟨rfl, by decide, by decide, by decide, rfl, rfl⟩ ?_
  rw [if_pos hw]
  refine tf_go hx ftX11_piece 5 [true] 20 [some (.ref o), some (.int i), some (.int w), some (.int 0), some (.int 0)] [] S rfl ⟨by decide, by decide, rfl⟩ ⟨trivial, (by decide)⟩ ?_
  have loop : ∀ (m k : Nat) (n : Nat), f 364 ≤ k + m → (tf_pb f i m k n = tf_pa f i) → (k ≤ 48) → tf_K x 0 0 G S 20 [some (.ref o), some (.int i), some (.int w), some (.int (nI n)), some (.int (nI k))] [] := by
    intro m
    induction m with
    | zero =>
      intro k n hk he hk3
      refine tf_go hx ftX11_piece 5 [] 30 [some (.ref o), some (.int i), some (.int w), some (.int (nI n)), some (.int (nI k))] [.int (S (tf_rf G o 1) (Int32.toNatClampNeg 364)), .int (nI k)] S rfl ⟨by decide, by decide, rfl⟩ ⟨⟨trivial, ⟨by first | assumption | rfl | decide | omega, by first | assumption | rfl | decide | omega⟩⟩, ⟨Or.inl (by first | assumption | rfl | decide | omega), by first | assumption | exact tf_in (n := 364) (rfl : (364 : Int32) = nI 364) (by first | assumption | rfl) (by omega) (by decide)⟩⟩ ?_
      rw [show (S (tf_rf G o 1) (Int32.toNatClampNeg 364)) = nI (f 364) from (tf_rd hs (rfl : (364 : Int32) = nI 364) (by omega))]
      refine tf_go hx ftX11_piece 2 [true] 95 [some (.ref o), some (.int i), some (.int w), some (.int (nI n)), some (.int (nI k))] [.int (-9)] S rfl ⟨by decide, by decide, rfl⟩ ⟨trivial, (tf_leT (a := (f 364)) (b := k) rfl rfl (by have := hb 364; omega) (by have := hb 364; omega) (by have := hb 364; omega))⟩ ?_
      exact tf_ret ftX11_piece hR rfl ⟨by decide, by decide⟩ rfl rfl (by have h40 : tf_pb f i 0 k n = 40 := rfl; unfold tf_pv; rw [← he, h40, if_neg (show ¬ (40 < 40) by omega)]; rfl)
    | succ m ih =>
      intro k n hk he hk3
      rw [tf_pb_s] at he
      refine tf_go hx ftX11_piece 5 [] 30 [some (.ref o), some (.int i), some (.int w), some (.int (nI n)), some (.int (nI k))] [.int (S (tf_rf G o 1) (Int32.toNatClampNeg 364)), .int (nI k)] S rfl ⟨by decide, by decide, rfl⟩ ⟨⟨trivial, ⟨by first | assumption | rfl | decide | omega, by first | assumption | rfl | decide | omega⟩⟩, ⟨Or.inl (by first | assumption | rfl | decide | omega), by first | assumption | exact tf_in (n := 364) (rfl : (364 : Int32) = nI 364) (by first | assumption | rfl) (by omega) (by decide)⟩⟩ ?_
      rw [show (S (tf_rf G o 1) (Int32.toNatClampNeg 364)) = nI (f 364) from (tf_rd hs (rfl : (364 : Int32) = nI 364) (by omega))]
      by_cases c2 : k < f 364
      · rw [if_pos c2] at he
        refine tf_go hx ftX11_piece 1 [false] 33 [some (.ref o), some (.int i), some (.int w), some (.int (nI n)), some (.int (nI k))] [] S rfl ⟨by decide, by decide, rfl⟩ ⟨trivial, (tf_leF (a := (f 364)) (b := k) rfl rfl (by have := hb 364; omega) (by have := hb 364; omega) (by have := hb 364; omega))⟩ ?_
        refine tf_go hx ftX11_piece 2 [] 35 [some (.ref o), some (.int i), some (.int w), some (.int (nI n)), some (.int (nI k))] [.int i, .int (nI n)] S rfl ⟨by decide, by decide, rfl⟩ trivial ?_
        by_cases c3 : nI n = i
        · rw [if_pos c3] at he
          by_cases c4 : w = 0
          · refine tf_go hx ftX11_piece 1 [false] 38 [some (.ref o), some (.int i), some (.int w), some (.int (nI n)), some (.int (nI k))] [] S rfl ⟨by decide, by decide, rfl⟩ ⟨trivial, (fun h => h c3)⟩ ?_
            refine tf_go hx ftX11_piece 4 [false] 71 [some (.ref o), some (.int i), some (.int w), some (.int (nI n)), some (.int (nI k))] [.int (nI k)] S rfl ⟨by decide, by decide, rfl⟩ ⟨trivial, (fun h => h c4)⟩ ?_
            exact tf_ret ftX11_piece hR rfl ⟨by decide, by decide⟩ rfl rfl (by unfold tf_pv; rw [← he, if_pos (show k < 40 by omega), if_pos c4]; rfl)
          · refine tf_go hx ftX11_piece 1 [false] 38 [some (.ref o), some (.int i), some (.int w), some (.int (nI n)), some (.int (nI k))] [] S rfl ⟨by decide, by decide, rfl⟩ ⟨trivial, (fun h => h c3)⟩ ?_
            refine tf_go hx ftX11_piece 2 [true] 47 [some (.ref o), some (.int i), some (.int w), some (.int (nI n)), some (.int (nI k))] [] S rfl ⟨by decide, by decide, rfl⟩ ⟨trivial, c4⟩ ?_
            refine tf_go hx ftX11_piece 2 [] 49 [some (.ref o), some (.int i), some (.int w), some (.int (nI n)), some (.int (nI k))] [.int 1, .int w] S rfl ⟨by decide, by decide, rfl⟩ trivial ?_
            by_cases c5 : w = 1
            · refine tf_go hx ftX11_piece 4 [false] 56 [some (.ref o), some (.int i), some (.int w), some (.int (nI n)), some (.int (nI k))] [.int (nI k), .ref o, .ref o] S rfl ⟨by decide, by decide, rfl⟩ ⟨trivial, (fun h => h c5)⟩ ?_
              refine tf_cV hx ftX11_piece (nx := 59) (As := [.int (nI k)]) (rest := [.ref o]) (st2 := [.int (tf_on 10 (tf_wd f k)), .ref o]) (m_wordAt k ho hf hg (by omega)) rfl lX11_86 (by first | assumption | rfl | decide) rfl ⟨rfl, by decide, by decide, by decide, rfl, rfl⟩ ?_
              refine tf_cV hx ftX11_piece (nx := 62) (As := [.int (tf_on 10 (tf_wd f k))]) (rest := []) (st2 := [.int (nI (tf_sz f (tf_wd f k)))]) (m_sizeOf (tf_wd f k) ho hf) rfl lX11_83 (by first | assumption | rfl | decide) rfl ⟨rfl, by decide, by decide, by decide, rfl, rfl⟩ ?_
              refine tf_go hx ftX11_piece 1 [] 71 [some (.ref o), some (.int i), some (.int w), some (.int (nI n)), some (.int (nI k))] [.int (nI (tf_sz f (tf_wd f k)))] S rfl ⟨by decide, by decide, rfl⟩ trivial ?_
              exact tf_ret ftX11_piece hR rfl ⟨by decide, by decide⟩ rfl rfl (by unfold tf_pv; rw [← he, if_pos (show k < 40 by omega), if_neg c4, if_pos c5]; rfl)
            · refine tf_go hx ftX11_piece 3 [true] 68 [some (.ref o), some (.int i), some (.int w), some (.int (nI n)), some (.int (nI k))] [.int (nI k), .ref o] S rfl ⟨by decide, by decide, rfl⟩ ⟨trivial, c5⟩ ?_
              refine tf_cV hx ftX11_piece (nx := 71) (As := [.int (nI k)]) (rest := []) (st2 := [.int (tf_on 10 (tf_wd f k))]) (m_wordAt k ho hf hg (by omega)) rfl lX11_86 (by first | assumption | rfl | decide) rfl ⟨rfl, by decide, by decide, by decide, rfl, rfl⟩ ?_
              exact tf_ret ftX11_piece hR rfl ⟨by decide, by decide⟩ rfl rfl (by unfold tf_pv; rw [← he, if_pos (show k < 40 by omega), if_neg c4, if_neg c5]; rfl)
        · rw [if_neg c3] at he
          refine tf_go hx ftX11_piece 6 [true] 81 [some (.ref o), some (.int i), some (.int w), some (.int ((nI n) + 1)), some (.int (nI k))] [.int (nI k), .ref o, .ref o, .int (nI k)] S rfl ⟨by decide, by decide, rfl⟩ ⟨trivial, c3⟩ ?_
          rw [show ((nI n) + 1) = nI (n + 1) from (tf_add rfl (rfl : (1 : Int32) = nI 1))]
          refine tf_cV hx ftX11_piece (nx := 84) (As := [.int (nI k)]) (rest := [.ref o, .int (nI k)]) (st2 := [.int (tf_on 10 (tf_wd f k)), .ref o, .int (nI k)]) (m_wordAt k ho hf hg (by omega)) rfl lX11_86 (by first | assumption | rfl | decide) rfl ⟨rfl, by decide, by decide, by decide, rfl, rfl⟩ ?_
          refine tf_cV hx ftX11_piece (nx := 87) (As := [.int (tf_on 10 (tf_wd f k))]) (rest := [.int (nI k)]) (st2 := [.int (nI (tf_sz f (tf_wd f k))), .int (nI k)]) (m_sizeOf (tf_wd f k) ho hf) rfl lX11_83 (by first | assumption | rfl | decide) rfl ⟨rfl, by decide, by decide, by decide, rfl, rfl⟩ ?_
          have s1 := tf_sz_le hg (tf_wd_le f k)
          refine tf_go hx ftX11_piece 3 [] 20 [some (.ref o), some (.int i), some (.int w), some (.int (nI (n + 1))), some (.int ((nI k) + (nI (tf_sz f (tf_wd f k)))))] [] S rfl ⟨by decide, by decide, rfl⟩ trivial ?_
          rw [show ((nI k) + (nI (tf_sz f (tf_wd f k)))) = nI (k + (tf_sz f (tf_wd f k))) from (tf_add rfl rfl)]
          exact ih (k + tf_sz f (tf_wd f k)) (n + 1) (by omega) he (by omega)
      · refine tf_go hx ftX11_piece 2 [true] 95 [some (.ref o), some (.int i), some (.int w), some (.int (nI n)), some (.int (nI k))] [.int (-9)] S rfl ⟨by decide, by decide, rfl⟩ ⟨trivial, (tf_leT (a := (f 364)) (b := k) rfl rfl (by have := hb 364; omega) (by have := hb 364; omega) (by have := hb 364; omega))⟩ ?_
        exact tf_ret ftX11_piece hR rfl ⟨by decide, by decide⟩ rfl rfl (by rw [if_neg c2] at he; unfold tf_pv; rw [← he, if_neg (show ¬ (40 < 40) by omega)]; rfl)
  exact loop 40 0 0 (by omega) rfl (by omega)

set_option maxHeartbeats 1000000 in
theorem m_timeOf {G : tf_G} {S : tf_Sg} {o : Nat} {f : Nat → Nat} (h b t : Nat) (ho : tf_mo G o) (hf : tf_sf G S o f) (hg : tf_gd f) (hh : h < 4) (hbb : b < 4) (ht : t < 2) : tf_Fn mX11_timeOf 5 0 0 G S [.ref o, .int (nI h), .int (nI b), .int (nI t)] G S (some (.int (nI (tf_tm f h b t)))) := by
  obtain ⟨h1, ⟨r0, t0, n0⟩, ⟨r1, t1, n1⟩, ⟨r2, t2, n2⟩, ⟨r4, t4, n4⟩⟩ := id ho
  obtain ⟨hs, hb⟩ := id hf
  obtain ⟨⟨g1, g2, g3, g4⟩, g5, g6, g7, g8, g9, g10, g11⟩ := id hg
  refine tf_Fn_of (own := RX11) false ⟨by decide, rfl, by decide⟩ (Nat.le_of_ble_eq_true rfl) trivial (fun x hx hR => ?_)
  show tf_K x 0 0 G S 0 [some (.ref o), some (.int (nI h)), some (.int (nI b)), some (.int (nI t)), none, none, none, none, none, none] []
  unfold tf_tm at hR
  refine tf_go hx ftX11_timeOf 4 [] 6 [some (.ref o), some (.int (nI h)), some (.int (nI b)), some (.int (nI t)), some (.int 0), some (.int 0), none, none, none, none] [] S rfl ⟨by decide, by decide, rfl⟩ trivial ?_
  have loop : ∀ (m k : Nat) (y : Nat), f 364 ≤ k + m → (y + tf_tl f h b t m k = tf_tl f h b t 40 0) → (k ≤ 48) → tf_K x 0 0 G S 6 [some (.ref o), some (.int (nI h)), some (.int (nI b)), some (.int (nI t)), some (.int (nI y)), some (.int (nI k)), none, none, none, none] [] := by
    intro m
    induction m with
    | zero =>
      intro k y hk he hk3
      refine tf_go hx ftX11_timeOf 5 [] 16 [some (.ref o), some (.int (nI h)), some (.int (nI b)), some (.int (nI t)), some (.int (nI y)), some (.int (nI k)), none, none, none, none] [.int (S (tf_rf G o 1) (Int32.toNatClampNeg 364)), .int (nI k)] S rfl ⟨by decide, by decide, rfl⟩ ⟨⟨trivial, ⟨by first | assumption | rfl | decide | omega, by first | assumption | rfl | decide | omega⟩⟩, ⟨Or.inl (by first | assumption | rfl | decide | omega), by first | assumption | exact tf_in (n := 364) (rfl : (364 : Int32) = nI 364) (by first | assumption | rfl) (by omega) (by decide)⟩⟩ ?_
      rw [show (S (tf_rf G o 1) (Int32.toNatClampNeg 364)) = nI (f 364) from (tf_rd hs (rfl : (364 : Int32) = nI 364) (by omega))]
      refine tf_go hx ftX11_timeOf 2 [true] 161 [some (.ref o), some (.int (nI h)), some (.int (nI b)), some (.int (nI t)), some (.int (nI y)), some (.int (nI k)), none, none, none, none] [.int (nI y)] S rfl ⟨by decide, by decide, rfl⟩ ⟨trivial, (tf_leT (a := (f 364)) (b := k) rfl rfl (by have := hb 364; omega) (by have := hb 364; omega) (by have := hb 364; omega))⟩ ?_
      exact tf_ret ftX11_timeOf hR rfl ⟨by decide, by decide⟩ rfl rfl (by rw [← he]; rfl)
    | succ m ih =>
      intro k y hk he hk3
      rw [tf_tl_s] at he
      refine tf_go hx ftX11_timeOf 5 [] 16 [some (.ref o), some (.int (nI h)), some (.int (nI b)), some (.int (nI t)), some (.int (nI y)), some (.int (nI k)), none, none, none, none] [.int (S (tf_rf G o 1) (Int32.toNatClampNeg 364)), .int (nI k)] S rfl ⟨by decide, by decide, rfl⟩ ⟨⟨trivial, ⟨by first | assumption | rfl | decide | omega, by first | assumption | rfl | decide | omega⟩⟩, ⟨Or.inl (by first | assumption | rfl | decide | omega), by first | assumption | exact tf_in (n := 364) (rfl : (364 : Int32) = nI 364) (by first | assumption | rfl) (by omega) (by decide)⟩⟩ ?_
      rw [show (S (tf_rf G o 1) (Int32.toNatClampNeg 364)) = nI (f 364) from (tf_rd hs (rfl : (364 : Int32) = nI 364) (by omega))]
      by_cases c2 : k < f 364
      · rw [if_pos c2] at he
        refine tf_go hx ftX11_timeOf 1 [false] 19 [some (.ref o), some (.int (nI h)), some (.int (nI b)), some (.int (nI t)), some (.int (nI y)), some (.int (nI k)), none, none, none, none] [] S rfl ⟨by decide, by decide, rfl⟩ ⟨trivial, (tf_leF (a := (f 364)) (b := k) rfl rfl (by have := hb 364; omega) (by have := hb 364; omega) (by have := hb 364; omega))⟩ ?_
        refine tf_go hx ftX11_timeOf 2 [] 22 [some (.ref o), some (.int (nI h)), some (.int (nI b)), some (.int (nI t)), some (.int (nI y)), some (.int (nI k)), none, none, none, none] [.int (nI k), .ref o] S rfl ⟨by decide, by decide, rfl⟩ trivial ?_
        refine tf_cV hx ftX11_timeOf (nx := 25) (As := [.int (nI k)]) (rest := []) (st2 := [.int (tf_on 10 (tf_wd f k))]) (m_wordAt k ho hf hg (by omega)) rfl lX11_86 (by first | assumption | rfl | decide) rfl ⟨rfl, by decide, by decide, by decide, rfl, rfl⟩ ?_
        refine tf_go hx ftX11_timeOf 3 [] 30 [some (.ref o), some (.int (nI h)), some (.int (nI b)), some (.int (nI t)), some (.int (nI y)), some (.int (nI k)), some (.int (tf_on 10 (tf_wd f k))), none, none, none] [.int (tf_on 10 (tf_wd f k)), .ref o] S rfl ⟨by decide, by decide, rfl⟩ trivial ?_
        refine tf_cV hx ftX11_timeOf (nx := 33) (As := [.int (tf_on 10 (tf_wd f k))]) (rest := []) (st2 := [.int (nI (tf_sz f (tf_wd f k)))]) (m_sizeOf (tf_wd f k) ho hf) rfl lX11_83 (by first | assumption | rfl | decide) rfl ⟨rfl, by decide, by decide, by decide, rfl, rfl⟩ ?_
        have s1 := tf_sz_le hg (tf_wd_le f k)
        have w1 := tf_wd_le f k
        generalize hw : tf_wd f k = w at *
        have p1 : tf_pt f w ≤ 100 := by unfold tf_pt; split <;> omega
        have inner : tf_K x 0 0 G S 96 [some (.ref o), some (.int (nI h)), some (.int (nI b)), some (.int (nI t)), some (.int (nI y)), some (.int (nI k)), some (.int (tf_on 10 w)), some (.int (nI (tf_sz f w))), some (.int (nI (tf_pt f w))), some (.int (nI 0))] [] := by
          have hin : ∀ j, j < tf_sz f w → k + j < f 364 := by
            intro j hj
            have := tf_wd_in hg (i := k) c2
            rw [hw] at this
            omega
          have iloop : ∀ (i j z : Nat), j + i = tf_sz f w → z + tf_ti f h b t k (tf_pt f w) i j = y + tf_ti f h b t k (tf_pt f w) (tf_sz f w) 0 → tf_K x 0 0 G S 96 [some (.ref o), some (.int (nI h)), some (.int (nI b)), some (.int (nI t)), some (.int (nI z)), some (.int (nI k)), some (.int (tf_on 10 w)), some (.int (nI (tf_sz f w))), some (.int (nI (tf_pt f w))), some (.int (nI j))] [] := by
            intro i
            induction i with
            | zero =>
              intro j z hj hz
              refine tf_go hx ftX11_timeOf 2 [] 100 [some (.ref o), some (.int (nI h)), some (.int (nI b)), some (.int (nI t)), some (.int (nI z)), some (.int (nI k)), some (.int (tf_on 10 w)), some (.int (nI (tf_sz f w))), some (.int (nI (tf_pt f w))), some (.int (nI j))] [.int (nI (tf_sz f w)), .int (nI j)] S rfl ⟨by decide, by decide, rfl⟩ trivial ?_
              refine tf_go hx ftX11_timeOf 6 [true] 6 [some (.ref o), some (.int (nI h)), some (.int (nI b)), some (.int (nI t)), some (.int (nI z)), some (.int ((nI k) + (nI (tf_sz f w)))), some (.int (tf_on 10 w)), some (.int (nI (tf_sz f w))), some (.int (nI (tf_pt f w))), some (.int (nI j))] [] S rfl ⟨by decide, by decide, rfl⟩ ⟨trivial, (tf_leT (a := (tf_sz f w)) (b := j) rfl rfl (by have := hb w; omega) (by have := hb w; omega) (by have := hb w; omega))⟩ ?_
              rw [show ((nI k) + (nI (tf_sz f w))) = nI (k + (tf_sz f w)) from (tf_add rfl rfl)]
              refine tf_fgt [some (.ref o), some (.int (nI h)), some (.int (nI b)), some (.int (nI t)), some (.int (nI z)), some (.int (nI (k + tf_sz f w))), none, none, none, none] (by simp [tf_lss]) ?_
              exact ih (k + tf_sz f w) z (by omega) (by have h0 : tf_ti f h b t k (tf_pt f w) 0 j = 0 := rfl; omega) (by omega)
            | succ i ihj =>
              intro j z hj hz
              rw [tf_ti_s] at hz
              have j1 := hin j (by omega)
              refine tf_go hx ftX11_timeOf 2 [] 100 [some (.ref o), some (.int (nI h)), some (.int (nI b)), some (.int (nI t)), some (.int (nI z)), some (.int (nI k)), some (.int (tf_on 10 w)), some (.int (nI (tf_sz f w))), some (.int (nI (tf_pt f w))), some (.int (nI j))] [.int (nI (tf_sz f w)), .int (nI j)] S rfl ⟨by decide, by decide, rfl⟩ trivial ?_
              refine tf_go hx ftX11_timeOf 1 [false] 103 [some (.ref o), some (.int (nI h)), some (.int (nI b)), some (.int (nI t)), some (.int (nI z)), some (.int (nI k)), some (.int (tf_on 10 w)), some (.int (nI (tf_sz f w))), some (.int (nI (tf_pt f w))), some (.int (nI j))] [] S rfl ⟨by decide, by decide, rfl⟩ ⟨trivial, (tf_leF (a := (tf_sz f w)) (b := j) rfl rfl (by have := hb w; omega) (by have := hb w; omega) (by have := hb w; omega))⟩ ?_
              refine tf_go hx ftX11_timeOf 2 [] 107 [some (.ref o), some (.int (nI h)), some (.int (nI b)), some (.int (nI t)), some (.int (nI z)), some (.int (nI k)), some (.int (tf_on 10 w)), some (.int (nI (tf_sz f w))), some (.int (nI (tf_pt f w))), some (.int (nI j))] [.int (nI j), .int (nI z)] S rfl ⟨by decide, by decide, rfl⟩ trivial ?_
              by_cases c3 : j = 0
              · rw [if_pos c3] at hz
                refine tf_go hx ftX11_timeOf 6 [false] 116 [some (.ref o), some (.int (nI h)), some (.int (nI b)), some (.int (nI t)), some (.int (nI z)), some (.int (nI k)), some (.int (tf_on 10 w)), some (.int (nI (tf_sz f w))), some (.int (nI (tf_pt f w))), some (.int (nI j))] [.int (nI t), .int (nI k), .int (nI b), .int (nI h), .ref o, .int (nI z)] S rfl ⟨by decide, by decide, rfl⟩ ⟨trivial, (tf_neF (a := j) (b := 0) rfl (rfl : (0 : Int32) = nI 0) (by omega))⟩ ?_
                refine tf_cV hx ftX11_timeOf (nx := 119) (As := [.int (nI h), .int (nI b), .int (nI k), .int (nI t)]) (rest := [.int (nI z)]) (st2 := [.int (nI (tf_gt f h b k t)), .int (nI z)]) (m_gapAt h b k t ho hf hg hh hbb c2 ht) rfl lX11_89 (by first | assumption | rfl | decide) rfl ⟨rfl, by decide, by decide, by decide, rfl, rfl⟩ ?_
                refine tf_go hx ftX11_timeOf 5 [] 96 [some (.ref o), some (.int (nI h)), some (.int (nI b)), some (.int (nI t)), some (.int ((nI z) + (nI (tf_gt f h b k t)))), some (.int (nI k)), some (.int (tf_on 10 w)), some (.int (nI (tf_sz f w))), some (.int (nI (tf_pt f w))), some (.int ((nI j) + 1))] [] S rfl ⟨by decide, by decide, rfl⟩ trivial ?_
                rw [show ((nI z) + (nI (tf_gt f h b k t))) = nI (z + (tf_gt f h b k t)) from (tf_add rfl rfl)]
                rw [show ((nI j) + 1) = nI (j + 1) from (tf_add rfl (rfl : (1 : Int32) = nI 1))]
                exact ihj (j + 1) (z + tf_gt f h b k t) (by omega) (by omega)
              · rw [if_neg c3] at hz
                have m1 := Nat.mul_le_mul (tf_gt_le hg (b := b) (i := k + j) (t := t) hh) p1
                refine tf_go hx ftX11_timeOf 8 [true] 131 [some (.ref o), some (.int (nI h)), some (.int (nI b)), some (.int (nI t)), some (.int (nI z)), some (.int (nI k)), some (.int (tf_on 10 w)), some (.int (nI (tf_sz f w))), some (.int (nI (tf_pt f w))), some (.int (nI j))] [.int (nI t), .int ((nI k) + (nI j)), .int (nI b), .int (nI h), .ref o, .int (nI z)] S rfl ⟨by decide, by decide, rfl⟩ ⟨trivial, (tf_eqF (a := j) (b := 0) rfl (rfl : (0 : Int32) = nI 0) (by omega) (by omega) (by omega))⟩ ?_
                rw [show ((nI k) + (nI j)) = nI (k + j) from (tf_add rfl rfl)]
                refine tf_cV hx ftX11_timeOf (nx := 134) (As := [.int (nI h), .int (nI b), .int (nI (k + j)), .int (nI t)]) (rest := [.int (nI z)]) (st2 := [.int (nI (tf_gt f h b (k + j) t)), .int (nI z)]) (m_gapAt h b (k + j) t ho hf hg hh hbb j1 ht) rfl lX11_89 (by first | assumption | rfl | decide) rfl ⟨rfl, by decide, by decide, by decide, rfl, rfl⟩ ?_
                refine tf_go hx ftX11_timeOf 8 [] 96 [some (.ref o), some (.int (nI h)), some (.int (nI b)), some (.int (nI t)), some (.int ((nI z) + (((nI (tf_gt f h b (k + j) t)) * (nI (tf_pt f w))) / 100))), some (.int (nI k)), some (.int (tf_on 10 w)), some (.int (nI (tf_sz f w))), some (.int (nI (tf_pt f w))), some (.int ((nI j) + 1))] [] S rfl ⟨by decide, by decide, rfl⟩ ⟨trivial, (by decide)⟩ ?_
                rw [show ((nI z) + (((nI (tf_gt f h b (k + j) t)) * (nI (tf_pt f w))) / 100)) = nI (z + (((tf_gt f h b (k + j) t) * (tf_pt f w)) / 100)) from (tf_add rfl (tf_div (tf_mul rfl rfl) (rfl : (100 : Int32) = nI 100) (by have := hb h; have := hb w; omega) (by decide) (by decide)))]
                rw [show ((nI j) + 1) = nI (j + 1) from (tf_add rfl (rfl : (1 : Int32) = nI 1))]
                exact ihj (j + 1) (z + tf_gt f h b (k + j) t * tf_pt f w / 100) (by omega) (by omega)
          exact iloop (tf_sz f w) 0 y (by omega) (by omega)
        by_cases c4 : w < 10
        · have hpt : tf_pt f w = 100 - 5 * (if f (224 + 10 * w + 1) ≤ 10 then f (224 + 10 * w + 1) else 10) := by unfold tf_pt; rw [if_pos c4]
          rw [tf_on_y c4] at inner ⊢
          refine tf_go hx ftX11_timeOf 4 [] 41 [some (.ref o), some (.int (nI h)), some (.int (nI b)), some (.int (nI t)), some (.int (nI y)), some (.int (nI k)), some (.int (nI w)), some (.int (nI (tf_sz f w))), some (.int 100), none] [.int (nI w)] S rfl ⟨by decide, by decide, rfl⟩ trivial ?_
          refine tf_go hx ftX11_timeOf 1 [false] 44 [some (.ref o), some (.int (nI h)), some (.int (nI b)), some (.int (nI t)), some (.int (nI y)), some (.int (nI k)), some (.int (nI w)), some (.int (nI (tf_sz f w))), some (.int 100), none] [] S rfl ⟨by decide, by decide, rfl⟩ ⟨trivial, (tf_ltF (a := w) (b := 0) rfl (rfl : (0 : Int32) = nI 0) (by omega) (by omega) (by omega))⟩ ?_
          refine tf_go hx ftX11_timeOf 13 [] 65 [some (.ref o), some (.int (nI h)), some (.int (nI b)), some (.int (nI t)), some (.int (nI y)), some (.int (nI k)), some (.int (nI w)), some (.int (nI (tf_sz f w))), some (.int 100), none] [.int 10, .int (S (tf_rf G o 1) (Int32.toNatClampNeg ((224 + (10 * (nI w))) + 1))), .int 5, .int 100] S rfl ⟨by decide, by decide, rfl⟩ ⟨⟨trivial, ⟨by first | assumption | rfl | decide | omega, by first | assumption | rfl | decide | omega⟩⟩, ⟨Or.inl (by first | assumption | rfl | decide | omega), by first | assumption | exact tf_in (n := ((224 + (10 * w)) + 1)) (tf_add (tf_add (rfl : (224 : Int32) = nI 224) (tf_mul (rfl : (10 : Int32) = nI 10) rfl)) (rfl : (1 : Int32) = nI 1)) (by first | assumption | rfl) (by omega) (by decide)⟩⟩ ?_
          rw [show (S (tf_rf G o 1) (Int32.toNatClampNeg ((224 + (10 * (nI w))) + 1))) = nI (f ((224 + (10 * w)) + 1)) from (tf_rd hs (tf_add (tf_add (rfl : (224 : Int32) = nI 224) (tf_mul (rfl : (10 : Int32) = nI 10) rfl)) (rfl : (1 : Int32) = nI 1)) (by omega))]
          by_cases c5 : f (224 + 10 * w + 1) ≤ 10
          · rw [if_pos c5] at hpt
            refine tf_go hx ftX11_timeOf 16 [true] 96 [some (.ref o), some (.int (nI h)), some (.int (nI b)), some (.int (nI t)), some (.int (nI y)), some (.int (nI k)), some (.int (nI w)), some (.int (nI (tf_sz f w))), some (.int (100 - (5 * (S (tf_rf G o 1) (Int32.toNatClampNeg ((224 + (10 * (nI w))) + 1)))))), some (.int 0)] [] S rfl ⟨by decide, by decide, rfl⟩ ⟨⟨⟨trivial, (tf_leT (a := (f ((224 + (10 * w)) + 1))) (b := 10) rfl (rfl : (10 : Int32) = nI 10) (by have := hb ((224 + (10 * w)) + 1); omega) (by have := hb ((224 + (10 * w)) + 1); omega) (by have := hb ((224 + (10 * w)) + 1); omega))⟩, ⟨by first | assumption | rfl | decide | omega, by first | assumption | rfl | decide | omega⟩⟩, ⟨Or.inl (by first | assumption | rfl | decide | omega), by first | assumption | exact tf_in (n := ((224 + (10 * w)) + 1)) (tf_add (tf_add (rfl : (224 : Int32) = nI 224) (tf_mul (rfl : (10 : Int32) = nI 10) rfl)) (rfl : (1 : Int32) = nI 1)) (by first | assumption | rfl) (by omega) (by decide)⟩⟩ ?_
            rw [show (100 - (5 * (S (tf_rf G o 1) (Int32.toNatClampNeg ((224 + (10 * (nI w))) + 1))))) = nI (100 - (5 * (f ((224 + (10 * w)) + 1)))) from (tf_sub (rfl : (100 : Int32) = nI 100) (tf_mul (rfl : (5 : Int32) = nI 5) (tf_rd hs (tf_add (tf_add (rfl : (224 : Int32) = nI 224) (tf_mul (rfl : (10 : Int32) = nI 10) rfl)) (rfl : (1 : Int32) = nI 1)) (by omega))) (by have := hb ((224 + (10 * w)) + 1); omega))]
            rw [hpt] at inner
            exact inner
          · rw [if_neg c5] at hpt
            refine tf_go hx ftX11_timeOf 8 [false] 96 [some (.ref o), some (.int (nI h)), some (.int (nI b)), some (.int (nI t)), some (.int (nI y)), some (.int (nI k)), some (.int (nI w)), some (.int (nI (tf_sz f w))), some (.int (100 - (5 * 10))), some (.int 0)] [] S rfl ⟨by decide, by decide, rfl⟩ ⟨trivial, (tf_leF (a := (f ((224 + (10 * w)) + 1))) (b := 10) rfl (rfl : (10 : Int32) = nI 10) (by have := hb ((224 + (10 * w)) + 1); omega) (by have := hb ((224 + (10 * w)) + 1); omega) (by have := hb ((224 + (10 * w)) + 1); omega))⟩ ?_
            rw [show (100 - (5 * 10)) = nI (100 - (5 * 10)) from (tf_sub (rfl : (100 : Int32) = nI 100) (tf_mul (rfl : (5 : Int32) = nI 5) (rfl : (10 : Int32) = nI 10)) (by omega))]
            rw [hpt] at inner
            exact inner
        · have hpt : tf_pt f w = 100 := by unfold tf_pt; rw [if_neg c4]
          rw [tf_on_n c4] at inner ⊢
          refine tf_go hx ftX11_timeOf 4 [] 41 [some (.ref o), some (.int (nI h)), some (.int (nI b)), some (.int (nI t)), some (.int (nI y)), some (.int (nI k)), some (.int (-9)), some (.int (nI (tf_sz f w))), some (.int 100), none] [.int (-9)] S rfl ⟨by decide, by decide, rfl⟩ trivial ?_
          refine tf_go hx ftX11_timeOf 3 [true] 96 [some (.ref o), some (.int (nI h)), some (.int (nI b)), some (.int (nI t)), some (.int (nI y)), some (.int (nI k)), some (.int (-9)), some (.int (nI (tf_sz f w))), some (.int 100), some (.int 0)] [] S rfl ⟨by decide, by decide, rfl⟩ ⟨trivial, (by decide)⟩ ?_
          rw [hpt] at inner
          exact inner
      · refine tf_go hx ftX11_timeOf 2 [true] 161 [some (.ref o), some (.int (nI h)), some (.int (nI b)), some (.int (nI t)), some (.int (nI y)), some (.int (nI k)), none, none, none, none] [.int (nI y)] S rfl ⟨by decide, by decide, rfl⟩ ⟨trivial, (tf_leT (a := (f 364)) (b := k) rfl rfl (by have := hb 364; omega) (by have := hb 364; omega) (by have := hb 364; omega))⟩ ?_
        exact tf_ret ftX11_timeOf hR rfl ⟨by decide, by decide⟩ rfl rfl (by rw [if_neg c2] at he; rw [← he]; rfl)
  exact loop 40 0 0 (by omega) (by omega) (by omega)
end
section
/-! SLIPS: places in MEANT; 41: none -/
def tf_df (f : Nat → Nat) (i : Nat) : Bool := !(f (144 + i) == f (184 + i))
/-- the first place where the texts differ, of n -/
def tf_dn (f : Nat → Nat) (n : Nat) : Nat := tf_fst (tf_df f) n 0
def tf_sl (f : Nat → Nat) : Nat := if f 365 = f 364 ∧ tf_dn f (f 364) < f 364 ∧ tf_fst (tf_df f) (f 364 - (tf_dn f (f 364) + 1)) (tf_dn f (f 364) + 1) = f 364 ∧ f (184 + tf_dn f (f 364)) ≠ 26 then tf_dn f (f 364) else 41
def tf_sw (f : Nat → Nat) : Nat := if f 365 = f 364 ∧ tf_dn f (f 364) + 1 < f 364 ∧ f (144 + tf_dn f (f 364)) = f (184 + tf_dn f (f 364) + 1) ∧ f (144 + tf_dn f (f 364) + 1) = f (184 + tf_dn f (f 364)) ∧ tf_fst (tf_df f) (f 364 - (tf_dn f (f 364) + 2)) (tf_dn f (f 364) + 2) = f 364 then tf_dn f (f 364) else 41
def tf_do (f : Nat → Nat) : Nat := if tf_sl f < 41 ∧ 1 ≤ tf_sl f ∧ tf_sl f + 1 < f 364 ∧ ((f (144 + tf_sl f) = f (144 + tf_sl f - 1) ∧ f (184 + tf_sl f) = f (144 + tf_sl f + 1) ∧ f (144 + tf_sl f - 1) ≠ f (144 + tf_sl f + 1)) ∨ (f (144 + tf_sl f) = f (144 + tf_sl f + 1) ∧ f (184 + tf_sl f) = f (144 + tf_sl f - 1) ∧ f (144 + tf_sl f - 1) ≠ f (144 + tf_sl f + 1))) then tf_sl f - 1 else 41
def tf_bk (f : Nat → Nat) (b t : Nat) : Nat := if tf_sl f < 41 ∧ tf_ke f b (f (144 + tf_sl f)) < 30 ∧ tf_ke f b (f (184 + tf_sl f)) < 30 ∧ (if t ≠ 0 then tf_di (tf_ke f b (f (144 + tf_sl f)) / 10) (tf_ke f b (f (184 + tf_sl f)) / 10) = 0 ∧ tf_ke f b (f (184 + tf_sl f)) % 10 = 9 - tf_ke f b (f (144 + tf_sl f)) % 10 else tf_di (tf_ke f b (f (144 + tf_sl f)) / 10) (tf_ke f b (f (184 + tf_sl f)) / 10) + tf_di (tf_ke f b (f (144 + tf_sl f)) % 10) (tf_ke f b (f (184 + tf_sl f)) % 10) = 1) then tf_sl f else 41
def tf_ea (f : Nat → Nat) : Nat := if tf_sl f < 41 ∧ ((tf_sl f + 1 < f 364 ∧ f (144 + tf_sl f + 1) = f (184 + tf_sl f)) ∨ (tf_sl f + 2 < f 364 ∧ f (144 + tf_sl f + 2) = f (184 + tf_sl f))) then tf_sl f else 41
/-- all from k on, of m, are so -/
def tf_all (P : Nat → Bool) : Nat → Nat → Bool
  | 0, _ => true
  | m + 1, k => P k && tf_all P m (k + 1)
def tf_lp (f : Nat → Nat) (i k : Nat) : Bool := f (184 + k) == f (144 + (if k < i then k else k + 1))
def tf_lo (f : Nat → Nat) : Nat := if f 365 + 1 = f 364 ∧ tf_fst (fun i => tf_all (tf_lp f i) (f 365) 0) (f 364) 0 < f 364 then tf_fst (fun i => tf_all (tf_lp f i) (f 365) 0) (f 364) 0 else 41
def tf_cp (f : Nat → Nat) (i k : Nat) : Bool := f (184 + (if k < i then k else k + 2)) == f (144 + k)
def tf_ch (f : Nat → Nat) (i : Nat) : Bool := !(f (184 + i) == 26) && !(f (184 + i) == f (144 + i)) && (f (184 + i + 1) == 26)
def tf_ca (f : Nat → Nat) : Nat := if f 365 = f 364 + 2 ∧ tf_fst (fun i => tf_ch f i && tf_all (tf_cp f i) (f 364) 0) (f 364) 0 < f 364 then tf_fst (fun i => tf_ch f i && tf_all (tf_cp f i) (f 364) 0) (f 364) 0 else 41
/-- WHERE of a KIND -/
def tf_wo (f : Nat → Nat) (b k : Nat) : Nat := if k = 0 then tf_sl f else if k = 1 then tf_sw f else if k = 2 then tf_do f else if k = 3 then tf_bk f b 1 else if k = 4 then tf_bk f b 0 else if k = 5 then tf_ea f else if k = 6 then tf_lo f else tf_ca f
theorem tf_sl_le {f : Nat → Nat} (h : tf_sl f < 41) : f 365 = f 364 ∧ tf_sl f < f 364 ∧ tf_sl f = tf_dn f (f 364) ∧ f (184 + tf_sl f) ≠ 26 := by
  unfold tf_sl at h ⊢
  split at h
  · next hc => rw [if_pos hc]; exact ⟨hc.1, hc.2.1, rfl, hc.2.2.2⟩
  · omega
theorem tf_all_0 {P : Nat → Bool} {k : Nat} : tf_all P 0 k = true := rfl
theorem tf_all_s {P : Nat → Bool} {m k : Nat} : tf_all P (m + 1) k = (P k && tf_all P m (k + 1)) := rfl
end
section
def tX11_slipAt : tf_T := [(0, .aload_n 0, 1, 0, 0),
  (1, .getfield 13, 4, 0, 0),
  (4, .sipush 365, 7, 0, 365),
  (7, .iaload, 8, 0, 0),
  (8, .aload_n 0, 9, 0, 0),
  (9, .getfield 13, 12, 0, 0),
  (12, .sipush 364, 15, 0, 364),
  (15, .iaload, 16, 0, 0),
  (16, .if_icmp .eq 6, 19, 22, 0),
  (19, .bipush (-9), 21, 0, (-9)),
  (21, .ireturn, 22, 0, 0),
  (22, .bipush (-9), 24, 0, (-9)),
  (24, .istore_n 1, 25, 0, 0),
  (25, .iconst 0, 26, 0, 0),
  (26, .istore_n 2, 27, 0, 0),
  (27, .iload_n 2, 28, 0, 0),
  (28, .aload_n 0, 29, 0, 0),
  (29, .getfield 13, 32, 0, 0),
  (32, .sipush 364, 35, 0, 364),
  (35, .iaload, 36, 0, 0),
  (36, .if_icmp .ge 44, 39, 80, 0),
  (39, .aload_n 0, 40, 0, 0),
  (40, .getfield 13, 43, 0, 0),
  (43, .sipush 144, 46, 0, 144),
  (46, .iload_n 2, 47, 0, 0),
  (47, .iadd, 48, 0, 0),
  (48, .iaload, 49, 0, 0),
  (49, .aload_n 0, 50, 0, 0),
  (50, .getfield 13, 53, 0, 0),
  (53, .sipush 184, 56, 0, 184),
  (56, .iload_n 2, 57, 0, 0),
  (57, .iadd, 58, 0, 0),
  (58, .iaload, 59, 0, 0),
  (59, .if_icmp .ne 6, 62, 65, 0),
  (62, .goto 12, 65, 74, 0),
  (65, .iload_n 1, 66, 0, 0),
  (66, .ifCond .lt 6, 69, 72, 0),
  (69, .bipush (-9), 71, 0, (-9)),
  (71, .ireturn, 72, 0, 0),
  (72, .iload_n 2, 73, 0, 0),
  (73, .istore_n 1, 74, 0, 0),
  (74, .iinc 2 1, 77, 0, 1),
  (77, .goto (-50), 80, 27, 0),
  (80, .iload_n 1, 81, 0, 0),
  (81, .ifCond .lt 22, 84, 103, 0),
  (84, .aload_n 0, 85, 0, 0),
  (85, .getfield 13, 88, 0, 0),
  (88, .sipush 184, 91, 0, 184),
  (91, .iload_n 1, 92, 0, 0),
  (92, .iadd, 93, 0, 0),
  (93, .iaload, 94, 0, 0),
  (94, .bipush 26, 96, 0, 26),
  (96, .if_icmp .eq 7, 99, 103, 0),
  (99, .iload_n 1, 100, 0, 0),
  (100, .goto 5, 103, 105, 0),
  (103, .bipush (-9), 105, 0, (-9)),
  (105, .ireturn, 106, 0, 0)]
set_option maxRecDepth 100000 in
theorem okX11_slipAt : tf_okT cX11_slipAt tX11_slipAt := by unfold tf_okT; decide +kernel
theorem ftX11_slipAt : 1 ≤ 1 ∧ tf_okF RX11 fX11 ∧ tf_okT cX11_slipAt tX11_slipAt := ⟨by decide, okfX11, okX11_slipAt⟩
def mX11_slipAt : tf_M := (yX11_slipAt, cX11_slipAt, 3, (some .int))

def tX11_swapAt : tf_T := [(0, .aload_n 0, 1, 0, 0),
  (1, .getfield 13, 4, 0, 0),
  (4, .sipush 365, 7, 0, 365),
  (7, .iaload, 8, 0, 0),
  (8, .aload_n 0, 9, 0, 0),
  (9, .getfield 13, 12, 0, 0),
  (12, .sipush 364, 15, 0, 364),
  (15, .iaload, 16, 0, 0),
  (16, .if_icmp .eq 6, 19, 22, 0),
  (19, .bipush (-9), 21, 0, (-9)),
  (21, .ireturn, 22, 0, 0),
  (22, .iconst 0, 23, 0, 0),
  (23, .istore_n 1, 24, 0, 0),
  (24, .iload_n 1, 25, 0, 0),
  (25, .aload_n 0, 26, 0, 0),
  (26, .getfield 13, 29, 0, 0),
  (29, .sipush 364, 32, 0, 364),
  (32, .iaload, 33, 0, 0),
  (33, .if_icmp .ge 32, 36, 65, 0),
  (36, .aload_n 0, 37, 0, 0),
  (37, .getfield 13, 40, 0, 0),
  (40, .sipush 144, 43, 0, 144),
  (43, .iload_n 1, 44, 0, 0),
  (44, .iadd, 45, 0, 0),
  (45, .iaload, 46, 0, 0),
  (46, .aload_n 0, 47, 0, 0),
  (47, .getfield 13, 50, 0, 0),
  (50, .sipush 184, 53, 0, 184),
  (53, .iload_n 1, 54, 0, 0),
  (54, .iadd, 55, 0, 0),
  (55, .iaload, 56, 0, 0),
  (56, .if_icmp .ne 9, 59, 65, 0),
  (59, .iinc 1 1, 62, 0, 1),
  (62, .goto (-38), 65, 24, 0),
  (65, .iload_n 1, 66, 0, 0),
  (66, .iconst 1, 67, 0, 1),
  (67, .iadd, 68, 0, 0),
  (68, .aload_n 0, 69, 0, 0),
  (69, .getfield 13, 72, 0, 0),
  (72, .sipush 364, 75, 0, 364),
  (75, .iaload, 76, 0, 0),
  (76, .if_icmp .ge 53, 79, 129, 0),
  (79, .aload_n 0, 80, 0, 0),
  (80, .getfield 13, 83, 0, 0),
  (83, .sipush 144, 86, 0, 144),
  (86, .iload_n 1, 87, 0, 0),
  (87, .iadd, 88, 0, 0),
  (88, .iaload, 89, 0, 0),
  (89, .aload_n 0, 90, 0, 0),
  (90, .getfield 13, 93, 0, 0),
  (93, .sipush 184, 96, 0, 184),
  (96, .iload_n 1, 97, 0, 0),
  (97, .iadd, 98, 0, 0),
  (98, .iconst 1, 99, 0, 1),
  (99, .iadd, 100, 0, 0),
  (100, .iaload, 101, 0, 0),
  (101, .if_icmp .ne 28, 104, 129, 0),
  (104, .aload_n 0, 105, 0, 0),
  (105, .getfield 13, 108, 0, 0),
  (108, .sipush 144, 111, 0, 144),
  (111, .iload_n 1, 112, 0, 0),
  (112, .iadd, 113, 0, 0),
  (113, .iconst 1, 114, 0, 1),
  (114, .iadd, 115, 0, 0),
  (115, .iaload, 116, 0, 0),
  (116, .aload_n 0, 117, 0, 0),
  (117, .getfield 13, 120, 0, 0),
  (120, .sipush 184, 123, 0, 184),
  (123, .iload_n 1, 124, 0, 0),
  (124, .iadd, 125, 0, 0),
  (125, .iaload, 126, 0, 0),
  (126, .if_icmp .eq 6, 129, 132, 0),
  (129, .bipush (-9), 131, 0, (-9)),
  (131, .ireturn, 132, 0, 0),
  (132, .iload_n 1, 133, 0, 0),
  (133, .iconst 2, 134, 0, 2),
  (134, .iadd, 135, 0, 0),
  (135, .istore_n 2, 136, 0, 0),
  (136, .iload_n 2, 137, 0, 0),
  (137, .aload_n 0, 138, 0, 0),
  (138, .getfield 13, 141, 0, 0),
  (141, .sipush 364, 144, 0, 364),
  (144, .iaload, 145, 0, 0),
  (145, .if_icmp .ge 35, 148, 180, 0),
  (148, .aload_n 0, 149, 0, 0),
  (149, .getfield 13, 152, 0, 0),
  (152, .sipush 144, 155, 0, 144),
  (155, .iload_n 2, 156, 0, 0),
  (156, .iadd, 157, 0, 0),
  (157, .iaload, 158, 0, 0),
  (158, .aload_n 0, 159, 0, 0),
  (159, .getfield 13, 162, 0, 0),
  (162, .sipush 184, 165, 0, 184),
  (165, .iload_n 2, 166, 0, 0),
  (166, .iadd, 167, 0, 0),
  (167, .iaload, 168, 0, 0),
  (168, .if_icmp .eq 6, 171, 174, 0),
  (171, .bipush (-9), 173, 0, (-9)),
  (173, .ireturn, 174, 0, 0),
  (174, .iinc 2 1, 177, 0, 1),
  (177, .goto (-41), 180, 136, 0),
  (180, .iload_n 1, 181, 0, 0),
  (181, .ireturn, 182, 0, 0)]
set_option maxRecDepth 100000 in
theorem okX11_swapAt : tf_okT cX11_swapAt tX11_swapAt := by unfold tf_okT; decide +kernel
theorem ftX11_swapAt : 1 ≤ 1 ∧ tf_okF RX11 fX11 ∧ tf_okT cX11_swapAt tX11_swapAt := ⟨by decide, okfX11, okX11_swapAt⟩
def mX11_swapAt : tf_M := (yX11_swapAt, cX11_swapAt, 3, (some .int))

def tX11_doubleAt : tf_T := [(0, .aload_n 0, 1, 0, 0),
  (1, .invokevirtual 95, 4, 0, 0),
  (4, .istore_n 1, 5, 0, 0),
  (5, .iload_n 1, 6, 0, 0),
  (6, .iconst 1, 7, 0, 1),
  (7, .if_icmp .lt 17, 10, 24, 0),
  (10, .iload_n 1, 11, 0, 0),
  (11, .iconst 1, 12, 0, 1),
  (12, .iadd, 13, 0, 0),
  (13, .aload_n 0, 14, 0, 0),
  (14, .getfield 13, 17, 0, 0),
  (17, .sipush 364, 20, 0, 364),
  (20, .iaload, 21, 0, 0),
  (21, .if_icmp .lt 6, 24, 27, 0),
  (24, .bipush (-9), 26, 0, (-9)),
  (26, .ireturn, 27, 0, 0),
  (27, .aload_n 0, 28, 0, 0),
  (28, .getfield 13, 31, 0, 0),
  (31, .sipush 144, 34, 0, 144),
  (34, .iload_n 1, 35, 0, 0),
  (35, .iadd, 36, 0, 0),
  (36, .iconst 1, 37, 0, 1),
  (37, .isub, 38, 0, 0),
  (38, .iaload, 39, 0, 0),
  (39, .istore_n 2, 40, 0, 0),
  (40, .aload_n 0, 41, 0, 0),
  (41, .getfield 13, 44, 0, 0),
  (44, .sipush 144, 47, 0, 144),
  (47, .iload_n 1, 48, 0, 0),
  (48, .iadd, 49, 0, 0),
  (49, .iaload, 50, 0, 0),
  (50, .istore_n 3, 51, 0, 0),
  (51, .aload_n 0, 52, 0, 0),
  (52, .getfield 13, 55, 0, 0),
  (55, .sipush 144, 58, 0, 144),
  (58, .iload_n 1, 59, 0, 0),
  (59, .iadd, 60, 0, 0),
  (60, .iconst 1, 61, 0, 1),
  (61, .iadd, 62, 0, 0),
  (62, .iaload, 63, 0, 0),
  (63, .istore 4, 65, 0, 0),
  (65, .aload_n 0, 66, 0, 0),
  (66, .getfield 13, 69, 0, 0),
  (69, .sipush 184, 72, 0, 184),
  (72, .iload_n 1, 73, 0, 0),
  (73, .iadd, 74, 0, 0),
  (74, .iaload, 75, 0, 0),
  (75, .istore 5, 77, 0, 0),
  (77, .iload_n 3, 78, 0, 0),
  (78, .iload_n 2, 79, 0, 0),
  (79, .if_icmp .ne 16, 82, 95, 0),
  (82, .iload 5, 84, 0, 0),
  (84, .iload 4, 86, 0, 0),
  (86, .if_icmp .ne 9, 89, 95, 0),
  (89, .iload_n 2, 90, 0, 0),
  (90, .iload 4, 92, 0, 0),
  (92, .if_icmp .ne 21, 95, 113, 0),
  (95, .iload_n 3, 96, 0, 0),
  (96, .iload 4, 98, 0, 0),
  (98, .if_icmp .ne 21, 101, 119, 0),
  (101, .iload 5, 103, 0, 0),
  (103, .iload_n 2, 104, 0, 0),
  (104, .if_icmp .ne 15, 107, 119, 0),
  (107, .iload_n 2, 108, 0, 0),
  (108, .iload 4, 110, 0, 0),
  (110, .if_icmp .eq 9, 113, 119, 0),
  (113, .iload_n 1, 114, 0, 0),
  (114, .iconst 1, 115, 0, 1),
  (115, .isub, 116, 0, 0),
  (116, .goto 5, 119, 121, 0),
  (119, .bipush (-9), 121, 0, (-9)),
  (121, .ireturn, 122, 0, 0)]
set_option maxRecDepth 100000 in
theorem okX11_doubleAt : tf_okT cX11_doubleAt tX11_doubleAt := by unfold tf_okT; decide +kernel
theorem ftX11_doubleAt : 1 ≤ 2 ∧ tf_okF RX11 fX11 ∧ tf_okT cX11_doubleAt tX11_doubleAt := ⟨by decide, okfX11, okX11_doubleAt⟩
def mX11_doubleAt : tf_M := (yX11_doubleAt, cX11_doubleAt, 6, (some .int))

def tX11_byKeys : tf_T := [(0, .aload_n 0, 1, 0, 0),
  (1, .invokevirtual 95, 4, 0, 0),
  (4, .istore_n 3, 5, 0, 0),
  (5, .iload_n 3, 6, 0, 0),
  (6, .ifCond .ge 6, 9, 12, 0),
  (9, .bipush (-9), 11, 0, (-9)),
  (11, .ireturn, 12, 0, 0),
  (12, .aload_n 0, 13, 0, 0),
  (13, .iload_n 1, 14, 0, 0),
  (14, .aload_n 0, 15, 0, 0),
  (15, .getfield 13, 18, 0, 0),
  (18, .sipush 144, 21, 0, 144),
  (21, .iload_n 3, 22, 0, 0),
  (22, .iadd, 23, 0, 0),
  (23, .iaload, 24, 0, 0),
  (24, .invokevirtual 51, 27, 0, 0),
  (27, .istore 4, 29, 0, 0),
  (29, .aload_n 0, 30, 0, 0),
  (30, .iload_n 1, 31, 0, 0),
  (31, .aload_n 0, 32, 0, 0),
  (32, .getfield 13, 35, 0, 0),
  (35, .sipush 184, 38, 0, 184),
  (38, .iload_n 3, 39, 0, 0),
  (39, .iadd, 40, 0, 0),
  (40, .iaload, 41, 0, 0),
  (41, .invokevirtual 51, 44, 0, 0),
  (44, .istore 5, 46, 0, 0),
  (46, .iload 4, 48, 0, 0),
  (48, .ifCond .lt 8, 51, 56, 0),
  (51, .iload 5, 53, 0, 0),
  (53, .ifCond .ge 6, 56, 59, 0),
  (56, .bipush (-9), 58, 0, (-9)),
  (58, .ireturn, 59, 0, 0),
  (59, .iload 4, 61, 0, 0),
  (61, .bipush 10, 63, 0, 10),
  (63, .idiv, 64, 0, 0),
  (64, .iload 5, 66, 0, 0),
  (66, .bipush 10, 68, 0, 10),
  (68, .idiv, 69, 0, 0),
  (69, .isub, 70, 0, 0),
  (70, .invokestatic 69, 73, 0, 0),
  (73, .istore 6, 75, 0, 0),
  (75, .iload_n 2, 76, 0, 0),
  (76, .ifCond .eq 32, 79, 108, 0),
  (79, .iload 6, 81, 0, 0),
  (81, .ifCond .ne 23, 84, 104, 0),
  (84, .iload 5, 86, 0, 0),
  (86, .bipush 10, 88, 0, 10),
  (88, .irem, 89, 0, 0),
  (89, .bipush 9, 91, 0, 9),
  (91, .iload 4, 93, 0, 0),
  (93, .bipush 10, 95, 0, 10),
  (95, .irem, 96, 0, 0),
  (96, .isub, 97, 0, 0),
  (97, .if_icmp .ne 7, 100, 104, 0),
  (100, .iconst 1, 101, 0, 1),
  (101, .goto 33, 104, 134, 0),
  (104, .iconst 0, 105, 0, 0),
  (105, .goto 29, 108, 134, 0),
  (108, .iload 6, 110, 0, 0),
  (110, .iload 4, 112, 0, 0),
  (112, .bipush 10, 114, 0, 10),
  (114, .irem, 115, 0, 0),
  (115, .iload 5, 117, 0, 0),
  (117, .bipush 10, 119, 0, 10),
  (119, .irem, 120, 0, 0),
  (120, .isub, 121, 0, 0),
  (121, .invokestatic 69, 124, 0, 0),
  (124, .iadd, 125, 0, 0),
  (125, .iconst 1, 126, 0, 1),
  (126, .if_icmp .ne 7, 129, 133, 0),
  (129, .iconst 1, 130, 0, 1),
  (130, .goto 4, 133, 134, 0),
  (133, .iconst 0, 134, 0, 0),
  (134, .istore 7, 136, 0, 0),
  (136, .iload 7, 138, 0, 0),
  (138, .ifCond .eq 7, 141, 145, 0),
  (141, .iload_n 3, 142, 0, 0),
  (142, .goto 5, 145, 147, 0),
  (145, .bipush (-9), 147, 0, (-9)),
  (147, .ireturn, 148, 0, 0)]
set_option maxRecDepth 100000 in
theorem okX11_byKeys : tf_okT cX11_byKeys tX11_byKeys := by unfold tf_okT; decide +kernel
theorem ftX11_byKeys : 1 ≤ 2 ∧ tf_okF RX11 fX11 ∧ tf_okT cX11_byKeys tX11_byKeys := ⟨by decide, okfX11, okX11_byKeys⟩
def mX11_byKeys : tf_M := (yX11_byKeys, cX11_byKeys, 8, (some .int))

def tX11_earlyAt : tf_T := [(0, .aload_n 0, 1, 0, 0),
  (1, .invokevirtual 95, 4, 0, 0),
  (4, .istore_n 1, 5, 0, 0),
  (5, .iload_n 1, 6, 0, 0),
  (6, .ifCond .ge 6, 9, 12, 0),
  (9, .bipush (-9), 11, 0, (-9)),
  (11, .ireturn, 12, 0, 0),
  (12, .iload_n 1, 13, 0, 0),
  (13, .iconst 1, 14, 0, 1),
  (14, .iadd, 15, 0, 0),
  (15, .aload_n 0, 16, 0, 0),
  (16, .getfield 13, 19, 0, 0),
  (19, .sipush 364, 22, 0, 364),
  (22, .iaload, 23, 0, 0),
  (23, .if_icmp .ge 28, 26, 51, 0),
  (26, .aload_n 0, 27, 0, 0),
  (27, .getfield 13, 30, 0, 0),
  (30, .sipush 144, 33, 0, 144),
  (33, .iload_n 1, 34, 0, 0),
  (34, .iadd, 35, 0, 0),
  (35, .iconst 1, 36, 0, 1),
  (36, .iadd, 37, 0, 0),
  (37, .iaload, 38, 0, 0),
  (38, .aload_n 0, 39, 0, 0),
  (39, .getfield 13, 42, 0, 0),
  (42, .sipush 184, 45, 0, 184),
  (45, .iload_n 1, 46, 0, 0),
  (46, .iadd, 47, 0, 0),
  (47, .iaload, 48, 0, 0),
  (48, .if_icmp .eq 42, 51, 90, 0),
  (51, .iload_n 1, 52, 0, 0),
  (52, .iconst 2, 53, 0, 2),
  (53, .iadd, 54, 0, 0),
  (54, .aload_n 0, 55, 0, 0),
  (55, .getfield 13, 58, 0, 0),
  (58, .sipush 364, 61, 0, 364),
  (61, .iaload, 62, 0, 0),
  (62, .if_icmp .ge 32, 65, 94, 0),
  (65, .aload_n 0, 66, 0, 0),
  (66, .getfield 13, 69, 0, 0),
  (69, .sipush 144, 72, 0, 144),
  (72, .iload_n 1, 73, 0, 0),
  (73, .iadd, 74, 0, 0),
  (74, .iconst 2, 75, 0, 2),
  (75, .iadd, 76, 0, 0),
  (76, .iaload, 77, 0, 0),
  (77, .aload_n 0, 78, 0, 0),
  (78, .getfield 13, 81, 0, 0),
  (81, .sipush 184, 84, 0, 184),
  (84, .iload_n 1, 85, 0, 0),
  (85, .iadd, 86, 0, 0),
  (86, .iaload, 87, 0, 0),
  (87, .if_icmp .ne 7, 90, 94, 0),
  (90, .iload_n 1, 91, 0, 0),
  (91, .goto 5, 94, 96, 0),
  (94, .bipush (-9), 96, 0, (-9)),
  (96, .ireturn, 97, 0, 0)]
set_option maxRecDepth 100000 in
theorem okX11_earlyAt : tf_okT cX11_earlyAt tX11_earlyAt := by unfold tf_okT; decide +kernel
theorem ftX11_earlyAt : 1 ≤ 2 ∧ tf_okF RX11 fX11 ∧ tf_okT cX11_earlyAt tX11_earlyAt := ⟨by decide, okfX11, okX11_earlyAt⟩
def mX11_earlyAt : tf_M := (yX11_earlyAt, cX11_earlyAt, 2, (some .int))

def tX11_lostAt : tf_T := [(0, .aload_n 0, 1, 0, 0),
  (1, .getfield 13, 4, 0, 0),
  (4, .sipush 365, 7, 0, 365),
  (7, .iaload, 8, 0, 0),
  (8, .aload_n 0, 9, 0, 0),
  (9, .getfield 13, 12, 0, 0),
  (12, .sipush 364, 15, 0, 364),
  (15, .iaload, 16, 0, 0),
  (16, .iconst 1, 17, 0, 1),
  (17, .isub, 18, 0, 0),
  (18, .if_icmp .eq 6, 21, 24, 0),
  (21, .bipush (-9), 23, 0, (-9)),
  (23, .ireturn, 24, 0, 0),
  (24, .iconst 0, 25, 0, 0),
  (25, .istore_n 1, 26, 0, 0),
  (26, .iload_n 1, 27, 0, 0),
  (27, .aload_n 0, 28, 0, 0),
  (28, .getfield 13, 31, 0, 0),
  (31, .sipush 364, 34, 0, 364),
  (34, .iaload, 35, 0, 0),
  (35, .if_icmp .ge 81, 38, 116, 0),
  (38, .iconst 1, 39, 0, 1),
  (39, .istore_n 2, 40, 0, 0),
  (40, .iconst 0, 41, 0, 0),
  (41, .istore_n 3, 42, 0, 0),
  (42, .iload_n 3, 43, 0, 0),
  (43, .aload_n 0, 44, 0, 0),
  (44, .getfield 13, 47, 0, 0),
  (47, .sipush 365, 50, 0, 365),
  (50, .iaload, 51, 0, 0),
  (51, .if_icmp .ge 53, 54, 104, 0),
  (54, .iload_n 2, 55, 0, 0),
  (55, .ifCond .eq 41, 58, 96, 0),
  (58, .aload_n 0, 59, 0, 0),
  (59, .getfield 13, 62, 0, 0),
  (62, .sipush 184, 65, 0, 184),
  (65, .iload_n 3, 66, 0, 0),
  (66, .iadd, 67, 0, 0),
  (67, .iaload, 68, 0, 0),
  (68, .aload_n 0, 69, 0, 0),
  (69, .getfield 13, 72, 0, 0),
  (72, .sipush 144, 75, 0, 144),
  (75, .iload_n 3, 76, 0, 0),
  (76, .iload_n 1, 77, 0, 0),
  (77, .if_icmp .ge 7, 80, 84, 0),
  (80, .iload_n 3, 81, 0, 0),
  (81, .goto 6, 84, 87, 0),
  (84, .iload_n 3, 85, 0, 0),
  (85, .iconst 1, 86, 0, 1),
  (86, .iadd, 87, 0, 0),
  (87, .iadd, 88, 0, 0),
  (88, .iaload, 89, 0, 0),
  (89, .if_icmp .ne 7, 92, 96, 0),
  (92, .iconst 1, 93, 0, 1),
  (93, .goto 4, 96, 97, 0),
  (96, .iconst 0, 97, 0, 0),
  (97, .istore_n 2, 98, 0, 0),
  (98, .iinc 3 1, 101, 0, 1),
  (101, .goto (-59), 104, 42, 0),
  (104, .iload_n 2, 105, 0, 0),
  (105, .ifCond .eq 5, 108, 110, 0),
  (108, .iload_n 1, 109, 0, 0),
  (109, .ireturn, 110, 0, 0),
  (110, .iinc 1 1, 113, 0, 1),
  (113, .goto (-87), 116, 26, 0),
  (116, .bipush (-9), 118, 0, (-9)),
  (118, .ireturn, 119, 0, 0)]
set_option maxRecDepth 100000 in
theorem okX11_lostAt : tf_okT cX11_lostAt tX11_lostAt := by unfold tf_okT; decide +kernel
theorem ftX11_lostAt : 1 ≤ 1 ∧ tf_okF RX11 fX11 ∧ tf_okT cX11_lostAt tX11_lostAt := ⟨by decide, okfX11, okX11_lostAt⟩
def mX11_lostAt : tf_M := (yX11_lostAt, cX11_lostAt, 4, (some .int))

def tX11_caughtAt : tf_T := [(0, .aload_n 0, 1, 0, 0),
  (1, .getfield 13, 4, 0, 0),
  (4, .sipush 365, 7, 0, 365),
  (7, .iaload, 8, 0, 0),
  (8, .aload_n 0, 9, 0, 0),
  (9, .getfield 13, 12, 0, 0),
  (12, .sipush 364, 15, 0, 364),
  (15, .iaload, 16, 0, 0),
  (16, .iconst 2, 17, 0, 2),
  (17, .iadd, 18, 0, 0),
  (18, .if_icmp .eq 6, 21, 24, 0),
  (21, .bipush (-9), 23, 0, (-9)),
  (23, .ireturn, 24, 0, 0),
  (24, .iconst 0, 25, 0, 0),
  (25, .istore_n 1, 26, 0, 0),
  (26, .iload_n 1, 27, 0, 0),
  (27, .aload_n 0, 28, 0, 0),
  (28, .getfield 13, 31, 0, 0),
  (31, .sipush 364, 34, 0, 364),
  (34, .iaload, 35, 0, 0),
  (35, .if_icmp .ge 140, 38, 175, 0),
  (38, .aload_n 0, 39, 0, 0),
  (39, .getfield 13, 42, 0, 0),
  (42, .sipush 184, 45, 0, 184),
  (45, .iload_n 1, 46, 0, 0),
  (46, .iadd, 47, 0, 0),
  (47, .iaload, 48, 0, 0),
  (48, .bipush 26, 50, 0, 26),
  (50, .if_icmp .eq 47, 53, 97, 0),
  (53, .aload_n 0, 54, 0, 0),
  (54, .getfield 13, 57, 0, 0),
  (57, .sipush 184, 60, 0, 184),
  (60, .iload_n 1, 61, 0, 0),
  (61, .iadd, 62, 0, 0),
  (62, .iaload, 63, 0, 0),
  (63, .aload_n 0, 64, 0, 0),
  (64, .getfield 13, 67, 0, 0),
  (67, .sipush 144, 70, 0, 144),
  (70, .iload_n 1, 71, 0, 0),
  (71, .iadd, 72, 0, 0),
  (72, .iaload, 73, 0, 0),
  (73, .if_icmp .eq 24, 76, 97, 0),
  (76, .aload_n 0, 77, 0, 0),
  (77, .getfield 13, 80, 0, 0),
  (80, .sipush 184, 83, 0, 184),
  (83, .iload_n 1, 84, 0, 0),
  (84, .iadd, 85, 0, 0),
  (85, .iconst 1, 86, 0, 1),
  (86, .iadd, 87, 0, 0),
  (87, .iaload, 88, 0, 0),
  (88, .bipush 26, 90, 0, 26),
  (90, .if_icmp .ne 7, 93, 97, 0),
  (93, .iconst 1, 94, 0, 1),
  (94, .goto 4, 97, 98, 0),
  (97, .iconst 0, 98, 0, 0),
  (98, .istore_n 2, 99, 0, 0),
  (99, .iconst 0, 100, 0, 0),
  (100, .istore_n 3, 101, 0, 0),
  (101, .iload_n 3, 102, 0, 0),
  (102, .aload_n 0, 103, 0, 0),
  (103, .getfield 13, 106, 0, 0),
  (106, .sipush 364, 109, 0, 364),
  (109, .iaload, 110, 0, 0),
  (110, .if_icmp .ge 53, 113, 163, 0),
  (113, .iload_n 2, 114, 0, 0),
  (114, .ifCond .eq 41, 117, 155, 0),
  (117, .aload_n 0, 118, 0, 0),
  (118, .getfield 13, 121, 0, 0),
  (121, .sipush 184, 124, 0, 184),
  (124, .iload_n 3, 125, 0, 0),
  (125, .iload_n 1, 126, 0, 0),
  (126, .if_icmp .ge 7, 129, 133, 0),
  (129, .iload_n 3, 130, 0, 0),
  (130, .goto 6, 133, 136, 0),
  (133, .iload_n 3, 134, 0, 0),
  (134, .iconst 2, 135, 0, 2),
  (135, .iadd, 136, 0, 0),
  (136, .iadd, 137, 0, 0),
  (137, .iaload, 138, 0, 0),
  (138, .aload_n 0, 139, 0, 0),
  (139, .getfield 13, 142, 0, 0),
  (142, .sipush 144, 145, 0, 144),
  (145, .iload_n 3, 146, 0, 0),
  (146, .iadd, 147, 0, 0),
  (147, .iaload, 148, 0, 0),
  (148, .if_icmp .ne 7, 151, 155, 0),
  (151, .iconst 1, 152, 0, 1),
  (152, .goto 4, 155, 156, 0),
  (155, .iconst 0, 156, 0, 0),
  (156, .istore_n 2, 157, 0, 0),
  (157, .iinc 3 1, 160, 0, 1),
  (160, .goto (-59), 163, 101, 0),
  (163, .iload_n 2, 164, 0, 0),
  (164, .ifCond .eq 5, 167, 169, 0),
  (167, .iload_n 1, 168, 0, 0),
  (168, .ireturn, 169, 0, 0),
  (169, .iinc 1 1, 172, 0, 1),
  (172, .goto (-146), 175, 26, 0),
  (175, .bipush (-9), 177, 0, (-9)),
  (177, .ireturn, 178, 0, 0)]
set_option maxRecDepth 100000 in
theorem okX11_caughtAt : tf_okT cX11_caughtAt tX11_caughtAt := by unfold tf_okT; decide +kernel
theorem ftX11_caughtAt : 1 ≤ 1 ∧ tf_okF RX11 fX11 ∧ tf_okT cX11_caughtAt tX11_caughtAt := ⟨by decide, okfX11, okX11_caughtAt⟩
def mX11_caughtAt : tf_M := (yX11_caughtAt, cX11_caughtAt, 4, (some .int))

def tX11_whereOf : tf_T := [(0, .iload_n 2, 1, 0, 0),
  (1, .tableswitch 82 0 6 #[43, 48, 53, 58, 65, 72, 77], 44, 0, 0),
  (44, .aload_n 0, 45, 0, 0),
  (45, .invokevirtual 95, 48, 0, 0),
  (48, .ireturn, 49, 0, 0),
  (49, .aload_n 0, 50, 0, 0),
  (50, .invokevirtual 98, 53, 0, 0),
  (53, .ireturn, 54, 0, 0),
  (54, .aload_n 0, 55, 0, 0),
  (55, .invokevirtual 101, 58, 0, 0),
  (58, .ireturn, 59, 0, 0),
  (59, .aload_n 0, 60, 0, 0),
  (60, .iload_n 1, 61, 0, 0),
  (61, .iconst 1, 62, 0, 1),
  (62, .invokevirtual 104, 65, 0, 0),
  (65, .ireturn, 66, 0, 0),
  (66, .aload_n 0, 67, 0, 0),
  (67, .iload_n 1, 68, 0, 0),
  (68, .iconst 0, 69, 0, 0),
  (69, .invokevirtual 104, 72, 0, 0),
  (72, .ireturn, 73, 0, 0),
  (73, .aload_n 0, 74, 0, 0),
  (74, .invokevirtual 107, 77, 0, 0),
  (77, .ireturn, 78, 0, 0),
  (78, .aload_n 0, 79, 0, 0),
  (79, .invokevirtual 110, 82, 0, 0),
  (82, .ireturn, 83, 0, 0),
  (83, .aload_n 0, 84, 0, 0),
  (84, .invokevirtual 113, 87, 0, 0),
  (87, .ireturn, 88, 0, 0)]
set_option maxRecDepth 100000 in
theorem okX11_whereOf : tf_okT cX11_whereOf tX11_whereOf := by unfold tf_okT; decide +kernel
theorem ftX11_whereOf : 1 ≤ 3 ∧ tf_okF RX11 fX11 ∧ tf_okT cX11_whereOf tX11_whereOf := ⟨by decide, okfX11, okX11_whereOf⟩
def mX11_whereOf : tf_M := (yX11_whereOf, cX11_whereOf, 3, (some .int))

set_option maxRecDepth 100000 in
theorem lX11_95 : tf_okV RX11 95 0 8 mX11_slipAt := by unfold tf_okV tf_okL; decide +kernel

set_option maxRecDepth 100000 in
theorem lX11_98 : tf_okV RX11 98 0 8 mX11_swapAt := by unfold tf_okV tf_okL; decide +kernel

set_option maxRecDepth 100000 in
theorem lX11_101 : tf_okV RX11 101 0 8 mX11_doubleAt := by unfold tf_okV tf_okL; decide +kernel

set_option maxRecDepth 100000 in
theorem lX11_104 : tf_okV RX11 104 2 8 mX11_byKeys := by unfold tf_okV tf_okL; decide +kernel

set_option maxRecDepth 100000 in
theorem lX11_107 : tf_okV RX11 107 0 8 mX11_earlyAt := by unfold tf_okV tf_okL; decide +kernel

set_option maxRecDepth 100000 in
theorem lX11_110 : tf_okV RX11 110 0 8 mX11_lostAt := by unfold tf_okV tf_okL; decide +kernel

set_option maxRecDepth 100000 in
theorem lX11_113 : tf_okV RX11 113 0 8 mX11_caughtAt := by unfold tf_okV tf_okL; decide +kernel

set_option maxHeartbeats 1000000 in
theorem m_slipAt {G : tf_G} {S : tf_Sg} {o : Nat} {f : Nat → Nat} (ho : tf_mo G o) (hf : tf_sf G S o f) (hg : tf_gd f) : tf_Fn mX11_slipAt 1 0 0 G S [.ref o] G S (some (.int (tf_on 41 (tf_sl f)))) := by
  obtain ⟨h1, ⟨r0, t0, n0⟩, ⟨r1, t1, n1⟩, ⟨r2, t2, n2⟩, ⟨r4, t4, n4⟩⟩ := id ho
  obtain ⟨hs, hb⟩ := id hf
  obtain ⟨⟨g1, g2, g3, g4⟩, g5, g6, g7, g8, g9, g10, g11⟩ := id hg
  refine tf_Fn_of (own := RX11) false ⟨by decide, rfl, by decide⟩ (Nat.le_of_ble_eq_true rfl) trivial (fun x hx hR => ?_)
  show tf_K x 0 0 G S 0 [some (.ref o), none, none] []
  refine tf_go hx ftX11_slipAt 8 [] 16 [some (.ref o), none, none] [.int (S (tf_rf G o 1) (Int32.toNatClampNeg 364)), .int (S (tf_rf G o 1) (Int32.toNatClampNeg 365))] S rfl ⟨by decide, by decide, rfl⟩ ⟨⟨⟨⟨trivial, ⟨by first | assumption | rfl | decide | omega, by first | assumption | rfl | decide | omega⟩⟩, ⟨Or.inl (by first | assumption | rfl | decide | omega), by first | assumption | exact tf_in (n := 365) (rfl : (365 : Int32) = nI 365) (by first | assumption | rfl) (by omega) (by decide)⟩⟩, ⟨by first | assumption | rfl | decide | omega, by first | assumption | rfl | decide | omega⟩⟩, ⟨Or.inl (by first | assumption | rfl | decide | omega), by first | assumption | exact tf_in (n := 364) (rfl : (364 : Int32) = nI 364) (by first | assumption | rfl) (by omega) (by decide)⟩⟩ ?_
  rw [show (S (tf_rf G o 1) (Int32.toNatClampNeg 364)) = nI (f 364) from (tf_rd hs (rfl : (364 : Int32) = nI 364) (by omega))]
  rw [show (S (tf_rf G o 1) (Int32.toNatClampNeg 365)) = nI (f 365) from (tf_rd hs (rfl : (365 : Int32) = nI 365) (by omega))]
  by_cases c1 : f 365 = f 364
  · refine tf_go hx ftX11_slipAt 1 [true] 22 [some (.ref o), none, none] [] S rfl ⟨by decide, by decide, rfl⟩ ⟨trivial, (tf_eqT (a := (f 365)) (b := (f 364)) rfl rfl (by have := hb 365; have := hb 364; omega))⟩ ?_
    refine tf_go hx ftX11_slipAt 4 [] 27 [some (.ref o), some (.int (-9)), some (.int 0)] [] S rfl ⟨by decide, by decide, rfl⟩ trivial ?_
    have second : ∀ (p : Nat), p < f 364 → tf_fst (tf_df f) (f 364) 0 = p → ∀ (m k : Nat), k + m = f 364 → p < k → tf_fst (tf_df f) m k = tf_fst (tf_df f) (f 364 - (p + 1)) (p + 1) → tf_K x 0 0 G S 27 [some (.ref o), some (.int (nI p)), some (.int (nI k))] [] := by
      intro p hp hd m
      induction m with
      | zero =>
        intro k hk hpk he
        rw [tf_fst_0] at he
        have e1 : k = f 364 := by omega
        refine tf_go hx ftX11_slipAt 5 [] 36 [some (.ref o), some (.int (nI p)), some (.int (nI k))] [.int (S (tf_rf G o 1) (Int32.toNatClampNeg 364)), .int (nI k)] S rfl ⟨by decide, by decide, rfl⟩ ⟨⟨trivial, ⟨by first | assumption | rfl | decide | omega, by first | assumption | rfl | decide | omega⟩⟩, ⟨Or.inl (by first | assumption | rfl | decide | omega), by first | assumption | exact tf_in (n := 364) (rfl : (364 : Int32) = nI 364) (by first | assumption | rfl) (by omega) (by decide)⟩⟩ ?_
        rw [show (S (tf_rf G o 1) (Int32.toNatClampNeg 364)) = nI (f 364) from (tf_rd hs (rfl : (364 : Int32) = nI 364) (by omega))]
        refine tf_go hx ftX11_slipAt 1 [true] 80 [some (.ref o), some (.int (nI p)), some (.int (nI k))] [] S rfl ⟨by decide, by decide, rfl⟩ ⟨trivial, (tf_leT (a := (f 364)) (b := k) rfl rfl (by have := hb 364; omega) (by have := hb 364; omega) (by have := hb 364; omega))⟩ ?_
        refine tf_go hx ftX11_slipAt 1 [] 81 [some (.ref o), some (.int (nI p)), some (.int (nI k))] [.int (nI p)] S rfl ⟨by decide, by decide, rfl⟩ trivial ?_
        refine tf_go hx ftX11_slipAt 1 [false] 84 [some (.ref o), some (.int (nI p)), some (.int (nI k))] [] S rfl ⟨by decide, by decide, rfl⟩ ⟨trivial, (tf_ltF (a := p) (b := 0) rfl (rfl : (0 : Int32) = nI 0) (by omega) (by omega) (by omega))⟩ ?_
        refine tf_go hx ftX11_slipAt 7 [] 96 [some (.ref o), some (.int (nI p)), some (.int (nI k))] [.int 26, .int (S (tf_rf G o 1) (Int32.toNatClampNeg (184 + (nI p))))] S rfl ⟨by decide, by decide, rfl⟩ ⟨⟨trivial, ⟨by first | assumption | rfl | decide | omega, by first | assumption | rfl | decide | omega⟩⟩, ⟨Or.inl (by first | assumption | rfl | decide | omega), by first | assumption | exact tf_in (n := (184 + p)) (tf_add (rfl : (184 : Int32) = nI 184) rfl) (by first | assumption | rfl) (by omega) (by decide)⟩⟩ ?_
        rw [show (S (tf_rf G o 1) (Int32.toNatClampNeg (184 + (nI p)))) = nI (f (184 + p)) from (tf_rd hs (tf_add (rfl : (184 : Int32) = nI 184) rfl) (by omega))]
        by_cases c2 : f (184 + p) = 26
        · refine tf_go hx ftX11_slipAt 2 [true] 105 [some (.ref o), some (.int (nI p)), some (.int (nI k))] [.int (-9)] S rfl ⟨by decide, by decide, rfl⟩ ⟨trivial, (tf_eqT (a := (f (184 + p))) (b := 26) rfl (rfl : (26 : Int32) = nI 26) (by have := hb (184 + p); omega))⟩ ?_
          exact tf_ret ftX11_slipAt hR rfl ⟨by decide, by decide⟩ rfl rfl (by unfold tf_sl tf_dn; rw [hd, if_neg (by rintro ⟨-, -, -, h⟩; exact h c2)]; rfl)
        · refine tf_go hx ftX11_slipAt 3 [false] 105 [some (.ref o), some (.int (nI p)), some (.int (nI k))] [.int (nI p)] S rfl ⟨by decide, by decide, rfl⟩ ⟨trivial, (tf_eqF (a := (f (184 + p))) (b := 26) rfl (rfl : (26 : Int32) = nI 26) (by have := hb (184 + p); omega) (by have := hb (184 + p); omega) (by have := hb (184 + p); omega))⟩ ?_
          exact tf_ret ftX11_slipAt hR rfl ⟨by decide, by decide⟩ rfl rfl (by unfold tf_sl tf_dn; rw [hd, if_pos ⟨c1, hp, by omega, c2⟩, tf_on_y (by omega)]; rfl)
      | succ m ih =>
        intro k hk hpk he
        refine tf_go hx ftX11_slipAt 5 [] 36 [some (.ref o), some (.int (nI p)), some (.int (nI k))] [.int (S (tf_rf G o 1) (Int32.toNatClampNeg 364)), .int (nI k)] S rfl ⟨by decide, by decide, rfl⟩ ⟨⟨trivial, ⟨by first | assumption | rfl | decide | omega, by first | assumption | rfl | decide | omega⟩⟩, ⟨Or.inl (by first | assumption | rfl | decide | omega), by first | assumption | exact tf_in (n := 364) (rfl : (364 : Int32) = nI 364) (by first | assumption | rfl) (by omega) (by decide)⟩⟩ ?_
        rw [show (S (tf_rf G o 1) (Int32.toNatClampNeg 364)) = nI (f 364) from (tf_rd hs (rfl : (364 : Int32) = nI 364) (by omega))]
        refine tf_go hx ftX11_slipAt 1 [false] 39 [some (.ref o), some (.int (nI p)), some (.int (nI k))] [] S rfl ⟨by decide, by decide, rfl⟩ ⟨trivial, (tf_leF (a := (f 364)) (b := k) rfl rfl (by have := hb 364; omega) (by have := hb 364; omega) (by have := hb 364; omega))⟩ ?_
        refine tf_go hx ftX11_slipAt 12 [] 59 [some (.ref o), some (.int (nI p)), some (.int (nI k))] [.int (S (tf_rf G o 1) (Int32.toNatClampNeg (184 + (nI k)))), .int (S (tf_rf G o 1) (Int32.toNatClampNeg (144 + (nI k))))] S rfl ⟨by decide, by decide, rfl⟩ ⟨⟨⟨⟨trivial, ⟨by first | assumption | rfl | decide | omega, by first | assumption | rfl | decide | omega⟩⟩, ⟨Or.inl (by first | assumption | rfl | decide | omega), by first | assumption | exact tf_in (n := (144 + k)) (tf_add (rfl : (144 : Int32) = nI 144) rfl) (by first | assumption | rfl) (by omega) (by decide)⟩⟩, ⟨by first | assumption | rfl | decide | omega, by first | assumption | rfl | decide | omega⟩⟩, ⟨Or.inl (by first | assumption | rfl | decide | omega), by first | assumption | exact tf_in (n := (184 + k)) (tf_add (rfl : (184 : Int32) = nI 184) rfl) (by first | assumption | rfl) (by omega) (by decide)⟩⟩ ?_
        rw [show (S (tf_rf G o 1) (Int32.toNatClampNeg (184 + (nI k)))) = nI (f (184 + k)) from (tf_rd hs (tf_add (rfl : (184 : Int32) = nI 184) rfl) (by omega))]
        rw [show (S (tf_rf G o 1) (Int32.toNatClampNeg (144 + (nI k)))) = nI (f (144 + k)) from (tf_rd hs (tf_add (rfl : (144 : Int32) = nI 144) rfl) (by omega))]
        by_cases c2 : f (144 + k) = f (184 + k)
        · refine tf_go hx ftX11_slipAt 4 [false] 27 [some (.ref o), some (.int (nI p)), some (.int ((nI k) + 1))] [] S rfl ⟨by decide, by decide, rfl⟩ ⟨trivial, (tf_neF (a := (f (144 + k))) (b := (f (184 + k))) rfl rfl (by have := hb (144 + k); have := hb (184 + k); omega))⟩ ?_
          rw [show ((nI k) + 1) = nI (k + 1) from (tf_add rfl (rfl : (1 : Int32) = nI 1))]
          exact ih (k + 1) (by omega) (by omega) (by rw [← he, tf_fst_n (by unfold tf_df; simpa using c2)])
        · refine tf_go hx ftX11_slipAt 1 [true] 65 [some (.ref o), some (.int (nI p)), some (.int (nI k))] [] S rfl ⟨by decide, by decide, rfl⟩ ⟨trivial, (tf_eqF (a := (f (144 + k))) (b := (f (184 + k))) rfl rfl (by have := hb (144 + k); have := hb (184 + k); omega) (by have := hb (144 + k); have := hb (184 + k); omega) (by have := hb (144 + k); have := hb (184 + k); omega))⟩ ?_
          refine tf_go hx ftX11_slipAt 1 [] 66 [some (.ref o), some (.int (nI p)), some (.int (nI k))] [.int (nI p)] S rfl ⟨by decide, by decide, rfl⟩ trivial ?_
          refine tf_go hx ftX11_slipAt 2 [false] 71 [some (.ref o), some (.int (nI p)), some (.int (nI k))] [.int (-9)] S rfl ⟨by decide, by decide, rfl⟩ ⟨trivial, (tf_ltF (a := p) (b := 0) rfl (rfl : (0 : Int32) = nI 0) (by omega) (by omega) (by omega))⟩ ?_
          exact tf_ret ftX11_slipAt hR rfl ⟨by decide, by decide⟩ rfl rfl (by rw [tf_fst_y (by unfold tf_df; simpa using c2)] at he; unfold tf_sl tf_dn; rw [hd, if_neg (by rintro ⟨-, -, h, -⟩; omega)]; rfl)
    have loop : ∀ (m k : Nat), k + m = (f 364) → (tf_fst (tf_df f) m k = tf_fst (tf_df f) (f 364) 0) → tf_K x 0 0 G S 27 [some (.ref o), some (.int (-9)), some (.int (nI k))] [] := by
      intro m
      induction m with
      | zero =>
        intro k hk he
        rw [tf_fst_0] at he
        refine tf_go hx ftX11_slipAt 5 [] 36 [some (.ref o), some (.int (-9)), some (.int (nI k))] [.int (S (tf_rf G o 1) (Int32.toNatClampNeg 364)), .int (nI k)] S rfl ⟨by decide, by decide, rfl⟩ ⟨⟨trivial, ⟨by first | assumption | rfl | decide | omega, by first | assumption | rfl | decide | omega⟩⟩, ⟨Or.inl (by first | assumption | rfl | decide | omega), by first | assumption | exact tf_in (n := 364) (rfl : (364 : Int32) = nI 364) (by first | assumption | rfl) (by omega) (by decide)⟩⟩ ?_
        rw [show (S (tf_rf G o 1) (Int32.toNatClampNeg 364)) = nI (f 364) from (tf_rd hs (rfl : (364 : Int32) = nI 364) (by omega))]
        refine tf_go hx ftX11_slipAt 1 [true] 80 [some (.ref o), some (.int (-9)), some (.int (nI k))] [] S rfl ⟨by decide, by decide, rfl⟩ ⟨trivial, (tf_leT (a := (f 364)) (b := k) rfl rfl (by have := hb 364; omega) (by have := hb 364; omega) (by have := hb 364; omega))⟩ ?_
        refine tf_go hx ftX11_slipAt 1 [] 81 [some (.ref o), some (.int (-9)), some (.int (nI k))] [.int (-9)] S rfl ⟨by decide, by decide, rfl⟩ trivial ?_
        refine tf_go hx ftX11_slipAt 2 [true] 105 [some (.ref o), some (.int (-9)), some (.int (nI k))] [.int (-9)] S rfl ⟨by decide, by decide, rfl⟩ ⟨trivial, (by decide)⟩ ?_
        exact tf_ret ftX11_slipAt hR rfl ⟨by decide, by decide⟩ rfl rfl (by unfold tf_sl tf_dn; rw [← he, if_neg (by rintro ⟨-, h, -⟩; omega)]; rfl)
      | succ m ih =>
        intro k hk he
        refine tf_go hx ftX11_slipAt 5 [] 36 [some (.ref o), some (.int (-9)), some (.int (nI k))] [.int (S (tf_rf G o 1) (Int32.toNatClampNeg 364)), .int (nI k)] S rfl ⟨by decide, by decide, rfl⟩ ⟨⟨trivial, ⟨by first | assumption | rfl | decide | omega, by first | assumption | rfl | decide | omega⟩⟩, ⟨Or.inl (by first | assumption | rfl | decide | omega), by first | assumption | exact tf_in (n := 364) (rfl : (364 : Int32) = nI 364) (by first | assumption | rfl) (by omega) (by decide)⟩⟩ ?_
        rw [show (S (tf_rf G o 1) (Int32.toNatClampNeg 364)) = nI (f 364) from (tf_rd hs (rfl : (364 : Int32) = nI 364) (by omega))]
        refine tf_go hx ftX11_slipAt 1 [false] 39 [some (.ref o), some (.int (-9)), some (.int (nI k))] [] S rfl ⟨by decide, by decide, rfl⟩ ⟨trivial, (tf_leF (a := (f 364)) (b := k) rfl rfl (by have := hb 364; omega) (by have := hb 364; omega) (by have := hb 364; omega))⟩ ?_
        refine tf_go hx ftX11_slipAt 12 [] 59 [some (.ref o), some (.int (-9)), some (.int (nI k))] [.int (S (tf_rf G o 1) (Int32.toNatClampNeg (184 + (nI k)))), .int (S (tf_rf G o 1) (Int32.toNatClampNeg (144 + (nI k))))] S rfl ⟨by decide, by decide, rfl⟩ ⟨⟨⟨⟨trivial, ⟨by first | assumption | rfl | decide | omega, by first | assumption | rfl | decide | omega⟩⟩, ⟨Or.inl (by first | assumption | rfl | decide | omega), by first | assumption | exact tf_in (n := (144 + k)) (tf_add (rfl : (144 : Int32) = nI 144) rfl) (by first | assumption | rfl) (by omega) (by decide)⟩⟩, ⟨by first | assumption | rfl | decide | omega, by first | assumption | rfl | decide | omega⟩⟩, ⟨Or.inl (by first | assumption | rfl | decide | omega), by first | assumption | exact tf_in (n := (184 + k)) (tf_add (rfl : (184 : Int32) = nI 184) rfl) (by first | assumption | rfl) (by omega) (by decide)⟩⟩ ?_
        rw [show (S (tf_rf G o 1) (Int32.toNatClampNeg (184 + (nI k)))) = nI (f (184 + k)) from (tf_rd hs (tf_add (rfl : (184 : Int32) = nI 184) rfl) (by omega))]
        rw [show (S (tf_rf G o 1) (Int32.toNatClampNeg (144 + (nI k)))) = nI (f (144 + k)) from (tf_rd hs (tf_add (rfl : (144 : Int32) = nI 144) rfl) (by omega))]
        by_cases c2 : f (144 + k) = f (184 + k)
        · refine tf_go hx ftX11_slipAt 4 [false] 27 [some (.ref o), some (.int (-9)), some (.int ((nI k) + 1))] [] S rfl ⟨by decide, by decide, rfl⟩ ⟨trivial, (tf_neF (a := (f (144 + k))) (b := (f (184 + k))) rfl rfl (by have := hb (144 + k); have := hb (184 + k); omega))⟩ ?_
          rw [show ((nI k) + 1) = nI (k + 1) from (tf_add rfl (rfl : (1 : Int32) = nI 1))]
          exact ih (k + 1) (by omega) (by rw [← he, tf_fst_n (by unfold tf_df; simpa using c2)])
        · rw [tf_fst_y (by unfold tf_df; simpa using c2)] at he
          refine tf_go hx ftX11_slipAt 1 [true] 65 [some (.ref o), some (.int (-9)), some (.int (nI k))] [] S rfl ⟨by decide, by decide, rfl⟩ ⟨trivial, (tf_eqF (a := (f (144 + k))) (b := (f (184 + k))) rfl rfl (by have := hb (144 + k); have := hb (184 + k); omega) (by have := hb (144 + k); have := hb (184 + k); omega) (by have := hb (144 + k); have := hb (184 + k); omega))⟩ ?_
          refine tf_go hx ftX11_slipAt 1 [] 66 [some (.ref o), some (.int (-9)), some (.int (nI k))] [.int (-9)] S rfl ⟨by decide, by decide, rfl⟩ trivial ?_
          refine tf_go hx ftX11_slipAt 5 [true] 27 [some (.ref o), some (.int (nI k)), some (.int ((nI k) + 1))] [] S rfl ⟨by decide, by decide, rfl⟩ ⟨trivial, (by decide)⟩ ?_
          rw [show ((nI k) + 1) = nI (k + 1) from (tf_add rfl (rfl : (1 : Int32) = nI 1))]
          exact second k (by omega) he.symm m (k + 1) (by omega) (by omega) (by rw [show f 364 - (k + 1) = m by omega])
    exact loop (f 364) 0 (by omega) rfl
  · refine tf_go hx ftX11_slipAt 2 [false] 21 [some (.ref o), none, none] [.int (-9)] S rfl ⟨by decide, by decide, rfl⟩ ⟨trivial, (tf_eqF (a := (f 365)) (b := (f 364)) rfl rfl (by have := hb 365; have := hb 364; omega) (by have := hb 365; have := hb 364; omega) (by have := hb 365; have := hb 364; omega))⟩ ?_
    exact tf_ret ftX11_slipAt hR rfl ⟨by decide, by decide⟩ rfl rfl (by unfold tf_sl; rw [if_neg (by rintro ⟨h, -⟩; exact c1 h)]; rfl)

set_option maxHeartbeats 1000000 in
theorem m_swapAt {G : tf_G} {S : tf_Sg} {o : Nat} {f : Nat → Nat} (ho : tf_mo G o) (hf : tf_sf G S o f) (hg : tf_gd f) : tf_Fn mX11_swapAt 1 0 0 G S [.ref o] G S (some (.int (tf_on 41 (tf_sw f)))) := by
  obtain ⟨h1, ⟨r0, t0, n0⟩, ⟨r1, t1, n1⟩, ⟨r2, t2, n2⟩, ⟨r4, t4, n4⟩⟩ := id ho
  obtain ⟨hs, hb⟩ := id hf
  obtain ⟨⟨g1, g2, g3, g4⟩, g5, g6, g7, g8, g9, g10, g11⟩ := id hg
  refine tf_Fn_of (own := RX11) false ⟨by decide, rfl, by decide⟩ (Nat.le_of_ble_eq_true rfl) trivial (fun x hx hR => ?_)
  show tf_K x 0 0 G S 0 [some (.ref o), none, none] []
  refine tf_go hx ftX11_swapAt 8 [] 16 [some (.ref o), none, none] [.int (S (tf_rf G o 1) (Int32.toNatClampNeg 364)), .int (S (tf_rf G o 1) (Int32.toNatClampNeg 365))] S rfl ⟨by decide, by decide, rfl⟩ ⟨⟨⟨⟨trivial, ⟨by first | assumption | rfl | decide | omega, by first | assumption | rfl | decide | omega⟩⟩, ⟨Or.inl (by first | assumption | rfl | decide | omega), by first | assumption | exact tf_in (n := 365) (rfl : (365 : Int32) = nI 365) (by first | assumption | rfl) (by omega) (by decide)⟩⟩, ⟨by first | assumption | rfl | decide | omega, by first | assumption | rfl | decide | omega⟩⟩, ⟨Or.inl (by first | assumption | rfl | decide | omega), by first | assumption | exact tf_in (n := 364) (rfl : (364 : Int32) = nI 364) (by first | assumption | rfl) (by omega) (by decide)⟩⟩ ?_
  rw [show (S (tf_rf G o 1) (Int32.toNatClampNeg 364)) = nI (f 364) from (tf_rd hs (rfl : (364 : Int32) = nI 364) (by omega))]
  rw [show (S (tf_rf G o 1) (Int32.toNatClampNeg 365)) = nI (f 365) from (tf_rd hs (rfl : (365 : Int32) = nI 365) (by omega))]
  by_cases c1 : f 365 = f 364
  · refine tf_go hx ftX11_swapAt 1 [true] 22 [some (.ref o), none, none] [] S rfl ⟨by decide, by decide, rfl⟩ ⟨trivial, (tf_eqT (a := (f 365)) (b := (f 364)) rfl rfl (by have := hb 365; have := hb 364; omega))⟩ ?_
    refine tf_go hx ftX11_swapAt 2 [] 24 [some (.ref o), some (.int 0), none] [] S rfl ⟨by decide, by decide, rfl⟩ trivial ?_
    have p0 := tf_fst_le (tf_df f) (f 364) 0
    have hp : tf_fst (tf_df f) (f 364) 0 = tf_dn f (f 364) := rfl
    rw [hp] at p0
    generalize hP : tf_dn f (f 364) = p at *
    have tail : tf_K x 0 0 G S 65 [some (.ref o), some (.int (nI p)), none] [] := by
      refine tf_go hx ftX11_swapAt 7 [] 76 [some (.ref o), some (.int (nI p)), none] [.int (S (tf_rf G o 1) (Int32.toNatClampNeg 364)), .int ((nI p) + 1)] S rfl ⟨by decide, by decide, rfl⟩ ⟨⟨trivial, ⟨by first | assumption | rfl | decide | omega, by first | assumption | rfl | decide | omega⟩⟩, ⟨Or.inl (by first | assumption | rfl | decide | omega), by first | assumption | exact tf_in (n := 364) (rfl : (364 : Int32) = nI 364) (by first | assumption | rfl) (by omega) (by decide)⟩⟩ ?_
      rw [show (S (tf_rf G o 1) (Int32.toNatClampNeg 364)) = nI (f 364) from (tf_rd hs (rfl : (364 : Int32) = nI 364) (by omega))]
      rw [show ((nI p) + 1) = nI (p + 1) from (tf_add rfl (rfl : (1 : Int32) = nI 1))]
      by_cases c2 : p + 1 < f 364
      · refine tf_go hx ftX11_swapAt 1 [false] 79 [some (.ref o), some (.int (nI p)), none] [] S rfl ⟨by decide, by decide, rfl⟩ ⟨trivial, (tf_leF (a := (f 364)) (b := (p + 1)) rfl rfl (by have := hb 364; omega) (by have := hb 364; omega) (by have := hb 364; omega))⟩ ?_
        refine tf_go hx ftX11_swapAt 14 [] 101 [some (.ref o), some (.int (nI p)), none] [.int (S (tf_rf G o 1) (Int32.toNatClampNeg ((184 + (nI p)) + 1))), .int (S (tf_rf G o 1) (Int32.toNatClampNeg (144 + (nI p))))] S rfl ⟨by decide, by decide, rfl⟩ ⟨⟨⟨⟨trivial, ⟨by first | assumption | rfl | decide | omega, by first | assumption | rfl | decide | omega⟩⟩, ⟨Or.inl (by first | assumption | rfl | decide | omega), by first | assumption | exact tf_in (n := (144 + p)) (tf_add (rfl : (144 : Int32) = nI 144) rfl) (by first | assumption | rfl) (by omega) (by decide)⟩⟩, ⟨by first | assumption | rfl | decide | omega, by first | assumption | rfl | decide | omega⟩⟩, ⟨Or.inl (by first | assumption | rfl | decide | omega), by first | assumption | exact tf_in (n := ((184 + p) + 1)) (tf_add (tf_add (rfl : (184 : Int32) = nI 184) rfl) (rfl : (1 : Int32) = nI 1)) (by first | assumption | rfl) (by omega) (by decide)⟩⟩ ?_
        rw [show (S (tf_rf G o 1) (Int32.toNatClampNeg ((184 + (nI p)) + 1))) = nI (f ((184 + p) + 1)) from (tf_rd hs (tf_add (tf_add (rfl : (184 : Int32) = nI 184) rfl) (rfl : (1 : Int32) = nI 1)) (by omega))]
        rw [show (S (tf_rf G o 1) (Int32.toNatClampNeg (144 + (nI p)))) = nI (f (144 + p)) from (tf_rd hs (tf_add (rfl : (144 : Int32) = nI 144) rfl) (by omega))]
        by_cases c3 : f (144 + p) = f (184 + p + 1)
        · refine tf_go hx ftX11_swapAt 1 [false] 104 [some (.ref o), some (.int (nI p)), none] [] S rfl ⟨by decide, by decide, rfl⟩ ⟨trivial, (tf_neF (a := (f (144 + p))) (b := (f ((184 + p) + 1))) rfl rfl (by have := hb (144 + p); have := hb ((184 + p) + 1); omega))⟩ ?_
          refine tf_go hx ftX11_swapAt 14 [] 126 [some (.ref o), some (.int (nI p)), none] [.int (S (tf_rf G o 1) (Int32.toNatClampNeg (184 + (nI p)))), .int (S (tf_rf G o 1) (Int32.toNatClampNeg ((144 + (nI p)) + 1)))] S rfl ⟨by decide, by decide, rfl⟩ ⟨⟨⟨⟨trivial, ⟨by first | assumption | rfl | decide | omega, by first | assumption | rfl | decide | omega⟩⟩, ⟨Or.inl (by first | assumption | rfl | decide | omega), by first | assumption | exact tf_in (n := ((144 + p) + 1)) (tf_add (tf_add (rfl : (144 : Int32) = nI 144) rfl) (rfl : (1 : Int32) = nI 1)) (by first | assumption | rfl) (by omega) (by decide)⟩⟩, ⟨by first | assumption | rfl | decide | omega, by first | assumption | rfl | decide | omega⟩⟩, ⟨Or.inl (by first | assumption | rfl | decide | omega), by first | assumption | exact tf_in (n := (184 + p)) (tf_add (rfl : (184 : Int32) = nI 184) rfl) (by first | assumption | rfl) (by omega) (by decide)⟩⟩ ?_
          rw [show (S (tf_rf G o 1) (Int32.toNatClampNeg (184 + (nI p)))) = nI (f (184 + p)) from (tf_rd hs (tf_add (rfl : (184 : Int32) = nI 184) rfl) (by omega))]
          rw [show (S (tf_rf G o 1) (Int32.toNatClampNeg ((144 + (nI p)) + 1))) = nI (f ((144 + p) + 1)) from (tf_rd hs (tf_add (tf_add (rfl : (144 : Int32) = nI 144) rfl) (rfl : (1 : Int32) = nI 1)) (by omega))]
          by_cases c4 : f (144 + p + 1) = f (184 + p)
          · refine tf_go hx ftX11_swapAt 5 [true] 136 [some (.ref o), some (.int (nI p)), some (.int ((nI p) + 2))] [] S rfl ⟨by decide, by decide, rfl⟩ ⟨trivial, (tf_eqT (a := (f ((144 + p) + 1))) (b := (f (184 + p))) rfl rfl (by have := hb ((144 + p) + 1); have := hb (184 + p); omega))⟩ ?_
            rw [show ((nI p) + 2) = nI (p + 2) from (tf_add rfl (rfl : (2 : Int32) = nI 2))]
            have third : ∀ (m k : Nat), k + m = (f 364) → (tf_fst (tf_df f) m k = tf_fst (tf_df f) (f 364 - (p + 2)) (p + 2)) → tf_K x 0 0 G S 136 [some (.ref o), some (.int (nI p)), some (.int (nI k))] [] := by
              intro m
              induction m with
              | zero =>
                intro k hk he
                rw [tf_fst_0] at he
                refine tf_go hx ftX11_swapAt 5 [] 145 [some (.ref o), some (.int (nI p)), some (.int (nI k))] [.int (S (tf_rf G o 1) (Int32.toNatClampNeg 364)), .int (nI k)] S rfl ⟨by decide, by decide, rfl⟩ ⟨⟨trivial, ⟨by first | assumption | rfl | decide | omega, by first | assumption | rfl | decide | omega⟩⟩, ⟨Or.inl (by first | assumption | rfl | decide | omega), by first | assumption | exact tf_in (n := 364) (rfl : (364 : Int32) = nI 364) (by first | assumption | rfl) (by omega) (by decide)⟩⟩ ?_
                rw [show (S (tf_rf G o 1) (Int32.toNatClampNeg 364)) = nI (f 364) from (tf_rd hs (rfl : (364 : Int32) = nI 364) (by omega))]
                refine tf_go hx ftX11_swapAt 2 [true] 181 [some (.ref o), some (.int (nI p)), some (.int (nI k))] [.int (nI p)] S rfl ⟨by decide, by decide, rfl⟩ ⟨trivial, (tf_leT (a := (f 364)) (b := k) rfl rfl (by have := hb 364; omega) (by have := hb 364; omega) (by have := hb 364; omega))⟩ ?_
                exact tf_ret ftX11_swapAt hR rfl ⟨by decide, by decide⟩ rfl rfl (by unfold tf_sw; rw [hP, if_pos ⟨c1, c2, c3, c4, by omega⟩, tf_on_y (by omega)]; rfl)
              | succ m ih =>
                intro k hk he
                refine tf_go hx ftX11_swapAt 5 [] 145 [some (.ref o), some (.int (nI p)), some (.int (nI k))] [.int (S (tf_rf G o 1) (Int32.toNatClampNeg 364)), .int (nI k)] S rfl ⟨by decide, by decide, rfl⟩ ⟨⟨trivial, ⟨by first | assumption | rfl | decide | omega, by first | assumption | rfl | decide | omega⟩⟩, ⟨Or.inl (by first | assumption | rfl | decide | omega), by first | assumption | exact tf_in (n := 364) (rfl : (364 : Int32) = nI 364) (by first | assumption | rfl) (by omega) (by decide)⟩⟩ ?_
                rw [show (S (tf_rf G o 1) (Int32.toNatClampNeg 364)) = nI (f 364) from (tf_rd hs (rfl : (364 : Int32) = nI 364) (by omega))]
                refine tf_go hx ftX11_swapAt 1 [false] 148 [some (.ref o), some (.int (nI p)), some (.int (nI k))] [] S rfl ⟨by decide, by decide, rfl⟩ ⟨trivial, (tf_leF (a := (f 364)) (b := k) rfl rfl (by have := hb 364; omega) (by have := hb 364; omega) (by have := hb 364; omega))⟩ ?_
                refine tf_go hx ftX11_swapAt 12 [] 168 [some (.ref o), some (.int (nI p)), some (.int (nI k))] [.int (S (tf_rf G o 1) (Int32.toNatClampNeg (184 + (nI k)))), .int (S (tf_rf G o 1) (Int32.toNatClampNeg (144 + (nI k))))] S rfl ⟨by decide, by decide, rfl⟩ ⟨⟨⟨⟨trivial, ⟨by first | assumption | rfl | decide | omega, by first | assumption | rfl | decide | omega⟩⟩, ⟨Or.inl (by first | assumption | rfl | decide | omega), by first | assumption | exact tf_in (n := (144 + k)) (tf_add (rfl : (144 : Int32) = nI 144) rfl) (by first | assumption | rfl) (by omega) (by decide)⟩⟩, ⟨by first | assumption | rfl | decide | omega, by first | assumption | rfl | decide | omega⟩⟩, ⟨Or.inl (by first | assumption | rfl | decide | omega), by first | assumption | exact tf_in (n := (184 + k)) (tf_add (rfl : (184 : Int32) = nI 184) rfl) (by first | assumption | rfl) (by omega) (by decide)⟩⟩ ?_
                rw [show (S (tf_rf G o 1) (Int32.toNatClampNeg (184 + (nI k)))) = nI (f (184 + k)) from (tf_rd hs (tf_add (rfl : (184 : Int32) = nI 184) rfl) (by omega))]
                rw [show (S (tf_rf G o 1) (Int32.toNatClampNeg (144 + (nI k)))) = nI (f (144 + k)) from (tf_rd hs (tf_add (rfl : (144 : Int32) = nI 144) rfl) (by omega))]
                by_cases c5 : f (144 + k) = f (184 + k)
                · refine tf_go hx ftX11_swapAt 3 [true] 136 [some (.ref o), some (.int (nI p)), some (.int ((nI k) + 1))] [] S rfl ⟨by decide, by decide, rfl⟩ ⟨trivial, (tf_eqT (a := (f (144 + k))) (b := (f (184 + k))) rfl rfl (by have := hb (144 + k); have := hb (184 + k); omega))⟩ ?_
                  rw [show ((nI k) + 1) = nI (k + 1) from (tf_add rfl (rfl : (1 : Int32) = nI 1))]
                  exact ih (k + 1) (by omega) (by rw [← he, tf_fst_n (by unfold tf_df; simpa using c5)])
                · refine tf_go hx ftX11_swapAt 2 [false] 173 [some (.ref o), some (.int (nI p)), some (.int (nI k))] [.int (-9)] S rfl ⟨by decide, by decide, rfl⟩ ⟨trivial, (tf_eqF (a := (f (144 + k))) (b := (f (184 + k))) rfl rfl (by have := hb (144 + k); have := hb (184 + k); omega) (by have := hb (144 + k); have := hb (184 + k); omega) (by have := hb (144 + k); have := hb (184 + k); omega))⟩ ?_
                  exact tf_ret ftX11_swapAt hR rfl ⟨by decide, by decide⟩ rfl rfl (by rw [tf_fst_y (by unfold tf_df; simpa using c5)] at he; unfold tf_sw; rw [hP, if_neg (by rintro ⟨-, -, -, -, h⟩; omega)]; rfl)
            exact third (f 364 - (p + 2)) (p + 2) (by omega) rfl
          · refine tf_go hx ftX11_swapAt 2 [false] 131 [some (.ref o), some (.int (nI p)), none] [.int (-9)] S rfl ⟨by decide, by decide, rfl⟩ ⟨trivial, (tf_eqF (a := (f ((144 + p) + 1))) (b := (f (184 + p))) rfl rfl (by have := hb ((144 + p) + 1); have := hb (184 + p); omega) (by have := hb ((144 + p) + 1); have := hb (184 + p); omega) (by have := hb ((144 + p) + 1); have := hb (184 + p); omega))⟩ ?_
            exact tf_ret ftX11_swapAt hR rfl ⟨by decide, by decide⟩ rfl rfl (by unfold tf_sw; rw [hP, if_neg (by rintro ⟨-, -, -, h, -⟩; exact c4 h)]; rfl)
        · refine tf_go hx ftX11_swapAt 2 [true] 131 [some (.ref o), some (.int (nI p)), none] [.int (-9)] S rfl ⟨by decide, by decide, rfl⟩ ⟨trivial, (tf_eqF (a := (f (144 + p))) (b := (f ((184 + p) + 1))) rfl rfl (by have := hb (144 + p); have := hb ((184 + p) + 1); omega) (by have := hb (144 + p); have := hb ((184 + p) + 1); omega) (by have := hb (144 + p); have := hb ((184 + p) + 1); omega))⟩ ?_
          exact tf_ret ftX11_swapAt hR rfl ⟨by decide, by decide⟩ rfl rfl (by unfold tf_sw; rw [hP, if_neg (by rintro ⟨-, -, h, -⟩; exact c3 h)]; rfl)
      · refine tf_go hx ftX11_swapAt 2 [true] 131 [some (.ref o), some (.int (nI p)), none] [.int (-9)] S rfl ⟨by decide, by decide, rfl⟩ ⟨trivial, (tf_leT (a := (f 364)) (b := (p + 1)) rfl rfl (by have := hb 364; omega) (by have := hb 364; omega) (by have := hb 364; omega))⟩ ?_
        exact tf_ret ftX11_swapAt hR rfl ⟨by decide, by decide⟩ rfl rfl (by unfold tf_sw; rw [hP, if_neg (by rintro ⟨-, h, -⟩; exact c2 h)]; rfl)
    have loop : ∀ (m k : Nat), k + m = (f 364) → (tf_fst (tf_df f) m k = p) → tf_K x 0 0 G S 24 [some (.ref o), some (.int (nI k)), none] [] := by
      intro m
      induction m with
      | zero =>
        intro k hk he
        rw [tf_fst_0] at he
        refine tf_go hx ftX11_swapAt 5 [] 33 [some (.ref o), some (.int (nI k)), none] [.int (S (tf_rf G o 1) (Int32.toNatClampNeg 364)), .int (nI k)] S rfl ⟨by decide, by decide, rfl⟩ ⟨⟨trivial, ⟨by first | assumption | rfl | decide | omega, by first | assumption | rfl | decide | omega⟩⟩, ⟨Or.inl (by first | assumption | rfl | decide | omega), by first | assumption | exact tf_in (n := 364) (rfl : (364 : Int32) = nI 364) (by first | assumption | rfl) (by omega) (by decide)⟩⟩ ?_
        rw [show (S (tf_rf G o 1) (Int32.toNatClampNeg 364)) = nI (f 364) from (tf_rd hs (rfl : (364 : Int32) = nI 364) (by omega))]
        refine tf_go hx ftX11_swapAt 1 [true] 65 [some (.ref o), some (.int (nI k)), none] [] S rfl ⟨by decide, by decide, rfl⟩ ⟨trivial, (tf_leT (a := (f 364)) (b := k) rfl rfl (by have := hb 364; omega) (by have := hb 364; omega) (by have := hb 364; omega))⟩ ?_
        rw [show k = p by omega]
        exact tail
      | succ m ih =>
        intro k hk he
        refine tf_go hx ftX11_swapAt 5 [] 33 [some (.ref o), some (.int (nI k)), none] [.int (S (tf_rf G o 1) (Int32.toNatClampNeg 364)), .int (nI k)] S rfl ⟨by decide, by decide, rfl⟩ ⟨⟨trivial, ⟨by first | assumption | rfl | decide | omega, by first | assumption | rfl | decide | omega⟩⟩, ⟨Or.inl (by first | assumption | rfl | decide | omega), by first | assumption | exact tf_in (n := 364) (rfl : (364 : Int32) = nI 364) (by first | assumption | rfl) (by omega) (by decide)⟩⟩ ?_
        rw [show (S (tf_rf G o 1) (Int32.toNatClampNeg 364)) = nI (f 364) from (tf_rd hs (rfl : (364 : Int32) = nI 364) (by omega))]
        refine tf_go hx ftX11_swapAt 1 [false] 36 [some (.ref o), some (.int (nI k)), none] [] S rfl ⟨by decide, by decide, rfl⟩ ⟨trivial, (tf_leF (a := (f 364)) (b := k) rfl rfl (by have := hb 364; omega) (by have := hb 364; omega) (by have := hb 364; omega))⟩ ?_
        refine tf_go hx ftX11_swapAt 12 [] 56 [some (.ref o), some (.int (nI k)), none] [.int (S (tf_rf G o 1) (Int32.toNatClampNeg (184 + (nI k)))), .int (S (tf_rf G o 1) (Int32.toNatClampNeg (144 + (nI k))))] S rfl ⟨by decide, by decide, rfl⟩ ⟨⟨⟨⟨trivial, ⟨by first | assumption | rfl | decide | omega, by first | assumption | rfl | decide | omega⟩⟩, ⟨Or.inl (by first | assumption | rfl | decide | omega), by first | assumption | exact tf_in (n := (144 + k)) (tf_add (rfl : (144 : Int32) = nI 144) rfl) (by first | assumption | rfl) (by omega) (by decide)⟩⟩, ⟨by first | assumption | rfl | decide | omega, by first | assumption | rfl | decide | omega⟩⟩, ⟨Or.inl (by first | assumption | rfl | decide | omega), by first | assumption | exact tf_in (n := (184 + k)) (tf_add (rfl : (184 : Int32) = nI 184) rfl) (by first | assumption | rfl) (by omega) (by decide)⟩⟩ ?_
        rw [show (S (tf_rf G o 1) (Int32.toNatClampNeg (184 + (nI k)))) = nI (f (184 + k)) from (tf_rd hs (tf_add (rfl : (184 : Int32) = nI 184) rfl) (by omega))]
        rw [show (S (tf_rf G o 1) (Int32.toNatClampNeg (144 + (nI k)))) = nI (f (144 + k)) from (tf_rd hs (tf_add (rfl : (144 : Int32) = nI 144) rfl) (by omega))]
        by_cases c5 : f (144 + k) = f (184 + k)
        · refine tf_go hx ftX11_swapAt 3 [false] 24 [some (.ref o), some (.int ((nI k) + 1)), none] [] S rfl ⟨by decide, by decide, rfl⟩ ⟨trivial, (tf_neF (a := (f (144 + k))) (b := (f (184 + k))) rfl rfl (by have := hb (144 + k); have := hb (184 + k); omega))⟩ ?_
          rw [show ((nI k) + 1) = nI (k + 1) from (tf_add rfl (rfl : (1 : Int32) = nI 1))]
          exact ih (k + 1) (by omega) (by rw [← he, tf_fst_n (by unfold tf_df; simpa using c5)])
        · rw [tf_fst_y (by unfold tf_df; simpa using c5)] at he
          refine tf_go hx ftX11_swapAt 1 [true] 65 [some (.ref o), some (.int (nI k)), none] [] S rfl ⟨by decide, by decide, rfl⟩ ⟨trivial, (tf_eqF (a := (f (144 + k))) (b := (f (184 + k))) rfl rfl (by have := hb (144 + k); have := hb (184 + k); omega) (by have := hb (144 + k); have := hb (184 + k); omega) (by have := hb (144 + k); have := hb (184 + k); omega))⟩ ?_
          rw [show k = p by omega]
          exact tail
    exact loop (f 364) 0 (by omega) hp
  · refine tf_go hx ftX11_swapAt 2 [false] 21 [some (.ref o), none, none] [.int (-9)] S rfl ⟨by decide, by decide, rfl⟩ ⟨trivial, (tf_eqF (a := (f 365)) (b := (f 364)) rfl rfl (by have := hb 365; have := hb 364; omega) (by have := hb 365; have := hb 364; omega) (by have := hb 365; have := hb 364; omega))⟩ ?_
    exact tf_ret ftX11_swapAt hR rfl ⟨by decide, by decide⟩ rfl rfl (by unfold tf_sw; rw [if_neg (by rintro ⟨h, -⟩; exact c1 h)]; rfl)

set_option maxHeartbeats 1000000 in
theorem m_doubleAt {G : tf_G} {S : tf_Sg} {o : Nat} {f : Nat → Nat} (ho : tf_mo G o) (hf : tf_sf G S o f) (hg : tf_gd f) : tf_Fn mX11_doubleAt 2 0 0 G S [.ref o] G S (some (.int (tf_on 41 (tf_do f)))) := by
  obtain ⟨h1, ⟨r0, t0, n0⟩, ⟨r1, t1, n1⟩, ⟨r2, t2, n2⟩, ⟨r4, t4, n4⟩⟩ := id ho
  obtain ⟨hs, hb⟩ := id hf
  obtain ⟨⟨g1, g2, g3, g4⟩, g5, g6, g7, g8, g9, g10, g11⟩ := id hg
  refine tf_Fn_of (own := RX11) false ⟨by decide, rfl, by decide⟩ (Nat.le_of_ble_eq_true rfl) trivial (fun x hx hR => ?_)
  show tf_K x 0 0 G S 0 [some (.ref o), none, none, none, none, none] []
  refine tf_go hx ftX11_doubleAt 1 [] 1 [some (.ref o), none, none, none, none, none] [.ref o] S rfl ⟨by decide, by decide, rfl⟩ trivial ?_
  refine tf_cV hx ftX11_doubleAt (nx := 4) (As := []) (rest := []) (st2 := [.int (tf_on 41 (tf_sl f))]) (m_slipAt ho hf hg) rfl lX11_95 (by first | assumption | rfl | decide) rfl ⟨rfl, by decide, by decide, by decide, rfl, rfl⟩ ?_
  by_cases c1 : tf_sl f < 41
  · rw [tf_on_y c1]
    obtain ⟨l1, l2, l3, l4⟩ := tf_sl_le c1
    clear l3
    have un : ∀ (q : Nat), tf_do f = q ↔ tf_do f = q := fun _ => Iff.rfl
    unfold tf_do at hR
    generalize hq : tf_sl f = p at *
    refine tf_go hx ftX11_doubleAt 3 [] 7 [some (.ref o), some (.int (nI p)), none, none, none, none] [.int 1, .int (nI p)] S rfl ⟨by decide, by decide, rfl⟩ trivial ?_
    by_cases c2 : p < 1
    · refine tf_go hx ftX11_doubleAt 2 [true] 26 [some (.ref o), some (.int (nI p)), none, none, none, none] [.int (-9)] S rfl ⟨by decide, by decide, rfl⟩ ⟨trivial, (tf_ltT (a := p) (b := 1) rfl (rfl : (1 : Int32) = nI 1) (by omega) (by omega) (by omega))⟩ ?_
      exact tf_ret ftX11_doubleAt hR rfl ⟨by decide, by decide⟩ rfl rfl (by rw [if_neg (by rintro ⟨-, h, -⟩; omega)]; rfl)
    · refine tf_go hx ftX11_doubleAt 1 [false] 10 [some (.ref o), some (.int (nI p)), none, none, none, none] [] S rfl ⟨by decide, by decide, rfl⟩ ⟨trivial, (tf_ltF (a := p) (b := 1) rfl (rfl : (1 : Int32) = nI 1) (by omega) (by omega) (by omega))⟩ ?_
      refine tf_go hx ftX11_doubleAt 7 [] 21 [some (.ref o), some (.int (nI p)), none, none, none, none] [.int (S (tf_rf G o 1) (Int32.toNatClampNeg 364)), .int ((nI p) + 1)] S rfl ⟨by decide, by decide, rfl⟩ ⟨⟨trivial, ⟨by first | assumption | rfl | decide | omega, by first | assumption | rfl | decide | omega⟩⟩, ⟨Or.inl (by first | assumption | rfl | decide | omega), by first | assumption | exact tf_in (n := 364) (rfl : (364 : Int32) = nI 364) (by first | assumption | rfl) (by omega) (by decide)⟩⟩ ?_
      rw [show (S (tf_rf G o 1) (Int32.toNatClampNeg 364)) = nI (f 364) from (tf_rd hs (rfl : (364 : Int32) = nI 364) (by omega))]
      rw [show ((nI p) + 1) = nI (p + 1) from (tf_add rfl (rfl : (1 : Int32) = nI 1))]
      by_cases c3 : p + 1 < f 364
      · refine tf_go hx ftX11_doubleAt 1 [true] 27 [some (.ref o), some (.int (nI p)), none, none, none, none] [] S rfl ⟨by decide, by decide, rfl⟩ ⟨trivial, (tf_ltT (a := (p + 1)) (b := (f 364)) rfl rfl (by have := hb 364; omega) (by have := hb 364; omega) (by have := hb 364; omega))⟩ ?_
        refine tf_go hx ftX11_doubleAt 34 [] 79 [some (.ref o), some (.int (nI p)), some (.int (S (tf_rf G o 1) (Int32.toNatClampNeg ((144 + (nI p)) - 1)))), some (.int (S (tf_rf G o 1) (Int32.toNatClampNeg (144 + (nI p))))), some (.int (S (tf_rf G o 1) (Int32.toNatClampNeg ((144 + (nI p)) + 1)))), some (.int (S (tf_rf G o 1) (Int32.toNatClampNeg (184 + (nI p)))))] [.int (S (tf_rf G o 1) (Int32.toNatClampNeg ((144 + (nI p)) - 1))), .int (S (tf_rf G o 1) (Int32.toNatClampNeg (144 + (nI p))))] S rfl ⟨by decide, by decide, rfl⟩ ⟨⟨⟨⟨⟨⟨⟨⟨trivial, ⟨by first | assumption | rfl | decide | omega, by first | assumption | rfl | decide | omega⟩⟩, ⟨Or.inl (by first | assumption | rfl | decide | omega), by first | assumption | exact tf_in (n := ((144 + p) - 1)) (tf_sub (tf_add (rfl : (144 : Int32) = nI 144) rfl) (rfl : (1 : Int32) = nI 1) (by omega)) (by first | assumption | rfl) (by omega) (by decide)⟩⟩, ⟨by first | assumption | rfl | decide | omega, by first | assumption | rfl | decide | omega⟩⟩, ⟨Or.inl (by first | assumption | rfl | decide | omega), by first | assumption | exact tf_in (n := (144 + p)) (tf_add (rfl : (144 : Int32) = nI 144) rfl) (by first | assumption | rfl) (by omega) (by decide)⟩⟩, ⟨by first | assumption | rfl | decide | omega, by first | assumption | rfl | decide | omega⟩⟩, ⟨Or.inl (by first | assumption | rfl | decide | omega), by first | assumption | exact tf_in (n := ((144 + p) + 1)) (tf_add (tf_add (rfl : (144 : Int32) = nI 144) rfl) (rfl : (1 : Int32) = nI 1)) (by first | assumption | rfl) (by omega) (by decide)⟩⟩, ⟨by first | assumption | rfl | decide | omega, by first | assumption | rfl | decide | omega⟩⟩, ⟨Or.inl (by first | assumption | rfl | decide | omega), by first | assumption | exact tf_in (n := (184 + p)) (tf_add (rfl : (184 : Int32) = nI 184) rfl) (by first | assumption | rfl) (by omega) (by decide)⟩⟩ ?_
        rw [show (S (tf_rf G o 1) (Int32.toNatClampNeg ((144 + (nI p)) - 1))) = nI (f ((144 + p) - 1)) from (tf_rd hs (tf_sub (tf_add (rfl : (144 : Int32) = nI 144) rfl) (rfl : (1 : Int32) = nI 1) (by omega)) (by omega))]
        rw [show (S (tf_rf G o 1) (Int32.toNatClampNeg (144 + (nI p)))) = nI (f (144 + p)) from (tf_rd hs (tf_add (rfl : (144 : Int32) = nI 144) rfl) (by omega))]
        rw [show (S (tf_rf G o 1) (Int32.toNatClampNeg ((144 + (nI p)) + 1))) = nI (f ((144 + p) + 1)) from (tf_rd hs (tf_add (tf_add (rfl : (144 : Int32) = nI 144) rfl) (rfl : (1 : Int32) = nI 1)) (by omega))]
        rw [show (S (tf_rf G o 1) (Int32.toNatClampNeg (184 + (nI p)))) = nI (f (184 + p)) from (tf_rd hs (tf_add (rfl : (184 : Int32) = nI 184) rfl) (by omega))]
        by_cases e1 : f (144 + p) = f (144 + p - 1)
        · refine tf_go hx ftX11_doubleAt 1 [false] 82 [some (.ref o), some (.int (nI p)), some (.int (nI (f ((144 + p) - 1)))), some (.int (nI (f (144 + p)))), some (.int (nI (f ((144 + p) + 1)))), some (.int (nI (f (184 + p))))] [] S rfl ⟨by decide, by decide, rfl⟩ ⟨trivial, (tf_neF (a := (f (144 + p))) (b := (f ((144 + p) - 1))) rfl rfl (by have := hb (144 + p); have := hb ((144 + p) - 1); omega))⟩ ?_
          refine tf_go hx ftX11_doubleAt 2 [] 86 [some (.ref o), some (.int (nI p)), some (.int (nI (f ((144 + p) - 1)))), some (.int (nI (f (144 + p)))), some (.int (nI (f ((144 + p) + 1)))), some (.int (nI (f (184 + p))))] [.int (nI (f ((144 + p) + 1))), .int (nI (f (184 + p)))] S rfl ⟨by decide, by decide, rfl⟩ trivial ?_
          by_cases e2 : f (184 + p) = f (144 + p + 1)
          · refine tf_go hx ftX11_doubleAt 1 [false] 89 [some (.ref o), some (.int (nI p)), some (.int (nI (f ((144 + p) - 1)))), some (.int (nI (f (144 + p)))), some (.int (nI (f ((144 + p) + 1)))), some (.int (nI (f (184 + p))))] [] S rfl ⟨by decide, by decide, rfl⟩ ⟨trivial, (tf_neF (a := (f (184 + p))) (b := (f ((144 + p) + 1))) rfl rfl (by have := hb (184 + p); have := hb ((144 + p) + 1); omega))⟩ ?_
            refine tf_go hx ftX11_doubleAt 2 [] 92 [some (.ref o), some (.int (nI p)), some (.int (nI (f ((144 + p) - 1)))), some (.int (nI (f (144 + p)))), some (.int (nI (f ((144 + p) + 1)))), some (.int (nI (f (184 + p))))] [.int (nI (f ((144 + p) + 1))), .int (nI (f ((144 + p) - 1)))] S rfl ⟨by decide, by decide, rfl⟩ trivial ?_
            by_cases e3 : f (144 + p - 1) = f (144 + p + 1)
            · refine tf_go hx ftX11_doubleAt 1 [false] 95 [some (.ref o), some (.int (nI p)), some (.int (nI (f ((144 + p) - 1)))), some (.int (nI (f (144 + p)))), some (.int (nI (f ((144 + p) + 1)))), some (.int (nI (f (184 + p))))] [] S rfl ⟨by decide, by decide, rfl⟩ ⟨trivial, (tf_neF (a := (f ((144 + p) - 1))) (b := (f ((144 + p) + 1))) rfl rfl (by have := hb ((144 + p) - 1); have := hb ((144 + p) + 1); omega))⟩ ?_
              refine tf_go hx ftX11_doubleAt 2 [] 98 [some (.ref o), some (.int (nI p)), some (.int (nI (f ((144 + p) - 1)))), some (.int (nI (f (144 + p)))), some (.int (nI (f ((144 + p) + 1)))), some (.int (nI (f (184 + p))))] [.int (nI (f ((144 + p) + 1))), .int (nI (f (144 + p)))] S rfl ⟨by decide, by decide, rfl⟩ trivial ?_
              by_cases d1 : f (144 + p) = f (144 + p + 1)
              · refine tf_go hx ftX11_doubleAt 1 [false] 101 [some (.ref o), some (.int (nI p)), some (.int (nI (f ((144 + p) - 1)))), some (.int (nI (f (144 + p)))), some (.int (nI (f ((144 + p) + 1)))), some (.int (nI (f (184 + p))))] [] S rfl ⟨by decide, by decide, rfl⟩ ⟨trivial, (tf_neF (a := (f (144 + p))) (b := (f ((144 + p) + 1))) rfl rfl (by have := hb (144 + p); have := hb ((144 + p) + 1); omega))⟩ ?_
                refine tf_go hx ftX11_doubleAt 2 [] 104 [some (.ref o), some (.int (nI p)), some (.int (nI (f ((144 + p) - 1)))), some (.int (nI (f (144 + p)))), some (.int (nI (f ((144 + p) + 1)))), some (.int (nI (f (184 + p))))] [.int (nI (f ((144 + p) - 1))), .int (nI (f (184 + p)))] S rfl ⟨by decide, by decide, rfl⟩ trivial ?_
                by_cases d2 : f (184 + p) = f (144 + p - 1)
                · refine tf_go hx ftX11_doubleAt 1 [false] 107 [some (.ref o), some (.int (nI p)), some (.int (nI (f ((144 + p) - 1)))), some (.int (nI (f (144 + p)))), some (.int (nI (f ((144 + p) + 1)))), some (.int (nI (f (184 + p))))] [] S rfl ⟨by decide, by decide, rfl⟩ ⟨trivial, (tf_neF (a := (f (184 + p))) (b := (f ((144 + p) - 1))) rfl rfl (by have := hb (184 + p); have := hb ((144 + p) - 1); omega))⟩ ?_
                  refine tf_go hx ftX11_doubleAt 2 [] 110 [some (.ref o), some (.int (nI p)), some (.int (nI (f ((144 + p) - 1)))), some (.int (nI (f (144 + p)))), some (.int (nI (f ((144 + p) + 1)))), some (.int (nI (f (184 + p))))] [.int (nI (f ((144 + p) + 1))), .int (nI (f ((144 + p) - 1)))] S rfl ⟨by decide, by decide, rfl⟩ trivial ?_
                  by_cases d3 : f (144 + p - 1) = f (144 + p + 1)
                  · refine tf_go hx ftX11_doubleAt 2 [true] 121 [some (.ref o), some (.int (nI p)), some (.int (nI (f ((144 + p) - 1)))), some (.int (nI (f (144 + p)))), some (.int (nI (f ((144 + p) + 1)))), some (.int (nI (f (184 + p))))] [.int (-9)] S rfl ⟨by decide, by decide, rfl⟩ ⟨trivial, (tf_eqT (a := (f ((144 + p) - 1))) (b := (f ((144 + p) + 1))) rfl rfl (by have := hb ((144 + p) - 1); have := hb ((144 + p) + 1); omega))⟩ ?_
                    exact tf_ret ftX11_doubleAt hR rfl ⟨by decide, by decide⟩ rfl rfl (by rw [if_neg (by rintro ⟨-, -, -, h | h⟩; exact h.2.2 d3; exact h.2.2 d3)]; rfl)
                  · refine tf_go hx ftX11_doubleAt 5 [false] 121 [some (.ref o), some (.int (nI p)), some (.int (nI (f ((144 + p) - 1)))), some (.int (nI (f (144 + p)))), some (.int (nI (f ((144 + p) + 1)))), some (.int (nI (f (184 + p))))] [.int ((nI p) - 1)] S rfl ⟨by decide, by decide, rfl⟩ ⟨trivial, (tf_eqF (a := (f ((144 + p) - 1))) (b := (f ((144 + p) + 1))) rfl rfl (by have := hb ((144 + p) - 1); have := hb ((144 + p) + 1); omega) (by have := hb ((144 + p) - 1); have := hb ((144 + p) + 1); omega) (by have := hb ((144 + p) - 1); have := hb ((144 + p) + 1); omega))⟩ ?_
                    rw [show ((nI p) - 1) = nI (p - 1) from (tf_sub rfl (rfl : (1 : Int32) = nI 1) (by omega))]
                    exact tf_ret ftX11_doubleAt hR rfl ⟨by decide, by decide⟩ rfl rfl (by rw [if_pos ⟨c1, by omega, c3, Or.inr ⟨d1, d2, d3⟩⟩, tf_on_y (by omega)]; rfl)
                · refine tf_go hx ftX11_doubleAt 2 [true] 121 [some (.ref o), some (.int (nI p)), some (.int (nI (f ((144 + p) - 1)))), some (.int (nI (f (144 + p)))), some (.int (nI (f ((144 + p) + 1)))), some (.int (nI (f (184 + p))))] [.int (-9)] S rfl ⟨by decide, by decide, rfl⟩ ⟨trivial, (tf_eqF (a := (f (184 + p))) (b := (f ((144 + p) - 1))) rfl rfl (by have := hb (184 + p); have := hb ((144 + p) - 1); omega) (by have := hb (184 + p); have := hb ((144 + p) - 1); omega) (by have := hb (184 + p); have := hb ((144 + p) - 1); omega))⟩ ?_
                  exact tf_ret ftX11_doubleAt hR rfl ⟨by decide, by decide⟩ rfl rfl (by rw [if_neg (by rintro ⟨-, -, -, h | h⟩; exact h.2.2 e3; exact d2 h.2.1)]; rfl)
              · refine tf_go hx ftX11_doubleAt 2 [true] 121 [some (.ref o), some (.int (nI p)), some (.int (nI (f ((144 + p) - 1)))), some (.int (nI (f (144 + p)))), some (.int (nI (f ((144 + p) + 1)))), some (.int (nI (f (184 + p))))] [.int (-9)] S rfl ⟨by decide, by decide, rfl⟩ ⟨trivial, (tf_eqF (a := (f (144 + p))) (b := (f ((144 + p) + 1))) rfl rfl (by have := hb (144 + p); have := hb ((144 + p) + 1); omega) (by have := hb (144 + p); have := hb ((144 + p) + 1); omega) (by have := hb (144 + p); have := hb ((144 + p) + 1); omega))⟩ ?_
                exact tf_ret ftX11_doubleAt hR rfl ⟨by decide, by decide⟩ rfl rfl (by rw [if_neg (by rintro ⟨-, -, -, h | h⟩; exact h.2.2 e3; exact d1 h.1)]; rfl)
            · refine tf_go hx ftX11_doubleAt 5 [true] 121 [some (.ref o), some (.int (nI p)), some (.int (nI (f ((144 + p) - 1)))), some (.int (nI (f (144 + p)))), some (.int (nI (f ((144 + p) + 1)))), some (.int (nI (f (184 + p))))] [.int ((nI p) - 1)] S rfl ⟨by decide, by decide, rfl⟩ ⟨trivial, (tf_eqF (a := (f ((144 + p) - 1))) (b := (f ((144 + p) + 1))) rfl rfl (by have := hb ((144 + p) - 1); have := hb ((144 + p) + 1); omega) (by have := hb ((144 + p) - 1); have := hb ((144 + p) + 1); omega) (by have := hb ((144 + p) - 1); have := hb ((144 + p) + 1); omega))⟩ ?_
              rw [show ((nI p) - 1) = nI (p - 1) from (tf_sub rfl (rfl : (1 : Int32) = nI 1) (by omega))]
              exact tf_ret ftX11_doubleAt hR rfl ⟨by decide, by decide⟩ rfl rfl (by rw [if_pos ⟨c1, by omega, c3, Or.inl ⟨e1, e2, e3⟩⟩, tf_on_y (by omega)]; rfl)
          · refine tf_go hx ftX11_doubleAt 1 [true] 95 [some (.ref o), some (.int (nI p)), some (.int (nI (f ((144 + p) - 1)))), some (.int (nI (f (144 + p)))), some (.int (nI (f ((144 + p) + 1)))), some (.int (nI (f (184 + p))))] [] S rfl ⟨by decide, by decide, rfl⟩ ⟨trivial, (tf_eqF (a := (f (184 + p))) (b := (f ((144 + p) + 1))) rfl rfl (by have := hb (184 + p); have := hb ((144 + p) + 1); omega) (by have := hb (184 + p); have := hb ((144 + p) + 1); omega) (by have := hb (184 + p); have := hb ((144 + p) + 1); omega))⟩ ?_
            refine tf_go hx ftX11_doubleAt 2 [] 98 [some (.ref o), some (.int (nI p)), some (.int (nI (f ((144 + p) - 1)))), some (.int (nI (f (144 + p)))), some (.int (nI (f ((144 + p) + 1)))), some (.int (nI (f (184 + p))))] [.int (nI (f ((144 + p) + 1))), .int (nI (f (144 + p)))] S rfl ⟨by decide, by decide, rfl⟩ trivial ?_
            by_cases d1 : f (144 + p) = f (144 + p + 1)
            · refine tf_go hx ftX11_doubleAt 1 [false] 101 [some (.ref o), some (.int (nI p)), some (.int (nI (f ((144 + p) - 1)))), some (.int (nI (f (144 + p)))), some (.int (nI (f ((144 + p) + 1)))), some (.int (nI (f (184 + p))))] [] S rfl ⟨by decide, by decide, rfl⟩ ⟨trivial, (tf_neF (a := (f (144 + p))) (b := (f ((144 + p) + 1))) rfl rfl (by have := hb (144 + p); have := hb ((144 + p) + 1); omega))⟩ ?_
              refine tf_go hx ftX11_doubleAt 2 [] 104 [some (.ref o), some (.int (nI p)), some (.int (nI (f ((144 + p) - 1)))), some (.int (nI (f (144 + p)))), some (.int (nI (f ((144 + p) + 1)))), some (.int (nI (f (184 + p))))] [.int (nI (f ((144 + p) - 1))), .int (nI (f (184 + p)))] S rfl ⟨by decide, by decide, rfl⟩ trivial ?_
              by_cases d2 : f (184 + p) = f (144 + p - 1)
              · refine tf_go hx ftX11_doubleAt 1 [false] 107 [some (.ref o), some (.int (nI p)), some (.int (nI (f ((144 + p) - 1)))), some (.int (nI (f (144 + p)))), some (.int (nI (f ((144 + p) + 1)))), some (.int (nI (f (184 + p))))] [] S rfl ⟨by decide, by decide, rfl⟩ ⟨trivial, (tf_neF (a := (f (184 + p))) (b := (f ((144 + p) - 1))) rfl rfl (by have := hb (184 + p); have := hb ((144 + p) - 1); omega))⟩ ?_
                refine tf_go hx ftX11_doubleAt 2 [] 110 [some (.ref o), some (.int (nI p)), some (.int (nI (f ((144 + p) - 1)))), some (.int (nI (f (144 + p)))), some (.int (nI (f ((144 + p) + 1)))), some (.int (nI (f (184 + p))))] [.int (nI (f ((144 + p) + 1))), .int (nI (f ((144 + p) - 1)))] S rfl ⟨by decide, by decide, rfl⟩ trivial ?_
                by_cases d3 : f (144 + p - 1) = f (144 + p + 1)
                · refine tf_go hx ftX11_doubleAt 2 [true] 121 [some (.ref o), some (.int (nI p)), some (.int (nI (f ((144 + p) - 1)))), some (.int (nI (f (144 + p)))), some (.int (nI (f ((144 + p) + 1)))), some (.int (nI (f (184 + p))))] [.int (-9)] S rfl ⟨by decide, by decide, rfl⟩ ⟨trivial, (tf_eqT (a := (f ((144 + p) - 1))) (b := (f ((144 + p) + 1))) rfl rfl (by have := hb ((144 + p) - 1); have := hb ((144 + p) + 1); omega))⟩ ?_
                  exact tf_ret ftX11_doubleAt hR rfl ⟨by decide, by decide⟩ rfl rfl (by rw [if_neg (by rintro ⟨-, -, -, h | h⟩; exact h.2.2 d3; exact h.2.2 d3)]; rfl)
                · refine tf_go hx ftX11_doubleAt 5 [false] 121 [some (.ref o), some (.int (nI p)), some (.int (nI (f ((144 + p) - 1)))), some (.int (nI (f (144 + p)))), some (.int (nI (f ((144 + p) + 1)))), some (.int (nI (f (184 + p))))] [.int ((nI p) - 1)] S rfl ⟨by decide, by decide, rfl⟩ ⟨trivial, (tf_eqF (a := (f ((144 + p) - 1))) (b := (f ((144 + p) + 1))) rfl rfl (by have := hb ((144 + p) - 1); have := hb ((144 + p) + 1); omega) (by have := hb ((144 + p) - 1); have := hb ((144 + p) + 1); omega) (by have := hb ((144 + p) - 1); have := hb ((144 + p) + 1); omega))⟩ ?_
                  rw [show ((nI p) - 1) = nI (p - 1) from (tf_sub rfl (rfl : (1 : Int32) = nI 1) (by omega))]
                  exact tf_ret ftX11_doubleAt hR rfl ⟨by decide, by decide⟩ rfl rfl (by rw [if_pos ⟨c1, by omega, c3, Or.inr ⟨d1, d2, d3⟩⟩, tf_on_y (by omega)]; rfl)
              · refine tf_go hx ftX11_doubleAt 2 [true] 121 [some (.ref o), some (.int (nI p)), some (.int (nI (f ((144 + p) - 1)))), some (.int (nI (f (144 + p)))), some (.int (nI (f ((144 + p) + 1)))), some (.int (nI (f (184 + p))))] [.int (-9)] S rfl ⟨by decide, by decide, rfl⟩ ⟨trivial, (tf_eqF (a := (f (184 + p))) (b := (f ((144 + p) - 1))) rfl rfl (by have := hb (184 + p); have := hb ((144 + p) - 1); omega) (by have := hb (184 + p); have := hb ((144 + p) - 1); omega) (by have := hb (184 + p); have := hb ((144 + p) - 1); omega))⟩ ?_
                exact tf_ret ftX11_doubleAt hR rfl ⟨by decide, by decide⟩ rfl rfl (by rw [if_neg (by rintro ⟨-, -, -, h | h⟩; exact e2 h.2.1; exact d2 h.2.1)]; rfl)
            · refine tf_go hx ftX11_doubleAt 2 [true] 121 [some (.ref o), some (.int (nI p)), some (.int (nI (f ((144 + p) - 1)))), some (.int (nI (f (144 + p)))), some (.int (nI (f ((144 + p) + 1)))), some (.int (nI (f (184 + p))))] [.int (-9)] S rfl ⟨by decide, by decide, rfl⟩ ⟨trivial, (tf_eqF (a := (f (144 + p))) (b := (f ((144 + p) + 1))) rfl rfl (by have := hb (144 + p); have := hb ((144 + p) + 1); omega) (by have := hb (144 + p); have := hb ((144 + p) + 1); omega) (by have := hb (144 + p); have := hb ((144 + p) + 1); omega))⟩ ?_
              exact tf_ret ftX11_doubleAt hR rfl ⟨by decide, by decide⟩ rfl rfl (by rw [if_neg (by rintro ⟨-, -, -, h | h⟩; exact e2 h.2.1; exact d1 h.1)]; rfl)
        · refine tf_go hx ftX11_doubleAt 1 [true] 95 [some (.ref o), some (.int (nI p)), some (.int (nI (f ((144 + p) - 1)))), some (.int (nI (f (144 + p)))), some (.int (nI (f ((144 + p) + 1)))), some (.int (nI (f (184 + p))))] [] S rfl ⟨by decide, by decide, rfl⟩ ⟨trivial, (tf_eqF (a := (f (144 + p))) (b := (f ((144 + p) - 1))) rfl rfl (by have := hb (144 + p); have := hb ((144 + p) - 1); omega) (by have := hb (144 + p); have := hb ((144 + p) - 1); omega) (by have := hb (144 + p); have := hb ((144 + p) - 1); omega))⟩ ?_
          refine tf_go hx ftX11_doubleAt 2 [] 98 [some (.ref o), some (.int (nI p)), some (.int (nI (f ((144 + p) - 1)))), some (.int (nI (f (144 + p)))), some (.int (nI (f ((144 + p) + 1)))), some (.int (nI (f (184 + p))))] [.int (nI (f ((144 + p) + 1))), .int (nI (f (144 + p)))] S rfl ⟨by decide, by decide, rfl⟩ trivial ?_
          by_cases d1 : f (144 + p) = f (144 + p + 1)
          · refine tf_go hx ftX11_doubleAt 1 [false] 101 [some (.ref o), some (.int (nI p)), some (.int (nI (f ((144 + p) - 1)))), some (.int (nI (f (144 + p)))), some (.int (nI (f ((144 + p) + 1)))), some (.int (nI (f (184 + p))))] [] S rfl ⟨by decide, by decide, rfl⟩ ⟨trivial, (tf_neF (a := (f (144 + p))) (b := (f ((144 + p) + 1))) rfl rfl (by have := hb (144 + p); have := hb ((144 + p) + 1); omega))⟩ ?_
            refine tf_go hx ftX11_doubleAt 2 [] 104 [some (.ref o), some (.int (nI p)), some (.int (nI (f ((144 + p) - 1)))), some (.int (nI (f (144 + p)))), some (.int (nI (f ((144 + p) + 1)))), some (.int (nI (f (184 + p))))] [.int (nI (f ((144 + p) - 1))), .int (nI (f (184 + p)))] S rfl ⟨by decide, by decide, rfl⟩ trivial ?_
            by_cases d2 : f (184 + p) = f (144 + p - 1)
            · refine tf_go hx ftX11_doubleAt 1 [false] 107 [some (.ref o), some (.int (nI p)), some (.int (nI (f ((144 + p) - 1)))), some (.int (nI (f (144 + p)))), some (.int (nI (f ((144 + p) + 1)))), some (.int (nI (f (184 + p))))] [] S rfl ⟨by decide, by decide, rfl⟩ ⟨trivial, (tf_neF (a := (f (184 + p))) (b := (f ((144 + p) - 1))) rfl rfl (by have := hb (184 + p); have := hb ((144 + p) - 1); omega))⟩ ?_
              refine tf_go hx ftX11_doubleAt 2 [] 110 [some (.ref o), some (.int (nI p)), some (.int (nI (f ((144 + p) - 1)))), some (.int (nI (f (144 + p)))), some (.int (nI (f ((144 + p) + 1)))), some (.int (nI (f (184 + p))))] [.int (nI (f ((144 + p) + 1))), .int (nI (f ((144 + p) - 1)))] S rfl ⟨by decide, by decide, rfl⟩ trivial ?_
              by_cases d3 : f (144 + p - 1) = f (144 + p + 1)
              · refine tf_go hx ftX11_doubleAt 2 [true] 121 [some (.ref o), some (.int (nI p)), some (.int (nI (f ((144 + p) - 1)))), some (.int (nI (f (144 + p)))), some (.int (nI (f ((144 + p) + 1)))), some (.int (nI (f (184 + p))))] [.int (-9)] S rfl ⟨by decide, by decide, rfl⟩ ⟨trivial, (tf_eqT (a := (f ((144 + p) - 1))) (b := (f ((144 + p) + 1))) rfl rfl (by have := hb ((144 + p) - 1); have := hb ((144 + p) + 1); omega))⟩ ?_
                exact tf_ret ftX11_doubleAt hR rfl ⟨by decide, by decide⟩ rfl rfl (by rw [if_neg (by rintro ⟨-, -, -, h | h⟩; exact h.2.2 d3; exact h.2.2 d3)]; rfl)
              · refine tf_go hx ftX11_doubleAt 5 [false] 121 [some (.ref o), some (.int (nI p)), some (.int (nI (f ((144 + p) - 1)))), some (.int (nI (f (144 + p)))), some (.int (nI (f ((144 + p) + 1)))), some (.int (nI (f (184 + p))))] [.int ((nI p) - 1)] S rfl ⟨by decide, by decide, rfl⟩ ⟨trivial, (tf_eqF (a := (f ((144 + p) - 1))) (b := (f ((144 + p) + 1))) rfl rfl (by have := hb ((144 + p) - 1); have := hb ((144 + p) + 1); omega) (by have := hb ((144 + p) - 1); have := hb ((144 + p) + 1); omega) (by have := hb ((144 + p) - 1); have := hb ((144 + p) + 1); omega))⟩ ?_
                rw [show ((nI p) - 1) = nI (p - 1) from (tf_sub rfl (rfl : (1 : Int32) = nI 1) (by omega))]
                exact tf_ret ftX11_doubleAt hR rfl ⟨by decide, by decide⟩ rfl rfl (by rw [if_pos ⟨c1, by omega, c3, Or.inr ⟨d1, d2, d3⟩⟩, tf_on_y (by omega)]; rfl)
            · refine tf_go hx ftX11_doubleAt 2 [true] 121 [some (.ref o), some (.int (nI p)), some (.int (nI (f ((144 + p) - 1)))), some (.int (nI (f (144 + p)))), some (.int (nI (f ((144 + p) + 1)))), some (.int (nI (f (184 + p))))] [.int (-9)] S rfl ⟨by decide, by decide, rfl⟩ ⟨trivial, (tf_eqF (a := (f (184 + p))) (b := (f ((144 + p) - 1))) rfl rfl (by have := hb (184 + p); have := hb ((144 + p) - 1); omega) (by have := hb (184 + p); have := hb ((144 + p) - 1); omega) (by have := hb (184 + p); have := hb ((144 + p) - 1); omega))⟩ ?_
              exact tf_ret ftX11_doubleAt hR rfl ⟨by decide, by decide⟩ rfl rfl (by rw [if_neg (by rintro ⟨-, -, -, h | h⟩; exact e1 h.1; exact d2 h.2.1)]; rfl)
          · refine tf_go hx ftX11_doubleAt 2 [true] 121 [some (.ref o), some (.int (nI p)), some (.int (nI (f ((144 + p) - 1)))), some (.int (nI (f (144 + p)))), some (.int (nI (f ((144 + p) + 1)))), some (.int (nI (f (184 + p))))] [.int (-9)] S rfl ⟨by decide, by decide, rfl⟩ ⟨trivial, (tf_eqF (a := (f (144 + p))) (b := (f ((144 + p) + 1))) rfl rfl (by have := hb (144 + p); have := hb ((144 + p) + 1); omega) (by have := hb (144 + p); have := hb ((144 + p) + 1); omega) (by have := hb (144 + p); have := hb ((144 + p) + 1); omega))⟩ ?_
            exact tf_ret ftX11_doubleAt hR rfl ⟨by decide, by decide⟩ rfl rfl (by rw [if_neg (by rintro ⟨-, -, -, h | h⟩; exact e1 h.1; exact d1 h.1)]; rfl)
      · refine tf_go hx ftX11_doubleAt 2 [false] 26 [some (.ref o), some (.int (nI p)), none, none, none, none] [.int (-9)] S rfl ⟨by decide, by decide, rfl⟩ ⟨trivial, (tf_ltF (a := (p + 1)) (b := (f 364)) rfl rfl (by have := hb 364; omega) (by have := hb 364; omega) (by have := hb 364; omega))⟩ ?_
        exact tf_ret ftX11_doubleAt hR rfl ⟨by decide, by decide⟩ rfl rfl (by rw [if_neg (by rintro ⟨-, -, h, -⟩; omega)]; rfl)
  · rw [tf_on_n c1]
    refine tf_go hx ftX11_doubleAt 3 [] 7 [some (.ref o), some (.int (-9)), none, none, none, none] [.int 1, .int (-9)] S rfl ⟨by decide, by decide, rfl⟩ trivial ?_
    refine tf_go hx ftX11_doubleAt 2 [true] 26 [some (.ref o), some (.int (-9)), none, none, none, none] [.int (-9)] S rfl ⟨by decide, by decide, rfl⟩ ⟨trivial, (by decide)⟩ ?_
    exact tf_ret ftX11_doubleAt hR rfl ⟨by decide, by decide⟩ rfl rfl (by unfold tf_do; rw [if_neg (by rintro ⟨h, -⟩; exact c1 h)]; rfl)

set_option maxHeartbeats 1000000 in
theorem m_byKeys {G : tf_G} {S : tf_Sg} {o : Nat} {f : Nat → Nat} (b t : Nat) (ho : tf_mo G o) (hf : tf_sf G S o f) (hg : tf_gd f) (hbb : b < 4) (ht : t < 2) : tf_Fn mX11_byKeys 2 0 0 G S [.ref o, .int (nI b), .int (nI t)] G S (some (.int (tf_on 41 (tf_bk f b t)))) := by
  obtain ⟨h1, ⟨r0, t0, n0⟩, ⟨r1, t1, n1⟩, ⟨r2, t2, n2⟩, ⟨r4, t4, n4⟩⟩ := id ho
  obtain ⟨hs, hb⟩ := id hf
  obtain ⟨⟨g1, g2, g3, g4⟩, g5, g6, g7, g8, g9, g10, g11⟩ := id hg
  refine tf_Fn_of (own := RX11) false ⟨by decide, rfl, by decide⟩ (Nat.le_of_ble_eq_true rfl) trivial (fun x hx hR => ?_)
  show tf_K x 0 0 G S 0 [some (.ref o), some (.int (nI b)), some (.int (nI t)), none, none, none, none, none] []
  refine tf_go hx ftX11_byKeys 1 [] 1 [some (.ref o), some (.int (nI b)), some (.int (nI t)), none, none, none, none, none] [.ref o] S rfl ⟨by decide, by decide, rfl⟩ trivial ?_
  refine tf_cV hx ftX11_byKeys (nx := 4) (As := []) (rest := []) (st2 := [.int (tf_on 41 (tf_sl f))]) (m_slipAt ho hf hg) rfl lX11_95 (by first | assumption | rfl | decide) rfl ⟨rfl, by decide, by decide, by decide, rfl, rfl⟩ ?_
  by_cases c1 : tf_sl f < 41
  · rw [tf_on_y c1]
    obtain ⟨l1, l2, l3, l4⟩ := tf_sl_le c1
    clear l3
    unfold tf_bk at hR
    generalize hq : tf_sl f = p at *
    have m1 := g6 p l2
    have m2 := g7 p (by omega)
    refine tf_go hx ftX11_byKeys 2 [] 6 [some (.ref o), some (.int (nI b)), some (.int (nI t)), some (.int (nI p)), none, none, none, none] [.int (nI p)] S rfl ⟨by decide, by decide, rfl⟩ trivial ?_
    refine tf_go hx ftX11_byKeys 1 [true] 12 [some (.ref o), some (.int (nI b)), some (.int (nI t)), some (.int (nI p)), none, none, none, none] [] S rfl ⟨by decide, by decide, rfl⟩ ⟨trivial, (tf_leT (a := 0) (b := p) (rfl : (0 : Int32) = nI 0) rfl (by omega) (by omega) (by omega))⟩ ?_
    refine tf_go hx ftX11_byKeys 8 [] 24 [some (.ref o), some (.int (nI b)), some (.int (nI t)), some (.int (nI p)), none, none, none, none] [.int (S (tf_rf G o 1) (Int32.toNatClampNeg (144 + (nI p)))), .int (nI b), .ref o] S rfl ⟨by decide, by decide, rfl⟩ ⟨⟨trivial, ⟨by first | assumption | rfl | decide | omega, by first | assumption | rfl | decide | omega⟩⟩, ⟨Or.inl (by first | assumption | rfl | decide | omega), by first | assumption | exact tf_in (n := (144 + p)) (tf_add (rfl : (144 : Int32) = nI 144) rfl) (by first | assumption | rfl) (by omega) (by decide)⟩⟩ ?_
    rw [show (S (tf_rf G o 1) (Int32.toNatClampNeg (144 + (nI p)))) = nI (f (144 + p)) from (tf_rd hs (tf_add (rfl : (144 : Int32) = nI 144) rfl) (by omega))]
    refine tf_cV hx ftX11_byKeys (nx := 27) (As := [.int (nI b), .int (nI (f (144 + p)))]) (rest := []) (st2 := [.int (tf_on 30 (tf_ke f b (f (144 + p))))]) (m_keyAt b (f (144 + p)) ho hf hbb (by omega)) rfl lX11_51 (by first | assumption | rfl | decide) rfl ⟨rfl, by decide, by decide, by decide, rfl, rfl⟩ ?_
    refine tf_go hx ftX11_byKeys 9 [] 41 [some (.ref o), some (.int (nI b)), some (.int (nI t)), some (.int (nI p)), some (.int (tf_on 30 (tf_ke f b (f (144 + p))))), none, none, none] [.int (S (tf_rf G o 1) (Int32.toNatClampNeg (184 + (nI p)))), .int (nI b), .ref o] S rfl ⟨by decide, by decide, rfl⟩ ⟨⟨trivial, ⟨by first | assumption | rfl | decide | omega, by first | assumption | rfl | decide | omega⟩⟩, ⟨Or.inl (by first | assumption | rfl | decide | omega), by first | assumption | exact tf_in (n := (184 + p)) (tf_add (rfl : (184 : Int32) = nI 184) rfl) (by first | assumption | rfl) (by omega) (by decide)⟩⟩ ?_
    rw [show (S (tf_rf G o 1) (Int32.toNatClampNeg (184 + (nI p)))) = nI (f (184 + p)) from (tf_rd hs (tf_add (rfl : (184 : Int32) = nI 184) rfl) (by omega))]
    refine tf_cV hx ftX11_byKeys (nx := 44) (As := [.int (nI b), .int (nI (f (184 + p)))]) (rest := []) (st2 := [.int (tf_on 30 (tf_ke f b (f (184 + p))))]) (m_keyAt b (f (184 + p)) ho hf hbb (by omega)) rfl lX11_51 (by first | assumption | rfl | decide) rfl ⟨rfl, by decide, by decide, by decide, rfl, rfl⟩ ?_
    have k1 := tf_ke_le f b (f (144 + p))
    have k2 := tf_ke_le f b (f (184 + p))
    generalize hk1 : tf_ke f b (f (144 + p)) = u at *
    generalize hk2 : tf_ke f b (f (184 + p)) = v at *
    by_cases c2 : u < 30
    · rw [tf_on_y c2]
      by_cases c3 : v < 30
      · rw [tf_on_y c3]
        refine tf_go hx ftX11_byKeys 2 [] 48 [some (.ref o), some (.int (nI b)), some (.int (nI t)), some (.int (nI p)), some (.int (nI u)), some (.int (nI v)), none, none] [.int (nI u)] S rfl ⟨by decide, by decide, rfl⟩ trivial ?_
        refine tf_go hx ftX11_byKeys 1 [false] 51 [some (.ref o), some (.int (nI b)), some (.int (nI t)), some (.int (nI p)), some (.int (nI u)), some (.int (nI v)), none, none] [] S rfl ⟨by decide, by decide, rfl⟩ ⟨trivial, (tf_ltF (a := u) (b := 0) rfl (rfl : (0 : Int32) = nI 0) (by omega) (by omega) (by omega))⟩ ?_
        refine tf_go hx ftX11_byKeys 1 [] 53 [some (.ref o), some (.int (nI b)), some (.int (nI t)), some (.int (nI p)), some (.int (nI u)), some (.int (nI v)), none, none] [.int (nI v)] S rfl ⟨by decide, by decide, rfl⟩ trivial ?_
        refine tf_go hx ftX11_byKeys 1 [true] 59 [some (.ref o), some (.int (nI b)), some (.int (nI t)), some (.int (nI p)), some (.int (nI u)), some (.int (nI v)), none, none] [] S rfl ⟨by decide, by decide, rfl⟩ ⟨trivial, (tf_leT (a := 0) (b := v) (rfl : (0 : Int32) = nI 0) rfl (by omega) (by omega) (by omega))⟩ ?_
        refine tf_go hx ftX11_byKeys 7 [] 70 [some (.ref o), some (.int (nI b)), some (.int (nI t)), some (.int (nI p)), some (.int (nI u)), some (.int (nI v)), none, none] [.int (((nI u) / 10) - ((nI v) / 10))] S rfl ⟨by decide, by decide, rfl⟩ ⟨⟨trivial, (by decide)⟩, (by decide)⟩ ?_
        rw [show ((nI u) / 10) = nI (u / 10) from (tf_div rfl (rfl : (10 : Int32) = nI 10) (by omega) (by decide) (by decide))]
        rw [show ((nI v) / 10) = nI (v / 10) from (tf_div rfl (rfl : (10 : Int32) = nI 10) (by omega) (by decide) (by decide))]
        have d1 := tf_di_le (show u / 10 < 3 by omega) (show v / 10 < 3 by omega)
        have d2 := tf_di_le (show u % 10 < 10 by omega) (show v % 10 < 10 by omega)
        refine tf_cS hx ftX11_byKeys (nx := 73) (As := [.int ((nI (u / 10)) - (nI (v / 10)))]) (rest := []) (st2 := [.int (nI (tf_di (u / 10) (v / 10)))]) ((by have h := m_amount (G := G) (S := S) (nI (u / 10) - nI (v / 10)); rw [tf_amt (by omega) (by omega)] at h; exact h)) rfl lX11_69 rfl ⟨rfl, by decide, by decide, by decide, rfl, rfl⟩ ?_
        refine tf_go hx ftX11_byKeys 2 [] 76 [some (.ref o), some (.int (nI b)), some (.int (nI t)), some (.int (nI p)), some (.int (nI u)), some (.int (nI v)), some (.int (nI (tf_di (u / 10) (v / 10)))), none] [.int (nI t)] S rfl ⟨by decide, by decide, rfl⟩ trivial ?_
        by_cases c4 : t = 0
        · refine tf_go hx ftX11_byKeys 1 [true] 108 [some (.ref o), some (.int (nI b)), some (.int (nI t)), some (.int (nI p)), some (.int (nI u)), some (.int (nI v)), some (.int (nI (tf_di (u / 10) (v / 10)))), none] [] S rfl ⟨by decide, by decide, rfl⟩ ⟨trivial, (tf_eqT (a := t) (b := 0) rfl (rfl : (0 : Int32) = nI 0) (by omega))⟩ ?_
          refine tf_go hx ftX11_byKeys 8 [] 121 [some (.ref o), some (.int (nI b)), some (.int (nI t)), some (.int (nI p)), some (.int (nI u)), some (.int (nI v)), some (.int (nI (tf_di (u / 10) (v / 10)))), none] [.int (((nI u) - (nI u) / 10 * 10) - ((nI v) - (nI v) / 10 * 10)), .int (nI (tf_di (u / 10) (v / 10)))] S rfl ⟨by decide, by decide, rfl⟩ ⟨⟨trivial, (by decide)⟩, (by decide)⟩ ?_
          rw [show ((nI u) - (nI u) / 10 * 10) = nI (u % 10) from (tf_rem rfl (rfl : (10 : Int32) = nI 10) (by omega) (by decide) (by decide))]
          rw [show ((nI v) - (nI v) / 10 * 10) = nI (v % 10) from (tf_rem rfl (rfl : (10 : Int32) = nI 10) (by omega) (by decide) (by decide))]
          refine tf_cS hx ftX11_byKeys (nx := 124) (As := [.int ((nI (u % 10)) - (nI (v % 10)))]) (rest := [.int (nI (tf_di (u / 10) (v / 10)))]) (st2 := [.int (nI (tf_di (u % 10) (v % 10))), .int (nI (tf_di (u / 10) (v / 10)))]) ((by have h := m_amount (G := G) (S := S) (nI (u % 10) - nI (v % 10)); rw [tf_amt (by omega) (by omega)] at h; exact h)) rfl lX11_69 rfl ⟨rfl, by decide, by decide, by decide, rfl, rfl⟩ ?_
          refine tf_go hx ftX11_byKeys 2 [] 126 [some (.ref o), some (.int (nI b)), some (.int (nI t)), some (.int (nI p)), some (.int (nI u)), some (.int (nI v)), some (.int (nI (tf_di (u / 10) (v / 10)))), none] [.int 1, .int ((nI (tf_di (u / 10) (v / 10))) + (nI (tf_di (u % 10) (v % 10))))] S rfl ⟨by decide, by decide, rfl⟩ trivial ?_
          rw [show ((nI (tf_di (u / 10) (v / 10))) + (nI (tf_di (u % 10) (v % 10)))) = nI ((tf_di (u / 10) (v / 10)) + (tf_di (u % 10) (v % 10))) from (tf_add rfl rfl)]
          by_cases c5 : tf_di (u / 10) (v / 10) + tf_di (u % 10) (v % 10) = 1
          · refine tf_go hx ftX11_byKeys 4 [false] 136 [some (.ref o), some (.int (nI b)), some (.int (nI t)), some (.int (nI p)), some (.int (nI u)), some (.int (nI v)), some (.int (nI (tf_di (u / 10) (v / 10)))), some (.int 1)] [] S rfl ⟨by decide, by decide, rfl⟩ ⟨trivial, (tf_neF (a := ((tf_di (u / 10) (v / 10)) + (tf_di (u % 10) (v % 10)))) (b := 1) rfl (rfl : (1 : Int32) = nI 1) (by omega))⟩ ?_
            refine tf_go hx ftX11_byKeys 4 [false] 147 [some (.ref o), some (.int (nI b)), some (.int (nI t)), some (.int (nI p)), some (.int (nI u)), some (.int (nI v)), some (.int (nI (tf_di (u / 10) (v / 10)))), some (.int 1)] [.int (nI p)] S rfl ⟨by decide, by decide, rfl⟩ ⟨trivial, (by decide)⟩ ?_
            exact tf_ret ftX11_byKeys hR rfl ⟨by decide, by decide⟩ rfl rfl (by rw [if_pos ⟨c1, c2, c3, by rw [if_neg (fun h => h c4)]; exact c5⟩, tf_on_y c1]; rfl)
          · refine tf_go hx ftX11_byKeys 3 [true] 136 [some (.ref o), some (.int (nI b)), some (.int (nI t)), some (.int (nI p)), some (.int (nI u)), some (.int (nI v)), some (.int (nI (tf_di (u / 10) (v / 10)))), some (.int 0)] [] S rfl ⟨by decide, by decide, rfl⟩ ⟨trivial, (tf_eqF (a := ((tf_di (u / 10) (v / 10)) + (tf_di (u % 10) (v % 10)))) (b := 1) rfl (rfl : (1 : Int32) = nI 1) (by omega) (by omega) (by omega))⟩ ?_
            refine tf_go hx ftX11_byKeys 3 [true] 147 [some (.ref o), some (.int (nI b)), some (.int (nI t)), some (.int (nI p)), some (.int (nI u)), some (.int (nI v)), some (.int (nI (tf_di (u / 10) (v / 10)))), some (.int 0)] [.int (-9)] S rfl ⟨by decide, by decide, rfl⟩ ⟨trivial, (by decide)⟩ ?_
            exact tf_ret ftX11_byKeys hR rfl ⟨by decide, by decide⟩ rfl rfl (by rw [if_neg (by rintro ⟨-, -, -, h⟩; rw [if_neg (fun h => h c4)] at h; exact c5 h)]; rfl)
        · refine tf_go hx ftX11_byKeys 1 [false] 79 [some (.ref o), some (.int (nI b)), some (.int (nI t)), some (.int (nI p)), some (.int (nI u)), some (.int (nI v)), some (.int (nI (tf_di (u / 10) (v / 10)))), none] [] S rfl ⟨by decide, by decide, rfl⟩ ⟨trivial, (tf_eqF (a := t) (b := 0) rfl (rfl : (0 : Int32) = nI 0) (by omega) (by omega) (by omega))⟩ ?_
          refine tf_go hx ftX11_byKeys 1 [] 81 [some (.ref o), some (.int (nI b)), some (.int (nI t)), some (.int (nI p)), some (.int (nI u)), some (.int (nI v)), some (.int (nI (tf_di (u / 10) (v / 10)))), none] [.int (nI (tf_di (u / 10) (v / 10)))] S rfl ⟨by decide, by decide, rfl⟩ trivial ?_
          by_cases c5 : tf_di (u / 10) (v / 10) = 0
          · refine tf_go hx ftX11_byKeys 1 [false] 84 [some (.ref o), some (.int (nI b)), some (.int (nI t)), some (.int (nI p)), some (.int (nI u)), some (.int (nI v)), some (.int (nI (tf_di (u / 10) (v / 10)))), none] [] S rfl ⟨by decide, by decide, rfl⟩ ⟨trivial, (tf_neF (a := (tf_di (u / 10) (v / 10))) (b := 0) rfl (rfl : (0 : Int32) = nI 0) (by omega))⟩ ?_
            refine tf_go hx ftX11_byKeys 8 [] 97 [some (.ref o), some (.int (nI b)), some (.int (nI t)), some (.int (nI p)), some (.int (nI u)), some (.int (nI v)), some (.int (nI (tf_di (u / 10) (v / 10)))), none] [.int (9 - ((nI u) - (nI u) / 10 * 10)), .int ((nI v) - (nI v) / 10 * 10)] S rfl ⟨by decide, by decide, rfl⟩ ⟨⟨trivial, (by decide)⟩, (by decide)⟩ ?_
            rw [show (9 - ((nI u) - (nI u) / 10 * 10)) = nI (9 - (u % 10)) from (tf_sub (rfl : (9 : Int32) = nI 9) (tf_rem rfl (rfl : (10 : Int32) = nI 10) (by omega) (by decide) (by decide)) (by omega))]
            rw [show ((nI v) - (nI v) / 10 * 10) = nI (v % 10) from (tf_rem rfl (rfl : (10 : Int32) = nI 10) (by omega) (by decide) (by decide))]
            by_cases c6 : v % 10 = 9 - u % 10
            · refine tf_go hx ftX11_byKeys 4 [false] 136 [some (.ref o), some (.int (nI b)), some (.int (nI t)), some (.int (nI p)), some (.int (nI u)), some (.int (nI v)), some (.int (nI (tf_di (u / 10) (v / 10)))), some (.int 1)] [] S rfl ⟨by decide, by decide, rfl⟩ ⟨trivial, (tf_neF (a := (v % 10)) (b := (9 - (u % 10))) rfl rfl (by omega))⟩ ?_
              refine tf_go hx ftX11_byKeys 4 [false] 147 [some (.ref o), some (.int (nI b)), some (.int (nI t)), some (.int (nI p)), some (.int (nI u)), some (.int (nI v)), some (.int (nI (tf_di (u / 10) (v / 10)))), some (.int 1)] [.int (nI p)] S rfl ⟨by decide, by decide, rfl⟩ ⟨trivial, (by decide)⟩ ?_
              exact tf_ret ftX11_byKeys hR rfl ⟨by decide, by decide⟩ rfl rfl (by rw [if_pos ⟨c1, c2, c3, by rw [if_pos c4]; exact ⟨c5, c6⟩⟩, tf_on_y c1]; rfl)
            · refine tf_go hx ftX11_byKeys 4 [true] 136 [some (.ref o), some (.int (nI b)), some (.int (nI t)), some (.int (nI p)), some (.int (nI u)), some (.int (nI v)), some (.int (nI (tf_di (u / 10) (v / 10)))), some (.int 0)] [] S rfl ⟨by decide, by decide, rfl⟩ ⟨trivial, (tf_eqF (a := (v % 10)) (b := (9 - (u % 10))) rfl rfl (by omega) (by omega) (by omega))⟩ ?_
              refine tf_go hx ftX11_byKeys 3 [true] 147 [some (.ref o), some (.int (nI b)), some (.int (nI t)), some (.int (nI p)), some (.int (nI u)), some (.int (nI v)), some (.int (nI (tf_di (u / 10) (v / 10)))), some (.int 0)] [.int (-9)] S rfl ⟨by decide, by decide, rfl⟩ ⟨trivial, (by decide)⟩ ?_
              exact tf_ret ftX11_byKeys hR rfl ⟨by decide, by decide⟩ rfl rfl (by rw [if_neg (by rintro ⟨-, -, -, h⟩; rw [if_pos c4] at h; exact c6 h.2)]; rfl)
          · refine tf_go hx ftX11_byKeys 4 [true] 136 [some (.ref o), some (.int (nI b)), some (.int (nI t)), some (.int (nI p)), some (.int (nI u)), some (.int (nI v)), some (.int (nI (tf_di (u / 10) (v / 10)))), some (.int 0)] [] S rfl ⟨by decide, by decide, rfl⟩ ⟨trivial, (tf_eqF (a := (tf_di (u / 10) (v / 10))) (b := 0) rfl (rfl : (0 : Int32) = nI 0) (by omega) (by omega) (by omega))⟩ ?_
            refine tf_go hx ftX11_byKeys 3 [true] 147 [some (.ref o), some (.int (nI b)), some (.int (nI t)), some (.int (nI p)), some (.int (nI u)), some (.int (nI v)), some (.int (nI (tf_di (u / 10) (v / 10)))), some (.int 0)] [.int (-9)] S rfl ⟨by decide, by decide, rfl⟩ ⟨trivial, (by decide)⟩ ?_
            exact tf_ret ftX11_byKeys hR rfl ⟨by decide, by decide⟩ rfl rfl (by rw [if_neg (by rintro ⟨-, -, -, h⟩; rw [if_pos c4] at h; exact c5 h.1)]; rfl)
      · rw [tf_on_n c3]
        refine tf_go hx ftX11_byKeys 2 [] 48 [some (.ref o), some (.int (nI b)), some (.int (nI t)), some (.int (nI p)), some (.int (nI u)), some (.int (-9)), none, none] [.int (nI u)] S rfl ⟨by decide, by decide, rfl⟩ trivial ?_
        refine tf_go hx ftX11_byKeys 1 [false] 51 [some (.ref o), some (.int (nI b)), some (.int (nI t)), some (.int (nI p)), some (.int (nI u)), some (.int (-9)), none, none] [] S rfl ⟨by decide, by decide, rfl⟩ ⟨trivial, (tf_ltF (a := u) (b := 0) rfl (rfl : (0 : Int32) = nI 0) (by omega) (by omega) (by omega))⟩ ?_
        refine tf_go hx ftX11_byKeys 1 [] 53 [some (.ref o), some (.int (nI b)), some (.int (nI t)), some (.int (nI p)), some (.int (nI u)), some (.int (-9)), none, none] [.int (-9)] S rfl ⟨by decide, by decide, rfl⟩ trivial ?_
        refine tf_go hx ftX11_byKeys 2 [false] 58 [some (.ref o), some (.int (nI b)), some (.int (nI t)), some (.int (nI p)), some (.int (nI u)), some (.int (-9)), none, none] [.int (-9)] S rfl ⟨by decide, by decide, rfl⟩ ⟨trivial, (by decide)⟩ ?_
        exact tf_ret ftX11_byKeys hR rfl ⟨by decide, by decide⟩ rfl rfl (by rw [if_neg (by rintro ⟨-, -, h, -⟩; exact c3 h)]; rfl)
    · rw [tf_on_n c2]
      refine tf_go hx ftX11_byKeys 2 [] 48 [some (.ref o), some (.int (nI b)), some (.int (nI t)), some (.int (nI p)), some (.int (-9)), some (.int (tf_on 30 v)), none, none] [.int (-9)] S rfl ⟨by decide, by decide, rfl⟩ trivial ?_
      refine tf_go hx ftX11_byKeys 2 [true] 58 [some (.ref o), some (.int (nI b)), some (.int (nI t)), some (.int (nI p)), some (.int (-9)), some (.int (tf_on 30 v)), none, none] [.int (-9)] S rfl ⟨by decide, by decide, rfl⟩ ⟨trivial, (by decide)⟩ ?_
      exact tf_ret ftX11_byKeys hR rfl ⟨by decide, by decide⟩ rfl rfl (by rw [if_neg (by rintro ⟨-, h, -⟩; exact c2 h)]; rfl)
  · rw [tf_on_n c1]
    refine tf_go hx ftX11_byKeys 2 [] 6 [some (.ref o), some (.int (nI b)), some (.int (nI t)), some (.int (-9)), none, none, none, none] [.int (-9)] S rfl ⟨by decide, by decide, rfl⟩ trivial ?_
    refine tf_go hx ftX11_byKeys 2 [false] 11 [some (.ref o), some (.int (nI b)), some (.int (nI t)), some (.int (-9)), none, none, none, none] [.int (-9)] S rfl ⟨by decide, by decide, rfl⟩ ⟨trivial, (by decide)⟩ ?_
    exact tf_ret ftX11_byKeys hR rfl ⟨by decide, by decide⟩ rfl rfl (by unfold tf_bk; rw [if_neg (by rintro ⟨h, -⟩; exact c1 h)]; rfl)

set_option maxHeartbeats 1000000 in
theorem m_earlyAt {G : tf_G} {S : tf_Sg} {o : Nat} {f : Nat → Nat} (ho : tf_mo G o) (hf : tf_sf G S o f) (hg : tf_gd f) : tf_Fn mX11_earlyAt 2 0 0 G S [.ref o] G S (some (.int (tf_on 41 (tf_ea f)))) := by
  obtain ⟨h1, ⟨r0, t0, n0⟩, ⟨r1, t1, n1⟩, ⟨r2, t2, n2⟩, ⟨r4, t4, n4⟩⟩ := id ho
  obtain ⟨hs, hb⟩ := id hf
  obtain ⟨⟨g1, g2, g3, g4⟩, g5, g6, g7, g8, g9, g10, g11⟩ := id hg
  refine tf_Fn_of (own := RX11) false ⟨by decide, rfl, by decide⟩ (Nat.le_of_ble_eq_true rfl) trivial (fun x hx hR => ?_)
  show tf_K x 0 0 G S 0 [some (.ref o), none] []
  refine tf_go hx ftX11_earlyAt 1 [] 1 [some (.ref o), none] [.ref o] S rfl ⟨by decide, by decide, rfl⟩ trivial ?_
  refine tf_cV hx ftX11_earlyAt (nx := 4) (As := []) (rest := []) (st2 := [.int (tf_on 41 (tf_sl f))]) (m_slipAt ho hf hg) rfl lX11_95 (by first | assumption | rfl | decide) rfl ⟨rfl, by decide, by decide, by decide, rfl, rfl⟩ ?_
  by_cases c1 : tf_sl f < 41
  · rw [tf_on_y c1]
    obtain ⟨l1, l2, l3, l4⟩ := tf_sl_le c1
    clear l3
    unfold tf_ea at hR
    generalize hq : tf_sl f = p at *
    refine tf_go hx ftX11_earlyAt 2 [] 6 [some (.ref o), some (.int (nI p))] [.int (nI p)] S rfl ⟨by decide, by decide, rfl⟩ trivial ?_
    refine tf_go hx ftX11_earlyAt 1 [true] 12 [some (.ref o), some (.int (nI p))] [] S rfl ⟨by decide, by decide, rfl⟩ ⟨trivial, (tf_leT (a := 0) (b := p) (rfl : (0 : Int32) = nI 0) rfl (by omega) (by omega) (by omega))⟩ ?_
    refine tf_go hx ftX11_earlyAt 7 [] 23 [some (.ref o), some (.int (nI p))] [.int (S (tf_rf G o 1) (Int32.toNatClampNeg 364)), .int ((nI p) + 1)] S rfl ⟨by decide, by decide, rfl⟩ ⟨⟨trivial, ⟨by first | assumption | rfl | decide | omega, by first | assumption | rfl | decide | omega⟩⟩, ⟨Or.inl (by first | assumption | rfl | decide | omega), by first | assumption | exact tf_in (n := 364) (rfl : (364 : Int32) = nI 364) (by first | assumption | rfl) (by omega) (by decide)⟩⟩ ?_
    rw [show (S (tf_rf G o 1) (Int32.toNatClampNeg 364)) = nI (f 364) from (tf_rd hs (rfl : (364 : Int32) = nI 364) (by omega))]
    rw [show ((nI p) + 1) = nI (p + 1) from (tf_add rfl (rfl : (1 : Int32) = nI 1))]
    by_cases e1 : p + 1 < f 364
    · refine tf_go hx ftX11_earlyAt 1 [false] 26 [some (.ref o), some (.int (nI p))] [] S rfl ⟨by decide, by decide, rfl⟩ ⟨trivial, (tf_leF (a := (f 364)) (b := (p + 1)) rfl rfl (by have := hb 364; omega) (by have := hb 364; omega) (by have := hb 364; omega))⟩ ?_
      refine tf_go hx ftX11_earlyAt 14 [] 48 [some (.ref o), some (.int (nI p))] [.int (S (tf_rf G o 1) (Int32.toNatClampNeg (184 + (nI p)))), .int (S (tf_rf G o 1) (Int32.toNatClampNeg ((144 + (nI p)) + 1)))] S rfl ⟨by decide, by decide, rfl⟩ ⟨⟨⟨⟨trivial, ⟨by first | assumption | rfl | decide | omega, by first | assumption | rfl | decide | omega⟩⟩, ⟨Or.inl (by first | assumption | rfl | decide | omega), by first | assumption | exact tf_in (n := ((144 + p) + 1)) (tf_add (tf_add (rfl : (144 : Int32) = nI 144) rfl) (rfl : (1 : Int32) = nI 1)) (by first | assumption | rfl) (by omega) (by decide)⟩⟩, ⟨by first | assumption | rfl | decide | omega, by first | assumption | rfl | decide | omega⟩⟩, ⟨Or.inl (by first | assumption | rfl | decide | omega), by first | assumption | exact tf_in (n := (184 + p)) (tf_add (rfl : (184 : Int32) = nI 184) rfl) (by first | assumption | rfl) (by omega) (by decide)⟩⟩ ?_
      rw [show (S (tf_rf G o 1) (Int32.toNatClampNeg (184 + (nI p)))) = nI (f (184 + p)) from (tf_rd hs (tf_add (rfl : (184 : Int32) = nI 184) rfl) (by omega))]
      rw [show (S (tf_rf G o 1) (Int32.toNatClampNeg ((144 + (nI p)) + 1))) = nI (f ((144 + p) + 1)) from (tf_rd hs (tf_add (tf_add (rfl : (144 : Int32) = nI 144) rfl) (rfl : (1 : Int32) = nI 1)) (by omega))]
      by_cases e2 : f (144 + p + 1) = f (184 + p)
      · refine tf_go hx ftX11_earlyAt 3 [true] 96 [some (.ref o), some (.int (nI p))] [.int (nI p)] S rfl ⟨by decide, by decide, rfl⟩ ⟨trivial, (tf_eqT (a := (f ((144 + p) + 1))) (b := (f (184 + p))) rfl rfl (by have := hb ((144 + p) + 1); have := hb (184 + p); omega))⟩ ?_
        exact tf_ret ftX11_earlyAt hR rfl ⟨by decide, by decide⟩ rfl rfl (by rw [if_pos ⟨c1, Or.inl ⟨e1, e2⟩⟩, tf_on_y c1]; rfl)
      · refine tf_go hx ftX11_earlyAt 1 [false] 51 [some (.ref o), some (.int (nI p))] [] S rfl ⟨by decide, by decide, rfl⟩ ⟨trivial, (tf_eqF (a := (f ((144 + p) + 1))) (b := (f (184 + p))) rfl rfl (by have := hb ((144 + p) + 1); have := hb (184 + p); omega) (by have := hb ((144 + p) + 1); have := hb (184 + p); omega) (by have := hb ((144 + p) + 1); have := hb (184 + p); omega))⟩ ?_
        refine tf_go hx ftX11_earlyAt 7 [] 62 [some (.ref o), some (.int (nI p))] [.int (S (tf_rf G o 1) (Int32.toNatClampNeg 364)), .int ((nI p) + 2)] S rfl ⟨by decide, by decide, rfl⟩ ⟨⟨trivial, ⟨by first | assumption | rfl | decide | omega, by first | assumption | rfl | decide | omega⟩⟩, ⟨Or.inl (by first | assumption | rfl | decide | omega), by first | assumption | exact tf_in (n := 364) (rfl : (364 : Int32) = nI 364) (by first | assumption | rfl) (by omega) (by decide)⟩⟩ ?_
        rw [show (S (tf_rf G o 1) (Int32.toNatClampNeg 364)) = nI (f 364) from (tf_rd hs (rfl : (364 : Int32) = nI 364) (by omega))]
        rw [show ((nI p) + 2) = nI (p + 2) from (tf_add rfl (rfl : (2 : Int32) = nI 2))]
        by_cases d1 : p + 2 < f 364
        · refine tf_go hx ftX11_earlyAt 1 [false] 65 [some (.ref o), some (.int (nI p))] [] S rfl ⟨by decide, by decide, rfl⟩ ⟨trivial, (tf_leF (a := (f 364)) (b := (p + 2)) rfl rfl (by have := hb 364; omega) (by have := hb 364; omega) (by have := hb 364; omega))⟩ ?_
          refine tf_go hx ftX11_earlyAt 14 [] 87 [some (.ref o), some (.int (nI p))] [.int (S (tf_rf G o 1) (Int32.toNatClampNeg (184 + (nI p)))), .int (S (tf_rf G o 1) (Int32.toNatClampNeg ((144 + (nI p)) + 2)))] S rfl ⟨by decide, by decide, rfl⟩ ⟨⟨⟨⟨trivial, ⟨by first | assumption | rfl | decide | omega, by first | assumption | rfl | decide | omega⟩⟩, ⟨Or.inl (by first | assumption | rfl | decide | omega), by first | assumption | exact tf_in (n := ((144 + p) + 2)) (tf_add (tf_add (rfl : (144 : Int32) = nI 144) rfl) (rfl : (2 : Int32) = nI 2)) (by first | assumption | rfl) (by omega) (by decide)⟩⟩, ⟨by first | assumption | rfl | decide | omega, by first | assumption | rfl | decide | omega⟩⟩, ⟨Or.inl (by first | assumption | rfl | decide | omega), by first | assumption | exact tf_in (n := (184 + p)) (tf_add (rfl : (184 : Int32) = nI 184) rfl) (by first | assumption | rfl) (by omega) (by decide)⟩⟩ ?_
          rw [show (S (tf_rf G o 1) (Int32.toNatClampNeg (184 + (nI p)))) = nI (f (184 + p)) from (tf_rd hs (tf_add (rfl : (184 : Int32) = nI 184) rfl) (by omega))]
          rw [show (S (tf_rf G o 1) (Int32.toNatClampNeg ((144 + (nI p)) + 2))) = nI (f ((144 + p) + 2)) from (tf_rd hs (tf_add (tf_add (rfl : (144 : Int32) = nI 144) rfl) (rfl : (2 : Int32) = nI 2)) (by omega))]
          by_cases d2 : f (144 + p + 2) = f (184 + p)
          · refine tf_go hx ftX11_earlyAt 3 [false] 96 [some (.ref o), some (.int (nI p))] [.int (nI p)] S rfl ⟨by decide, by decide, rfl⟩ ⟨trivial, (tf_neF (a := (f ((144 + p) + 2))) (b := (f (184 + p))) rfl rfl (by have := hb ((144 + p) + 2); have := hb (184 + p); omega))⟩ ?_
            exact tf_ret ftX11_earlyAt hR rfl ⟨by decide, by decide⟩ rfl rfl (by rw [if_pos ⟨c1, Or.inr ⟨d1, d2⟩⟩, tf_on_y c1]; rfl)
          · refine tf_go hx ftX11_earlyAt 2 [true] 96 [some (.ref o), some (.int (nI p))] [.int (-9)] S rfl ⟨by decide, by decide, rfl⟩ ⟨trivial, (tf_eqF (a := (f ((144 + p) + 2))) (b := (f (184 + p))) rfl rfl (by have := hb ((144 + p) + 2); have := hb (184 + p); omega) (by have := hb ((144 + p) + 2); have := hb (184 + p); omega) (by have := hb ((144 + p) + 2); have := hb (184 + p); omega))⟩ ?_
            exact tf_ret ftX11_earlyAt hR rfl ⟨by decide, by decide⟩ rfl rfl (by rw [if_neg (by rintro ⟨-, h | h⟩; exact e2 h.2; exact d2 h.2)]; rfl)
        · refine tf_go hx ftX11_earlyAt 2 [true] 96 [some (.ref o), some (.int (nI p))] [.int (-9)] S rfl ⟨by decide, by decide, rfl⟩ ⟨trivial, (tf_leT (a := (f 364)) (b := (p + 2)) rfl rfl (by have := hb 364; omega) (by have := hb 364; omega) (by have := hb 364; omega))⟩ ?_
          exact tf_ret ftX11_earlyAt hR rfl ⟨by decide, by decide⟩ rfl rfl (by rw [if_neg (by rintro ⟨-, h | h⟩; exact e2 h.2; exact d1 h.1)]; rfl)
    · refine tf_go hx ftX11_earlyAt 1 [true] 51 [some (.ref o), some (.int (nI p))] [] S rfl ⟨by decide, by decide, rfl⟩ ⟨trivial, (tf_leT (a := (f 364)) (b := (p + 1)) rfl rfl (by have := hb 364; omega) (by have := hb 364; omega) (by have := hb 364; omega))⟩ ?_
      refine tf_go hx ftX11_earlyAt 7 [] 62 [some (.ref o), some (.int (nI p))] [.int (S (tf_rf G o 1) (Int32.toNatClampNeg 364)), .int ((nI p) + 2)] S rfl ⟨by decide, by decide, rfl⟩ ⟨⟨trivial, ⟨by first | assumption | rfl | decide | omega, by first | assumption | rfl | decide | omega⟩⟩, ⟨Or.inl (by first | assumption | rfl | decide | omega), by first | assumption | exact tf_in (n := 364) (rfl : (364 : Int32) = nI 364) (by first | assumption | rfl) (by omega) (by decide)⟩⟩ ?_
      rw [show (S (tf_rf G o 1) (Int32.toNatClampNeg 364)) = nI (f 364) from (tf_rd hs (rfl : (364 : Int32) = nI 364) (by omega))]
      rw [show ((nI p) + 2) = nI (p + 2) from (tf_add rfl (rfl : (2 : Int32) = nI 2))]
      by_cases d1 : p + 2 < f 364
      · refine tf_go hx ftX11_earlyAt 1 [false] 65 [some (.ref o), some (.int (nI p))] [] S rfl ⟨by decide, by decide, rfl⟩ ⟨trivial, (tf_leF (a := (f 364)) (b := (p + 2)) rfl rfl (by have := hb 364; omega) (by have := hb 364; omega) (by have := hb 364; omega))⟩ ?_
        refine tf_go hx ftX11_earlyAt 14 [] 87 [some (.ref o), some (.int (nI p))] [.int (S (tf_rf G o 1) (Int32.toNatClampNeg (184 + (nI p)))), .int (S (tf_rf G o 1) (Int32.toNatClampNeg ((144 + (nI p)) + 2)))] S rfl ⟨by decide, by decide, rfl⟩ ⟨⟨⟨⟨trivial, ⟨by first | assumption | rfl | decide | omega, by first | assumption | rfl | decide | omega⟩⟩, ⟨Or.inl (by first | assumption | rfl | decide | omega), by first | assumption | exact tf_in (n := ((144 + p) + 2)) (tf_add (tf_add (rfl : (144 : Int32) = nI 144) rfl) (rfl : (2 : Int32) = nI 2)) (by first | assumption | rfl) (by omega) (by decide)⟩⟩, ⟨by first | assumption | rfl | decide | omega, by first | assumption | rfl | decide | omega⟩⟩, ⟨Or.inl (by first | assumption | rfl | decide | omega), by first | assumption | exact tf_in (n := (184 + p)) (tf_add (rfl : (184 : Int32) = nI 184) rfl) (by first | assumption | rfl) (by omega) (by decide)⟩⟩ ?_
        rw [show (S (tf_rf G o 1) (Int32.toNatClampNeg (184 + (nI p)))) = nI (f (184 + p)) from (tf_rd hs (tf_add (rfl : (184 : Int32) = nI 184) rfl) (by omega))]
        rw [show (S (tf_rf G o 1) (Int32.toNatClampNeg ((144 + (nI p)) + 2))) = nI (f ((144 + p) + 2)) from (tf_rd hs (tf_add (tf_add (rfl : (144 : Int32) = nI 144) rfl) (rfl : (2 : Int32) = nI 2)) (by omega))]
        by_cases d2 : f (144 + p + 2) = f (184 + p)
        · refine tf_go hx ftX11_earlyAt 3 [false] 96 [some (.ref o), some (.int (nI p))] [.int (nI p)] S rfl ⟨by decide, by decide, rfl⟩ ⟨trivial, (tf_neF (a := (f ((144 + p) + 2))) (b := (f (184 + p))) rfl rfl (by have := hb ((144 + p) + 2); have := hb (184 + p); omega))⟩ ?_
          exact tf_ret ftX11_earlyAt hR rfl ⟨by decide, by decide⟩ rfl rfl (by rw [if_pos ⟨c1, Or.inr ⟨d1, d2⟩⟩, tf_on_y c1]; rfl)
        · refine tf_go hx ftX11_earlyAt 2 [true] 96 [some (.ref o), some (.int (nI p))] [.int (-9)] S rfl ⟨by decide, by decide, rfl⟩ ⟨trivial, (tf_eqF (a := (f ((144 + p) + 2))) (b := (f (184 + p))) rfl rfl (by have := hb ((144 + p) + 2); have := hb (184 + p); omega) (by have := hb ((144 + p) + 2); have := hb (184 + p); omega) (by have := hb ((144 + p) + 2); have := hb (184 + p); omega))⟩ ?_
          exact tf_ret ftX11_earlyAt hR rfl ⟨by decide, by decide⟩ rfl rfl (by rw [if_neg (by rintro ⟨-, h | h⟩; exact e1 h.1; exact d2 h.2)]; rfl)
      · refine tf_go hx ftX11_earlyAt 2 [true] 96 [some (.ref o), some (.int (nI p))] [.int (-9)] S rfl ⟨by decide, by decide, rfl⟩ ⟨trivial, (tf_leT (a := (f 364)) (b := (p + 2)) rfl rfl (by have := hb 364; omega) (by have := hb 364; omega) (by have := hb 364; omega))⟩ ?_
        exact tf_ret ftX11_earlyAt hR rfl ⟨by decide, by decide⟩ rfl rfl (by rw [if_neg (by rintro ⟨-, h | h⟩; exact e1 h.1; exact d1 h.1)]; rfl)
  · rw [tf_on_n c1]
    refine tf_go hx ftX11_earlyAt 2 [] 6 [some (.ref o), some (.int (-9))] [.int (-9)] S rfl ⟨by decide, by decide, rfl⟩ trivial ?_
    refine tf_go hx ftX11_earlyAt 2 [false] 11 [some (.ref o), some (.int (-9))] [.int (-9)] S rfl ⟨by decide, by decide, rfl⟩ ⟨trivial, (by decide)⟩ ?_
    exact tf_ret ftX11_earlyAt hR rfl ⟨by decide, by decide⟩ rfl rfl (by unfold tf_ea; rw [if_neg (by rintro ⟨h, -⟩; exact c1 h)]; rfl)

set_option maxHeartbeats 1000000 in
theorem m_lostAt {G : tf_G} {S : tf_Sg} {o : Nat} {f : Nat → Nat} (ho : tf_mo G o) (hf : tf_sf G S o f) (hg : tf_gd f) : tf_Fn mX11_lostAt 1 0 0 G S [.ref o] G S (some (.int (tf_on 41 (tf_lo f)))) := by
  obtain ⟨h1, ⟨r0, t0, n0⟩, ⟨r1, t1, n1⟩, ⟨r2, t2, n2⟩, ⟨r4, t4, n4⟩⟩ := id ho
  obtain ⟨hs, hb⟩ := id hf
  obtain ⟨⟨g1, g2, g3, g4⟩, g5, g6, g7, g8, g9, g10, g11⟩ := id hg
  refine tf_Fn_of (own := RX11) false ⟨by decide, rfl, by decide⟩ (Nat.le_of_ble_eq_true rfl) trivial (fun x hx hR => ?_)
  show tf_K x 0 0 G S 0 [some (.ref o), none, none, none] []
  unfold tf_lo at hR
  refine tf_go hx ftX11_lostAt 7 [] 15 [some (.ref o), none, none, none] [.int 364, .ref (tf_rf G o 1), .int (S (tf_rf G o 1) (Int32.toNatClampNeg 365))] S rfl ⟨by decide, by decide, rfl⟩ ⟨⟨⟨trivial, ⟨by first | assumption | rfl | decide | omega, by first | assumption | rfl | decide | omega⟩⟩, ⟨Or.inl (by first | assumption | rfl | decide | omega), by first | assumption | exact tf_in (n := 365) (rfl : (365 : Int32) = nI 365) (by first | assumption | rfl) (by omega) (by decide)⟩⟩, ⟨by first | assumption | rfl | decide | omega, by first | assumption | rfl | decide | omega⟩⟩ ?_
  rw [show (S (tf_rf G o 1) (Int32.toNatClampNeg 365)) = nI (f 365) from (tf_rd hs (rfl : (365 : Int32) = nI 365) (by omega))]
  by_cases c0 : 1 ≤ f 364
  · refine tf_go hx ftX11_lostAt 2 [] 17 [some (.ref o), none, none, none] [.int 1, .int (S (tf_rf G o 1) (Int32.toNatClampNeg 364)), .int (nI (f 365))] S rfl ⟨by decide, by decide, rfl⟩ ⟨trivial, ⟨Or.inl (by first | assumption | rfl | decide | omega), by first | assumption | exact tf_in (n := 364) (rfl : (364 : Int32) = nI 364) (by first | assumption | rfl) (by omega) (by decide)⟩⟩ ?_
    rw [show (S (tf_rf G o 1) (Int32.toNatClampNeg 364)) = nI (f 364) from (tf_rd hs (rfl : (364 : Int32) = nI 364) (by omega))]
    by_cases c1 : f 365 + 1 = f 364
    · refine tf_go hx ftX11_lostAt 4 [true] 26 [some (.ref o), some (.int 0), none, none] [] S rfl ⟨by decide, by decide, rfl⟩ ⟨trivial, (tf_eqT (a := (f 365)) (b := ((f 364) - 1)) rfl (tf_sub rfl (rfl : (1 : Int32) = nI 1) (by have := hb 364; omega)) (by have := hb 365; have := hb 364; omega))⟩ ?_
      have loop : ∀ (m k : Nat), k + m = (f 364) → (tf_fst (fun i => tf_all (tf_lp f i) (f 365) 0) m k = tf_fst (fun i => tf_all (tf_lp f i) (f 365) 0) (f 364) 0) → tf_K x 0 0 G S 26 [some (.ref o), some (.int (nI k)), none, none] [] := by
        intro m
        induction m with
        | zero =>
          intro k hk he
          rw [tf_fst_0] at he
          refine tf_go hx ftX11_lostAt 5 [] 35 [some (.ref o), some (.int (nI k)), none, none] [.int (S (tf_rf G o 1) (Int32.toNatClampNeg 364)), .int (nI k)] S rfl ⟨by decide, by decide, rfl⟩ ⟨⟨trivial, ⟨by first | assumption | rfl | decide | omega, by first | assumption | rfl | decide | omega⟩⟩, ⟨Or.inl (by first | assumption | rfl | decide | omega), by first | assumption | exact tf_in (n := 364) (rfl : (364 : Int32) = nI 364) (by first | assumption | rfl) (by omega) (by decide)⟩⟩ ?_
          rw [show (S (tf_rf G o 1) (Int32.toNatClampNeg 364)) = nI (f 364) from (tf_rd hs (rfl : (364 : Int32) = nI 364) (by omega))]
          refine tf_go hx ftX11_lostAt 2 [true] 118 [some (.ref o), some (.int (nI k)), none, none] [.int (-9)] S rfl ⟨by decide, by decide, rfl⟩ ⟨trivial, (tf_leT (a := (f 364)) (b := k) rfl rfl (by have := hb 364; omega) (by have := hb 364; omega) (by have := hb 364; omega))⟩ ?_
          exact tf_ret ftX11_lostAt hR rfl ⟨by decide, by decide⟩ rfl rfl (by rw [if_neg (by rintro ⟨-, h⟩; omega)]; rfl)
        | succ m ih =>
          intro k hk he
          refine tf_go hx ftX11_lostAt 5 [] 35 [some (.ref o), some (.int (nI k)), none, none] [.int (S (tf_rf G o 1) (Int32.toNatClampNeg 364)), .int (nI k)] S rfl ⟨by decide, by decide, rfl⟩ ⟨⟨trivial, ⟨by first | assumption | rfl | decide | omega, by first | assumption | rfl | decide | omega⟩⟩, ⟨Or.inl (by first | assumption | rfl | decide | omega), by first | assumption | exact tf_in (n := 364) (rfl : (364 : Int32) = nI 364) (by first | assumption | rfl) (by omega) (by decide)⟩⟩ ?_
          rw [show (S (tf_rf G o 1) (Int32.toNatClampNeg 364)) = nI (f 364) from (tf_rd hs (rfl : (364 : Int32) = nI 364) (by omega))]
          refine tf_go hx ftX11_lostAt 5 [false] 42 [some (.ref o), some (.int (nI k)), some (.int 1), some (.int 0)] [] S rfl ⟨by decide, by decide, rfl⟩ ⟨trivial, (tf_leF (a := (f 364)) (b := k) rfl rfl (by have := hb 364; omega) (by have := hb 364; omega) (by have := hb 364; omega))⟩ ?_
          have inner : ∀ (i j : Nat) (q : Int32), j + i = f 365 → (q = 1 ∧ tf_all (tf_lp f k) i j = tf_all (tf_lp f k) (f 365) 0) ∨ (q = 0 ∧ tf_all (tf_lp f k) (f 365) 0 = false) → tf_K x 0 0 G S 42 [some (.ref o), some (.int (nI k)), some (.int q), some (.int (nI j))] [] := by
            intro i
            induction i with
            | zero =>
              intro j q hj hq
              refine tf_go hx ftX11_lostAt 5 [] 51 [some (.ref o), some (.int (nI k)), some (.int q), some (.int (nI j))] [.int (S (tf_rf G o 1) (Int32.toNatClampNeg 365)), .int (nI j)] S rfl ⟨by decide, by decide, rfl⟩ ⟨⟨trivial, ⟨by first | assumption | rfl | decide | omega, by first | assumption | rfl | decide | omega⟩⟩, ⟨Or.inl (by first | assumption | rfl | decide | omega), by first | assumption | exact tf_in (n := 365) (rfl : (365 : Int32) = nI 365) (by first | assumption | rfl) (by omega) (by decide)⟩⟩ ?_
              rw [show (S (tf_rf G o 1) (Int32.toNatClampNeg 365)) = nI (f 365) from (tf_rd hs (rfl : (365 : Int32) = nI 365) (by omega))]
              refine tf_go hx ftX11_lostAt 1 [true] 104 [some (.ref o), some (.int (nI k)), some (.int q), some (.int (nI j))] [] S rfl ⟨by decide, by decide, rfl⟩ ⟨trivial, (tf_leT (a := (f 365)) (b := j) rfl rfl (by have := hb 365; omega) (by have := hb 365; omega) (by have := hb 365; omega))⟩ ?_
              refine tf_go hx ftX11_lostAt 1 [] 105 [some (.ref o), some (.int (nI k)), some (.int q), some (.int (nI j))] [.int q] S rfl ⟨by decide, by decide, rfl⟩ trivial ?_
              rcases hq with ⟨rfl, hq⟩ | ⟨rfl, hq⟩
              · rw [tf_all_0] at hq
                refine tf_go hx ftX11_lostAt 2 [false] 109 [some (.ref o), some (.int (nI k)), some (.int 1), some (.int (nI j))] [.int (nI k)] S rfl ⟨by decide, by decide, rfl⟩ ⟨trivial, (by decide)⟩ ?_
                exact tf_ret ftX11_lostAt hR rfl ⟨by decide, by decide⟩ rfl rfl (by rw [tf_fst_y (P := fun i => tf_all (tf_lp f i) (f 365) 0) hq.symm] at he; rw [if_pos ⟨c1, by omega⟩, ← he, tf_on_y (by omega)]; rfl)
              · refine tf_go hx ftX11_lostAt 3 [true] 26 [some (.ref o), some (.int ((nI k) + 1)), some (.int 0), some (.int (nI j))] [] S rfl ⟨by decide, by decide, rfl⟩ ⟨trivial, (by decide)⟩ ?_
                rw [show ((nI k) + 1) = nI (k + 1) from (tf_add rfl (rfl : (1 : Int32) = nI 1))]
                refine tf_fgt [some (.ref o), some (.int (nI (k + 1))), none, none] (by simp [tf_lss]) ?_
                exact ih (k + 1) (by omega) (by rw [← he, tf_fst_n (by rw [hq]; decide)])
            | succ i ihj =>
              intro j q hj hq
              refine tf_go hx ftX11_lostAt 5 [] 51 [some (.ref o), some (.int (nI k)), some (.int q), some (.int (nI j))] [.int (S (tf_rf G o 1) (Int32.toNatClampNeg 365)), .int (nI j)] S rfl ⟨by decide, by decide, rfl⟩ ⟨⟨trivial, ⟨by first | assumption | rfl | decide | omega, by first | assumption | rfl | decide | omega⟩⟩, ⟨Or.inl (by first | assumption | rfl | decide | omega), by first | assumption | exact tf_in (n := 365) (rfl : (365 : Int32) = nI 365) (by first | assumption | rfl) (by omega) (by decide)⟩⟩ ?_
              rw [show (S (tf_rf G o 1) (Int32.toNatClampNeg 365)) = nI (f 365) from (tf_rd hs (rfl : (365 : Int32) = nI 365) (by omega))]
              refine tf_go hx ftX11_lostAt 1 [false] 54 [some (.ref o), some (.int (nI k)), some (.int q), some (.int (nI j))] [] S rfl ⟨by decide, by decide, rfl⟩ ⟨trivial, (tf_leF (a := (f 365)) (b := j) rfl rfl (by have := hb 365; omega) (by have := hb 365; omega) (by have := hb 365; omega))⟩ ?_
              refine tf_go hx ftX11_lostAt 1 [] 55 [some (.ref o), some (.int (nI k)), some (.int q), some (.int (nI j))] [.int q] S rfl ⟨by decide, by decide, rfl⟩ trivial ?_
              rcases hq with ⟨rfl, hq⟩ | ⟨rfl, hq⟩
              · rw [tf_all_s] at hq
                refine tf_go hx ftX11_lostAt 1 [false] 58 [some (.ref o), some (.int (nI k)), some (.int 1), some (.int (nI j))] [] S rfl ⟨by decide, by decide, rfl⟩ ⟨trivial, (by decide)⟩ ?_
                refine tf_go hx ftX11_lostAt 11 [] 77 [some (.ref o), some (.int (nI k)), some (.int 1), some (.int (nI j))] [.int (nI k), .int (nI j), .int 144, .ref (tf_rf G o 1), .int (S (tf_rf G o 1) (Int32.toNatClampNeg (184 + (nI j))))] S rfl ⟨by decide, by decide, rfl⟩ ⟨⟨⟨trivial, ⟨by first | assumption | rfl | decide | omega, by first | assumption | rfl | decide | omega⟩⟩, ⟨Or.inl (by first | assumption | rfl | decide | omega), by first | assumption | exact tf_in (n := (184 + j)) (tf_add (rfl : (184 : Int32) = nI 184) rfl) (by first | assumption | rfl) (by omega) (by decide)⟩⟩, ⟨by first | assumption | rfl | decide | omega, by first | assumption | rfl | decide | omega⟩⟩ ?_
                rw [show (S (tf_rf G o 1) (Int32.toNatClampNeg (184 + (nI j)))) = nI (f (184 + j)) from (tf_rd hs (tf_add (rfl : (184 : Int32) = nI 184) rfl) (by omega))]
                by_cases d0 : j < k
                · refine tf_go hx ftX11_lostAt 1 [false] 80 [some (.ref o), some (.int (nI k)), some (.int 1), some (.int (nI j))] [.int 144, .ref (tf_rf G o 1), .int (nI (f (184 + j)))] S rfl ⟨by decide, by decide, rfl⟩ ⟨trivial, (tf_leF (a := k) (b := j) rfl rfl (by omega) (by omega) (by omega))⟩ ?_
                  refine tf_go hx ftX11_lostAt 4 [] 89 [some (.ref o), some (.int (nI k)), some (.int 1), some (.int (nI j))] [.int (S (tf_rf G o 1) (Int32.toNatClampNeg (144 + (nI j)))), .int (nI (f (184 + j)))] S rfl ⟨by decide, by decide, rfl⟩ ⟨trivial, ⟨Or.inl (by first | assumption | rfl | decide | omega), by first | assumption | exact tf_in (n := (144 + j)) (tf_add (rfl : (144 : Int32) = nI 144) rfl) (by first | assumption | rfl) (by omega) (by decide)⟩⟩ ?_
                  rw [show (S (tf_rf G o 1) (Int32.toNatClampNeg (144 + (nI j)))) = nI (f (144 + j)) from (tf_rd hs (tf_add (rfl : (144 : Int32) = nI 144) rfl) (by omega))]
                  by_cases d1 : f (184 + j) = f (144 + j)
                  · have lp : tf_lp f k j = true := by unfold tf_lp; rw [if_pos d0]; simpa using d1
                    refine tf_go hx ftX11_lostAt 6 [false] 42 [some (.ref o), some (.int (nI k)), some (.int 1), some (.int ((nI j) + 1))] [] S rfl ⟨by decide, by decide, rfl⟩ ⟨trivial, (tf_neF (a := (f (184 + j))) (b := (f (144 + j))) rfl rfl (by have := hb (184 + j); have := hb (144 + j); omega))⟩ ?_
                    rw [show ((nI j) + 1) = nI (j + 1) from (tf_add rfl (rfl : (1 : Int32) = nI 1))]
                    exact ihj (j + 1) 1 (by omega) (Or.inl ⟨rfl, by rw [← hq, lp, Bool.true_and]⟩)
                  · have lp : tf_lp f k j = false := by unfold tf_lp; rw [if_pos d0]; simpa using d1
                    refine tf_go hx ftX11_lostAt 5 [true] 42 [some (.ref o), some (.int (nI k)), some (.int 0), some (.int ((nI j) + 1))] [] S rfl ⟨by decide, by decide, rfl⟩ ⟨trivial, (tf_eqF (a := (f (184 + j))) (b := (f (144 + j))) rfl rfl (by have := hb (184 + j); have := hb (144 + j); omega) (by have := hb (184 + j); have := hb (144 + j); omega) (by have := hb (184 + j); have := hb (144 + j); omega))⟩ ?_
                    rw [show ((nI j) + 1) = nI (j + 1) from (tf_add rfl (rfl : (1 : Int32) = nI 1))]
                    exact ihj (j + 1) 0 (by omega) (Or.inr ⟨rfl, by rw [← hq, lp, Bool.false_and]⟩)
                · refine tf_go hx ftX11_lostAt 1 [true] 84 [some (.ref o), some (.int (nI k)), some (.int 1), some (.int (nI j))] [.int 144, .ref (tf_rf G o 1), .int (nI (f (184 + j)))] S rfl ⟨by decide, by decide, rfl⟩ ⟨trivial, (tf_leT (a := k) (b := j) rfl rfl (by omega) (by omega) (by omega))⟩ ?_
                  refine tf_go hx ftX11_lostAt 5 [] 89 [some (.ref o), some (.int (nI k)), some (.int 1), some (.int (nI j))] [.int (S (tf_rf G o 1) (Int32.toNatClampNeg (144 + ((nI j) + 1)))), .int (nI (f (184 + j)))] S rfl ⟨by decide, by decide, rfl⟩ ⟨trivial, ⟨Or.inl (by first | assumption | rfl | decide | omega), by first | assumption | exact tf_in (n := (144 + (j + 1))) (tf_add (rfl : (144 : Int32) = nI 144) (tf_add rfl (rfl : (1 : Int32) = nI 1))) (by first | assumption | rfl) (by omega) (by decide)⟩⟩ ?_
                  rw [show (S (tf_rf G o 1) (Int32.toNatClampNeg (144 + ((nI j) + 1)))) = nI (f (144 + (j + 1))) from (tf_rd hs (tf_add (rfl : (144 : Int32) = nI 144) (tf_add rfl (rfl : (1 : Int32) = nI 1))) (by omega))]
                  by_cases d1 : f (184 + j) = f (144 + (j + 1))
                  · have lp : tf_lp f k j = true := by unfold tf_lp; rw [if_neg d0]; simpa using d1
                    refine tf_go hx ftX11_lostAt 6 [false] 42 [some (.ref o), some (.int (nI k)), some (.int 1), some (.int ((nI j) + 1))] [] S rfl ⟨by decide, by decide, rfl⟩ ⟨trivial, (tf_neF (a := (f (184 + j))) (b := (f (144 + (j + 1)))) rfl rfl (by have := hb (184 + j); have := hb (144 + (j + 1)); omega))⟩ ?_
                    rw [show ((nI j) + 1) = nI (j + 1) from (tf_add rfl (rfl : (1 : Int32) = nI 1))]
                    exact ihj (j + 1) 1 (by omega) (Or.inl ⟨rfl, by rw [← hq, lp, Bool.true_and]⟩)
                  · have lp : tf_lp f k j = false := by unfold tf_lp; rw [if_neg d0]; simpa using d1
                    refine tf_go hx ftX11_lostAt 5 [true] 42 [some (.ref o), some (.int (nI k)), some (.int 0), some (.int ((nI j) + 1))] [] S rfl ⟨by decide, by decide, rfl⟩ ⟨trivial, (tf_eqF (a := (f (184 + j))) (b := (f (144 + (j + 1)))) rfl rfl (by have := hb (184 + j); have := hb (144 + (j + 1)); omega) (by have := hb (184 + j); have := hb (144 + (j + 1)); omega) (by have := hb (184 + j); have := hb (144 + (j + 1)); omega))⟩ ?_
                    rw [show ((nI j) + 1) = nI (j + 1) from (tf_add rfl (rfl : (1 : Int32) = nI 1))]
                    exact ihj (j + 1) 0 (by omega) (Or.inr ⟨rfl, by rw [← hq, lp, Bool.false_and]⟩)
              · refine tf_go hx ftX11_lostAt 5 [true] 42 [some (.ref o), some (.int (nI k)), some (.int 0), some (.int ((nI j) + 1))] [] S rfl ⟨by decide, by decide, rfl⟩ ⟨trivial, (by decide)⟩ ?_
                rw [show ((nI j) + 1) = nI (j + 1) from (tf_add rfl (rfl : (1 : Int32) = nI 1))]
                exact ihj (j + 1) 0 (by omega) (Or.inr ⟨rfl, hq⟩)
          exact inner (f 365) 0 1 (by omega) (Or.inl ⟨rfl, rfl⟩)
      exact loop (f 364) 0 (by omega) rfl
    · refine tf_go hx ftX11_lostAt 3 [false] 23 [some (.ref o), none, none, none] [.int (-9)] S rfl ⟨by decide, by decide, rfl⟩ ⟨trivial, (tf_eqF (a := (f 365)) (b := ((f 364) - 1)) rfl (tf_sub rfl (rfl : (1 : Int32) = nI 1) (by have := hb 364; omega)) (by have := hb 365; have := hb 364; omega) (by have := hb 365; have := hb 364; omega) (by have := hb 365; have := hb 364; omega))⟩ ?_
      exact tf_ret ftX11_lostAt hR rfl ⟨by decide, by decide⟩ rfl rfl (by rw [if_neg (by rintro ⟨h, -⟩; exact c1 h)]; rfl)
  · refine tf_go hx ftX11_lostAt 2 [] 17 [some (.ref o), none, none, none] [.int 1, .int (S (tf_rf G o 1) (Int32.toNatClampNeg 364)), .int (nI (f 365))] S rfl ⟨by decide, by decide, rfl⟩ ⟨trivial, ⟨Or.inl (by first | assumption | rfl | decide | omega), by first | assumption | exact tf_in (n := 364) (rfl : (364 : Int32) = nI 364) (by first | assumption | rfl) (by omega) (by decide)⟩⟩ ?_
    rw [show (S (tf_rf G o 1) (Int32.toNatClampNeg 364)) = nI (f 364) from (tf_rd hs (rfl : (364 : Int32) = nI 364) (by omega))]
    have z0 : f 364 = 0 := by omega
    refine tf_go hx ftX11_lostAt 3 [false] 23 [some (.ref o), none, none, none] [.int (-9)] S rfl ⟨by decide, by decide, rfl⟩ ⟨trivial, (by rw [z0]; intro h; have h2 : nI (f 365 + 1) = nI 0 := (by rw [← nI_1, h]; decide); have := (nI_eq (by have := hb 365; omega) (by omega)).mp h2; omega)⟩ ?_
    exact tf_ret ftX11_lostAt hR rfl ⟨by decide, by decide⟩ rfl rfl (by rw [if_neg (by rintro ⟨h, -⟩; omega)]; rfl)

set_option maxHeartbeats 1000000 in
theorem m_caughtAt {G : tf_G} {S : tf_Sg} {o : Nat} {f : Nat → Nat} (ho : tf_mo G o) (hf : tf_sf G S o f) (hg : tf_gd f) : tf_Fn mX11_caughtAt 1 0 0 G S [.ref o] G S (some (.int (tf_on 41 (tf_ca f)))) := by
  obtain ⟨h1, ⟨r0, t0, n0⟩, ⟨r1, t1, n1⟩, ⟨r2, t2, n2⟩, ⟨r4, t4, n4⟩⟩ := id ho
  obtain ⟨hs, hb⟩ := id hf
  obtain ⟨⟨g1, g2, g3, g4⟩, g5, g6, g7, g8, g9, g10, g11⟩ := id hg
  refine tf_Fn_of (own := RX11) false ⟨by decide, rfl, by decide⟩ (Nat.le_of_ble_eq_true rfl) trivial (fun x hx hR => ?_)
  show tf_K x 0 0 G S 0 [some (.ref o), none, none, none] []
  unfold tf_ca at hR
  refine tf_go hx ftX11_caughtAt 9 [] 17 [some (.ref o), none, none, none] [.int 2, .int (S (tf_rf G o 1) (Int32.toNatClampNeg 364)), .int (S (tf_rf G o 1) (Int32.toNatClampNeg 365))] S rfl ⟨by decide, by decide, rfl⟩ ⟨⟨⟨⟨trivial, ⟨by first | assumption | rfl | decide | omega, by first | assumption | rfl | decide | omega⟩⟩, ⟨Or.inl (by first | assumption | rfl | decide | omega), by first | assumption | exact tf_in (n := 365) (rfl : (365 : Int32) = nI 365) (by first | assumption | rfl) (by omega) (by decide)⟩⟩, ⟨by first | assumption | rfl | decide | omega, by first | assumption | rfl | decide | omega⟩⟩, ⟨Or.inl (by first | assumption | rfl | decide | omega), by first | assumption | exact tf_in (n := 364) (rfl : (364 : Int32) = nI 364) (by first | assumption | rfl) (by omega) (by decide)⟩⟩ ?_
  rw [show (S (tf_rf G o 1) (Int32.toNatClampNeg 364)) = nI (f 364) from (tf_rd hs (rfl : (364 : Int32) = nI 364) (by omega))]
  rw [show (S (tf_rf G o 1) (Int32.toNatClampNeg 365)) = nI (f 365) from (tf_rd hs (rfl : (365 : Int32) = nI 365) (by omega))]
  by_cases c1 : f 365 = f 364 + 2
  · refine tf_go hx ftX11_caughtAt 4 [true] 26 [some (.ref o), some (.int 0), none, none] [] S rfl ⟨by decide, by decide, rfl⟩ ⟨trivial, (tf_eqT (a := (f 365)) (b := ((f 364) + 2)) rfl (tf_add rfl (rfl : (2 : Int32) = nI 2)) (by have := hb 365; have := hb 364; omega))⟩ ?_
    have loop : ∀ (m k : Nat), k + m = (f 364) → (tf_fst (fun i => tf_ch f i && tf_all (tf_cp f i) (f 364) 0) m k = tf_fst (fun i => tf_ch f i && tf_all (tf_cp f i) (f 364) 0) (f 364) 0) → tf_K x 0 0 G S 26 [some (.ref o), some (.int (nI k)), none, none] [] := by
      intro m
      induction m with
      | zero =>
        intro k hk he
        rw [tf_fst_0] at he
        refine tf_go hx ftX11_caughtAt 5 [] 35 [some (.ref o), some (.int (nI k)), none, none] [.int (S (tf_rf G o 1) (Int32.toNatClampNeg 364)), .int (nI k)] S rfl ⟨by decide, by decide, rfl⟩ ⟨⟨trivial, ⟨by first | assumption | rfl | decide | omega, by first | assumption | rfl | decide | omega⟩⟩, ⟨Or.inl (by first | assumption | rfl | decide | omega), by first | assumption | exact tf_in (n := 364) (rfl : (364 : Int32) = nI 364) (by first | assumption | rfl) (by omega) (by decide)⟩⟩ ?_
        rw [show (S (tf_rf G o 1) (Int32.toNatClampNeg 364)) = nI (f 364) from (tf_rd hs (rfl : (364 : Int32) = nI 364) (by omega))]
        refine tf_go hx ftX11_caughtAt 2 [true] 177 [some (.ref o), some (.int (nI k)), none, none] [.int (-9)] S rfl ⟨by decide, by decide, rfl⟩ ⟨trivial, (tf_leT (a := (f 364)) (b := k) rfl rfl (by have := hb 364; omega) (by have := hb 364; omega) (by have := hb 364; omega))⟩ ?_
        exact tf_ret ftX11_caughtAt hR rfl ⟨by decide, by decide⟩ rfl rfl (by rw [if_neg (by rintro ⟨-, h⟩; omega)]; rfl)
      | succ m ih =>
        intro k hk he
        refine tf_go hx ftX11_caughtAt 5 [] 35 [some (.ref o), some (.int (nI k)), none, none] [.int (S (tf_rf G o 1) (Int32.toNatClampNeg 364)), .int (nI k)] S rfl ⟨by decide, by decide, rfl⟩ ⟨⟨trivial, ⟨by first | assumption | rfl | decide | omega, by first | assumption | rfl | decide | omega⟩⟩, ⟨Or.inl (by first | assumption | rfl | decide | omega), by first | assumption | exact tf_in (n := 364) (rfl : (364 : Int32) = nI 364) (by first | assumption | rfl) (by omega) (by decide)⟩⟩ ?_
        rw [show (S (tf_rf G o 1) (Int32.toNatClampNeg 364)) = nI (f 364) from (tf_rd hs (rfl : (364 : Int32) = nI 364) (by omega))]
        refine tf_go hx ftX11_caughtAt 1 [false] 38 [some (.ref o), some (.int (nI k)), none, none] [] S rfl ⟨by decide, by decide, rfl⟩ ⟨trivial, (tf_leF (a := (f 364)) (b := k) rfl rfl (by have := hb 364; omega) (by have := hb 364; omega) (by have := hb 364; omega))⟩ ?_
        have inner : ∀ (i j : Nat) (q : Int32), j + i = f 364 → (q = 1 ∧ (tf_all (tf_cp f k) i j) = (tf_ch f k && tf_all (tf_cp f k) (f 364) 0)) ∨ (q = 0 ∧ (tf_ch f k && tf_all (tf_cp f k) (f 364) 0) = false) → tf_K x 0 0 G S 101 [some (.ref o), some (.int (nI k)), some (.int q), some (.int (nI j))] [] := by
          intro i
          induction i with
          | zero =>
            intro j q hj hq
            refine tf_go hx ftX11_caughtAt 5 [] 110 [some (.ref o), some (.int (nI k)), some (.int q), some (.int (nI j))] [.int (S (tf_rf G o 1) (Int32.toNatClampNeg 364)), .int (nI j)] S rfl ⟨by decide, by decide, rfl⟩ ⟨⟨trivial, ⟨by first | assumption | rfl | decide | omega, by first | assumption | rfl | decide | omega⟩⟩, ⟨Or.inl (by first | assumption | rfl | decide | omega), by first | assumption | exact tf_in (n := 364) (rfl : (364 : Int32) = nI 364) (by first | assumption | rfl) (by omega) (by decide)⟩⟩ ?_
            rw [show (S (tf_rf G o 1) (Int32.toNatClampNeg 364)) = nI (f 364) from (tf_rd hs (rfl : (364 : Int32) = nI 364) (by omega))]
            refine tf_go hx ftX11_caughtAt 1 [true] 163 [some (.ref o), some (.int (nI k)), some (.int q), some (.int (nI j))] [] S rfl ⟨by decide, by decide, rfl⟩ ⟨trivial, (tf_leT (a := (f 364)) (b := j) rfl rfl (by have := hb 364; omega) (by have := hb 364; omega) (by have := hb 364; omega))⟩ ?_
            refine tf_go hx ftX11_caughtAt 1 [] 164 [some (.ref o), some (.int (nI k)), some (.int q), some (.int (nI j))] [.int q] S rfl ⟨by decide, by decide, rfl⟩ trivial ?_
            rcases hq with ⟨rfl, hq⟩ | ⟨rfl, hq⟩
            · rw [tf_all_0] at hq
              refine tf_go hx ftX11_caughtAt 2 [false] 168 [some (.ref o), some (.int (nI k)), some (.int 1), some (.int (nI j))] [.int (nI k)] S rfl ⟨by decide, by decide, rfl⟩ ⟨trivial, (by decide)⟩ ?_
              exact tf_ret ftX11_caughtAt hR rfl ⟨by decide, by decide⟩ rfl rfl (by rw [tf_fst_y hq.symm] at he; rw [if_pos ⟨c1, by omega⟩, ← he, tf_on_y (by omega)]; rfl)
            · refine tf_go hx ftX11_caughtAt 3 [true] 26 [some (.ref o), some (.int ((nI k) + 1)), some (.int 0), some (.int (nI j))] [] S rfl ⟨by decide, by decide, rfl⟩ ⟨trivial, (by decide)⟩ ?_
              rw [show ((nI k) + 1) = nI (k + 1) from (tf_add rfl (rfl : (1 : Int32) = nI 1))]
              refine tf_fgt [some (.ref o), some (.int (nI (k + 1))), none, none] (by simp [tf_lss]) ?_
              exact ih (k + 1) (by omega) (by rw [← he, tf_fst_n (by rw [hq]; decide)])
          | succ i ihj =>
            intro j q hj hq
            refine tf_go hx ftX11_caughtAt 5 [] 110 [some (.ref o), some (.int (nI k)), some (.int q), some (.int (nI j))] [.int (S (tf_rf G o 1) (Int32.toNatClampNeg 364)), .int (nI j)] S rfl ⟨by decide, by decide, rfl⟩ ⟨⟨trivial, ⟨by first | assumption | rfl | decide | omega, by first | assumption | rfl | decide | omega⟩⟩, ⟨Or.inl (by first | assumption | rfl | decide | omega), by first | assumption | exact tf_in (n := 364) (rfl : (364 : Int32) = nI 364) (by first | assumption | rfl) (by omega) (by decide)⟩⟩ ?_
            rw [show (S (tf_rf G o 1) (Int32.toNatClampNeg 364)) = nI (f 364) from (tf_rd hs (rfl : (364 : Int32) = nI 364) (by omega))]
            refine tf_go hx ftX11_caughtAt 1 [false] 113 [some (.ref o), some (.int (nI k)), some (.int q), some (.int (nI j))] [] S rfl ⟨by decide, by decide, rfl⟩ ⟨trivial, (tf_leF (a := (f 364)) (b := j) rfl rfl (by have := hb 364; omega) (by have := hb 364; omega) (by have := hb 364; omega))⟩ ?_
            refine tf_go hx ftX11_caughtAt 1 [] 114 [some (.ref o), some (.int (nI k)), some (.int q), some (.int (nI j))] [.int q] S rfl ⟨by decide, by decide, rfl⟩ trivial ?_
            rcases hq with ⟨rfl, hq⟩ | ⟨rfl, hq⟩
            · rw [tf_all_s] at hq
              refine tf_go hx ftX11_caughtAt 1 [false] 117 [some (.ref o), some (.int (nI k)), some (.int 1), some (.int (nI j))] [] S rfl ⟨by decide, by decide, rfl⟩ ⟨trivial, (by decide)⟩ ?_
              refine tf_go hx ftX11_caughtAt 5 [] 126 [some (.ref o), some (.int (nI k)), some (.int 1), some (.int (nI j))] [.int (nI k), .int (nI j), .int 184, .ref (tf_rf G o 1)] S rfl ⟨by decide, by decide, rfl⟩ ⟨trivial, ⟨by first | assumption | rfl | decide | omega, by first | assumption | rfl | decide | omega⟩⟩ ?_
              by_cases d0 : j < k
              · refine tf_go hx ftX11_caughtAt 1 [false] 129 [some (.ref o), some (.int (nI k)), some (.int 1), some (.int (nI j))] [.int 184, .ref (tf_rf G o 1)] S rfl ⟨by decide, by decide, rfl⟩ ⟨trivial, (tf_leF (a := k) (b := j) rfl rfl (by omega) (by omega) (by omega))⟩ ?_
                refine tf_go hx ftX11_caughtAt 10 [] 148 [some (.ref o), some (.int (nI k)), some (.int 1), some (.int (nI j))] [.int (S (tf_rf G o 1) (Int32.toNatClampNeg (144 + (nI j)))), .int (S (tf_rf G o 1) (Int32.toNatClampNeg (184 + (nI j))))] S rfl ⟨by decide, by decide, rfl⟩ ⟨⟨⟨trivial, ⟨Or.inl (by first | assumption | rfl | decide | omega), by first | assumption | exact tf_in (n := (184 + j)) (tf_add (rfl : (184 : Int32) = nI 184) rfl) (by first | assumption | rfl) (by omega) (by decide)⟩⟩, ⟨by first | assumption | rfl | decide | omega, by first | assumption | rfl | decide | omega⟩⟩, ⟨Or.inl (by first | assumption | rfl | decide | omega), by first | assumption | exact tf_in (n := (144 + j)) (tf_add (rfl : (144 : Int32) = nI 144) rfl) (by first | assumption | rfl) (by omega) (by decide)⟩⟩ ?_
                rw [show (S (tf_rf G o 1) (Int32.toNatClampNeg (144 + (nI j)))) = nI (f (144 + j)) from (tf_rd hs (tf_add (rfl : (144 : Int32) = nI 144) rfl) (by omega))]
                rw [show (S (tf_rf G o 1) (Int32.toNatClampNeg (184 + (nI j)))) = nI (f (184 + j)) from (tf_rd hs (tf_add (rfl : (184 : Int32) = nI 184) rfl) (by omega))]
                by_cases d1 : f (184 + j) = f (144 + j)
                · have lp : tf_cp f k j = true := by unfold tf_cp; rw [if_pos d0]; simpa using d1
                  refine tf_go hx ftX11_caughtAt 6 [false] 101 [some (.ref o), some (.int (nI k)), some (.int 1), some (.int ((nI j) + 1))] [] S rfl ⟨by decide, by decide, rfl⟩ ⟨trivial, (tf_neF (a := (f (184 + j))) (b := (f (144 + j))) rfl rfl (by have := hb (184 + j); have := hb (144 + j); omega))⟩ ?_
                  rw [show ((nI j) + 1) = nI (j + 1) from (tf_add rfl (rfl : (1 : Int32) = nI 1))]
                  exact ihj (j + 1) 1 (by omega) (Or.inl ⟨rfl, by rw [← hq, lp, Bool.true_and]⟩)
                · have lp : tf_cp f k j = false := by unfold tf_cp; rw [if_pos d0]; simpa using d1
                  refine tf_go hx ftX11_caughtAt 5 [true] 101 [some (.ref o), some (.int (nI k)), some (.int 0), some (.int ((nI j) + 1))] [] S rfl ⟨by decide, by decide, rfl⟩ ⟨trivial, (tf_eqF (a := (f (184 + j))) (b := (f (144 + j))) rfl rfl (by have := hb (184 + j); have := hb (144 + j); omega) (by have := hb (184 + j); have := hb (144 + j); omega) (by have := hb (184 + j); have := hb (144 + j); omega))⟩ ?_
                  rw [show ((nI j) + 1) = nI (j + 1) from (tf_add rfl (rfl : (1 : Int32) = nI 1))]
                  exact ihj (j + 1) 0 (by omega) (Or.inr ⟨rfl, by rw [← hq, lp, Bool.false_and]⟩)
              · refine tf_go hx ftX11_caughtAt 1 [true] 133 [some (.ref o), some (.int (nI k)), some (.int 1), some (.int (nI j))] [.int 184, .ref (tf_rf G o 1)] S rfl ⟨by decide, by decide, rfl⟩ ⟨trivial, (tf_leT (a := k) (b := j) rfl rfl (by omega) (by omega) (by omega))⟩ ?_
                refine tf_go hx ftX11_caughtAt 11 [] 148 [some (.ref o), some (.int (nI k)), some (.int 1), some (.int (nI j))] [.int (S (tf_rf G o 1) (Int32.toNatClampNeg (144 + (nI j)))), .int (S (tf_rf G o 1) (Int32.toNatClampNeg (184 + ((nI j) + 2))))] S rfl ⟨by decide, by decide, rfl⟩ ⟨⟨⟨trivial, ⟨Or.inl (by first | assumption | rfl | decide | omega), by first | assumption | exact tf_in (n := (184 + (j + 2))) (tf_add (rfl : (184 : Int32) = nI 184) (tf_add rfl (rfl : (2 : Int32) = nI 2))) (by first | assumption | rfl) (by omega) (by decide)⟩⟩, ⟨by first | assumption | rfl | decide | omega, by first | assumption | rfl | decide | omega⟩⟩, ⟨Or.inl (by first | assumption | rfl | decide | omega), by first | assumption | exact tf_in (n := (144 + j)) (tf_add (rfl : (144 : Int32) = nI 144) rfl) (by first | assumption | rfl) (by omega) (by decide)⟩⟩ ?_
                rw [show (S (tf_rf G o 1) (Int32.toNatClampNeg (144 + (nI j)))) = nI (f (144 + j)) from (tf_rd hs (tf_add (rfl : (144 : Int32) = nI 144) rfl) (by omega))]
                rw [show (S (tf_rf G o 1) (Int32.toNatClampNeg (184 + ((nI j) + 2)))) = nI (f (184 + (j + 2))) from (tf_rd hs (tf_add (rfl : (184 : Int32) = nI 184) (tf_add rfl (rfl : (2 : Int32) = nI 2))) (by omega))]
                by_cases d1 : f (184 + (j + 2)) = f (144 + j)
                · have lp : tf_cp f k j = true := by unfold tf_cp; rw [if_neg d0]; simpa using d1
                  refine tf_go hx ftX11_caughtAt 6 [false] 101 [some (.ref o), some (.int (nI k)), some (.int 1), some (.int ((nI j) + 1))] [] S rfl ⟨by decide, by decide, rfl⟩ ⟨trivial, (tf_neF (a := (f (184 + (j + 2)))) (b := (f (144 + j))) rfl rfl (by have := hb (184 + (j + 2)); have := hb (144 + j); omega))⟩ ?_
                  rw [show ((nI j) + 1) = nI (j + 1) from (tf_add rfl (rfl : (1 : Int32) = nI 1))]
                  exact ihj (j + 1) 1 (by omega) (Or.inl ⟨rfl, by rw [← hq, lp, Bool.true_and]⟩)
                · have lp : tf_cp f k j = false := by unfold tf_cp; rw [if_neg d0]; simpa using d1
                  refine tf_go hx ftX11_caughtAt 5 [true] 101 [some (.ref o), some (.int (nI k)), some (.int 0), some (.int ((nI j) + 1))] [] S rfl ⟨by decide, by decide, rfl⟩ ⟨trivial, (tf_eqF (a := (f (184 + (j + 2)))) (b := (f (144 + j))) rfl rfl (by have := hb (184 + (j + 2)); have := hb (144 + j); omega) (by have := hb (184 + (j + 2)); have := hb (144 + j); omega) (by have := hb (184 + (j + 2)); have := hb (144 + j); omega))⟩ ?_
                  rw [show ((nI j) + 1) = nI (j + 1) from (tf_add rfl (rfl : (1 : Int32) = nI 1))]
                  exact ihj (j + 1) 0 (by omega) (Or.inr ⟨rfl, by rw [← hq, lp, Bool.false_and]⟩)
            · refine tf_go hx ftX11_caughtAt 5 [true] 101 [some (.ref o), some (.int (nI k)), some (.int 0), some (.int ((nI j) + 1))] [] S rfl ⟨by decide, by decide, rfl⟩ ⟨trivial, (by decide)⟩ ?_
              rw [show ((nI j) + 1) = nI (j + 1) from (tf_add rfl (rfl : (1 : Int32) = nI 1))]
              exact ihj (j + 1) 0 (by omega) (Or.inr ⟨rfl, hq⟩)
        refine tf_go hx ftX11_caughtAt 7 [] 50 [some (.ref o), some (.int (nI k)), none, none] [.int 26, .int (S (tf_rf G o 1) (Int32.toNatClampNeg (184 + (nI k))))] S rfl ⟨by decide, by decide, rfl⟩ ⟨⟨trivial, ⟨by first | assumption | rfl | decide | omega, by first | assumption | rfl | decide | omega⟩⟩, ⟨Or.inl (by first | assumption | rfl | decide | omega), by first | assumption | exact tf_in (n := (184 + k)) (tf_add (rfl : (184 : Int32) = nI 184) rfl) (by first | assumption | rfl) (by omega) (by decide)⟩⟩ ?_
        rw [show (S (tf_rf G o 1) (Int32.toNatClampNeg (184 + (nI k)))) = nI (f (184 + k)) from (tf_rd hs (tf_add (rfl : (184 : Int32) = nI 184) rfl) (by omega))]
        by_cases e1 : f (184 + k) = 26
        · refine tf_go hx ftX11_caughtAt 5 [true] 101 [some (.ref o), some (.int (nI k)), some (.int 0), some (.int 0)] [] S rfl ⟨by decide, by decide, rfl⟩ ⟨trivial, (tf_eqT (a := (f (184 + k))) (b := 26) rfl (rfl : (26 : Int32) = nI 26) (by have := hb (184 + k); omega))⟩ ?_
          exact inner (f 364) 0 0 (by omega) (Or.inr ⟨rfl, by rw [show tf_ch f k = false by unfold tf_ch; simp [e1], Bool.false_and]⟩)
        · refine tf_go hx ftX11_caughtAt 1 [false] 53 [some (.ref o), some (.int (nI k)), none, none] [] S rfl ⟨by decide, by decide, rfl⟩ ⟨trivial, (tf_eqF (a := (f (184 + k))) (b := 26) rfl (rfl : (26 : Int32) = nI 26) (by have := hb (184 + k); omega) (by have := hb (184 + k); omega) (by have := hb (184 + k); omega))⟩ ?_
          refine tf_go hx ftX11_caughtAt 12 [] 73 [some (.ref o), some (.int (nI k)), none, none] [.int (S (tf_rf G o 1) (Int32.toNatClampNeg (144 + (nI k)))), .int (S (tf_rf G o 1) (Int32.toNatClampNeg (184 + (nI k))))] S rfl ⟨by decide, by decide, rfl⟩ ⟨⟨⟨⟨trivial, ⟨by first | assumption | rfl | decide | omega, by first | assumption | rfl | decide | omega⟩⟩, ⟨Or.inl (by first | assumption | rfl | decide | omega), by first | assumption | exact tf_in (n := (184 + k)) (tf_add (rfl : (184 : Int32) = nI 184) rfl) (by first | assumption | rfl) (by omega) (by decide)⟩⟩, ⟨by first | assumption | rfl | decide | omega, by first | assumption | rfl | decide | omega⟩⟩, ⟨Or.inl (by first | assumption | rfl | decide | omega), by first | assumption | exact tf_in (n := (144 + k)) (tf_add (rfl : (144 : Int32) = nI 144) rfl) (by first | assumption | rfl) (by omega) (by decide)⟩⟩ ?_
          rw [show (S (tf_rf G o 1) (Int32.toNatClampNeg (144 + (nI k)))) = nI (f (144 + k)) from (tf_rd hs (tf_add (rfl : (144 : Int32) = nI 144) rfl) (by omega))]
          rw [show (S (tf_rf G o 1) (Int32.toNatClampNeg (184 + (nI k)))) = nI (f (184 + k)) from (tf_rd hs (tf_add (rfl : (184 : Int32) = nI 184) rfl) (by omega))]
          by_cases e2 : f (184 + k) = f (144 + k)
          · refine tf_go hx ftX11_caughtAt 5 [true] 101 [some (.ref o), some (.int (nI k)), some (.int 0), some (.int 0)] [] S rfl ⟨by decide, by decide, rfl⟩ ⟨trivial, (tf_eqT (a := (f (184 + k))) (b := (f (144 + k))) rfl rfl (by have := hb (184 + k); have := hb (144 + k); omega))⟩ ?_
            exact inner (f 364) 0 0 (by omega) (Or.inr ⟨rfl, by rw [show tf_ch f k = false by unfold tf_ch; simp [e2], Bool.false_and]⟩)
          · refine tf_go hx ftX11_caughtAt 1 [false] 76 [some (.ref o), some (.int (nI k)), none, none] [] S rfl ⟨by decide, by decide, rfl⟩ ⟨trivial, (tf_eqF (a := (f (184 + k))) (b := (f (144 + k))) rfl rfl (by have := hb (184 + k); have := hb (144 + k); omega) (by have := hb (184 + k); have := hb (144 + k); omega) (by have := hb (184 + k); have := hb (144 + k); omega))⟩ ?_
            refine tf_go hx ftX11_caughtAt 9 [] 90 [some (.ref o), some (.int (nI k)), none, none] [.int 26, .int (S (tf_rf G o 1) (Int32.toNatClampNeg ((184 + (nI k)) + 1)))] S rfl ⟨by decide, by decide, rfl⟩ ⟨⟨trivial, ⟨by first | assumption | rfl | decide | omega, by first | assumption | rfl | decide | omega⟩⟩, ⟨Or.inl (by first | assumption | rfl | decide | omega), by first | assumption | exact tf_in (n := ((184 + k) + 1)) (tf_add (tf_add (rfl : (184 : Int32) = nI 184) rfl) (rfl : (1 : Int32) = nI 1)) (by first | assumption | rfl) (by omega) (by decide)⟩⟩ ?_
            rw [show (S (tf_rf G o 1) (Int32.toNatClampNeg ((184 + (nI k)) + 1))) = nI (f ((184 + k) + 1)) from (tf_rd hs (tf_add (tf_add (rfl : (184 : Int32) = nI 184) rfl) (rfl : (1 : Int32) = nI 1)) (by omega))]
            by_cases e3 : f (184 + k + 1) = 26
            · refine tf_go hx ftX11_caughtAt 6 [false] 101 [some (.ref o), some (.int (nI k)), some (.int 1), some (.int 0)] [] S rfl ⟨by decide, by decide, rfl⟩ ⟨trivial, (tf_neF (a := (f ((184 + k) + 1))) (b := 26) rfl (rfl : (26 : Int32) = nI 26) (by have := hb ((184 + k) + 1); omega))⟩ ?_
              exact inner (f 364) 0 1 (by omega) (Or.inl ⟨rfl, by rw [show tf_ch f k = true by unfold tf_ch; simp [e1, e2, e3], Bool.true_and]⟩)
            · refine tf_go hx ftX11_caughtAt 5 [true] 101 [some (.ref o), some (.int (nI k)), some (.int 0), some (.int 0)] [] S rfl ⟨by decide, by decide, rfl⟩ ⟨trivial, (tf_eqF (a := (f ((184 + k) + 1))) (b := 26) rfl (rfl : (26 : Int32) = nI 26) (by have := hb ((184 + k) + 1); omega) (by have := hb ((184 + k) + 1); omega) (by have := hb ((184 + k) + 1); omega))⟩ ?_
              exact inner (f 364) 0 0 (by omega) (Or.inr ⟨rfl, by rw [show tf_ch f k = false by unfold tf_ch; simp [e3], Bool.false_and]⟩)
    exact loop (f 364) 0 (by omega) rfl
  · refine tf_go hx ftX11_caughtAt 3 [false] 23 [some (.ref o), none, none, none] [.int (-9)] S rfl ⟨by decide, by decide, rfl⟩ ⟨trivial, (tf_eqF (a := (f 365)) (b := ((f 364) + 2)) rfl (tf_add rfl (rfl : (2 : Int32) = nI 2)) (by have := hb 365; have := hb 364; omega) (by have := hb 365; have := hb 364; omega) (by have := hb 365; have := hb 364; omega))⟩ ?_
    exact tf_ret ftX11_caughtAt hR rfl ⟨by decide, by decide⟩ rfl rfl (by rw [if_neg (by rintro ⟨h, -⟩; exact c1 h)]; rfl)

set_option maxHeartbeats 1000000 in
theorem m_whereOf {G : tf_G} {S : tf_Sg} {o : Nat} {f : Nat → Nat} (b k : Nat) (ho : tf_mo G o) (hf : tf_sf G S o f) (hg : tf_gd f) (hbb : b < 4) (hk : k < 8) : tf_Fn mX11_whereOf 3 0 0 G S [.ref o, .int (nI b), .int (nI k)] G S (some (.int (tf_on 41 (tf_wo f b k)))) := by
  obtain ⟨h1, ⟨r0, t0, n0⟩, ⟨r1, t1, n1⟩, ⟨r2, t2, n2⟩, ⟨r4, t4, n4⟩⟩ := id ho
  obtain ⟨hs, hb⟩ := id hf
  obtain ⟨⟨g1, g2, g3, g4⟩, g5, g6, g7, g8, g9, g10, g11⟩ := id hg
  refine tf_Fn_of (own := RX11) false ⟨by decide, rfl, by decide⟩ (Nat.le_of_ble_eq_true rfl) trivial (fun x hx hR => ?_)
  show tf_K x 0 0 G S 0 [some (.ref o), some (.int (nI b)), some (.int (nI k))] []
  unfold tf_wo at hR
  refine tf_go hx ftX11_whereOf 1 [] 1 [some (.ref o), some (.int (nI b)), some (.int (nI k))] [.int (nI k)] S rfl ⟨by decide, by decide, rfl⟩ trivial ?_
  by_cases c0 : k = 0
  · subst c0
    refine tf_swI hx ftX11_whereOf 44 rfl ⟨by decide, by decide, rfl, by decide⟩ ?_
    refine tf_go hx ftX11_whereOf 1 [] 45 [some (.ref o), some (.int (nI b)), some (.int (nI 0))] [.ref o] S rfl ⟨by decide, by decide, rfl⟩ trivial ?_
    refine tf_cV hx ftX11_whereOf (nx := 48) (As := []) (rest := []) (st2 := [.int (tf_on 41 (tf_sl f))]) (m_slipAt ho hf hg) rfl lX11_95 (by first | assumption | rfl | decide) rfl ⟨rfl, by decide, by decide, by decide, rfl, rfl⟩ ?_
    exact tf_ret ftX11_whereOf hR rfl ⟨by decide, by decide⟩ rfl rfl rfl
  · by_cases c1 : k = 1
    · subst c1
      refine tf_swI hx ftX11_whereOf 49 rfl ⟨by decide, by decide, rfl, by decide⟩ ?_
      refine tf_go hx ftX11_whereOf 1 [] 50 [some (.ref o), some (.int (nI b)), some (.int (nI 1))] [.ref o] S rfl ⟨by decide, by decide, rfl⟩ trivial ?_
      refine tf_cV hx ftX11_whereOf (nx := 53) (As := []) (rest := []) (st2 := [.int (tf_on 41 (tf_sw f))]) (m_swapAt ho hf hg) rfl lX11_98 (by first | assumption | rfl | decide) rfl ⟨rfl, by decide, by decide, by decide, rfl, rfl⟩ ?_
      exact tf_ret ftX11_whereOf hR rfl ⟨by decide, by decide⟩ rfl rfl rfl
    · by_cases c2 : k = 2
      · subst c2
        refine tf_swI hx ftX11_whereOf 54 rfl ⟨by decide, by decide, rfl, by decide⟩ ?_
        refine tf_go hx ftX11_whereOf 1 [] 55 [some (.ref o), some (.int (nI b)), some (.int (nI 2))] [.ref o] S rfl ⟨by decide, by decide, rfl⟩ trivial ?_
        refine tf_cV hx ftX11_whereOf (nx := 58) (As := []) (rest := []) (st2 := [.int (tf_on 41 (tf_do f))]) (m_doubleAt ho hf hg) rfl lX11_101 (by first | assumption | rfl | decide) rfl ⟨rfl, by decide, by decide, by decide, rfl, rfl⟩ ?_
        exact tf_ret ftX11_whereOf hR rfl ⟨by decide, by decide⟩ rfl rfl rfl
      · by_cases c3 : k = 3
        · subst c3
          refine tf_swI hx ftX11_whereOf 59 rfl ⟨by decide, by decide, rfl, by decide⟩ ?_
          refine tf_go hx ftX11_whereOf 3 [] 62 [some (.ref o), some (.int (nI b)), some (.int (nI 3))] [.int 1, .int (nI b), .ref o] S rfl ⟨by decide, by decide, rfl⟩ trivial ?_
          refine tf_cV hx ftX11_whereOf (nx := 65) (As := [.int (nI b), .int 1]) (rest := []) (st2 := [.int (tf_on 41 (tf_bk f b 1))]) (m_byKeys b 1 ho hf hg hbb (by decide)) rfl lX11_104 (by first | assumption | rfl | decide) rfl ⟨rfl, by decide, by decide, by decide, rfl, rfl⟩ ?_
          exact tf_ret ftX11_whereOf hR rfl ⟨by decide, by decide⟩ rfl rfl rfl
        · by_cases c4 : k = 4
          · subst c4
            refine tf_swI hx ftX11_whereOf 66 rfl ⟨by decide, by decide, rfl, by decide⟩ ?_
            refine tf_go hx ftX11_whereOf 3 [] 69 [some (.ref o), some (.int (nI b)), some (.int (nI 4))] [.int 0, .int (nI b), .ref o] S rfl ⟨by decide, by decide, rfl⟩ trivial ?_
            refine tf_cV hx ftX11_whereOf (nx := 72) (As := [.int (nI b), .int 0]) (rest := []) (st2 := [.int (tf_on 41 (tf_bk f b 0))]) (m_byKeys b 0 ho hf hg hbb (by decide)) rfl lX11_104 (by first | assumption | rfl | decide) rfl ⟨rfl, by decide, by decide, by decide, rfl, rfl⟩ ?_
            exact tf_ret ftX11_whereOf hR rfl ⟨by decide, by decide⟩ rfl rfl rfl
          · by_cases c5 : k = 5
            · subst c5
              refine tf_swI hx ftX11_whereOf 73 rfl ⟨by decide, by decide, rfl, by decide⟩ ?_
              refine tf_go hx ftX11_whereOf 1 [] 74 [some (.ref o), some (.int (nI b)), some (.int (nI 5))] [.ref o] S rfl ⟨by decide, by decide, rfl⟩ trivial ?_
              refine tf_cV hx ftX11_whereOf (nx := 77) (As := []) (rest := []) (st2 := [.int (tf_on 41 (tf_ea f))]) (m_earlyAt ho hf hg) rfl lX11_107 (by first | assumption | rfl | decide) rfl ⟨rfl, by decide, by decide, by decide, rfl, rfl⟩ ?_
              exact tf_ret ftX11_whereOf hR rfl ⟨by decide, by decide⟩ rfl rfl rfl
            · by_cases c6 : k = 6
              · subst c6
                refine tf_swI hx ftX11_whereOf 78 rfl ⟨by decide, by decide, rfl, by decide⟩ ?_
                refine tf_go hx ftX11_whereOf 1 [] 79 [some (.ref o), some (.int (nI b)), some (.int (nI 6))] [.ref o] S rfl ⟨by decide, by decide, rfl⟩ trivial ?_
                refine tf_cV hx ftX11_whereOf (nx := 82) (As := []) (rest := []) (st2 := [.int (tf_on 41 (tf_lo f))]) (m_lostAt ho hf hg) rfl lX11_110 (by first | assumption | rfl | decide) rfl ⟨rfl, by decide, by decide, by decide, rfl, rfl⟩ ?_
                exact tf_ret ftX11_whereOf hR rfl ⟨by decide, by decide⟩ rfl rfl rfl
              · have c7 : k = 7 := by omega
                subst c7
                refine tf_swO hx ftX11_whereOf 83 rfl ⟨Or.inr (by decide), by decide⟩ ?_
                refine tf_go hx ftX11_whereOf 1 [] 84 [some (.ref o), some (.int (nI b)), some (.int (nI 7))] [.ref o] S rfl ⟨by decide, by decide, rfl⟩ trivial ?_
                refine tf_cV hx ftX11_whereOf (nx := 87) (As := []) (rest := []) (st2 := [.int (tf_on 41 (tf_ca f))]) (m_caughtAt ho hf hg) rfl lX11_113 (by first | assumption | rfl | decide) rfl ⟨rfl, by decide, by decide, by decide, rfl, rfl⟩ ?_
                exact tf_ret ftX11_whereOf hR rfl ⟨by decide, by decide⟩ rfl rfl rfl
end
section
/-! the row s written anew -/
def tf_rw (S : tf_Sg) (a : Nat) (F : Nat → Nat) : tf_Sg := fun x k => if x = a then nI (F k) else S x k
theorem tf_rw_a {S : tf_Sg} {a : Nat} {F : Nat → Nat} : ∀ k, tf_rw S a F a k = nI (F k) := fun k => by unfold tf_rw; rw [if_pos rfl]
theorem tf_rw_n {S : tf_Sg} {a x : Nat} {F : Nat → Nat} (h : x ≠ a) : tf_rw S a F x = S x := by funext k; unfold tf_rw; rw [if_neg h]
theorem tf_rw_rw {S : tf_Sg} {a : Nat} {F F' : Nat → Nat} : tf_rw (tf_rw S a F) a F' = tf_rw S a F' := by
  funext x k
  unfold tf_rw
  by_cases h : x = a
  · rw [if_pos h, if_pos h]
  · rw [if_neg h, if_neg h, if_neg h]
theorem tf_rw_id {S : tf_Sg} {a : Nat} {F : Nat → Nat} (h : ∀ k, S a k = nI (F k)) : tf_rw S a F = S := by
  funext x k
  unfold tf_rw
  by_cases hx : x = a
  · subst hx; rw [if_pos rfl, h]
  · rw [if_neg hx]
def tf_u (F : Nat → Nat) (k v : Nat) : Nat → Nat := fun j => if j = k then v else F j
theorem tf_rw_u {S : tf_Sg} {a k v : Nat} {F : Nat → Nat} (h : ∀ k, S a k = nI (F k)) : tf_set S a k (nI v) = tf_rw S a (tf_u F k v) := by
  funext x j
  unfold tf_set tf_rw tf_u
  by_cases hx : x = a
  · subst hx
    by_cases hj : j = k
    · subst hj; rw [if_pos ⟨rfl, rfl⟩, if_pos rfl, if_pos rfl]
    · rw [if_neg (fun q => hj q.2), if_pos rfl, if_neg hj, h]
  · rw [if_neg (fun q => hx q.1), if_neg hx]
theorem tf_rw_u2 {S : tf_Sg} {a k v : Nat} {F : Nat → Nat} : tf_set (tf_rw S a F) a k (nI v) = tf_rw S a (tf_u F k v) := by rw [tf_rw_u (fun k => tf_rw_a k), tf_rw_rw]
/-- an EXCHANGE -/
def tf_ex (f : Nat → Nat) (b x y : Nat) : Nat → Nat := tf_u (tf_u f (30 * b + x) (f (30 * b + y))) (30 * b + y) (f (30 * b + x))
theorem tf_ex_at (f : Nat → Nat) (b x y k : Nat) : tf_ex f b x y k = if k = 30 * b + y then f (30 * b + x) else if k = 30 * b + x then f (30 * b + y) else f k := rfl
theorem tf_ex_hi {f : Nat → Nat} {b x y k : Nat} (hb : b < 4) (hx : x < 30) (hy : y < 30) (hk : 120 ≤ k) : tf_ex f b x y k = f k := by
  rw [tf_ex_at, if_neg (by omega), if_neg (by omega)]
theorem tf_ex_ex {f : Nat → Nat} {b x y : Nat} (h : x ≠ y) : tf_ex (tf_ex f b x y) b x y = f := by
  funext k
  rw [tf_ex_at]
  by_cases h1 : k = 30 * b + y
  · subst h1
    rw [if_pos rfl, tf_ex_at, if_neg (by omega), if_pos rfl]
  · rw [if_neg h1]
    by_cases h2 : k = 30 * b + x
    · subst h2
      rw [if_pos rfl, tf_ex_at, if_pos rfl]
    · rw [if_neg h2, tf_ex_at, if_neg h1, if_neg h2]
theorem tf_ex_le {f : Nat → Nat} {b x y n : Nat} (h : ∀ k, f k < n) : ∀ k, tf_ex f b x y k < n := by
  intro k
  rw [tf_ex_at]
  split
  · exact h _
  · split
    · exact h _
    · exact h _
theorem tf_sw_inj {x y k j : Nat} (h : (if k = y then x else if k = x then y else k) = (if j = y then x else if j = x then y else j)) : k = j := by
  by_cases a1 : k = y
  · rw [if_pos a1] at h
    by_cases b1 : j = y
    · omega
    · rw [if_neg b1] at h
      by_cases b2 : j = x
      · rw [if_pos b2] at h; omega
      · rw [if_neg b2] at h; omega
  · rw [if_neg a1] at h
    by_cases a2 : k = x
    · rw [if_pos a2] at h
      by_cases b1 : j = y
      · rw [if_pos b1] at h; omega
      · rw [if_neg b1] at h
        by_cases b2 : j = x
        · omega
        · rw [if_neg b2] at h; omega
    · rw [if_neg a2] at h
      by_cases b1 : j = y
      · rw [if_pos b1] at h; omega
      · rw [if_neg b1] at h
        by_cases b2 : j = x
        · rw [if_pos b2] at h; omega
        · rw [if_neg b2] at h; exact h
theorem tf_ex_gd {f : Nat → Nat} {b x y : Nat} (hg : tf_gd f) (hb : b < 4) (hx : x < 30) (hy : y < 30) : tf_gd (tf_ex f b x y) := by
  have e : ∀ k, 120 ≤ k → tf_ex f b x y k = f k := fun k hk => tf_ex_hi hb hx hy hk
  obtain ⟨⟨g1, g2, g3, g4⟩, g5, g6, g7, g8, g9, g10, g11⟩ := hg
  refine ⟨⟨by rw [e _ (by omega)]; exact g1, by rw [e _ (by omega)]; exact g2, by rw [e _ (by omega)]; exact g3, by rw [e _ (by omega)]; exact g4⟩, fun w hw => ?_, fun i hi => ?_, fun i hi => ?_, fun w hw j hj => ?_, fun i hi => by rw [e _ (by omega)]; exact g9 i hi, fun k hk => ?_, fun c hc k j hk hj h0 h1 => ?_⟩
  · rw [e _ (by omega)] at hw ⊢; exact g5 w hw
  · rw [e _ (by omega)] at hi ⊢; exact g6 i hi
  · rw [e _ (by omega)] at hi ⊢; exact g7 i hi
  · rw [e _ (by omega)] at hw; rw [e _ (by omega)] at hj; rw [e _ (by omega)]; exact g8 w hw j hj
  · rw [tf_ex_at]
    split
    · exact g10 _ (by omega)
    · split
      · exact g10 _ (by omega)
      · exact g10 _ hk
  · simp only [tf_ex_at] at h0 h1
    by_cases hcb : c = b
    · subst hcb
      -- where a key's letter came from
      have key : ∀ i, i < 30 → ∃ i', i' < 30 ∧ (if 30 * c + i = 30 * c + y then f (30 * c + x) else if 30 * c + i = 30 * c + x then f (30 * c + y) else f (30 * c + i)) = f (30 * c + i') ∧ (i' = if i = y then x else if i = x then y else i) := by
        intro i hi
        by_cases a : i = y
        · exact ⟨x, hx, by rw [if_pos (by omega)], by rw [if_pos a]⟩
        · by_cases a2 : i = x
          · exact ⟨y, hy, by rw [if_neg (by omega), if_pos (by omega)], by rw [if_neg a, if_pos a2]⟩
          · exact ⟨i, hi, by rw [if_neg (by omega), if_neg (by omega)], by rw [if_neg a, if_neg a2]⟩
      obtain ⟨k', p1, p2, p3⟩ := key k hk
      obtain ⟨j', q1, q2, q3⟩ := key j hj
      rw [p2] at h0 h1
      rw [q2] at h0
      have := g11 c hc k' j' p1 q1 h0 h1
      rw [p3, q3] at this
      exact tf_sw_inj this
    · rw [if_neg (by omega), if_neg (by omega), if_neg (by omega), if_neg (by omega)] at h0
      rw [if_neg (by omega), if_neg (by omega)] at h1
      exact g11 c hc k j hk hj h0 h1
/-- BETTER: the best so far and its time -/
def tf_b2 (f : Nat → Nat) (h b x : Nat) : Nat → Nat → Nat × Nat → Nat × Nat
  | 0, _, q => q
  | m + 1, y, q => tf_b2 f h b x m (y + 1) (if f (30 * b + x) = f (30 * b + y) then q else if q.2 ≤ tf_tm (tf_ex f b x y) h b 0 then q else (100 * x + y, tf_tm (tf_ex f b x y) h b 0))
def tf_b1 (f : Nat → Nat) (h b : Nat) : Nat → Nat → Nat × Nat → Nat × Nat
  | 0, _, q => q
  | m + 1, x, q => tf_b1 f h b m (x + 1) (tf_b2 f h b x (30 - (x + 1)) (x + 1) q)
def tf_be (f : Nat → Nat) (h b : Nat) : Nat := (tf_b1 f h b 30 0 (3000, tf_tm f h b 0)).1
theorem tf_b2_s {f : Nat → Nat} {h b x m y : Nat} {q : Nat × Nat} : tf_b2 f h b x (m + 1) y q = tf_b2 f h b x m (y + 1) (if f (30 * b + x) = f (30 * b + y) then q else if q.2 ≤ tf_tm (tf_ex f b x y) h b 0 then q else (100 * x + y, tf_tm (tf_ex f b x y) h b 0)) := rfl
theorem tf_b1_s {f : Nat → Nat} {h b m x : Nat} {q : Nat × Nat} : tf_b1 f h b (m + 1) x q = tf_b1 f h b m (x + 1) (tf_b2 f h b x (30 - (x + 1)) (x + 1) q) := rfl
/-- FAR -/
def tf_fl2 (f : Nat → Nat) (h b : Nat) : Nat → Nat → Nat
  | 0, _ => 0
  | m + 1, i => if i < f 367 ∧ i < f 364 then tf_di (f (324 + i)) (tf_gt f h b i 0) + tf_fl2 f h b m (i + 1) else 0
def tf_fa (f : Nat → Nat) (h b : Nat) : Nat := tf_fl2 f h b 41 0
theorem tf_fl2_s {f : Nat → Nat} {h b m i : Nat} : tf_fl2 f h b (m + 1) i = if i < f 367 ∧ i < f 364 then tf_di (f (324 + i)) (tf_gt f h b i 0) + tf_fl2 f h b m (i + 1) else 0 := rfl
/-- ACHE of a letter -/
def tf_ah (f : Nat → Nat) (b i : Nat) : Nat := if tf_ke f b (f (144 + i)) = 30 then 0 else if i ≠ 0 ∧ tf_ke f b (f (144 + i - 1)) < 30 ∧ tf_ke f b (f (144 + i - 1)) ≠ tf_ke f b (f (144 + i)) ∧ tf_fi (tf_ke f b (f (144 + i - 1))) 0 = tf_fi (tf_ke f b (f (144 + i))) 0 then 3 else 1
/-- all that PACE p takes -/
def tf_pc (f : Nat → Nat) (h b p d : Nat) : Nat := tf_tm f h b 0 * 10 / (10 + p) + f 364 * p * p / 100 * d
theorem tf_ti_le {f : Nat → Nat} (hg : tf_gd f) {h b t a p : Nat} (hh : h < 4) (hp : p ≤ 100) : ∀ m k, tf_ti f h b t a p m k ≤ 12000 * m
  | 0, k => Nat.le_refl _
  | m + 1, k => by
    rw [tf_ti_s]
    have h1 := tf_ti_le hg (b := b) (t := t) (a := a) hh hp m (k + 1)
    have h2 := tf_gt_le hg (b := b) (i := a) (t := t) hh
    have h3 := Nat.mul_le_mul (tf_gt_le hg (b := b) (i := a + k) (t := t) hh) hp
    split <;> omega
theorem tf_pt_le (f : Nat → Nat) (w : Nat) : tf_pt f w ≤ 100 := by unfold tf_pt; split <;> omega
theorem tf_tl_le {f : Nat → Nat} (hg : tf_gd f) {h b t : Nat} (hh : h < 4) : ∀ m a, tf_tl f h b t m a ≤ 12000 * (f 364 - a)
  | 0, a => Nat.zero_le _
  | m + 1, a => by
    rw [tf_tl_s]
    split
    · next ha =>
      have h1 := tf_tl_le hg (b := b) (t := t) hh m (a + tf_sz f (tf_wd f a))
      have h2 := tf_ti_le hg (b := b) (t := t) (a := a) hh (tf_pt_le f (tf_wd f a)) (tf_sz f (tf_wd f a)) 0
      have h3 := tf_wd_in hg ha
      omega
    · exact Nat.zero_le _
theorem tf_tm_le {f : Nat → Nat} (hg : tf_gd f) {h b t : Nat} (hh : h < 4) : tf_tm f h b t ≤ 480000 := by
  have h1 := tf_tl_le hg (b := b) (t := t) hh 40 0
  have h2 := hg.1
  unfold tf_tm
  omega
theorem tf_sf_rw {G : tf_G} {S : tf_Sg} {o : Nat} {F : Nat → Nat} (h : ∀ k, F k < 10000) : tf_sf G (tf_rw S (tf_rf G o 1) F) o F := ⟨tf_rw_a, h⟩
end
section
def tX11_changes : tf_T := [(0, .aload_n 0, 1, 0, 0),
  (1, .getfield 13, 4, 0, 0),
  (4, .bipush 30, 6, 0, 30),
  (6, .iload_n 1, 7, 0, 0),
  (7, .imul, 8, 0, 0),
  (8, .iload_n 2, 9, 0, 0),
  (9, .iadd, 10, 0, 0),
  (10, .iaload, 11, 0, 0),
  (11, .istore 4, 13, 0, 0),
  (13, .aload_n 0, 14, 0, 0),
  (14, .getfield 13, 17, 0, 0),
  (17, .bipush 30, 19, 0, 30),
  (19, .iload_n 1, 20, 0, 0),
  (20, .imul, 21, 0, 0),
  (21, .iload_n 2, 22, 0, 0),
  (22, .iadd, 23, 0, 0),
  (23, .aload_n 0, 24, 0, 0),
  (24, .getfield 13, 27, 0, 0),
  (27, .bipush 30, 29, 0, 30),
  (29, .iload_n 1, 30, 0, 0),
  (30, .imul, 31, 0, 0),
  (31, .iload_n 3, 32, 0, 0),
  (32, .iadd, 33, 0, 0),
  (33, .iaload, 34, 0, 0),
  (34, .iastore, 35, 0, 0),
  (35, .aload_n 0, 36, 0, 0),
  (36, .getfield 13, 39, 0, 0),
  (39, .bipush 30, 41, 0, 30),
  (41, .iload_n 1, 42, 0, 0),
  (42, .imul, 43, 0, 0),
  (43, .iload_n 3, 44, 0, 0),
  (44, .iadd, 45, 0, 0),
  (45, .iload 4, 47, 0, 0),
  (47, .iastore, 48, 0, 0),
  (48, .return_, 49, 0, 0)]
set_option maxRecDepth 100000 in
theorem okX11_changes : tf_okT cX11_changes tX11_changes := by unfold tf_okT; decide +kernel
theorem ftX11_changes : 1 ≤ 1 ∧ tf_okF RX11 fX11 ∧ tf_okT cX11_changes tX11_changes := ⟨by decide, okfX11, okX11_changes⟩
def mX11_changes : tf_M := (yX11_changes, cX11_changes, 5, none)

def tX11_betterOf : tf_T := [(0, .bipush (-9), 2, 0, (-9)),
  (2, .istore_n 3, 3, 0, 0),
  (3, .aload_n 0, 4, 0, 0),
  (4, .iload_n 1, 5, 0, 0),
  (5, .iload_n 2, 6, 0, 0),
  (6, .iconst 0, 7, 0, 0),
  (7, .invokevirtual 92, 10, 0, 0),
  (10, .istore 4, 12, 0, 0),
  (12, .iconst 0, 13, 0, 0),
  (13, .istore 5, 15, 0, 0),
  (15, .iload 5, 17, 0, 0),
  (17, .bipush 30, 19, 0, 30),
  (19, .if_icmp .ge 108, 22, 127, 0),
  (22, .iload 5, 24, 0, 0),
  (24, .iconst 1, 25, 0, 1),
  (25, .iadd, 26, 0, 0),
  (26, .istore 6, 28, 0, 0),
  (28, .iload 6, 30, 0, 0),
  (30, .bipush 30, 32, 0, 30),
  (32, .if_icmp .ge 89, 35, 121, 0),
  (35, .aload_n 0, 36, 0, 0),
  (36, .getfield 13, 39, 0, 0),
  (39, .bipush 30, 41, 0, 30),
  (41, .iload_n 2, 42, 0, 0),
  (42, .imul, 43, 0, 0),
  (43, .iload 5, 45, 0, 0),
  (45, .iadd, 46, 0, 0),
  (46, .iaload, 47, 0, 0),
  (47, .aload_n 0, 48, 0, 0),
  (48, .getfield 13, 51, 0, 0),
  (51, .bipush 30, 53, 0, 30),
  (53, .iload_n 2, 54, 0, 0),
  (54, .imul, 55, 0, 0),
  (55, .iload 6, 57, 0, 0),
  (57, .iadd, 58, 0, 0),
  (58, .iaload, 59, 0, 0),
  (59, .if_icmp .ne 6, 62, 65, 0),
  (62, .goto 53, 65, 115, 0),
  (65, .aload_n 0, 66, 0, 0),
  (66, .iload_n 2, 67, 0, 0),
  (67, .iload 5, 69, 0, 0),
  (69, .iload 6, 71, 0, 0),
  (71, .invokevirtual 119, 74, 0, 0),
  (74, .aload_n 0, 75, 0, 0),
  (75, .iload_n 1, 76, 0, 0),
  (76, .iload_n 2, 77, 0, 0),
  (77, .iconst 0, 78, 0, 0),
  (78, .invokevirtual 92, 81, 0, 0),
  (81, .istore 7, 83, 0, 0),
  (83, .aload_n 0, 84, 0, 0),
  (84, .iload_n 2, 85, 0, 0),
  (85, .iload 5, 87, 0, 0),
  (87, .iload 6, 89, 0, 0),
  (89, .invokevirtual 119, 92, 0, 0),
  (92, .iload 7, 94, 0, 0),
  (94, .iload 4, 96, 0, 0),
  (96, .if_icmp .lt 6, 99, 102, 0),
  (99, .goto 16, 102, 115, 0),
  (102, .bipush 100, 104, 0, 100),
  (104, .iload 5, 106, 0, 0),
  (106, .imul, 107, 0, 0),
  (107, .iload 6, 109, 0, 0),
  (109, .iadd, 110, 0, 0),
  (110, .istore_n 3, 111, 0, 0),
  (111, .iload 7, 113, 0, 0),
  (113, .istore 4, 115, 0, 0),
  (115, .iinc 6 1, 118, 0, 1),
  (118, .goto (-90), 121, 28, 0),
  (121, .iinc 5 1, 124, 0, 1),
  (124, .goto (-109), 127, 15, 0),
  (127, .iload_n 3, 128, 0, 0),
  (128, .ireturn, 129, 0, 0)]
set_option maxRecDepth 100000 in
theorem okX11_betterOf : tf_okT cX11_betterOf tX11_betterOf := by unfold tf_okT; decide +kernel
theorem ftX11_betterOf : 1 ≤ 6 ∧ tf_okF RX11 fX11 ∧ tf_okT cX11_betterOf tX11_betterOf := ⟨by decide, okfX11, okX11_betterOf⟩
def mX11_betterOf : tf_M := (yX11_betterOf, cX11_betterOf, 8, (some .int))

def tX11_farOf : tf_T := [(0, .iconst 0, 1, 0, 0),
  (1, .istore_n 3, 2, 0, 0),
  (2, .iconst 0, 3, 0, 0),
  (3, .istore 4, 5, 0, 0),
  (5, .iload 4, 7, 0, 0),
  (7, .aload_n 0, 8, 0, 0),
  (8, .getfield 13, 11, 0, 0),
  (11, .sipush 367, 14, 0, 367),
  (14, .iaload, 15, 0, 0),
  (15, .if_icmp .ge 49, 18, 64, 0),
  (18, .iload 4, 20, 0, 0),
  (20, .aload_n 0, 21, 0, 0),
  (21, .getfield 13, 24, 0, 0),
  (24, .sipush 364, 27, 0, 364),
  (27, .iaload, 28, 0, 0),
  (28, .if_icmp .ge 36, 31, 64, 0),
  (31, .iload_n 3, 32, 0, 0),
  (32, .aload_n 0, 33, 0, 0),
  (33, .getfield 13, 36, 0, 0),
  (36, .sipush 324, 39, 0, 324),
  (39, .iload 4, 41, 0, 0),
  (41, .iadd, 42, 0, 0),
  (42, .iaload, 43, 0, 0),
  (43, .aload_n 0, 44, 0, 0),
  (44, .iload_n 1, 45, 0, 0),
  (45, .iload_n 2, 46, 0, 0),
  (46, .iload 4, 48, 0, 0),
  (48, .iconst 0, 49, 0, 0),
  (49, .invokevirtual 89, 52, 0, 0),
  (52, .isub, 53, 0, 0),
  (53, .invokestatic 69, 56, 0, 0),
  (56, .iadd, 57, 0, 0),
  (57, .istore_n 3, 58, 0, 0),
  (58, .iinc 4 1, 61, 0, 1),
  (61, .goto (-56), 64, 5, 0),
  (64, .iload_n 3, 65, 0, 0),
  (65, .ireturn, 66, 0, 0)]
set_option maxRecDepth 100000 in
theorem okX11_farOf : tf_okT cX11_farOf tX11_farOf := by unfold tf_okT; decide +kernel
theorem ftX11_farOf : 1 ≤ 5 ∧ tf_okF RX11 fX11 ∧ tf_okT cX11_farOf tX11_farOf := ⟨by decide, okfX11, okX11_farOf⟩
def mX11_farOf : tf_M := (yX11_farOf, cX11_farOf, 5, (some .int))

def tX11_acheAt : tf_T := [(0, .aload_n 0, 1, 0, 0),
  (1, .iload_n 1, 2, 0, 0),
  (2, .aload_n 0, 3, 0, 0),
  (3, .getfield 13, 6, 0, 0),
  (6, .sipush 144, 9, 0, 144),
  (9, .iload_n 2, 10, 0, 0),
  (10, .iadd, 11, 0, 0),
  (11, .iaload, 12, 0, 0),
  (12, .invokevirtual 51, 15, 0, 0),
  (15, .istore_n 3, 16, 0, 0),
  (16, .iload_n 3, 17, 0, 0),
  (17, .ifCond .ge 5, 20, 22, 0),
  (20, .iconst 0, 21, 0, 0),
  (21, .ireturn, 22, 0, 0),
  (22, .iload_n 2, 23, 0, 0),
  (23, .ifCond .ne 8, 26, 31, 0),
  (26, .bipush (-9), 28, 0, (-9)),
  (28, .goto 20, 31, 48, 0),
  (31, .aload_n 0, 32, 0, 0),
  (32, .iload_n 1, 33, 0, 0),
  (33, .aload_n 0, 34, 0, 0),
  (34, .getfield 13, 37, 0, 0),
  (37, .sipush 144, 40, 0, 144),
  (40, .iload_n 2, 41, 0, 0),
  (41, .iadd, 42, 0, 0),
  (42, .iconst 1, 43, 0, 1),
  (43, .isub, 44, 0, 0),
  (44, .iaload, 45, 0, 0),
  (45, .invokevirtual 51, 48, 0, 0),
  (48, .istore 4, 50, 0, 0),
  (50, .iload 4, 52, 0, 0),
  (52, .ifCond .lt 27, 55, 79, 0),
  (55, .iload 4, 57, 0, 0),
  (57, .iload_n 3, 58, 0, 0),
  (58, .if_icmp .eq 21, 61, 79, 0),
  (61, .iload 4, 63, 0, 0),
  (63, .iconst 0, 64, 0, 0),
  (64, .invokestatic 58, 67, 0, 0),
  (67, .iload_n 3, 68, 0, 0),
  (68, .iconst 0, 69, 0, 0),
  (69, .invokestatic 58, 72, 0, 0),
  (72, .if_icmp .ne 7, 75, 79, 0),
  (75, .iconst 3, 76, 0, 3),
  (76, .goto 4, 79, 80, 0),
  (79, .iconst 1, 80, 0, 1),
  (80, .ireturn, 81, 0, 0)]
set_option maxRecDepth 100000 in
theorem okX11_acheAt : tf_okT cX11_acheAt tX11_acheAt := by unfold tf_okT; decide +kernel
theorem ftX11_acheAt : 1 ≤ 2 ∧ tf_okF RX11 fX11 ∧ tf_okT cX11_acheAt tX11_acheAt := ⟨by decide, okfX11, okX11_acheAt⟩
def mX11_acheAt : tf_M := (yX11_acheAt, cX11_acheAt, 5, (some .int))

def tX11_paceOf : tf_T := [(0, .aload_n 0, 1, 0, 0),
  (1, .iload_n 1, 2, 0, 0),
  (2, .iload_n 2, 3, 0, 0),
  (3, .iconst 0, 4, 0, 0),
  (4, .invokevirtual 92, 7, 0, 0),
  (7, .bipush 10, 9, 0, 10),
  (9, .imul, 10, 0, 0),
  (10, .bipush 10, 12, 0, 10),
  (12, .iload_n 3, 13, 0, 0),
  (13, .iadd, 14, 0, 0),
  (14, .idiv, 15, 0, 0),
  (15, .aload_n 0, 16, 0, 0),
  (16, .getfield 13, 19, 0, 0),
  (19, .sipush 364, 22, 0, 364),
  (22, .iaload, 23, 0, 0),
  (23, .iload_n 3, 24, 0, 0),
  (24, .imul, 25, 0, 0),
  (25, .iload_n 3, 26, 0, 0),
  (26, .imul, 27, 0, 0),
  (27, .bipush 100, 29, 0, 100),
  (29, .idiv, 30, 0, 0),
  (30, .iload 4, 32, 0, 0),
  (32, .imul, 33, 0, 0),
  (33, .iadd, 34, 0, 0),
  (34, .ireturn, 35, 0, 0)]
set_option maxRecDepth 100000 in
theorem okX11_paceOf : tf_okT cX11_paceOf tX11_paceOf := by unfold tf_okT; decide +kernel
theorem ftX11_paceOf : 1 ≤ 6 ∧ tf_okF RX11 fX11 ∧ tf_okT cX11_paceOf tX11_paceOf := ⟨by decide, okfX11, okX11_paceOf⟩
def mX11_paceOf : tf_M := (yX11_paceOf, cX11_paceOf, 5, (some .int))

set_option maxRecDepth 100000 in
theorem lX11_92 : tf_okV RX11 92 3 8 mX11_timeOf := by unfold tf_okV tf_okL; decide +kernel

set_option maxRecDepth 100000 in
theorem lX11_119 : tf_okV RX11 119 3 8 mX11_changes := by unfold tf_okV tf_okL; decide +kernel

set_option maxHeartbeats 1000000 in
theorem m_changes {G : tf_G} {S : tf_Sg} {o : Nat} {f : Nat → Nat} (b u w : Nat) (ho : tf_mo G o) (hf : tf_sf G S o f) (hbb : b < 4) (hx0 : u < 30) (hy0 : w < 30) : tf_Fn mX11_changes 1 0 0 G S [.ref o, .int (nI b), .int (nI u), .int (nI w)] G (tf_rw S (tf_rf G o 1) (tf_ex f b u w)) none := by
  obtain ⟨h1, ⟨r0, t0, n0⟩, ⟨r1, t1, n1⟩, ⟨r2, t2, n2⟩, ⟨r4, t4, n4⟩⟩ := id ho
  obtain ⟨hs, hb⟩ := id hf
  refine tf_Fn_of (own := RX11) false ⟨by decide, rfl, by decide⟩ (Nat.le_of_ble_eq_true rfl) trivial (fun x hx hR => ?_)
  show tf_K x 0 0 G S 0 [some (.ref o), some (.int (nI b)), some (.int (nI u)), some (.int (nI w)), none] []
  refine tf_go hx ftX11_changes 9 [] 13 [some (.ref o), some (.int (nI b)), some (.int (nI u)), some (.int (nI w)), some (.int (S (tf_rf G o 1) (Int32.toNatClampNeg ((30 * (nI b)) + (nI u)))))] [] S rfl ⟨by decide, by decide, rfl⟩ ⟨⟨trivial, ⟨by first | assumption | rfl | decide | omega, by first | assumption | rfl | decide | omega⟩⟩, ⟨Or.inl (by first | assumption | rfl | decide | omega), by first | assumption | exact tf_in (n := ((30 * b) + u)) (tf_add (a := (30 * b)) (b := u) (tf_mul (a := 30) (b := b) (rfl : (30 : Int32) = nI 30) rfl) rfl) (by first | assumption | rfl) (by omega) (by decide)⟩⟩ ?_
  rw [show (S (tf_rf G o 1) (Int32.toNatClampNeg ((30 * (nI b)) + (nI u)))) = nI (f ((30 * b) + u)) from (tf_rd hs (tf_add (a := (30 * b)) (b := u) (tf_mul (a := 30) (b := b) (rfl : (30 : Int32) = nI 30) rfl) rfl) (by omega))]
  refine tf_go hx ftX11_changes 15 [] 34 [some (.ref o), some (.int (nI b)), some (.int (nI u)), some (.int (nI w)), some (.int (nI (f ((30 * b) + u))))] [.int (S (tf_rf G o 1) (Int32.toNatClampNeg ((30 * (nI b)) + (nI w)))), .int ((30 * (nI b)) + (nI u)), .ref (tf_rf G o 1)] S rfl ⟨by decide, by decide, rfl⟩ ⟨⟨⟨trivial, ⟨by first | assumption | rfl | decide | omega, by first | assumption | rfl | decide | omega⟩⟩, ⟨by first | assumption | rfl | decide | omega, by first | assumption | rfl | decide | omega⟩⟩, ⟨Or.inl (by first | assumption | rfl | decide | omega), by first | assumption | exact tf_in (n := ((30 * b) + w)) (tf_add (a := (30 * b)) (b := w) (tf_mul (a := 30) (b := b) (rfl : (30 : Int32) = nI 30) rfl) rfl) (by first | assumption | rfl) (by omega) (by decide)⟩⟩ ?_
  rw [show (S (tf_rf G o 1) (Int32.toNatClampNeg ((30 * (nI b)) + (nI w)))) = nI (f ((30 * b) + w)) from (tf_rd hs (tf_add (a := (30 * b)) (b := w) (tf_mul (a := 30) (b := b) (rfl : (30 : Int32) = nI 30) rfl) rfl) (by omega))]
  rw [show ((30 * (nI b)) + (nI u)) = nI ((30 * b) + u) from (tf_add (a := (30 * b)) (b := u) (tf_mul (a := 30) (b := b) (rfl : (30 : Int32) = nI 30) rfl) rfl)]
  refine tf_go hx ftX11_changes 1 [] 35 [some (.ref o), some (.int (nI b)), some (.int (nI u)), some (.int (nI w)), some (.int (nI (f ((30 * b) + u))))] [] (tf_set S (tf_rf G o 1) (Int32.toNatClampNeg (nI ((30 * b) + u))) (nI (f ((30 * b) + w)))) rfl ⟨by decide, by decide, rfl⟩ ⟨trivial, ⟨by first | assumption | rfl | decide | omega, by first | assumption | exact tf_in (n := ((30 * b) + u)) rfl (by first | assumption | rfl) (by omega) (by decide)⟩⟩ ?_
  rw [show Int32.toNatClampNeg (nI ((30 * b) + u)) = ((30 * b) + u) from tf_cln rfl (by omega)]
  rw [tf_rw_u hs]
  refine tf_go hx ftX11_changes 9 [] 48 [some (.ref o), some (.int (nI b)), some (.int (nI u)), some (.int (nI w)), some (.int (nI (f ((30 * b) + u))))] [] (tf_set (tf_rw S (tf_rf G o 1) (tf_u f ((30 * b) + u) (f ((30 * b) + w)))) (tf_rf G o 1) (Int32.toNatClampNeg ((30 * (nI b)) + (nI w))) (nI (f ((30 * b) + u)))) rfl ⟨by decide, by decide, rfl⟩ ⟨⟨trivial, ⟨by first | assumption | rfl | decide | omega, by first | assumption | rfl | decide | omega⟩⟩, ⟨by first | assumption | rfl | decide | omega, by first | assumption | exact tf_in (n := ((30 * b) + w)) (tf_add (a := (30 * b)) (b := w) (tf_mul (a := 30) (b := b) (rfl : (30 : Int32) = nI 30) rfl) rfl) (by first | assumption | rfl) (by omega) (by decide)⟩⟩ ?_
  rw [show Int32.toNatClampNeg ((30 * (nI b)) + (nI w)) = ((30 * b) + w) from tf_cln (tf_add (a := (30 * b)) (b := w) (tf_mul (a := 30) (b := b) (rfl : (30 : Int32) = nI 30) rfl) rfl) (by omega)]
  rw [tf_rw_u2]
  exact tf_ret ftX11_changes hR rfl ⟨by decide, by decide⟩ rfl rfl rfl

set_option maxHeartbeats 1000000 in
theorem m_betterOf {G : tf_G} {S : tf_Sg} {o : Nat} {f : Nat → Nat} (h b : Nat) (ho : tf_mo G o) (hf : tf_sf G S o f) (hg : tf_gd f) (hh : h < 4) (hbb : b < 4) : tf_Fn mX11_betterOf 6 0 0 G S [.ref o, .int (nI h), .int (nI b)] G S (some (.int (tf_on 3000 (tf_be f h b)))) := by
  obtain ⟨h1, ⟨r0, t0, n0⟩, ⟨r1, t1, n1⟩, ⟨r2, t2, n2⟩, ⟨r4, t4, n4⟩⟩ := id ho
  obtain ⟨hs, hb⟩ := id hf
  obtain ⟨⟨g1, g2, g3, g4⟩, g5, g6, g7, g8, g9, g10, g11⟩ := id hg
  refine tf_Fn_of (own := RX11) false ⟨by decide, rfl, by decide⟩ (Nat.le_of_ble_eq_true rfl) trivial (fun x hx hR => ?_)
  show tf_K x 0 0 G S 0 [some (.ref o), some (.int (nI h)), some (.int (nI b)), none, none, none, none, none] []
  unfold tf_be at hR
  refine tf_go hx ftX11_betterOf 6 [] 7 [some (.ref o), some (.int (nI h)), some (.int (nI b)), some (.int (-9)), none, none, none, none] [.int 0, .int (nI b), .int (nI h), .ref o] S rfl ⟨by decide, by decide, rfl⟩ trivial ?_
  refine tf_cV hx ftX11_betterOf (nx := 10) (As := [.int (nI h), .int (nI b), .int 0]) (rest := []) (st2 := [.int (nI (tf_tm f h b 0))]) (m_timeOf h b 0 ho hf hg hh hbb (by decide)) rfl lX11_92 (by first | assumption | rfl | decide) rfl ⟨rfl, by decide, by decide, by decide, rfl, rfl⟩ ?_
  have tmb : ∀ F, tf_gd F → tf_tm F h b 0 ≤ 480000 := fun F hF => tf_tm_le hF hh
  refine tf_go hx ftX11_betterOf 3 [] 15 [some (.ref o), some (.int (nI h)), some (.int (nI b)), some (.int (-9)), some (.int (nI (tf_tm f h b 0))), some (.int 0), none, none] [] S rfl ⟨by decide, by decide, rfl⟩ trivial ?_
  have t0 := tmb f hg
  refine tf_fgt [some (.ref o), some (.int (nI h)), some (.int (nI b)), some (.int (-9)), some (.int (nI (tf_tm f h b 0))), some (.int 0), none, none] (by simp [tf_lss]) ?_
  have loop : ∀ (m k : Nat) (q : Nat × Nat), k + m = 30 → ((tf_b1 f h b m k q) = tf_b1 f h b 30 0 (3000, tf_tm f h b 0)) → (q.2 ≤ 480000) → (q.1 = 3000 ∨ q.1 < 3000) → tf_K x 0 0 G S 15 [some (.ref o), some (.int (nI h)), some (.int (nI b)), some (.int (tf_on 3000 q.1)), some (.int (nI q.2)), some (.int (nI k)), none, none] [] := by
    intro m
    induction m with
    | zero =>
      intro k q hk he hq2 hq1
      refine tf_go hx ftX11_betterOf 2 [] 19 [some (.ref o), some (.int (nI h)), some (.int (nI b)), some (.int (tf_on 3000 q.1)), some (.int (nI q.2)), some (.int (nI k)), none, none] [.int 30, .int (nI k)] S rfl ⟨by decide, by decide, rfl⟩ trivial ?_
      refine tf_go hx ftX11_betterOf 2 [true] 128 [some (.ref o), some (.int (nI h)), some (.int (nI b)), some (.int (tf_on 3000 q.1)), some (.int (nI q.2)), some (.int (nI k)), none, none] [.int (tf_on 3000 q.1)] S rfl ⟨by decide, by decide, rfl⟩ ⟨trivial, (tf_leT (a := 30) (b := k) (rfl : (30 : Int32) = nI 30) rfl (by omega) (by omega) (by omega))⟩ ?_
      exact tf_ret ftX11_betterOf hR rfl ⟨by decide, by decide⟩ rfl rfl (by rw [← he]; rfl)
    | succ m ih =>
      intro k q hk he hq2 hq1
      refine tf_go hx ftX11_betterOf 2 [] 19 [some (.ref o), some (.int (nI h)), some (.int (nI b)), some (.int (tf_on 3000 q.1)), some (.int (nI q.2)), some (.int (nI k)), none, none] [.int 30, .int (nI k)] S rfl ⟨by decide, by decide, rfl⟩ trivial ?_
      refine tf_go hx ftX11_betterOf 5 [false] 28 [some (.ref o), some (.int (nI h)), some (.int (nI b)), some (.int (tf_on 3000 q.1)), some (.int (nI q.2)), some (.int (nI k)), some (.int ((nI k) + 1)), none] [] S rfl ⟨by decide, by decide, rfl⟩ ⟨trivial, (tf_leF (a := 30) (b := k) (rfl : (30 : Int32) = nI 30) rfl (by omega) (by omega) (by omega))⟩ ?_
      rw [show ((nI k) + 1) = nI (k + 1) from (tf_add (a := k) (b := 1) rfl (rfl : (1 : Int32) = nI 1))]
      rw [tf_b1_s] at he
      have inner : ∀ (i j : Nat) (r : Nat × Nat), j + i = 30 → tf_b2 f h b k i j r = tf_b2 f h b k (30 - (k + 1)) (k + 1) q → k < j → r.2 ≤ 480000 → (r.1 = 3000 ∨ r.1 < 3000) → tf_K x 0 0 G S 28 [some (.ref o), some (.int (nI h)), some (.int (nI b)), some (.int (tf_on 3000 r.1)), some (.int (nI r.2)), some (.int (nI k)), some (.int (nI j)), none] [] := by
        intro i
        induction i with
        | zero =>
          intro j r hj hr hkj hr2 hr1
          refine tf_go hx ftX11_betterOf 2 [] 32 [some (.ref o), some (.int (nI h)), some (.int (nI b)), some (.int (tf_on 3000 r.1)), some (.int (nI r.2)), some (.int (nI k)), some (.int (nI j)), none] [.int 30, .int (nI j)] S rfl ⟨by decide, by decide, rfl⟩ trivial ?_
          refine tf_go hx ftX11_betterOf 3 [true] 15 [some (.ref o), some (.int (nI h)), some (.int (nI b)), some (.int (tf_on 3000 r.1)), some (.int (nI r.2)), some (.int ((nI k) + 1)), some (.int (nI j)), none] [] S rfl ⟨by decide, by decide, rfl⟩ ⟨trivial, (tf_leT (a := 30) (b := j) (rfl : (30 : Int32) = nI 30) rfl (by omega) (by omega) (by omega))⟩ ?_
          rw [show ((nI k) + 1) = nI (k + 1) from (tf_add (a := k) (b := 1) rfl (rfl : (1 : Int32) = nI 1))]
          refine tf_fgt [some (.ref o), some (.int (nI h)), some (.int (nI b)), some (.int (tf_on 3000 r.1)), some (.int (nI r.2)), some (.int (nI (k + 1))), none, none] (by simp [tf_lss]) ?_
          exact ih (k + 1) r (by omega) (by rw [← he, ← hr]; rfl) hr2 hr1
        | succ i ihj =>
          intro j r hj hr hkj hr2 hr1
          rw [tf_b2_s] at hr
          refine tf_go hx ftX11_betterOf 2 [] 32 [some (.ref o), some (.int (nI h)), some (.int (nI b)), some (.int (tf_on 3000 r.1)), some (.int (nI r.2)), some (.int (nI k)), some (.int (nI j)), none] [.int 30, .int (nI j)] S rfl ⟨by decide, by decide, rfl⟩ trivial ?_
          refine tf_go hx ftX11_betterOf 1 [false] 35 [some (.ref o), some (.int (nI h)), some (.int (nI b)), some (.int (tf_on 3000 r.1)), some (.int (nI r.2)), some (.int (nI k)), some (.int (nI j)), none] [] S rfl ⟨by decide, by decide, rfl⟩ ⟨trivial, (tf_leF (a := 30) (b := j) (rfl : (30 : Int32) = nI 30) rfl (by omega) (by omega) (by omega))⟩ ?_
          refine tf_go hx ftX11_betterOf 16 [] 59 [some (.ref o), some (.int (nI h)), some (.int (nI b)), some (.int (tf_on 3000 r.1)), some (.int (nI r.2)), some (.int (nI k)), some (.int (nI j)), none] [.int (S (tf_rf G o 1) (Int32.toNatClampNeg ((30 * (nI b)) + (nI j)))), .int (S (tf_rf G o 1) (Int32.toNatClampNeg ((30 * (nI b)) + (nI k))))] S rfl ⟨by decide, by decide, rfl⟩ ⟨⟨⟨⟨trivial, ⟨by first | assumption | rfl | decide | omega, by first | assumption | rfl | decide | omega⟩⟩, ⟨Or.inl (by first | assumption | rfl | decide | omega), by first | assumption | exact tf_in (n := ((30 * b) + k)) (tf_add (a := (30 * b)) (b := k) (tf_mul (a := 30) (b := b) (rfl : (30 : Int32) = nI 30) rfl) rfl) (by first | assumption | rfl) (by omega) (by decide)⟩⟩, ⟨by first | assumption | rfl | decide | omega, by first | assumption | rfl | decide | omega⟩⟩, ⟨Or.inl (by first | assumption | rfl | decide | omega), by first | assumption | exact tf_in (n := ((30 * b) + j)) (tf_add (a := (30 * b)) (b := j) (tf_mul (a := 30) (b := b) (rfl : (30 : Int32) = nI 30) rfl) rfl) (by first | assumption | rfl) (by omega) (by decide)⟩⟩ ?_
          rw [show (S (tf_rf G o 1) (Int32.toNatClampNeg ((30 * (nI b)) + (nI j)))) = nI (f ((30 * b) + j)) from (tf_rd hs (tf_add (a := (30 * b)) (b := j) (tf_mul (a := 30) (b := b) (rfl : (30 : Int32) = nI 30) rfl) rfl) (by omega))]
          rw [show (S (tf_rf G o 1) (Int32.toNatClampNeg ((30 * (nI b)) + (nI k)))) = nI (f ((30 * b) + k)) from (tf_rd hs (tf_add (a := (30 * b)) (b := k) (tf_mul (a := 30) (b := b) (rfl : (30 : Int32) = nI 30) rfl) rfl) (by omega))]
          by_cases d1 : f (30 * b + k) = f (30 * b + j)
          · rw [if_pos d1] at hr
            refine tf_go hx ftX11_betterOf 4 [false] 28 [some (.ref o), some (.int (nI h)), some (.int (nI b)), some (.int (tf_on 3000 r.1)), some (.int (nI r.2)), some (.int (nI k)), some (.int ((nI j) + 1)), none] [] S rfl ⟨by decide, by decide, rfl⟩ ⟨trivial, (tf_neF (a := (f ((30 * b) + k))) (b := (f ((30 * b) + j))) rfl rfl (by have := hb ((30 * b) + k); have := hb ((30 * b) + j); omega))⟩ ?_
            rw [show ((nI j) + 1) = nI (j + 1) from (tf_add (a := j) (b := 1) rfl (rfl : (1 : Int32) = nI 1))]
            exact ihj (j + 1) r (by omega) hr (by omega) hr2 hr1
          · rw [if_neg d1] at hr
            refine tf_go hx ftX11_betterOf 1 [true] 65 [some (.ref o), some (.int (nI h)), some (.int (nI b)), some (.int (tf_on 3000 r.1)), some (.int (nI r.2)), some (.int (nI k)), some (.int (nI j)), none] [] S rfl ⟨by decide, by decide, rfl⟩ ⟨trivial, (tf_eqF (a := (f ((30 * b) + k))) (b := (f ((30 * b) + j))) rfl rfl (by have := hb ((30 * b) + k); have := hb ((30 * b) + j); omega) (by have := hb ((30 * b) + k); have := hb ((30 * b) + j); omega) (by have := hb ((30 * b) + k); have := hb ((30 * b) + j); omega))⟩ ?_
            refine tf_go hx ftX11_betterOf 4 [] 71 [some (.ref o), some (.int (nI h)), some (.int (nI b)), some (.int (tf_on 3000 r.1)), some (.int (nI r.2)), some (.int (nI k)), some (.int (nI j)), none] [.int (nI j), .int (nI k), .int (nI b), .ref o] S rfl ⟨by decide, by decide, rfl⟩ trivial ?_
            have hx2 := tf_ex_gd hg (x := k) (y := j) hbb (by omega) (by omega)
            have hsf : tf_sf G (tf_rw S (tf_rf G o 1) (tf_ex f b k j)) o (tf_ex f b k j) := tf_sf_rw (tf_ex_le hb)
            refine tf_cV hx ftX11_betterOf (nx := 74) (As := [.int (nI b), .int (nI k), .int (nI j)]) (rest := []) (st2 := []) (m_changes b k j ho hf hbb (by omega) (by omega)) rfl lX11_119 (by first | assumption | rfl | decide) rfl ⟨rfl, by decide, by decide, by decide, rfl, rfl⟩ ?_
            refine tf_go hx ftX11_betterOf 4 [] 78 [some (.ref o), some (.int (nI h)), some (.int (nI b)), some (.int (tf_on 3000 r.1)), some (.int (nI r.2)), some (.int (nI k)), some (.int (nI j)), none] [.int 0, .int (nI b), .int (nI h), .ref o] (tf_rw S (tf_rf G o 1) (tf_ex f b k j)) rfl ⟨by decide, by decide, rfl⟩ trivial ?_
            refine tf_cV hx ftX11_betterOf (nx := 81) (As := [.int (nI h), .int (nI b), .int 0]) (rest := []) (st2 := [.int (nI (tf_tm (tf_ex f b k j) h b 0))]) (m_timeOf h b 0 ho hsf hx2 hh hbb (by decide)) rfl lX11_92 (by first | assumption | rfl | decide) rfl ⟨rfl, by decide, by decide, by decide, rfl, rfl⟩ ?_
            have t1 := tmb _ hx2
            refine tf_go hx ftX11_betterOf 5 [] 89 [some (.ref o), some (.int (nI h)), some (.int (nI b)), some (.int (tf_on 3000 r.1)), some (.int (nI r.2)), some (.int (nI k)), some (.int (nI j)), some (.int (nI (tf_tm (tf_ex f b k j) h b 0)))] [.int (nI j), .int (nI k), .int (nI b), .ref o] (tf_rw S (tf_rf G o 1) (tf_ex f b k j)) rfl ⟨by decide, by decide, rfl⟩ trivial ?_
            refine tf_cV hx ftX11_betterOf (nx := 92) (As := [.int (nI b), .int (nI k), .int (nI j)]) (rest := []) (st2 := []) ((by have h := m_changes b k j ho hsf hbb (by omega) (by omega); rw [tf_rw_rw, tf_ex_ex (by omega), tf_rw_id hs] at h; exact h)) rfl lX11_119 (by first | assumption | rfl | decide) rfl ⟨rfl, by decide, by decide, by decide, rfl, rfl⟩ ?_
            refine tf_go hx ftX11_betterOf 2 [] 96 [some (.ref o), some (.int (nI h)), some (.int (nI b)), some (.int (tf_on 3000 r.1)), some (.int (nI r.2)), some (.int (nI k)), some (.int (nI j)), some (.int (nI (tf_tm (tf_ex f b k j) h b 0)))] [.int (nI r.2), .int (nI (tf_tm (tf_ex f b k j) h b 0))] S rfl ⟨by decide, by decide, rfl⟩ trivial ?_
            by_cases d2 : r.2 ≤ tf_tm (tf_ex f b k j) h b 0
            · rw [if_pos d2] at hr
              refine tf_go hx ftX11_betterOf 4 [false] 28 [some (.ref o), some (.int (nI h)), some (.int (nI b)), some (.int (tf_on 3000 r.1)), some (.int (nI r.2)), some (.int (nI k)), some (.int ((nI j) + 1)), some (.int (nI (tf_tm (tf_ex f b k j) h b 0)))] [] S rfl ⟨by decide, by decide, rfl⟩ ⟨trivial, (tf_ltF (a := (tf_tm (tf_ex f b k j) h b 0)) (b := r.2) rfl rfl (by have := hb b; omega) (by have := hb b; omega) (by have := hb b; omega))⟩ ?_
              rw [show ((nI j) + 1) = nI (j + 1) from (tf_add (a := j) (b := 1) rfl (rfl : (1 : Int32) = nI 1))]
              refine tf_fgt [some (.ref o), some (.int (nI h)), some (.int (nI b)), some (.int (tf_on 3000 r.1)), some (.int (nI r.2)), some (.int (nI k)), some (.int (nI (j + 1))), none] (by simp [tf_lss]) ?_
              exact ihj (j + 1) r (by omega) hr (by omega) hr2 hr1
            · rw [if_neg d2] at hr
              refine tf_go hx ftX11_betterOf 11 [true] 28 [some (.ref o), some (.int (nI h)), some (.int (nI b)), some (.int ((100 * (nI k)) + (nI j))), some (.int (nI (tf_tm (tf_ex f b k j) h b 0))), some (.int (nI k)), some (.int ((nI j) + 1)), some (.int (nI (tf_tm (tf_ex f b k j) h b 0)))] [] S rfl ⟨by decide, by decide, rfl⟩ ⟨trivial, (tf_ltT (a := (tf_tm (tf_ex f b k j) h b 0)) (b := r.2) rfl rfl (by have := hb b; omega) (by have := hb b; omega) (by have := hb b; omega))⟩ ?_
              rw [show ((100 * (nI k)) + (nI j)) = nI ((100 * k) + j) from (tf_add (a := (100 * k)) (b := j) (tf_mul (a := 100) (b := k) (rfl : (100 : Int32) = nI 100) rfl) rfl)]
              rw [show ((nI j) + 1) = nI (j + 1) from (tf_add (a := j) (b := 1) rfl (rfl : (1 : Int32) = nI 1))]
              refine tf_fgt [some (.ref o), some (.int (nI h)), some (.int (nI b)), some (.int (nI (100 * k + j))), some (.int (nI (tf_tm (tf_ex f b k j) h b 0))), some (.int (nI k)), some (.int (nI (j + 1))), none] (by simp [tf_lss]) ?_
              have h0 := ihj (j + 1) (100 * k + j, tf_tm (tf_ex f b k j) h b 0) (by omega) hr (by omega) t1 (Or.inr (show 100 * k + j < 3000 by omega))
              rw [tf_on_y (show 100 * k + j < 3000 by omega)] at h0
              exact h0
      refine tf_fgt [some (.ref o), some (.int (nI h)), some (.int (nI b)), some (.int (tf_on 3000 q.1)), some (.int (nI q.2)), some (.int (nI k)), some (.int (nI (k + 1))), none] (by simp [tf_lss]) ?_
      exact inner (30 - (k + 1)) (k + 1) q (by omega) rfl (by omega) hq2 hq1
  exact loop 30 0 (3000, tf_tm f h b 0) rfl rfl t0 (Or.inl rfl)

set_option maxHeartbeats 1000000 in
theorem m_farOf {G : tf_G} {S : tf_Sg} {o : Nat} {f : Nat → Nat} (h b : Nat) (ho : tf_mo G o) (hf : tf_sf G S o f) (hg : tf_gd f) (hh : h < 4) (hbb : b < 4) : tf_Fn mX11_farOf 5 0 0 G S [.ref o, .int (nI h), .int (nI b)] G S (some (.int (nI (tf_fa f h b)))) := by
  obtain ⟨h1, ⟨r0, t0, n0⟩, ⟨r1, t1, n1⟩, ⟨r2, t2, n2⟩, ⟨r4, t4, n4⟩⟩ := id ho
  obtain ⟨hs, hb⟩ := id hf
  obtain ⟨⟨g1, g2, g3, g4⟩, g5, g6, g7, g8, g9, g10, g11⟩ := id hg
  refine tf_Fn_of (own := RX11) false ⟨by decide, rfl, by decide⟩ (Nat.le_of_ble_eq_true rfl) trivial (fun x hx hR => ?_)
  show tf_K x 0 0 G S 0 [some (.ref o), some (.int (nI h)), some (.int (nI b)), none, none] []
  unfold tf_fa at hR
  refine tf_go hx ftX11_farOf 4 [] 5 [some (.ref o), some (.int (nI h)), some (.int (nI b)), some (.int 0), some (.int 0)] [] S rfl ⟨by decide, by decide, rfl⟩ trivial ?_
  have loop : ∀ (m k : Nat) (y : Nat), 41 = k + m → (y + tf_fl2 f h b m k = tf_fl2 f h b 41 0) → (k ≤ 60) → tf_K x 0 0 G S 5 [some (.ref o), some (.int (nI h)), some (.int (nI b)), some (.int (nI y)), some (.int (nI k))] [] := by
    intro m
    induction m with
    | zero =>
      intro k y hk he hk3
      refine tf_go hx ftX11_farOf 5 [] 15 [some (.ref o), some (.int (nI h)), some (.int (nI b)), some (.int (nI y)), some (.int (nI k))] [.int (S (tf_rf G o 1) (Int32.toNatClampNeg 367)), .int (nI k)] S rfl ⟨by decide, by decide, rfl⟩ ⟨⟨trivial, ⟨by first | assumption | rfl | decide | omega, by first | assumption | rfl | decide | omega⟩⟩, ⟨Or.inl (by first | assumption | rfl | decide | omega), by first | assumption | exact tf_in (n := 367) (rfl : (367 : Int32) = nI 367) (by first | assumption | rfl) (by omega) (by decide)⟩⟩ ?_
      rw [show (S (tf_rf G o 1) (Int32.toNatClampNeg 367)) = nI (f 367) from (tf_rd hs (rfl : (367 : Int32) = nI 367) (by omega))]
      by_cases c0 : k < f 367
      · refine tf_go hx ftX11_farOf 1 [false] 18 [some (.ref o), some (.int (nI h)), some (.int (nI b)), some (.int (nI y)), some (.int (nI k))] [] S rfl ⟨by decide, by decide, rfl⟩ ⟨trivial, (tf_leF (a := (f 367)) (b := k) rfl rfl (by have := hb 367; omega) (by have := hb 367; omega) (by have := hb 367; omega))⟩ ?_
        refine tf_go hx ftX11_farOf 5 [] 28 [some (.ref o), some (.int (nI h)), some (.int (nI b)), some (.int (nI y)), some (.int (nI k))] [.int (S (tf_rf G o 1) (Int32.toNatClampNeg 364)), .int (nI k)] S rfl ⟨by decide, by decide, rfl⟩ ⟨⟨trivial, ⟨by first | assumption | rfl | decide | omega, by first | assumption | rfl | decide | omega⟩⟩, ⟨Or.inl (by first | assumption | rfl | decide | omega), by first | assumption | exact tf_in (n := 364) (rfl : (364 : Int32) = nI 364) (by first | assumption | rfl) (by omega) (by decide)⟩⟩ ?_
        rw [show (S (tf_rf G o 1) (Int32.toNatClampNeg 364)) = nI (f 364) from (tf_rd hs (rfl : (364 : Int32) = nI 364) (by omega))]
        refine tf_go hx ftX11_farOf 2 [true] 65 [some (.ref o), some (.int (nI h)), some (.int (nI b)), some (.int (nI y)), some (.int (nI k))] [.int (nI y)] S rfl ⟨by decide, by decide, rfl⟩ ⟨trivial, (tf_leT (a := (f 364)) (b := k) rfl rfl (by have := hb 364; omega) (by have := hb 364; omega) (by have := hb 364; omega))⟩ ?_
        exact tf_ret ftX11_farOf hR rfl ⟨by decide, by decide⟩ rfl rfl (by rw [← he]; rfl)
      · refine tf_go hx ftX11_farOf 2 [true] 65 [some (.ref o), some (.int (nI h)), some (.int (nI b)), some (.int (nI y)), some (.int (nI k))] [.int (nI y)] S rfl ⟨by decide, by decide, rfl⟩ ⟨trivial, (tf_leT (a := (f 367)) (b := k) rfl rfl (by have := hb 367; omega) (by have := hb 367; omega) (by have := hb 367; omega))⟩ ?_
        exact tf_ret ftX11_farOf hR rfl ⟨by decide, by decide⟩ rfl rfl (by rw [← he]; rfl)
    | succ m ih =>
      intro k y hk he hk3
      rw [tf_fl2_s] at he
      refine tf_go hx ftX11_farOf 5 [] 15 [some (.ref o), some (.int (nI h)), some (.int (nI b)), some (.int (nI y)), some (.int (nI k))] [.int (S (tf_rf G o 1) (Int32.toNatClampNeg 367)), .int (nI k)] S rfl ⟨by decide, by decide, rfl⟩ ⟨⟨trivial, ⟨by first | assumption | rfl | decide | omega, by first | assumption | rfl | decide | omega⟩⟩, ⟨Or.inl (by first | assumption | rfl | decide | omega), by first | assumption | exact tf_in (n := 367) (rfl : (367 : Int32) = nI 367) (by first | assumption | rfl) (by omega) (by decide)⟩⟩ ?_
      rw [show (S (tf_rf G o 1) (Int32.toNatClampNeg 367)) = nI (f 367) from (tf_rd hs (rfl : (367 : Int32) = nI 367) (by omega))]
      by_cases c1 : k < f 367
      · refine tf_go hx ftX11_farOf 1 [false] 18 [some (.ref o), some (.int (nI h)), some (.int (nI b)), some (.int (nI y)), some (.int (nI k))] [] S rfl ⟨by decide, by decide, rfl⟩ ⟨trivial, (tf_leF (a := (f 367)) (b := k) rfl rfl (by have := hb 367; omega) (by have := hb 367; omega) (by have := hb 367; omega))⟩ ?_
        refine tf_go hx ftX11_farOf 5 [] 28 [some (.ref o), some (.int (nI h)), some (.int (nI b)), some (.int (nI y)), some (.int (nI k))] [.int (S (tf_rf G o 1) (Int32.toNatClampNeg 364)), .int (nI k)] S rfl ⟨by decide, by decide, rfl⟩ ⟨⟨trivial, ⟨by first | assumption | rfl | decide | omega, by first | assumption | rfl | decide | omega⟩⟩, ⟨Or.inl (by first | assumption | rfl | decide | omega), by first | assumption | exact tf_in (n := 364) (rfl : (364 : Int32) = nI 364) (by first | assumption | rfl) (by omega) (by decide)⟩⟩ ?_
        rw [show (S (tf_rf G o 1) (Int32.toNatClampNeg 364)) = nI (f 364) from (tf_rd hs (rfl : (364 : Int32) = nI 364) (by omega))]
        by_cases c2 : k < f 364
        · rw [if_pos ⟨c1, c2⟩] at he
          refine tf_go hx ftX11_farOf 1 [false] 31 [some (.ref o), some (.int (nI h)), some (.int (nI b)), some (.int (nI y)), some (.int (nI k))] [] S rfl ⟨by decide, by decide, rfl⟩ ⟨trivial, (tf_leF (a := (f 364)) (b := k) rfl rfl (by have := hb 364; omega) (by have := hb 364; omega) (by have := hb 364; omega))⟩ ?_
          refine tf_go hx ftX11_farOf 12 [] 49 [some (.ref o), some (.int (nI h)), some (.int (nI b)), some (.int (nI y)), some (.int (nI k))] [.int 0, .int (nI k), .int (nI b), .int (nI h), .ref o, .int (S (tf_rf G o 1) (Int32.toNatClampNeg (324 + (nI k)))), .int (nI y)] S rfl ⟨by decide, by decide, rfl⟩ ⟨⟨trivial, ⟨by first | assumption | rfl | decide | omega, by first | assumption | rfl | decide | omega⟩⟩, ⟨Or.inl (by first | assumption | rfl | decide | omega), by first | assumption | exact tf_in (n := (324 + k)) (tf_add (a := 324) (b := k) (rfl : (324 : Int32) = nI 324) rfl) (by first | assumption | rfl) (by omega) (by decide)⟩⟩ ?_
          rw [show (S (tf_rf G o 1) (Int32.toNatClampNeg (324 + (nI k)))) = nI (f (324 + k)) from (tf_rd hs (tf_add (a := 324) (b := k) (rfl : (324 : Int32) = nI 324) rfl) (by omega))]
          refine tf_cV hx ftX11_farOf (nx := 52) (As := [.int (nI h), .int (nI b), .int (nI k), .int 0]) (rest := [.int (nI (f (324 + k))), .int (nI y)]) (st2 := [.int (nI (tf_gt f h b k 0)), .int (nI (f (324 + k))), .int (nI y)]) (m_gapAt h b k 0 ho hf hg hh hbb c2 (by decide)) rfl lX11_89 (by first | assumption | rfl | decide) rfl ⟨rfl, by decide, by decide, by decide, rfl, rfl⟩ ?_
          have gl := tf_gt_le hg (b := b) (i := k) (t := 0) hh
          refine tf_go hx ftX11_farOf 1 [] 53 [some (.ref o), some (.int (nI h)), some (.int (nI b)), some (.int (nI y)), some (.int (nI k))] [.int ((nI (f (324 + k))) - (nI (tf_gt f h b k 0))), .int (nI y)] S rfl ⟨by decide, by decide, rfl⟩ trivial ?_
          refine tf_cS hx ftX11_farOf (nx := 56) (As := [.int ((nI (f (324 + k))) - (nI (tf_gt f h b k 0)))]) (rest := [.int (nI y)]) (st2 := [.int (nI (tf_di (f (324 + k)) (tf_gt f h b k 0))), .int (nI y)]) ((by have h2 := m_amount (G := G) (S := S) (nI (f (324 + k)) - nI (tf_gt f h b k 0)); rw [tf_amt (by have := hb (324 + k); omega) (by omega)] at h2; exact h2)) rfl lX11_69 rfl ⟨rfl, by decide, by decide, by decide, rfl, rfl⟩ ?_
          refine tf_go hx ftX11_farOf 4 [] 5 [some (.ref o), some (.int (nI h)), some (.int (nI b)), some (.int ((nI y) + (nI (tf_di (f (324 + k)) (tf_gt f h b k 0))))), some (.int ((nI k) + 1))] [] S rfl ⟨by decide, by decide, rfl⟩ trivial ?_
          rw [show ((nI y) + (nI (tf_di (f (324 + k)) (tf_gt f h b k 0)))) = nI (y + (tf_di (f (324 + k)) (tf_gt f h b k 0))) from (tf_add (a := y) (b := (tf_di (f (324 + k)) (tf_gt f h b k 0))) rfl rfl)]
          rw [show ((nI k) + 1) = nI (k + 1) from (tf_add (a := k) (b := 1) rfl (rfl : (1 : Int32) = nI 1))]
          exact ih (k + 1) (y + tf_di (f (324 + k)) (tf_gt f h b k 0)) (by omega) (by omega) (by omega)
        · refine tf_go hx ftX11_farOf 2 [true] 65 [some (.ref o), some (.int (nI h)), some (.int (nI b)), some (.int (nI y)), some (.int (nI k))] [.int (nI y)] S rfl ⟨by decide, by decide, rfl⟩ ⟨trivial, (tf_leT (a := (f 364)) (b := k) rfl rfl (by have := hb 364; omega) (by have := hb 364; omega) (by have := hb 364; omega))⟩ ?_
          exact tf_ret ftX11_farOf hR rfl ⟨by decide, by decide⟩ rfl rfl (by rw [if_neg (by omega)] at he; rw [← he]; rfl)
      · refine tf_go hx ftX11_farOf 2 [true] 65 [some (.ref o), some (.int (nI h)), some (.int (nI b)), some (.int (nI y)), some (.int (nI k))] [.int (nI y)] S rfl ⟨by decide, by decide, rfl⟩ ⟨trivial, (tf_leT (a := (f 367)) (b := k) rfl rfl (by have := hb 367; omega) (by have := hb 367; omega) (by have := hb 367; omega))⟩ ?_
        exact tf_ret ftX11_farOf hR rfl ⟨by decide, by decide⟩ rfl rfl (by rw [if_neg (by omega)] at he; rw [← he]; rfl)
  exact loop 41 0 0 (by omega) (by omega) (by omega)

set_option maxHeartbeats 1000000 in
theorem m_acheAt {G : tf_G} {S : tf_Sg} {o : Nat} {f : Nat → Nat} (b i : Nat) (ho : tf_mo G o) (hf : tf_sf G S o f) (hg : tf_gd f) (hbb : b < 4) (hi : i < f 364) : tf_Fn mX11_acheAt 2 0 0 G S [.ref o, .int (nI b), .int (nI i)] G S (some (.int (nI (tf_ah f b i)))) := by
  obtain ⟨h1, ⟨r0, t0, n0⟩, ⟨r1, t1, n1⟩, ⟨r2, t2, n2⟩, ⟨r4, t4, n4⟩⟩ := id ho
  obtain ⟨hs, hb⟩ := id hf
  obtain ⟨⟨g1, g2, g3, g4⟩, g5, g6, g7, g8, g9, g10, g11⟩ := id hg
  refine tf_Fn_of (own := RX11) false ⟨by decide, rfl, by decide⟩ (Nat.le_of_ble_eq_true rfl) trivial (fun x hx hR => ?_)
  show tf_K x 0 0 G S 0 [some (.ref o), some (.int (nI b)), some (.int (nI i)), none, none] []
  unfold tf_ah at hR
  have l1 := g6 i hi
  refine tf_go hx ftX11_acheAt 8 [] 12 [some (.ref o), some (.int (nI b)), some (.int (nI i)), none, none] [.int (S (tf_rf G o 1) (Int32.toNatClampNeg (144 + (nI i)))), .int (nI b), .ref o] S rfl ⟨by decide, by decide, rfl⟩ ⟨⟨trivial, ⟨by first | assumption | rfl | decide | omega, by first | assumption | rfl | decide | omega⟩⟩, ⟨Or.inl (by first | assumption | rfl | decide | omega), by first | assumption | exact tf_in (n := (144 + i)) (tf_add (a := 144) (b := i) (rfl : (144 : Int32) = nI 144) rfl) (by first | assumption | rfl) (by omega) (by decide)⟩⟩ ?_
  rw [show (S (tf_rf G o 1) (Int32.toNatClampNeg (144 + (nI i)))) = nI (f (144 + i)) from (tf_rd hs (tf_add (a := 144) (b := i) (rfl : (144 : Int32) = nI 144) rfl) (by omega))]
  refine tf_cV hx ftX11_acheAt (nx := 15) (As := [.int (nI b), .int (nI (f (144 + i)))]) (rest := []) (st2 := [.int (tf_on 30 (tf_ke f b (f (144 + i))))]) (m_keyAt b (f (144 + i)) ho hf hbb (by omega)) rfl lX11_51 (by first | assumption | rfl | decide) rfl ⟨rfl, by decide, by decide, by decide, rfl, rfl⟩ ?_
  have k1 := tf_ke_le f b (f (144 + i))
  generalize hu : tf_ke f b (f (144 + i)) = u at *
  by_cases c1 : u = 30
  · rw [tf_on_n (by omega)]
    refine tf_go hx ftX11_acheAt 4 [false] 21 [some (.ref o), some (.int (nI b)), some (.int (nI i)), some (.int (-9)), none] [.int 0] S rfl ⟨by decide, by decide, rfl⟩ ⟨trivial, (by decide)⟩ ?_
    exact tf_ret ftX11_acheAt hR rfl ⟨by decide, by decide⟩ rfl rfl (by rw [if_pos c1]; rfl)
  · rw [tf_on_y (show u < 30 by omega)]
    refine tf_go hx ftX11_acheAt 2 [] 17 [some (.ref o), some (.int (nI b)), some (.int (nI i)), some (.int (nI u)), none] [.int (nI u)] S rfl ⟨by decide, by decide, rfl⟩ trivial ?_
    refine tf_go hx ftX11_acheAt 1 [true] 22 [some (.ref o), some (.int (nI b)), some (.int (nI i)), some (.int (nI u)), none] [] S rfl ⟨by decide, by decide, rfl⟩ ⟨trivial, (tf_leT (a := 0) (b := u) (rfl : (0 : Int32) = nI 0) rfl (by omega) (by omega) (by omega))⟩ ?_
    refine tf_go hx ftX11_acheAt 1 [] 23 [some (.ref o), some (.int (nI b)), some (.int (nI i)), some (.int (nI u)), none] [.int (nI i)] S rfl ⟨by decide, by decide, rfl⟩ trivial ?_
    by_cases c2 : i = 0
    · refine tf_go hx ftX11_acheAt 4 [false] 50 [some (.ref o), some (.int (nI b)), some (.int (nI i)), some (.int (nI u)), some (.int (-9))] [] S rfl ⟨by decide, by decide, rfl⟩ ⟨trivial, (tf_neF (a := i) (b := 0) rfl (rfl : (0 : Int32) = nI 0) (by omega))⟩ ?_
      refine tf_go hx ftX11_acheAt 3 [true] 80 [some (.ref o), some (.int (nI b)), some (.int (nI i)), some (.int (nI u)), some (.int (-9))] [.int 1] S rfl ⟨by decide, by decide, rfl⟩ ⟨trivial, (by decide)⟩ ?_
      exact tf_ret ftX11_acheAt hR rfl ⟨by decide, by decide⟩ rfl rfl (by rw [if_neg c1, if_neg (by rintro ⟨h, -⟩; exact h c2)]; rfl)
    · have l2 := g6 (i - 1) (by omega)
      rw [show 144 + (i - 1) = 144 + i - 1 by omega] at l2
      refine tf_go hx ftX11_acheAt 1 [true] 31 [some (.ref o), some (.int (nI b)), some (.int (nI i)), some (.int (nI u)), none] [] S rfl ⟨by decide, by decide, rfl⟩ ⟨trivial, (tf_eqF (a := i) (b := 0) rfl (rfl : (0 : Int32) = nI 0) (by omega) (by omega) (by omega))⟩ ?_
      refine tf_go hx ftX11_acheAt 10 [] 45 [some (.ref o), some (.int (nI b)), some (.int (nI i)), some (.int (nI u)), none] [.int (S (tf_rf G o 1) (Int32.toNatClampNeg ((144 + (nI i)) - 1))), .int (nI b), .ref o] S rfl ⟨by decide, by decide, rfl⟩ ⟨⟨trivial, ⟨by first | assumption | rfl | decide | omega, by first | assumption | rfl | decide | omega⟩⟩, ⟨Or.inl (by first | assumption | rfl | decide | omega), by first | assumption | exact tf_in (n := ((144 + i) - 1)) (tf_sub (a := (144 + i)) (b := 1) (tf_add (a := 144) (b := i) (rfl : (144 : Int32) = nI 144) rfl) (rfl : (1 : Int32) = nI 1) (by omega)) (by first | assumption | rfl) (by omega) (by decide)⟩⟩ ?_
      rw [show (S (tf_rf G o 1) (Int32.toNatClampNeg ((144 + (nI i)) - 1))) = nI (f ((144 + i) - 1)) from (tf_rd hs (tf_sub (a := (144 + i)) (b := 1) (tf_add (a := 144) (b := i) (rfl : (144 : Int32) = nI 144) rfl) (rfl : (1 : Int32) = nI 1) (by omega)) (by omega))]
      refine tf_cV hx ftX11_acheAt (nx := 48) (As := [.int (nI b), .int (nI (f ((144 + i) - 1)))]) (rest := []) (st2 := [.int (tf_on 30 (tf_ke f b (f (144 + i - 1))))]) (m_keyAt b (f (144 + i - 1)) ho hf hbb (by omega)) rfl lX11_51 (by first | assumption | rfl | decide) rfl ⟨rfl, by decide, by decide, by decide, rfl, rfl⟩ ?_
      have k2 := tf_ke_le f b (f (144 + i - 1))
      generalize hv : tf_ke f b (f (144 + i - 1)) = v at *
      by_cases c3 : v = 30
      · rw [tf_on_n (by omega)]
        refine tf_go hx ftX11_acheAt 2 [] 52 [some (.ref o), some (.int (nI b)), some (.int (nI i)), some (.int (nI u)), some (.int (-9))] [.int (-9)] S rfl ⟨by decide, by decide, rfl⟩ trivial ?_
        refine tf_go hx ftX11_acheAt 2 [true] 80 [some (.ref o), some (.int (nI b)), some (.int (nI i)), some (.int (nI u)), some (.int (-9))] [.int 1] S rfl ⟨by decide, by decide, rfl⟩ ⟨trivial, (by decide)⟩ ?_
        exact tf_ret ftX11_acheAt hR rfl ⟨by decide, by decide⟩ rfl rfl (by rw [if_neg c1, if_neg (by rintro ⟨-, h, -⟩; omega)]; rfl)
      · rw [tf_on_y (show v < 30 by omega)]
        refine tf_go hx ftX11_acheAt 2 [] 52 [some (.ref o), some (.int (nI b)), some (.int (nI i)), some (.int (nI u)), some (.int (nI v))] [.int (nI v)] S rfl ⟨by decide, by decide, rfl⟩ trivial ?_
        refine tf_go hx ftX11_acheAt 1 [false] 55 [some (.ref o), some (.int (nI b)), some (.int (nI i)), some (.int (nI u)), some (.int (nI v))] [] S rfl ⟨by decide, by decide, rfl⟩ ⟨trivial, (tf_ltF (a := v) (b := 0) rfl (rfl : (0 : Int32) = nI 0) (by omega) (by omega) (by omega))⟩ ?_
        refine tf_go hx ftX11_acheAt 2 [] 58 [some (.ref o), some (.int (nI b)), some (.int (nI i)), some (.int (nI u)), some (.int (nI v))] [.int (nI u), .int (nI v)] S rfl ⟨by decide, by decide, rfl⟩ trivial ?_
        by_cases c4 : v = u
        · refine tf_go hx ftX11_acheAt 2 [true] 80 [some (.ref o), some (.int (nI b)), some (.int (nI i)), some (.int (nI u)), some (.int (nI v))] [.int 1] S rfl ⟨by decide, by decide, rfl⟩ ⟨trivial, (tf_eqT (a := v) (b := u) rfl rfl (by omega))⟩ ?_
          exact tf_ret ftX11_acheAt hR rfl ⟨by decide, by decide⟩ rfl rfl (by rw [if_neg c1, if_neg (by rintro ⟨-, -, h, -⟩; exact h c4)]; rfl)
        · refine tf_go hx ftX11_acheAt 1 [false] 61 [some (.ref o), some (.int (nI b)), some (.int (nI i)), some (.int (nI u)), some (.int (nI v))] [] S rfl ⟨by decide, by decide, rfl⟩ ⟨trivial, (tf_eqF (a := v) (b := u) rfl rfl (by omega) (by omega) (by omega))⟩ ?_
          refine tf_go hx ftX11_acheAt 2 [] 64 [some (.ref o), some (.int (nI b)), some (.int (nI i)), some (.int (nI u)), some (.int (nI v))] [.int 0, .int (nI v)] S rfl ⟨by decide, by decide, rfl⟩ trivial ?_
          refine tf_cS hx ftX11_acheAt (nx := 67) (As := [.int (nI v), .int 0]) (rest := []) (st2 := [.int (nI (tf_fi v 0))]) (m_finger v 0 (by omega) (by decide)) rfl lX11_58 rfl ⟨rfl, by decide, by decide, by decide, rfl, rfl⟩ ?_
          refine tf_go hx ftX11_acheAt 2 [] 69 [some (.ref o), some (.int (nI b)), some (.int (nI i)), some (.int (nI u)), some (.int (nI v))] [.int 0, .int (nI u), .int (nI (tf_fi v 0))] S rfl ⟨by decide, by decide, rfl⟩ trivial ?_
          refine tf_cS hx ftX11_acheAt (nx := 72) (As := [.int (nI u), .int 0]) (rest := [.int (nI (tf_fi v 0))]) (st2 := [.int (nI (tf_fi u 0)), .int (nI (tf_fi v 0))]) (m_finger u 0 (by omega) (by decide)) rfl lX11_58 rfl ⟨rfl, by decide, by decide, by decide, rfl, rfl⟩ ?_
          have f1 := tf_fi_le v 0
          have f2 := tf_fi_le u 0
          by_cases c5 : tf_fi v 0 = tf_fi u 0
          · refine tf_go hx ftX11_acheAt 3 [false] 80 [some (.ref o), some (.int (nI b)), some (.int (nI i)), some (.int (nI u)), some (.int (nI v))] [.int 3] S rfl ⟨by decide, by decide, rfl⟩ ⟨trivial, (tf_neF (a := (tf_fi v 0)) (b := (tf_fi u 0)) rfl rfl (by omega))⟩ ?_
            exact tf_ret ftX11_acheAt hR rfl ⟨by decide, by decide⟩ rfl rfl (by rw [if_neg c1, if_pos ⟨c2, by omega, c4, c5⟩]; rfl)
          · refine tf_go hx ftX11_acheAt 2 [true] 80 [some (.ref o), some (.int (nI b)), some (.int (nI i)), some (.int (nI u)), some (.int (nI v))] [.int 1] S rfl ⟨by decide, by decide, rfl⟩ ⟨trivial, (tf_eqF (a := (tf_fi v 0)) (b := (tf_fi u 0)) rfl rfl (by omega) (by omega) (by omega))⟩ ?_
            exact tf_ret ftX11_acheAt hR rfl ⟨by decide, by decide⟩ rfl rfl (by rw [if_neg c1, if_neg (by rintro ⟨-, -, -, h⟩; exact c5 h)]; rfl)

set_option maxHeartbeats 1000000 in
theorem m_paceOf {G : tf_G} {S : tf_Sg} {o : Nat} {f : Nat → Nat} (h b p d : Nat) (ho : tf_mo G o) (hf : tf_sf G S o f) (hg : tf_gd f) (hh : h < 4) (hbb : b < 4) (hp : p ≤ 9) : tf_Fn mX11_paceOf 6 0 0 G S [.ref o, .int (nI h), .int (nI b), .int (nI p), .int (nI d)] G S (some (.int (nI (tf_pc f h b p d)))) := by
  obtain ⟨h1, ⟨r0, t0, n0⟩, ⟨r1, t1, n1⟩, ⟨r2, t2, n2⟩, ⟨r4, t4, n4⟩⟩ := id ho
  obtain ⟨hs, hb⟩ := id hf
  obtain ⟨⟨g1, g2, g3, g4⟩, g5, g6, g7, g8, g9, g10, g11⟩ := id hg
  refine tf_Fn_of (own := RX11) false ⟨by decide, rfl, by decide⟩ (Nat.le_of_ble_eq_true rfl) trivial (fun x hx hR => ?_)
  show tf_K x 0 0 G S 0 [some (.ref o), some (.int (nI h)), some (.int (nI b)), some (.int (nI p)), some (.int (nI d))] []
  unfold tf_pc at hR
  refine tf_go hx ftX11_paceOf 4 [] 4 [some (.ref o), some (.int (nI h)), some (.int (nI b)), some (.int (nI p)), some (.int (nI d))] [.int 0, .int (nI b), .int (nI h), .ref o] S rfl ⟨by decide, by decide, rfl⟩ trivial ?_
  refine tf_cV hx ftX11_paceOf (nx := 7) (As := [.int (nI h), .int (nI b), .int 0]) (rest := []) (st2 := [.int (nI (tf_tm f h b 0))]) (m_timeOf h b 0 ho hf hg hh hbb (by decide)) rfl lX11_92 (by first | assumption | rfl | decide) rfl ⟨rfl, by decide, by decide, by decide, rfl, rfl⟩ ?_
  have t1 := tf_tm_le hg (b := b) (t := 0) hh
  have q1 := Nat.mul_le_mul g1 hp
  have q2 := Nat.mul_le_mul q1 hp
  refine tf_go hx ftX11_paceOf 19 [] 34 [some (.ref o), some (.int (nI h)), some (.int (nI b)), some (.int (nI p)), some (.int (nI d))] [.int ((((nI (tf_tm f h b 0)) * 10) / (10 + (nI p))) + (((((S (tf_rf G o 1) (Int32.toNatClampNeg 364)) * (nI p)) * (nI p)) / 100) * (nI d)))] S rfl ⟨by decide, by decide, rfl⟩ ⟨⟨⟨⟨trivial, (tf_eqF (a := 10 + p) (b := 0) (tf_add (a := 10) (b := p) rfl rfl) rfl (by omega) (by omega) (by omega))⟩, ⟨by first | assumption | rfl | decide | omega, by first | assumption | rfl | decide | omega⟩⟩, ⟨Or.inl (by first | assumption | rfl | decide | omega), by first | assumption | exact tf_in (n := 364) (rfl : (364 : Int32) = nI 364) (by first | assumption | rfl) (by omega) (by decide)⟩⟩, (by decide)⟩ ?_
  rw [show ((((nI (tf_tm f h b 0)) * 10) / (10 + (nI p))) + (((((S (tf_rf G o 1) (Int32.toNatClampNeg 364)) * (nI p)) * (nI p)) / 100) * (nI d))) = nI ((((tf_tm f h b 0) * 10) / (10 + p)) + (((((f 364) * p) * p) / 100) * d)) from (tf_add (a := (((tf_tm f h b 0) * 10) / (10 + p))) (b := (((((f 364) * p) * p) / 100) * d)) (tf_div (a := ((tf_tm f h b 0) * 10)) (d := (10 + p)) (tf_mul (a := (tf_tm f h b 0)) (b := 10) rfl (rfl : (10 : Int32) = nI 10)) (tf_add (a := 10) (b := p) (rfl : (10 : Int32) = nI 10) rfl) (by have := hb h; omega) (by omega) (by omega)) (tf_mul (a := ((((f 364) * p) * p) / 100)) (b := d) (tf_div (a := (((f 364) * p) * p)) (d := 100) (tf_mul (a := ((f 364) * p)) (b := p) (tf_mul (a := (f 364)) (b := p) (tf_rd hs (rfl : (364 : Int32) = nI 364) (by omega)) rfl) rfl) (rfl : (100 : Int32) = nI 100) (by have := hb 364; omega) (by omega) (by omega)) rfl))]
  exact tf_ret ftX11_paceOf hR rfl ⟨by decide, by decide⟩ rfl rfl rfl
end
section
/-! THE STATE as both sides have it: the row f, THE TAPE T of tn bytes, the refusals R, the image g, whether there is one -/
abbrev tf_A : Type := (Nat → Nat) × (Nat → Nat) × Nat × (Nat → Int32) × (Nat → Nat) × Nat
def tA_ref (A : tf_A) (k : Nat) : tf_A := (A.1, A.2.1, A.2.2.1, (fun j => if j = k then A.2.2.2.1 j + 1 else A.2.2.2.1 j), A.2.2.2.2)
def tA_f (A : tf_A) (f : Nat → Nat) : tf_A := (f, A.2)
def tA_t (A : tf_A) (T : Nat → Nat) (n : Nat) : tf_A := (A.1, T, n, A.2.2.2)
/-- always so -/
def tf_okA (A : tf_A) : Prop := tf_gd A.1 ∧ (∀ k, A.1 k < 10000) ∧ A.2.2.1 ≤ 48 ∧ (∀ k, A.2.1 k < 256) ∧ (∀ k, A.2.2.2.2.1 k < 10000) ∧ (A.2.2.2.2.2 = 0 ∨ (A.2.2.2.2.2 = 1 ∧ tf_gd A.2.2.2.2.1))
/-- the reference's rows are apart -/
def tf_md (G : tf_G) (o : Nat) : Prop := tf_rf G o 0 ≠ tf_rf G o 1 ∧ tf_rf G o 0 ≠ tf_rf G o 2 ∧ tf_rf G o 0 ≠ tf_rf G o 4 ∧ tf_rf G o 1 ≠ tf_rf G o 2 ∧ tf_rf G o 1 ≠ tf_rf G o 4 ∧ tf_rf G o 2 ≠ tf_rf G o 4
/-- the reference holds the state -/
def tf_ms (G : tf_G) (S : tf_Sg) (o : Nat) (A : tf_A) : Prop := (∀ k, S (tf_rf G o 1) k = nI (A.1 k)) ∧ (∀ k, S (tf_rf G o 4) k = nI (A.2.1 k)) ∧ S o 5 = nI A.2.2.1 ∧ (∀ k, S (tf_rf G o 0) k = A.2.2.2.1 k) ∧ (∀ k, S (tf_rf G o 2) k = nI (A.2.2.2.2.1 k)) ∧ S o 3 = nI A.2.2.2.2.2
/-- nothing else is changed -/
def tf_fm (G : tf_G) (o : Nat) (S S' : tf_Sg) : Prop := ∀ a, a ≠ o → a ≠ tf_rf G o 0 → a ≠ tf_rf G o 1 → a ≠ tf_rf G o 2 → a ≠ tf_rf G o 4 → S' a = S a
def tf_pm (M : tf_M) (d : Nat) (G : tf_G) (S : tf_Sg) (o : Nat) (av : List Value) (q : Int32 × tf_A) : Prop := ∃ S', tf_Fn M d 0 0 G S av G S' (some (.int q.1)) ∧ tf_ms G S' o q.2 ∧ tf_fm G o S S'
def tf_rfS (G : tf_G) (S : tf_Sg) (o k : Nat) : tf_Sg := tf_set S (tf_rf G o 0) k (S (tf_rf G o 0) k + 1)
theorem tf_mo_ne {G : tf_G} {o : Nat} (h : tf_mo G o) : tf_rf G o 0 ≠ o ∧ tf_rf G o 1 ≠ o ∧ tf_rf G o 2 ≠ o ∧ tf_rf G o 4 ≠ o := by
  obtain ⟨h1, ⟨-, t0, -⟩, ⟨-, t1, -⟩, ⟨-, t2, -⟩, ⟨-, t4, -⟩⟩ := h
  refine ⟨fun e => ?_, fun e => ?_, fun e => ?_, fun e => ?_⟩
  · rw [e] at t0; omega
  · rw [e] at t1; omega
  · rw [e] at t2; omega
  · rw [e] at t4; omega
theorem tf_fm_id {G : tf_G} {o : Nat} {S : tf_Sg} : tf_fm G o S S := fun _ _ _ _ _ _ => rfl
theorem tf_fm_tr {G : tf_G} {o : Nat} {S S1 S2 : tf_Sg} (h1 : tf_fm G o S S1) (h2 : tf_fm G o S1 S2) : tf_fm G o S S2 := fun a p q r s t => (h2 a p q r s t).trans (h1 a p q r s t)
theorem tf_fm_o {G : tf_G} {o k : Nat} {S : tf_Sg} {v : Int32} : tf_fm G o S (tf_set S o k v) := fun a p _ _ _ _ => tf_set_n p
theorem tf_fm_0 {G : tf_G} {o k : Nat} {S : tf_Sg} {v : Int32} : tf_fm G o S (tf_set S (tf_rf G o 0) k v) := fun a _ p _ _ _ => tf_set_n p
theorem tf_fm_1 {G : tf_G} {o : Nat} {S : tf_Sg} {F : Nat → Nat} : tf_fm G o S (tf_rw S (tf_rf G o 1) F) := fun a _ _ p _ _ => tf_rw_n p
theorem tf_fm_2 {G : tf_G} {o : Nat} {S : tf_Sg} {F : Nat → Nat} : tf_fm G o S (tf_rw S (tf_rf G o 2) F) := fun a _ _ _ p _ => tf_rw_n p
theorem tf_fm_4 {G : tf_G} {o : Nat} {S : tf_Sg} {F : Nat → Nat} : tf_fm G o S (tf_rw S (tf_rf G o 4) F) := fun a _ _ _ _ p => tf_rw_n p
theorem tf_ms_ref {G : tf_G} {S : tf_Sg} {o : Nat} {A : tf_A} (ho : tf_mo G o) (hd : tf_md G o) (h : tf_ms G S o A) (k : Nat) : tf_ms G (tf_rfS G S o k) o (tA_ref A k) := by
  obtain ⟨a1, a2, a3, a4, a5, a6⟩ := h
  obtain ⟨n0, n1, n2, n4⟩ := tf_mo_ne ho
  obtain ⟨d1, d2, d3, d4, d5, d6⟩ := hd
  unfold tf_rfS
  refine ⟨fun j => ?_, fun j => ?_, ?_, fun j => ?_, fun j => ?_, ?_⟩
  · rw [tf_set_n (Ne.symm d1)]; exact a1 j
  · rw [tf_set_n (Ne.symm d3)]; exact a2 j
  · rw [tf_set_n (Ne.symm n0)]; exact a3
  · show _ = if j = k then _ else _
    by_cases hj : j = k
    · subst hj; rw [if_pos rfl, tf_set_s, a4]
    · rw [if_neg hj, tf_set_k hj, a4]
  · rw [tf_set_n (Ne.symm d2)]; exact a5 j
  · rw [tf_set_n (Ne.symm n0)]; exact a6
theorem tf_ms_rw {G : tf_G} {S : tf_Sg} {o : Nat} {A : tf_A} (ho : tf_mo G o) (hd : tf_md G o) (h : tf_ms G S o A) (F : Nat → Nat) : tf_ms G (tf_rw S (tf_rf G o 1) F) o (tA_f A F) := by
  obtain ⟨a1, a2, a3, a4, a5, a6⟩ := h
  obtain ⟨n0, n1, n2, n4⟩ := tf_mo_ne ho
  obtain ⟨d1, d2, d3, d4, d5, d6⟩ := hd
  refine ⟨fun j => ?_, fun j => ?_, ?_, fun j => ?_, fun j => ?_, ?_⟩
  · exact tf_rw_a j
  · rw [tf_rw_n (Ne.symm d5)]; exact a2 j
  · rw [tf_rw_n (Ne.symm n1)]; exact a3
  · rw [tf_rw_n d1]; exact a4 j
  · rw [tf_rw_n (Ne.symm d4)]; exact a5 j
  · rw [tf_rw_n (Ne.symm n1)]; exact a6
theorem tf_ms_tn {G : tf_G} {S : tf_Sg} {o : Nat} {A : tf_A} (ho : tf_mo G o) (h : tf_ms G S o A) (n : Nat) : tf_ms G (tf_set S o 5 (nI n)) o (tA_t A A.2.1 n) := by
  obtain ⟨a1, a2, a3, a4, a5, a6⟩ := h
  obtain ⟨n0, n1, n2, n4⟩ := tf_mo_ne ho
  refine ⟨fun j => ?_, fun j => ?_, ?_, fun j => ?_, fun j => ?_, ?_⟩
  · rw [tf_set_n n1]; exact a1 j
  · rw [tf_set_n n4]; exact a2 j
  · rw [tf_set_s]; rfl
  · rw [tf_set_n n0]; exact a4 j
  · rw [tf_set_n n2]; exact a5 j
  · rw [tf_set_k (by decide)]; exact a6
theorem tf_ms_t {G : tf_G} {S : tf_Sg} {o : Nat} {A : tf_A} (ho : tf_mo G o) (hd : tf_md G o) (h : tf_ms G S o A) (T : Nat → Nat) : tf_ms G (tf_rw S (tf_rf G o 4) T) o (tA_t A T A.2.2.1) := by
  obtain ⟨a1, a2, a3, a4, a5, a6⟩ := h
  obtain ⟨n0, n1, n2, n4⟩ := tf_mo_ne ho
  obtain ⟨d1, d2, d3, d4, d5, d6⟩ := hd
  refine ⟨fun j => ?_, fun j => ?_, ?_, fun j => ?_, fun j => ?_, ?_⟩
  · rw [tf_rw_n d5]; exact a1 j
  · exact tf_rw_a j
  · rw [tf_rw_n (Ne.symm n4)]; exact a3
  · rw [tf_rw_n d3]; exact a4 j
  · rw [tf_rw_n d6]; exact a5 j
  · rw [tf_rw_n (Ne.symm n4)]; exact a6
/-- a number of 0 .. n - 1 -/
def tf_ok (v n : Int32) : Prop := ¬ v < 0 ∧ ¬ n ≤ v
theorem tf_ok_nI {v n : Int32} {N : Nat} (h : tf_ok v n) (hn : n = nI N) (hN : N < 2147483648) : ∃ j, j < N ∧ v = nI j ∧ v.toNatClampNeg = j := by
  subst hn
  obtain ⟨j, hj, rfl⟩ := nI_of h.1
  exact ⟨j, Nat.not_le.mp fun q => h.2 (nI_le q hj), rfl, tf_cl_nI hj⟩
theorem tf_ok_dec (v n : Int32) : tf_ok v n ∨ ¬ tf_ok v n := Classical.em _
/-! what the calls answer, and the state behind them -/
abbrev tf_Q : Type := Int32 × tf_A
def s_keyOf (A : tf_A) (b l : Int32) : tf_Q := if (¬ b < 0 ∧ ¬ 4 ≤ b) ∧ (¬ l < 0 ∧ ¬ 26 ≤ l) then (tf_on 30 (tf_ke A.1 b.toNatClampNeg l.toNatClampNeg), A) else (-1, tA_ref A 1)
def s_letterOn (A : tf_A) (b k : Int32) : tf_Q := if (¬ b < 0 ∧ ¬ 4 ≤ b) ∧ (¬ k < 0 ∧ ¬ 30 ≤ k) then ((if A.1 (30 * b.toNatClampNeg + k.toNatClampNeg) = 0 then -9 else nI (A.1 (30 * b.toNatClampNeg + k.toNatClampNeg) - 1)), A) else (-1, tA_ref A 1)
def s_fingerOf (A : tf_A) (k : Int32) (t : Nat) : tf_Q := if (¬ k < 0 ∧ ¬ 30 ≤ k) then (nI (tf_fi k.toNatClampNeg t), A) else (-1, tA_ref A 1)
def s_law (A : tf_A) (h l v : Int32) : tf_Q := if (¬ h < 0 ∧ ¬ 4 ≤ h) ∧ (¬ l < 0 ∧ ¬ 6 ≤ l) then (if ¬ 0 ≤ v then (-4, tA_ref A 4) else if ¬ v ≤ 999 then (-6, tA_ref A 6) else (nI (A.1 (120 + 6 * h.toNatClampNeg + l.toNatClampNeg)), tA_f A (tf_u A.1 (120 + 6 * h.toNatClampNeg + l.toNatClampNeg) v.toNatClampNeg))) else (-1, tA_ref A 1)
def s_gap (A : tf_A) (h b p q : Int32) : tf_Q := if (¬ h < 0 ∧ ¬ 4 ≤ h) ∧ (¬ b < 0 ∧ ¬ 4 ≤ b) ∧ (¬ p < 0 ∧ ¬ 30 ≤ p) ∧ (¬ q < 0 ∧ ¬ 30 ≤ q) then (nI (tf_ga A.1 h.toNatClampNeg p.toNatClampNeg q.toNatClampNeg 0), A) else (-1, tA_ref A 1)
def s_sign (A : tf_A) (t : Nat) (i : Int32) : tf_Q := if ¬ i < 0 ∧ ¬ nI (A.1 (if t ≠ 0 then 364 else 365)) ≤ i then (nI (A.1 ((if t ≠ 0 then 144 else 184) + i.toNatClampNeg)), A) else (-9, A)
def s_practise (A : tf_A) (w n : Int32) : tf_Q := if ¬ w < 0 ∧ ¬ nI (A.1 366) ≤ w then (if ¬ 1 ≤ n then (-4, tA_ref A 4) else if ¬ n ≤ 999 then (-6, tA_ref A 6) else (nI (if A.1 (224 + 10 * w.toNatClampNeg + 1) + n.toNatClampNeg ≤ 9999 then A.1 (224 + 10 * w.toNatClampNeg + 1) + n.toNatClampNeg else 9999), tA_f A (tf_u A.1 (224 + 10 * w.toNatClampNeg + 1) (if A.1 (224 + 10 * w.toNatClampNeg + 1) + n.toNatClampNeg ≤ 9999 then A.1 (224 + 10 * w.toNatClampNeg + 1) + n.toNatClampNeg else 9999)))) else (-1, tA_ref A 1)
def s_piece (A : tf_A) (i w : Int32) : tf_Q := if ¬ w < 0 ∧ ¬ 3 ≤ w then (tf_pv A.1 i w, A) else (-2, tA_ref A 2)
def s_pieces (A : tf_A) : tf_Q := (nI (tf_np A.1 40 0), A)
def s_time (A : tf_A) (h b : Int32) (t : Nat) : tf_Q := if (¬ h < 0 ∧ ¬ 4 ≤ h) ∧ (¬ b < 0 ∧ ¬ 4 ≤ b) then (nI (tf_tm A.1 h.toNatClampNeg b.toNatClampNeg t), A) else (-1, tA_ref A 1)
def s_where (A : tf_A) (b k : Int32) : tf_Q := if ¬ b < 0 ∧ ¬ 4 ≤ b then (if ¬ k < 0 ∧ ¬ 8 ≤ k then (tf_on 41 (tf_wo A.1 b.toNatClampNeg k.toNatClampNeg), A) else (-2, tA_ref A 2)) else (-1, tA_ref A 1)
def s_exchange (A : tf_A) (b x y : Int32) : tf_Q := if (¬ b < 0 ∧ ¬ 4 ≤ b) ∧ (¬ x < 0 ∧ ¬ 30 ≤ x) ∧ (¬ y < 0 ∧ ¬ 30 ≤ y) ∧ x ≠ y then (1, tA_f A (tf_ex A.1 b.toNatClampNeg x.toNatClampNeg y.toNatClampNeg)) else (-1, tA_ref A 1)
def s_better (A : tf_A) (h b : Int32) : tf_Q := if (¬ h < 0 ∧ ¬ 4 ≤ h) ∧ (¬ b < 0 ∧ ¬ 4 ≤ b) then (tf_on 3000 (tf_be A.1 h.toNatClampNeg b.toNatClampNeg), A) else (-1, tA_ref A 1)
def s_far (A : tf_A) (h b : Int32) : tf_Q := if (¬ h < 0 ∧ ¬ 4 ≤ h) ∧ (¬ b < 0 ∧ ¬ 4 ≤ b) then (nI (tf_fa A.1 h.toNatClampNeg b.toNatClampNeg), A) else (-1, tA_ref A 1)
def s_pace (A : tf_A) (h b p d : Int32) : tf_Q := if (¬ h < 0 ∧ ¬ 4 ≤ h) ∧ (¬ b < 0 ∧ ¬ 4 ≤ b) then (if p < 1 ∨ d < 0 then (-4, tA_ref A 4) else if 9 < p ∨ 9999 < d then (-6, tA_ref A 6) else (nI (tf_pc A.1 h.toNatClampNeg b.toNatClampNeg p.toNatClampNeg d.toNatClampNeg), A)) else (-1, tA_ref A 1)
def s_put (A : tf_A) (v : Int32) : tf_Q := if ¬ 0 ≤ v then (-4, tA_ref A 4) else if ¬ v ≤ 9999 ∨ A.1 367 = 40 then (-6, tA_ref A 6) else (nI (A.1 367 + 1), tA_f A (tf_u (tf_u A.1 (324 + A.1 367) v.toNatClampNeg) 367 (A.1 367 + 1)))
def s_unput (A : tf_A) : tf_Q := (nI (A.1 367), tA_f A (tf_u A.1 367 0))
def s_count (A : tf_A) (w : Int32) : tf_Q := ((if 10 < w ∧ w < 17 then A.2.2.2.1 (w - 10).toNatClampNeg else if w = 0 then nI (A.1 364) else if w = 1 then nI (A.1 365) else if w = 2 then nI (A.1 366) else if w = 3 then nI (A.1 367) else if w = 4 then nI A.2.2.1 else -9), A)
end
section
def tX11_keyOf : tf_T := [(0, .iload_n 1, 1, 0, 0),
  (1, .invokestatic 40, 4, 0, 0),
  (4, .ifCond .eq 21, 7, 25, 0),
  (7, .iload_n 2, 8, 0, 0),
  (8, .bipush 26, 10, 0, 26),
  (10, .invokestatic 22, 13, 0, 0),
  (13, .ifCond .eq 12, 16, 25, 0),
  (16, .aload_n 0, 17, 0, 0),
  (17, .iload_n 1, 18, 0, 0),
  (18, .iload_n 2, 19, 0, 0),
  (19, .invokevirtual 51, 22, 0, 0),
  (22, .goto 8, 25, 30, 0),
  (25, .aload_n 0, 26, 0, 0),
  (26, .iconst (-1), 27, 0, (-1)),
  (27, .invokevirtual 26, 30, 0, 0),
  (30, .ireturn, 31, 0, 0)]
set_option maxRecDepth 100000 in
theorem okX11_keyOf : tf_okT cX11_keyOf tX11_keyOf := by unfold tf_okT; decide +kernel
theorem ftX11_keyOf : 1 ≤ 3 ∧ tf_okF RX11 fX11 ∧ tf_okT cX11_keyOf tX11_keyOf := ⟨by decide, okfX11, okX11_keyOf⟩
def mX11_keyOf : tf_M := (yX11_keyOf, cX11_keyOf, 3, (some .int))

def tX11_letterOn : tf_T := [(0, .iload_n 1, 1, 0, 0),
  (1, .invokestatic 40, 4, 0, 0),
  (4, .ifCond .eq 10, 7, 14, 0),
  (7, .iload_n 2, 8, 0, 0),
  (8, .invokestatic 55, 11, 0, 0),
  (11, .ifCond .ne 11, 14, 22, 0),
  (14, .aload_n 0, 15, 0, 0),
  (15, .iconst (-1), 16, 0, (-1)),
  (16, .invokevirtual 26, 19, 0, 0),
  (19, .goto 35, 22, 54, 0),
  (22, .aload_n 0, 23, 0, 0),
  (23, .getfield 13, 26, 0, 0),
  (26, .bipush 30, 28, 0, 30),
  (28, .iload_n 1, 29, 0, 0),
  (29, .imul, 30, 0, 0),
  (30, .iload_n 2, 31, 0, 0),
  (31, .iadd, 32, 0, 0),
  (32, .iaload, 33, 0, 0),
  (33, .ifCond .ne 8, 36, 41, 0),
  (36, .bipush (-9), 38, 0, (-9)),
  (38, .goto 16, 41, 54, 0),
  (41, .aload_n 0, 42, 0, 0),
  (42, .getfield 13, 45, 0, 0),
  (45, .bipush 30, 47, 0, 30),
  (47, .iload_n 1, 48, 0, 0),
  (48, .imul, 49, 0, 0),
  (49, .iload_n 2, 50, 0, 0),
  (50, .iadd, 51, 0, 0),
  (51, .iaload, 52, 0, 0),
  (52, .iconst 1, 53, 0, 1),
  (53, .isub, 54, 0, 0),
  (54, .ireturn, 55, 0, 0)]
set_option maxRecDepth 100000 in
theorem okX11_letterOn : tf_okT cX11_letterOn tX11_letterOn := by unfold tf_okT; decide +kernel
theorem ftX11_letterOn : 1 ≤ 3 ∧ tf_okF RX11 fX11 ∧ tf_okT cX11_letterOn tX11_letterOn := ⟨by decide, okfX11, okX11_letterOn⟩
def mX11_letterOn : tf_M := (yX11_letterOn, cX11_letterOn, 3, (some .int))

def tX11_fingerOf : tf_T := [(0, .iload_n 1, 1, 0, 0),
  (1, .invokestatic 55, 4, 0, 0),
  (4, .ifCond .eq 11, 7, 15, 0),
  (7, .iload_n 1, 8, 0, 0),
  (8, .iload_n 2, 9, 0, 0),
  (9, .invokestatic 58, 12, 0, 0),
  (12, .goto 8, 15, 20, 0),
  (15, .aload_n 0, 16, 0, 0),
  (16, .iconst (-1), 17, 0, (-1)),
  (17, .invokevirtual 26, 20, 0, 0),
  (20, .ireturn, 21, 0, 0)]
set_option maxRecDepth 100000 in
theorem okX11_fingerOf : tf_okT cX11_fingerOf tX11_fingerOf := by unfold tf_okT; decide +kernel
theorem ftX11_fingerOf : 1 ≤ 3 ∧ tf_okF RX11 fX11 ∧ tf_okT cX11_fingerOf tX11_fingerOf := ⟨by decide, okfX11, okX11_fingerOf⟩
def mX11_fingerOf : tf_M := (yX11_fingerOf, cX11_fingerOf, 3, (some .int))

def tX11_law : tf_T := [(0, .iload_n 1, 1, 0, 0),
  (1, .invokestatic 62, 4, 0, 0),
  (4, .ifCond .eq 23, 7, 27, 0),
  (7, .iload_n 2, 8, 0, 0),
  (8, .bipush 6, 10, 0, 6),
  (10, .invokestatic 22, 13, 0, 0),
  (13, .ifCond .eq 14, 16, 27, 0),
  (16, .iload_n 3, 17, 0, 0),
  (17, .iconst 0, 18, 0, 0),
  (18, .sipush 999, 21, 0, 999),
  (21, .invokestatic 65, 24, 0, 0),
  (24, .goto 4, 27, 28, 0),
  (27, .iconst (-1), 28, 0, (-1)),
  (28, .istore 4, 30, 0, 0),
  (30, .iload 4, 32, 0, 0),
  (32, .ifCond .eq 10, 35, 42, 0),
  (35, .aload_n 0, 36, 0, 0),
  (36, .iload 4, 38, 0, 0),
  (38, .invokevirtual 26, 41, 0, 0),
  (41, .ireturn, 42, 0, 0),
  (42, .aload_n 0, 43, 0, 0),
  (43, .getfield 13, 46, 0, 0),
  (46, .bipush 120, 48, 0, 120),
  (48, .bipush 6, 50, 0, 6),
  (50, .iload_n 1, 51, 0, 0),
  (51, .imul, 52, 0, 0),
  (52, .iadd, 53, 0, 0),
  (53, .iload_n 2, 54, 0, 0),
  (54, .iadd, 55, 0, 0),
  (55, .iaload, 56, 0, 0),
  (56, .istore 5, 58, 0, 0),
  (58, .aload_n 0, 59, 0, 0),
  (59, .getfield 13, 62, 0, 0),
  (62, .bipush 120, 64, 0, 120),
  (64, .bipush 6, 66, 0, 6),
  (66, .iload_n 1, 67, 0, 0),
  (67, .imul, 68, 0, 0),
  (68, .iadd, 69, 0, 0),
  (69, .iload_n 2, 70, 0, 0),
  (70, .iadd, 71, 0, 0),
  (71, .iload_n 3, 72, 0, 0),
  (72, .iastore, 73, 0, 0),
  (73, .iload 5, 75, 0, 0),
  (75, .ireturn, 76, 0, 0)]
set_option maxRecDepth 100000 in
theorem okX11_law : tf_okT cX11_law tX11_law := by unfold tf_okT; decide +kernel
theorem ftX11_law : 1 ≤ 3 ∧ tf_okF RX11 fX11 ∧ tf_okT cX11_law tX11_law := ⟨by decide, okfX11, okX11_law⟩
def mX11_law : tf_M := (yX11_law, cX11_law, 6, (some .int))

def tX11_gap : tf_T := [(0, .iload_n 1, 1, 0, 0),
  (1, .invokestatic 62, 4, 0, 0),
  (4, .ifCond .eq 37, 7, 41, 0),
  (7, .iload_n 2, 8, 0, 0),
  (8, .invokestatic 40, 11, 0, 0),
  (11, .ifCond .eq 30, 14, 41, 0),
  (14, .iload_n 3, 15, 0, 0),
  (15, .invokestatic 55, 18, 0, 0),
  (18, .ifCond .eq 23, 21, 41, 0),
  (21, .iload 4, 23, 0, 0),
  (23, .invokestatic 55, 26, 0, 0),
  (26, .ifCond .eq 15, 29, 41, 0),
  (29, .aload_n 0, 30, 0, 0),
  (30, .iload_n 1, 31, 0, 0),
  (31, .iload_n 3, 32, 0, 0),
  (32, .iload 4, 34, 0, 0),
  (34, .iconst 0, 35, 0, 0),
  (35, .invokevirtual 76, 38, 0, 0),
  (38, .goto 8, 41, 46, 0),
  (41, .aload_n 0, 42, 0, 0),
  (42, .iconst (-1), 43, 0, (-1)),
  (43, .invokevirtual 26, 46, 0, 0),
  (46, .ireturn, 47, 0, 0)]
set_option maxRecDepth 100000 in
theorem okX11_gap : tf_okT cX11_gap tX11_gap := by unfold tf_okT; decide +kernel
theorem ftX11_gap : 1 ≤ 4 ∧ tf_okF RX11 fX11 ∧ tf_okT cX11_gap tX11_gap := ⟨by decide, okfX11, okX11_gap⟩
def mX11_gap : tf_M := (yX11_gap, cX11_gap, 5, (some .int))

def tX11_sign : tf_T := [(0, .iload_n 2, 1, 0, 0),
  (1, .aload_n 0, 2, 0, 0),
  (2, .getfield 13, 5, 0, 0),
  (5, .iload_n 1, 6, 0, 0),
  (6, .ifCond .eq 9, 9, 15, 0),
  (9, .sipush 364, 12, 0, 364),
  (12, .goto 6, 15, 18, 0),
  (15, .sipush 365, 18, 0, 365),
  (18, .iaload, 19, 0, 0),
  (19, .invokestatic 22, 22, 0, 0),
  (22, .ifCond .eq 26, 25, 48, 0),
  (25, .aload_n 0, 26, 0, 0),
  (26, .getfield 13, 29, 0, 0),
  (29, .iload_n 1, 30, 0, 0),
  (30, .ifCond .eq 9, 33, 39, 0),
  (33, .sipush 144, 36, 0, 144),
  (36, .goto 6, 39, 42, 0),
  (39, .sipush 184, 42, 0, 184),
  (42, .iload_n 2, 43, 0, 0),
  (43, .iadd, 44, 0, 0),
  (44, .iaload, 45, 0, 0),
  (45, .goto 5, 48, 50, 0),
  (48, .bipush (-9), 50, 0, (-9)),
  (50, .ireturn, 51, 0, 0)]
set_option maxRecDepth 100000 in
theorem okX11_sign : tf_okT cX11_sign tX11_sign := by unfold tf_okT; decide +kernel
theorem ftX11_sign : 1 ≤ 2 ∧ tf_okF RX11 fX11 ∧ tf_okT cX11_sign tX11_sign := ⟨by decide, okfX11, okX11_sign⟩
def mX11_sign : tf_M := (yX11_sign, cX11_sign, 3, (some .int))

def tX11_practise : tf_T := [(0, .iload_n 1, 1, 0, 0),
  (1, .aload_n 0, 2, 0, 0),
  (2, .getfield 13, 5, 0, 0),
  (5, .sipush 366, 8, 0, 366),
  (8, .iaload, 9, 0, 0),
  (9, .invokestatic 22, 12, 0, 0),
  (12, .ifCond .eq 14, 15, 26, 0),
  (15, .iload_n 2, 16, 0, 0),
  (16, .iconst 1, 17, 0, 1),
  (17, .sipush 999, 20, 0, 999),
  (20, .invokestatic 65, 23, 0, 0),
  (23, .goto 4, 26, 27, 0),
  (26, .iconst (-1), 27, 0, (-1)),
  (27, .istore_n 3, 28, 0, 0),
  (28, .iload_n 3, 29, 0, 0),
  (29, .ifCond .eq 9, 32, 38, 0),
  (32, .aload_n 0, 33, 0, 0),
  (33, .iload_n 3, 34, 0, 0),
  (34, .invokevirtual 26, 37, 0, 0),
  (37, .ireturn, 38, 0, 0),
  (38, .sipush 224, 41, 0, 224),
  (41, .bipush 10, 43, 0, 10),
  (43, .iload_n 1, 44, 0, 0),
  (44, .imul, 45, 0, 0),
  (45, .iadd, 46, 0, 0),
  (46, .iconst 1, 47, 0, 1),
  (47, .iadd, 48, 0, 0),
  (48, .istore 4, 50, 0, 0),
  (50, .aload_n 0, 51, 0, 0),
  (51, .getfield 13, 54, 0, 0),
  (54, .iload 4, 56, 0, 0),
  (56, .aload_n 0, 57, 0, 0),
  (57, .getfield 13, 60, 0, 0),
  (60, .iload 4, 62, 0, 0),
  (62, .iaload, 63, 0, 0),
  (63, .iload_n 2, 64, 0, 0),
  (64, .iadd, 65, 0, 0),
  (65, .sipush 9999, 68, 0, 9999),
  (68, .if_icmp .le 9, 71, 77, 0),
  (71, .sipush 9999, 74, 0, 9999),
  (74, .goto 12, 77, 86, 0),
  (77, .aload_n 0, 78, 0, 0),
  (78, .getfield 13, 81, 0, 0),
  (81, .iload 4, 83, 0, 0),
  (83, .iaload, 84, 0, 0),
  (84, .iload_n 2, 85, 0, 0),
  (85, .iadd, 86, 0, 0),
  (86, .iastore, 87, 0, 0),
  (87, .aload_n 0, 88, 0, 0),
  (88, .getfield 13, 91, 0, 0),
  (91, .iload 4, 93, 0, 0),
  (93, .iaload, 94, 0, 0),
  (94, .ireturn, 95, 0, 0)]
set_option maxRecDepth 100000 in
theorem okX11_practise : tf_okT cX11_practise tX11_practise := by unfold tf_okT; decide +kernel
theorem ftX11_practise : 1 ≤ 2 ∧ tf_okF RX11 fX11 ∧ tf_okT cX11_practise tX11_practise := ⟨by decide, okfX11, okX11_practise⟩
def mX11_practise : tf_M := (yX11_practise, cX11_practise, 5, (some .int))

def tX11_time : tf_T := [(0, .iload_n 1, 1, 0, 0),
  (1, .invokestatic 62, 4, 0, 0),
  (4, .ifCond .eq 20, 7, 24, 0),
  (7, .iload_n 2, 8, 0, 0),
  (8, .invokestatic 40, 11, 0, 0),
  (11, .ifCond .eq 13, 14, 24, 0),
  (14, .aload_n 0, 15, 0, 0),
  (15, .iload_n 1, 16, 0, 0),
  (16, .iload_n 2, 17, 0, 0),
  (17, .iload_n 3, 18, 0, 0),
  (18, .invokevirtual 92, 21, 0, 0),
  (21, .goto 8, 24, 29, 0),
  (24, .aload_n 0, 25, 0, 0),
  (25, .iconst (-1), 26, 0, (-1)),
  (26, .invokevirtual 26, 29, 0, 0),
  (29, .ireturn, 30, 0, 0)]
set_option maxRecDepth 100000 in
theorem okX11_time : tf_okT cX11_time tX11_time := by unfold tf_okT; decide +kernel
theorem ftX11_time : 1 ≤ 6 ∧ tf_okF RX11 fX11 ∧ tf_okT cX11_time tX11_time := ⟨by decide, okfX11, okX11_time⟩
def mX11_time : tf_M := (yX11_time, cX11_time, 4, (some .int))

def tX11_where : tf_T := [(0, .iload_n 1, 1, 0, 0),
  (1, .invokestatic 40, 4, 0, 0),
  (4, .ifCond .ne 9, 7, 13, 0),
  (7, .aload_n 0, 8, 0, 0),
  (8, .iconst (-1), 9, 0, (-1)),
  (9, .invokevirtual 26, 12, 0, 0),
  (12, .ireturn, 13, 0, 0),
  (13, .iload_n 2, 14, 0, 0),
  (14, .bipush 8, 16, 0, 8),
  (16, .invokestatic 22, 19, 0, 0),
  (19, .ifCond .eq 12, 22, 31, 0),
  (22, .aload_n 0, 23, 0, 0),
  (23, .iload_n 1, 24, 0, 0),
  (24, .iload_n 2, 25, 0, 0),
  (25, .invokevirtual 116, 28, 0, 0),
  (28, .goto 9, 31, 37, 0),
  (31, .aload_n 0, 32, 0, 0),
  (32, .bipush (-2), 34, 0, (-2)),
  (34, .invokevirtual 26, 37, 0, 0),
  (37, .ireturn, 38, 0, 0)]
set_option maxRecDepth 100000 in
theorem okX11_where : tf_okT cX11_where tX11_where := by unfold tf_okT; decide +kernel
theorem ftX11_where : 1 ≤ 4 ∧ tf_okF RX11 fX11 ∧ tf_okT cX11_where tX11_where := ⟨by decide, okfX11, okX11_where⟩
def mX11_where : tf_M := (yX11_where, cX11_where, 3, (some .int))

def tX11_exchange : tf_T := [(0, .iload_n 1, 1, 0, 0),
  (1, .invokestatic 40, 4, 0, 0),
  (4, .ifCond .eq 22, 7, 26, 0),
  (7, .iload_n 2, 8, 0, 0),
  (8, .invokestatic 55, 11, 0, 0),
  (11, .ifCond .eq 15, 14, 26, 0),
  (14, .iload_n 3, 15, 0, 0),
  (15, .invokestatic 55, 18, 0, 0),
  (18, .ifCond .eq 8, 21, 26, 0),
  (21, .iload_n 2, 22, 0, 0),
  (22, .iload_n 3, 23, 0, 0),
  (23, .if_icmp .ne 9, 26, 32, 0),
  (26, .aload_n 0, 27, 0, 0),
  (27, .iconst (-1), 28, 0, (-1)),
  (28, .invokevirtual 26, 31, 0, 0),
  (31, .ireturn, 32, 0, 0),
  (32, .aload_n 0, 33, 0, 0),
  (33, .iload_n 1, 34, 0, 0),
  (34, .iload_n 2, 35, 0, 0),
  (35, .iload_n 3, 36, 0, 0),
  (36, .invokevirtual 119, 39, 0, 0),
  (39, .iconst 1, 40, 0, 1),
  (40, .ireturn, 41, 0, 0)]
set_option maxRecDepth 100000 in
theorem okX11_exchange : tf_okT cX11_exchange tX11_exchange := by unfold tf_okT; decide +kernel
theorem ftX11_exchange : 1 ≤ 3 ∧ tf_okF RX11 fX11 ∧ tf_okT cX11_exchange tX11_exchange := ⟨by decide, okfX11, okX11_exchange⟩
def mX11_exchange : tf_M := (yX11_exchange, cX11_exchange, 4, (some .int))

def tX11_better : tf_T := [(0, .iload_n 1, 1, 0, 0),
  (1, .invokestatic 62, 4, 0, 0),
  (4, .ifCond .eq 19, 7, 23, 0),
  (7, .iload_n 2, 8, 0, 0),
  (8, .invokestatic 40, 11, 0, 0),
  (11, .ifCond .eq 12, 14, 23, 0),
  (14, .aload_n 0, 15, 0, 0),
  (15, .iload_n 1, 16, 0, 0),
  (16, .iload_n 2, 17, 0, 0),
  (17, .invokevirtual 123, 20, 0, 0),
  (20, .goto 8, 23, 28, 0),
  (23, .aload_n 0, 24, 0, 0),
  (24, .iconst (-1), 25, 0, (-1)),
  (25, .invokevirtual 26, 28, 0, 0),
  (28, .ireturn, 29, 0, 0)]
set_option maxRecDepth 100000 in
theorem okX11_better : tf_okT cX11_better tX11_better := by unfold tf_okT; decide +kernel
theorem ftX11_better : 1 ≤ 7 ∧ tf_okF RX11 fX11 ∧ tf_okT cX11_better tX11_better := ⟨by decide, okfX11, okX11_better⟩
def mX11_better : tf_M := (yX11_better, cX11_better, 3, (some .int))

def tX11_far : tf_T := [(0, .iload_n 1, 1, 0, 0),
  (1, .invokestatic 62, 4, 0, 0),
  (4, .ifCond .eq 19, 7, 23, 0),
  (7, .iload_n 2, 8, 0, 0),
  (8, .invokestatic 40, 11, 0, 0),
  (11, .ifCond .eq 12, 14, 23, 0),
  (14, .aload_n 0, 15, 0, 0),
  (15, .iload_n 1, 16, 0, 0),
  (16, .iload_n 2, 17, 0, 0),
  (17, .invokevirtual 126, 20, 0, 0),
  (20, .goto 8, 23, 28, 0),
  (23, .aload_n 0, 24, 0, 0),
  (24, .iconst (-1), 25, 0, (-1)),
  (25, .invokevirtual 26, 28, 0, 0),
  (28, .ireturn, 29, 0, 0)]
set_option maxRecDepth 100000 in
theorem okX11_far : tf_okT cX11_far tX11_far := by unfold tf_okT; decide +kernel
theorem ftX11_far : 1 ≤ 6 ∧ tf_okF RX11 fX11 ∧ tf_okT cX11_far tX11_far := ⟨by decide, okfX11, okX11_far⟩
def mX11_far : tf_M := (yX11_far, cX11_far, 3, (some .int))

def tX11_pace : tf_T := [(0, .iload_n 1, 1, 0, 0),
  (1, .invokestatic 62, 4, 0, 0),
  (4, .ifCond .eq 10, 7, 14, 0),
  (7, .iload_n 2, 8, 0, 0),
  (8, .invokestatic 40, 11, 0, 0),
  (11, .ifCond .ne 9, 14, 20, 0),
  (14, .aload_n 0, 15, 0, 0),
  (15, .iconst (-1), 16, 0, (-1)),
  (16, .invokevirtual 26, 19, 0, 0),
  (19, .ireturn, 20, 0, 0),
  (20, .iload_n 3, 21, 0, 0),
  (21, .iconst 1, 22, 0, 1),
  (22, .if_icmp .lt 8, 25, 30, 0),
  (25, .iload 4, 27, 0, 0),
  (27, .ifCond .ge 10, 30, 37, 0),
  (30, .aload_n 0, 31, 0, 0),
  (31, .bipush (-4), 33, 0, (-4)),
  (33, .invokevirtual 26, 36, 0, 0),
  (36, .ireturn, 37, 0, 0),
  (37, .iload_n 3, 38, 0, 0),
  (38, .bipush 9, 40, 0, 9),
  (40, .if_icmp .gt 11, 43, 51, 0),
  (43, .iload 4, 45, 0, 0),
  (45, .sipush 9999, 48, 0, 9999),
  (48, .if_icmp .le 12, 51, 60, 0),
  (51, .aload_n 0, 52, 0, 0),
  (52, .bipush (-6), 54, 0, (-6)),
  (54, .invokevirtual 26, 57, 0, 0),
  (57, .goto 12, 60, 69, 0),
  (60, .aload_n 0, 61, 0, 0),
  (61, .iload_n 1, 62, 0, 0),
  (62, .iload_n 2, 63, 0, 0),
  (63, .iload_n 3, 64, 0, 0),
  (64, .iload 4, 66, 0, 0),
  (66, .invokevirtual 132, 69, 0, 0),
  (69, .ireturn, 70, 0, 0)]
set_option maxRecDepth 100000 in
theorem okX11_pace : tf_okT cX11_pace tX11_pace := by unfold tf_okT; decide +kernel
theorem ftX11_pace : 1 ≤ 7 ∧ tf_okF RX11 fX11 ∧ tf_okT cX11_pace tX11_pace := ⟨by decide, okfX11, okX11_pace⟩
def mX11_pace : tf_M := (yX11_pace, cX11_pace, 5, (some .int))

def tX11_put : tf_T := [(0, .iload_n 1, 1, 0, 0),
  (1, .iconst 0, 2, 0, 0),
  (2, .sipush 9999, 5, 0, 9999),
  (5, .invokestatic 65, 8, 0, 0),
  (8, .istore_n 2, 9, 0, 0),
  (9, .iload_n 2, 10, 0, 0),
  (10, .ifCond .ne 19, 13, 29, 0),
  (13, .aload_n 0, 14, 0, 0),
  (14, .getfield 13, 17, 0, 0),
  (17, .sipush 367, 20, 0, 367),
  (20, .iaload, 21, 0, 0),
  (21, .bipush 40, 23, 0, 40),
  (23, .if_icmp .ne 6, 26, 29, 0),
  (26, .bipush (-6), 28, 0, (-6)),
  (28, .istore_n 2, 29, 0, 0),
  (29, .iload_n 2, 30, 0, 0),
  (30, .ifCond .eq 9, 33, 39, 0),
  (33, .aload_n 0, 34, 0, 0),
  (34, .iload_n 2, 35, 0, 0),
  (35, .invokevirtual 26, 38, 0, 0),
  (38, .ireturn, 39, 0, 0),
  (39, .aload_n 0, 40, 0, 0),
  (40, .getfield 13, 43, 0, 0),
  (43, .sipush 324, 46, 0, 324),
  (46, .aload_n 0, 47, 0, 0),
  (47, .getfield 13, 50, 0, 0),
  (50, .sipush 367, 53, 0, 367),
  (53, .iaload, 54, 0, 0),
  (54, .iadd, 55, 0, 0),
  (55, .iload_n 1, 56, 0, 0),
  (56, .iastore, 57, 0, 0),
  (57, .aload_n 0, 58, 0, 0),
  (58, .getfield 13, 61, 0, 0),
  (61, .sipush 367, 64, 0, 367),
  (64, .dup2, 65, 0, 0),
  (65, .iaload, 66, 0, 0),
  (66, .iconst 1, 67, 0, 1),
  (67, .iadd, 68, 0, 0),
  (68, .iastore, 69, 0, 0),
  (69, .aload_n 0, 70, 0, 0),
  (70, .getfield 13, 73, 0, 0),
  (73, .sipush 367, 76, 0, 367),
  (76, .iaload, 77, 0, 0),
  (77, .ireturn, 78, 0, 0)]
set_option maxRecDepth 100000 in
theorem okX11_put : tf_okT cX11_put tX11_put := by unfold tf_okT; decide +kernel
theorem ftX11_put : 1 ≤ 2 ∧ tf_okF RX11 fX11 ∧ tf_okT cX11_put tX11_put := ⟨by decide, okfX11, okX11_put⟩
def mX11_put : tf_M := (yX11_put, cX11_put, 3, (some .int))

def tX11_unput : tf_T := [(0, .aload_n 0, 1, 0, 0),
  (1, .getfield 13, 4, 0, 0),
  (4, .sipush 367, 7, 0, 367),
  (7, .iaload, 8, 0, 0),
  (8, .istore_n 1, 9, 0, 0),
  (9, .aload_n 0, 10, 0, 0),
  (10, .getfield 13, 13, 0, 0),
  (13, .sipush 367, 16, 0, 367),
  (16, .iconst 0, 17, 0, 0),
  (17, .iastore, 18, 0, 0),
  (18, .iload_n 1, 19, 0, 0),
  (19, .ireturn, 20, 0, 0)]
set_option maxRecDepth 100000 in
theorem okX11_unput : tf_okT cX11_unput tX11_unput := by unfold tf_okT; decide +kernel
theorem ftX11_unput : 1 ≤ 1 ∧ tf_okF RX11 fX11 ∧ tf_okT cX11_unput tX11_unput := ⟨by decide, okfX11, okX11_unput⟩
def mX11_unput : tf_M := (yX11_unput, cX11_unput, 2, (some .int))

def tX11_count : tf_T := [(0, .iload_n 1, 1, 0, 0),
  (1, .bipush 10, 3, 0, 10),
  (3, .if_icmp .le 19, 6, 22, 0),
  (6, .iload_n 1, 7, 0, 0),
  (7, .bipush 17, 9, 0, 17),
  (9, .if_icmp .ge 13, 12, 22, 0),
  (12, .aload_n 0, 13, 0, 0),
  (13, .getfield 7, 16, 0, 0),
  (16, .iload_n 1, 17, 0, 0),
  (17, .bipush 10, 19, 0, 10),
  (19, .isub, 20, 0, 0),
  (20, .iaload, 21, 0, 0),
  (21, .ireturn, 22, 0, 0),
  (22, .iload_n 1, 23, 0, 0),
  (23, .tableswitch 74 0 4 #[33, 42, 51, 60, 69], 56, 0, 0),
  (56, .aload_n 0, 57, 0, 0),
  (57, .getfield 13, 60, 0, 0),
  (60, .sipush 364, 63, 0, 364),
  (63, .iaload, 64, 0, 0),
  (64, .ireturn, 65, 0, 0),
  (65, .aload_n 0, 66, 0, 0),
  (66, .getfield 13, 69, 0, 0),
  (69, .sipush 365, 72, 0, 365),
  (72, .iaload, 73, 0, 0),
  (73, .ireturn, 74, 0, 0),
  (74, .aload_n 0, 75, 0, 0),
  (75, .getfield 13, 78, 0, 0),
  (78, .sipush 366, 81, 0, 366),
  (81, .iaload, 82, 0, 0),
  (82, .ireturn, 83, 0, 0),
  (83, .aload_n 0, 84, 0, 0),
  (84, .getfield 13, 87, 0, 0),
  (87, .sipush 367, 90, 0, 367),
  (90, .iaload, 91, 0, 0),
  (91, .ireturn, 92, 0, 0),
  (92, .aload_n 0, 93, 0, 0),
  (93, .getfield 30, 96, 0, 0),
  (96, .ireturn, 97, 0, 0),
  (97, .bipush (-9), 99, 0, (-9)),
  (99, .ireturn, 100, 0, 0)]
set_option maxRecDepth 100000 in
theorem okX11_count : tf_okT cX11_count tX11_count := by unfold tf_okT; decide +kernel
theorem ftX11_count : 1 ≤ 1 ∧ tf_okF RX11 fX11 ∧ tf_okT cX11_count tX11_count := ⟨by decide, okfX11, okX11_count⟩
def mX11_count : tf_M := (yX11_count, cX11_count, 2, (some .int))

set_option maxRecDepth 100000 in
theorem lX11_40 : tf_okS RX11 40 1 mX11_isBoard := by unfold tf_okS tf_okL; decide +kernel

set_option maxRecDepth 100000 in
theorem lX11_55 : tf_okS RX11 55 1 mX11_isKey := by unfold tf_okS tf_okL; decide +kernel

set_option maxRecDepth 100000 in
theorem lX11_62 : tf_okS RX11 62 1 mX11_isHand := by unfold tf_okS tf_okL; decide +kernel

set_option maxRecDepth 100000 in
theorem lX11_65 : tf_okS RX11 65 3 mX11_within := by unfold tf_okS tf_okL; decide +kernel

set_option maxRecDepth 100000 in
theorem lX11_116 : tf_okV RX11 116 2 8 mX11_whereOf := by unfold tf_okV tf_okL; decide +kernel

set_option maxRecDepth 100000 in
theorem lX11_123 : tf_okV RX11 123 2 8 mX11_betterOf := by unfold tf_okV tf_okL; decide +kernel

set_option maxRecDepth 100000 in
theorem lX11_126 : tf_okV RX11 126 2 8 mX11_farOf := by unfold tf_okV tf_okL; decide +kernel

set_option maxRecDepth 100000 in
theorem lX11_132 : tf_okV RX11 132 4 8 mX11_paceOf := by unfold tf_okV tf_okL; decide +kernel

theorem m_ref1 {G : tf_G} {S : tf_Sg} {o : Nat} (ho : tf_mo G o) : tf_Fn mX11_refuse 1 0 0 G S [.ref o, .int (-1)] G (tf_rfS G S o 1) (some (.int (-1))) := m_refuse (-1) ho (by unfold vp_in; decide)

theorem m_ref2 {G : tf_G} {S : tf_Sg} {o : Nat} (ho : tf_mo G o) : tf_Fn mX11_refuse 1 0 0 G S [.ref o, .int (-2)] G (tf_rfS G S o 2) (some (.int (-2))) := m_refuse (-2) ho (by unfold vp_in; decide)

theorem m_ref3 {G : tf_G} {S : tf_Sg} {o : Nat} (ho : tf_mo G o) : tf_Fn mX11_refuse 1 0 0 G S [.ref o, .int (-3)] G (tf_rfS G S o 3) (some (.int (-3))) := m_refuse (-3) ho (by unfold vp_in; decide)

theorem m_ref4 {G : tf_G} {S : tf_Sg} {o : Nat} (ho : tf_mo G o) : tf_Fn mX11_refuse 1 0 0 G S [.ref o, .int (-4)] G (tf_rfS G S o 4) (some (.int (-4))) := m_refuse (-4) ho (by unfold vp_in; decide)

theorem m_ref6 {G : tf_G} {S : tf_Sg} {o : Nat} (ho : tf_mo G o) : tf_Fn mX11_refuse 1 0 0 G S [.ref o, .int (-6)] G (tf_rfS G S o 6) (some (.int (-6))) := m_refuse (-6) ho (by unfold vp_in; decide)

set_option maxHeartbeats 2000000 in
theorem p_keyOf {G : tf_G} {S : tf_Sg} {o : Nat} {A : tf_A} (b l : Int32) (ho : tf_mo G o) (hd : tf_md G o) (hA : tf_okA A) (hM : tf_ms G S o A)  : tf_pm mX11_keyOf 3 G S o [.ref o, .int b, .int l] (s_keyOf A b l) := by
  obtain ⟨h1, ⟨r0, t0, n0⟩, ⟨r1, t1, n1⟩, ⟨r2, t2, n2⟩, ⟨r4, t4, n4⟩⟩ := id ho
  obtain ⟨hg, hb, hA3, hA4, hA5, hA6⟩ := id hA
  have hs := hM.1
  have hf : tf_sf G S o A.1 := ⟨hM.1, hb⟩
  obtain ⟨⟨g1, g2, g3, g4⟩, g5, g6, g7, g8, g9, g10, g11⟩ := id hg
  unfold s_keyOf
  by_cases c1 : ¬ b < 0 ∧ ¬ 4 ≤ b
  · by_cases c2 : ¬ l < 0 ∧ ¬ 26 ≤ l
    · rw [if_pos ⟨c1, c2⟩]
      obtain ⟨b1, b1_lt, b1_eq, b1_cl⟩ := tf_ok_nI (N := 4) (show tf_ok b _ from c1) rfl (by decide)
      try rw [b1_cl]
      obtain ⟨l1, l1_lt, l1_eq, l1_cl⟩ := tf_ok_nI (N := 26) (show tf_ok l _ from c2) rfl (by decide)
      try rw [l1_cl]
      subst b1_eq
      subst l1_eq
      refine ⟨S, tf_Fn_of (own := RX11) false ⟨by decide, rfl, by decide⟩ (Nat.le_of_ble_eq_true rfl) trivial (fun x hx hR => ?_), hM, tf_fm_id⟩
      show tf_K x 0 0 G S 0 [some (.ref o), some (.int (nI b1)), some (.int (nI l1))] []
      refine tf_go hx ftX11_keyOf 1 [] 1 [some (.ref o), some (.int (nI b1)), some (.int (nI l1))] [.int (nI b1)] S rfl ⟨by decide, by decide, rfl⟩ trivial ?_
      refine tf_cS hx ftX11_keyOf (nx := 4) (As := [.int (nI b1)]) (rest := []) (st2 := [.int (if ¬ (nI b1) < 0 ∧ ¬ 4 ≤ (nI b1) then 1 else 0)]) (m_isBoard (nI b1)) rfl lX11_40 rfl ⟨rfl, by decide, by decide, by decide, rfl, rfl⟩ ?_
      rw [if_pos c1]
      refine tf_go hx ftX11_keyOf 3 [false] 10 [some (.ref o), some (.int (nI b1)), some (.int (nI l1))] [.int 26, .int (nI l1)] S rfl ⟨by decide, by decide, rfl⟩ ⟨trivial, (by decide)⟩ ?_
      refine tf_cS hx ftX11_keyOf (nx := 13) (As := [.int (nI l1), .int 26]) (rest := []) (st2 := [.int (if ¬ (nI l1) < 0 ∧ ¬ 26 ≤ (nI l1) then 1 else 0)]) (m_isIn (nI l1) 26) rfl lX11_22 rfl ⟨rfl, by decide, by decide, by decide, rfl, rfl⟩ ?_
      rw [if_pos c2]
      refine tf_go hx ftX11_keyOf 4 [false] 19 [some (.ref o), some (.int (nI b1)), some (.int (nI l1))] [.int (nI l1), .int (nI b1), .ref o] S rfl ⟨by decide, by decide, rfl⟩ ⟨trivial, (by decide)⟩ ?_
      refine tf_cV hx ftX11_keyOf (nx := 22) (As := [.int (nI b1), .int (nI l1)]) (rest := []) (st2 := [.int (tf_on 30 (tf_ke A.1 b1 l1))]) (m_keyAt b1 l1 ho hf b1_lt (by omega)) rfl lX11_51 (by first | assumption | rfl | decide) rfl ⟨rfl, by decide, by decide, by decide, rfl, rfl⟩ ?_
      refine tf_go hx ftX11_keyOf 1 [] 30 [some (.ref o), some (.int (nI b1)), some (.int (nI l1))] [.int (tf_on 30 (tf_ke A.1 b1 l1))] S rfl ⟨by decide, by decide, rfl⟩ trivial ?_
      exact tf_ret ftX11_keyOf hR rfl ⟨by decide, by decide⟩ rfl rfl rfl
    · rw [if_neg (fun h => c2 h.2)]
      refine ⟨tf_rfS G S o 1, tf_Fn_of (own := RX11) false ⟨by decide, rfl, by decide⟩ (Nat.le_of_ble_eq_true rfl) trivial (fun x hx hR => ?_), tf_ms_ref ho hd hM 1, tf_fm_0⟩
      show tf_K x 0 0 G S 0 [some (.ref o), some (.int b), some (.int l)] []
      refine tf_go hx ftX11_keyOf 1 [] 1 [some (.ref o), some (.int b), some (.int l)] [.int b] S rfl ⟨by decide, by decide, rfl⟩ trivial ?_
      refine tf_cS hx ftX11_keyOf (nx := 4) (As := [.int b]) (rest := []) (st2 := [.int (if ¬ b < 0 ∧ ¬ 4 ≤ b then 1 else 0)]) (m_isBoard b) rfl lX11_40 rfl ⟨rfl, by decide, by decide, by decide, rfl, rfl⟩ ?_
      rw [if_pos c1]
      refine tf_go hx ftX11_keyOf 3 [false] 10 [some (.ref o), some (.int b), some (.int l)] [.int 26, .int l] S rfl ⟨by decide, by decide, rfl⟩ ⟨trivial, (by decide)⟩ ?_
      refine tf_cS hx ftX11_keyOf (nx := 13) (As := [.int l, .int 26]) (rest := []) (st2 := [.int (if ¬ l < 0 ∧ ¬ 26 ≤ l then 1 else 0)]) (m_isIn l 26) rfl lX11_22 rfl ⟨rfl, by decide, by decide, by decide, rfl, rfl⟩ ?_
      rw [if_neg c2]
      refine tf_go hx ftX11_keyOf 3 [true] 27 [some (.ref o), some (.int b), some (.int l)] [.int (-1), .ref o] S rfl ⟨by decide, by decide, rfl⟩ ⟨trivial, (by decide)⟩ ?_
      refine tf_cV hx ftX11_keyOf (nx := 30) (As := [.int (-1)]) (rest := []) (st2 := [.int (-1)]) (m_ref1 ho) rfl lX11_26 (by first | assumption | rfl | decide) rfl ⟨rfl, by decide, by decide, by decide, rfl, rfl⟩ ?_
      exact tf_ret ftX11_keyOf hR rfl ⟨by decide, by decide⟩ rfl rfl rfl
  · rw [if_neg (fun h => c1 h.1)]
    refine ⟨tf_rfS G S o 1, tf_Fn_of (own := RX11) false ⟨by decide, rfl, by decide⟩ (Nat.le_of_ble_eq_true rfl) trivial (fun x hx hR => ?_), tf_ms_ref ho hd hM 1, tf_fm_0⟩
    show tf_K x 0 0 G S 0 [some (.ref o), some (.int b), some (.int l)] []
    refine tf_go hx ftX11_keyOf 1 [] 1 [some (.ref o), some (.int b), some (.int l)] [.int b] S rfl ⟨by decide, by decide, rfl⟩ trivial ?_
    refine tf_cS hx ftX11_keyOf (nx := 4) (As := [.int b]) (rest := []) (st2 := [.int (if ¬ b < 0 ∧ ¬ 4 ≤ b then 1 else 0)]) (m_isBoard b) rfl lX11_40 rfl ⟨rfl, by decide, by decide, by decide, rfl, rfl⟩ ?_
    rw [if_neg c1]
    refine tf_go hx ftX11_keyOf 3 [true] 27 [some (.ref o), some (.int b), some (.int l)] [.int (-1), .ref o] S rfl ⟨by decide, by decide, rfl⟩ ⟨trivial, (by decide)⟩ ?_
    refine tf_cV hx ftX11_keyOf (nx := 30) (As := [.int (-1)]) (rest := []) (st2 := [.int (-1)]) (m_ref1 ho) rfl lX11_26 (by first | assumption | rfl | decide) rfl ⟨rfl, by decide, by decide, by decide, rfl, rfl⟩ ?_
    exact tf_ret ftX11_keyOf hR rfl ⟨by decide, by decide⟩ rfl rfl rfl

set_option maxHeartbeats 2000000 in
theorem p_letterOn {G : tf_G} {S : tf_Sg} {o : Nat} {A : tf_A} (b k : Int32) (ho : tf_mo G o) (hd : tf_md G o) (hA : tf_okA A) (hM : tf_ms G S o A)  : tf_pm mX11_letterOn 3 G S o [.ref o, .int b, .int k] (s_letterOn A b k) := by
  obtain ⟨h1, ⟨r0, t0, n0⟩, ⟨r1, t1, n1⟩, ⟨r2, t2, n2⟩, ⟨r4, t4, n4⟩⟩ := id ho
  obtain ⟨hg, hb, hA3, hA4, hA5, hA6⟩ := id hA
  have hs := hM.1
  have hf : tf_sf G S o A.1 := ⟨hM.1, hb⟩
  obtain ⟨⟨g1, g2, g3, g4⟩, g5, g6, g7, g8, g9, g10, g11⟩ := id hg
  unfold s_letterOn
  by_cases c0 : ¬ b < 0 ∧ ¬ 4 ≤ b
  · by_cases c1 : ¬ k < 0 ∧ ¬ 30 ≤ k
    · rw [if_pos ⟨c0, c1⟩]
      obtain ⟨b1, b1_lt, b1_eq, b1_cl⟩ := tf_ok_nI (N := 4) (show tf_ok b _ from c0) rfl (by decide)
      try rw [b1_cl]
      obtain ⟨k1, k1_lt, k1_eq, k1_cl⟩ := tf_ok_nI (N := 30) (show tf_ok k _ from c1) rfl (by decide)
      try rw [k1_cl]
      subst b1_eq
      subst k1_eq
      by_cases e1 : A.1 (30 * b1 + k1) = 0
      · rw [if_pos e1]
        refine ⟨S, tf_Fn_of (own := RX11) false ⟨by decide, rfl, by decide⟩ (Nat.le_of_ble_eq_true rfl) trivial (fun x hx hR => ?_), hM, tf_fm_id⟩
        show tf_K x 0 0 G S 0 [some (.ref o), some (.int (nI b1)), some (.int (nI k1))] []
        refine tf_go hx ftX11_letterOn 1 [] 1 [some (.ref o), some (.int (nI b1)), some (.int (nI k1))] [.int (nI b1)] S rfl ⟨by decide, by decide, rfl⟩ trivial ?_
        refine tf_cS hx ftX11_letterOn (nx := 4) (As := [.int (nI b1)]) (rest := []) (st2 := [.int (if ¬ (nI b1) < 0 ∧ ¬ 4 ≤ (nI b1) then 1 else 0)]) (m_isBoard (nI b1)) rfl lX11_40 rfl ⟨rfl, by decide, by decide, by decide, rfl, rfl⟩ ?_
        rw [if_pos c0]
        refine tf_go hx ftX11_letterOn 1 [false] 7 [some (.ref o), some (.int (nI b1)), some (.int (nI k1))] [] S rfl ⟨by decide, by decide, rfl⟩ ⟨trivial, (by decide)⟩ ?_
        refine tf_go hx ftX11_letterOn 1 [] 8 [some (.ref o), some (.int (nI b1)), some (.int (nI k1))] [.int (nI k1)] S rfl ⟨by decide, by decide, rfl⟩ trivial ?_
        refine tf_cS hx ftX11_letterOn (nx := 11) (As := [.int (nI k1)]) (rest := []) (st2 := [.int (if ¬ (nI k1) < 0 ∧ ¬ 30 ≤ (nI k1) then 1 else 0)]) (m_isKey (nI k1)) rfl lX11_55 rfl ⟨rfl, by decide, by decide, by decide, rfl, rfl⟩ ?_
        rw [if_pos c1]
        refine tf_go hx ftX11_letterOn 1 [true] 22 [some (.ref o), some (.int (nI b1)), some (.int (nI k1))] [] S rfl ⟨by decide, by decide, rfl⟩ ⟨trivial, (by decide)⟩ ?_
        refine tf_go hx ftX11_letterOn 8 [] 33 [some (.ref o), some (.int (nI b1)), some (.int (nI k1))] [.int (S (tf_rf G o 1) (Int32.toNatClampNeg ((30 * (nI b1)) + (nI k1))))] S rfl ⟨by decide, by decide, rfl⟩ ⟨⟨trivial, ⟨by first | assumption | rfl | decide | omega, by first | assumption | rfl | decide | omega⟩⟩, ⟨Or.inl (by first | assumption | rfl | decide | omega), by first | assumption | exact tf_in (n := ((30 * b1) + k1)) (tf_add (a := (30 * b1)) (b := k1) (tf_mul (a := 30) (b := b1) (rfl : (30 : Int32) = nI 30) rfl) rfl) (by first | assumption | rfl) (by omega) (by decide)⟩⟩ ?_
        rw [show (S (tf_rf G o 1) (Int32.toNatClampNeg ((30 * (nI b1)) + (nI k1)))) = nI (A.1 ((30 * b1) + k1)) from (tf_rd hs (tf_add (a := (30 * b1)) (b := k1) (tf_mul (a := 30) (b := b1) (rfl : (30 : Int32) = nI 30) rfl) rfl) (by omega))]
        refine tf_go hx ftX11_letterOn 3 [false] 54 [some (.ref o), some (.int (nI b1)), some (.int (nI k1))] [.int (-9)] S rfl ⟨by decide, by decide, rfl⟩ ⟨trivial, (tf_neF (a := (A.1 ((30 * b1) + k1))) (b := 0) rfl (rfl : (0 : Int32) = nI 0) (by have := hb ((30 * b1) + k1); omega))⟩ ?_
        exact tf_ret ftX11_letterOn hR rfl ⟨by decide, by decide⟩ rfl rfl rfl
      · rw [if_neg e1]
        refine ⟨S, tf_Fn_of (own := RX11) false ⟨by decide, rfl, by decide⟩ (Nat.le_of_ble_eq_true rfl) trivial (fun x hx hR => ?_), hM, tf_fm_id⟩
        show tf_K x 0 0 G S 0 [some (.ref o), some (.int (nI b1)), some (.int (nI k1))] []
        refine tf_go hx ftX11_letterOn 1 [] 1 [some (.ref o), some (.int (nI b1)), some (.int (nI k1))] [.int (nI b1)] S rfl ⟨by decide, by decide, rfl⟩ trivial ?_
        refine tf_cS hx ftX11_letterOn (nx := 4) (As := [.int (nI b1)]) (rest := []) (st2 := [.int (if ¬ (nI b1) < 0 ∧ ¬ 4 ≤ (nI b1) then 1 else 0)]) (m_isBoard (nI b1)) rfl lX11_40 rfl ⟨rfl, by decide, by decide, by decide, rfl, rfl⟩ ?_
        rw [if_pos c0]
        refine tf_go hx ftX11_letterOn 1 [false] 7 [some (.ref o), some (.int (nI b1)), some (.int (nI k1))] [] S rfl ⟨by decide, by decide, rfl⟩ ⟨trivial, (by decide)⟩ ?_
        refine tf_go hx ftX11_letterOn 1 [] 8 [some (.ref o), some (.int (nI b1)), some (.int (nI k1))] [.int (nI k1)] S rfl ⟨by decide, by decide, rfl⟩ trivial ?_
        refine tf_cS hx ftX11_letterOn (nx := 11) (As := [.int (nI k1)]) (rest := []) (st2 := [.int (if ¬ (nI k1) < 0 ∧ ¬ 30 ≤ (nI k1) then 1 else 0)]) (m_isKey (nI k1)) rfl lX11_55 rfl ⟨rfl, by decide, by decide, by decide, rfl, rfl⟩ ?_
        rw [if_pos c1]
        refine tf_go hx ftX11_letterOn 1 [true] 22 [some (.ref o), some (.int (nI b1)), some (.int (nI k1))] [] S rfl ⟨by decide, by decide, rfl⟩ ⟨trivial, (by decide)⟩ ?_
        refine tf_go hx ftX11_letterOn 8 [] 33 [some (.ref o), some (.int (nI b1)), some (.int (nI k1))] [.int (S (tf_rf G o 1) (Int32.toNatClampNeg ((30 * (nI b1)) + (nI k1))))] S rfl ⟨by decide, by decide, rfl⟩ ⟨⟨trivial, ⟨by first | assumption | rfl | decide | omega, by first | assumption | rfl | decide | omega⟩⟩, ⟨Or.inl (by first | assumption | rfl | decide | omega), by first | assumption | exact tf_in (n := ((30 * b1) + k1)) (tf_add (a := (30 * b1)) (b := k1) (tf_mul (a := 30) (b := b1) (rfl : (30 : Int32) = nI 30) rfl) rfl) (by first | assumption | rfl) (by omega) (by decide)⟩⟩ ?_
        rw [show (S (tf_rf G o 1) (Int32.toNatClampNeg ((30 * (nI b1)) + (nI k1)))) = nI (A.1 ((30 * b1) + k1)) from (tf_rd hs (tf_add (a := (30 * b1)) (b := k1) (tf_mul (a := 30) (b := b1) (rfl : (30 : Int32) = nI 30) rfl) rfl) (by omega))]
        refine tf_go hx ftX11_letterOn 1 [true] 41 [some (.ref o), some (.int (nI b1)), some (.int (nI k1))] [] S rfl ⟨by decide, by decide, rfl⟩ ⟨trivial, (tf_eqF (a := (A.1 ((30 * b1) + k1))) (b := 0) rfl (rfl : (0 : Int32) = nI 0) (by have := hb ((30 * b1) + k1); omega) (by have := hb ((30 * b1) + k1); omega) (by have := hb ((30 * b1) + k1); omega))⟩ ?_
        refine tf_go hx ftX11_letterOn 10 [] 54 [some (.ref o), some (.int (nI b1)), some (.int (nI k1))] [.int ((S (tf_rf G o 1) (Int32.toNatClampNeg ((30 * (nI b1)) + (nI k1)))) - 1)] S rfl ⟨by decide, by decide, rfl⟩ ⟨⟨trivial, ⟨by first | assumption | rfl | decide | omega, by first | assumption | rfl | decide | omega⟩⟩, ⟨Or.inl (by first | assumption | rfl | decide | omega), by first | assumption | exact tf_in (n := ((30 * b1) + k1)) (tf_add (a := (30 * b1)) (b := k1) (tf_mul (a := 30) (b := b1) (rfl : (30 : Int32) = nI 30) rfl) rfl) (by first | assumption | rfl) (by omega) (by decide)⟩⟩ ?_
        rw [show ((S (tf_rf G o 1) (Int32.toNatClampNeg ((30 * (nI b1)) + (nI k1)))) - 1) = nI ((A.1 ((30 * b1) + k1)) - 1) from (tf_sub (a := (A.1 ((30 * b1) + k1))) (b := 1) (tf_rd hs (tf_add (a := (30 * b1)) (b := k1) (tf_mul (a := 30) (b := b1) (rfl : (30 : Int32) = nI 30) rfl) rfl) (by omega)) (rfl : (1 : Int32) = nI 1) (by have := hb ((30 * b1) + k1); omega))]
        exact tf_ret ftX11_letterOn hR rfl ⟨by decide, by decide⟩ rfl rfl rfl
    · rw [if_neg (fun h => c1 h.2)]
      refine ⟨tf_rfS G S o 1, tf_Fn_of (own := RX11) false ⟨by decide, rfl, by decide⟩ (Nat.le_of_ble_eq_true rfl) trivial (fun x hx hR => ?_), tf_ms_ref ho hd hM 1, tf_fm_0⟩
      show tf_K x 0 0 G S 0 [some (.ref o), some (.int b), some (.int k)] []
      refine tf_go hx ftX11_letterOn 1 [] 1 [some (.ref o), some (.int b), some (.int k)] [.int b] S rfl ⟨by decide, by decide, rfl⟩ trivial ?_
      refine tf_cS hx ftX11_letterOn (nx := 4) (As := [.int b]) (rest := []) (st2 := [.int (if ¬ b < 0 ∧ ¬ 4 ≤ b then 1 else 0)]) (m_isBoard b) rfl lX11_40 rfl ⟨rfl, by decide, by decide, by decide, rfl, rfl⟩ ?_
      rw [if_pos c0]
      refine tf_go hx ftX11_letterOn 1 [false] 7 [some (.ref o), some (.int b), some (.int k)] [] S rfl ⟨by decide, by decide, rfl⟩ ⟨trivial, (by decide)⟩ ?_
      refine tf_go hx ftX11_letterOn 1 [] 8 [some (.ref o), some (.int b), some (.int k)] [.int k] S rfl ⟨by decide, by decide, rfl⟩ trivial ?_
      refine tf_cS hx ftX11_letterOn (nx := 11) (As := [.int k]) (rest := []) (st2 := [.int (if ¬ k < 0 ∧ ¬ 30 ≤ k then 1 else 0)]) (m_isKey k) rfl lX11_55 rfl ⟨rfl, by decide, by decide, by decide, rfl, rfl⟩ ?_
      rw [if_neg c1]
      refine tf_go hx ftX11_letterOn 1 [false] 14 [some (.ref o), some (.int b), some (.int k)] [] S rfl ⟨by decide, by decide, rfl⟩ ⟨trivial, (by decide)⟩ ?_
      refine tf_go hx ftX11_letterOn 2 [] 16 [some (.ref o), some (.int b), some (.int k)] [.int (-1), .ref o] S rfl ⟨by decide, by decide, rfl⟩ trivial ?_
      refine tf_cV hx ftX11_letterOn (nx := 19) (As := [.int (-1)]) (rest := []) (st2 := [.int (-1)]) (m_ref1 ho) rfl lX11_26 (by first | assumption | rfl | decide) rfl ⟨rfl, by decide, by decide, by decide, rfl, rfl⟩ ?_
      refine tf_go hx ftX11_letterOn 1 [] 54 [some (.ref o), some (.int b), some (.int k)] [.int (-1)] (tf_rfS G S o 1) rfl ⟨by decide, by decide, rfl⟩ trivial ?_
      exact tf_ret ftX11_letterOn hR rfl ⟨by decide, by decide⟩ rfl rfl rfl
  · rw [if_neg (fun h => c0 h.1)]
    refine ⟨tf_rfS G S o 1, tf_Fn_of (own := RX11) false ⟨by decide, rfl, by decide⟩ (Nat.le_of_ble_eq_true rfl) trivial (fun x hx hR => ?_), tf_ms_ref ho hd hM 1, tf_fm_0⟩
    show tf_K x 0 0 G S 0 [some (.ref o), some (.int b), some (.int k)] []
    refine tf_go hx ftX11_letterOn 1 [] 1 [some (.ref o), some (.int b), some (.int k)] [.int b] S rfl ⟨by decide, by decide, rfl⟩ trivial ?_
    refine tf_cS hx ftX11_letterOn (nx := 4) (As := [.int b]) (rest := []) (st2 := [.int (if ¬ b < 0 ∧ ¬ 4 ≤ b then 1 else 0)]) (m_isBoard b) rfl lX11_40 rfl ⟨rfl, by decide, by decide, by decide, rfl, rfl⟩ ?_
    rw [if_neg c0]
    refine tf_go hx ftX11_letterOn 1 [true] 14 [some (.ref o), some (.int b), some (.int k)] [] S rfl ⟨by decide, by decide, rfl⟩ ⟨trivial, (by decide)⟩ ?_
    refine tf_go hx ftX11_letterOn 2 [] 16 [some (.ref o), some (.int b), some (.int k)] [.int (-1), .ref o] S rfl ⟨by decide, by decide, rfl⟩ trivial ?_
    refine tf_cV hx ftX11_letterOn (nx := 19) (As := [.int (-1)]) (rest := []) (st2 := [.int (-1)]) (m_ref1 ho) rfl lX11_26 (by first | assumption | rfl | decide) rfl ⟨rfl, by decide, by decide, by decide, rfl, rfl⟩ ?_
    refine tf_go hx ftX11_letterOn 1 [] 54 [some (.ref o), some (.int b), some (.int k)] [.int (-1)] (tf_rfS G S o 1) rfl ⟨by decide, by decide, rfl⟩ trivial ?_
    exact tf_ret ftX11_letterOn hR rfl ⟨by decide, by decide⟩ rfl rfl rfl

set_option maxHeartbeats 2000000 in
theorem p_fingerOf {G : tf_G} {S : tf_Sg} {o : Nat} {A : tf_A} (k : Int32) (t : Nat) (ho : tf_mo G o) (hd : tf_md G o) (hA : tf_okA A) (hM : tf_ms G S o A) (ht : t < 2) : tf_pm mX11_fingerOf 3 G S o [.ref o, .int k, .int (nI t)] (s_fingerOf A k t) := by
  obtain ⟨h1, ⟨r0, t0, n0⟩, ⟨r1, t1, n1⟩, ⟨r2, t2, n2⟩, ⟨r4, t4, n4⟩⟩ := id ho
  obtain ⟨hg, hb, hA3, hA4, hA5, hA6⟩ := id hA
  have hs := hM.1
  have hf : tf_sf G S o A.1 := ⟨hM.1, hb⟩
  obtain ⟨⟨g1, g2, g3, g4⟩, g5, g6, g7, g8, g9, g10, g11⟩ := id hg
  unfold s_fingerOf
  by_cases c0 : ¬ k < 0 ∧ ¬ 30 ≤ k
  · rw [if_pos c0]
    obtain ⟨k1, k1_lt, k1_eq, k1_cl⟩ := tf_ok_nI (N := 30) (show tf_ok k _ from c0) rfl (by decide)
    try rw [k1_cl]
    subst k1_eq
    refine ⟨S, tf_Fn_of (own := RX11) false ⟨by decide, rfl, by decide⟩ (Nat.le_of_ble_eq_true rfl) trivial (fun x hx hR => ?_), hM, tf_fm_id⟩
    show tf_K x 0 0 G S 0 [some (.ref o), some (.int (nI k1)), some (.int (nI t))] []
    refine tf_go hx ftX11_fingerOf 1 [] 1 [some (.ref o), some (.int (nI k1)), some (.int (nI t))] [.int (nI k1)] S rfl ⟨by decide, by decide, rfl⟩ trivial ?_
    refine tf_cS hx ftX11_fingerOf (nx := 4) (As := [.int (nI k1)]) (rest := []) (st2 := [.int (if ¬ (nI k1) < 0 ∧ ¬ 30 ≤ (nI k1) then 1 else 0)]) (m_isKey (nI k1)) rfl lX11_55 rfl ⟨rfl, by decide, by decide, by decide, rfl, rfl⟩ ?_
    rw [if_pos c0]
    refine tf_go hx ftX11_fingerOf 1 [false] 7 [some (.ref o), some (.int (nI k1)), some (.int (nI t))] [] S rfl ⟨by decide, by decide, rfl⟩ ⟨trivial, (by decide)⟩ ?_
    refine tf_go hx ftX11_fingerOf 2 [] 9 [some (.ref o), some (.int (nI k1)), some (.int (nI t))] [.int (nI t), .int (nI k1)] S rfl ⟨by decide, by decide, rfl⟩ trivial ?_
    refine tf_cS hx ftX11_fingerOf (nx := 12) (As := [.int (nI k1), .int (nI t)]) (rest := []) (st2 := [.int (nI (tf_fi k1 t))]) (m_finger k1 t (by omega) ht) rfl lX11_58 rfl ⟨rfl, by decide, by decide, by decide, rfl, rfl⟩ ?_
    refine tf_go hx ftX11_fingerOf 1 [] 20 [some (.ref o), some (.int (nI k1)), some (.int (nI t))] [.int (nI (tf_fi k1 t))] S rfl ⟨by decide, by decide, rfl⟩ trivial ?_
    exact tf_ret ftX11_fingerOf hR rfl ⟨by decide, by decide⟩ rfl rfl rfl
  · rw [if_neg (fun h => c0 h)]
    refine ⟨tf_rfS G S o 1, tf_Fn_of (own := RX11) false ⟨by decide, rfl, by decide⟩ (Nat.le_of_ble_eq_true rfl) trivial (fun x hx hR => ?_), tf_ms_ref ho hd hM 1, tf_fm_0⟩
    show tf_K x 0 0 G S 0 [some (.ref o), some (.int k), some (.int (nI t))] []
    refine tf_go hx ftX11_fingerOf 1 [] 1 [some (.ref o), some (.int k), some (.int (nI t))] [.int k] S rfl ⟨by decide, by decide, rfl⟩ trivial ?_
    refine tf_cS hx ftX11_fingerOf (nx := 4) (As := [.int k]) (rest := []) (st2 := [.int (if ¬ k < 0 ∧ ¬ 30 ≤ k then 1 else 0)]) (m_isKey k) rfl lX11_55 rfl ⟨rfl, by decide, by decide, by decide, rfl, rfl⟩ ?_
    rw [if_neg c0]
    refine tf_go hx ftX11_fingerOf 1 [true] 15 [some (.ref o), some (.int k), some (.int (nI t))] [] S rfl ⟨by decide, by decide, rfl⟩ ⟨trivial, (by decide)⟩ ?_
    refine tf_go hx ftX11_fingerOf 2 [] 17 [some (.ref o), some (.int k), some (.int (nI t))] [.int (-1), .ref o] S rfl ⟨by decide, by decide, rfl⟩ trivial ?_
    refine tf_cV hx ftX11_fingerOf (nx := 20) (As := [.int (-1)]) (rest := []) (st2 := [.int (-1)]) (m_ref1 ho) rfl lX11_26 (by first | assumption | rfl | decide) rfl ⟨rfl, by decide, by decide, by decide, rfl, rfl⟩ ?_
    exact tf_ret ftX11_fingerOf hR rfl ⟨by decide, by decide⟩ rfl rfl rfl

set_option maxHeartbeats 2000000 in
theorem p_gap {G : tf_G} {S : tf_Sg} {o : Nat} {A : tf_A} (h b p q : Int32) (ho : tf_mo G o) (hd : tf_md G o) (hA : tf_okA A) (hM : tf_ms G S o A)  : tf_pm mX11_gap 4 G S o [.ref o, .int h, .int b, .int p, .int q] (s_gap A h b p q) := by
  obtain ⟨h1, ⟨r0, t0, n0⟩, ⟨r1, t1, n1⟩, ⟨r2, t2, n2⟩, ⟨r4, t4, n4⟩⟩ := id ho
  obtain ⟨hg, hb, hA3, hA4, hA5, hA6⟩ := id hA
  have hs := hM.1
  have hf : tf_sf G S o A.1 := ⟨hM.1, hb⟩
  obtain ⟨⟨g1, g2, g3, g4⟩, g5, g6, g7, g8, g9, g10, g11⟩ := id hg
  unfold s_gap
  by_cases c0 : ¬ h < 0 ∧ ¬ 4 ≤ h
  · by_cases c1 : ¬ b < 0 ∧ ¬ 4 ≤ b
    · by_cases c2 : ¬ p < 0 ∧ ¬ 30 ≤ p
      · by_cases c3 : ¬ q < 0 ∧ ¬ 30 ≤ q
        · rw [if_pos ⟨c0, c1, c2, c3⟩]
          obtain ⟨h1, h1_lt, h1_eq, h1_cl⟩ := tf_ok_nI (N := 4) (show tf_ok h _ from c0) rfl (by decide)
          try rw [h1_cl]
          obtain ⟨b1, b1_lt, b1_eq, b1_cl⟩ := tf_ok_nI (N := 4) (show tf_ok b _ from c1) rfl (by decide)
          try rw [b1_cl]
          obtain ⟨p1, p1_lt, p1_eq, p1_cl⟩ := tf_ok_nI (N := 30) (show tf_ok p _ from c2) rfl (by decide)
          try rw [p1_cl]
          obtain ⟨q1, q1_lt, q1_eq, q1_cl⟩ := tf_ok_nI (N := 30) (show tf_ok q _ from c3) rfl (by decide)
          try rw [q1_cl]
          subst h1_eq
          subst b1_eq
          subst p1_eq
          subst q1_eq
          refine ⟨S, tf_Fn_of (own := RX11) false ⟨by decide, rfl, by decide⟩ (Nat.le_of_ble_eq_true rfl) trivial (fun x hx hR => ?_), hM, tf_fm_id⟩
          show tf_K x 0 0 G S 0 [some (.ref o), some (.int (nI h1)), some (.int (nI b1)), some (.int (nI p1)), some (.int (nI q1))] []
          refine tf_go hx ftX11_gap 1 [] 1 [some (.ref o), some (.int (nI h1)), some (.int (nI b1)), some (.int (nI p1)), some (.int (nI q1))] [.int (nI h1)] S rfl ⟨by decide, by decide, rfl⟩ trivial ?_
          refine tf_cS hx ftX11_gap (nx := 4) (As := [.int (nI h1)]) (rest := []) (st2 := [.int (if ¬ (nI h1) < 0 ∧ ¬ 4 ≤ (nI h1) then 1 else 0)]) (m_isHand (nI h1)) rfl lX11_62 rfl ⟨rfl, by decide, by decide, by decide, rfl, rfl⟩ ?_
          rw [if_pos c0]
          refine tf_go hx ftX11_gap 1 [false] 7 [some (.ref o), some (.int (nI h1)), some (.int (nI b1)), some (.int (nI p1)), some (.int (nI q1))] [] S rfl ⟨by decide, by decide, rfl⟩ ⟨trivial, (by decide)⟩ ?_
          refine tf_go hx ftX11_gap 1 [] 8 [some (.ref o), some (.int (nI h1)), some (.int (nI b1)), some (.int (nI p1)), some (.int (nI q1))] [.int (nI b1)] S rfl ⟨by decide, by decide, rfl⟩ trivial ?_
          refine tf_cS hx ftX11_gap (nx := 11) (As := [.int (nI b1)]) (rest := []) (st2 := [.int (if ¬ (nI b1) < 0 ∧ ¬ 4 ≤ (nI b1) then 1 else 0)]) (m_isBoard (nI b1)) rfl lX11_40 rfl ⟨rfl, by decide, by decide, by decide, rfl, rfl⟩ ?_
          rw [if_pos c1]
          refine tf_go hx ftX11_gap 1 [false] 14 [some (.ref o), some (.int (nI h1)), some (.int (nI b1)), some (.int (nI p1)), some (.int (nI q1))] [] S rfl ⟨by decide, by decide, rfl⟩ ⟨trivial, (by decide)⟩ ?_
          refine tf_go hx ftX11_gap 1 [] 15 [some (.ref o), some (.int (nI h1)), some (.int (nI b1)), some (.int (nI p1)), some (.int (nI q1))] [.int (nI p1)] S rfl ⟨by decide, by decide, rfl⟩ trivial ?_
          refine tf_cS hx ftX11_gap (nx := 18) (As := [.int (nI p1)]) (rest := []) (st2 := [.int (if ¬ (nI p1) < 0 ∧ ¬ 30 ≤ (nI p1) then 1 else 0)]) (m_isKey (nI p1)) rfl lX11_55 rfl ⟨rfl, by decide, by decide, by decide, rfl, rfl⟩ ?_
          rw [if_pos c2]
          refine tf_go hx ftX11_gap 1 [false] 21 [some (.ref o), some (.int (nI h1)), some (.int (nI b1)), some (.int (nI p1)), some (.int (nI q1))] [] S rfl ⟨by decide, by decide, rfl⟩ ⟨trivial, (by decide)⟩ ?_
          refine tf_go hx ftX11_gap 1 [] 23 [some (.ref o), some (.int (nI h1)), some (.int (nI b1)), some (.int (nI p1)), some (.int (nI q1))] [.int (nI q1)] S rfl ⟨by decide, by decide, rfl⟩ trivial ?_
          refine tf_cS hx ftX11_gap (nx := 26) (As := [.int (nI q1)]) (rest := []) (st2 := [.int (if ¬ (nI q1) < 0 ∧ ¬ 30 ≤ (nI q1) then 1 else 0)]) (m_isKey (nI q1)) rfl lX11_55 rfl ⟨rfl, by decide, by decide, by decide, rfl, rfl⟩ ?_
          rw [if_pos c3]
          refine tf_go hx ftX11_gap 1 [false] 29 [some (.ref o), some (.int (nI h1)), some (.int (nI b1)), some (.int (nI p1)), some (.int (nI q1))] [] S rfl ⟨by decide, by decide, rfl⟩ ⟨trivial, (by decide)⟩ ?_
          refine tf_go hx ftX11_gap 5 [] 35 [some (.ref o), some (.int (nI h1)), some (.int (nI b1)), some (.int (nI p1)), some (.int (nI q1))] [.int 0, .int (nI q1), .int (nI p1), .int (nI h1), .ref o] S rfl ⟨by decide, by decide, rfl⟩ trivial ?_
          refine tf_cV hx ftX11_gap (nx := 38) (As := [.int (nI h1), .int (nI p1), .int (nI q1), .int 0]) (rest := []) (st2 := [.int (nI (tf_ga A.1 h1 p1 q1 0))]) (m_gapOf h1 p1 q1 0 ho hf h1_lt p1_lt q1_lt (by decide)) rfl lX11_76 (by first | assumption | rfl | decide) rfl ⟨rfl, by decide, by decide, by decide, rfl, rfl⟩ ?_
          refine tf_go hx ftX11_gap 1 [] 46 [some (.ref o), some (.int (nI h1)), some (.int (nI b1)), some (.int (nI p1)), some (.int (nI q1))] [.int (nI (tf_ga A.1 h1 p1 q1 0))] S rfl ⟨by decide, by decide, rfl⟩ trivial ?_
          exact tf_ret ftX11_gap hR rfl ⟨by decide, by decide⟩ rfl rfl rfl
        · rw [if_neg (fun h => c3 h.2.2.2)]
          refine ⟨tf_rfS G S o 1, tf_Fn_of (own := RX11) false ⟨by decide, rfl, by decide⟩ (Nat.le_of_ble_eq_true rfl) trivial (fun x hx hR => ?_), tf_ms_ref ho hd hM 1, tf_fm_0⟩
          show tf_K x 0 0 G S 0 [some (.ref o), some (.int h), some (.int b), some (.int p), some (.int q)] []
          refine tf_go hx ftX11_gap 1 [] 1 [some (.ref o), some (.int h), some (.int b), some (.int p), some (.int q)] [.int h] S rfl ⟨by decide, by decide, rfl⟩ trivial ?_
          refine tf_cS hx ftX11_gap (nx := 4) (As := [.int h]) (rest := []) (st2 := [.int (if ¬ h < 0 ∧ ¬ 4 ≤ h then 1 else 0)]) (m_isHand h) rfl lX11_62 rfl ⟨rfl, by decide, by decide, by decide, rfl, rfl⟩ ?_
          rw [if_pos c0]
          refine tf_go hx ftX11_gap 1 [false] 7 [some (.ref o), some (.int h), some (.int b), some (.int p), some (.int q)] [] S rfl ⟨by decide, by decide, rfl⟩ ⟨trivial, (by decide)⟩ ?_
          refine tf_go hx ftX11_gap 1 [] 8 [some (.ref o), some (.int h), some (.int b), some (.int p), some (.int q)] [.int b] S rfl ⟨by decide, by decide, rfl⟩ trivial ?_
          refine tf_cS hx ftX11_gap (nx := 11) (As := [.int b]) (rest := []) (st2 := [.int (if ¬ b < 0 ∧ ¬ 4 ≤ b then 1 else 0)]) (m_isBoard b) rfl lX11_40 rfl ⟨rfl, by decide, by decide, by decide, rfl, rfl⟩ ?_
          rw [if_pos c1]
          refine tf_go hx ftX11_gap 1 [false] 14 [some (.ref o), some (.int h), some (.int b), some (.int p), some (.int q)] [] S rfl ⟨by decide, by decide, rfl⟩ ⟨trivial, (by decide)⟩ ?_
          refine tf_go hx ftX11_gap 1 [] 15 [some (.ref o), some (.int h), some (.int b), some (.int p), some (.int q)] [.int p] S rfl ⟨by decide, by decide, rfl⟩ trivial ?_
          refine tf_cS hx ftX11_gap (nx := 18) (As := [.int p]) (rest := []) (st2 := [.int (if ¬ p < 0 ∧ ¬ 30 ≤ p then 1 else 0)]) (m_isKey p) rfl lX11_55 rfl ⟨rfl, by decide, by decide, by decide, rfl, rfl⟩ ?_
          rw [if_pos c2]
          refine tf_go hx ftX11_gap 1 [false] 21 [some (.ref o), some (.int h), some (.int b), some (.int p), some (.int q)] [] S rfl ⟨by decide, by decide, rfl⟩ ⟨trivial, (by decide)⟩ ?_
          refine tf_go hx ftX11_gap 1 [] 23 [some (.ref o), some (.int h), some (.int b), some (.int p), some (.int q)] [.int q] S rfl ⟨by decide, by decide, rfl⟩ trivial ?_
          refine tf_cS hx ftX11_gap (nx := 26) (As := [.int q]) (rest := []) (st2 := [.int (if ¬ q < 0 ∧ ¬ 30 ≤ q then 1 else 0)]) (m_isKey q) rfl lX11_55 rfl ⟨rfl, by decide, by decide, by decide, rfl, rfl⟩ ?_
          rw [if_neg c3]
          refine tf_go hx ftX11_gap 1 [true] 41 [some (.ref o), some (.int h), some (.int b), some (.int p), some (.int q)] [] S rfl ⟨by decide, by decide, rfl⟩ ⟨trivial, (by decide)⟩ ?_
          refine tf_go hx ftX11_gap 2 [] 43 [some (.ref o), some (.int h), some (.int b), some (.int p), some (.int q)] [.int (-1), .ref o] S rfl ⟨by decide, by decide, rfl⟩ trivial ?_
          refine tf_cV hx ftX11_gap (nx := 46) (As := [.int (-1)]) (rest := []) (st2 := [.int (-1)]) (m_ref1 ho) rfl lX11_26 (by first | assumption | rfl | decide) rfl ⟨rfl, by decide, by decide, by decide, rfl, rfl⟩ ?_
          exact tf_ret ftX11_gap hR rfl ⟨by decide, by decide⟩ rfl rfl rfl
      · rw [if_neg (fun h => c2 h.2.2.1)]
        refine ⟨tf_rfS G S o 1, tf_Fn_of (own := RX11) false ⟨by decide, rfl, by decide⟩ (Nat.le_of_ble_eq_true rfl) trivial (fun x hx hR => ?_), tf_ms_ref ho hd hM 1, tf_fm_0⟩
        show tf_K x 0 0 G S 0 [some (.ref o), some (.int h), some (.int b), some (.int p), some (.int q)] []
        refine tf_go hx ftX11_gap 1 [] 1 [some (.ref o), some (.int h), some (.int b), some (.int p), some (.int q)] [.int h] S rfl ⟨by decide, by decide, rfl⟩ trivial ?_
        refine tf_cS hx ftX11_gap (nx := 4) (As := [.int h]) (rest := []) (st2 := [.int (if ¬ h < 0 ∧ ¬ 4 ≤ h then 1 else 0)]) (m_isHand h) rfl lX11_62 rfl ⟨rfl, by decide, by decide, by decide, rfl, rfl⟩ ?_
        rw [if_pos c0]
        refine tf_go hx ftX11_gap 1 [false] 7 [some (.ref o), some (.int h), some (.int b), some (.int p), some (.int q)] [] S rfl ⟨by decide, by decide, rfl⟩ ⟨trivial, (by decide)⟩ ?_
        refine tf_go hx ftX11_gap 1 [] 8 [some (.ref o), some (.int h), some (.int b), some (.int p), some (.int q)] [.int b] S rfl ⟨by decide, by decide, rfl⟩ trivial ?_
        refine tf_cS hx ftX11_gap (nx := 11) (As := [.int b]) (rest := []) (st2 := [.int (if ¬ b < 0 ∧ ¬ 4 ≤ b then 1 else 0)]) (m_isBoard b) rfl lX11_40 rfl ⟨rfl, by decide, by decide, by decide, rfl, rfl⟩ ?_
        rw [if_pos c1]
        refine tf_go hx ftX11_gap 1 [false] 14 [some (.ref o), some (.int h), some (.int b), some (.int p), some (.int q)] [] S rfl ⟨by decide, by decide, rfl⟩ ⟨trivial, (by decide)⟩ ?_
        refine tf_go hx ftX11_gap 1 [] 15 [some (.ref o), some (.int h), some (.int b), some (.int p), some (.int q)] [.int p] S rfl ⟨by decide, by decide, rfl⟩ trivial ?_
        refine tf_cS hx ftX11_gap (nx := 18) (As := [.int p]) (rest := []) (st2 := [.int (if ¬ p < 0 ∧ ¬ 30 ≤ p then 1 else 0)]) (m_isKey p) rfl lX11_55 rfl ⟨rfl, by decide, by decide, by decide, rfl, rfl⟩ ?_
        rw [if_neg c2]
        refine tf_go hx ftX11_gap 1 [true] 41 [some (.ref o), some (.int h), some (.int b), some (.int p), some (.int q)] [] S rfl ⟨by decide, by decide, rfl⟩ ⟨trivial, (by decide)⟩ ?_
        refine tf_go hx ftX11_gap 2 [] 43 [some (.ref o), some (.int h), some (.int b), some (.int p), some (.int q)] [.int (-1), .ref o] S rfl ⟨by decide, by decide, rfl⟩ trivial ?_
        refine tf_cV hx ftX11_gap (nx := 46) (As := [.int (-1)]) (rest := []) (st2 := [.int (-1)]) (m_ref1 ho) rfl lX11_26 (by first | assumption | rfl | decide) rfl ⟨rfl, by decide, by decide, by decide, rfl, rfl⟩ ?_
        exact tf_ret ftX11_gap hR rfl ⟨by decide, by decide⟩ rfl rfl rfl
    · rw [if_neg (fun h => c1 h.2.1)]
      refine ⟨tf_rfS G S o 1, tf_Fn_of (own := RX11) false ⟨by decide, rfl, by decide⟩ (Nat.le_of_ble_eq_true rfl) trivial (fun x hx hR => ?_), tf_ms_ref ho hd hM 1, tf_fm_0⟩
      show tf_K x 0 0 G S 0 [some (.ref o), some (.int h), some (.int b), some (.int p), some (.int q)] []
      refine tf_go hx ftX11_gap 1 [] 1 [some (.ref o), some (.int h), some (.int b), some (.int p), some (.int q)] [.int h] S rfl ⟨by decide, by decide, rfl⟩ trivial ?_
      refine tf_cS hx ftX11_gap (nx := 4) (As := [.int h]) (rest := []) (st2 := [.int (if ¬ h < 0 ∧ ¬ 4 ≤ h then 1 else 0)]) (m_isHand h) rfl lX11_62 rfl ⟨rfl, by decide, by decide, by decide, rfl, rfl⟩ ?_
      rw [if_pos c0]
      refine tf_go hx ftX11_gap 1 [false] 7 [some (.ref o), some (.int h), some (.int b), some (.int p), some (.int q)] [] S rfl ⟨by decide, by decide, rfl⟩ ⟨trivial, (by decide)⟩ ?_
      refine tf_go hx ftX11_gap 1 [] 8 [some (.ref o), some (.int h), some (.int b), some (.int p), some (.int q)] [.int b] S rfl ⟨by decide, by decide, rfl⟩ trivial ?_
      refine tf_cS hx ftX11_gap (nx := 11) (As := [.int b]) (rest := []) (st2 := [.int (if ¬ b < 0 ∧ ¬ 4 ≤ b then 1 else 0)]) (m_isBoard b) rfl lX11_40 rfl ⟨rfl, by decide, by decide, by decide, rfl, rfl⟩ ?_
      rw [if_neg c1]
      refine tf_go hx ftX11_gap 1 [true] 41 [some (.ref o), some (.int h), some (.int b), some (.int p), some (.int q)] [] S rfl ⟨by decide, by decide, rfl⟩ ⟨trivial, (by decide)⟩ ?_
      refine tf_go hx ftX11_gap 2 [] 43 [some (.ref o), some (.int h), some (.int b), some (.int p), some (.int q)] [.int (-1), .ref o] S rfl ⟨by decide, by decide, rfl⟩ trivial ?_
      refine tf_cV hx ftX11_gap (nx := 46) (As := [.int (-1)]) (rest := []) (st2 := [.int (-1)]) (m_ref1 ho) rfl lX11_26 (by first | assumption | rfl | decide) rfl ⟨rfl, by decide, by decide, by decide, rfl, rfl⟩ ?_
      exact tf_ret ftX11_gap hR rfl ⟨by decide, by decide⟩ rfl rfl rfl
  · rw [if_neg (fun h => c0 h.1)]
    refine ⟨tf_rfS G S o 1, tf_Fn_of (own := RX11) false ⟨by decide, rfl, by decide⟩ (Nat.le_of_ble_eq_true rfl) trivial (fun x hx hR => ?_), tf_ms_ref ho hd hM 1, tf_fm_0⟩
    show tf_K x 0 0 G S 0 [some (.ref o), some (.int h), some (.int b), some (.int p), some (.int q)] []
    refine tf_go hx ftX11_gap 1 [] 1 [some (.ref o), some (.int h), some (.int b), some (.int p), some (.int q)] [.int h] S rfl ⟨by decide, by decide, rfl⟩ trivial ?_
    refine tf_cS hx ftX11_gap (nx := 4) (As := [.int h]) (rest := []) (st2 := [.int (if ¬ h < 0 ∧ ¬ 4 ≤ h then 1 else 0)]) (m_isHand h) rfl lX11_62 rfl ⟨rfl, by decide, by decide, by decide, rfl, rfl⟩ ?_
    rw [if_neg c0]
    refine tf_go hx ftX11_gap 1 [true] 41 [some (.ref o), some (.int h), some (.int b), some (.int p), some (.int q)] [] S rfl ⟨by decide, by decide, rfl⟩ ⟨trivial, (by decide)⟩ ?_
    refine tf_go hx ftX11_gap 2 [] 43 [some (.ref o), some (.int h), some (.int b), some (.int p), some (.int q)] [.int (-1), .ref o] S rfl ⟨by decide, by decide, rfl⟩ trivial ?_
    refine tf_cV hx ftX11_gap (nx := 46) (As := [.int (-1)]) (rest := []) (st2 := [.int (-1)]) (m_ref1 ho) rfl lX11_26 (by first | assumption | rfl | decide) rfl ⟨rfl, by decide, by decide, by decide, rfl, rfl⟩ ?_
    exact tf_ret ftX11_gap hR rfl ⟨by decide, by decide⟩ rfl rfl rfl

set_option maxHeartbeats 2000000 in
theorem p_time {G : tf_G} {S : tf_Sg} {o : Nat} {A : tf_A} (h b : Int32) (t : Nat) (ho : tf_mo G o) (hd : tf_md G o) (hA : tf_okA A) (hM : tf_ms G S o A) (ht : t < 2) : tf_pm mX11_time 6 G S o [.ref o, .int h, .int b, .int (nI t)] (s_time A h b t) := by
  obtain ⟨h1, ⟨r0, t0, n0⟩, ⟨r1, t1, n1⟩, ⟨r2, t2, n2⟩, ⟨r4, t4, n4⟩⟩ := id ho
  obtain ⟨hg, hb, hA3, hA4, hA5, hA6⟩ := id hA
  have hs := hM.1
  have hf : tf_sf G S o A.1 := ⟨hM.1, hb⟩
  obtain ⟨⟨g1, g2, g3, g4⟩, g5, g6, g7, g8, g9, g10, g11⟩ := id hg
  unfold s_time
  by_cases c0 : ¬ h < 0 ∧ ¬ 4 ≤ h
  · by_cases c1 : ¬ b < 0 ∧ ¬ 4 ≤ b
    · rw [if_pos ⟨c0, c1⟩]
      obtain ⟨h1, h1_lt, h1_eq, h1_cl⟩ := tf_ok_nI (N := 4) (show tf_ok h _ from c0) rfl (by decide)
      try rw [h1_cl]
      obtain ⟨b1, b1_lt, b1_eq, b1_cl⟩ := tf_ok_nI (N := 4) (show tf_ok b _ from c1) rfl (by decide)
      try rw [b1_cl]
      subst h1_eq
      subst b1_eq
      refine ⟨S, tf_Fn_of (own := RX11) false ⟨by decide, rfl, by decide⟩ (Nat.le_of_ble_eq_true rfl) trivial (fun x hx hR => ?_), hM, tf_fm_id⟩
      show tf_K x 0 0 G S 0 [some (.ref o), some (.int (nI h1)), some (.int (nI b1)), some (.int (nI t))] []
      refine tf_go hx ftX11_time 1 [] 1 [some (.ref o), some (.int (nI h1)), some (.int (nI b1)), some (.int (nI t))] [.int (nI h1)] S rfl ⟨by decide, by decide, rfl⟩ trivial ?_
      refine tf_cS hx ftX11_time (nx := 4) (As := [.int (nI h1)]) (rest := []) (st2 := [.int (if ¬ (nI h1) < 0 ∧ ¬ 4 ≤ (nI h1) then 1 else 0)]) (m_isHand (nI h1)) rfl lX11_62 rfl ⟨rfl, by decide, by decide, by decide, rfl, rfl⟩ ?_
      rw [if_pos c0]
      refine tf_go hx ftX11_time 1 [false] 7 [some (.ref o), some (.int (nI h1)), some (.int (nI b1)), some (.int (nI t))] [] S rfl ⟨by decide, by decide, rfl⟩ ⟨trivial, (by decide)⟩ ?_
      refine tf_go hx ftX11_time 1 [] 8 [some (.ref o), some (.int (nI h1)), some (.int (nI b1)), some (.int (nI t))] [.int (nI b1)] S rfl ⟨by decide, by decide, rfl⟩ trivial ?_
      refine tf_cS hx ftX11_time (nx := 11) (As := [.int (nI b1)]) (rest := []) (st2 := [.int (if ¬ (nI b1) < 0 ∧ ¬ 4 ≤ (nI b1) then 1 else 0)]) (m_isBoard (nI b1)) rfl lX11_40 rfl ⟨rfl, by decide, by decide, by decide, rfl, rfl⟩ ?_
      rw [if_pos c1]
      refine tf_go hx ftX11_time 1 [false] 14 [some (.ref o), some (.int (nI h1)), some (.int (nI b1)), some (.int (nI t))] [] S rfl ⟨by decide, by decide, rfl⟩ ⟨trivial, (by decide)⟩ ?_
      refine tf_go hx ftX11_time 4 [] 18 [some (.ref o), some (.int (nI h1)), some (.int (nI b1)), some (.int (nI t))] [.int (nI t), .int (nI b1), .int (nI h1), .ref o] S rfl ⟨by decide, by decide, rfl⟩ trivial ?_
      refine tf_cV hx ftX11_time (nx := 21) (As := [.int (nI h1), .int (nI b1), .int (nI t)]) (rest := []) (st2 := [.int (nI (tf_tm A.1 h1 b1 t))]) (m_timeOf h1 b1 t ho hf hg h1_lt b1_lt ht) rfl lX11_92 (by first | assumption | rfl | decide) rfl ⟨rfl, by decide, by decide, by decide, rfl, rfl⟩ ?_
      refine tf_go hx ftX11_time 1 [] 29 [some (.ref o), some (.int (nI h1)), some (.int (nI b1)), some (.int (nI t))] [.int (nI (tf_tm A.1 h1 b1 t))] S rfl ⟨by decide, by decide, rfl⟩ trivial ?_
      exact tf_ret ftX11_time hR rfl ⟨by decide, by decide⟩ rfl rfl rfl
    · rw [if_neg (fun h => c1 h.2)]
      refine ⟨tf_rfS G S o 1, tf_Fn_of (own := RX11) false ⟨by decide, rfl, by decide⟩ (Nat.le_of_ble_eq_true rfl) trivial (fun x hx hR => ?_), tf_ms_ref ho hd hM 1, tf_fm_0⟩
      show tf_K x 0 0 G S 0 [some (.ref o), some (.int h), some (.int b), some (.int (nI t))] []
      refine tf_go hx ftX11_time 1 [] 1 [some (.ref o), some (.int h), some (.int b), some (.int (nI t))] [.int h] S rfl ⟨by decide, by decide, rfl⟩ trivial ?_
      refine tf_cS hx ftX11_time (nx := 4) (As := [.int h]) (rest := []) (st2 := [.int (if ¬ h < 0 ∧ ¬ 4 ≤ h then 1 else 0)]) (m_isHand h) rfl lX11_62 rfl ⟨rfl, by decide, by decide, by decide, rfl, rfl⟩ ?_
      rw [if_pos c0]
      refine tf_go hx ftX11_time 1 [false] 7 [some (.ref o), some (.int h), some (.int b), some (.int (nI t))] [] S rfl ⟨by decide, by decide, rfl⟩ ⟨trivial, (by decide)⟩ ?_
      refine tf_go hx ftX11_time 1 [] 8 [some (.ref o), some (.int h), some (.int b), some (.int (nI t))] [.int b] S rfl ⟨by decide, by decide, rfl⟩ trivial ?_
      refine tf_cS hx ftX11_time (nx := 11) (As := [.int b]) (rest := []) (st2 := [.int (if ¬ b < 0 ∧ ¬ 4 ≤ b then 1 else 0)]) (m_isBoard b) rfl lX11_40 rfl ⟨rfl, by decide, by decide, by decide, rfl, rfl⟩ ?_
      rw [if_neg c1]
      refine tf_go hx ftX11_time 1 [true] 24 [some (.ref o), some (.int h), some (.int b), some (.int (nI t))] [] S rfl ⟨by decide, by decide, rfl⟩ ⟨trivial, (by decide)⟩ ?_
      refine tf_go hx ftX11_time 2 [] 26 [some (.ref o), some (.int h), some (.int b), some (.int (nI t))] [.int (-1), .ref o] S rfl ⟨by decide, by decide, rfl⟩ trivial ?_
      refine tf_cV hx ftX11_time (nx := 29) (As := [.int (-1)]) (rest := []) (st2 := [.int (-1)]) (m_ref1 ho) rfl lX11_26 (by first | assumption | rfl | decide) rfl ⟨rfl, by decide, by decide, by decide, rfl, rfl⟩ ?_
      exact tf_ret ftX11_time hR rfl ⟨by decide, by decide⟩ rfl rfl rfl
  · rw [if_neg (fun h => c0 h.1)]
    refine ⟨tf_rfS G S o 1, tf_Fn_of (own := RX11) false ⟨by decide, rfl, by decide⟩ (Nat.le_of_ble_eq_true rfl) trivial (fun x hx hR => ?_), tf_ms_ref ho hd hM 1, tf_fm_0⟩
    show tf_K x 0 0 G S 0 [some (.ref o), some (.int h), some (.int b), some (.int (nI t))] []
    refine tf_go hx ftX11_time 1 [] 1 [some (.ref o), some (.int h), some (.int b), some (.int (nI t))] [.int h] S rfl ⟨by decide, by decide, rfl⟩ trivial ?_
    refine tf_cS hx ftX11_time (nx := 4) (As := [.int h]) (rest := []) (st2 := [.int (if ¬ h < 0 ∧ ¬ 4 ≤ h then 1 else 0)]) (m_isHand h) rfl lX11_62 rfl ⟨rfl, by decide, by decide, by decide, rfl, rfl⟩ ?_
    rw [if_neg c0]
    refine tf_go hx ftX11_time 1 [true] 24 [some (.ref o), some (.int h), some (.int b), some (.int (nI t))] [] S rfl ⟨by decide, by decide, rfl⟩ ⟨trivial, (by decide)⟩ ?_
    refine tf_go hx ftX11_time 2 [] 26 [some (.ref o), some (.int h), some (.int b), some (.int (nI t))] [.int (-1), .ref o] S rfl ⟨by decide, by decide, rfl⟩ trivial ?_
    refine tf_cV hx ftX11_time (nx := 29) (As := [.int (-1)]) (rest := []) (st2 := [.int (-1)]) (m_ref1 ho) rfl lX11_26 (by first | assumption | rfl | decide) rfl ⟨rfl, by decide, by decide, by decide, rfl, rfl⟩ ?_
    exact tf_ret ftX11_time hR rfl ⟨by decide, by decide⟩ rfl rfl rfl

set_option maxHeartbeats 2000000 in
theorem p_better {G : tf_G} {S : tf_Sg} {o : Nat} {A : tf_A} (h b : Int32) (ho : tf_mo G o) (hd : tf_md G o) (hA : tf_okA A) (hM : tf_ms G S o A)  : tf_pm mX11_better 7 G S o [.ref o, .int h, .int b] (s_better A h b) := by
  obtain ⟨h1, ⟨r0, t0, n0⟩, ⟨r1, t1, n1⟩, ⟨r2, t2, n2⟩, ⟨r4, t4, n4⟩⟩ := id ho
  obtain ⟨hg, hb, hA3, hA4, hA5, hA6⟩ := id hA
  have hs := hM.1
  have hf : tf_sf G S o A.1 := ⟨hM.1, hb⟩
  obtain ⟨⟨g1, g2, g3, g4⟩, g5, g6, g7, g8, g9, g10, g11⟩ := id hg
  unfold s_better
  by_cases c0 : ¬ h < 0 ∧ ¬ 4 ≤ h
  · by_cases c1 : ¬ b < 0 ∧ ¬ 4 ≤ b
    · rw [if_pos ⟨c0, c1⟩]
      obtain ⟨h1, h1_lt, h1_eq, h1_cl⟩ := tf_ok_nI (N := 4) (show tf_ok h _ from c0) rfl (by decide)
      try rw [h1_cl]
      obtain ⟨b1, b1_lt, b1_eq, b1_cl⟩ := tf_ok_nI (N := 4) (show tf_ok b _ from c1) rfl (by decide)
      try rw [b1_cl]
      subst h1_eq
      subst b1_eq
      refine ⟨S, tf_Fn_of (own := RX11) false ⟨by decide, rfl, by decide⟩ (Nat.le_of_ble_eq_true rfl) trivial (fun x hx hR => ?_), hM, tf_fm_id⟩
      show tf_K x 0 0 G S 0 [some (.ref o), some (.int (nI h1)), some (.int (nI b1))] []
      refine tf_go hx ftX11_better 1 [] 1 [some (.ref o), some (.int (nI h1)), some (.int (nI b1))] [.int (nI h1)] S rfl ⟨by decide, by decide, rfl⟩ trivial ?_
      refine tf_cS hx ftX11_better (nx := 4) (As := [.int (nI h1)]) (rest := []) (st2 := [.int (if ¬ (nI h1) < 0 ∧ ¬ 4 ≤ (nI h1) then 1 else 0)]) (m_isHand (nI h1)) rfl lX11_62 rfl ⟨rfl, by decide, by decide, by decide, rfl, rfl⟩ ?_
      rw [if_pos c0]
      refine tf_go hx ftX11_better 1 [false] 7 [some (.ref o), some (.int (nI h1)), some (.int (nI b1))] [] S rfl ⟨by decide, by decide, rfl⟩ ⟨trivial, (by decide)⟩ ?_
      refine tf_go hx ftX11_better 1 [] 8 [some (.ref o), some (.int (nI h1)), some (.int (nI b1))] [.int (nI b1)] S rfl ⟨by decide, by decide, rfl⟩ trivial ?_
      refine tf_cS hx ftX11_better (nx := 11) (As := [.int (nI b1)]) (rest := []) (st2 := [.int (if ¬ (nI b1) < 0 ∧ ¬ 4 ≤ (nI b1) then 1 else 0)]) (m_isBoard (nI b1)) rfl lX11_40 rfl ⟨rfl, by decide, by decide, by decide, rfl, rfl⟩ ?_
      rw [if_pos c1]
      refine tf_go hx ftX11_better 1 [false] 14 [some (.ref o), some (.int (nI h1)), some (.int (nI b1))] [] S rfl ⟨by decide, by decide, rfl⟩ ⟨trivial, (by decide)⟩ ?_
      refine tf_go hx ftX11_better 3 [] 17 [some (.ref o), some (.int (nI h1)), some (.int (nI b1))] [.int (nI b1), .int (nI h1), .ref o] S rfl ⟨by decide, by decide, rfl⟩ trivial ?_
      refine tf_cV hx ftX11_better (nx := 20) (As := [.int (nI h1), .int (nI b1)]) (rest := []) (st2 := [.int (tf_on 3000 (tf_be A.1 h1 b1))]) (m_betterOf h1 b1 ho hf hg h1_lt b1_lt) rfl lX11_123 (by first | assumption | rfl | decide) rfl ⟨rfl, by decide, by decide, by decide, rfl, rfl⟩ ?_
      refine tf_go hx ftX11_better 1 [] 28 [some (.ref o), some (.int (nI h1)), some (.int (nI b1))] [.int (tf_on 3000 (tf_be A.1 h1 b1))] S rfl ⟨by decide, by decide, rfl⟩ trivial ?_
      exact tf_ret ftX11_better hR rfl ⟨by decide, by decide⟩ rfl rfl rfl
    · rw [if_neg (fun h => c1 h.2)]
      refine ⟨tf_rfS G S o 1, tf_Fn_of (own := RX11) false ⟨by decide, rfl, by decide⟩ (Nat.le_of_ble_eq_true rfl) trivial (fun x hx hR => ?_), tf_ms_ref ho hd hM 1, tf_fm_0⟩
      show tf_K x 0 0 G S 0 [some (.ref o), some (.int h), some (.int b)] []
      refine tf_go hx ftX11_better 1 [] 1 [some (.ref o), some (.int h), some (.int b)] [.int h] S rfl ⟨by decide, by decide, rfl⟩ trivial ?_
      refine tf_cS hx ftX11_better (nx := 4) (As := [.int h]) (rest := []) (st2 := [.int (if ¬ h < 0 ∧ ¬ 4 ≤ h then 1 else 0)]) (m_isHand h) rfl lX11_62 rfl ⟨rfl, by decide, by decide, by decide, rfl, rfl⟩ ?_
      rw [if_pos c0]
      refine tf_go hx ftX11_better 1 [false] 7 [some (.ref o), some (.int h), some (.int b)] [] S rfl ⟨by decide, by decide, rfl⟩ ⟨trivial, (by decide)⟩ ?_
      refine tf_go hx ftX11_better 1 [] 8 [some (.ref o), some (.int h), some (.int b)] [.int b] S rfl ⟨by decide, by decide, rfl⟩ trivial ?_
      refine tf_cS hx ftX11_better (nx := 11) (As := [.int b]) (rest := []) (st2 := [.int (if ¬ b < 0 ∧ ¬ 4 ≤ b then 1 else 0)]) (m_isBoard b) rfl lX11_40 rfl ⟨rfl, by decide, by decide, by decide, rfl, rfl⟩ ?_
      rw [if_neg c1]
      refine tf_go hx ftX11_better 1 [true] 23 [some (.ref o), some (.int h), some (.int b)] [] S rfl ⟨by decide, by decide, rfl⟩ ⟨trivial, (by decide)⟩ ?_
      refine tf_go hx ftX11_better 2 [] 25 [some (.ref o), some (.int h), some (.int b)] [.int (-1), .ref o] S rfl ⟨by decide, by decide, rfl⟩ trivial ?_
      refine tf_cV hx ftX11_better (nx := 28) (As := [.int (-1)]) (rest := []) (st2 := [.int (-1)]) (m_ref1 ho) rfl lX11_26 (by first | assumption | rfl | decide) rfl ⟨rfl, by decide, by decide, by decide, rfl, rfl⟩ ?_
      exact tf_ret ftX11_better hR rfl ⟨by decide, by decide⟩ rfl rfl rfl
  · rw [if_neg (fun h => c0 h.1)]
    refine ⟨tf_rfS G S o 1, tf_Fn_of (own := RX11) false ⟨by decide, rfl, by decide⟩ (Nat.le_of_ble_eq_true rfl) trivial (fun x hx hR => ?_), tf_ms_ref ho hd hM 1, tf_fm_0⟩
    show tf_K x 0 0 G S 0 [some (.ref o), some (.int h), some (.int b)] []
    refine tf_go hx ftX11_better 1 [] 1 [some (.ref o), some (.int h), some (.int b)] [.int h] S rfl ⟨by decide, by decide, rfl⟩ trivial ?_
    refine tf_cS hx ftX11_better (nx := 4) (As := [.int h]) (rest := []) (st2 := [.int (if ¬ h < 0 ∧ ¬ 4 ≤ h then 1 else 0)]) (m_isHand h) rfl lX11_62 rfl ⟨rfl, by decide, by decide, by decide, rfl, rfl⟩ ?_
    rw [if_neg c0]
    refine tf_go hx ftX11_better 1 [true] 23 [some (.ref o), some (.int h), some (.int b)] [] S rfl ⟨by decide, by decide, rfl⟩ ⟨trivial, (by decide)⟩ ?_
    refine tf_go hx ftX11_better 2 [] 25 [some (.ref o), some (.int h), some (.int b)] [.int (-1), .ref o] S rfl ⟨by decide, by decide, rfl⟩ trivial ?_
    refine tf_cV hx ftX11_better (nx := 28) (As := [.int (-1)]) (rest := []) (st2 := [.int (-1)]) (m_ref1 ho) rfl lX11_26 (by first | assumption | rfl | decide) rfl ⟨rfl, by decide, by decide, by decide, rfl, rfl⟩ ?_
    exact tf_ret ftX11_better hR rfl ⟨by decide, by decide⟩ rfl rfl rfl

set_option maxHeartbeats 2000000 in
theorem p_far {G : tf_G} {S : tf_Sg} {o : Nat} {A : tf_A} (h b : Int32) (ho : tf_mo G o) (hd : tf_md G o) (hA : tf_okA A) (hM : tf_ms G S o A)  : tf_pm mX11_far 6 G S o [.ref o, .int h, .int b] (s_far A h b) := by
  obtain ⟨h1, ⟨r0, t0, n0⟩, ⟨r1, t1, n1⟩, ⟨r2, t2, n2⟩, ⟨r4, t4, n4⟩⟩ := id ho
  obtain ⟨hg, hb, hA3, hA4, hA5, hA6⟩ := id hA
  have hs := hM.1
  have hf : tf_sf G S o A.1 := ⟨hM.1, hb⟩
  obtain ⟨⟨g1, g2, g3, g4⟩, g5, g6, g7, g8, g9, g10, g11⟩ := id hg
  unfold s_far
  by_cases c0 : ¬ h < 0 ∧ ¬ 4 ≤ h
  · by_cases c1 : ¬ b < 0 ∧ ¬ 4 ≤ b
    · rw [if_pos ⟨c0, c1⟩]
      obtain ⟨h1, h1_lt, h1_eq, h1_cl⟩ := tf_ok_nI (N := 4) (show tf_ok h _ from c0) rfl (by decide)
      try rw [h1_cl]
      obtain ⟨b1, b1_lt, b1_eq, b1_cl⟩ := tf_ok_nI (N := 4) (show tf_ok b _ from c1) rfl (by decide)
      try rw [b1_cl]
      subst h1_eq
      subst b1_eq
      refine ⟨S, tf_Fn_of (own := RX11) false ⟨by decide, rfl, by decide⟩ (Nat.le_of_ble_eq_true rfl) trivial (fun x hx hR => ?_), hM, tf_fm_id⟩
      show tf_K x 0 0 G S 0 [some (.ref o), some (.int (nI h1)), some (.int (nI b1))] []
      refine tf_go hx ftX11_far 1 [] 1 [some (.ref o), some (.int (nI h1)), some (.int (nI b1))] [.int (nI h1)] S rfl ⟨by decide, by decide, rfl⟩ trivial ?_
      refine tf_cS hx ftX11_far (nx := 4) (As := [.int (nI h1)]) (rest := []) (st2 := [.int (if ¬ (nI h1) < 0 ∧ ¬ 4 ≤ (nI h1) then 1 else 0)]) (m_isHand (nI h1)) rfl lX11_62 rfl ⟨rfl, by decide, by decide, by decide, rfl, rfl⟩ ?_
      rw [if_pos c0]
      refine tf_go hx ftX11_far 1 [false] 7 [some (.ref o), some (.int (nI h1)), some (.int (nI b1))] [] S rfl ⟨by decide, by decide, rfl⟩ ⟨trivial, (by decide)⟩ ?_
      refine tf_go hx ftX11_far 1 [] 8 [some (.ref o), some (.int (nI h1)), some (.int (nI b1))] [.int (nI b1)] S rfl ⟨by decide, by decide, rfl⟩ trivial ?_
      refine tf_cS hx ftX11_far (nx := 11) (As := [.int (nI b1)]) (rest := []) (st2 := [.int (if ¬ (nI b1) < 0 ∧ ¬ 4 ≤ (nI b1) then 1 else 0)]) (m_isBoard (nI b1)) rfl lX11_40 rfl ⟨rfl, by decide, by decide, by decide, rfl, rfl⟩ ?_
      rw [if_pos c1]
      refine tf_go hx ftX11_far 1 [false] 14 [some (.ref o), some (.int (nI h1)), some (.int (nI b1))] [] S rfl ⟨by decide, by decide, rfl⟩ ⟨trivial, (by decide)⟩ ?_
      refine tf_go hx ftX11_far 3 [] 17 [some (.ref o), some (.int (nI h1)), some (.int (nI b1))] [.int (nI b1), .int (nI h1), .ref o] S rfl ⟨by decide, by decide, rfl⟩ trivial ?_
      refine tf_cV hx ftX11_far (nx := 20) (As := [.int (nI h1), .int (nI b1)]) (rest := []) (st2 := [.int (nI (tf_fa A.1 h1 b1))]) (m_farOf h1 b1 ho hf hg h1_lt b1_lt) rfl lX11_126 (by first | assumption | rfl | decide) rfl ⟨rfl, by decide, by decide, by decide, rfl, rfl⟩ ?_
      refine tf_go hx ftX11_far 1 [] 28 [some (.ref o), some (.int (nI h1)), some (.int (nI b1))] [.int (nI (tf_fa A.1 h1 b1))] S rfl ⟨by decide, by decide, rfl⟩ trivial ?_
      exact tf_ret ftX11_far hR rfl ⟨by decide, by decide⟩ rfl rfl rfl
    · rw [if_neg (fun h => c1 h.2)]
      refine ⟨tf_rfS G S o 1, tf_Fn_of (own := RX11) false ⟨by decide, rfl, by decide⟩ (Nat.le_of_ble_eq_true rfl) trivial (fun x hx hR => ?_), tf_ms_ref ho hd hM 1, tf_fm_0⟩
      show tf_K x 0 0 G S 0 [some (.ref o), some (.int h), some (.int b)] []
      refine tf_go hx ftX11_far 1 [] 1 [some (.ref o), some (.int h), some (.int b)] [.int h] S rfl ⟨by decide, by decide, rfl⟩ trivial ?_
      refine tf_cS hx ftX11_far (nx := 4) (As := [.int h]) (rest := []) (st2 := [.int (if ¬ h < 0 ∧ ¬ 4 ≤ h then 1 else 0)]) (m_isHand h) rfl lX11_62 rfl ⟨rfl, by decide, by decide, by decide, rfl, rfl⟩ ?_
      rw [if_pos c0]
      refine tf_go hx ftX11_far 1 [false] 7 [some (.ref o), some (.int h), some (.int b)] [] S rfl ⟨by decide, by decide, rfl⟩ ⟨trivial, (by decide)⟩ ?_
      refine tf_go hx ftX11_far 1 [] 8 [some (.ref o), some (.int h), some (.int b)] [.int b] S rfl ⟨by decide, by decide, rfl⟩ trivial ?_
      refine tf_cS hx ftX11_far (nx := 11) (As := [.int b]) (rest := []) (st2 := [.int (if ¬ b < 0 ∧ ¬ 4 ≤ b then 1 else 0)]) (m_isBoard b) rfl lX11_40 rfl ⟨rfl, by decide, by decide, by decide, rfl, rfl⟩ ?_
      rw [if_neg c1]
      refine tf_go hx ftX11_far 1 [true] 23 [some (.ref o), some (.int h), some (.int b)] [] S rfl ⟨by decide, by decide, rfl⟩ ⟨trivial, (by decide)⟩ ?_
      refine tf_go hx ftX11_far 2 [] 25 [some (.ref o), some (.int h), some (.int b)] [.int (-1), .ref o] S rfl ⟨by decide, by decide, rfl⟩ trivial ?_
      refine tf_cV hx ftX11_far (nx := 28) (As := [.int (-1)]) (rest := []) (st2 := [.int (-1)]) (m_ref1 ho) rfl lX11_26 (by first | assumption | rfl | decide) rfl ⟨rfl, by decide, by decide, by decide, rfl, rfl⟩ ?_
      exact tf_ret ftX11_far hR rfl ⟨by decide, by decide⟩ rfl rfl rfl
  · rw [if_neg (fun h => c0 h.1)]
    refine ⟨tf_rfS G S o 1, tf_Fn_of (own := RX11) false ⟨by decide, rfl, by decide⟩ (Nat.le_of_ble_eq_true rfl) trivial (fun x hx hR => ?_), tf_ms_ref ho hd hM 1, tf_fm_0⟩
    show tf_K x 0 0 G S 0 [some (.ref o), some (.int h), some (.int b)] []
    refine tf_go hx ftX11_far 1 [] 1 [some (.ref o), some (.int h), some (.int b)] [.int h] S rfl ⟨by decide, by decide, rfl⟩ trivial ?_
    refine tf_cS hx ftX11_far (nx := 4) (As := [.int h]) (rest := []) (st2 := [.int (if ¬ h < 0 ∧ ¬ 4 ≤ h then 1 else 0)]) (m_isHand h) rfl lX11_62 rfl ⟨rfl, by decide, by decide, by decide, rfl, rfl⟩ ?_
    rw [if_neg c0]
    refine tf_go hx ftX11_far 1 [true] 23 [some (.ref o), some (.int h), some (.int b)] [] S rfl ⟨by decide, by decide, rfl⟩ ⟨trivial, (by decide)⟩ ?_
    refine tf_go hx ftX11_far 2 [] 25 [some (.ref o), some (.int h), some (.int b)] [.int (-1), .ref o] S rfl ⟨by decide, by decide, rfl⟩ trivial ?_
    refine tf_cV hx ftX11_far (nx := 28) (As := [.int (-1)]) (rest := []) (st2 := [.int (-1)]) (m_ref1 ho) rfl lX11_26 (by first | assumption | rfl | decide) rfl ⟨rfl, by decide, by decide, by decide, rfl, rfl⟩ ?_
    exact tf_ret ftX11_far hR rfl ⟨by decide, by decide⟩ rfl rfl rfl

set_option maxHeartbeats 2000000 in
theorem p_where {G : tf_G} {S : tf_Sg} {o : Nat} {A : tf_A} (b k : Int32) (ho : tf_mo G o) (hd : tf_md G o) (hA : tf_okA A) (hM : tf_ms G S o A)  : tf_pm mX11_where 4 G S o [.ref o, .int b, .int k] (s_where A b k) := by
  obtain ⟨h1, ⟨r0, t0, n0⟩, ⟨r1, t1, n1⟩, ⟨r2, t2, n2⟩, ⟨r4, t4, n4⟩⟩ := id ho
  obtain ⟨hg, hb, hA3, hA4, hA5, hA6⟩ := id hA
  have hs := hM.1
  have hf : tf_sf G S o A.1 := ⟨hM.1, hb⟩
  obtain ⟨⟨g1, g2, g3, g4⟩, g5, g6, g7, g8, g9, g10, g11⟩ := id hg
  unfold s_where
  by_cases c0 : ¬ b < 0 ∧ ¬ 4 ≤ b
  · rw [if_pos c0]
    obtain ⟨b1, b1_lt, b1_eq, b1_cl⟩ := tf_ok_nI (N := 4) (show tf_ok b _ from c0) rfl (by decide)
    try rw [b1_cl]
    subst b1_eq
    by_cases e1 : ¬ k < 0 ∧ ¬ 8 ≤ k
    · rw [if_pos e1]
      obtain ⟨k1, k1_lt, k1_eq, k1_cl⟩ := tf_ok_nI (N := 8) (show tf_ok k _ from e1) rfl (by decide)
      try rw [k1_cl]
      subst k1_eq
      refine ⟨S, tf_Fn_of (own := RX11) false ⟨by decide, rfl, by decide⟩ (Nat.le_of_ble_eq_true rfl) trivial (fun x hx hR => ?_), hM, tf_fm_id⟩
      show tf_K x 0 0 G S 0 [some (.ref o), some (.int (nI b1)), some (.int (nI k1))] []
      refine tf_go hx ftX11_where 1 [] 1 [some (.ref o), some (.int (nI b1)), some (.int (nI k1))] [.int (nI b1)] S rfl ⟨by decide, by decide, rfl⟩ trivial ?_
      refine tf_cS hx ftX11_where (nx := 4) (As := [.int (nI b1)]) (rest := []) (st2 := [.int (if ¬ (nI b1) < 0 ∧ ¬ 4 ≤ (nI b1) then 1 else 0)]) (m_isBoard (nI b1)) rfl lX11_40 rfl ⟨rfl, by decide, by decide, by decide, rfl, rfl⟩ ?_
      rw [if_pos c0]
      refine tf_go hx ftX11_where 1 [true] 13 [some (.ref o), some (.int (nI b1)), some (.int (nI k1))] [] S rfl ⟨by decide, by decide, rfl⟩ ⟨trivial, (by decide)⟩ ?_
      refine tf_go hx ftX11_where 2 [] 16 [some (.ref o), some (.int (nI b1)), some (.int (nI k1))] [.int 8, .int (nI k1)] S rfl ⟨by decide, by decide, rfl⟩ trivial ?_
      refine tf_cS hx ftX11_where (nx := 19) (As := [.int (nI k1), .int 8]) (rest := []) (st2 := [.int (if ¬ (nI k1) < 0 ∧ ¬ 8 ≤ (nI k1) then 1 else 0)]) (m_isIn (nI k1) 8) rfl lX11_22 rfl ⟨rfl, by decide, by decide, by decide, rfl, rfl⟩ ?_
      rw [if_pos e1]
      refine tf_go hx ftX11_where 4 [false] 25 [some (.ref o), some (.int (nI b1)), some (.int (nI k1))] [.int (nI k1), .int (nI b1), .ref o] S rfl ⟨by decide, by decide, rfl⟩ ⟨trivial, (by decide)⟩ ?_
      refine tf_cV hx ftX11_where (nx := 28) (As := [.int (nI b1), .int (nI k1)]) (rest := []) (st2 := [.int (tf_on 41 (tf_wo A.1 b1 k1))]) (m_whereOf b1 k1 ho hf hg b1_lt k1_lt) rfl lX11_116 (by first | assumption | rfl | decide) rfl ⟨rfl, by decide, by decide, by decide, rfl, rfl⟩ ?_
      refine tf_go hx ftX11_where 1 [] 37 [some (.ref o), some (.int (nI b1)), some (.int (nI k1))] [.int (tf_on 41 (tf_wo A.1 b1 k1))] S rfl ⟨by decide, by decide, rfl⟩ trivial ?_
      exact tf_ret ftX11_where hR rfl ⟨by decide, by decide⟩ rfl rfl rfl
    · rw [if_neg e1]
      refine ⟨tf_rfS G S o 2, tf_Fn_of (own := RX11) false ⟨by decide, rfl, by decide⟩ (Nat.le_of_ble_eq_true rfl) trivial (fun x hx hR => ?_), tf_ms_ref ho hd hM 2, tf_fm_0⟩
      show tf_K x 0 0 G S 0 [some (.ref o), some (.int (nI b1)), some (.int k)] []
      refine tf_go hx ftX11_where 1 [] 1 [some (.ref o), some (.int (nI b1)), some (.int k)] [.int (nI b1)] S rfl ⟨by decide, by decide, rfl⟩ trivial ?_
      refine tf_cS hx ftX11_where (nx := 4) (As := [.int (nI b1)]) (rest := []) (st2 := [.int (if ¬ (nI b1) < 0 ∧ ¬ 4 ≤ (nI b1) then 1 else 0)]) (m_isBoard (nI b1)) rfl lX11_40 rfl ⟨rfl, by decide, by decide, by decide, rfl, rfl⟩ ?_
      rw [if_pos c0]
      refine tf_go hx ftX11_where 1 [true] 13 [some (.ref o), some (.int (nI b1)), some (.int k)] [] S rfl ⟨by decide, by decide, rfl⟩ ⟨trivial, (by decide)⟩ ?_
      refine tf_go hx ftX11_where 2 [] 16 [some (.ref o), some (.int (nI b1)), some (.int k)] [.int 8, .int k] S rfl ⟨by decide, by decide, rfl⟩ trivial ?_
      refine tf_cS hx ftX11_where (nx := 19) (As := [.int k, .int 8]) (rest := []) (st2 := [.int (if ¬ k < 0 ∧ ¬ 8 ≤ k then 1 else 0)]) (m_isIn k 8) rfl lX11_22 rfl ⟨rfl, by decide, by decide, by decide, rfl, rfl⟩ ?_
      rw [if_neg e1]
      refine tf_go hx ftX11_where 3 [true] 34 [some (.ref o), some (.int (nI b1)), some (.int k)] [.int (-2), .ref o] S rfl ⟨by decide, by decide, rfl⟩ ⟨trivial, (by decide)⟩ ?_
      refine tf_cV hx ftX11_where (nx := 37) (As := [.int (-2)]) (rest := []) (st2 := [.int (-2)]) (m_ref2 ho) rfl lX11_26 (by first | assumption | rfl | decide) rfl ⟨rfl, by decide, by decide, by decide, rfl, rfl⟩ ?_
      exact tf_ret ftX11_where hR rfl ⟨by decide, by decide⟩ rfl rfl rfl
  · rw [if_neg (fun h => c0 h)]
    refine ⟨tf_rfS G S o 1, tf_Fn_of (own := RX11) false ⟨by decide, rfl, by decide⟩ (Nat.le_of_ble_eq_true rfl) trivial (fun x hx hR => ?_), tf_ms_ref ho hd hM 1, tf_fm_0⟩
    show tf_K x 0 0 G S 0 [some (.ref o), some (.int b), some (.int k)] []
    refine tf_go hx ftX11_where 1 [] 1 [some (.ref o), some (.int b), some (.int k)] [.int b] S rfl ⟨by decide, by decide, rfl⟩ trivial ?_
    refine tf_cS hx ftX11_where (nx := 4) (As := [.int b]) (rest := []) (st2 := [.int (if ¬ b < 0 ∧ ¬ 4 ≤ b then 1 else 0)]) (m_isBoard b) rfl lX11_40 rfl ⟨rfl, by decide, by decide, by decide, rfl, rfl⟩ ?_
    rw [if_neg c0]
    refine tf_go hx ftX11_where 1 [false] 7 [some (.ref o), some (.int b), some (.int k)] [] S rfl ⟨by decide, by decide, rfl⟩ ⟨trivial, (by decide)⟩ ?_
    refine tf_go hx ftX11_where 2 [] 9 [some (.ref o), some (.int b), some (.int k)] [.int (-1), .ref o] S rfl ⟨by decide, by decide, rfl⟩ trivial ?_
    refine tf_cV hx ftX11_where (nx := 12) (As := [.int (-1)]) (rest := []) (st2 := [.int (-1)]) (m_ref1 ho) rfl lX11_26 (by first | assumption | rfl | decide) rfl ⟨rfl, by decide, by decide, by decide, rfl, rfl⟩ ?_
    exact tf_ret ftX11_where hR rfl ⟨by decide, by decide⟩ rfl rfl rfl

set_option maxHeartbeats 2000000 in
theorem p_exchange {G : tf_G} {S : tf_Sg} {o : Nat} {A : tf_A} (b u w : Int32) (ho : tf_mo G o) (hd : tf_md G o) (hA : tf_okA A) (hM : tf_ms G S o A)  : tf_pm mX11_exchange 3 G S o [.ref o, .int b, .int u, .int w] (s_exchange A b u w) := by
  obtain ⟨h1, ⟨r0, t0, n0⟩, ⟨r1, t1, n1⟩, ⟨r2, t2, n2⟩, ⟨r4, t4, n4⟩⟩ := id ho
  obtain ⟨hg, hb, hA3, hA4, hA5, hA6⟩ := id hA
  have hs := hM.1
  have hf : tf_sf G S o A.1 := ⟨hM.1, hb⟩
  obtain ⟨⟨g1, g2, g3, g4⟩, g5, g6, g7, g8, g9, g10, g11⟩ := id hg
  unfold s_exchange
  by_cases c0 : ¬ b < 0 ∧ ¬ 4 ≤ b
  · by_cases c1 : ¬ u < 0 ∧ ¬ 30 ≤ u
    · by_cases c2 : ¬ w < 0 ∧ ¬ 30 ≤ w
      · by_cases c3 : u = w
        · rw [if_neg (fun h => h.2.2.2 c3)]
          refine ⟨tf_rfS G S o 1, tf_Fn_of (own := RX11) false ⟨by decide, rfl, by decide⟩ (Nat.le_of_ble_eq_true rfl) trivial (fun x hx hR => ?_), tf_ms_ref ho hd hM 1, tf_fm_0⟩
          show tf_K x 0 0 G S 0 [some (.ref o), some (.int b), some (.int u), some (.int w)] []
          refine tf_go hx ftX11_exchange 1 [] 1 [some (.ref o), some (.int b), some (.int u), some (.int w)] [.int b] S rfl ⟨by decide, by decide, rfl⟩ trivial ?_
          refine tf_cS hx ftX11_exchange (nx := 4) (As := [.int b]) (rest := []) (st2 := [.int (if ¬ b < 0 ∧ ¬ 4 ≤ b then 1 else 0)]) (m_isBoard b) rfl lX11_40 rfl ⟨rfl, by decide, by decide, by decide, rfl, rfl⟩ ?_
          rw [if_pos c0]
          refine tf_go hx ftX11_exchange 1 [false] 7 [some (.ref o), some (.int b), some (.int u), some (.int w)] [] S rfl ⟨by decide, by decide, rfl⟩ ⟨trivial, (by decide)⟩ ?_
          refine tf_go hx ftX11_exchange 1 [] 8 [some (.ref o), some (.int b), some (.int u), some (.int w)] [.int u] S rfl ⟨by decide, by decide, rfl⟩ trivial ?_
          refine tf_cS hx ftX11_exchange (nx := 11) (As := [.int u]) (rest := []) (st2 := [.int (if ¬ u < 0 ∧ ¬ 30 ≤ u then 1 else 0)]) (m_isKey u) rfl lX11_55 rfl ⟨rfl, by decide, by decide, by decide, rfl, rfl⟩ ?_
          rw [if_pos c1]
          refine tf_go hx ftX11_exchange 1 [false] 14 [some (.ref o), some (.int b), some (.int u), some (.int w)] [] S rfl ⟨by decide, by decide, rfl⟩ ⟨trivial, (by decide)⟩ ?_
          refine tf_go hx ftX11_exchange 1 [] 15 [some (.ref o), some (.int b), some (.int u), some (.int w)] [.int w] S rfl ⟨by decide, by decide, rfl⟩ trivial ?_
          refine tf_cS hx ftX11_exchange (nx := 18) (As := [.int w]) (rest := []) (st2 := [.int (if ¬ w < 0 ∧ ¬ 30 ≤ w then 1 else 0)]) (m_isKey w) rfl lX11_55 rfl ⟨rfl, by decide, by decide, by decide, rfl, rfl⟩ ?_
          rw [if_pos c2]
          refine tf_go hx ftX11_exchange 1 [false] 21 [some (.ref o), some (.int b), some (.int u), some (.int w)] [] S rfl ⟨by decide, by decide, rfl⟩ ⟨trivial, (by decide)⟩ ?_
          refine tf_go hx ftX11_exchange 2 [] 23 [some (.ref o), some (.int b), some (.int u), some (.int w)] [.int w, .int u] S rfl ⟨by decide, by decide, rfl⟩ trivial ?_
          refine tf_go hx ftX11_exchange 1 [false] 26 [some (.ref o), some (.int b), some (.int u), some (.int w)] [] S rfl ⟨by decide, by decide, rfl⟩ ⟨trivial, (fun h => h c3)⟩ ?_
          refine tf_go hx ftX11_exchange 2 [] 28 [some (.ref o), some (.int b), some (.int u), some (.int w)] [.int (-1), .ref o] S rfl ⟨by decide, by decide, rfl⟩ trivial ?_
          refine tf_cV hx ftX11_exchange (nx := 31) (As := [.int (-1)]) (rest := []) (st2 := [.int (-1)]) (m_ref1 ho) rfl lX11_26 (by first | assumption | rfl | decide) rfl ⟨rfl, by decide, by decide, by decide, rfl, rfl⟩ ?_
          exact tf_ret ftX11_exchange hR rfl ⟨by decide, by decide⟩ rfl rfl rfl
        · rw [if_pos ⟨c0, c1, c2, c3⟩]
          obtain ⟨b1, b1_lt, b1_eq, b1_cl⟩ := tf_ok_nI (N := 4) (show tf_ok b _ from c0) rfl (by decide)
          try rw [b1_cl]
          obtain ⟨u1, u1_lt, u1_eq, u1_cl⟩ := tf_ok_nI (N := 30) (show tf_ok u _ from c1) rfl (by decide)
          try rw [u1_cl]
          obtain ⟨w1, w1_lt, w1_eq, w1_cl⟩ := tf_ok_nI (N := 30) (show tf_ok w _ from c2) rfl (by decide)
          try rw [w1_cl]
          subst b1_eq
          subst u1_eq
          subst w1_eq
          refine ⟨tf_rw S (tf_rf G o 1) (tf_ex A.1 b1 u1 w1), tf_Fn_of (own := RX11) false ⟨by decide, rfl, by decide⟩ (Nat.le_of_ble_eq_true rfl) trivial (fun x hx hR => ?_), tf_ms_rw ho hd hM _, tf_fm_1⟩
          show tf_K x 0 0 G S 0 [some (.ref o), some (.int (nI b1)), some (.int (nI u1)), some (.int (nI w1))] []
          refine tf_go hx ftX11_exchange 1 [] 1 [some (.ref o), some (.int (nI b1)), some (.int (nI u1)), some (.int (nI w1))] [.int (nI b1)] S rfl ⟨by decide, by decide, rfl⟩ trivial ?_
          refine tf_cS hx ftX11_exchange (nx := 4) (As := [.int (nI b1)]) (rest := []) (st2 := [.int (if ¬ (nI b1) < 0 ∧ ¬ 4 ≤ (nI b1) then 1 else 0)]) (m_isBoard (nI b1)) rfl lX11_40 rfl ⟨rfl, by decide, by decide, by decide, rfl, rfl⟩ ?_
          rw [if_pos c0]
          refine tf_go hx ftX11_exchange 1 [false] 7 [some (.ref o), some (.int (nI b1)), some (.int (nI u1)), some (.int (nI w1))] [] S rfl ⟨by decide, by decide, rfl⟩ ⟨trivial, (by decide)⟩ ?_
          refine tf_go hx ftX11_exchange 1 [] 8 [some (.ref o), some (.int (nI b1)), some (.int (nI u1)), some (.int (nI w1))] [.int (nI u1)] S rfl ⟨by decide, by decide, rfl⟩ trivial ?_
          refine tf_cS hx ftX11_exchange (nx := 11) (As := [.int (nI u1)]) (rest := []) (st2 := [.int (if ¬ (nI u1) < 0 ∧ ¬ 30 ≤ (nI u1) then 1 else 0)]) (m_isKey (nI u1)) rfl lX11_55 rfl ⟨rfl, by decide, by decide, by decide, rfl, rfl⟩ ?_
          rw [if_pos c1]
          refine tf_go hx ftX11_exchange 1 [false] 14 [some (.ref o), some (.int (nI b1)), some (.int (nI u1)), some (.int (nI w1))] [] S rfl ⟨by decide, by decide, rfl⟩ ⟨trivial, (by decide)⟩ ?_
          refine tf_go hx ftX11_exchange 1 [] 15 [some (.ref o), some (.int (nI b1)), some (.int (nI u1)), some (.int (nI w1))] [.int (nI w1)] S rfl ⟨by decide, by decide, rfl⟩ trivial ?_
          refine tf_cS hx ftX11_exchange (nx := 18) (As := [.int (nI w1)]) (rest := []) (st2 := [.int (if ¬ (nI w1) < 0 ∧ ¬ 30 ≤ (nI w1) then 1 else 0)]) (m_isKey (nI w1)) rfl lX11_55 rfl ⟨rfl, by decide, by decide, by decide, rfl, rfl⟩ ?_
          rw [if_pos c2]
          refine tf_go hx ftX11_exchange 1 [false] 21 [some (.ref o), some (.int (nI b1)), some (.int (nI u1)), some (.int (nI w1))] [] S rfl ⟨by decide, by decide, rfl⟩ ⟨trivial, (by decide)⟩ ?_
          refine tf_go hx ftX11_exchange 2 [] 23 [some (.ref o), some (.int (nI b1)), some (.int (nI u1)), some (.int (nI w1))] [.int (nI w1), .int (nI u1)] S rfl ⟨by decide, by decide, rfl⟩ trivial ?_
          refine tf_go hx ftX11_exchange 1 [true] 32 [some (.ref o), some (.int (nI b1)), some (.int (nI u1)), some (.int (nI w1))] [] S rfl ⟨by decide, by decide, rfl⟩ ⟨trivial, c3⟩ ?_
          refine tf_go hx ftX11_exchange 4 [] 36 [some (.ref o), some (.int (nI b1)), some (.int (nI u1)), some (.int (nI w1))] [.int (nI w1), .int (nI u1), .int (nI b1), .ref o] S rfl ⟨by decide, by decide, rfl⟩ trivial ?_
          refine tf_cV hx ftX11_exchange (nx := 39) (As := [.int (nI b1), .int (nI u1), .int (nI w1)]) (rest := []) (st2 := []) (m_changes b1 u1 w1 ho hf b1_lt u1_lt w1_lt) rfl lX11_119 (by first | assumption | rfl | decide) rfl ⟨rfl, by decide, by decide, by decide, rfl, rfl⟩ ?_
          refine tf_go hx ftX11_exchange 1 [] 40 [some (.ref o), some (.int (nI b1)), some (.int (nI u1)), some (.int (nI w1))] [.int 1] (tf_rw S (tf_rf G o 1) (tf_ex A.1 b1 u1 w1)) rfl ⟨by decide, by decide, rfl⟩ trivial ?_
          exact tf_ret ftX11_exchange hR rfl ⟨by decide, by decide⟩ rfl rfl rfl
      · rw [if_neg (fun h => c2 h.2.2.1)]
        refine ⟨tf_rfS G S o 1, tf_Fn_of (own := RX11) false ⟨by decide, rfl, by decide⟩ (Nat.le_of_ble_eq_true rfl) trivial (fun x hx hR => ?_), tf_ms_ref ho hd hM 1, tf_fm_0⟩
        show tf_K x 0 0 G S 0 [some (.ref o), some (.int b), some (.int u), some (.int w)] []
        refine tf_go hx ftX11_exchange 1 [] 1 [some (.ref o), some (.int b), some (.int u), some (.int w)] [.int b] S rfl ⟨by decide, by decide, rfl⟩ trivial ?_
        refine tf_cS hx ftX11_exchange (nx := 4) (As := [.int b]) (rest := []) (st2 := [.int (if ¬ b < 0 ∧ ¬ 4 ≤ b then 1 else 0)]) (m_isBoard b) rfl lX11_40 rfl ⟨rfl, by decide, by decide, by decide, rfl, rfl⟩ ?_
        rw [if_pos c0]
        refine tf_go hx ftX11_exchange 1 [false] 7 [some (.ref o), some (.int b), some (.int u), some (.int w)] [] S rfl ⟨by decide, by decide, rfl⟩ ⟨trivial, (by decide)⟩ ?_
        refine tf_go hx ftX11_exchange 1 [] 8 [some (.ref o), some (.int b), some (.int u), some (.int w)] [.int u] S rfl ⟨by decide, by decide, rfl⟩ trivial ?_
        refine tf_cS hx ftX11_exchange (nx := 11) (As := [.int u]) (rest := []) (st2 := [.int (if ¬ u < 0 ∧ ¬ 30 ≤ u then 1 else 0)]) (m_isKey u) rfl lX11_55 rfl ⟨rfl, by decide, by decide, by decide, rfl, rfl⟩ ?_
        rw [if_pos c1]
        refine tf_go hx ftX11_exchange 1 [false] 14 [some (.ref o), some (.int b), some (.int u), some (.int w)] [] S rfl ⟨by decide, by decide, rfl⟩ ⟨trivial, (by decide)⟩ ?_
        refine tf_go hx ftX11_exchange 1 [] 15 [some (.ref o), some (.int b), some (.int u), some (.int w)] [.int w] S rfl ⟨by decide, by decide, rfl⟩ trivial ?_
        refine tf_cS hx ftX11_exchange (nx := 18) (As := [.int w]) (rest := []) (st2 := [.int (if ¬ w < 0 ∧ ¬ 30 ≤ w then 1 else 0)]) (m_isKey w) rfl lX11_55 rfl ⟨rfl, by decide, by decide, by decide, rfl, rfl⟩ ?_
        rw [if_neg c2]
        refine tf_go hx ftX11_exchange 1 [true] 26 [some (.ref o), some (.int b), some (.int u), some (.int w)] [] S rfl ⟨by decide, by decide, rfl⟩ ⟨trivial, (by decide)⟩ ?_
        refine tf_go hx ftX11_exchange 2 [] 28 [some (.ref o), some (.int b), some (.int u), some (.int w)] [.int (-1), .ref o] S rfl ⟨by decide, by decide, rfl⟩ trivial ?_
        refine tf_cV hx ftX11_exchange (nx := 31) (As := [.int (-1)]) (rest := []) (st2 := [.int (-1)]) (m_ref1 ho) rfl lX11_26 (by first | assumption | rfl | decide) rfl ⟨rfl, by decide, by decide, by decide, rfl, rfl⟩ ?_
        exact tf_ret ftX11_exchange hR rfl ⟨by decide, by decide⟩ rfl rfl rfl
    · rw [if_neg (fun h => c1 h.2.1)]
      refine ⟨tf_rfS G S o 1, tf_Fn_of (own := RX11) false ⟨by decide, rfl, by decide⟩ (Nat.le_of_ble_eq_true rfl) trivial (fun x hx hR => ?_), tf_ms_ref ho hd hM 1, tf_fm_0⟩
      show tf_K x 0 0 G S 0 [some (.ref o), some (.int b), some (.int u), some (.int w)] []
      refine tf_go hx ftX11_exchange 1 [] 1 [some (.ref o), some (.int b), some (.int u), some (.int w)] [.int b] S rfl ⟨by decide, by decide, rfl⟩ trivial ?_
      refine tf_cS hx ftX11_exchange (nx := 4) (As := [.int b]) (rest := []) (st2 := [.int (if ¬ b < 0 ∧ ¬ 4 ≤ b then 1 else 0)]) (m_isBoard b) rfl lX11_40 rfl ⟨rfl, by decide, by decide, by decide, rfl, rfl⟩ ?_
      rw [if_pos c0]
      refine tf_go hx ftX11_exchange 1 [false] 7 [some (.ref o), some (.int b), some (.int u), some (.int w)] [] S rfl ⟨by decide, by decide, rfl⟩ ⟨trivial, (by decide)⟩ ?_
      refine tf_go hx ftX11_exchange 1 [] 8 [some (.ref o), some (.int b), some (.int u), some (.int w)] [.int u] S rfl ⟨by decide, by decide, rfl⟩ trivial ?_
      refine tf_cS hx ftX11_exchange (nx := 11) (As := [.int u]) (rest := []) (st2 := [.int (if ¬ u < 0 ∧ ¬ 30 ≤ u then 1 else 0)]) (m_isKey u) rfl lX11_55 rfl ⟨rfl, by decide, by decide, by decide, rfl, rfl⟩ ?_
      rw [if_neg c1]
      refine tf_go hx ftX11_exchange 1 [true] 26 [some (.ref o), some (.int b), some (.int u), some (.int w)] [] S rfl ⟨by decide, by decide, rfl⟩ ⟨trivial, (by decide)⟩ ?_
      refine tf_go hx ftX11_exchange 2 [] 28 [some (.ref o), some (.int b), some (.int u), some (.int w)] [.int (-1), .ref o] S rfl ⟨by decide, by decide, rfl⟩ trivial ?_
      refine tf_cV hx ftX11_exchange (nx := 31) (As := [.int (-1)]) (rest := []) (st2 := [.int (-1)]) (m_ref1 ho) rfl lX11_26 (by first | assumption | rfl | decide) rfl ⟨rfl, by decide, by decide, by decide, rfl, rfl⟩ ?_
      exact tf_ret ftX11_exchange hR rfl ⟨by decide, by decide⟩ rfl rfl rfl
  · rw [if_neg (fun h => c0 h.1)]
    refine ⟨tf_rfS G S o 1, tf_Fn_of (own := RX11) false ⟨by decide, rfl, by decide⟩ (Nat.le_of_ble_eq_true rfl) trivial (fun x hx hR => ?_), tf_ms_ref ho hd hM 1, tf_fm_0⟩
    show tf_K x 0 0 G S 0 [some (.ref o), some (.int b), some (.int u), some (.int w)] []
    refine tf_go hx ftX11_exchange 1 [] 1 [some (.ref o), some (.int b), some (.int u), some (.int w)] [.int b] S rfl ⟨by decide, by decide, rfl⟩ trivial ?_
    refine tf_cS hx ftX11_exchange (nx := 4) (As := [.int b]) (rest := []) (st2 := [.int (if ¬ b < 0 ∧ ¬ 4 ≤ b then 1 else 0)]) (m_isBoard b) rfl lX11_40 rfl ⟨rfl, by decide, by decide, by decide, rfl, rfl⟩ ?_
    rw [if_neg c0]
    refine tf_go hx ftX11_exchange 1 [true] 26 [some (.ref o), some (.int b), some (.int u), some (.int w)] [] S rfl ⟨by decide, by decide, rfl⟩ ⟨trivial, (by decide)⟩ ?_
    refine tf_go hx ftX11_exchange 2 [] 28 [some (.ref o), some (.int b), some (.int u), some (.int w)] [.int (-1), .ref o] S rfl ⟨by decide, by decide, rfl⟩ trivial ?_
    refine tf_cV hx ftX11_exchange (nx := 31) (As := [.int (-1)]) (rest := []) (st2 := [.int (-1)]) (m_ref1 ho) rfl lX11_26 (by first | assumption | rfl | decide) rfl ⟨rfl, by decide, by decide, by decide, rfl, rfl⟩ ?_
    exact tf_ret ftX11_exchange hR rfl ⟨by decide, by decide⟩ rfl rfl rfl

set_option maxHeartbeats 2000000 in
theorem p_law {G : tf_G} {S : tf_Sg} {o : Nat} {A : tf_A} (h l v : Int32) (ho : tf_mo G o) (hd : tf_md G o) (hA : tf_okA A) (hM : tf_ms G S o A)  : tf_pm mX11_law 3 G S o [.ref o, .int h, .int l, .int v] (s_law A h l v) := by
  obtain ⟨h1, ⟨r0, t0, n0⟩, ⟨r1, t1, n1⟩, ⟨r2, t2, n2⟩, ⟨r4, t4, n4⟩⟩ := id ho
  obtain ⟨hg, hb, hA3, hA4, hA5, hA6⟩ := id hA
  have hs := hM.1
  have hf : tf_sf G S o A.1 := ⟨hM.1, hb⟩
  obtain ⟨⟨g1, g2, g3, g4⟩, g5, g6, g7, g8, g9, g10, g11⟩ := id hg
  unfold s_law
  by_cases c0 : ¬ h < 0 ∧ ¬ 4 ≤ h
  · by_cases c1 : ¬ l < 0 ∧ ¬ 6 ≤ l
    · rw [if_pos ⟨c0, c1⟩]
      obtain ⟨h1, h1_lt, h1_eq, h1_cl⟩ := tf_ok_nI (N := 4) (show tf_ok h _ from c0) rfl (by decide)
      try rw [h1_cl]
      obtain ⟨l1, l1_lt, l1_eq, l1_cl⟩ := tf_ok_nI (N := 6) (show tf_ok l _ from c1) rfl (by decide)
      try rw [l1_cl]
      subst h1_eq
      subst l1_eq
      by_cases e1 : ¬ 0 ≤ v
      · rw [if_pos e1]
        refine ⟨tf_rfS G S o 4, tf_Fn_of (own := RX11) false ⟨by decide, rfl, by decide⟩ (Nat.le_of_ble_eq_true rfl) trivial (fun x hx hR => ?_), tf_ms_ref ho hd hM 4, tf_fm_0⟩
        show tf_K x 0 0 G S 0 [some (.ref o), some (.int (nI h1)), some (.int (nI l1)), some (.int v), none, none] []
        refine tf_go hx ftX11_law 1 [] 1 [some (.ref o), some (.int (nI h1)), some (.int (nI l1)), some (.int v), none, none] [.int (nI h1)] S rfl ⟨by decide, by decide, rfl⟩ trivial ?_
        refine tf_cS hx ftX11_law (nx := 4) (As := [.int (nI h1)]) (rest := []) (st2 := [.int (if ¬ (nI h1) < 0 ∧ ¬ 4 ≤ (nI h1) then 1 else 0)]) (m_isHand (nI h1)) rfl lX11_62 rfl ⟨rfl, by decide, by decide, by decide, rfl, rfl⟩ ?_
        rw [if_pos c0]
        refine tf_go hx ftX11_law 1 [false] 7 [some (.ref o), some (.int (nI h1)), some (.int (nI l1)), some (.int v), none, none] [] S rfl ⟨by decide, by decide, rfl⟩ ⟨trivial, (by decide)⟩ ?_
        refine tf_go hx ftX11_law 2 [] 10 [some (.ref o), some (.int (nI h1)), some (.int (nI l1)), some (.int v), none, none] [.int 6, .int (nI l1)] S rfl ⟨by decide, by decide, rfl⟩ trivial ?_
        refine tf_cS hx ftX11_law (nx := 13) (As := [.int (nI l1), .int 6]) (rest := []) (st2 := [.int (if ¬ (nI l1) < 0 ∧ ¬ 6 ≤ (nI l1) then 1 else 0)]) (m_isIn (nI l1) 6) rfl lX11_22 rfl ⟨rfl, by decide, by decide, by decide, rfl, rfl⟩ ?_
        rw [if_pos c1]
        refine tf_go hx ftX11_law 1 [false] 16 [some (.ref o), some (.int (nI h1)), some (.int (nI l1)), some (.int v), none, none] [] S rfl ⟨by decide, by decide, rfl⟩ ⟨trivial, (by decide)⟩ ?_
        refine tf_go hx ftX11_law 3 [] 21 [some (.ref o), some (.int (nI h1)), some (.int (nI l1)), some (.int v), none, none] [.int 999, .int 0, .int v] S rfl ⟨by decide, by decide, rfl⟩ trivial ?_
        refine tf_cS hx ftX11_law (nx := 24) (As := [.int v, .int 0, .int 999]) (rest := []) (st2 := [.int (if ¬ 0 ≤ v then (-4) else if ¬ v ≤ 999 then (-6) else 0)]) (m_within v 0 999) rfl lX11_65 rfl ⟨rfl, by decide, by decide, by decide, rfl, rfl⟩ ?_
        rw [if_pos e1]
        refine tf_go hx ftX11_law 3 [] 32 [some (.ref o), some (.int (nI h1)), some (.int (nI l1)), some (.int v), some (.int (-4)), none] [.int (-4)] S rfl ⟨by decide, by decide, rfl⟩ trivial ?_
        refine tf_go hx ftX11_law 3 [false] 38 [some (.ref o), some (.int (nI h1)), some (.int (nI l1)), some (.int v), some (.int (-4)), none] [.int (-4), .ref o] S rfl ⟨by decide, by decide, rfl⟩ ⟨trivial, (by decide)⟩ ?_
        refine tf_cV hx ftX11_law (nx := 41) (As := [.int (-4)]) (rest := []) (st2 := [.int (-4)]) (m_ref4 ho) rfl lX11_26 (by first | assumption | rfl | decide) rfl ⟨rfl, by decide, by decide, by decide, rfl, rfl⟩ ?_
        exact tf_ret ftX11_law hR rfl ⟨by decide, by decide⟩ rfl rfl rfl
      · by_cases e2 : ¬ v ≤ 999
        · rw [if_neg e1, if_pos e2]
          refine ⟨tf_rfS G S o 6, tf_Fn_of (own := RX11) false ⟨by decide, rfl, by decide⟩ (Nat.le_of_ble_eq_true rfl) trivial (fun x hx hR => ?_), tf_ms_ref ho hd hM 6, tf_fm_0⟩
          show tf_K x 0 0 G S 0 [some (.ref o), some (.int (nI h1)), some (.int (nI l1)), some (.int v), none, none] []
          refine tf_go hx ftX11_law 1 [] 1 [some (.ref o), some (.int (nI h1)), some (.int (nI l1)), some (.int v), none, none] [.int (nI h1)] S rfl ⟨by decide, by decide, rfl⟩ trivial ?_
          refine tf_cS hx ftX11_law (nx := 4) (As := [.int (nI h1)]) (rest := []) (st2 := [.int (if ¬ (nI h1) < 0 ∧ ¬ 4 ≤ (nI h1) then 1 else 0)]) (m_isHand (nI h1)) rfl lX11_62 rfl ⟨rfl, by decide, by decide, by decide, rfl, rfl⟩ ?_
          rw [if_pos c0]
          refine tf_go hx ftX11_law 1 [false] 7 [some (.ref o), some (.int (nI h1)), some (.int (nI l1)), some (.int v), none, none] [] S rfl ⟨by decide, by decide, rfl⟩ ⟨trivial, (by decide)⟩ ?_
          refine tf_go hx ftX11_law 2 [] 10 [some (.ref o), some (.int (nI h1)), some (.int (nI l1)), some (.int v), none, none] [.int 6, .int (nI l1)] S rfl ⟨by decide, by decide, rfl⟩ trivial ?_
          refine tf_cS hx ftX11_law (nx := 13) (As := [.int (nI l1), .int 6]) (rest := []) (st2 := [.int (if ¬ (nI l1) < 0 ∧ ¬ 6 ≤ (nI l1) then 1 else 0)]) (m_isIn (nI l1) 6) rfl lX11_22 rfl ⟨rfl, by decide, by decide, by decide, rfl, rfl⟩ ?_
          rw [if_pos c1]
          refine tf_go hx ftX11_law 1 [false] 16 [some (.ref o), some (.int (nI h1)), some (.int (nI l1)), some (.int v), none, none] [] S rfl ⟨by decide, by decide, rfl⟩ ⟨trivial, (by decide)⟩ ?_
          refine tf_go hx ftX11_law 3 [] 21 [some (.ref o), some (.int (nI h1)), some (.int (nI l1)), some (.int v), none, none] [.int 999, .int 0, .int v] S rfl ⟨by decide, by decide, rfl⟩ trivial ?_
          refine tf_cS hx ftX11_law (nx := 24) (As := [.int v, .int 0, .int 999]) (rest := []) (st2 := [.int (if ¬ 0 ≤ v then (-4) else if ¬ v ≤ 999 then (-6) else 0)]) (m_within v 0 999) rfl lX11_65 rfl ⟨rfl, by decide, by decide, by decide, rfl, rfl⟩ ?_
          rw [if_neg e1, if_pos e2]
          refine tf_go hx ftX11_law 3 [] 32 [some (.ref o), some (.int (nI h1)), some (.int (nI l1)), some (.int v), some (.int (-6)), none] [.int (-6)] S rfl ⟨by decide, by decide, rfl⟩ trivial ?_
          refine tf_go hx ftX11_law 3 [false] 38 [some (.ref o), some (.int (nI h1)), some (.int (nI l1)), some (.int v), some (.int (-6)), none] [.int (-6), .ref o] S rfl ⟨by decide, by decide, rfl⟩ ⟨trivial, (by decide)⟩ ?_
          refine tf_cV hx ftX11_law (nx := 41) (As := [.int (-6)]) (rest := []) (st2 := [.int (-6)]) (m_ref6 ho) rfl lX11_26 (by first | assumption | rfl | decide) rfl ⟨rfl, by decide, by decide, by decide, rfl, rfl⟩ ?_
          exact tf_ret ftX11_law hR rfl ⟨by decide, by decide⟩ rfl rfl rfl
        · rw [if_neg e1, if_neg e2]
          obtain ⟨v1, v1_le, v1_eq⟩ := nI_of2 (M := 999) (n := 999) (by decide) (fun h => e1 (fun h2 => absurd h (Int32.not_lt.mpr h2))) (Classical.not_not.mp e2)
          have v1_cl : v.toNatClampNeg = v1 := by rw [v1_eq]; exact tf_cl_nI (by omega)
          rw [v1_cl]
          subst v1_eq
          refine ⟨tf_rw S (tf_rf G o 1) (tf_u A.1 (120 + 6 * h1 + l1) v1), tf_Fn_of (own := RX11) false ⟨by decide, rfl, by decide⟩ (Nat.le_of_ble_eq_true rfl) trivial (fun x hx hR => ?_), tf_ms_rw ho hd hM _, tf_fm_1⟩
          show tf_K x 0 0 G S 0 [some (.ref o), some (.int (nI h1)), some (.int (nI l1)), some (.int (nI v1)), none, none] []
          refine tf_go hx ftX11_law 1 [] 1 [some (.ref o), some (.int (nI h1)), some (.int (nI l1)), some (.int (nI v1)), none, none] [.int (nI h1)] S rfl ⟨by decide, by decide, rfl⟩ trivial ?_
          refine tf_cS hx ftX11_law (nx := 4) (As := [.int (nI h1)]) (rest := []) (st2 := [.int (if ¬ (nI h1) < 0 ∧ ¬ 4 ≤ (nI h1) then 1 else 0)]) (m_isHand (nI h1)) rfl lX11_62 rfl ⟨rfl, by decide, by decide, by decide, rfl, rfl⟩ ?_
          rw [if_pos c0]
          refine tf_go hx ftX11_law 1 [false] 7 [some (.ref o), some (.int (nI h1)), some (.int (nI l1)), some (.int (nI v1)), none, none] [] S rfl ⟨by decide, by decide, rfl⟩ ⟨trivial, (by decide)⟩ ?_
          refine tf_go hx ftX11_law 2 [] 10 [some (.ref o), some (.int (nI h1)), some (.int (nI l1)), some (.int (nI v1)), none, none] [.int 6, .int (nI l1)] S rfl ⟨by decide, by decide, rfl⟩ trivial ?_
          refine tf_cS hx ftX11_law (nx := 13) (As := [.int (nI l1), .int 6]) (rest := []) (st2 := [.int (if ¬ (nI l1) < 0 ∧ ¬ 6 ≤ (nI l1) then 1 else 0)]) (m_isIn (nI l1) 6) rfl lX11_22 rfl ⟨rfl, by decide, by decide, by decide, rfl, rfl⟩ ?_
          rw [if_pos c1]
          refine tf_go hx ftX11_law 1 [false] 16 [some (.ref o), some (.int (nI h1)), some (.int (nI l1)), some (.int (nI v1)), none, none] [] S rfl ⟨by decide, by decide, rfl⟩ ⟨trivial, (by decide)⟩ ?_
          refine tf_go hx ftX11_law 3 [] 21 [some (.ref o), some (.int (nI h1)), some (.int (nI l1)), some (.int (nI v1)), none, none] [.int 999, .int 0, .int (nI v1)] S rfl ⟨by decide, by decide, rfl⟩ trivial ?_
          refine tf_cS hx ftX11_law (nx := 24) (As := [.int (nI v1), .int 0, .int 999]) (rest := []) (st2 := [.int (if ¬ 0 ≤ (nI v1) then (-4) else if ¬ (nI v1) ≤ 999 then (-6) else 0)]) (m_within (nI v1) 0 999) rfl lX11_65 rfl ⟨rfl, by decide, by decide, by decide, rfl, rfl⟩ ?_
          rw [if_neg e1, if_neg e2]
          refine tf_go hx ftX11_law 3 [] 32 [some (.ref o), some (.int (nI h1)), some (.int (nI l1)), some (.int (nI v1)), some (.int 0), none] [.int 0] S rfl ⟨by decide, by decide, rfl⟩ trivial ?_
          refine tf_go hx ftX11_law 1 [true] 42 [some (.ref o), some (.int (nI h1)), some (.int (nI l1)), some (.int (nI v1)), some (.int 0), none] [] S rfl ⟨by decide, by decide, rfl⟩ ⟨trivial, (by decide)⟩ ?_
          refine tf_go hx ftX11_law 10 [] 56 [some (.ref o), some (.int (nI h1)), some (.int (nI l1)), some (.int (nI v1)), some (.int 0), none] [.int (S (tf_rf G o 1) (Int32.toNatClampNeg ((120 + (6 * (nI h1))) + (nI l1))))] S rfl ⟨by decide, by decide, rfl⟩ ⟨⟨trivial, ⟨by first | assumption | rfl | decide | omega, by first | assumption | rfl | decide | omega⟩⟩, ⟨Or.inl (by first | assumption | rfl | decide | omega), by first | assumption | exact tf_in (n := ((120 + (6 * h1)) + l1)) (tf_add (a := (120 + (6 * h1))) (b := l1) (tf_add (a := 120) (b := (6 * h1)) (rfl : (120 : Int32) = nI 120) (tf_mul (a := 6) (b := h1) (rfl : (6 : Int32) = nI 6) rfl)) rfl) (by first | assumption | rfl) (by omega) (by decide)⟩⟩ ?_
          rw [show (S (tf_rf G o 1) (Int32.toNatClampNeg ((120 + (6 * (nI h1))) + (nI l1)))) = nI (A.1 ((120 + (6 * h1)) + l1)) from (tf_rd hs (tf_add (a := (120 + (6 * h1))) (b := l1) (tf_add (a := 120) (b := (6 * h1)) (rfl : (120 : Int32) = nI 120) (tf_mul (a := 6) (b := h1) (rfl : (6 : Int32) = nI 6) rfl)) rfl) (by omega))]
          refine tf_go hx ftX11_law 11 [] 72 [some (.ref o), some (.int (nI h1)), some (.int (nI l1)), some (.int (nI v1)), some (.int 0), some (.int (nI (A.1 ((120 + (6 * h1)) + l1))))] [.int (nI v1), .int ((120 + (6 * (nI h1))) + (nI l1)), .ref (tf_rf G o 1)] S rfl ⟨by decide, by decide, rfl⟩ ⟨trivial, ⟨by first | assumption | rfl | decide | omega, by first | assumption | rfl | decide | omega⟩⟩ ?_
          rw [show ((120 + (6 * (nI h1))) + (nI l1)) = nI ((120 + (6 * h1)) + l1) from (tf_add (a := (120 + (6 * h1))) (b := l1) (tf_add (a := 120) (b := (6 * h1)) (rfl : (120 : Int32) = nI 120) (tf_mul (a := 6) (b := h1) (rfl : (6 : Int32) = nI 6) rfl)) rfl)]
          refine tf_go hx ftX11_law 1 [] 73 [some (.ref o), some (.int (nI h1)), some (.int (nI l1)), some (.int (nI v1)), some (.int 0), some (.int (nI (A.1 ((120 + (6 * h1)) + l1))))] [] (tf_set S (tf_rf G o 1) (Int32.toNatClampNeg (nI ((120 + (6 * h1)) + l1))) (nI v1)) rfl ⟨by decide, by decide, rfl⟩ ⟨trivial, ⟨by first | assumption | rfl | decide | omega, by first | assumption | exact tf_in (n := ((120 + (6 * h1)) + l1)) rfl (by first | assumption | rfl) (by omega) (by decide)⟩⟩ ?_
          rw [show Int32.toNatClampNeg (nI ((120 + (6 * h1)) + l1)) = ((120 + (6 * h1)) + l1) from tf_cln rfl (by omega)]
          rw [tf_rw_u hs]
          refine tf_go hx ftX11_law 1 [] 75 [some (.ref o), some (.int (nI h1)), some (.int (nI l1)), some (.int (nI v1)), some (.int 0), some (.int (nI (A.1 ((120 + (6 * h1)) + l1))))] [.int (nI (A.1 ((120 + (6 * h1)) + l1)))] (tf_rw S (tf_rf G o 1) (tf_u A.1 (120 + 6 * h1 + l1) v1)) rfl ⟨by decide, by decide, rfl⟩ trivial ?_
          exact tf_ret ftX11_law hR rfl ⟨by decide, by decide⟩ rfl rfl rfl
    · rw [if_neg (fun h => c1 h.2)]
      refine ⟨tf_rfS G S o 1, tf_Fn_of (own := RX11) false ⟨by decide, rfl, by decide⟩ (Nat.le_of_ble_eq_true rfl) trivial (fun x hx hR => ?_), tf_ms_ref ho hd hM 1, tf_fm_0⟩
      show tf_K x 0 0 G S 0 [some (.ref o), some (.int h), some (.int l), some (.int v), none, none] []
      refine tf_go hx ftX11_law 1 [] 1 [some (.ref o), some (.int h), some (.int l), some (.int v), none, none] [.int h] S rfl ⟨by decide, by decide, rfl⟩ trivial ?_
      refine tf_cS hx ftX11_law (nx := 4) (As := [.int h]) (rest := []) (st2 := [.int (if ¬ h < 0 ∧ ¬ 4 ≤ h then 1 else 0)]) (m_isHand h) rfl lX11_62 rfl ⟨rfl, by decide, by decide, by decide, rfl, rfl⟩ ?_
      rw [if_pos c0]
      refine tf_go hx ftX11_law 1 [false] 7 [some (.ref o), some (.int h), some (.int l), some (.int v), none, none] [] S rfl ⟨by decide, by decide, rfl⟩ ⟨trivial, (by decide)⟩ ?_
      refine tf_go hx ftX11_law 2 [] 10 [some (.ref o), some (.int h), some (.int l), some (.int v), none, none] [.int 6, .int l] S rfl ⟨by decide, by decide, rfl⟩ trivial ?_
      refine tf_cS hx ftX11_law (nx := 13) (As := [.int l, .int 6]) (rest := []) (st2 := [.int (if ¬ l < 0 ∧ ¬ 6 ≤ l then 1 else 0)]) (m_isIn l 6) rfl lX11_22 rfl ⟨rfl, by decide, by decide, by decide, rfl, rfl⟩ ?_
      rw [if_neg c1]
      refine tf_go hx ftX11_law 1 [true] 27 [some (.ref o), some (.int h), some (.int l), some (.int v), none, none] [] S rfl ⟨by decide, by decide, rfl⟩ ⟨trivial, (by decide)⟩ ?_
      refine tf_go hx ftX11_law 3 [] 32 [some (.ref o), some (.int h), some (.int l), some (.int v), some (.int (-1)), none] [.int (-1)] S rfl ⟨by decide, by decide, rfl⟩ trivial ?_
      refine tf_go hx ftX11_law 3 [false] 38 [some (.ref o), some (.int h), some (.int l), some (.int v), some (.int (-1)), none] [.int (-1), .ref o] S rfl ⟨by decide, by decide, rfl⟩ ⟨trivial, (by decide)⟩ ?_
      refine tf_cV hx ftX11_law (nx := 41) (As := [.int (-1)]) (rest := []) (st2 := [.int (-1)]) (m_ref1 ho) rfl lX11_26 (by first | assumption | rfl | decide) rfl ⟨rfl, by decide, by decide, by decide, rfl, rfl⟩ ?_
      exact tf_ret ftX11_law hR rfl ⟨by decide, by decide⟩ rfl rfl rfl
  · rw [if_neg (fun h => c0 h.1)]
    refine ⟨tf_rfS G S o 1, tf_Fn_of (own := RX11) false ⟨by decide, rfl, by decide⟩ (Nat.le_of_ble_eq_true rfl) trivial (fun x hx hR => ?_), tf_ms_ref ho hd hM 1, tf_fm_0⟩
    show tf_K x 0 0 G S 0 [some (.ref o), some (.int h), some (.int l), some (.int v), none, none] []
    refine tf_go hx ftX11_law 1 [] 1 [some (.ref o), some (.int h), some (.int l), some (.int v), none, none] [.int h] S rfl ⟨by decide, by decide, rfl⟩ trivial ?_
    refine tf_cS hx ftX11_law (nx := 4) (As := [.int h]) (rest := []) (st2 := [.int (if ¬ h < 0 ∧ ¬ 4 ≤ h then 1 else 0)]) (m_isHand h) rfl lX11_62 rfl ⟨rfl, by decide, by decide, by decide, rfl, rfl⟩ ?_
    rw [if_neg c0]
    refine tf_go hx ftX11_law 1 [true] 27 [some (.ref o), some (.int h), some (.int l), some (.int v), none, none] [] S rfl ⟨by decide, by decide, rfl⟩ ⟨trivial, (by decide)⟩ ?_
    refine tf_go hx ftX11_law 3 [] 32 [some (.ref o), some (.int h), some (.int l), some (.int v), some (.int (-1)), none] [.int (-1)] S rfl ⟨by decide, by decide, rfl⟩ trivial ?_
    refine tf_go hx ftX11_law 3 [false] 38 [some (.ref o), some (.int h), some (.int l), some (.int v), some (.int (-1)), none] [.int (-1), .ref o] S rfl ⟨by decide, by decide, rfl⟩ ⟨trivial, (by decide)⟩ ?_
    refine tf_cV hx ftX11_law (nx := 41) (As := [.int (-1)]) (rest := []) (st2 := [.int (-1)]) (m_ref1 ho) rfl lX11_26 (by first | assumption | rfl | decide) rfl ⟨rfl, by decide, by decide, by decide, rfl, rfl⟩ ?_
    exact tf_ret ftX11_law hR rfl ⟨by decide, by decide⟩ rfl rfl rfl

set_option maxHeartbeats 2000000 in
theorem p_pace {G : tf_G} {S : tf_Sg} {o : Nat} {A : tf_A} (h b p d : Int32) (ho : tf_mo G o) (hd : tf_md G o) (hA : tf_okA A) (hM : tf_ms G S o A)  : tf_pm mX11_pace 7 G S o [.ref o, .int h, .int b, .int p, .int d] (s_pace A h b p d) := by
  obtain ⟨h1, ⟨r0, t0, n0⟩, ⟨r1, t1, n1⟩, ⟨r2, t2, n2⟩, ⟨r4, t4, n4⟩⟩ := id ho
  obtain ⟨hg, hb, hA3, hA4, hA5, hA6⟩ := id hA
  have hs := hM.1
  have hf : tf_sf G S o A.1 := ⟨hM.1, hb⟩
  obtain ⟨⟨g1, g2, g3, g4⟩, g5, g6, g7, g8, g9, g10, g11⟩ := id hg
  unfold s_pace
  by_cases c0 : ¬ h < 0 ∧ ¬ 4 ≤ h
  · by_cases c1 : ¬ b < 0 ∧ ¬ 4 ≤ b
    · rw [if_pos ⟨c0, c1⟩]
      obtain ⟨h1, h1_lt, h1_eq, h1_cl⟩ := tf_ok_nI (N := 4) (show tf_ok h _ from c0) rfl (by decide)
      try rw [h1_cl]
      obtain ⟨b1, b1_lt, b1_eq, b1_cl⟩ := tf_ok_nI (N := 4) (show tf_ok b _ from c1) rfl (by decide)
      try rw [b1_cl]
      subst h1_eq
      subst b1_eq
      by_cases e1 : p < 1
      · rw [if_pos (Or.inl e1)]
        refine ⟨tf_rfS G S o 4, tf_Fn_of (own := RX11) false ⟨by decide, rfl, by decide⟩ (Nat.le_of_ble_eq_true rfl) trivial (fun x hx hR => ?_), tf_ms_ref ho hd hM 4, tf_fm_0⟩
        show tf_K x 0 0 G S 0 [some (.ref o), some (.int (nI h1)), some (.int (nI b1)), some (.int p), some (.int d)] []
        refine tf_go hx ftX11_pace 1 [] 1 [some (.ref o), some (.int (nI h1)), some (.int (nI b1)), some (.int p), some (.int d)] [.int (nI h1)] S rfl ⟨by decide, by decide, rfl⟩ trivial ?_
        refine tf_cS hx ftX11_pace (nx := 4) (As := [.int (nI h1)]) (rest := []) (st2 := [.int (if ¬ (nI h1) < 0 ∧ ¬ 4 ≤ (nI h1) then 1 else 0)]) (m_isHand (nI h1)) rfl lX11_62 rfl ⟨rfl, by decide, by decide, by decide, rfl, rfl⟩ ?_
        rw [if_pos c0]
        refine tf_go hx ftX11_pace 1 [false] 7 [some (.ref o), some (.int (nI h1)), some (.int (nI b1)), some (.int p), some (.int d)] [] S rfl ⟨by decide, by decide, rfl⟩ ⟨trivial, (by decide)⟩ ?_
        refine tf_go hx ftX11_pace 1 [] 8 [some (.ref o), some (.int (nI h1)), some (.int (nI b1)), some (.int p), some (.int d)] [.int (nI b1)] S rfl ⟨by decide, by decide, rfl⟩ trivial ?_
        refine tf_cS hx ftX11_pace (nx := 11) (As := [.int (nI b1)]) (rest := []) (st2 := [.int (if ¬ (nI b1) < 0 ∧ ¬ 4 ≤ (nI b1) then 1 else 0)]) (m_isBoard (nI b1)) rfl lX11_40 rfl ⟨rfl, by decide, by decide, by decide, rfl, rfl⟩ ?_
        rw [if_pos c1]
        refine tf_go hx ftX11_pace 1 [true] 20 [some (.ref o), some (.int (nI h1)), some (.int (nI b1)), some (.int p), some (.int d)] [] S rfl ⟨by decide, by decide, rfl⟩ ⟨trivial, (by decide)⟩ ?_
        refine tf_go hx ftX11_pace 2 [] 22 [some (.ref o), some (.int (nI h1)), some (.int (nI b1)), some (.int p), some (.int d)] [.int 1, .int p] S rfl ⟨by decide, by decide, rfl⟩ trivial ?_
        refine tf_go hx ftX11_pace 3 [true] 33 [some (.ref o), some (.int (nI h1)), some (.int (nI b1)), some (.int p), some (.int d)] [.int (-4), .ref o] S rfl ⟨by decide, by decide, rfl⟩ ⟨trivial, e1⟩ ?_
        refine tf_cV hx ftX11_pace (nx := 36) (As := [.int (-4)]) (rest := []) (st2 := [.int (-4)]) (m_ref4 ho) rfl lX11_26 (by first | assumption | rfl | decide) rfl ⟨rfl, by decide, by decide, by decide, rfl, rfl⟩ ?_
        exact tf_ret ftX11_pace hR rfl ⟨by decide, by decide⟩ rfl rfl rfl
      · by_cases e2 : d < 0
        · rw [if_pos (Or.inr e2)]
          refine ⟨tf_rfS G S o 4, tf_Fn_of (own := RX11) false ⟨by decide, rfl, by decide⟩ (Nat.le_of_ble_eq_true rfl) trivial (fun x hx hR => ?_), tf_ms_ref ho hd hM 4, tf_fm_0⟩
          show tf_K x 0 0 G S 0 [some (.ref o), some (.int (nI h1)), some (.int (nI b1)), some (.int p), some (.int d)] []
          refine tf_go hx ftX11_pace 1 [] 1 [some (.ref o), some (.int (nI h1)), some (.int (nI b1)), some (.int p), some (.int d)] [.int (nI h1)] S rfl ⟨by decide, by decide, rfl⟩ trivial ?_
          refine tf_cS hx ftX11_pace (nx := 4) (As := [.int (nI h1)]) (rest := []) (st2 := [.int (if ¬ (nI h1) < 0 ∧ ¬ 4 ≤ (nI h1) then 1 else 0)]) (m_isHand (nI h1)) rfl lX11_62 rfl ⟨rfl, by decide, by decide, by decide, rfl, rfl⟩ ?_
          rw [if_pos c0]
          refine tf_go hx ftX11_pace 1 [false] 7 [some (.ref o), some (.int (nI h1)), some (.int (nI b1)), some (.int p), some (.int d)] [] S rfl ⟨by decide, by decide, rfl⟩ ⟨trivial, (by decide)⟩ ?_
          refine tf_go hx ftX11_pace 1 [] 8 [some (.ref o), some (.int (nI h1)), some (.int (nI b1)), some (.int p), some (.int d)] [.int (nI b1)] S rfl ⟨by decide, by decide, rfl⟩ trivial ?_
          refine tf_cS hx ftX11_pace (nx := 11) (As := [.int (nI b1)]) (rest := []) (st2 := [.int (if ¬ (nI b1) < 0 ∧ ¬ 4 ≤ (nI b1) then 1 else 0)]) (m_isBoard (nI b1)) rfl lX11_40 rfl ⟨rfl, by decide, by decide, by decide, rfl, rfl⟩ ?_
          rw [if_pos c1]
          refine tf_go hx ftX11_pace 1 [true] 20 [some (.ref o), some (.int (nI h1)), some (.int (nI b1)), some (.int p), some (.int d)] [] S rfl ⟨by decide, by decide, rfl⟩ ⟨trivial, (by decide)⟩ ?_
          refine tf_go hx ftX11_pace 2 [] 22 [some (.ref o), some (.int (nI h1)), some (.int (nI b1)), some (.int p), some (.int d)] [.int 1, .int p] S rfl ⟨by decide, by decide, rfl⟩ trivial ?_
          refine tf_go hx ftX11_pace 1 [false] 25 [some (.ref o), some (.int (nI h1)), some (.int (nI b1)), some (.int p), some (.int d)] [] S rfl ⟨by decide, by decide, rfl⟩ ⟨trivial, e1⟩ ?_
          refine tf_go hx ftX11_pace 1 [] 27 [some (.ref o), some (.int (nI h1)), some (.int (nI b1)), some (.int p), some (.int d)] [.int d] S rfl ⟨by decide, by decide, rfl⟩ trivial ?_
          refine tf_go hx ftX11_pace 3 [false] 33 [some (.ref o), some (.int (nI h1)), some (.int (nI b1)), some (.int p), some (.int d)] [.int (-4), .ref o] S rfl ⟨by decide, by decide, rfl⟩ ⟨trivial, (Int32.not_le.mpr e2)⟩ ?_
          refine tf_cV hx ftX11_pace (nx := 36) (As := [.int (-4)]) (rest := []) (st2 := [.int (-4)]) (m_ref4 ho) rfl lX11_26 (by first | assumption | rfl | decide) rfl ⟨rfl, by decide, by decide, by decide, rfl, rfl⟩ ?_
          exact tf_ret ftX11_pace hR rfl ⟨by decide, by decide⟩ rfl rfl rfl
        · rw [if_neg (by rintro (h | h); exact e1 h; exact e2 h)]
          by_cases e3 : 9 < p
          · rw [if_pos (Or.inl e3)]
            refine ⟨tf_rfS G S o 6, tf_Fn_of (own := RX11) false ⟨by decide, rfl, by decide⟩ (Nat.le_of_ble_eq_true rfl) trivial (fun x hx hR => ?_), tf_ms_ref ho hd hM 6, tf_fm_0⟩
            show tf_K x 0 0 G S 0 [some (.ref o), some (.int (nI h1)), some (.int (nI b1)), some (.int p), some (.int d)] []
            refine tf_go hx ftX11_pace 1 [] 1 [some (.ref o), some (.int (nI h1)), some (.int (nI b1)), some (.int p), some (.int d)] [.int (nI h1)] S rfl ⟨by decide, by decide, rfl⟩ trivial ?_
            refine tf_cS hx ftX11_pace (nx := 4) (As := [.int (nI h1)]) (rest := []) (st2 := [.int (if ¬ (nI h1) < 0 ∧ ¬ 4 ≤ (nI h1) then 1 else 0)]) (m_isHand (nI h1)) rfl lX11_62 rfl ⟨rfl, by decide, by decide, by decide, rfl, rfl⟩ ?_
            rw [if_pos c0]
            refine tf_go hx ftX11_pace 1 [false] 7 [some (.ref o), some (.int (nI h1)), some (.int (nI b1)), some (.int p), some (.int d)] [] S rfl ⟨by decide, by decide, rfl⟩ ⟨trivial, (by decide)⟩ ?_
            refine tf_go hx ftX11_pace 1 [] 8 [some (.ref o), some (.int (nI h1)), some (.int (nI b1)), some (.int p), some (.int d)] [.int (nI b1)] S rfl ⟨by decide, by decide, rfl⟩ trivial ?_
            refine tf_cS hx ftX11_pace (nx := 11) (As := [.int (nI b1)]) (rest := []) (st2 := [.int (if ¬ (nI b1) < 0 ∧ ¬ 4 ≤ (nI b1) then 1 else 0)]) (m_isBoard (nI b1)) rfl lX11_40 rfl ⟨rfl, by decide, by decide, by decide, rfl, rfl⟩ ?_
            rw [if_pos c1]
            refine tf_go hx ftX11_pace 1 [true] 20 [some (.ref o), some (.int (nI h1)), some (.int (nI b1)), some (.int p), some (.int d)] [] S rfl ⟨by decide, by decide, rfl⟩ ⟨trivial, (by decide)⟩ ?_
            refine tf_go hx ftX11_pace 2 [] 22 [some (.ref o), some (.int (nI h1)), some (.int (nI b1)), some (.int p), some (.int d)] [.int 1, .int p] S rfl ⟨by decide, by decide, rfl⟩ trivial ?_
            refine tf_go hx ftX11_pace 1 [false] 25 [some (.ref o), some (.int (nI h1)), some (.int (nI b1)), some (.int p), some (.int d)] [] S rfl ⟨by decide, by decide, rfl⟩ ⟨trivial, e1⟩ ?_
            refine tf_go hx ftX11_pace 1 [] 27 [some (.ref o), some (.int (nI h1)), some (.int (nI b1)), some (.int p), some (.int d)] [.int d] S rfl ⟨by decide, by decide, rfl⟩ trivial ?_
            refine tf_go hx ftX11_pace 1 [true] 37 [some (.ref o), some (.int (nI h1)), some (.int (nI b1)), some (.int p), some (.int d)] [] S rfl ⟨by decide, by decide, rfl⟩ ⟨trivial, (Int32.not_lt.mp e2)⟩ ?_
            refine tf_go hx ftX11_pace 2 [] 40 [some (.ref o), some (.int (nI h1)), some (.int (nI b1)), some (.int p), some (.int d)] [.int 9, .int p] S rfl ⟨by decide, by decide, rfl⟩ trivial ?_
            refine tf_go hx ftX11_pace 3 [true] 54 [some (.ref o), some (.int (nI h1)), some (.int (nI b1)), some (.int p), some (.int d)] [.int (-6), .ref o] S rfl ⟨by decide, by decide, rfl⟩ ⟨trivial, e3⟩ ?_
            refine tf_cV hx ftX11_pace (nx := 57) (As := [.int (-6)]) (rest := []) (st2 := [.int (-6)]) (m_ref6 ho) rfl lX11_26 (by first | assumption | rfl | decide) rfl ⟨rfl, by decide, by decide, by decide, rfl, rfl⟩ ?_
            refine tf_go hx ftX11_pace 1 [] 69 [some (.ref o), some (.int (nI h1)), some (.int (nI b1)), some (.int p), some (.int d)] [.int (-6)] (tf_rfS G S o 6) rfl ⟨by decide, by decide, rfl⟩ trivial ?_
            exact tf_ret ftX11_pace hR rfl ⟨by decide, by decide⟩ rfl rfl rfl
          · by_cases e4 : 9999 < d
            · rw [if_pos (Or.inr e4)]
              refine ⟨tf_rfS G S o 6, tf_Fn_of (own := RX11) false ⟨by decide, rfl, by decide⟩ (Nat.le_of_ble_eq_true rfl) trivial (fun x hx hR => ?_), tf_ms_ref ho hd hM 6, tf_fm_0⟩
              show tf_K x 0 0 G S 0 [some (.ref o), some (.int (nI h1)), some (.int (nI b1)), some (.int p), some (.int d)] []
              refine tf_go hx ftX11_pace 1 [] 1 [some (.ref o), some (.int (nI h1)), some (.int (nI b1)), some (.int p), some (.int d)] [.int (nI h1)] S rfl ⟨by decide, by decide, rfl⟩ trivial ?_
              refine tf_cS hx ftX11_pace (nx := 4) (As := [.int (nI h1)]) (rest := []) (st2 := [.int (if ¬ (nI h1) < 0 ∧ ¬ 4 ≤ (nI h1) then 1 else 0)]) (m_isHand (nI h1)) rfl lX11_62 rfl ⟨rfl, by decide, by decide, by decide, rfl, rfl⟩ ?_
              rw [if_pos c0]
              refine tf_go hx ftX11_pace 1 [false] 7 [some (.ref o), some (.int (nI h1)), some (.int (nI b1)), some (.int p), some (.int d)] [] S rfl ⟨by decide, by decide, rfl⟩ ⟨trivial, (by decide)⟩ ?_
              refine tf_go hx ftX11_pace 1 [] 8 [some (.ref o), some (.int (nI h1)), some (.int (nI b1)), some (.int p), some (.int d)] [.int (nI b1)] S rfl ⟨by decide, by decide, rfl⟩ trivial ?_
              refine tf_cS hx ftX11_pace (nx := 11) (As := [.int (nI b1)]) (rest := []) (st2 := [.int (if ¬ (nI b1) < 0 ∧ ¬ 4 ≤ (nI b1) then 1 else 0)]) (m_isBoard (nI b1)) rfl lX11_40 rfl ⟨rfl, by decide, by decide, by decide, rfl, rfl⟩ ?_
              rw [if_pos c1]
              refine tf_go hx ftX11_pace 1 [true] 20 [some (.ref o), some (.int (nI h1)), some (.int (nI b1)), some (.int p), some (.int d)] [] S rfl ⟨by decide, by decide, rfl⟩ ⟨trivial, (by decide)⟩ ?_
              refine tf_go hx ftX11_pace 2 [] 22 [some (.ref o), some (.int (nI h1)), some (.int (nI b1)), some (.int p), some (.int d)] [.int 1, .int p] S rfl ⟨by decide, by decide, rfl⟩ trivial ?_
              refine tf_go hx ftX11_pace 1 [false] 25 [some (.ref o), some (.int (nI h1)), some (.int (nI b1)), some (.int p), some (.int d)] [] S rfl ⟨by decide, by decide, rfl⟩ ⟨trivial, e1⟩ ?_
              refine tf_go hx ftX11_pace 1 [] 27 [some (.ref o), some (.int (nI h1)), some (.int (nI b1)), some (.int p), some (.int d)] [.int d] S rfl ⟨by decide, by decide, rfl⟩ trivial ?_
              refine tf_go hx ftX11_pace 1 [true] 37 [some (.ref o), some (.int (nI h1)), some (.int (nI b1)), some (.int p), some (.int d)] [] S rfl ⟨by decide, by decide, rfl⟩ ⟨trivial, (Int32.not_lt.mp e2)⟩ ?_
              refine tf_go hx ftX11_pace 2 [] 40 [some (.ref o), some (.int (nI h1)), some (.int (nI b1)), some (.int p), some (.int d)] [.int 9, .int p] S rfl ⟨by decide, by decide, rfl⟩ trivial ?_
              refine tf_go hx ftX11_pace 1 [false] 43 [some (.ref o), some (.int (nI h1)), some (.int (nI b1)), some (.int p), some (.int d)] [] S rfl ⟨by decide, by decide, rfl⟩ ⟨trivial, e3⟩ ?_
              refine tf_go hx ftX11_pace 2 [] 48 [some (.ref o), some (.int (nI h1)), some (.int (nI b1)), some (.int p), some (.int d)] [.int 9999, .int d] S rfl ⟨by decide, by decide, rfl⟩ trivial ?_
              refine tf_go hx ftX11_pace 3 [false] 54 [some (.ref o), some (.int (nI h1)), some (.int (nI b1)), some (.int p), some (.int d)] [.int (-6), .ref o] S rfl ⟨by decide, by decide, rfl⟩ ⟨trivial, (Int32.not_le.mpr e4)⟩ ?_
              refine tf_cV hx ftX11_pace (nx := 57) (As := [.int (-6)]) (rest := []) (st2 := [.int (-6)]) (m_ref6 ho) rfl lX11_26 (by first | assumption | rfl | decide) rfl ⟨rfl, by decide, by decide, by decide, rfl, rfl⟩ ?_
              refine tf_go hx ftX11_pace 1 [] 69 [some (.ref o), some (.int (nI h1)), some (.int (nI b1)), some (.int p), some (.int d)] [.int (-6)] (tf_rfS G S o 6) rfl ⟨by decide, by decide, rfl⟩ trivial ?_
              exact tf_ret ftX11_pace hR rfl ⟨by decide, by decide⟩ rfl rfl rfl
            · rw [if_neg (by rintro (h | h); exact e3 h; exact e4 h)]
              obtain ⟨p1, p1_le, p1_eq⟩ := nI_of2 (M := 9) (n := 9) (x := p) (by decide) (fun h => e1 (Int32.lt_trans h (by decide))) (Int32.not_lt.mp e3)
              obtain ⟨d1, d1_le, d1_eq⟩ := nI_of2 (M := 9999) (n := 9999) (x := d) (by decide) e2 (Int32.not_lt.mp e4)
              subst p1_eq
              subst d1_eq
              rw [tf_cl_nI (show p1 < 2147483648 by omega), tf_cl_nI (show d1 < 2147483648 by omega)]
              refine ⟨S, tf_Fn_of (own := RX11) false ⟨by decide, rfl, by decide⟩ (Nat.le_of_ble_eq_true rfl) trivial (fun x hx hR => ?_), hM, tf_fm_id⟩
              show tf_K x 0 0 G S 0 [some (.ref o), some (.int (nI h1)), some (.int (nI b1)), some (.int (nI p1)), some (.int (nI d1))] []
              refine tf_go hx ftX11_pace 1 [] 1 [some (.ref o), some (.int (nI h1)), some (.int (nI b1)), some (.int (nI p1)), some (.int (nI d1))] [.int (nI h1)] S rfl ⟨by decide, by decide, rfl⟩ trivial ?_
              refine tf_cS hx ftX11_pace (nx := 4) (As := [.int (nI h1)]) (rest := []) (st2 := [.int (if ¬ (nI h1) < 0 ∧ ¬ 4 ≤ (nI h1) then 1 else 0)]) (m_isHand (nI h1)) rfl lX11_62 rfl ⟨rfl, by decide, by decide, by decide, rfl, rfl⟩ ?_
              rw [if_pos c0]
              refine tf_go hx ftX11_pace 1 [false] 7 [some (.ref o), some (.int (nI h1)), some (.int (nI b1)), some (.int (nI p1)), some (.int (nI d1))] [] S rfl ⟨by decide, by decide, rfl⟩ ⟨trivial, (by decide)⟩ ?_
              refine tf_go hx ftX11_pace 1 [] 8 [some (.ref o), some (.int (nI h1)), some (.int (nI b1)), some (.int (nI p1)), some (.int (nI d1))] [.int (nI b1)] S rfl ⟨by decide, by decide, rfl⟩ trivial ?_
              refine tf_cS hx ftX11_pace (nx := 11) (As := [.int (nI b1)]) (rest := []) (st2 := [.int (if ¬ (nI b1) < 0 ∧ ¬ 4 ≤ (nI b1) then 1 else 0)]) (m_isBoard (nI b1)) rfl lX11_40 rfl ⟨rfl, by decide, by decide, by decide, rfl, rfl⟩ ?_
              rw [if_pos c1]
              refine tf_go hx ftX11_pace 1 [true] 20 [some (.ref o), some (.int (nI h1)), some (.int (nI b1)), some (.int (nI p1)), some (.int (nI d1))] [] S rfl ⟨by decide, by decide, rfl⟩ ⟨trivial, (by decide)⟩ ?_
              refine tf_go hx ftX11_pace 2 [] 22 [some (.ref o), some (.int (nI h1)), some (.int (nI b1)), some (.int (nI p1)), some (.int (nI d1))] [.int 1, .int (nI p1)] S rfl ⟨by decide, by decide, rfl⟩ trivial ?_
              refine tf_go hx ftX11_pace 1 [false] 25 [some (.ref o), some (.int (nI h1)), some (.int (nI b1)), some (.int (nI p1)), some (.int (nI d1))] [] S rfl ⟨by decide, by decide, rfl⟩ ⟨trivial, e1⟩ ?_
              refine tf_go hx ftX11_pace 1 [] 27 [some (.ref o), some (.int (nI h1)), some (.int (nI b1)), some (.int (nI p1)), some (.int (nI d1))] [.int (nI d1)] S rfl ⟨by decide, by decide, rfl⟩ trivial ?_
              refine tf_go hx ftX11_pace 1 [true] 37 [some (.ref o), some (.int (nI h1)), some (.int (nI b1)), some (.int (nI p1)), some (.int (nI d1))] [] S rfl ⟨by decide, by decide, rfl⟩ ⟨trivial, (Int32.not_lt.mp e2)⟩ ?_
              refine tf_go hx ftX11_pace 2 [] 40 [some (.ref o), some (.int (nI h1)), some (.int (nI b1)), some (.int (nI p1)), some (.int (nI d1))] [.int 9, .int (nI p1)] S rfl ⟨by decide, by decide, rfl⟩ trivial ?_
              refine tf_go hx ftX11_pace 1 [false] 43 [some (.ref o), some (.int (nI h1)), some (.int (nI b1)), some (.int (nI p1)), some (.int (nI d1))] [] S rfl ⟨by decide, by decide, rfl⟩ ⟨trivial, e3⟩ ?_
              refine tf_go hx ftX11_pace 2 [] 48 [some (.ref o), some (.int (nI h1)), some (.int (nI b1)), some (.int (nI p1)), some (.int (nI d1))] [.int 9999, .int (nI d1)] S rfl ⟨by decide, by decide, rfl⟩ trivial ?_
              refine tf_go hx ftX11_pace 6 [true] 66 [some (.ref o), some (.int (nI h1)), some (.int (nI b1)), some (.int (nI p1)), some (.int (nI d1))] [.int (nI d1), .int (nI p1), .int (nI b1), .int (nI h1), .ref o] S rfl ⟨by decide, by decide, rfl⟩ ⟨trivial, (Int32.not_lt.mp e4)⟩ ?_
              refine tf_cV hx ftX11_pace (nx := 69) (As := [.int (nI h1), .int (nI b1), .int (nI p1), .int (nI d1)]) (rest := []) (st2 := [.int (nI (tf_pc A.1 h1 b1 p1 d1))]) (m_paceOf h1 b1 p1 d1 ho hf hg h1_lt b1_lt p1_le) rfl lX11_132 (by first | assumption | rfl | decide) rfl ⟨rfl, by decide, by decide, by decide, rfl, rfl⟩ ?_
              exact tf_ret ftX11_pace hR rfl ⟨by decide, by decide⟩ rfl rfl rfl
    · rw [if_neg (fun h => c1 h.2)]
      refine ⟨tf_rfS G S o 1, tf_Fn_of (own := RX11) false ⟨by decide, rfl, by decide⟩ (Nat.le_of_ble_eq_true rfl) trivial (fun x hx hR => ?_), tf_ms_ref ho hd hM 1, tf_fm_0⟩
      show tf_K x 0 0 G S 0 [some (.ref o), some (.int h), some (.int b), some (.int p), some (.int d)] []
      refine tf_go hx ftX11_pace 1 [] 1 [some (.ref o), some (.int h), some (.int b), some (.int p), some (.int d)] [.int h] S rfl ⟨by decide, by decide, rfl⟩ trivial ?_
      refine tf_cS hx ftX11_pace (nx := 4) (As := [.int h]) (rest := []) (st2 := [.int (if ¬ h < 0 ∧ ¬ 4 ≤ h then 1 else 0)]) (m_isHand h) rfl lX11_62 rfl ⟨rfl, by decide, by decide, by decide, rfl, rfl⟩ ?_
      rw [if_pos c0]
      refine tf_go hx ftX11_pace 1 [false] 7 [some (.ref o), some (.int h), some (.int b), some (.int p), some (.int d)] [] S rfl ⟨by decide, by decide, rfl⟩ ⟨trivial, (by decide)⟩ ?_
      refine tf_go hx ftX11_pace 1 [] 8 [some (.ref o), some (.int h), some (.int b), some (.int p), some (.int d)] [.int b] S rfl ⟨by decide, by decide, rfl⟩ trivial ?_
      refine tf_cS hx ftX11_pace (nx := 11) (As := [.int b]) (rest := []) (st2 := [.int (if ¬ b < 0 ∧ ¬ 4 ≤ b then 1 else 0)]) (m_isBoard b) rfl lX11_40 rfl ⟨rfl, by decide, by decide, by decide, rfl, rfl⟩ ?_
      rw [if_neg c1]
      refine tf_go hx ftX11_pace 1 [false] 14 [some (.ref o), some (.int h), some (.int b), some (.int p), some (.int d)] [] S rfl ⟨by decide, by decide, rfl⟩ ⟨trivial, (by decide)⟩ ?_
      refine tf_go hx ftX11_pace 2 [] 16 [some (.ref o), some (.int h), some (.int b), some (.int p), some (.int d)] [.int (-1), .ref o] S rfl ⟨by decide, by decide, rfl⟩ trivial ?_
      refine tf_cV hx ftX11_pace (nx := 19) (As := [.int (-1)]) (rest := []) (st2 := [.int (-1)]) (m_ref1 ho) rfl lX11_26 (by first | assumption | rfl | decide) rfl ⟨rfl, by decide, by decide, by decide, rfl, rfl⟩ ?_
      exact tf_ret ftX11_pace hR rfl ⟨by decide, by decide⟩ rfl rfl rfl
  · rw [if_neg (fun h => c0 h.1)]
    refine ⟨tf_rfS G S o 1, tf_Fn_of (own := RX11) false ⟨by decide, rfl, by decide⟩ (Nat.le_of_ble_eq_true rfl) trivial (fun x hx hR => ?_), tf_ms_ref ho hd hM 1, tf_fm_0⟩
    show tf_K x 0 0 G S 0 [some (.ref o), some (.int h), some (.int b), some (.int p), some (.int d)] []
    refine tf_go hx ftX11_pace 1 [] 1 [some (.ref o), some (.int h), some (.int b), some (.int p), some (.int d)] [.int h] S rfl ⟨by decide, by decide, rfl⟩ trivial ?_
    refine tf_cS hx ftX11_pace (nx := 4) (As := [.int h]) (rest := []) (st2 := [.int (if ¬ h < 0 ∧ ¬ 4 ≤ h then 1 else 0)]) (m_isHand h) rfl lX11_62 rfl ⟨rfl, by decide, by decide, by decide, rfl, rfl⟩ ?_
    rw [if_neg c0]
    refine tf_go hx ftX11_pace 1 [true] 14 [some (.ref o), some (.int h), some (.int b), some (.int p), some (.int d)] [] S rfl ⟨by decide, by decide, rfl⟩ ⟨trivial, (by decide)⟩ ?_
    refine tf_go hx ftX11_pace 2 [] 16 [some (.ref o), some (.int h), some (.int b), some (.int p), some (.int d)] [.int (-1), .ref o] S rfl ⟨by decide, by decide, rfl⟩ trivial ?_
    refine tf_cV hx ftX11_pace (nx := 19) (As := [.int (-1)]) (rest := []) (st2 := [.int (-1)]) (m_ref1 ho) rfl lX11_26 (by first | assumption | rfl | decide) rfl ⟨rfl, by decide, by decide, by decide, rfl, rfl⟩ ?_
    exact tf_ret ftX11_pace hR rfl ⟨by decide, by decide⟩ rfl rfl rfl

set_option maxHeartbeats 2000000 in
theorem p_sign {G : tf_G} {S : tf_Sg} {o : Nat} {A : tf_A} (t : Nat) (i : Int32) (ho : tf_mo G o) (hd : tf_md G o) (hA : tf_okA A) (hM : tf_ms G S o A) (ht : t < 2) : tf_pm mX11_sign 2 G S o [.ref o, .int (nI t), .int i] (s_sign A t i) := by
  obtain ⟨h1, ⟨r0, t0, n0⟩, ⟨r1, t1, n1⟩, ⟨r2, t2, n2⟩, ⟨r4, t4, n4⟩⟩ := id ho
  obtain ⟨hg, hb, hA3, hA4, hA5, hA6⟩ := id hA
  have hs := hM.1
  have hf : tf_sf G S o A.1 := ⟨hM.1, hb⟩
  obtain ⟨⟨g1, g2, g3, g4⟩, g5, g6, g7, g8, g9, g10, g11⟩ := id hg
  unfold s_sign
  by_cases c0 : t = 0
  · rw [show (if t ≠ 0 then 364 else 365) = 365 from if_neg (fun h => h c0), show (if t ≠ 0 then 144 else 184) = 184 from if_neg (fun h => h c0)]
    by_cases c1 : ¬ i < 0 ∧ ¬ nI (A.1 365) ≤ i
    · rw [if_pos c1]
      obtain ⟨i1, i1_lt, i1_eq, i1_cl⟩ := tf_ok_nI (N := A.1 365) (show tf_ok i _ from c1) rfl (by omega)
      try rw [i1_cl]
      subst i1_eq
      refine ⟨S, tf_Fn_of (own := RX11) false ⟨by decide, rfl, by decide⟩ (Nat.le_of_ble_eq_true rfl) trivial (fun x hx hR => ?_), hM, tf_fm_id⟩
      show tf_K x 0 0 G S 0 [some (.ref o), some (.int (nI t)), some (.int (nI i1))] []
      refine tf_go hx ftX11_sign 4 [] 6 [some (.ref o), some (.int (nI t)), some (.int (nI i1))] [.int (nI t), .ref (tf_rf G o 1), .int (nI i1)] S rfl ⟨by decide, by decide, rfl⟩ ⟨trivial, ⟨by first | assumption | rfl | decide | omega, by first | assumption | rfl | decide | omega⟩⟩ ?_
      refine tf_go hx ftX11_sign 1 [true] 15 [some (.ref o), some (.int (nI t)), some (.int (nI i1))] [.ref (tf_rf G o 1), .int (nI i1)] S rfl ⟨by decide, by decide, rfl⟩ ⟨trivial, (tf_eqT (a := t) (b := 0) rfl (rfl : (0 : Int32) = nI 0) (by omega))⟩ ?_
      refine tf_go hx ftX11_sign 2 [] 19 [some (.ref o), some (.int (nI t)), some (.int (nI i1))] [.int (S (tf_rf G o 1) (Int32.toNatClampNeg 365)), .int (nI i1)] S rfl ⟨by decide, by decide, rfl⟩ ⟨trivial, ⟨Or.inl (by first | assumption | rfl | decide | omega), by first | assumption | exact tf_in (n := 365) (rfl : (365 : Int32) = nI 365) (by first | assumption | rfl) (by omega) (by decide)⟩⟩ ?_
      rw [show (S (tf_rf G o 1) (Int32.toNatClampNeg 365)) = nI (A.1 365) from (tf_rd hs (rfl : (365 : Int32) = nI 365) (by omega))]
      refine tf_cS hx ftX11_sign (nx := 22) (As := [.int (nI i1), .int (nI (A.1 365))]) (rest := []) (st2 := [.int (if ¬ (nI i1) < 0 ∧ ¬ nI (A.1 365) ≤ (nI i1) then 1 else 0)]) (m_isIn (nI i1) (nI (A.1 365))) rfl lX11_22 rfl ⟨rfl, by decide, by decide, by decide, rfl, rfl⟩ ?_
      rw [if_pos c1]
      refine tf_go hx ftX11_sign 1 [false] 25 [some (.ref o), some (.int (nI t)), some (.int (nI i1))] [] S rfl ⟨by decide, by decide, rfl⟩ ⟨trivial, (by decide)⟩ ?_
      refine tf_go hx ftX11_sign 3 [] 30 [some (.ref o), some (.int (nI t)), some (.int (nI i1))] [.int (nI t), .ref (tf_rf G o 1)] S rfl ⟨by decide, by decide, rfl⟩ ⟨trivial, ⟨by first | assumption | rfl | decide | omega, by first | assumption | rfl | decide | omega⟩⟩ ?_
      refine tf_go hx ftX11_sign 1 [true] 39 [some (.ref o), some (.int (nI t)), some (.int (nI i1))] [.ref (tf_rf G o 1)] S rfl ⟨by decide, by decide, rfl⟩ ⟨trivial, (tf_eqT (a := t) (b := 0) rfl (rfl : (0 : Int32) = nI 0) (by omega))⟩ ?_
      refine tf_go hx ftX11_sign 5 [] 50 [some (.ref o), some (.int (nI t)), some (.int (nI i1))] [.int (S (tf_rf G o 1) (Int32.toNatClampNeg (184 + (nI i1))))] S rfl ⟨by decide, by decide, rfl⟩ ⟨trivial, ⟨Or.inl (by first | assumption | rfl | decide | omega), by first | assumption | exact tf_in (n := (184 + i1)) (tf_add (a := 184) (b := i1) (rfl : (184 : Int32) = nI 184) rfl) (by first | assumption | rfl) (by omega) (by decide)⟩⟩ ?_
      rw [show (S (tf_rf G o 1) (Int32.toNatClampNeg (184 + (nI i1)))) = nI (A.1 (184 + i1)) from (tf_rd hs (tf_add (a := 184) (b := i1) (rfl : (184 : Int32) = nI 184) rfl) (by omega))]
      exact tf_ret ftX11_sign hR rfl ⟨by decide, by decide⟩ rfl rfl rfl
    · rw [if_neg c1]
      refine ⟨S, tf_Fn_of (own := RX11) false ⟨by decide, rfl, by decide⟩ (Nat.le_of_ble_eq_true rfl) trivial (fun x hx hR => ?_), hM, tf_fm_id⟩
      show tf_K x 0 0 G S 0 [some (.ref o), some (.int (nI t)), some (.int i)] []
      refine tf_go hx ftX11_sign 4 [] 6 [some (.ref o), some (.int (nI t)), some (.int i)] [.int (nI t), .ref (tf_rf G o 1), .int i] S rfl ⟨by decide, by decide, rfl⟩ ⟨trivial, ⟨by first | assumption | rfl | decide | omega, by first | assumption | rfl | decide | omega⟩⟩ ?_
      refine tf_go hx ftX11_sign 1 [true] 15 [some (.ref o), some (.int (nI t)), some (.int i)] [.ref (tf_rf G o 1), .int i] S rfl ⟨by decide, by decide, rfl⟩ ⟨trivial, (tf_eqT (a := t) (b := 0) rfl (rfl : (0 : Int32) = nI 0) (by omega))⟩ ?_
      refine tf_go hx ftX11_sign 2 [] 19 [some (.ref o), some (.int (nI t)), some (.int i)] [.int (S (tf_rf G o 1) (Int32.toNatClampNeg 365)), .int i] S rfl ⟨by decide, by decide, rfl⟩ ⟨trivial, ⟨Or.inl (by first | assumption | rfl | decide | omega), by first | assumption | exact tf_in (n := 365) (rfl : (365 : Int32) = nI 365) (by first | assumption | rfl) (by omega) (by decide)⟩⟩ ?_
      rw [show (S (tf_rf G o 1) (Int32.toNatClampNeg 365)) = nI (A.1 365) from (tf_rd hs (rfl : (365 : Int32) = nI 365) (by omega))]
      refine tf_cS hx ftX11_sign (nx := 22) (As := [.int i, .int (nI (A.1 365))]) (rest := []) (st2 := [.int (if ¬ i < 0 ∧ ¬ nI (A.1 365) ≤ i then 1 else 0)]) (m_isIn i (nI (A.1 365))) rfl lX11_22 rfl ⟨rfl, by decide, by decide, by decide, rfl, rfl⟩ ?_
      rw [if_neg c1]
      refine tf_go hx ftX11_sign 2 [true] 50 [some (.ref o), some (.int (nI t)), some (.int i)] [.int (-9)] S rfl ⟨by decide, by decide, rfl⟩ ⟨trivial, (by decide)⟩ ?_
      exact tf_ret ftX11_sign hR rfl ⟨by decide, by decide⟩ rfl rfl rfl
  · rw [show (if t ≠ 0 then 364 else 365) = 364 from if_pos c0, show (if t ≠ 0 then 144 else 184) = 144 from if_pos c0]
    by_cases c1 : ¬ i < 0 ∧ ¬ nI (A.1 364) ≤ i
    · rw [if_pos c1]
      obtain ⟨i1, i1_lt, i1_eq, i1_cl⟩ := tf_ok_nI (N := A.1 364) (show tf_ok i _ from c1) rfl (by omega)
      try rw [i1_cl]
      subst i1_eq
      refine ⟨S, tf_Fn_of (own := RX11) false ⟨by decide, rfl, by decide⟩ (Nat.le_of_ble_eq_true rfl) trivial (fun x hx hR => ?_), hM, tf_fm_id⟩
      show tf_K x 0 0 G S 0 [some (.ref o), some (.int (nI t)), some (.int (nI i1))] []
      refine tf_go hx ftX11_sign 4 [] 6 [some (.ref o), some (.int (nI t)), some (.int (nI i1))] [.int (nI t), .ref (tf_rf G o 1), .int (nI i1)] S rfl ⟨by decide, by decide, rfl⟩ ⟨trivial, ⟨by first | assumption | rfl | decide | omega, by first | assumption | rfl | decide | omega⟩⟩ ?_
      refine tf_go hx ftX11_sign 1 [false] 9 [some (.ref o), some (.int (nI t)), some (.int (nI i1))] [.ref (tf_rf G o 1), .int (nI i1)] S rfl ⟨by decide, by decide, rfl⟩ ⟨trivial, (tf_eqF (a := t) (b := 0) rfl (rfl : (0 : Int32) = nI 0) (by omega) (by omega) (by omega))⟩ ?_
      refine tf_go hx ftX11_sign 3 [] 19 [some (.ref o), some (.int (nI t)), some (.int (nI i1))] [.int (S (tf_rf G o 1) (Int32.toNatClampNeg 364)), .int (nI i1)] S rfl ⟨by decide, by decide, rfl⟩ ⟨trivial, ⟨Or.inl (by first | assumption | rfl | decide | omega), by first | assumption | exact tf_in (n := 364) (rfl : (364 : Int32) = nI 364) (by first | assumption | rfl) (by omega) (by decide)⟩⟩ ?_
      rw [show (S (tf_rf G o 1) (Int32.toNatClampNeg 364)) = nI (A.1 364) from (tf_rd hs (rfl : (364 : Int32) = nI 364) (by omega))]
      refine tf_cS hx ftX11_sign (nx := 22) (As := [.int (nI i1), .int (nI (A.1 364))]) (rest := []) (st2 := [.int (if ¬ (nI i1) < 0 ∧ ¬ nI (A.1 364) ≤ (nI i1) then 1 else 0)]) (m_isIn (nI i1) (nI (A.1 364))) rfl lX11_22 rfl ⟨rfl, by decide, by decide, by decide, rfl, rfl⟩ ?_
      rw [if_pos c1]
      refine tf_go hx ftX11_sign 1 [false] 25 [some (.ref o), some (.int (nI t)), some (.int (nI i1))] [] S rfl ⟨by decide, by decide, rfl⟩ ⟨trivial, (by decide)⟩ ?_
      refine tf_go hx ftX11_sign 3 [] 30 [some (.ref o), some (.int (nI t)), some (.int (nI i1))] [.int (nI t), .ref (tf_rf G o 1)] S rfl ⟨by decide, by decide, rfl⟩ ⟨trivial, ⟨by first | assumption | rfl | decide | omega, by first | assumption | rfl | decide | omega⟩⟩ ?_
      refine tf_go hx ftX11_sign 1 [false] 33 [some (.ref o), some (.int (nI t)), some (.int (nI i1))] [.ref (tf_rf G o 1)] S rfl ⟨by decide, by decide, rfl⟩ ⟨trivial, (tf_eqF (a := t) (b := 0) rfl (rfl : (0 : Int32) = nI 0) (by omega) (by omega) (by omega))⟩ ?_
      refine tf_go hx ftX11_sign 6 [] 50 [some (.ref o), some (.int (nI t)), some (.int (nI i1))] [.int (S (tf_rf G o 1) (Int32.toNatClampNeg (144 + (nI i1))))] S rfl ⟨by decide, by decide, rfl⟩ ⟨trivial, ⟨Or.inl (by first | assumption | rfl | decide | omega), by first | assumption | exact tf_in (n := (144 + i1)) (tf_add (a := 144) (b := i1) (rfl : (144 : Int32) = nI 144) rfl) (by first | assumption | rfl) (by omega) (by decide)⟩⟩ ?_
      rw [show (S (tf_rf G o 1) (Int32.toNatClampNeg (144 + (nI i1)))) = nI (A.1 (144 + i1)) from (tf_rd hs (tf_add (a := 144) (b := i1) (rfl : (144 : Int32) = nI 144) rfl) (by omega))]
      exact tf_ret ftX11_sign hR rfl ⟨by decide, by decide⟩ rfl rfl rfl
    · rw [if_neg c1]
      refine ⟨S, tf_Fn_of (own := RX11) false ⟨by decide, rfl, by decide⟩ (Nat.le_of_ble_eq_true rfl) trivial (fun x hx hR => ?_), hM, tf_fm_id⟩
      show tf_K x 0 0 G S 0 [some (.ref o), some (.int (nI t)), some (.int i)] []
      refine tf_go hx ftX11_sign 4 [] 6 [some (.ref o), some (.int (nI t)), some (.int i)] [.int (nI t), .ref (tf_rf G o 1), .int i] S rfl ⟨by decide, by decide, rfl⟩ ⟨trivial, ⟨by first | assumption | rfl | decide | omega, by first | assumption | rfl | decide | omega⟩⟩ ?_
      refine tf_go hx ftX11_sign 1 [false] 9 [some (.ref o), some (.int (nI t)), some (.int i)] [.ref (tf_rf G o 1), .int i] S rfl ⟨by decide, by decide, rfl⟩ ⟨trivial, (tf_eqF (a := t) (b := 0) rfl (rfl : (0 : Int32) = nI 0) (by omega) (by omega) (by omega))⟩ ?_
      refine tf_go hx ftX11_sign 3 [] 19 [some (.ref o), some (.int (nI t)), some (.int i)] [.int (S (tf_rf G o 1) (Int32.toNatClampNeg 364)), .int i] S rfl ⟨by decide, by decide, rfl⟩ ⟨trivial, ⟨Or.inl (by first | assumption | rfl | decide | omega), by first | assumption | exact tf_in (n := 364) (rfl : (364 : Int32) = nI 364) (by first | assumption | rfl) (by omega) (by decide)⟩⟩ ?_
      rw [show (S (tf_rf G o 1) (Int32.toNatClampNeg 364)) = nI (A.1 364) from (tf_rd hs (rfl : (364 : Int32) = nI 364) (by omega))]
      refine tf_cS hx ftX11_sign (nx := 22) (As := [.int i, .int (nI (A.1 364))]) (rest := []) (st2 := [.int (if ¬ i < 0 ∧ ¬ nI (A.1 364) ≤ i then 1 else 0)]) (m_isIn i (nI (A.1 364))) rfl lX11_22 rfl ⟨rfl, by decide, by decide, by decide, rfl, rfl⟩ ?_
      rw [if_neg c1]
      refine tf_go hx ftX11_sign 2 [true] 50 [some (.ref o), some (.int (nI t)), some (.int i)] [.int (-9)] S rfl ⟨by decide, by decide, rfl⟩ ⟨trivial, (by decide)⟩ ?_
      exact tf_ret ftX11_sign hR rfl ⟨by decide, by decide⟩ rfl rfl rfl

set_option maxHeartbeats 2000000 in
theorem p_practise {G : tf_G} {S : tf_Sg} {o : Nat} {A : tf_A} (w n : Int32) (ho : tf_mo G o) (hd : tf_md G o) (hA : tf_okA A) (hM : tf_ms G S o A)  : tf_pm mX11_practise 2 G S o [.ref o, .int w, .int n] (s_practise A w n) := by
  obtain ⟨h1, ⟨r0, t0, n0⟩, ⟨r1, t1, n1⟩, ⟨r2, t2, n2⟩, ⟨r4, t4, n4⟩⟩ := id ho
  obtain ⟨hg, hb, hA3, hA4, hA5, hA6⟩ := id hA
  have hs := hM.1
  have hf : tf_sf G S o A.1 := ⟨hM.1, hb⟩
  obtain ⟨⟨g1, g2, g3, g4⟩, g5, g6, g7, g8, g9, g10, g11⟩ := id hg
  unfold s_practise
  by_cases c1 : ¬ w < 0 ∧ ¬ nI (A.1 366) ≤ w
  · rw [if_pos c1]
    by_cases e1 : ¬ 1 ≤ n
    · rw [if_pos e1]
      refine ⟨tf_rfS G S o 4, tf_Fn_of (own := RX11) false ⟨by decide, rfl, by decide⟩ (Nat.le_of_ble_eq_true rfl) trivial (fun x hx hR => ?_), tf_ms_ref ho hd hM 4, tf_fm_0⟩
      show tf_K x 0 0 G S 0 [some (.ref o), some (.int w), some (.int n), none, none] []
      refine tf_go hx ftX11_practise 5 [] 9 [some (.ref o), some (.int w), some (.int n), none, none] [.int (S (tf_rf G o 1) (Int32.toNatClampNeg 366)), .int w] S rfl ⟨by decide, by decide, rfl⟩ ⟨⟨trivial, ⟨by first | assumption | rfl | decide | omega, by first | assumption | rfl | decide | omega⟩⟩, ⟨Or.inl (by first | assumption | rfl | decide | omega), by first | assumption | exact tf_in (n := 366) (rfl : (366 : Int32) = nI 366) (by first | assumption | rfl) (by omega) (by decide)⟩⟩ ?_
      rw [show (S (tf_rf G o 1) (Int32.toNatClampNeg 366)) = nI (A.1 366) from (tf_rd hs (rfl : (366 : Int32) = nI 366) (by omega))]
      refine tf_cS hx ftX11_practise (nx := 12) (As := [.int w, .int (nI (A.1 366))]) (rest := []) (st2 := [.int (if ¬ w < 0 ∧ ¬ nI (A.1 366) ≤ w then 1 else 0)]) (m_isIn w (nI (A.1 366))) rfl lX11_22 rfl ⟨rfl, by decide, by decide, by decide, rfl, rfl⟩ ?_
      rw [if_pos c1]
      refine tf_go hx ftX11_practise 1 [false] 15 [some (.ref o), some (.int w), some (.int n), none, none] [] S rfl ⟨by decide, by decide, rfl⟩ ⟨trivial, (by decide)⟩ ?_
      refine tf_go hx ftX11_practise 3 [] 20 [some (.ref o), some (.int w), some (.int n), none, none] [.int 999, .int 1, .int n] S rfl ⟨by decide, by decide, rfl⟩ trivial ?_
      refine tf_cS hx ftX11_practise (nx := 23) (As := [.int n, .int 1, .int 999]) (rest := []) (st2 := [.int (if ¬ 1 ≤ n then (-4) else if ¬ n ≤ 999 then (-6) else 0)]) (m_within n 1 999) rfl lX11_65 rfl ⟨rfl, by decide, by decide, by decide, rfl, rfl⟩ ?_
      rw [if_pos e1]
      refine tf_go hx ftX11_practise 3 [] 29 [some (.ref o), some (.int w), some (.int n), some (.int (-4)), none] [.int (-4)] S rfl ⟨by decide, by decide, rfl⟩ trivial ?_
      refine tf_go hx ftX11_practise 3 [false] 34 [some (.ref o), some (.int w), some (.int n), some (.int (-4)), none] [.int (-4), .ref o] S rfl ⟨by decide, by decide, rfl⟩ ⟨trivial, (by decide)⟩ ?_
      refine tf_cV hx ftX11_practise (nx := 37) (As := [.int (-4)]) (rest := []) (st2 := [.int (-4)]) (m_ref4 ho) rfl lX11_26 (by first | assumption | rfl | decide) rfl ⟨rfl, by decide, by decide, by decide, rfl, rfl⟩ ?_
      exact tf_ret ftX11_practise hR rfl ⟨by decide, by decide⟩ rfl rfl rfl
    · by_cases e2 : ¬ n ≤ 999
      · rw [if_neg e1, if_pos e2]
        refine ⟨tf_rfS G S o 6, tf_Fn_of (own := RX11) false ⟨by decide, rfl, by decide⟩ (Nat.le_of_ble_eq_true rfl) trivial (fun x hx hR => ?_), tf_ms_ref ho hd hM 6, tf_fm_0⟩
        show tf_K x 0 0 G S 0 [some (.ref o), some (.int w), some (.int n), none, none] []
        refine tf_go hx ftX11_practise 5 [] 9 [some (.ref o), some (.int w), some (.int n), none, none] [.int (S (tf_rf G o 1) (Int32.toNatClampNeg 366)), .int w] S rfl ⟨by decide, by decide, rfl⟩ ⟨⟨trivial, ⟨by first | assumption | rfl | decide | omega, by first | assumption | rfl | decide | omega⟩⟩, ⟨Or.inl (by first | assumption | rfl | decide | omega), by first | assumption | exact tf_in (n := 366) (rfl : (366 : Int32) = nI 366) (by first | assumption | rfl) (by omega) (by decide)⟩⟩ ?_
        rw [show (S (tf_rf G o 1) (Int32.toNatClampNeg 366)) = nI (A.1 366) from (tf_rd hs (rfl : (366 : Int32) = nI 366) (by omega))]
        refine tf_cS hx ftX11_practise (nx := 12) (As := [.int w, .int (nI (A.1 366))]) (rest := []) (st2 := [.int (if ¬ w < 0 ∧ ¬ nI (A.1 366) ≤ w then 1 else 0)]) (m_isIn w (nI (A.1 366))) rfl lX11_22 rfl ⟨rfl, by decide, by decide, by decide, rfl, rfl⟩ ?_
        rw [if_pos c1]
        refine tf_go hx ftX11_practise 1 [false] 15 [some (.ref o), some (.int w), some (.int n), none, none] [] S rfl ⟨by decide, by decide, rfl⟩ ⟨trivial, (by decide)⟩ ?_
        refine tf_go hx ftX11_practise 3 [] 20 [some (.ref o), some (.int w), some (.int n), none, none] [.int 999, .int 1, .int n] S rfl ⟨by decide, by decide, rfl⟩ trivial ?_
        refine tf_cS hx ftX11_practise (nx := 23) (As := [.int n, .int 1, .int 999]) (rest := []) (st2 := [.int (if ¬ 1 ≤ n then (-4) else if ¬ n ≤ 999 then (-6) else 0)]) (m_within n 1 999) rfl lX11_65 rfl ⟨rfl, by decide, by decide, by decide, rfl, rfl⟩ ?_
        rw [if_neg e1, if_pos e2]
        refine tf_go hx ftX11_practise 3 [] 29 [some (.ref o), some (.int w), some (.int n), some (.int (-6)), none] [.int (-6)] S rfl ⟨by decide, by decide, rfl⟩ trivial ?_
        refine tf_go hx ftX11_practise 3 [false] 34 [some (.ref o), some (.int w), some (.int n), some (.int (-6)), none] [.int (-6), .ref o] S rfl ⟨by decide, by decide, rfl⟩ ⟨trivial, (by decide)⟩ ?_
        refine tf_cV hx ftX11_practise (nx := 37) (As := [.int (-6)]) (rest := []) (st2 := [.int (-6)]) (m_ref6 ho) rfl lX11_26 (by first | assumption | rfl | decide) rfl ⟨rfl, by decide, by decide, by decide, rfl, rfl⟩ ?_
        exact tf_ret ftX11_practise hR rfl ⟨by decide, by decide⟩ rfl rfl rfl
      · rw [if_neg e1, if_neg e2]
        obtain ⟨w1, w1_lt, w1_eq, w1_cl⟩ := tf_ok_nI (N := A.1 366) (show tf_ok w _ from c1) rfl (by omega)
        try rw [w1_cl]
        obtain ⟨n1, n1_le, n1_eq⟩ := nI_of2 (M := 999) (n := 999) (x := n) (by decide) (fun h => e1 (fun h2 => absurd (Int32.lt_of_lt_of_le h (by decide)) (Int32.not_lt.mpr h2))) (Classical.not_not.mp e2)
        have n1_cl : n.toNatClampNeg = n1 := by rw [n1_eq]; exact tf_cl_nI (by omega)
        rw [n1_cl]
        subst w1_eq
        subst n1_eq
        by_cases e3 : A.1 (224 + 10 * w1 + 1) + n1 ≤ 9999
        · rw [if_pos e3]
          refine ⟨(tf_rw S (tf_rf G o 1) (tf_u A.1 (224 + 10 * w1 + 1) (A.1 (224 + 10 * w1 + 1) + n1))), tf_Fn_of (own := RX11) false ⟨by decide, rfl, by decide⟩ (Nat.le_of_ble_eq_true rfl) trivial (fun x hx hR => ?_), tf_ms_rw ho hd hM _, tf_fm_1⟩
          show tf_K x 0 0 G S 0 [some (.ref o), some (.int (nI w1)), some (.int (nI n1)), none, none] []
          refine tf_go hx ftX11_practise 5 [] 9 [some (.ref o), some (.int (nI w1)), some (.int (nI n1)), none, none] [.int (S (tf_rf G o 1) (Int32.toNatClampNeg 366)), .int (nI w1)] S rfl ⟨by decide, by decide, rfl⟩ ⟨⟨trivial, ⟨by first | assumption | rfl | decide | omega, by first | assumption | rfl | decide | omega⟩⟩, ⟨Or.inl (by first | assumption | rfl | decide | omega), by first | assumption | exact tf_in (n := 366) (rfl : (366 : Int32) = nI 366) (by first | assumption | rfl) (by omega) (by decide)⟩⟩ ?_
          rw [show (S (tf_rf G o 1) (Int32.toNatClampNeg 366)) = nI (A.1 366) from (tf_rd hs (rfl : (366 : Int32) = nI 366) (by omega))]
          refine tf_cS hx ftX11_practise (nx := 12) (As := [.int (nI w1), .int (nI (A.1 366))]) (rest := []) (st2 := [.int (if ¬ (nI w1) < 0 ∧ ¬ nI (A.1 366) ≤ (nI w1) then 1 else 0)]) (m_isIn (nI w1) (nI (A.1 366))) rfl lX11_22 rfl ⟨rfl, by decide, by decide, by decide, rfl, rfl⟩ ?_
          rw [if_pos c1]
          refine tf_go hx ftX11_practise 1 [false] 15 [some (.ref o), some (.int (nI w1)), some (.int (nI n1)), none, none] [] S rfl ⟨by decide, by decide, rfl⟩ ⟨trivial, (by decide)⟩ ?_
          refine tf_go hx ftX11_practise 3 [] 20 [some (.ref o), some (.int (nI w1)), some (.int (nI n1)), none, none] [.int 999, .int 1, .int (nI n1)] S rfl ⟨by decide, by decide, rfl⟩ trivial ?_
          refine tf_cS hx ftX11_practise (nx := 23) (As := [.int (nI n1), .int 1, .int 999]) (rest := []) (st2 := [.int (if ¬ 1 ≤ (nI n1) then (-4) else if ¬ (nI n1) ≤ 999 then (-6) else 0)]) (m_within (nI n1) 1 999) rfl lX11_65 rfl ⟨rfl, by decide, by decide, by decide, rfl, rfl⟩ ?_
          rw [if_neg e1, if_neg e2]
          refine tf_go hx ftX11_practise 3 [] 29 [some (.ref o), some (.int (nI w1)), some (.int (nI n1)), some (.int 0), none] [.int 0] S rfl ⟨by decide, by decide, rfl⟩ trivial ?_
          refine tf_go hx ftX11_practise 1 [true] 38 [some (.ref o), some (.int (nI w1)), some (.int (nI n1)), some (.int 0), none] [] S rfl ⟨by decide, by decide, rfl⟩ ⟨trivial, (by decide)⟩ ?_
          refine tf_go hx ftX11_practise 18 [] 68 [some (.ref o), some (.int (nI w1)), some (.int (nI n1)), some (.int 0), some (.int ((224 + (10 * (nI w1))) + 1))] [.int 9999, .int ((S (tf_rf G o 1) (Int32.toNatClampNeg ((224 + (10 * (nI w1))) + 1))) + (nI n1)), .int ((224 + (10 * (nI w1))) + 1), .ref (tf_rf G o 1)] S rfl ⟨by decide, by decide, rfl⟩ ⟨⟨⟨trivial, ⟨by first | assumption | rfl | decide | omega, by first | assumption | rfl | decide | omega⟩⟩, ⟨by first | assumption | rfl | decide | omega, by first | assumption | rfl | decide | omega⟩⟩, ⟨Or.inl (by first | assumption | rfl | decide | omega), by first | assumption | exact tf_in (n := ((224 + (10 * w1)) + 1)) (tf_add (a := (224 + (10 * w1))) (b := 1) (tf_add (a := 224) (b := (10 * w1)) (rfl : (224 : Int32) = nI 224) (tf_mul (a := 10) (b := w1) (rfl : (10 : Int32) = nI 10) rfl)) (rfl : (1 : Int32) = nI 1)) (by first | assumption | rfl) (by omega) (by decide)⟩⟩ ?_
          rw [show ((S (tf_rf G o 1) (Int32.toNatClampNeg ((224 + (10 * (nI w1))) + 1))) + (nI n1)) = nI ((A.1 ((224 + (10 * w1)) + 1)) + n1) from (tf_add (a := (A.1 ((224 + (10 * w1)) + 1))) (b := n1) (tf_rd hs (tf_add (a := (224 + (10 * w1))) (b := 1) (tf_add (a := 224) (b := (10 * w1)) (rfl : (224 : Int32) = nI 224) (tf_mul (a := 10) (b := w1) (rfl : (10 : Int32) = nI 10) rfl)) (rfl : (1 : Int32) = nI 1)) (by omega)) rfl)]
          rw [show ((224 + (10 * (nI w1))) + 1) = nI ((224 + (10 * w1)) + 1) from (tf_add (a := (224 + (10 * w1))) (b := 1) (tf_add (a := 224) (b := (10 * w1)) (rfl : (224 : Int32) = nI 224) (tf_mul (a := 10) (b := w1) (rfl : (10 : Int32) = nI 10) rfl)) (rfl : (1 : Int32) = nI 1))]
          refine tf_go hx ftX11_practise 1 [true] 77 [some (.ref o), some (.int (nI w1)), some (.int (nI n1)), some (.int 0), some (.int (nI ((224 + (10 * w1)) + 1)))] [.int (nI ((224 + (10 * w1)) + 1)), .ref (tf_rf G o 1)] S rfl ⟨by decide, by decide, rfl⟩ ⟨trivial, (tf_leT (a := ((A.1 ((224 + (10 * w1)) + 1)) + n1)) (b := 9999) rfl (rfl : (9999 : Int32) = nI 9999) (by have := hb ((224 + (10 * w1)) + 1); omega) (by have := hb ((224 + (10 * w1)) + 1); omega) (by have := hb ((224 + (10 * w1)) + 1); omega))⟩ ?_
          refine tf_go hx ftX11_practise 6 [] 86 [some (.ref o), some (.int (nI w1)), some (.int (nI n1)), some (.int 0), some (.int (nI ((224 + (10 * w1)) + 1)))] [.int ((S (tf_rf G o 1) (Int32.toNatClampNeg (nI ((224 + (10 * w1)) + 1)))) + (nI n1)), .int (nI ((224 + (10 * w1)) + 1)), .ref (tf_rf G o 1)] S rfl ⟨by decide, by decide, rfl⟩ ⟨⟨trivial, ⟨by first | assumption | rfl | decide | omega, by first | assumption | rfl | decide | omega⟩⟩, ⟨Or.inl (by first | assumption | rfl | decide | omega), by first | assumption | exact tf_in (n := ((224 + (10 * w1)) + 1)) rfl (by first | assumption | rfl) (by omega) (by decide)⟩⟩ ?_
          rw [show ((S (tf_rf G o 1) (Int32.toNatClampNeg (nI ((224 + (10 * w1)) + 1)))) + (nI n1)) = nI ((A.1 ((224 + (10 * w1)) + 1)) + n1) from (tf_add (a := (A.1 ((224 + (10 * w1)) + 1))) (b := n1) (tf_rd hs rfl (by omega)) rfl)]
          refine tf_go hx ftX11_practise 1 [] 87 [some (.ref o), some (.int (nI w1)), some (.int (nI n1)), some (.int 0), some (.int (nI ((224 + (10 * w1)) + 1)))] [] (tf_set S (tf_rf G o 1) (Int32.toNatClampNeg (nI ((224 + (10 * w1)) + 1))) (nI ((A.1 ((224 + (10 * w1)) + 1)) + n1))) rfl ⟨by decide, by decide, rfl⟩ ⟨trivial, ⟨by first | assumption | rfl | decide | omega, by first | assumption | exact tf_in (n := ((224 + (10 * w1)) + 1)) rfl (by first | assumption | rfl) (by omega) (by decide)⟩⟩ ?_
          rw [show Int32.toNatClampNeg (nI ((224 + (10 * w1)) + 1)) = ((224 + (10 * w1)) + 1) from tf_cln rfl (by omega)]
          rw [tf_rw_u hs]
          have rr : ∀ k, (tf_rw S (tf_rf G o 1) (tf_u A.1 (224 + 10 * w1 + 1) (A.1 (224 + 10 * w1 + 1) + n1))) (tf_rf G o 1) k = nI (tf_u A.1 (224 + 10 * w1 + 1) (A.1 (224 + 10 * w1 + 1) + n1) k) := tf_rw_a
          refine tf_go hx ftX11_practise 4 [] 94 [some (.ref o), some (.int (nI w1)), some (.int (nI n1)), some (.int 0), some (.int (nI ((224 + (10 * w1)) + 1)))] [.int ((tf_rw S (tf_rf G o 1) (tf_u A.1 (224 + 10 * w1 + 1) (A.1 (224 + 10 * w1 + 1) + n1))) (tf_rf G o 1) (Int32.toNatClampNeg (nI ((224 + (10 * w1)) + 1))))] (tf_rw S (tf_rf G o 1) (tf_u A.1 (224 + 10 * w1 + 1) (A.1 (224 + 10 * w1 + 1) + n1))) rfl ⟨by decide, by decide, rfl⟩ ⟨⟨trivial, ⟨by first | assumption | rfl | decide | omega, by first | assumption | rfl | decide | omega⟩⟩, ⟨Or.inl (by first | assumption | rfl | decide | omega), by first | assumption | exact tf_in (n := ((224 + (10 * w1)) + 1)) rfl (by first | assumption | rfl) (by omega) (by decide)⟩⟩ ?_
          rw [show ((tf_rw S (tf_rf G o 1) (tf_u A.1 (224 + 10 * w1 + 1) (A.1 (224 + 10 * w1 + 1) + n1))) (tf_rf G o 1) (Int32.toNatClampNeg (nI ((224 + (10 * w1)) + 1)))) = nI ((tf_u A.1 (224 + 10 * w1 + 1) (A.1 (224 + 10 * w1 + 1) + n1)) ((224 + (10 * w1)) + 1)) from (tf_rd rr rfl (by omega))]
          exact tf_ret ftX11_practise hR rfl ⟨by decide, by decide⟩ rfl rfl (by unfold tf_u; rw [if_pos rfl]; rfl)
        · rw [if_neg e3]
          refine ⟨(tf_rw S (tf_rf G o 1) (tf_u A.1 (224 + 10 * w1 + 1) 9999)), tf_Fn_of (own := RX11) false ⟨by decide, rfl, by decide⟩ (Nat.le_of_ble_eq_true rfl) trivial (fun x hx hR => ?_), tf_ms_rw ho hd hM _, tf_fm_1⟩
          show tf_K x 0 0 G S 0 [some (.ref o), some (.int (nI w1)), some (.int (nI n1)), none, none] []
          refine tf_go hx ftX11_practise 5 [] 9 [some (.ref o), some (.int (nI w1)), some (.int (nI n1)), none, none] [.int (S (tf_rf G o 1) (Int32.toNatClampNeg 366)), .int (nI w1)] S rfl ⟨by decide, by decide, rfl⟩ ⟨⟨trivial, ⟨by first | assumption | rfl | decide | omega, by first | assumption | rfl | decide | omega⟩⟩, ⟨Or.inl (by first | assumption | rfl | decide | omega), by first | assumption | exact tf_in (n := 366) (rfl : (366 : Int32) = nI 366) (by first | assumption | rfl) (by omega) (by decide)⟩⟩ ?_
          rw [show (S (tf_rf G o 1) (Int32.toNatClampNeg 366)) = nI (A.1 366) from (tf_rd hs (rfl : (366 : Int32) = nI 366) (by omega))]
          refine tf_cS hx ftX11_practise (nx := 12) (As := [.int (nI w1), .int (nI (A.1 366))]) (rest := []) (st2 := [.int (if ¬ (nI w1) < 0 ∧ ¬ nI (A.1 366) ≤ (nI w1) then 1 else 0)]) (m_isIn (nI w1) (nI (A.1 366))) rfl lX11_22 rfl ⟨rfl, by decide, by decide, by decide, rfl, rfl⟩ ?_
          rw [if_pos c1]
          refine tf_go hx ftX11_practise 1 [false] 15 [some (.ref o), some (.int (nI w1)), some (.int (nI n1)), none, none] [] S rfl ⟨by decide, by decide, rfl⟩ ⟨trivial, (by decide)⟩ ?_
          refine tf_go hx ftX11_practise 3 [] 20 [some (.ref o), some (.int (nI w1)), some (.int (nI n1)), none, none] [.int 999, .int 1, .int (nI n1)] S rfl ⟨by decide, by decide, rfl⟩ trivial ?_
          refine tf_cS hx ftX11_practise (nx := 23) (As := [.int (nI n1), .int 1, .int 999]) (rest := []) (st2 := [.int (if ¬ 1 ≤ (nI n1) then (-4) else if ¬ (nI n1) ≤ 999 then (-6) else 0)]) (m_within (nI n1) 1 999) rfl lX11_65 rfl ⟨rfl, by decide, by decide, by decide, rfl, rfl⟩ ?_
          rw [if_neg e1, if_neg e2]
          refine tf_go hx ftX11_practise 3 [] 29 [some (.ref o), some (.int (nI w1)), some (.int (nI n1)), some (.int 0), none] [.int 0] S rfl ⟨by decide, by decide, rfl⟩ trivial ?_
          refine tf_go hx ftX11_practise 1 [true] 38 [some (.ref o), some (.int (nI w1)), some (.int (nI n1)), some (.int 0), none] [] S rfl ⟨by decide, by decide, rfl⟩ ⟨trivial, (by decide)⟩ ?_
          refine tf_go hx ftX11_practise 18 [] 68 [some (.ref o), some (.int (nI w1)), some (.int (nI n1)), some (.int 0), some (.int ((224 + (10 * (nI w1))) + 1))] [.int 9999, .int ((S (tf_rf G o 1) (Int32.toNatClampNeg ((224 + (10 * (nI w1))) + 1))) + (nI n1)), .int ((224 + (10 * (nI w1))) + 1), .ref (tf_rf G o 1)] S rfl ⟨by decide, by decide, rfl⟩ ⟨⟨⟨trivial, ⟨by first | assumption | rfl | decide | omega, by first | assumption | rfl | decide | omega⟩⟩, ⟨by first | assumption | rfl | decide | omega, by first | assumption | rfl | decide | omega⟩⟩, ⟨Or.inl (by first | assumption | rfl | decide | omega), by first | assumption | exact tf_in (n := ((224 + (10 * w1)) + 1)) (tf_add (a := (224 + (10 * w1))) (b := 1) (tf_add (a := 224) (b := (10 * w1)) (rfl : (224 : Int32) = nI 224) (tf_mul (a := 10) (b := w1) (rfl : (10 : Int32) = nI 10) rfl)) (rfl : (1 : Int32) = nI 1)) (by first | assumption | rfl) (by omega) (by decide)⟩⟩ ?_
          rw [show ((S (tf_rf G o 1) (Int32.toNatClampNeg ((224 + (10 * (nI w1))) + 1))) + (nI n1)) = nI ((A.1 ((224 + (10 * w1)) + 1)) + n1) from (tf_add (a := (A.1 ((224 + (10 * w1)) + 1))) (b := n1) (tf_rd hs (tf_add (a := (224 + (10 * w1))) (b := 1) (tf_add (a := 224) (b := (10 * w1)) (rfl : (224 : Int32) = nI 224) (tf_mul (a := 10) (b := w1) (rfl : (10 : Int32) = nI 10) rfl)) (rfl : (1 : Int32) = nI 1)) (by omega)) rfl)]
          rw [show ((224 + (10 * (nI w1))) + 1) = nI ((224 + (10 * w1)) + 1) from (tf_add (a := (224 + (10 * w1))) (b := 1) (tf_add (a := 224) (b := (10 * w1)) (rfl : (224 : Int32) = nI 224) (tf_mul (a := 10) (b := w1) (rfl : (10 : Int32) = nI 10) rfl)) (rfl : (1 : Int32) = nI 1))]
          refine tf_go hx ftX11_practise 1 [false] 71 [some (.ref o), some (.int (nI w1)), some (.int (nI n1)), some (.int 0), some (.int (nI ((224 + (10 * w1)) + 1)))] [.int (nI ((224 + (10 * w1)) + 1)), .ref (tf_rf G o 1)] S rfl ⟨by decide, by decide, rfl⟩ ⟨trivial, (tf_leF (a := ((A.1 ((224 + (10 * w1)) + 1)) + n1)) (b := 9999) rfl (rfl : (9999 : Int32) = nI 9999) (by have := hb ((224 + (10 * w1)) + 1); omega) (by have := hb ((224 + (10 * w1)) + 1); omega) (by have := hb ((224 + (10 * w1)) + 1); omega))⟩ ?_
          refine tf_go hx ftX11_practise 2 [] 86 [some (.ref o), some (.int (nI w1)), some (.int (nI n1)), some (.int 0), some (.int (nI ((224 + (10 * w1)) + 1)))] [.int 9999, .int (nI ((224 + (10 * w1)) + 1)), .ref (tf_rf G o 1)] S rfl ⟨by decide, by decide, rfl⟩ trivial ?_
          refine tf_go hx ftX11_practise 1 [] 87 [some (.ref o), some (.int (nI w1)), some (.int (nI n1)), some (.int 0), some (.int (nI ((224 + (10 * w1)) + 1)))] [] (tf_set S (tf_rf G o 1) (Int32.toNatClampNeg (nI ((224 + (10 * w1)) + 1))) 9999) rfl ⟨by decide, by decide, rfl⟩ ⟨trivial, ⟨by first | assumption | rfl | decide | omega, by first | assumption | exact tf_in (n := ((224 + (10 * w1)) + 1)) rfl (by first | assumption | rfl) (by omega) (by decide)⟩⟩ ?_
          rw [show Int32.toNatClampNeg (nI ((224 + (10 * w1)) + 1)) = ((224 + (10 * w1)) + 1) from tf_cln rfl (by omega)]
          rw [show (9999 : Int32) = nI 9999 from rfl, tf_rw_u hs]
          have rr : ∀ k, (tf_rw S (tf_rf G o 1) (tf_u A.1 (224 + 10 * w1 + 1) 9999)) (tf_rf G o 1) k = nI (tf_u A.1 (224 + 10 * w1 + 1) 9999 k) := tf_rw_a
          refine tf_go hx ftX11_practise 4 [] 94 [some (.ref o), some (.int (nI w1)), some (.int (nI n1)), some (.int 0), some (.int (nI ((224 + (10 * w1)) + 1)))] [.int ((tf_rw S (tf_rf G o 1) (tf_u A.1 (224 + 10 * w1 + 1) 9999)) (tf_rf G o 1) (Int32.toNatClampNeg (nI ((224 + (10 * w1)) + 1))))] (tf_rw S (tf_rf G o 1) (tf_u A.1 (224 + 10 * w1 + 1) 9999)) rfl ⟨by decide, by decide, rfl⟩ ⟨⟨trivial, ⟨by first | assumption | rfl | decide | omega, by first | assumption | rfl | decide | omega⟩⟩, ⟨Or.inl (by first | assumption | rfl | decide | omega), by first | assumption | exact tf_in (n := ((224 + (10 * w1)) + 1)) rfl (by first | assumption | rfl) (by omega) (by decide)⟩⟩ ?_
          rw [show ((tf_rw S (tf_rf G o 1) (tf_u A.1 (224 + 10 * w1 + 1) 9999)) (tf_rf G o 1) (Int32.toNatClampNeg (nI ((224 + (10 * w1)) + 1)))) = nI ((tf_u A.1 (224 + 10 * w1 + 1) 9999) ((224 + (10 * w1)) + 1)) from (tf_rd rr rfl (by omega))]
          exact tf_ret ftX11_practise hR rfl ⟨by decide, by decide⟩ rfl rfl (by unfold tf_u; rw [if_pos rfl]; rfl)
  · rw [if_neg c1]
    refine ⟨tf_rfS G S o 1, tf_Fn_of (own := RX11) false ⟨by decide, rfl, by decide⟩ (Nat.le_of_ble_eq_true rfl) trivial (fun x hx hR => ?_), tf_ms_ref ho hd hM 1, tf_fm_0⟩
    show tf_K x 0 0 G S 0 [some (.ref o), some (.int w), some (.int n), none, none] []
    refine tf_go hx ftX11_practise 5 [] 9 [some (.ref o), some (.int w), some (.int n), none, none] [.int (S (tf_rf G o 1) (Int32.toNatClampNeg 366)), .int w] S rfl ⟨by decide, by decide, rfl⟩ ⟨⟨trivial, ⟨by first | assumption | rfl | decide | omega, by first | assumption | rfl | decide | omega⟩⟩, ⟨Or.inl (by first | assumption | rfl | decide | omega), by first | assumption | exact tf_in (n := 366) (rfl : (366 : Int32) = nI 366) (by first | assumption | rfl) (by omega) (by decide)⟩⟩ ?_
    rw [show (S (tf_rf G o 1) (Int32.toNatClampNeg 366)) = nI (A.1 366) from (tf_rd hs (rfl : (366 : Int32) = nI 366) (by omega))]
    refine tf_cS hx ftX11_practise (nx := 12) (As := [.int w, .int (nI (A.1 366))]) (rest := []) (st2 := [.int (if ¬ w < 0 ∧ ¬ nI (A.1 366) ≤ w then 1 else 0)]) (m_isIn w (nI (A.1 366))) rfl lX11_22 rfl ⟨rfl, by decide, by decide, by decide, rfl, rfl⟩ ?_
    rw [if_neg c1]
    refine tf_go hx ftX11_practise 1 [true] 26 [some (.ref o), some (.int w), some (.int n), none, none] [] S rfl ⟨by decide, by decide, rfl⟩ ⟨trivial, (by decide)⟩ ?_
    refine tf_go hx ftX11_practise 3 [] 29 [some (.ref o), some (.int w), some (.int n), some (.int (-1)), none] [.int (-1)] S rfl ⟨by decide, by decide, rfl⟩ trivial ?_
    refine tf_go hx ftX11_practise 3 [false] 34 [some (.ref o), some (.int w), some (.int n), some (.int (-1)), none] [.int (-1), .ref o] S rfl ⟨by decide, by decide, rfl⟩ ⟨trivial, (by decide)⟩ ?_
    refine tf_cV hx ftX11_practise (nx := 37) (As := [.int (-1)]) (rest := []) (st2 := [.int (-1)]) (m_ref1 ho) rfl lX11_26 (by first | assumption | rfl | decide) rfl ⟨rfl, by decide, by decide, by decide, rfl, rfl⟩ ?_
    exact tf_ret ftX11_practise hR rfl ⟨by decide, by decide⟩ rfl rfl rfl

set_option maxHeartbeats 2000000 in
theorem p_put {G : tf_G} {S : tf_Sg} {o : Nat} {A : tf_A} (v : Int32) (ho : tf_mo G o) (hd : tf_md G o) (hA : tf_okA A) (hM : tf_ms G S o A)  : tf_pm mX11_put 2 G S o [.ref o, .int v] (s_put A v) := by
  obtain ⟨h1, ⟨r0, t0, n0⟩, ⟨r1, t1, n1⟩, ⟨r2, t2, n2⟩, ⟨r4, t4, n4⟩⟩ := id ho
  obtain ⟨hg, hb, hA3, hA4, hA5, hA6⟩ := id hA
  have hs := hM.1
  have hf : tf_sf G S o A.1 := ⟨hM.1, hb⟩
  obtain ⟨⟨g1, g2, g3, g4⟩, g5, g6, g7, g8, g9, g10, g11⟩ := id hg
  unfold s_put
  by_cases e1 : ¬ 0 ≤ v
  · rw [if_pos e1]
    refine ⟨tf_rfS G S o 4, tf_Fn_of (own := RX11) false ⟨by decide, rfl, by decide⟩ (Nat.le_of_ble_eq_true rfl) trivial (fun x hx hR => ?_), tf_ms_ref ho hd hM 4, tf_fm_0⟩
    show tf_K x 0 0 G S 0 [some (.ref o), some (.int v), none] []
    refine tf_go hx ftX11_put 3 [] 5 [some (.ref o), some (.int v), none] [.int 9999, .int 0, .int v] S rfl ⟨by decide, by decide, rfl⟩ trivial ?_
    refine tf_cS hx ftX11_put (nx := 8) (As := [.int v, .int 0, .int 9999]) (rest := []) (st2 := [.int (if ¬ 0 ≤ v then (-4) else if ¬ v ≤ 9999 then (-6) else 0)]) (m_within v 0 9999) rfl lX11_65 rfl ⟨rfl, by decide, by decide, by decide, rfl, rfl⟩ ?_
    rw [if_pos e1]
    refine tf_go hx ftX11_put 2 [] 10 [some (.ref o), some (.int v), some (.int (-4))] [.int (-4)] S rfl ⟨by decide, by decide, rfl⟩ trivial ?_
    refine tf_go hx ftX11_put 1 [true] 29 [some (.ref o), some (.int v), some (.int (-4))] [] S rfl ⟨by decide, by decide, rfl⟩ ⟨trivial, (by decide)⟩ ?_
    refine tf_go hx ftX11_put 1 [] 30 [some (.ref o), some (.int v), some (.int (-4))] [.int (-4)] S rfl ⟨by decide, by decide, rfl⟩ trivial ?_
    refine tf_go hx ftX11_put 3 [false] 35 [some (.ref o), some (.int v), some (.int (-4))] [.int (-4), .ref o] S rfl ⟨by decide, by decide, rfl⟩ ⟨trivial, (by decide)⟩ ?_
    refine tf_cV hx ftX11_put (nx := 38) (As := [.int (-4)]) (rest := []) (st2 := [.int (-4)]) (m_ref4 ho) rfl lX11_26 (by first | assumption | rfl | decide) rfl ⟨rfl, by decide, by decide, by decide, rfl, rfl⟩ ?_
    exact tf_ret ftX11_put hR rfl ⟨by decide, by decide⟩ rfl rfl rfl
  · by_cases e2 : ¬ v ≤ 9999
    · rw [if_neg e1, if_pos (Or.inl e2)]
      refine ⟨tf_rfS G S o 6, tf_Fn_of (own := RX11) false ⟨by decide, rfl, by decide⟩ (Nat.le_of_ble_eq_true rfl) trivial (fun x hx hR => ?_), tf_ms_ref ho hd hM 6, tf_fm_0⟩
      show tf_K x 0 0 G S 0 [some (.ref o), some (.int v), none] []
      refine tf_go hx ftX11_put 3 [] 5 [some (.ref o), some (.int v), none] [.int 9999, .int 0, .int v] S rfl ⟨by decide, by decide, rfl⟩ trivial ?_
      refine tf_cS hx ftX11_put (nx := 8) (As := [.int v, .int 0, .int 9999]) (rest := []) (st2 := [.int (if ¬ 0 ≤ v then (-4) else if ¬ v ≤ 9999 then (-6) else 0)]) (m_within v 0 9999) rfl lX11_65 rfl ⟨rfl, by decide, by decide, by decide, rfl, rfl⟩ ?_
      rw [if_neg e1, if_pos e2]
      refine tf_go hx ftX11_put 2 [] 10 [some (.ref o), some (.int v), some (.int (-6))] [.int (-6)] S rfl ⟨by decide, by decide, rfl⟩ trivial ?_
      refine tf_go hx ftX11_put 1 [true] 29 [some (.ref o), some (.int v), some (.int (-6))] [] S rfl ⟨by decide, by decide, rfl⟩ ⟨trivial, (by decide)⟩ ?_
      refine tf_go hx ftX11_put 1 [] 30 [some (.ref o), some (.int v), some (.int (-6))] [.int (-6)] S rfl ⟨by decide, by decide, rfl⟩ trivial ?_
      refine tf_go hx ftX11_put 3 [false] 35 [some (.ref o), some (.int v), some (.int (-6))] [.int (-6), .ref o] S rfl ⟨by decide, by decide, rfl⟩ ⟨trivial, (by decide)⟩ ?_
      refine tf_cV hx ftX11_put (nx := 38) (As := [.int (-6)]) (rest := []) (st2 := [.int (-6)]) (m_ref6 ho) rfl lX11_26 (by first | assumption | rfl | decide) rfl ⟨rfl, by decide, by decide, by decide, rfl, rfl⟩ ?_
      exact tf_ret ftX11_put hR rfl ⟨by decide, by decide⟩ rfl rfl rfl
    · by_cases e3 : A.1 367 = 40
      · rw [if_neg e1, if_pos (Or.inr e3)]
        refine ⟨tf_rfS G S o 6, tf_Fn_of (own := RX11) false ⟨by decide, rfl, by decide⟩ (Nat.le_of_ble_eq_true rfl) trivial (fun x hx hR => ?_), tf_ms_ref ho hd hM 6, tf_fm_0⟩
        show tf_K x 0 0 G S 0 [some (.ref o), some (.int v), none] []
        refine tf_go hx ftX11_put 3 [] 5 [some (.ref o), some (.int v), none] [.int 9999, .int 0, .int v] S rfl ⟨by decide, by decide, rfl⟩ trivial ?_
        refine tf_cS hx ftX11_put (nx := 8) (As := [.int v, .int 0, .int 9999]) (rest := []) (st2 := [.int (if ¬ 0 ≤ v then (-4) else if ¬ v ≤ 9999 then (-6) else 0)]) (m_within v 0 9999) rfl lX11_65 rfl ⟨rfl, by decide, by decide, by decide, rfl, rfl⟩ ?_
        rw [if_neg e1, if_neg e2]
        refine tf_go hx ftX11_put 2 [] 10 [some (.ref o), some (.int v), some (.int 0)] [.int 0] S rfl ⟨by decide, by decide, rfl⟩ trivial ?_
        refine tf_go hx ftX11_put 1 [false] 13 [some (.ref o), some (.int v), some (.int 0)] [] S rfl ⟨by decide, by decide, rfl⟩ ⟨trivial, (by decide)⟩ ?_
        refine tf_go hx ftX11_put 5 [] 23 [some (.ref o), some (.int v), some (.int 0)] [.int 40, .int (S (tf_rf G o 1) (Int32.toNatClampNeg 367))] S rfl ⟨by decide, by decide, rfl⟩ ⟨⟨trivial, ⟨by first | assumption | rfl | decide | omega, by first | assumption | rfl | decide | omega⟩⟩, ⟨Or.inl (by first | assumption | rfl | decide | omega), by first | assumption | exact tf_in (n := 367) (rfl : (367 : Int32) = nI 367) (by first | assumption | rfl) (by omega) (by decide)⟩⟩ ?_
        rw [show (S (tf_rf G o 1) (Int32.toNatClampNeg 367)) = nI (A.1 367) from (tf_rd hs (rfl : (367 : Int32) = nI 367) (by omega))]
        refine tf_go hx ftX11_put 1 [false] 26 [some (.ref o), some (.int v), some (.int 0)] [] S rfl ⟨by decide, by decide, rfl⟩ ⟨trivial, (tf_neF (a := (A.1 367)) (b := 40) rfl (rfl : (40 : Int32) = nI 40) (by have := hb 367; omega))⟩ ?_
        refine tf_go hx ftX11_put 3 [] 30 [some (.ref o), some (.int v), some (.int (-6))] [.int (-6)] S rfl ⟨by decide, by decide, rfl⟩ trivial ?_
        refine tf_go hx ftX11_put 3 [false] 35 [some (.ref o), some (.int v), some (.int (-6))] [.int (-6), .ref o] S rfl ⟨by decide, by decide, rfl⟩ ⟨trivial, (by decide)⟩ ?_
        refine tf_cV hx ftX11_put (nx := 38) (As := [.int (-6)]) (rest := []) (st2 := [.int (-6)]) (m_ref6 ho) rfl lX11_26 (by first | assumption | rfl | decide) rfl ⟨rfl, by decide, by decide, by decide, rfl, rfl⟩ ?_
        exact tf_ret ftX11_put hR rfl ⟨by decide, by decide⟩ rfl rfl rfl
      · rw [if_neg e1, if_neg (by rintro (h | h); exact e2 h; exact e3 h)]
        obtain ⟨v1, v1_le, v1_eq⟩ := nI_of2 (M := 9999) (n := 9999) (x := v) (by decide) (fun h => e1 (fun h2 => absurd h (Int32.not_lt.mpr h2))) (Classical.not_not.mp e2)
        have v1_cl : v.toNatClampNeg = v1 := by rw [v1_eq]; exact tf_cl_nI (by omega)
        rw [v1_cl]
        subst v1_eq
        refine ⟨(tf_rw S (tf_rf G o 1) (tf_u (tf_u A.1 (324 + A.1 367) v1) 367 (A.1 367 + 1))), tf_Fn_of (own := RX11) false ⟨by decide, rfl, by decide⟩ (Nat.le_of_ble_eq_true rfl) trivial (fun x hx hR => ?_), tf_ms_rw ho hd hM _, tf_fm_1⟩
        show tf_K x 0 0 G S 0 [some (.ref o), some (.int (nI v1)), none] []
        refine tf_go hx ftX11_put 3 [] 5 [some (.ref o), some (.int (nI v1)), none] [.int 9999, .int 0, .int (nI v1)] S rfl ⟨by decide, by decide, rfl⟩ trivial ?_
        refine tf_cS hx ftX11_put (nx := 8) (As := [.int (nI v1), .int 0, .int 9999]) (rest := []) (st2 := [.int (if ¬ 0 ≤ (nI v1) then (-4) else if ¬ (nI v1) ≤ 9999 then (-6) else 0)]) (m_within (nI v1) 0 9999) rfl lX11_65 rfl ⟨rfl, by decide, by decide, by decide, rfl, rfl⟩ ?_
        rw [if_neg e1, if_neg e2]
        refine tf_go hx ftX11_put 2 [] 10 [some (.ref o), some (.int (nI v1)), some (.int 0)] [.int 0] S rfl ⟨by decide, by decide, rfl⟩ trivial ?_
        refine tf_go hx ftX11_put 1 [false] 13 [some (.ref o), some (.int (nI v1)), some (.int 0)] [] S rfl ⟨by decide, by decide, rfl⟩ ⟨trivial, (by decide)⟩ ?_
        refine tf_go hx ftX11_put 5 [] 23 [some (.ref o), some (.int (nI v1)), some (.int 0)] [.int 40, .int (S (tf_rf G o 1) (Int32.toNatClampNeg 367))] S rfl ⟨by decide, by decide, rfl⟩ ⟨⟨trivial, ⟨by first | assumption | rfl | decide | omega, by first | assumption | rfl | decide | omega⟩⟩, ⟨Or.inl (by first | assumption | rfl | decide | omega), by first | assumption | exact tf_in (n := 367) (rfl : (367 : Int32) = nI 367) (by first | assumption | rfl) (by omega) (by decide)⟩⟩ ?_
        rw [show (S (tf_rf G o 1) (Int32.toNatClampNeg 367)) = nI (A.1 367) from (tf_rd hs (rfl : (367 : Int32) = nI 367) (by omega))]
        refine tf_go hx ftX11_put 1 [true] 29 [some (.ref o), some (.int (nI v1)), some (.int 0)] [] S rfl ⟨by decide, by decide, rfl⟩ ⟨trivial, (tf_eqF (a := (A.1 367)) (b := 40) rfl (rfl : (40 : Int32) = nI 40) (by have := hb 367; omega) (by have := hb 367; omega) (by have := hb 367; omega))⟩ ?_
        refine tf_go hx ftX11_put 1 [] 30 [some (.ref o), some (.int (nI v1)), some (.int 0)] [.int 0] S rfl ⟨by decide, by decide, rfl⟩ trivial ?_
        refine tf_go hx ftX11_put 1 [true] 39 [some (.ref o), some (.int (nI v1)), some (.int 0)] [] S rfl ⟨by decide, by decide, rfl⟩ ⟨trivial, (by decide)⟩ ?_
        refine tf_go hx ftX11_put 9 [] 56 [some (.ref o), some (.int (nI v1)), some (.int 0)] [.int (nI v1), .int (324 + (S (tf_rf G o 1) (Int32.toNatClampNeg 367))), .ref (tf_rf G o 1)] S rfl ⟨by decide, by decide, rfl⟩ ⟨⟨⟨trivial, ⟨by first | assumption | rfl | decide | omega, by first | assumption | rfl | decide | omega⟩⟩, ⟨by first | assumption | rfl | decide | omega, by first | assumption | rfl | decide | omega⟩⟩, ⟨Or.inl (by first | assumption | rfl | decide | omega), by first | assumption | exact tf_in (n := 367) (rfl : (367 : Int32) = nI 367) (by first | assumption | rfl) (by omega) (by decide)⟩⟩ ?_
        rw [show (324 + (S (tf_rf G o 1) (Int32.toNatClampNeg 367))) = nI (324 + (A.1 367)) from (tf_add (a := 324) (b := (A.1 367)) (rfl : (324 : Int32) = nI 324) (tf_rd hs (rfl : (367 : Int32) = nI 367) (by omega)))]
        refine tf_go hx ftX11_put 1 [] 57 [some (.ref o), some (.int (nI v1)), some (.int 0)] [] (tf_set S (tf_rf G o 1) (Int32.toNatClampNeg (nI (324 + (A.1 367)))) (nI v1)) rfl ⟨by decide, by decide, rfl⟩ ⟨trivial, ⟨by first | assumption | rfl | decide | omega, by first | assumption | exact tf_in (n := (324 + (A.1 367))) rfl (by first | assumption | rfl) (by have := hb 367; omega) (by decide)⟩⟩ ?_
        rw [show Int32.toNatClampNeg (nI (324 + (A.1 367))) = (324 + (A.1 367)) from tf_cln rfl (by have := hb 367; omega)]
        rw [tf_rw_u hs]
        have rr : ∀ k, (tf_rw S (tf_rf G o 1) (tf_u A.1 (324 + A.1 367) v1)) (tf_rf G o 1) k = nI ((tf_u A.1 (324 + A.1 367) v1) k) := tf_rw_a
        have z1 : (tf_u A.1 (324 + A.1 367) v1) 367 = A.1 367 := by unfold tf_u; rw [if_neg (by omega)]
        refine tf_go hx ftX11_put 5 [] 66 [some (.ref o), some (.int (nI v1)), some (.int 0)] [.int ((tf_rw S (tf_rf G o 1) (tf_u A.1 (324 + A.1 367) v1)) (tf_rf G o 1) (Int32.toNatClampNeg 367)), .int 367, .ref (tf_rf G o 1)] (tf_rw S (tf_rf G o 1) (tf_u A.1 (324 + A.1 367) v1)) rfl ⟨by decide, by decide, rfl⟩ ⟨⟨trivial, ⟨by first | assumption | rfl | decide | omega, by first | assumption | rfl | decide | omega⟩⟩, ⟨Or.inl (by first | assumption | rfl | decide | omega), by first | assumption | exact tf_in (n := 367) (rfl : (367 : Int32) = nI 367) (by first | assumption | rfl) (by omega) (by decide)⟩⟩ ?_
        rw [show ((tf_rw S (tf_rf G o 1) (tf_u A.1 (324 + A.1 367) v1)) (tf_rf G o 1) (Int32.toNatClampNeg 367)) = nI ((tf_u A.1 (324 + A.1 367) v1) 367) from (tf_rd rr (rfl : (367 : Int32) = nI 367) (by omega))]
        rw [z1]
        refine tf_go hx ftX11_put 2 [] 68 [some (.ref o), some (.int (nI v1)), some (.int 0)] [.int ((nI (A.1 367)) + 1), .int 367, .ref (tf_rf G o 1)] (tf_rw S (tf_rf G o 1) (tf_u A.1 (324 + A.1 367) v1)) rfl ⟨by decide, by decide, rfl⟩ trivial ?_
        rw [show ((nI (A.1 367)) + 1) = nI ((A.1 367) + 1) from (tf_add (a := (A.1 367)) (b := 1) rfl (rfl : (1 : Int32) = nI 1))]
        refine tf_go hx ftX11_put 1 [] 69 [some (.ref o), some (.int (nI v1)), some (.int 0)] [] (tf_set (tf_rw S (tf_rf G o 1) (tf_u A.1 (324 + A.1 367) v1)) (tf_rf G o 1) (Int32.toNatClampNeg 367) (nI ((A.1 367) + 1))) rfl ⟨by decide, by decide, rfl⟩ ⟨trivial, ⟨by first | assumption | rfl | decide | omega, by first | assumption | exact tf_in (n := 367) (rfl : (367 : Int32) = nI 367) (by first | assumption | rfl) (by omega) (by decide)⟩⟩ ?_
        rw [show Int32.toNatClampNeg (367 : Int32) = 367 from rfl]
        rw [tf_rw_u2]
        have rr2 : ∀ k, (tf_rw S (tf_rf G o 1) (tf_u (tf_u A.1 (324 + A.1 367) v1) 367 (A.1 367 + 1))) (tf_rf G o 1) k = nI ((tf_u (tf_u A.1 (324 + A.1 367) v1) 367 (A.1 367 + 1)) k) := tf_rw_a
        refine tf_go hx ftX11_put 4 [] 77 [some (.ref o), some (.int (nI v1)), some (.int 0)] [.int ((tf_rw S (tf_rf G o 1) (tf_u (tf_u A.1 (324 + A.1 367) v1) 367 (A.1 367 + 1))) (tf_rf G o 1) (Int32.toNatClampNeg 367))] (tf_rw S (tf_rf G o 1) (tf_u (tf_u A.1 (324 + A.1 367) v1) 367 (A.1 367 + 1))) rfl ⟨by decide, by decide, rfl⟩ ⟨⟨trivial, ⟨by first | assumption | rfl | decide | omega, by first | assumption | rfl | decide | omega⟩⟩, ⟨Or.inl (by first | assumption | rfl | decide | omega), by first | assumption | exact tf_in (n := 367) (rfl : (367 : Int32) = nI 367) (by first | assumption | rfl) (by omega) (by decide)⟩⟩ ?_
        rw [show ((tf_rw S (tf_rf G o 1) (tf_u (tf_u A.1 (324 + A.1 367) v1) 367 (A.1 367 + 1))) (tf_rf G o 1) (Int32.toNatClampNeg 367)) = nI ((tf_u (tf_u A.1 (324 + A.1 367) v1) 367 (A.1 367 + 1)) 367) from (tf_rd rr2 (rfl : (367 : Int32) = nI 367) (by omega))]
        exact tf_ret ftX11_put hR rfl ⟨by decide, by decide⟩ rfl rfl (by unfold tf_u; rw [if_pos rfl]; rfl)

set_option maxHeartbeats 2000000 in
theorem p_unput {G : tf_G} {S : tf_Sg} {o : Nat} {A : tf_A}  (ho : tf_mo G o) (hd : tf_md G o) (hA : tf_okA A) (hM : tf_ms G S o A)  : tf_pm mX11_unput 1 G S o [.ref o] (s_unput A) := by
  obtain ⟨h1, ⟨r0, t0, n0⟩, ⟨r1, t1, n1⟩, ⟨r2, t2, n2⟩, ⟨r4, t4, n4⟩⟩ := id ho
  obtain ⟨hg, hb, hA3, hA4, hA5, hA6⟩ := id hA
  have hs := hM.1
  have hf : tf_sf G S o A.1 := ⟨hM.1, hb⟩
  obtain ⟨⟨g1, g2, g3, g4⟩, g5, g6, g7, g8, g9, g10, g11⟩ := id hg
  unfold s_unput
  refine ⟨(tf_rw S (tf_rf G o 1) (tf_u A.1 367 0)), tf_Fn_of (own := RX11) false ⟨by decide, rfl, by decide⟩ (Nat.le_of_ble_eq_true rfl) trivial (fun x hx hR => ?_), tf_ms_rw ho hd hM _, tf_fm_1⟩
  show tf_K x 0 0 G S 0 [some (.ref o), none] []
  refine tf_go hx ftX11_unput 5 [] 9 [some (.ref o), some (.int (S (tf_rf G o 1) (Int32.toNatClampNeg 367)))] [] S rfl ⟨by decide, by decide, rfl⟩ ⟨⟨trivial, ⟨by first | assumption | rfl | decide | omega, by first | assumption | rfl | decide | omega⟩⟩, ⟨Or.inl (by first | assumption | rfl | decide | omega), by first | assumption | exact tf_in (n := 367) (rfl : (367 : Int32) = nI 367) (by first | assumption | rfl) (by omega) (by decide)⟩⟩ ?_
  rw [show (S (tf_rf G o 1) (Int32.toNatClampNeg 367)) = nI (A.1 367) from (tf_rd hs (rfl : (367 : Int32) = nI 367) (by omega))]
  refine tf_go hx ftX11_unput 5 [] 18 [some (.ref o), some (.int (nI (A.1 367)))] [] (tf_set S (tf_rf G o 1) (Int32.toNatClampNeg 367) 0) rfl ⟨by decide, by decide, rfl⟩ ⟨⟨trivial, ⟨by first | assumption | rfl | decide | omega, by first | assumption | rfl | decide | omega⟩⟩, ⟨by first | assumption | rfl | decide | omega, by first | assumption | exact tf_in (n := 367) (rfl : (367 : Int32) = nI 367) (by first | assumption | rfl) (by omega) (by decide)⟩⟩ ?_
  rw [show Int32.toNatClampNeg (367 : Int32) = 367 from rfl]
  rw [show (0 : Int32) = nI 0 from rfl, tf_rw_u hs]
  refine tf_go hx ftX11_unput 1 [] 19 [some (.ref o), some (.int (nI (A.1 367)))] [.int (nI (A.1 367))] (tf_rw S (tf_rf G o 1) (tf_u A.1 367 0)) rfl ⟨by decide, by decide, rfl⟩ trivial ?_
  exact tf_ret ftX11_unput hR rfl ⟨by decide, by decide⟩ rfl rfl rfl

set_option maxHeartbeats 2000000 in
theorem p_piece {G : tf_G} {S : tf_Sg} {o : Nat} {A : tf_A} (i w : Int32) (ho : tf_mo G o) (hd : tf_md G o) (hA : tf_okA A) (hM : tf_ms G S o A)  : tf_pm mX11_piece 3 G S o [.ref o, .int i, .int w] (s_piece A i w) := by
  obtain ⟨h1, ⟨r0, t0, n0⟩, ⟨r1, t1, n1⟩, ⟨r2, t2, n2⟩, ⟨r4, t4, n4⟩⟩ := id ho
  obtain ⟨hg, hb, hA3, hA4, hA5, hA6⟩ := id hA
  have hs := hM.1
  have hf : tf_sf G S o A.1 := ⟨hM.1, hb⟩
  obtain ⟨⟨g1, g2, g3, g4⟩, g5, g6, g7, g8, g9, g10, g11⟩ := id hg
  unfold s_piece
  by_cases c1 : ¬ w < 0 ∧ ¬ 3 ≤ w
  · rw [if_pos c1]
    exact ⟨S, m_piece i w ho hf hg c1, hM, tf_fm_id⟩
  · rw [if_neg c1]
    refine ⟨tf_rfS G S o 2, tf_Fn_of (own := RX11) false ⟨by decide, rfl, by decide⟩ (Nat.le_of_ble_eq_true rfl) trivial (fun x hx hR => ?_), tf_ms_ref ho hd hM 2, tf_fm_0⟩
    show tf_K x 0 0 G S 0 [some (.ref o), some (.int i), some (.int w), none, none] []
    refine tf_go hx ftX11_piece 2 [] 2 [some (.ref o), some (.int i), some (.int w), none, none] [.int 3, .int w] S rfl ⟨by decide, by decide, rfl⟩ trivial ?_
    refine tf_cS hx ftX11_piece (nx := 5) (As := [.int w, .int 3]) (rest := []) (st2 := [.int (if ¬ w < 0 ∧ ¬ 3 ≤ w then 1 else 0)]) (m_isIn w 3) rfl lX11_22 rfl ⟨rfl, by decide, by decide, by decide, rfl, rfl⟩ ?_
    rw [if_neg c1]
    refine tf_go hx ftX11_piece 3 [false] 11 [some (.ref o), some (.int i), some (.int w), none, none] [.int (-2), .ref o] S rfl ⟨by decide, by decide, rfl⟩ ⟨trivial, (by decide)⟩ ?_
    refine tf_cV hx ftX11_piece (nx := 14) (As := [.int (-2)]) (rest := []) (st2 := [.int (-2)]) (m_ref2 ho) rfl lX11_26 (by first | assumption | rfl | decide) rfl ⟨rfl, by decide, by decide, by decide, rfl, rfl⟩ ?_
    exact tf_ret ftX11_piece hR rfl ⟨by decide, by decide⟩ rfl rfl rfl

set_option maxHeartbeats 2000000 in
theorem p_pieces {G : tf_G} {S : tf_Sg} {o : Nat} {A : tf_A}  (ho : tf_mo G o) (hd : tf_md G o) (hA : tf_okA A) (hM : tf_ms G S o A)  : tf_pm mX11_pieces 3 G S o [.ref o] (s_pieces A) := by
  obtain ⟨h1, ⟨r0, t0, n0⟩, ⟨r1, t1, n1⟩, ⟨r2, t2, n2⟩, ⟨r4, t4, n4⟩⟩ := id ho
  obtain ⟨hg, hb, hA3, hA4, hA5, hA6⟩ := id hA
  have hs := hM.1
  have hf : tf_sf G S o A.1 := ⟨hM.1, hb⟩
  obtain ⟨⟨g1, g2, g3, g4⟩, g5, g6, g7, g8, g9, g10, g11⟩ := id hg
  unfold s_pieces
  exact ⟨S, m_pieces ho hf hg, hM, tf_fm_id⟩

theorem tf_cnt {w : Int32} (h1 : 10 < w) (h2 : w < 17) : vp_in (w - 10) 7 := by
  obtain ⟨j, hj, rfl⟩ := nI_of2 (M := 17) (n := 17) (x := w) (by decide) (fun h => absurd (Int32.lt_trans h1 h) (by decide)) (Int32.le_of_lt h2)
  have a : 10 < j := by
    have h3 : nI 10 < nI j := h1
    exact (nI_ltI (by decide) (by omega)).mp h3
  have b : j < 17 := by
    have h3 : nI j < nI 17 := h2
    exact (nI_ltI (by omega) (by decide)).mp h3
  rw [show nI j - 10 = nI (j - 10) from tf_sub (a := j) (b := 10) rfl rfl (by omega)]
  exact vp_in_nI (by omega) (by decide)
theorem tf_out5 {w : Int32} (k0 : ¬ w = 0) (k1 : ¬ w = 1) (k2 : ¬ w = 2) (k3 : ¬ w = 3) (k4 : ¬ w = 4) : w.toInt < 0 ∨ 4 < w.toInt := by
  rcases Int.lt_or_le w.toInt 0 with h | h
  · exact Or.inl h
  · refine Or.inr (Int.lt_of_not_ge fun h2 => ?_)
    obtain ⟨j, hj, rfl⟩ := vp_in_of (x := w) (n := 5) (vp_in_iff.mpr ⟨h, by omega⟩) (by decide)
    match j, hj with
    | 0, _ => exact k0 rfl
    | 1, _ => exact k1 rfl
    | 2, _ => exact k2 rfl
    | 3, _ => exact k3 rfl
    | 4, _ => exact k4 rfl

set_option maxHeartbeats 2000000 in
theorem p_count {G : tf_G} {S : tf_Sg} {o : Nat} {A : tf_A} (w : Int32) (ho : tf_mo G o) (hd : tf_md G o) (hA : tf_okA A) (hM : tf_ms G S o A)  : tf_pm mX11_count 1 G S o [.ref o, .int w] (s_count A w) := by
  obtain ⟨h1, ⟨r0, t0, n0⟩, ⟨r1, t1, n1⟩, ⟨r2, t2, n2⟩, ⟨r4, t4, n4⟩⟩ := id ho
  obtain ⟨hg, hb, hA3, hA4, hA5, hA6⟩ := id hA
  have hs := hM.1
  have hf : tf_sf G S o A.1 := ⟨hM.1, hb⟩
  obtain ⟨⟨g1, g2, g3, g4⟩, g5, g6, g7, g8, g9, g10, g11⟩ := id hg
  unfold s_count
  by_cases c1 : 10 < w
  · by_cases c2 : w < 17
    · rw [if_pos ⟨c1, c2⟩]
      refine ⟨S, tf_Fn_of (own := RX11) false ⟨by decide, rfl, by decide⟩ (Nat.le_of_ble_eq_true rfl) trivial (fun x hx hR => ?_), hM, tf_fm_id⟩
      show tf_K x 0 0 G S 0 [some (.ref o), some (.int w)] []
      have h6 : vp_in (w - 10) (tf_ln G (tf_rf G o 0)) := by rw [n0]; exact tf_cnt c1 c2
      refine tf_go hx ftX11_count 2 [] 3 [some (.ref o), some (.int w)] [.int 10, .int w] S rfl ⟨by decide, by decide, rfl⟩ trivial ?_
      refine tf_go hx ftX11_count 1 [false] 6 [some (.ref o), some (.int w)] [] S rfl ⟨by decide, by decide, rfl⟩ ⟨trivial, (fun h => absurd c1 (Int32.not_lt.mpr h))⟩ ?_
      refine tf_go hx ftX11_count 2 [] 9 [some (.ref o), some (.int w)] [.int 17, .int w] S rfl ⟨by decide, by decide, rfl⟩ trivial ?_
      refine tf_go hx ftX11_count 7 [false] 21 [some (.ref o), some (.int w)] [.int (S (tf_rf G o 0) (Int32.toNatClampNeg (w - 10)))] S rfl ⟨by decide, by decide, rfl⟩ ⟨⟨⟨trivial, (Int32.not_le.mpr c2)⟩, ⟨by first | assumption | rfl | decide | omega, by first | assumption | rfl | decide | omega⟩⟩, ⟨Or.inl (by first | assumption | rfl | decide | omega), by first | assumption | rfl | decide | omega⟩⟩ ?_
      exact tf_ret ftX11_count hR rfl ⟨by decide, by decide⟩ rfl rfl (by rw [hM.2.2.2.1]; rfl)
    · rw [if_neg (by rintro ⟨x1, x2⟩; exact c2 x2)]
      by_cases k0 : w = 0
      · rw [if_pos k0]
        subst k0
        refine ⟨S, tf_Fn_of (own := RX11) false ⟨by decide, rfl, by decide⟩ (Nat.le_of_ble_eq_true rfl) trivial (fun x hx hR => ?_), hM, tf_fm_id⟩
        show tf_K x 0 0 G S 0 [some (.ref o), some (.int 0)] []
        refine tf_go hx ftX11_count 2 [] 3 [some (.ref o), some (.int 0)] [.int 10, .int 0] S rfl ⟨by decide, by decide, rfl⟩ trivial ?_
        refine tf_go hx ftX11_count 1 [false] 6 [some (.ref o), some (.int 0)] [] S rfl ⟨by decide, by decide, rfl⟩ ⟨trivial, (fun h => absurd c1 (Int32.not_lt.mpr h))⟩ ?_
        refine tf_go hx ftX11_count 2 [] 9 [some (.ref o), some (.int 0)] [.int 17, .int 0] S rfl ⟨by decide, by decide, rfl⟩ trivial ?_
        refine tf_go hx ftX11_count 1 [true] 22 [some (.ref o), some (.int 0)] [] S rfl ⟨by decide, by decide, rfl⟩ ⟨trivial, (Int32.not_lt.mp c2)⟩ ?_
        refine tf_go hx ftX11_count 1 [] 23 [some (.ref o), some (.int 0)] [.int 0] S rfl ⟨by decide, by decide, rfl⟩ trivial ?_
        refine tf_swI hx ftX11_count 56 rfl ⟨by decide, by decide, rfl, by decide⟩ ?_
        refine tf_go hx ftX11_count 4 [] 64 [some (.ref o), some (.int 0)] [.int (S (tf_rf G o 1) (Int32.toNatClampNeg 364))] S rfl ⟨by decide, by decide, rfl⟩ ⟨⟨trivial, ⟨by first | assumption | rfl | decide | omega, by first | assumption | rfl | decide | omega⟩⟩, ⟨Or.inl (by first | assumption | rfl | decide | omega), by first | assumption | exact tf_in (n := 364) (rfl : (364 : Int32) = nI 364) (by first | assumption | rfl) (by omega) (by decide)⟩⟩ ?_
        rw [show (S (tf_rf G o 1) (Int32.toNatClampNeg 364)) = nI (A.1 364) from (tf_rd hs (rfl : (364 : Int32) = nI 364) (by omega))]
        exact tf_ret ftX11_count hR rfl ⟨by decide, by decide⟩ rfl rfl rfl
      · by_cases k1 : w = 1
        · rw [if_neg k0, if_pos k1]
          subst k1
          refine ⟨S, tf_Fn_of (own := RX11) false ⟨by decide, rfl, by decide⟩ (Nat.le_of_ble_eq_true rfl) trivial (fun x hx hR => ?_), hM, tf_fm_id⟩
          show tf_K x 0 0 G S 0 [some (.ref o), some (.int 1)] []
          refine tf_go hx ftX11_count 2 [] 3 [some (.ref o), some (.int 1)] [.int 10, .int 1] S rfl ⟨by decide, by decide, rfl⟩ trivial ?_
          refine tf_go hx ftX11_count 1 [false] 6 [some (.ref o), some (.int 1)] [] S rfl ⟨by decide, by decide, rfl⟩ ⟨trivial, (fun h => absurd c1 (Int32.not_lt.mpr h))⟩ ?_
          refine tf_go hx ftX11_count 2 [] 9 [some (.ref o), some (.int 1)] [.int 17, .int 1] S rfl ⟨by decide, by decide, rfl⟩ trivial ?_
          refine tf_go hx ftX11_count 1 [true] 22 [some (.ref o), some (.int 1)] [] S rfl ⟨by decide, by decide, rfl⟩ ⟨trivial, (Int32.not_lt.mp c2)⟩ ?_
          refine tf_go hx ftX11_count 1 [] 23 [some (.ref o), some (.int 1)] [.int 1] S rfl ⟨by decide, by decide, rfl⟩ trivial ?_
          refine tf_swI hx ftX11_count 65 rfl ⟨by decide, by decide, rfl, by decide⟩ ?_
          refine tf_go hx ftX11_count 4 [] 73 [some (.ref o), some (.int 1)] [.int (S (tf_rf G o 1) (Int32.toNatClampNeg 365))] S rfl ⟨by decide, by decide, rfl⟩ ⟨⟨trivial, ⟨by first | assumption | rfl | decide | omega, by first | assumption | rfl | decide | omega⟩⟩, ⟨Or.inl (by first | assumption | rfl | decide | omega), by first | assumption | exact tf_in (n := 365) (rfl : (365 : Int32) = nI 365) (by first | assumption | rfl) (by omega) (by decide)⟩⟩ ?_
          rw [show (S (tf_rf G o 1) (Int32.toNatClampNeg 365)) = nI (A.1 365) from (tf_rd hs (rfl : (365 : Int32) = nI 365) (by omega))]
          exact tf_ret ftX11_count hR rfl ⟨by decide, by decide⟩ rfl rfl rfl
        · by_cases k2 : w = 2
          · rw [if_neg k0, if_neg k1, if_pos k2]
            subst k2
            refine ⟨S, tf_Fn_of (own := RX11) false ⟨by decide, rfl, by decide⟩ (Nat.le_of_ble_eq_true rfl) trivial (fun x hx hR => ?_), hM, tf_fm_id⟩
            show tf_K x 0 0 G S 0 [some (.ref o), some (.int 2)] []
            refine tf_go hx ftX11_count 2 [] 3 [some (.ref o), some (.int 2)] [.int 10, .int 2] S rfl ⟨by decide, by decide, rfl⟩ trivial ?_
            refine tf_go hx ftX11_count 1 [false] 6 [some (.ref o), some (.int 2)] [] S rfl ⟨by decide, by decide, rfl⟩ ⟨trivial, (fun h => absurd c1 (Int32.not_lt.mpr h))⟩ ?_
            refine tf_go hx ftX11_count 2 [] 9 [some (.ref o), some (.int 2)] [.int 17, .int 2] S rfl ⟨by decide, by decide, rfl⟩ trivial ?_
            refine tf_go hx ftX11_count 1 [true] 22 [some (.ref o), some (.int 2)] [] S rfl ⟨by decide, by decide, rfl⟩ ⟨trivial, (Int32.not_lt.mp c2)⟩ ?_
            refine tf_go hx ftX11_count 1 [] 23 [some (.ref o), some (.int 2)] [.int 2] S rfl ⟨by decide, by decide, rfl⟩ trivial ?_
            refine tf_swI hx ftX11_count 74 rfl ⟨by decide, by decide, rfl, by decide⟩ ?_
            refine tf_go hx ftX11_count 4 [] 82 [some (.ref o), some (.int 2)] [.int (S (tf_rf G o 1) (Int32.toNatClampNeg 366))] S rfl ⟨by decide, by decide, rfl⟩ ⟨⟨trivial, ⟨by first | assumption | rfl | decide | omega, by first | assumption | rfl | decide | omega⟩⟩, ⟨Or.inl (by first | assumption | rfl | decide | omega), by first | assumption | exact tf_in (n := 366) (rfl : (366 : Int32) = nI 366) (by first | assumption | rfl) (by omega) (by decide)⟩⟩ ?_
            rw [show (S (tf_rf G o 1) (Int32.toNatClampNeg 366)) = nI (A.1 366) from (tf_rd hs (rfl : (366 : Int32) = nI 366) (by omega))]
            exact tf_ret ftX11_count hR rfl ⟨by decide, by decide⟩ rfl rfl rfl
          · by_cases k3 : w = 3
            · rw [if_neg k0, if_neg k1, if_neg k2, if_pos k3]
              subst k3
              refine ⟨S, tf_Fn_of (own := RX11) false ⟨by decide, rfl, by decide⟩ (Nat.le_of_ble_eq_true rfl) trivial (fun x hx hR => ?_), hM, tf_fm_id⟩
              show tf_K x 0 0 G S 0 [some (.ref o), some (.int 3)] []
              refine tf_go hx ftX11_count 2 [] 3 [some (.ref o), some (.int 3)] [.int 10, .int 3] S rfl ⟨by decide, by decide, rfl⟩ trivial ?_
              refine tf_go hx ftX11_count 1 [false] 6 [some (.ref o), some (.int 3)] [] S rfl ⟨by decide, by decide, rfl⟩ ⟨trivial, (fun h => absurd c1 (Int32.not_lt.mpr h))⟩ ?_
              refine tf_go hx ftX11_count 2 [] 9 [some (.ref o), some (.int 3)] [.int 17, .int 3] S rfl ⟨by decide, by decide, rfl⟩ trivial ?_
              refine tf_go hx ftX11_count 1 [true] 22 [some (.ref o), some (.int 3)] [] S rfl ⟨by decide, by decide, rfl⟩ ⟨trivial, (Int32.not_lt.mp c2)⟩ ?_
              refine tf_go hx ftX11_count 1 [] 23 [some (.ref o), some (.int 3)] [.int 3] S rfl ⟨by decide, by decide, rfl⟩ trivial ?_
              refine tf_swI hx ftX11_count 83 rfl ⟨by decide, by decide, rfl, by decide⟩ ?_
              refine tf_go hx ftX11_count 4 [] 91 [some (.ref o), some (.int 3)] [.int (S (tf_rf G o 1) (Int32.toNatClampNeg 367))] S rfl ⟨by decide, by decide, rfl⟩ ⟨⟨trivial, ⟨by first | assumption | rfl | decide | omega, by first | assumption | rfl | decide | omega⟩⟩, ⟨Or.inl (by first | assumption | rfl | decide | omega), by first | assumption | exact tf_in (n := 367) (rfl : (367 : Int32) = nI 367) (by first | assumption | rfl) (by omega) (by decide)⟩⟩ ?_
              rw [show (S (tf_rf G o 1) (Int32.toNatClampNeg 367)) = nI (A.1 367) from (tf_rd hs (rfl : (367 : Int32) = nI 367) (by omega))]
              exact tf_ret ftX11_count hR rfl ⟨by decide, by decide⟩ rfl rfl rfl
            · by_cases k4 : w = 4
              · rw [if_neg k0, if_neg k1, if_neg k2, if_neg k3, if_pos k4]
                subst k4
                refine ⟨S, tf_Fn_of (own := RX11) false ⟨by decide, rfl, by decide⟩ (Nat.le_of_ble_eq_true rfl) trivial (fun x hx hR => ?_), hM, tf_fm_id⟩
                show tf_K x 0 0 G S 0 [some (.ref o), some (.int 4)] []
                refine tf_go hx ftX11_count 2 [] 3 [some (.ref o), some (.int 4)] [.int 10, .int 4] S rfl ⟨by decide, by decide, rfl⟩ trivial ?_
                refine tf_go hx ftX11_count 1 [false] 6 [some (.ref o), some (.int 4)] [] S rfl ⟨by decide, by decide, rfl⟩ ⟨trivial, (fun h => absurd c1 (Int32.not_lt.mpr h))⟩ ?_
                refine tf_go hx ftX11_count 2 [] 9 [some (.ref o), some (.int 4)] [.int 17, .int 4] S rfl ⟨by decide, by decide, rfl⟩ trivial ?_
                refine tf_go hx ftX11_count 1 [true] 22 [some (.ref o), some (.int 4)] [] S rfl ⟨by decide, by decide, rfl⟩ ⟨trivial, (Int32.not_lt.mp c2)⟩ ?_
                refine tf_go hx ftX11_count 1 [] 23 [some (.ref o), some (.int 4)] [.int 4] S rfl ⟨by decide, by decide, rfl⟩ trivial ?_
                refine tf_swI hx ftX11_count 92 rfl ⟨by decide, by decide, rfl, by decide⟩ ?_
                refine tf_go hx ftX11_count 2 [] 96 [some (.ref o), some (.int 4)] [.int (S o 5)] S rfl ⟨by decide, by decide, rfl⟩ ⟨trivial, (by first | assumption | rfl | decide | omega)⟩ ?_
                rw [show (S o 5) = nI A.2.2.1 from hM.2.2.1]
                exact tf_ret ftX11_count hR rfl ⟨by decide, by decide⟩ rfl rfl rfl
              · rw [if_neg k0, if_neg k1, if_neg k2, if_neg k3, if_neg k4]
                refine ⟨S, tf_Fn_of (own := RX11) false ⟨by decide, rfl, by decide⟩ (Nat.le_of_ble_eq_true rfl) trivial (fun x hx hR => ?_), hM, tf_fm_id⟩
                show tf_K x 0 0 G S 0 [some (.ref o), some (.int w)] []
                refine tf_go hx ftX11_count 2 [] 3 [some (.ref o), some (.int w)] [.int 10, .int w] S rfl ⟨by decide, by decide, rfl⟩ trivial ?_
                refine tf_go hx ftX11_count 1 [false] 6 [some (.ref o), some (.int w)] [] S rfl ⟨by decide, by decide, rfl⟩ ⟨trivial, (fun h => absurd c1 (Int32.not_lt.mpr h))⟩ ?_
                refine tf_go hx ftX11_count 2 [] 9 [some (.ref o), some (.int w)] [.int 17, .int w] S rfl ⟨by decide, by decide, rfl⟩ trivial ?_
                refine tf_go hx ftX11_count 1 [true] 22 [some (.ref o), some (.int w)] [] S rfl ⟨by decide, by decide, rfl⟩ ⟨trivial, (Int32.not_lt.mp c2)⟩ ?_
                refine tf_go hx ftX11_count 1 [] 23 [some (.ref o), some (.int w)] [.int w] S rfl ⟨by decide, by decide, rfl⟩ trivial ?_
                refine tf_swO hx ftX11_count 97 rfl ⟨tf_out5 k0 k1 k2 k3 k4, by decide⟩ ?_
                refine tf_go hx ftX11_count 1 [] 99 [some (.ref o), some (.int w)] [.int (-9)] S rfl ⟨by decide, by decide, rfl⟩ trivial ?_
                exact tf_ret ftX11_count hR rfl ⟨by decide, by decide⟩ rfl rfl rfl
  · rw [if_neg (by rintro ⟨x1, x2⟩; exact c1 x1)]
    by_cases k0 : w = 0
    · rw [if_pos k0]
      subst k0
      refine ⟨S, tf_Fn_of (own := RX11) false ⟨by decide, rfl, by decide⟩ (Nat.le_of_ble_eq_true rfl) trivial (fun x hx hR => ?_), hM, tf_fm_id⟩
      show tf_K x 0 0 G S 0 [some (.ref o), some (.int 0)] []
      refine tf_go hx ftX11_count 2 [] 3 [some (.ref o), some (.int 0)] [.int 10, .int 0] S rfl ⟨by decide, by decide, rfl⟩ trivial ?_
      refine tf_go hx ftX11_count 1 [true] 22 [some (.ref o), some (.int 0)] [] S rfl ⟨by decide, by decide, rfl⟩ ⟨trivial, (Int32.not_lt.mp c1)⟩ ?_
      refine tf_go hx ftX11_count 1 [] 23 [some (.ref o), some (.int 0)] [.int 0] S rfl ⟨by decide, by decide, rfl⟩ trivial ?_
      refine tf_swI hx ftX11_count 56 rfl ⟨by decide, by decide, rfl, by decide⟩ ?_
      refine tf_go hx ftX11_count 4 [] 64 [some (.ref o), some (.int 0)] [.int (S (tf_rf G o 1) (Int32.toNatClampNeg 364))] S rfl ⟨by decide, by decide, rfl⟩ ⟨⟨trivial, ⟨by first | assumption | rfl | decide | omega, by first | assumption | rfl | decide | omega⟩⟩, ⟨Or.inl (by first | assumption | rfl | decide | omega), by first | assumption | exact tf_in (n := 364) (rfl : (364 : Int32) = nI 364) (by first | assumption | rfl) (by omega) (by decide)⟩⟩ ?_
      rw [show (S (tf_rf G o 1) (Int32.toNatClampNeg 364)) = nI (A.1 364) from (tf_rd hs (rfl : (364 : Int32) = nI 364) (by omega))]
      exact tf_ret ftX11_count hR rfl ⟨by decide, by decide⟩ rfl rfl rfl
    · by_cases k1 : w = 1
      · rw [if_neg k0, if_pos k1]
        subst k1
        refine ⟨S, tf_Fn_of (own := RX11) false ⟨by decide, rfl, by decide⟩ (Nat.le_of_ble_eq_true rfl) trivial (fun x hx hR => ?_), hM, tf_fm_id⟩
        show tf_K x 0 0 G S 0 [some (.ref o), some (.int 1)] []
        refine tf_go hx ftX11_count 2 [] 3 [some (.ref o), some (.int 1)] [.int 10, .int 1] S rfl ⟨by decide, by decide, rfl⟩ trivial ?_
        refine tf_go hx ftX11_count 1 [true] 22 [some (.ref o), some (.int 1)] [] S rfl ⟨by decide, by decide, rfl⟩ ⟨trivial, (Int32.not_lt.mp c1)⟩ ?_
        refine tf_go hx ftX11_count 1 [] 23 [some (.ref o), some (.int 1)] [.int 1] S rfl ⟨by decide, by decide, rfl⟩ trivial ?_
        refine tf_swI hx ftX11_count 65 rfl ⟨by decide, by decide, rfl, by decide⟩ ?_
        refine tf_go hx ftX11_count 4 [] 73 [some (.ref o), some (.int 1)] [.int (S (tf_rf G o 1) (Int32.toNatClampNeg 365))] S rfl ⟨by decide, by decide, rfl⟩ ⟨⟨trivial, ⟨by first | assumption | rfl | decide | omega, by first | assumption | rfl | decide | omega⟩⟩, ⟨Or.inl (by first | assumption | rfl | decide | omega), by first | assumption | exact tf_in (n := 365) (rfl : (365 : Int32) = nI 365) (by first | assumption | rfl) (by omega) (by decide)⟩⟩ ?_
        rw [show (S (tf_rf G o 1) (Int32.toNatClampNeg 365)) = nI (A.1 365) from (tf_rd hs (rfl : (365 : Int32) = nI 365) (by omega))]
        exact tf_ret ftX11_count hR rfl ⟨by decide, by decide⟩ rfl rfl rfl
      · by_cases k2 : w = 2
        · rw [if_neg k0, if_neg k1, if_pos k2]
          subst k2
          refine ⟨S, tf_Fn_of (own := RX11) false ⟨by decide, rfl, by decide⟩ (Nat.le_of_ble_eq_true rfl) trivial (fun x hx hR => ?_), hM, tf_fm_id⟩
          show tf_K x 0 0 G S 0 [some (.ref o), some (.int 2)] []
          refine tf_go hx ftX11_count 2 [] 3 [some (.ref o), some (.int 2)] [.int 10, .int 2] S rfl ⟨by decide, by decide, rfl⟩ trivial ?_
          refine tf_go hx ftX11_count 1 [true] 22 [some (.ref o), some (.int 2)] [] S rfl ⟨by decide, by decide, rfl⟩ ⟨trivial, (Int32.not_lt.mp c1)⟩ ?_
          refine tf_go hx ftX11_count 1 [] 23 [some (.ref o), some (.int 2)] [.int 2] S rfl ⟨by decide, by decide, rfl⟩ trivial ?_
          refine tf_swI hx ftX11_count 74 rfl ⟨by decide, by decide, rfl, by decide⟩ ?_
          refine tf_go hx ftX11_count 4 [] 82 [some (.ref o), some (.int 2)] [.int (S (tf_rf G o 1) (Int32.toNatClampNeg 366))] S rfl ⟨by decide, by decide, rfl⟩ ⟨⟨trivial, ⟨by first | assumption | rfl | decide | omega, by first | assumption | rfl | decide | omega⟩⟩, ⟨Or.inl (by first | assumption | rfl | decide | omega), by first | assumption | exact tf_in (n := 366) (rfl : (366 : Int32) = nI 366) (by first | assumption | rfl) (by omega) (by decide)⟩⟩ ?_
          rw [show (S (tf_rf G o 1) (Int32.toNatClampNeg 366)) = nI (A.1 366) from (tf_rd hs (rfl : (366 : Int32) = nI 366) (by omega))]
          exact tf_ret ftX11_count hR rfl ⟨by decide, by decide⟩ rfl rfl rfl
        · by_cases k3 : w = 3
          · rw [if_neg k0, if_neg k1, if_neg k2, if_pos k3]
            subst k3
            refine ⟨S, tf_Fn_of (own := RX11) false ⟨by decide, rfl, by decide⟩ (Nat.le_of_ble_eq_true rfl) trivial (fun x hx hR => ?_), hM, tf_fm_id⟩
            show tf_K x 0 0 G S 0 [some (.ref o), some (.int 3)] []
            refine tf_go hx ftX11_count 2 [] 3 [some (.ref o), some (.int 3)] [.int 10, .int 3] S rfl ⟨by decide, by decide, rfl⟩ trivial ?_
            refine tf_go hx ftX11_count 1 [true] 22 [some (.ref o), some (.int 3)] [] S rfl ⟨by decide, by decide, rfl⟩ ⟨trivial, (Int32.not_lt.mp c1)⟩ ?_
            refine tf_go hx ftX11_count 1 [] 23 [some (.ref o), some (.int 3)] [.int 3] S rfl ⟨by decide, by decide, rfl⟩ trivial ?_
            refine tf_swI hx ftX11_count 83 rfl ⟨by decide, by decide, rfl, by decide⟩ ?_
            refine tf_go hx ftX11_count 4 [] 91 [some (.ref o), some (.int 3)] [.int (S (tf_rf G o 1) (Int32.toNatClampNeg 367))] S rfl ⟨by decide, by decide, rfl⟩ ⟨⟨trivial, ⟨by first | assumption | rfl | decide | omega, by first | assumption | rfl | decide | omega⟩⟩, ⟨Or.inl (by first | assumption | rfl | decide | omega), by first | assumption | exact tf_in (n := 367) (rfl : (367 : Int32) = nI 367) (by first | assumption | rfl) (by omega) (by decide)⟩⟩ ?_
            rw [show (S (tf_rf G o 1) (Int32.toNatClampNeg 367)) = nI (A.1 367) from (tf_rd hs (rfl : (367 : Int32) = nI 367) (by omega))]
            exact tf_ret ftX11_count hR rfl ⟨by decide, by decide⟩ rfl rfl rfl
          · by_cases k4 : w = 4
            · rw [if_neg k0, if_neg k1, if_neg k2, if_neg k3, if_pos k4]
              subst k4
              refine ⟨S, tf_Fn_of (own := RX11) false ⟨by decide, rfl, by decide⟩ (Nat.le_of_ble_eq_true rfl) trivial (fun x hx hR => ?_), hM, tf_fm_id⟩
              show tf_K x 0 0 G S 0 [some (.ref o), some (.int 4)] []
              refine tf_go hx ftX11_count 2 [] 3 [some (.ref o), some (.int 4)] [.int 10, .int 4] S rfl ⟨by decide, by decide, rfl⟩ trivial ?_
              refine tf_go hx ftX11_count 1 [true] 22 [some (.ref o), some (.int 4)] [] S rfl ⟨by decide, by decide, rfl⟩ ⟨trivial, (Int32.not_lt.mp c1)⟩ ?_
              refine tf_go hx ftX11_count 1 [] 23 [some (.ref o), some (.int 4)] [.int 4] S rfl ⟨by decide, by decide, rfl⟩ trivial ?_
              refine tf_swI hx ftX11_count 92 rfl ⟨by decide, by decide, rfl, by decide⟩ ?_
              refine tf_go hx ftX11_count 2 [] 96 [some (.ref o), some (.int 4)] [.int (S o 5)] S rfl ⟨by decide, by decide, rfl⟩ ⟨trivial, (by first | assumption | rfl | decide | omega)⟩ ?_
              rw [show (S o 5) = nI A.2.2.1 from hM.2.2.1]
              exact tf_ret ftX11_count hR rfl ⟨by decide, by decide⟩ rfl rfl rfl
            · rw [if_neg k0, if_neg k1, if_neg k2, if_neg k3, if_neg k4]
              refine ⟨S, tf_Fn_of (own := RX11) false ⟨by decide, rfl, by decide⟩ (Nat.le_of_ble_eq_true rfl) trivial (fun x hx hR => ?_), hM, tf_fm_id⟩
              show tf_K x 0 0 G S 0 [some (.ref o), some (.int w)] []
              refine tf_go hx ftX11_count 2 [] 3 [some (.ref o), some (.int w)] [.int 10, .int w] S rfl ⟨by decide, by decide, rfl⟩ trivial ?_
              refine tf_go hx ftX11_count 1 [true] 22 [some (.ref o), some (.int w)] [] S rfl ⟨by decide, by decide, rfl⟩ ⟨trivial, (Int32.not_lt.mp c1)⟩ ?_
              refine tf_go hx ftX11_count 1 [] 23 [some (.ref o), some (.int w)] [.int w] S rfl ⟨by decide, by decide, rfl⟩ trivial ?_
              refine tf_swO hx ftX11_count 97 rfl ⟨tf_out5 k0 k1 k2 k3 k4, by decide⟩ ?_
              refine tf_go hx ftX11_count 1 [] 99 [some (.ref o), some (.int w)] [.int (-9)] S rfl ⟨by decide, by decide, rfl⟩ trivial ?_
              exact tf_ret ftX11_count hR rfl ⟨by decide, by decide⟩ rfl rfl rfl
end
section
/-! the calls with loops of their own -/
def tf_my (f : Nat → Nat) (b : Nat) : Nat → Nat → Int32 → Int32
  | 0, _, q => q
  | m + 1, k, q => tf_my f b m (k + 1) (if tf_wo f b k < 41 then q ||| ((1 : Int32) <<< (nI k &&& 31)) else q)
theorem tf_my_s {f : Nat → Nat} {b m k : Nat} {q : Int32} : tf_my f b (m + 1) k q = tf_my f b m (k + 1) (if tf_wo f b k < 41 then q ||| ((1 : Int32) <<< (nI k &&& 31)) else q) := rfl
def s_may (A : tf_A) (b : Int32) : tf_Q := if ¬ b < 0 ∧ ¬ 4 ≤ b then (tf_my A.1 b.toNatClampNeg 8 0 0, A) else (-1, tA_ref A 1)
/-- CLIMB -/
def tf_cm (h b : Nat) : Nat → Nat → (Nat → Nat) → Nat × (Nat → Nat)
  | 0, k, f => (k, f)
  | m + 1, k, f => if tf_be f h b < 3000 then tf_cm h b m (k + 1) (tf_ex f b (tf_be f h b / 100) (tf_be f h b % 100)) else (k, f)
theorem tf_cm_s {h b m k : Nat} {f : Nat → Nat} : tf_cm h b (m + 1) k f = if tf_be f h b < 3000 then tf_cm h b m (k + 1) (tf_ex f b (tf_be f h b / 100) (tf_be f h b % 100)) else (k, f) := rfl
def s_climb (A : tf_A) (h b n : Int32) : tf_Q := if (¬ h < 0 ∧ ¬ 4 ≤ h) ∧ (¬ b < 0 ∧ ¬ 4 ≤ b) then (if ¬ 1 ≤ n then (-4, tA_ref A 4) else if ¬ n ≤ 5 then (-6, tA_ref A 6) else (nI (tf_cm h.toNatClampNeg b.toNatClampNeg n.toNatClampNeg 0 A.1).1, tA_f A (tf_cm h.toNatClampNeg b.toNatClampNeg n.toNatClampNeg 0 A.1).2)) else (-1, tA_ref A 1)
def tf_bq (q : Nat) : Prop := q = 3000 ∨ (q / 100 < q % 100 ∧ q % 100 < 30)
theorem tf_b2_ok (f : Nat → Nat) (h b x : Nat) : ∀ m y q, y + m ≤ 30 → x < y → tf_bq q.1 → tf_bq (tf_b2 f h b x m y q).1
  | 0, _, _, _, _, hq => hq
  | m + 1, y, q, hy, hxy, hq => by
    rw [tf_b2_s]
    refine tf_b2_ok f h b x m (y + 1) _ (by omega) (by omega) ?_
    split
    · exact hq
    · split
      · exact hq
      · refine Or.inr ?_
        show (100 * x + y) / 100 < (100 * x + y) % 100 ∧ (100 * x + y) % 100 < 30
        omega
theorem tf_b1_ok (f : Nat → Nat) (h b : Nat) : ∀ m x q, x + m ≤ 30 → tf_bq q.1 → tf_bq (tf_b1 f h b m x q).1
  | 0, _, _, _, hq => hq
  | m + 1, x, q, hx, hq => by
    rw [tf_b1_s]
    exact tf_b1_ok f h b m (x + 1) _ (by omega) (tf_b2_ok f h b x _ _ _ (by omega) (by omega) hq)
theorem tf_be_ok (f : Nat → Nat) (h b : Nat) : tf_bq (tf_be f h b) := tf_b1_ok f h b 30 0 _ (by omega) (Or.inl rfl)
/-- A SUMMER: what is done by the end of the day -/
def tf_su (st ep ga : Nat) : Nat → Nat → Nat → Nat
  | 0, d, _ => d
  | m + 1, d, t => if 100 * (d + 1) ≤ t + (if 100 + ga < st + d * ep then 100 + ga else st + d * ep) then d else tf_su st ep ga m (d + 1) (t + (if 100 + ga < st + d * ep then 100 + ga else st + d * ep))
theorem tf_su_s {st ep ga m d t : Nat} : tf_su st ep ga (m + 1) d t = if 100 * (d + 1) ≤ t + (if 100 + ga < st + d * ep then 100 + ga else st + d * ep) then d else tf_su st ep ga m (d + 1) (t + (if 100 + ga < st + d * ep then 100 + ga else st + d * ep)) := rfl
def s_summer (A : tf_A) (st ep ga : Int32) : tf_Q := if st < 0 ∨ ep < 1 ∨ ga < 1 then (-4, tA_ref A 4) else if 99 < st ∨ 50 < ep ∨ 50 < ga then (-6, tA_ref A 6) else (tf_on 999 (tf_su st.toNatClampNeg ep.toNatClampNeg ga.toNatClampNeg 999 0 0), A)
/-- NEAREST -/
def tf_nb (f : Nat → Nat) (b : Nat) : Nat → Nat → Nat → Nat
  | 0, _, q => q
  | m + 1, h, q => tf_nb f b m (h + 1) (if tf_fa f h b < tf_fa f q b then h else q)
def tf_nu (f : Nat → Nat) (b q : Nat) : Nat → Nat → Bool
  | 0, _ => true
  | m + 1, h => if h ≠ q ∧ tf_fa f h b = tf_fa f q b then false else tf_nu f b q m (h + 1)
theorem tf_nb_s {f : Nat → Nat} {b m h q : Nat} : tf_nb f b (m + 1) h q = tf_nb f b m (h + 1) (if tf_fa f h b < tf_fa f q b then h else q) := rfl
theorem tf_nu_s {f : Nat → Nat} {b q m h : Nat} : tf_nu f b q (m + 1) h = if h ≠ q ∧ tf_fa f h b = tf_fa f q b then false else tf_nu f b q m (h + 1) := rfl
def s_nearest (A : tf_A) (b : Int32) : tf_Q := if ¬ b < 0 ∧ ¬ 4 ≤ b then (if A.1 367 = A.1 364 then (if tf_nu A.1 b.toNatClampNeg (tf_nb A.1 b.toNatClampNeg 3 1 0) 4 0 = true then (nI (tf_nb A.1 b.toNatClampNeg 3 1 0), A) else (-9, A)) else (-9, A)) else (-1, tA_ref A 1)
/-- SPAN -/
def tf_sc (f : Nat → Nat) (b l i : Nat) : Bool := decide (tf_ke f b (f (144 + i)) < 30) && decide (tf_ke f b (f (144 + i - 1)) < 30) && decide (tf_la (tf_ke f b (f (144 + i - 1))) (tf_ke f b (f (144 + i))) 0 = l) && !(decide (l = 1) && !decide (tf_ke f b (f (144 + i - 1)) / 10 = tf_ke f b (f (144 + i)) / 10))
def tf_sp (f : Nat → Nat) (b l g : Nat) : Nat → Nat → Nat → Nat
  | 0, _, q => q
  | m + 1, i, q => if i < f 367 ∧ i < f 364 then tf_sp f b l g m (i + 1) (if tf_sc f b l i = true then (if 10000 ≤ q ∨ (if g ≠ 0 then q < f (324 + i) else f (324 + i) < q) then f (324 + i) else q) else q) else q
theorem tf_sp_s {f : Nat → Nat} {b l g m i q : Nat} : tf_sp f b l g (m + 1) i q = if i < f 367 ∧ i < f 364 then tf_sp f b l g m (i + 1) (if tf_sc f b l i = true then (if 10000 ≤ q ∨ (if g ≠ 0 then q < f (324 + i) else f (324 + i) < q) then f (324 + i) else q) else q) else q := rfl
def s_span (A : tf_A) (b l : Int32) (g : Nat) : tf_Q := if ¬ b < 0 ∧ ¬ 4 ≤ b then (if ¬ l < 0 ∧ ¬ 3 ≤ l then (tf_on 10000 (tf_sp A.1 b.toNatClampNeg l.toNatClampNeg g 40 1 10000), A) else (-2, tA_ref A 2)) else (-1, tA_ref A 1)
/-- ACHE -/
def tf_as (f : Nat → Nat) (b c : Nat) : Nat → Nat → Nat
  | 0, _ => 0
  | m + 1, i => if i < f 364 then (if tf_ke f b (f (144 + i)) < 30 ∧ tf_fi (tf_ke f b (f (144 + i))) 0 = c then tf_ah f b i else 0) + tf_as f b c m (i + 1) else 0
theorem tf_as_s {f : Nat → Nat} {b c m i : Nat} : tf_as f b c (m + 1) i = if i < f 364 then (if tf_ke f b (f (144 + i)) < 30 ∧ tf_fi (tf_ke f b (f (144 + i))) 0 = c then tf_ah f b i else 0) + tf_as f b c m (i + 1) else 0 := rfl
def s_ache (A : tf_A) (b c : Int32) : tf_Q := if (¬ b < 0 ∧ ¬ 4 ≤ b) ∧ (¬ c < 0 ∧ ¬ 8 ≤ c) then (nI (tf_as A.1 b.toNatClampNeg c.toNatClampNeg 41 0), A) else (-1, tA_ref A 1)
/-- PAUSES: ahead of one letter; of all -/
def tf_pi (a l r : Nat) : Nat → Nat → Nat → Nat × Nat
  | 0, s, n => (s, n)
  | k + 1, s, n => if l < s + a then tf_pi a l r k (s - r) (n + 1) else (s, n)
theorem tf_pi_s {a l r k s n : Nat} : tf_pi a l r (k + 1) s n = if l < s + a then tf_pi a l r k (s - r) (n + 1) else (s, n) := rfl
def tf_pz (f : Nat → Nat) (b l r : Nat) : Nat → Nat → Nat → Nat → Nat
  | 0, _, _, n => n
  | m + 1, i, s, n => if i < f 364 then (if l < tf_ah f b i then 100000 else if l < s + tf_ah f b i ∧ r = 0 then 100000 else tf_pz f b l r m (i + 1) ((tf_pi (tf_ah f b i) l r (s + 1) s n).1 + tf_ah f b i) (tf_pi (tf_ah f b i) l r (s + 1) s n).2) else n
theorem tf_pz_s {f : Nat → Nat} {b l r m i s n : Nat} : tf_pz f b l r (m + 1) i s n = if i < f 364 then (if l < tf_ah f b i then 100000 else if l < s + tf_ah f b i ∧ r = 0 then 100000 else tf_pz f b l r m (i + 1) ((tf_pi (tf_ah f b i) l r (s + 1) s n).1 + tf_ah f b i) (tf_pi (tf_ah f b i) l r (s + 1) s n).2) else n := rfl
def s_pauses (A : tf_A) (b l r : Int32) : tf_Q := if ¬ b < 0 ∧ ¬ 4 ≤ b then (if l < 1 ∨ r < 0 then (-4, tA_ref A 4) else if 999 < l ∨ 999 < r then (-6, tA_ref A 6) else (tf_on 100000 (tf_pz A.1 b.toNatClampNeg l.toNatClampNeg r.toNatClampNeg 41 0 0 0), A)) else (-1, tA_ref A 1)
theorem tf_ah_le (f : Nat → Nat) (b i : Nat) : tf_ah f b i ≤ 3 := by unfold tf_ah; split; omega; split <;> omega
/-- SOONEST -/
def tf_sn (f : Nat → Nat) (h b d : Nat) : Nat → Nat → Nat → Nat
  | 0, _, q => q
  | m + 1, p, q => tf_sn f h b d m (p + 1) (if tf_pc f h b p d < tf_pc f h b q d then p else q)
theorem tf_sn_s {f : Nat → Nat} {h b d m p q : Nat} : tf_sn f h b d (m + 1) p q = tf_sn f h b d m (p + 1) (if tf_pc f h b p d < tf_pc f h b q d then p else q) := rfl
def s_soonest (A : tf_A) (h b d : Int32) : tf_Q := if (¬ h < 0 ∧ ¬ 4 ≤ h) ∧ (¬ b < 0 ∧ ¬ 4 ≤ b) then (if ¬ 0 ≤ d then (-4, tA_ref A 4) else if ¬ d ≤ 9999 then (-6, tA_ref A 6) else (nI (tf_sn A.1 h.toNatClampNeg b.toNatClampNeg d.toNatClampNeg 8 2 1), A)) else (-1, tA_ref A 1)
theorem tf_pc_le {f : Nat → Nat} (hg : tf_gd f) {h b p d : Nat} (hh : h < 4) (hp : p ≤ 9) (hd : d ≤ 9999) : tf_pc f h b p d ≤ 480000 + 32 * 9999 := by
  have t1 := tf_tm_le hg (b := b) (t := 0) hh
  have g1 := hg.1.1
  have q1 := Nat.mul_le_mul g1 hp
  have q2 := Nat.mul_le_mul q1 hp
  have q3 := Nat.mul_le_mul (show f 364 * p * p / 100 ≤ 32 by omega) hd
  have q4 : tf_tm f h b 0 * 10 / (10 + p) ≤ 480000 := by
    refine Nat.le_trans (Nat.div_le_div_left (show 10 ≤ 10 + p by omega) (by decide)) ?_
    omega
  unfold tf_pc
  omega
/-- the rows copied by image and on -/
def tf_mx (f g : Nat → Nat) (n : Nat) : Nat → Nat := fun j => if j < n then f j else g j
theorem tf_mx_s {f g : Nat → Nat} {n : Nat} : tf_u (tf_mx f g n) n (f n) = tf_mx f g (n + 1) := by
  funext j
  unfold tf_u tf_mx
  by_cases h : j = n
  · subst h; rw [if_pos rfl, if_pos (by omega)]
  · rw [if_neg h]
    by_cases h2 : j < n
    · rw [if_pos h2, if_pos (by omega)]
    · rw [if_neg h2, if_neg (by omega)]
theorem tf_mx_0 {f g : Nat → Nat} : tf_mx f g 0 = g := by funext j; unfold tf_mx; rw [if_neg (by omega)]
def s_image (A : tf_A) : tf_Q := (nI (A.1 366), (A.1, A.2.1, A.2.2.1, A.2.2.2.1, tf_mx A.1 A.2.2.2.2.1 368, 1))
def s_on (A : tf_A) : tf_Q := if A.2.2.2.2.2 = 0 then (-3, tA_ref A 3) else (nI (A.2.2.2.2.1 366), tA_f A (tf_mx A.2.2.2.2.1 A.1 368))
theorem tf_fl2_le {f : Nat → Nat} (hg : tf_gd f) (hb : ∀ k, f k < 10000) {h b : Nat} (hh : h < 4) : ∀ m i, tf_fl2 f h b m i ≤ 12001 * m
  | 0, i => Nat.le_refl _
  | m + 1, i => by
    rw [tf_fl2_s]
    split
    · have h1 := tf_fl2_le hg hb (b := b) hh m (i + 1)
      have h2 := tf_di_le (show f (324 + i) < 12001 by have := hb (324 + i); omega) (show tf_gt f h b i 0 < 12001 by have := tf_gt_le hg (b := b) (i := i) (t := 0) hh; omega)
      omega
    · exact Nat.zero_le _
theorem tf_fa_le {f : Nat → Nat} (hg : tf_gd f) (hb : ∀ k, f k < 10000) {h b : Nat} (hh : h < 4) : tf_fa f h b ≤ 2000000 := by
  have := tf_fl2_le hg hb (b := b) hh 41 0
  unfold tf_fa
  omega
end
section
def tX11_may : tf_T := [(0, .iload_n 1, 1, 0, 0),
  (1, .invokestatic 40, 4, 0, 0),
  (4, .ifCond .ne 9, 7, 13, 0),
  (7, .aload_n 0, 8, 0, 0),
  (8, .iconst (-1), 9, 0, (-1)),
  (9, .invokevirtual 26, 12, 0, 0),
  (12, .ireturn, 13, 0, 0),
  (13, .iconst 0, 14, 0, 0),
  (14, .istore_n 2, 15, 0, 0),
  (15, .iconst 0, 16, 0, 0),
  (16, .istore_n 3, 17, 0, 0),
  (17, .iload_n 3, 18, 0, 0),
  (18, .bipush 8, 20, 0, 8),
  (20, .if_icmp .ge 28, 23, 48, 0),
  (23, .iload_n 2, 24, 0, 0),
  (24, .aload_n 0, 25, 0, 0),
  (25, .iload_n 1, 26, 0, 0),
  (26, .iload_n 3, 27, 0, 0),
  (27, .invokevirtual 116, 30, 0, 0),
  (30, .ifCond .lt 9, 33, 39, 0),
  (33, .iconst 1, 34, 0, 1),
  (34, .iload_n 3, 35, 0, 0),
  (35, .ishl, 36, 0, 0),
  (36, .goto 4, 39, 40, 0),
  (39, .iconst 0, 40, 0, 0),
  (40, .ior, 41, 0, 0),
  (41, .istore_n 2, 42, 0, 0),
  (42, .iinc 3 1, 45, 0, 1),
  (45, .goto (-28), 48, 17, 0),
  (48, .iload_n 2, 49, 0, 0),
  (49, .ireturn, 50, 0, 0)]
set_option maxRecDepth 100000 in
theorem okX11_may : tf_okT cX11_may tX11_may := by unfold tf_okT; decide +kernel
theorem ftX11_may : 1 ≤ 4 ∧ tf_okF RX11 fX11 ∧ tf_okT cX11_may tX11_may := ⟨by decide, okfX11, okX11_may⟩
def mX11_may : tf_M := (yX11_may, cX11_may, 4, (some .int))

def tX11_climb : tf_T := [(0, .iload_n 1, 1, 0, 0),
  (1, .invokestatic 62, 4, 0, 0),
  (4, .ifCond .eq 19, 7, 23, 0),
  (7, .iload_n 2, 8, 0, 0),
  (8, .invokestatic 40, 11, 0, 0),
  (11, .ifCond .eq 12, 14, 23, 0),
  (14, .iload_n 3, 15, 0, 0),
  (15, .iconst 1, 16, 0, 1),
  (16, .iconst 5, 17, 0, 5),
  (17, .invokestatic 65, 20, 0, 0),
  (20, .goto 4, 23, 24, 0),
  (23, .iconst (-1), 24, 0, (-1)),
  (24, .istore 4, 26, 0, 0),
  (26, .iload 4, 28, 0, 0),
  (28, .ifCond .eq 10, 31, 38, 0),
  (31, .aload_n 0, 32, 0, 0),
  (32, .iload 4, 34, 0, 0),
  (34, .invokevirtual 26, 37, 0, 0),
  (37, .ireturn, 38, 0, 0),
  (38, .iconst 0, 39, 0, 0),
  (39, .istore 5, 41, 0, 0),
  (41, .iload 5, 43, 0, 0),
  (43, .iload_n 3, 44, 0, 0),
  (44, .if_icmp .ge 40, 47, 84, 0),
  (47, .aload_n 0, 48, 0, 0),
  (48, .iload_n 1, 49, 0, 0),
  (49, .iload_n 2, 50, 0, 0),
  (50, .invokevirtual 123, 53, 0, 0),
  (53, .istore 6, 55, 0, 0),
  (55, .iload 6, 57, 0, 0),
  (57, .ifCond .ge 6, 60, 63, 0),
  (60, .iload 5, 62, 0, 0),
  (62, .ireturn, 63, 0, 0),
  (63, .aload_n 0, 64, 0, 0),
  (64, .iload_n 2, 65, 0, 0),
  (65, .iload 6, 67, 0, 0),
  (67, .bipush 100, 69, 0, 100),
  (69, .idiv, 70, 0, 0),
  (70, .iload 6, 72, 0, 0),
  (72, .bipush 100, 74, 0, 100),
  (74, .irem, 75, 0, 0),
  (75, .invokevirtual 119, 78, 0, 0),
  (78, .iinc 5 1, 81, 0, 1),
  (81, .goto (-40), 84, 41, 0),
  (84, .iload_n 3, 85, 0, 0),
  (85, .ireturn, 86, 0, 0)]
set_option maxRecDepth 100000 in
theorem okX11_climb : tf_okT cX11_climb tX11_climb := by unfold tf_okT; decide +kernel
theorem ftX11_climb : 1 ≤ 7 ∧ tf_okF RX11 fX11 ∧ tf_okT cX11_climb tX11_climb := ⟨by decide, okfX11, okX11_climb⟩
def mX11_climb : tf_M := (yX11_climb, cX11_climb, 7, (some .int))

def tX11_summer : tf_T := [(0, .iload_n 1, 1, 0, 0),
  (1, .ifCond .lt 13, 4, 14, 0),
  (4, .iload_n 2, 5, 0, 0),
  (5, .iconst 1, 6, 0, 1),
  (6, .if_icmp .lt 8, 9, 14, 0),
  (9, .iload_n 3, 10, 0, 0),
  (10, .iconst 1, 11, 0, 1),
  (11, .if_icmp .ge 10, 14, 21, 0),
  (14, .aload_n 0, 15, 0, 0),
  (15, .bipush (-4), 17, 0, (-4)),
  (17, .invokevirtual 26, 20, 0, 0),
  (20, .ireturn, 21, 0, 0),
  (21, .iload_n 1, 22, 0, 0),
  (22, .bipush 99, 24, 0, 99),
  (24, .if_icmp .gt 15, 27, 39, 0),
  (27, .iload_n 2, 28, 0, 0),
  (28, .bipush 50, 30, 0, 50),
  (30, .if_icmp .gt 9, 33, 39, 0),
  (33, .iload_n 3, 34, 0, 0),
  (34, .bipush 50, 36, 0, 50),
  (36, .if_icmp .le 10, 39, 46, 0),
  (39, .aload_n 0, 40, 0, 0),
  (40, .bipush (-6), 42, 0, (-6)),
  (42, .invokevirtual 26, 45, 0, 0),
  (45, .ireturn, 46, 0, 0),
  (46, .iconst 0, 47, 0, 0),
  (47, .istore 4, 49, 0, 0),
  (49, .iconst 0, 50, 0, 0),
  (50, .istore 5, 52, 0, 0),
  (52, .iload 5, 54, 0, 0),
  (54, .sipush 999, 57, 0, 999),
  (57, .if_icmp .ge 51, 60, 108, 0),
  (60, .iload_n 1, 61, 0, 0),
  (61, .iload 5, 63, 0, 0),
  (63, .iload_n 2, 64, 0, 0),
  (64, .imul, 65, 0, 0),
  (65, .iadd, 66, 0, 0),
  (66, .istore 6, 68, 0, 0),
  (68, .iload 4, 70, 0, 0),
  (70, .iload 6, 72, 0, 0),
  (72, .bipush 100, 74, 0, 100),
  (74, .iload_n 3, 75, 0, 0),
  (75, .iadd, 76, 0, 0),
  (76, .if_icmp .le 10, 79, 86, 0),
  (79, .bipush 100, 81, 0, 100),
  (81, .iload_n 3, 82, 0, 0),
  (82, .iadd, 83, 0, 0),
  (83, .goto 5, 86, 88, 0),
  (86, .iload 6, 88, 0, 0),
  (88, .bipush 100, 90, 0, 100),
  (90, .isub, 91, 0, 0),
  (91, .iadd, 92, 0, 0),
  (92, .istore 4, 94, 0, 0),
  (94, .iload 4, 96, 0, 0),
  (96, .ifCond .lt 6, 99, 102, 0),
  (99, .iload 5, 101, 0, 0),
  (101, .ireturn, 102, 0, 0),
  (102, .iinc 5 1, 105, 0, 1),
  (105, .goto (-53), 108, 52, 0),
  (108, .bipush (-9), 110, 0, (-9)),
  (110, .ireturn, 111, 0, 0)]
set_option maxRecDepth 100000 in
theorem okX11_summer : tf_okT cX11_summer tX11_summer := by unfold tf_okT; decide +kernel
theorem ftX11_summer : 1 ≤ 2 ∧ tf_okF RX11 fX11 ∧ tf_okT cX11_summer tX11_summer := ⟨by decide, okfX11, okX11_summer⟩
def mX11_summer : tf_M := (yX11_summer, cX11_summer, 7, (some .int))

def tX11_nearest : tf_T := [(0, .iload_n 1, 1, 0, 0),
  (1, .invokestatic 40, 4, 0, 0),
  (4, .ifCond .ne 9, 7, 13, 0),
  (7, .aload_n 0, 8, 0, 0),
  (8, .iconst (-1), 9, 0, (-1)),
  (9, .invokevirtual 26, 12, 0, 0),
  (12, .ireturn, 13, 0, 0),
  (13, .aload_n 0, 14, 0, 0),
  (14, .getfield 13, 17, 0, 0),
  (17, .sipush 367, 20, 0, 367),
  (20, .iaload, 21, 0, 0),
  (21, .aload_n 0, 22, 0, 0),
  (22, .getfield 13, 25, 0, 0),
  (25, .sipush 364, 28, 0, 364),
  (28, .iaload, 29, 0, 0),
  (29, .if_icmp .eq 6, 32, 35, 0),
  (32, .bipush (-9), 34, 0, (-9)),
  (34, .ireturn, 35, 0, 0),
  (35, .iconst 0, 36, 0, 0),
  (36, .istore_n 2, 37, 0, 0),
  (37, .iconst 1, 38, 0, 1),
  (38, .istore_n 3, 39, 0, 0),
  (39, .iload_n 3, 40, 0, 0),
  (40, .iconst 4, 41, 0, 4),
  (41, .if_icmp .ge 30, 44, 71, 0),
  (44, .aload_n 0, 45, 0, 0),
  (45, .iload_n 3, 46, 0, 0),
  (46, .iload_n 1, 47, 0, 0),
  (47, .invokevirtual 126, 50, 0, 0),
  (50, .aload_n 0, 51, 0, 0),
  (51, .iload_n 2, 52, 0, 0),
  (52, .iload_n 1, 53, 0, 0),
  (53, .invokevirtual 126, 56, 0, 0),
  (56, .if_icmp .ge 7, 59, 63, 0),
  (59, .iload_n 3, 60, 0, 0),
  (60, .goto 4, 63, 64, 0),
  (63, .iload_n 2, 64, 0, 0),
  (64, .istore_n 2, 65, 0, 0),
  (65, .iinc 3 1, 68, 0, 1),
  (68, .goto (-29), 71, 39, 0),
  (71, .iconst 0, 72, 0, 0),
  (72, .istore_n 3, 73, 0, 0),
  (73, .iload_n 3, 74, 0, 0),
  (74, .iconst 4, 75, 0, 4),
  (75, .if_icmp .ge 32, 78, 107, 0),
  (78, .iload_n 3, 79, 0, 0),
  (79, .iload_n 2, 80, 0, 0),
  (80, .if_icmp .eq 21, 83, 101, 0),
  (83, .aload_n 0, 84, 0, 0),
  (84, .iload_n 3, 85, 0, 0),
  (85, .iload_n 1, 86, 0, 0),
  (86, .invokevirtual 126, 89, 0, 0),
  (89, .aload_n 0, 90, 0, 0),
  (90, .iload_n 2, 91, 0, 0),
  (91, .iload_n 1, 92, 0, 0),
  (92, .invokevirtual 126, 95, 0, 0),
  (95, .if_icmp .ne 6, 98, 101, 0),
  (98, .bipush (-9), 100, 0, (-9)),
  (100, .ireturn, 101, 0, 0),
  (101, .iinc 3 1, 104, 0, 1),
  (104, .goto (-31), 107, 73, 0),
  (107, .iload_n 2, 108, 0, 0),
  (108, .ireturn, 109, 0, 0)]
set_option maxRecDepth 100000 in
theorem okX11_nearest : tf_okT cX11_nearest tX11_nearest := by unfold tf_okT; decide +kernel
theorem ftX11_nearest : 1 ≤ 6 ∧ tf_okF RX11 fX11 ∧ tf_okT cX11_nearest tX11_nearest := ⟨by decide, okfX11, okX11_nearest⟩
def mX11_nearest : tf_M := (yX11_nearest, cX11_nearest, 4, (some .int))

def tX11_span : tf_T := [(0, .iload_n 1, 1, 0, 0),
  (1, .invokestatic 40, 4, 0, 0),
  (4, .ifCond .ne 9, 7, 13, 0),
  (7, .aload_n 0, 8, 0, 0),
  (8, .iconst (-1), 9, 0, (-1)),
  (9, .invokevirtual 26, 12, 0, 0),
  (12, .ireturn, 13, 0, 0),
  (13, .iload_n 2, 14, 0, 0),
  (14, .iconst 3, 15, 0, 3),
  (15, .invokestatic 22, 18, 0, 0),
  (18, .ifCond .ne 10, 21, 28, 0),
  (21, .aload_n 0, 22, 0, 0),
  (22, .bipush (-2), 24, 0, (-2)),
  (24, .invokevirtual 26, 27, 0, 0),
  (27, .ireturn, 28, 0, 0),
  (28, .bipush (-9), 30, 0, (-9)),
  (30, .istore 4, 32, 0, 0),
  (32, .iconst 1, 33, 0, 1),
  (33, .istore 5, 35, 0, 0),
  (35, .iload 5, 37, 0, 0),
  (37, .aload_n 0, 38, 0, 0),
  (38, .getfield 13, 41, 0, 0),
  (41, .sipush 367, 44, 0, 367),
  (44, .iaload, 45, 0, 0),
  (45, .if_icmp .ge 151, 48, 196, 0),
  (48, .iload 5, 50, 0, 0),
  (50, .aload_n 0, 51, 0, 0),
  (51, .getfield 13, 54, 0, 0),
  (54, .sipush 364, 57, 0, 364),
  (57, .iaload, 58, 0, 0),
  (58, .if_icmp .ge 138, 61, 196, 0),
  (61, .aload_n 0, 62, 0, 0),
  (62, .iload_n 1, 63, 0, 0),
  (63, .aload_n 0, 64, 0, 0),
  (64, .getfield 13, 67, 0, 0),
  (67, .sipush 144, 70, 0, 144),
  (70, .iload 5, 72, 0, 0),
  (72, .iadd, 73, 0, 0),
  (73, .iaload, 74, 0, 0),
  (74, .invokevirtual 51, 77, 0, 0),
  (77, .istore 6, 79, 0, 0),
  (79, .aload_n 0, 80, 0, 0),
  (80, .iload_n 1, 81, 0, 0),
  (81, .aload_n 0, 82, 0, 0),
  (82, .getfield 13, 85, 0, 0),
  (85, .sipush 144, 88, 0, 144),
  (88, .iload 5, 90, 0, 0),
  (90, .iadd, 91, 0, 0),
  (91, .iconst 1, 92, 0, 1),
  (92, .isub, 93, 0, 0),
  (93, .iaload, 94, 0, 0),
  (94, .invokevirtual 51, 97, 0, 0),
  (97, .istore 7, 99, 0, 0),
  (99, .iload 6, 101, 0, 0),
  (101, .ifCond .lt 89, 104, 190, 0),
  (104, .iload 7, 106, 0, 0),
  (106, .ifCond .lt 84, 109, 190, 0),
  (109, .iload 7, 111, 0, 0),
  (111, .iload 6, 113, 0, 0),
  (113, .iconst 0, 114, 0, 0),
  (114, .invokestatic 72, 117, 0, 0),
  (117, .iload_n 2, 118, 0, 0),
  (118, .if_icmp .ne 72, 121, 190, 0),
  (121, .iload_n 2, 122, 0, 0),
  (122, .iconst 1, 123, 0, 1),
  (123, .if_icmp .ne 19, 126, 142, 0),
  (126, .iload 7, 128, 0, 0),
  (128, .bipush 10, 130, 0, 10),
  (130, .idiv, 131, 0, 0),
  (131, .iload 6, 133, 0, 0),
  (133, .bipush 10, 135, 0, 10),
  (135, .idiv, 136, 0, 0),
  (136, .if_icmp .eq 6, 139, 142, 0),
  (139, .goto 51, 142, 190, 0),
  (142, .aload_n 0, 143, 0, 0),
  (143, .getfield 13, 146, 0, 0),
  (146, .sipush 324, 149, 0, 324),
  (149, .iload 5, 151, 0, 0),
  (151, .iadd, 152, 0, 0),
  (152, .iaload, 153, 0, 0),
  (153, .istore 8, 155, 0, 0),
  (155, .iload 4, 157, 0, 0),
  (157, .ifCond .lt 24, 160, 181, 0),
  (160, .iload_n 3, 161, 0, 0),
  (161, .ifCond .eq 13, 164, 174, 0),
  (164, .iload 8, 166, 0, 0),
  (166, .iload 4, 168, 0, 0),
  (168, .if_icmp .le 18, 171, 186, 0),
  (171, .goto 10, 174, 181, 0),
  (174, .iload 8, 176, 0, 0),
  (176, .iload 4, 178, 0, 0),
  (178, .if_icmp .ge 8, 181, 186, 0),
  (181, .iload 8, 183, 0, 0),
  (183, .goto 5, 186, 188, 0),
  (186, .iload 4, 188, 0, 0),
  (188, .istore 4, 190, 0, 0),
  (190, .iinc 5 1, 193, 0, 1),
  (193, .goto (-158), 196, 35, 0),
  (196, .iload 4, 198, 0, 0),
  (198, .ireturn, 199, 0, 0)]
set_option maxRecDepth 100000 in
theorem okX11_span : tf_okT cX11_span tX11_span := by unfold tf_okT; decide +kernel
theorem ftX11_span : 1 ≤ 3 ∧ tf_okF RX11 fX11 ∧ tf_okT cX11_span tX11_span := ⟨by decide, okfX11, okX11_span⟩
def mX11_span : tf_M := (yX11_span, cX11_span, 9, (some .int))

def tX11_ache : tf_T := [(0, .iload_n 1, 1, 0, 0),
  (1, .invokestatic 40, 4, 0, 0),
  (4, .ifCond .eq 12, 7, 16, 0),
  (7, .iload_n 2, 8, 0, 0),
  (8, .bipush 8, 10, 0, 8),
  (10, .invokestatic 22, 13, 0, 0),
  (13, .ifCond .ne 9, 16, 22, 0),
  (16, .aload_n 0, 17, 0, 0),
  (17, .iconst (-1), 18, 0, (-1)),
  (18, .invokevirtual 26, 21, 0, 0),
  (21, .ireturn, 22, 0, 0),
  (22, .iconst 0, 23, 0, 0),
  (23, .istore_n 3, 24, 0, 0),
  (24, .iconst 0, 25, 0, 0),
  (25, .istore 4, 27, 0, 0),
  (27, .iload 4, 29, 0, 0),
  (29, .aload_n 0, 30, 0, 0),
  (30, .getfield 13, 33, 0, 0),
  (33, .sipush 364, 36, 0, 364),
  (36, .iaload, 37, 0, 0),
  (37, .if_icmp .ge 56, 40, 93, 0),
  (40, .aload_n 0, 41, 0, 0),
  (41, .iload_n 1, 42, 0, 0),
  (42, .aload_n 0, 43, 0, 0),
  (43, .getfield 13, 46, 0, 0),
  (46, .sipush 144, 49, 0, 144),
  (49, .iload 4, 51, 0, 0),
  (51, .iadd, 52, 0, 0),
  (52, .iaload, 53, 0, 0),
  (53, .invokevirtual 51, 56, 0, 0),
  (56, .istore 5, 58, 0, 0),
  (58, .iload_n 3, 59, 0, 0),
  (59, .iload 5, 61, 0, 0),
  (61, .ifCond .lt 23, 64, 84, 0),
  (64, .iload 5, 66, 0, 0),
  (66, .iconst 0, 67, 0, 0),
  (67, .invokestatic 58, 70, 0, 0),
  (70, .iload_n 2, 71, 0, 0),
  (71, .if_icmp .ne 13, 74, 84, 0),
  (74, .aload_n 0, 75, 0, 0),
  (75, .iload_n 1, 76, 0, 0),
  (76, .iload 4, 78, 0, 0),
  (78, .invokevirtual 129, 81, 0, 0),
  (81, .goto 4, 84, 85, 0),
  (84, .iconst 0, 85, 0, 0),
  (85, .iadd, 86, 0, 0),
  (86, .istore_n 3, 87, 0, 0),
  (87, .iinc 4 1, 90, 0, 1),
  (90, .goto (-63), 93, 27, 0),
  (93, .iload_n 3, 94, 0, 0),
  (94, .ireturn, 95, 0, 0)]
set_option maxRecDepth 100000 in
theorem okX11_ache : tf_okT cX11_ache tX11_ache := by unfold tf_okT; decide +kernel
theorem ftX11_ache : 1 ≤ 3 ∧ tf_okF RX11 fX11 ∧ tf_okT cX11_ache tX11_ache := ⟨by decide, okfX11, okX11_ache⟩
def mX11_ache : tf_M := (yX11_ache, cX11_ache, 6, (some .int))

def tX11_pauses : tf_T := [(0, .iload_n 1, 1, 0, 0),
  (1, .invokestatic 40, 4, 0, 0),
  (4, .ifCond .ne 9, 7, 13, 0),
  (7, .aload_n 0, 8, 0, 0),
  (8, .iconst (-1), 9, 0, (-1)),
  (9, .invokevirtual 26, 12, 0, 0),
  (12, .ireturn, 13, 0, 0),
  (13, .iload_n 2, 14, 0, 0),
  (14, .iconst 1, 15, 0, 1),
  (15, .if_icmp .lt 7, 18, 22, 0),
  (18, .iload_n 3, 19, 0, 0),
  (19, .ifCond .ge 10, 22, 29, 0),
  (22, .aload_n 0, 23, 0, 0),
  (23, .bipush (-4), 25, 0, (-4)),
  (25, .invokevirtual 26, 28, 0, 0),
  (28, .ireturn, 29, 0, 0),
  (29, .iload_n 2, 30, 0, 0),
  (30, .sipush 999, 33, 0, 999),
  (33, .if_icmp .gt 10, 36, 43, 0),
  (36, .iload_n 3, 37, 0, 0),
  (37, .sipush 999, 40, 0, 999),
  (40, .if_icmp .le 10, 43, 50, 0),
  (43, .aload_n 0, 44, 0, 0),
  (44, .bipush (-6), 46, 0, (-6)),
  (46, .invokevirtual 26, 49, 0, 0),
  (49, .ireturn, 50, 0, 0),
  (50, .iconst 0, 51, 0, 0),
  (51, .istore 4, 53, 0, 0),
  (53, .iconst 0, 54, 0, 0),
  (54, .istore 5, 56, 0, 0),
  (56, .iconst 0, 57, 0, 0),
  (57, .istore 6, 59, 0, 0),
  (59, .iload 6, 61, 0, 0),
  (61, .aload_n 0, 62, 0, 0),
  (62, .getfield 13, 65, 0, 0),
  (65, .sipush 364, 68, 0, 364),
  (68, .iaload, 69, 0, 0),
  (69, .if_icmp .ge 72, 72, 141, 0),
  (72, .aload_n 0, 73, 0, 0),
  (73, .iload_n 1, 74, 0, 0),
  (74, .iload 6, 76, 0, 0),
  (76, .invokevirtual 129, 79, 0, 0),
  (79, .istore 7, 81, 0, 0),
  (81, .iload 7, 83, 0, 0),
  (83, .iload_n 2, 84, 0, 0),
  (84, .if_icmp .le 6, 87, 90, 0),
  (87, .bipush (-9), 89, 0, (-9)),
  (89, .ireturn, 90, 0, 0),
  (90, .iload 4, 92, 0, 0),
  (92, .iload 7, 94, 0, 0),
  (94, .iadd, 95, 0, 0),
  (95, .iload_n 2, 96, 0, 0),
  (96, .if_icmp .le 32, 99, 128, 0),
  (99, .iload_n 3, 100, 0, 0),
  (100, .ifCond .ne 6, 103, 106, 0),
  (103, .bipush (-9), 105, 0, (-9)),
  (105, .ireturn, 106, 0, 0),
  (106, .iload 4, 108, 0, 0),
  (108, .iload_n 3, 109, 0, 0),
  (109, .if_icmp .le 10, 112, 119, 0),
  (112, .iload 4, 114, 0, 0),
  (114, .iload_n 3, 115, 0, 0),
  (115, .isub, 116, 0, 0),
  (116, .goto 4, 119, 120, 0),
  (119, .iconst 0, 120, 0, 0),
  (120, .istore 4, 122, 0, 0),
  (122, .iinc 5 1, 125, 0, 1),
  (125, .goto (-35), 128, 90, 0),
  (128, .iload 4, 130, 0, 0),
  (130, .iload 7, 132, 0, 0),
  (132, .iadd, 133, 0, 0),
  (133, .istore 4, 135, 0, 0),
  (135, .iinc 6 1, 138, 0, 1),
  (138, .goto (-79), 141, 59, 0),
  (141, .iload 5, 143, 0, 0),
  (143, .ireturn, 144, 0, 0)]
set_option maxRecDepth 100000 in
theorem okX11_pauses : tf_okT cX11_pauses tX11_pauses := by unfold tf_okT; decide +kernel
theorem ftX11_pauses : 1 ≤ 3 ∧ tf_okF RX11 fX11 ∧ tf_okT cX11_pauses tX11_pauses := ⟨by decide, okfX11, okX11_pauses⟩
def mX11_pauses : tf_M := (yX11_pauses, cX11_pauses, 8, (some .int))

def tX11_soonest : tf_T := [(0, .iload_n 1, 1, 0, 0),
  (1, .invokestatic 62, 4, 0, 0),
  (4, .ifCond .eq 21, 7, 25, 0),
  (7, .iload_n 2, 8, 0, 0),
  (8, .invokestatic 40, 11, 0, 0),
  (11, .ifCond .eq 14, 14, 25, 0),
  (14, .iload_n 3, 15, 0, 0),
  (15, .iconst 0, 16, 0, 0),
  (16, .sipush 9999, 19, 0, 9999),
  (19, .invokestatic 65, 22, 0, 0),
  (22, .goto 4, 25, 26, 0),
  (25, .iconst (-1), 26, 0, (-1)),
  (26, .istore 4, 28, 0, 0),
  (28, .iload 4, 30, 0, 0),
  (30, .ifCond .eq 10, 33, 40, 0),
  (33, .aload_n 0, 34, 0, 0),
  (34, .iload 4, 36, 0, 0),
  (36, .invokevirtual 26, 39, 0, 0),
  (39, .ireturn, 40, 0, 0),
  (40, .iconst 1, 41, 0, 1),
  (41, .istore 5, 43, 0, 0),
  (43, .iconst 2, 44, 0, 2),
  (44, .istore 6, 46, 0, 0),
  (46, .iload 6, 48, 0, 0),
  (48, .bipush 10, 50, 0, 10),
  (50, .if_icmp .ge 39, 53, 89, 0),
  (53, .aload_n 0, 54, 0, 0),
  (54, .iload_n 1, 55, 0, 0),
  (55, .iload_n 2, 56, 0, 0),
  (56, .iload 6, 58, 0, 0),
  (58, .iload_n 3, 59, 0, 0),
  (59, .invokevirtual 132, 62, 0, 0),
  (62, .aload_n 0, 63, 0, 0),
  (63, .iload_n 1, 64, 0, 0),
  (64, .iload_n 2, 65, 0, 0),
  (65, .iload 5, 67, 0, 0),
  (67, .iload_n 3, 68, 0, 0),
  (68, .invokevirtual 132, 71, 0, 0),
  (71, .if_icmp .ge 8, 74, 79, 0),
  (74, .iload 6, 76, 0, 0),
  (76, .goto 5, 79, 81, 0),
  (79, .iload 5, 81, 0, 0),
  (81, .istore 5, 83, 0, 0),
  (83, .iinc 6 1, 86, 0, 1),
  (86, .goto (-40), 89, 46, 0),
  (89, .iload 5, 91, 0, 0),
  (91, .ireturn, 92, 0, 0)]
set_option maxRecDepth 100000 in
theorem okX11_soonest : tf_okT cX11_soonest tX11_soonest := by unfold tf_okT; decide +kernel
theorem ftX11_soonest : 1 ≤ 7 ∧ tf_okF RX11 fX11 ∧ tf_okT cX11_soonest tX11_soonest := ⟨by decide, okfX11, okX11_soonest⟩
def mX11_soonest : tf_M := (yX11_soonest, cX11_soonest, 7, (some .int))

def tX11_image : tf_T := [(0, .iconst 0, 1, 0, 0),
  (1, .istore_n 1, 2, 0, 0),
  (2, .iload_n 1, 3, 0, 0),
  (3, .sipush 368, 6, 0, 368),
  (6, .if_icmp .ge 21, 9, 27, 0),
  (9, .aload_n 0, 10, 0, 0),
  (10, .getfield 16, 13, 0, 0),
  (13, .iload_n 1, 14, 0, 0),
  (14, .aload_n 0, 15, 0, 0),
  (15, .getfield 13, 18, 0, 0),
  (18, .iload_n 1, 19, 0, 0),
  (19, .iaload, 20, 0, 0),
  (20, .iastore, 21, 0, 0),
  (21, .iinc 1 1, 24, 0, 1),
  (24, .goto (-22), 27, 2, 0),
  (27, .aload_n 0, 28, 0, 0),
  (28, .iconst 1, 29, 0, 1),
  (29, .putfield 136, 32, 0, 0),
  (32, .aload_n 0, 33, 0, 0),
  (33, .getfield 13, 36, 0, 0),
  (36, .sipush 366, 39, 0, 366),
  (39, .iaload, 40, 0, 0),
  (40, .ireturn, 41, 0, 0)]
set_option maxRecDepth 100000 in
theorem okX11_image : tf_okT cX11_image tX11_image := by unfold tf_okT; decide +kernel
theorem ftX11_image : 1 ≤ 1 ∧ tf_okF RX11 fX11 ∧ tf_okT cX11_image tX11_image := ⟨by decide, okfX11, okX11_image⟩
def mX11_image : tf_M := (yX11_image, cX11_image, 2, (some .int))

def tX11_on : tf_T := [(0, .aload_n 0, 1, 0, 0),
  (1, .getfield 136, 4, 0, 0),
  (4, .ifCond .ne 10, 7, 14, 0),
  (7, .aload_n 0, 8, 0, 0),
  (8, .bipush (-3), 10, 0, (-3)),
  (10, .invokevirtual 26, 13, 0, 0),
  (13, .ireturn, 14, 0, 0),
  (14, .iconst 0, 15, 0, 0),
  (15, .istore_n 1, 16, 0, 0),
  (16, .iload_n 1, 17, 0, 0),
  (17, .sipush 368, 20, 0, 368),
  (20, .if_icmp .ge 21, 23, 41, 0),
  (23, .aload_n 0, 24, 0, 0),
  (24, .getfield 13, 27, 0, 0),
  (27, .iload_n 1, 28, 0, 0),
  (28, .aload_n 0, 29, 0, 0),
  (29, .getfield 16, 32, 0, 0),
  (32, .iload_n 1, 33, 0, 0),
  (33, .iaload, 34, 0, 0),
  (34, .iastore, 35, 0, 0),
  (35, .iinc 1 1, 38, 0, 1),
  (38, .goto (-22), 41, 16, 0),
  (41, .aload_n 0, 42, 0, 0),
  (42, .getfield 13, 45, 0, 0),
  (45, .sipush 366, 48, 0, 366),
  (48, .iaload, 49, 0, 0),
  (49, .ireturn, 50, 0, 0)]
set_option maxRecDepth 100000 in
theorem okX11_on : tf_okT cX11_on tX11_on := by unfold tf_okT; decide +kernel
theorem ftX11_on : 1 ≤ 2 ∧ tf_okF RX11 fX11 ∧ tf_okT cX11_on tX11_on := ⟨by decide, okfX11, okX11_on⟩
def mX11_on : tf_M := (yX11_on, cX11_on, 2, (some .int))

set_option maxRecDepth 100000 in
theorem lX11_129 : tf_okV RX11 129 2 8 mX11_acheAt := by unfold tf_okV tf_okL; decide +kernel

set_option maxHeartbeats 2000000 in
theorem p_may {G : tf_G} {S : tf_Sg} {o : Nat} {A : tf_A} (b : Int32) (ho : tf_mo G o) (hd : tf_md G o) (hA : tf_okA A) (hM : tf_ms G S o A)  : tf_pm mX11_may 4 G S o [.ref o, .int b] (s_may A b) := by
  obtain ⟨h1, ⟨r0, t0, n0⟩, ⟨r1, t1, n1⟩, ⟨r2, t2, n2⟩, ⟨r4, t4, n4⟩⟩ := id ho
  obtain ⟨hg, hb, hA3, hA4, hA5, hA6⟩ := id hA
  have hs := hM.1
  have hf : tf_sf G S o A.1 := ⟨hM.1, hb⟩
  obtain ⟨⟨g1, g2, g3, g4⟩, g5, g6, g7, g8, g9, g10, g11⟩ := id hg
  unfold s_may
  by_cases c0 : ¬ b < 0 ∧ ¬ 4 ≤ b
  · rw [if_pos c0]
    obtain ⟨b1, b1_lt, b1_eq, b1_cl⟩ := tf_ok_nI (N := 4) (show tf_ok b _ from c0) rfl (by decide)
    try rw [b1_cl]
    subst b1_eq
    refine ⟨S, tf_Fn_of (own := RX11) false ⟨by decide, rfl, by decide⟩ (Nat.le_of_ble_eq_true rfl) trivial (fun x hx hR => ?_), hM, tf_fm_id⟩
    show tf_K x 0 0 G S 0 [some (.ref o), some (.int (nI b1)), none, none] []
    refine tf_go hx ftX11_may 1 [] 1 [some (.ref o), some (.int (nI b1)), none, none] [.int (nI b1)] S rfl ⟨by decide, by decide, rfl⟩ trivial ?_
    refine tf_cS hx ftX11_may (nx := 4) (As := [.int (nI b1)]) (rest := []) (st2 := [.int (if ¬ (nI b1) < 0 ∧ ¬ 4 ≤ (nI b1) then 1 else 0)]) (m_isBoard (nI b1)) rfl lX11_40 rfl ⟨rfl, by decide, by decide, by decide, rfl, rfl⟩ ?_
    rw [if_pos c0]
    refine tf_go hx ftX11_may 1 [true] 13 [some (.ref o), some (.int (nI b1)), none, none] [] S rfl ⟨by decide, by decide, rfl⟩ ⟨trivial, (by decide)⟩ ?_
    refine tf_go hx ftX11_may 4 [] 17 [some (.ref o), some (.int (nI b1)), some (.int 0), some (.int 0)] [] S rfl ⟨by decide, by decide, rfl⟩ trivial ?_
    have loop : ∀ (m k : Nat) (q : Int32), k + m = 8 → (tf_my A.1 b1 m k q = tf_my A.1 b1 8 0 0) → tf_K x 0 0 G S 17 [some (.ref o), some (.int (nI b1)), some (.int q), some (.int (nI k))] [] := by
      intro m
      induction m with
      | zero =>
        intro k q hk he
        refine tf_go hx ftX11_may 2 [] 20 [some (.ref o), some (.int (nI b1)), some (.int q), some (.int (nI k))] [.int 8, .int (nI k)] S rfl ⟨by decide, by decide, rfl⟩ trivial ?_
        refine tf_go hx ftX11_may 2 [true] 49 [some (.ref o), some (.int (nI b1)), some (.int q), some (.int (nI k))] [.int q] S rfl ⟨by decide, by decide, rfl⟩ ⟨trivial, (tf_leT (a := 8) (b := k) (rfl : (8 : Int32) = nI 8) rfl (by omega) (by omega) (by omega))⟩ ?_
        exact tf_ret ftX11_may hR rfl ⟨by decide, by decide⟩ rfl rfl (by rw [← he]; rfl)
      | succ m ih =>
        intro k q hk he
        rw [tf_my_s] at he
        refine tf_go hx ftX11_may 2 [] 20 [some (.ref o), some (.int (nI b1)), some (.int q), some (.int (nI k))] [.int 8, .int (nI k)] S rfl ⟨by decide, by decide, rfl⟩ trivial ?_
        refine tf_go hx ftX11_may 1 [false] 23 [some (.ref o), some (.int (nI b1)), some (.int q), some (.int (nI k))] [] S rfl ⟨by decide, by decide, rfl⟩ ⟨trivial, (tf_leF (a := 8) (b := k) (rfl : (8 : Int32) = nI 8) rfl (by omega) (by omega) (by omega))⟩ ?_
        refine tf_go hx ftX11_may 4 [] 27 [some (.ref o), some (.int (nI b1)), some (.int q), some (.int (nI k))] [.int (nI k), .int (nI b1), .ref o, .int q] S rfl ⟨by decide, by decide, rfl⟩ trivial ?_
        refine tf_cV hx ftX11_may (nx := 30) (As := [.int (nI b1), .int (nI k)]) (rest := [.int q]) (st2 := [.int (tf_on 41 (tf_wo A.1 b1 k)), .int q]) (m_whereOf b1 k ho hf hg b1_lt (by omega)) rfl lX11_116 (by first | assumption | rfl | decide) rfl ⟨rfl, by decide, by decide, by decide, rfl, rfl⟩ ?_
        by_cases e1 : tf_wo A.1 b1 k < 41
        · rw [if_pos e1] at he
          rw [tf_on_y e1]
          refine tf_go hx ftX11_may 9 [false] 17 [some (.ref o), some (.int (nI b1)), some (.int (q ||| (1 <<< ((nI k) &&& 31)))), some (.int ((nI k) + 1))] [] S rfl ⟨by decide, by decide, rfl⟩ ⟨trivial, (tf_ltF (a := (tf_wo A.1 b1 k)) (b := 0) rfl (rfl : (0 : Int32) = nI 0) (by have := hb b1; omega) (by have := hb b1; omega) (by have := hb b1; omega))⟩ ?_
          rw [show ((nI k) + 1) = nI (k + 1) from (tf_add (a := k) (b := 1) rfl (rfl : (1 : Int32) = nI 1))]
          exact ih (k + 1) _ (by omega) he
        · rw [if_neg e1] at he
          rw [tf_on_n e1]
          refine tf_go hx ftX11_may 6 [true] 17 [some (.ref o), some (.int (nI b1)), some (.int (q ||| 0)), some (.int ((nI k) + 1))] [] S rfl ⟨by decide, by decide, rfl⟩ ⟨trivial, (by decide)⟩ ?_
          rw [show ((nI k) + 1) = nI (k + 1) from (tf_add (a := k) (b := 1) rfl (rfl : (1 : Int32) = nI 1))]
          rw [show (q ||| 0) = q from Int32.or_zero]
          exact ih (k + 1) q (by omega) he
    exact loop 8 0 0 rfl rfl
  · rw [if_neg (fun h => c0 h)]
    refine ⟨tf_rfS G S o 1, tf_Fn_of (own := RX11) false ⟨by decide, rfl, by decide⟩ (Nat.le_of_ble_eq_true rfl) trivial (fun x hx hR => ?_), tf_ms_ref ho hd hM 1, tf_fm_0⟩
    show tf_K x 0 0 G S 0 [some (.ref o), some (.int b), none, none] []
    refine tf_go hx ftX11_may 1 [] 1 [some (.ref o), some (.int b), none, none] [.int b] S rfl ⟨by decide, by decide, rfl⟩ trivial ?_
    refine tf_cS hx ftX11_may (nx := 4) (As := [.int b]) (rest := []) (st2 := [.int (if ¬ b < 0 ∧ ¬ 4 ≤ b then 1 else 0)]) (m_isBoard b) rfl lX11_40 rfl ⟨rfl, by decide, by decide, by decide, rfl, rfl⟩ ?_
    rw [if_neg c0]
    refine tf_go hx ftX11_may 1 [false] 7 [some (.ref o), some (.int b), none, none] [] S rfl ⟨by decide, by decide, rfl⟩ ⟨trivial, (by decide)⟩ ?_
    refine tf_go hx ftX11_may 2 [] 9 [some (.ref o), some (.int b), none, none] [.int (-1), .ref o] S rfl ⟨by decide, by decide, rfl⟩ trivial ?_
    refine tf_cV hx ftX11_may (nx := 12) (As := [.int (-1)]) (rest := []) (st2 := [.int (-1)]) (m_ref1 ho) rfl lX11_26 (by first | assumption | rfl | decide) rfl ⟨rfl, by decide, by decide, by decide, rfl, rfl⟩ ?_
    exact tf_ret ftX11_may hR rfl ⟨by decide, by decide⟩ rfl rfl rfl

set_option maxHeartbeats 2000000 in
theorem p_climb {G : tf_G} {S : tf_Sg} {o : Nat} {A : tf_A} (h b n : Int32) (ho : tf_mo G o) (hd : tf_md G o) (hA : tf_okA A) (hM : tf_ms G S o A)  : tf_pm mX11_climb 7 G S o [.ref o, .int h, .int b, .int n] (s_climb A h b n) := by
  obtain ⟨h1, ⟨r0, t0, n0⟩, ⟨r1, t1, n1⟩, ⟨r2, t2, n2⟩, ⟨r4, t4, n4⟩⟩ := id ho
  obtain ⟨hg, hb, hA3, hA4, hA5, hA6⟩ := id hA
  have hs := hM.1
  have hf : tf_sf G S o A.1 := ⟨hM.1, hb⟩
  obtain ⟨⟨g1, g2, g3, g4⟩, g5, g6, g7, g8, g9, g10, g11⟩ := id hg
  unfold s_climb
  by_cases c0 : ¬ h < 0 ∧ ¬ 4 ≤ h
  · by_cases c1 : ¬ b < 0 ∧ ¬ 4 ≤ b
    · rw [if_pos ⟨c0, c1⟩]
      obtain ⟨h1, h1_lt, h1_eq, h1_cl⟩ := tf_ok_nI (N := 4) (show tf_ok h _ from c0) rfl (by decide)
      try rw [h1_cl]
      obtain ⟨b1, b1_lt, b1_eq, b1_cl⟩ := tf_ok_nI (N := 4) (show tf_ok b _ from c1) rfl (by decide)
      try rw [b1_cl]
      subst h1_eq
      subst b1_eq
      by_cases e1 : ¬ 1 ≤ n
      · rw [if_pos e1]
        refine ⟨tf_rfS G S o 4, tf_Fn_of (own := RX11) false ⟨by decide, rfl, by decide⟩ (Nat.le_of_ble_eq_true rfl) trivial (fun x hx hR => ?_), tf_ms_ref ho hd hM 4, tf_fm_0⟩
        show tf_K x 0 0 G S 0 [some (.ref o), some (.int (nI h1)), some (.int (nI b1)), some (.int n), none, none, none] []
        refine tf_go hx ftX11_climb 1 [] 1 [some (.ref o), some (.int (nI h1)), some (.int (nI b1)), some (.int n), none, none, none] [.int (nI h1)] S rfl ⟨by decide, by decide, rfl⟩ trivial ?_
        refine tf_cS hx ftX11_climb (nx := 4) (As := [.int (nI h1)]) (rest := []) (st2 := [.int (if ¬ (nI h1) < 0 ∧ ¬ 4 ≤ (nI h1) then 1 else 0)]) (m_isHand (nI h1)) rfl lX11_62 rfl ⟨rfl, by decide, by decide, by decide, rfl, rfl⟩ ?_
        rw [if_pos c0]
        refine tf_go hx ftX11_climb 1 [false] 7 [some (.ref o), some (.int (nI h1)), some (.int (nI b1)), some (.int n), none, none, none] [] S rfl ⟨by decide, by decide, rfl⟩ ⟨trivial, (by decide)⟩ ?_
        refine tf_go hx ftX11_climb 1 [] 8 [some (.ref o), some (.int (nI h1)), some (.int (nI b1)), some (.int n), none, none, none] [.int (nI b1)] S rfl ⟨by decide, by decide, rfl⟩ trivial ?_
        refine tf_cS hx ftX11_climb (nx := 11) (As := [.int (nI b1)]) (rest := []) (st2 := [.int (if ¬ (nI b1) < 0 ∧ ¬ 4 ≤ (nI b1) then 1 else 0)]) (m_isBoard (nI b1)) rfl lX11_40 rfl ⟨rfl, by decide, by decide, by decide, rfl, rfl⟩ ?_
        rw [if_pos c1]
        refine tf_go hx ftX11_climb 1 [false] 14 [some (.ref o), some (.int (nI h1)), some (.int (nI b1)), some (.int n), none, none, none] [] S rfl ⟨by decide, by decide, rfl⟩ ⟨trivial, (by decide)⟩ ?_
        refine tf_go hx ftX11_climb 3 [] 17 [some (.ref o), some (.int (nI h1)), some (.int (nI b1)), some (.int n), none, none, none] [.int 5, .int 1, .int n] S rfl ⟨by decide, by decide, rfl⟩ trivial ?_
        refine tf_cS hx ftX11_climb (nx := 20) (As := [.int n, .int 1, .int 5]) (rest := []) (st2 := [.int (if ¬ 1 ≤ n then (-4) else if ¬ n ≤ 5 then (-6) else 0)]) (m_within n 1 5) rfl lX11_65 rfl ⟨rfl, by decide, by decide, by decide, rfl, rfl⟩ ?_
        rw [if_pos e1]
        refine tf_go hx ftX11_climb 3 [] 28 [some (.ref o), some (.int (nI h1)), some (.int (nI b1)), some (.int n), some (.int (-4)), none, none] [.int (-4)] S rfl ⟨by decide, by decide, rfl⟩ trivial ?_
        refine tf_go hx ftX11_climb 3 [false] 34 [some (.ref o), some (.int (nI h1)), some (.int (nI b1)), some (.int n), some (.int (-4)), none, none] [.int (-4), .ref o] S rfl ⟨by decide, by decide, rfl⟩ ⟨trivial, (by decide)⟩ ?_
        refine tf_cV hx ftX11_climb (nx := 37) (As := [.int (-4)]) (rest := []) (st2 := [.int (-4)]) (m_ref4 ho) rfl lX11_26 (by first | assumption | rfl | decide) rfl ⟨rfl, by decide, by decide, by decide, rfl, rfl⟩ ?_
        exact tf_ret ftX11_climb hR rfl ⟨by decide, by decide⟩ rfl rfl rfl
      · by_cases e2 : ¬ n ≤ 5
        · rw [if_neg e1, if_pos e2]
          refine ⟨tf_rfS G S o 6, tf_Fn_of (own := RX11) false ⟨by decide, rfl, by decide⟩ (Nat.le_of_ble_eq_true rfl) trivial (fun x hx hR => ?_), tf_ms_ref ho hd hM 6, tf_fm_0⟩
          show tf_K x 0 0 G S 0 [some (.ref o), some (.int (nI h1)), some (.int (nI b1)), some (.int n), none, none, none] []
          refine tf_go hx ftX11_climb 1 [] 1 [some (.ref o), some (.int (nI h1)), some (.int (nI b1)), some (.int n), none, none, none] [.int (nI h1)] S rfl ⟨by decide, by decide, rfl⟩ trivial ?_
          refine tf_cS hx ftX11_climb (nx := 4) (As := [.int (nI h1)]) (rest := []) (st2 := [.int (if ¬ (nI h1) < 0 ∧ ¬ 4 ≤ (nI h1) then 1 else 0)]) (m_isHand (nI h1)) rfl lX11_62 rfl ⟨rfl, by decide, by decide, by decide, rfl, rfl⟩ ?_
          rw [if_pos c0]
          refine tf_go hx ftX11_climb 1 [false] 7 [some (.ref o), some (.int (nI h1)), some (.int (nI b1)), some (.int n), none, none, none] [] S rfl ⟨by decide, by decide, rfl⟩ ⟨trivial, (by decide)⟩ ?_
          refine tf_go hx ftX11_climb 1 [] 8 [some (.ref o), some (.int (nI h1)), some (.int (nI b1)), some (.int n), none, none, none] [.int (nI b1)] S rfl ⟨by decide, by decide, rfl⟩ trivial ?_
          refine tf_cS hx ftX11_climb (nx := 11) (As := [.int (nI b1)]) (rest := []) (st2 := [.int (if ¬ (nI b1) < 0 ∧ ¬ 4 ≤ (nI b1) then 1 else 0)]) (m_isBoard (nI b1)) rfl lX11_40 rfl ⟨rfl, by decide, by decide, by decide, rfl, rfl⟩ ?_
          rw [if_pos c1]
          refine tf_go hx ftX11_climb 1 [false] 14 [some (.ref o), some (.int (nI h1)), some (.int (nI b1)), some (.int n), none, none, none] [] S rfl ⟨by decide, by decide, rfl⟩ ⟨trivial, (by decide)⟩ ?_
          refine tf_go hx ftX11_climb 3 [] 17 [some (.ref o), some (.int (nI h1)), some (.int (nI b1)), some (.int n), none, none, none] [.int 5, .int 1, .int n] S rfl ⟨by decide, by decide, rfl⟩ trivial ?_
          refine tf_cS hx ftX11_climb (nx := 20) (As := [.int n, .int 1, .int 5]) (rest := []) (st2 := [.int (if ¬ 1 ≤ n then (-4) else if ¬ n ≤ 5 then (-6) else 0)]) (m_within n 1 5) rfl lX11_65 rfl ⟨rfl, by decide, by decide, by decide, rfl, rfl⟩ ?_
          rw [if_neg e1, if_pos e2]
          refine tf_go hx ftX11_climb 3 [] 28 [some (.ref o), some (.int (nI h1)), some (.int (nI b1)), some (.int n), some (.int (-6)), none, none] [.int (-6)] S rfl ⟨by decide, by decide, rfl⟩ trivial ?_
          refine tf_go hx ftX11_climb 3 [false] 34 [some (.ref o), some (.int (nI h1)), some (.int (nI b1)), some (.int n), some (.int (-6)), none, none] [.int (-6), .ref o] S rfl ⟨by decide, by decide, rfl⟩ ⟨trivial, (by decide)⟩ ?_
          refine tf_cV hx ftX11_climb (nx := 37) (As := [.int (-6)]) (rest := []) (st2 := [.int (-6)]) (m_ref6 ho) rfl lX11_26 (by first | assumption | rfl | decide) rfl ⟨rfl, by decide, by decide, by decide, rfl, rfl⟩ ?_
          exact tf_ret ftX11_climb hR rfl ⟨by decide, by decide⟩ rfl rfl rfl
        · rw [if_neg e1, if_neg e2]
          obtain ⟨n1, n1_le, n1_eq⟩ := nI_of2 (M := 5) (n := 5) (x := n) (by decide) (fun h => e1 (fun h2 => absurd (Int32.lt_of_lt_of_le h (by decide)) (Int32.not_lt.mpr h2))) (Classical.not_not.mp e2)
          have n1_cl : n.toNatClampNeg = n1 := by rw [n1_eq]; exact tf_cl_nI (by omega)
          rw [n1_cl]
          subst n1_eq
          refine ⟨tf_rw S (tf_rf G o 1) (tf_cm h1 b1 n1 0 A.1).2, tf_Fn_of (own := RX11) false ⟨by decide, rfl, by decide⟩ (Nat.le_of_ble_eq_true rfl) trivial (fun x hx hR => ?_), tf_ms_rw ho hd hM _, tf_fm_1⟩
          show tf_K x 0 0 G S 0 [some (.ref o), some (.int (nI h1)), some (.int (nI b1)), some (.int (nI n1)), none, none, none] []
          refine tf_go hx ftX11_climb 1 [] 1 [some (.ref o), some (.int (nI h1)), some (.int (nI b1)), some (.int (nI n1)), none, none, none] [.int (nI h1)] S rfl ⟨by decide, by decide, rfl⟩ trivial ?_
          refine tf_cS hx ftX11_climb (nx := 4) (As := [.int (nI h1)]) (rest := []) (st2 := [.int (if ¬ (nI h1) < 0 ∧ ¬ 4 ≤ (nI h1) then 1 else 0)]) (m_isHand (nI h1)) rfl lX11_62 rfl ⟨rfl, by decide, by decide, by decide, rfl, rfl⟩ ?_
          rw [if_pos c0]
          refine tf_go hx ftX11_climb 1 [false] 7 [some (.ref o), some (.int (nI h1)), some (.int (nI b1)), some (.int (nI n1)), none, none, none] [] S rfl ⟨by decide, by decide, rfl⟩ ⟨trivial, (by decide)⟩ ?_
          refine tf_go hx ftX11_climb 1 [] 8 [some (.ref o), some (.int (nI h1)), some (.int (nI b1)), some (.int (nI n1)), none, none, none] [.int (nI b1)] S rfl ⟨by decide, by decide, rfl⟩ trivial ?_
          refine tf_cS hx ftX11_climb (nx := 11) (As := [.int (nI b1)]) (rest := []) (st2 := [.int (if ¬ (nI b1) < 0 ∧ ¬ 4 ≤ (nI b1) then 1 else 0)]) (m_isBoard (nI b1)) rfl lX11_40 rfl ⟨rfl, by decide, by decide, by decide, rfl, rfl⟩ ?_
          rw [if_pos c1]
          refine tf_go hx ftX11_climb 1 [false] 14 [some (.ref o), some (.int (nI h1)), some (.int (nI b1)), some (.int (nI n1)), none, none, none] [] S rfl ⟨by decide, by decide, rfl⟩ ⟨trivial, (by decide)⟩ ?_
          refine tf_go hx ftX11_climb 3 [] 17 [some (.ref o), some (.int (nI h1)), some (.int (nI b1)), some (.int (nI n1)), none, none, none] [.int 5, .int 1, .int (nI n1)] S rfl ⟨by decide, by decide, rfl⟩ trivial ?_
          refine tf_cS hx ftX11_climb (nx := 20) (As := [.int (nI n1), .int 1, .int 5]) (rest := []) (st2 := [.int (if ¬ 1 ≤ (nI n1) then (-4) else if ¬ (nI n1) ≤ 5 then (-6) else 0)]) (m_within (nI n1) 1 5) rfl lX11_65 rfl ⟨rfl, by decide, by decide, by decide, rfl, rfl⟩ ?_
          rw [if_neg e1, if_neg e2]
          refine tf_go hx ftX11_climb 3 [] 28 [some (.ref o), some (.int (nI h1)), some (.int (nI b1)), some (.int (nI n1)), some (.int 0), none, none] [.int 0] S rfl ⟨by decide, by decide, rfl⟩ trivial ?_
          refine tf_go hx ftX11_climb 3 [true] 41 [some (.ref o), some (.int (nI h1)), some (.int (nI b1)), some (.int (nI n1)), some (.int 0), some (.int 0), none] [] S rfl ⟨by decide, by decide, rfl⟩ ⟨trivial, (by decide)⟩ ?_
          refine tf_fgt [some (.ref o), some (.int (nI h1)), some (.int (nI b1)), some (.int (nI n1)), none, some (.int 0), none] (by simp [tf_lss]) ?_
          have hid : tf_rw S (tf_rf G o 1) A.1 = S := tf_rw_id hs
          have loop : ∀ (m k : Nat) (F : Nat → Nat), k + m = n1 → (tf_cm h1 b1 m k F = tf_cm h1 b1 n1 0 A.1) → (tf_gd F) → (∀ j, F j < 10000) → tf_K x 0 0 G (tf_rw S (tf_rf G o 1) F) 41 [some (.ref o), some (.int (nI h1)), some (.int (nI b1)), some (.int (nI n1)), none, some (.int (nI k)), none] [] := by
            intro m
            induction m with
            | zero =>
              intro k F hk he hF hF2
              refine tf_go hx ftX11_climb 2 [] 44 [some (.ref o), some (.int (nI h1)), some (.int (nI b1)), some (.int (nI n1)), none, some (.int (nI k)), none] [.int (nI n1), .int (nI k)] (tf_rw S (tf_rf G o 1) F) rfl ⟨by decide, by decide, rfl⟩ trivial ?_
              refine tf_go hx ftX11_climb 2 [true] 85 [some (.ref o), some (.int (nI h1)), some (.int (nI b1)), some (.int (nI n1)), none, some (.int (nI k)), none] [.int (nI n1)] (tf_rw S (tf_rf G o 1) F) rfl ⟨by decide, by decide, rfl⟩ ⟨trivial, (tf_leT (a := n1) (b := k) rfl rfl (by omega) (by omega) (by omega))⟩ ?_
              exact tf_ret ftX11_climb hR rfl ⟨by decide, by decide⟩ rfl (by rw [← he]; rfl) (by rw [← he, show n1 = k by omega]; rfl)
            | succ m ih =>
              intro k F hk he hF hF2
              rw [tf_cm_s] at he
              have hsf : tf_sf G (tf_rw S (tf_rf G o 1) F) o F := ⟨tf_rw_a, hF2⟩
              refine tf_go hx ftX11_climb 2 [] 44 [some (.ref o), some (.int (nI h1)), some (.int (nI b1)), some (.int (nI n1)), none, some (.int (nI k)), none] [.int (nI n1), .int (nI k)] (tf_rw S (tf_rf G o 1) F) rfl ⟨by decide, by decide, rfl⟩ trivial ?_
              refine tf_go hx ftX11_climb 1 [false] 47 [some (.ref o), some (.int (nI h1)), some (.int (nI b1)), some (.int (nI n1)), none, some (.int (nI k)), none] [] (tf_rw S (tf_rf G o 1) F) rfl ⟨by decide, by decide, rfl⟩ ⟨trivial, (tf_leF (a := n1) (b := k) rfl rfl (by omega) (by omega) (by omega))⟩ ?_
              refine tf_go hx ftX11_climb 3 [] 50 [some (.ref o), some (.int (nI h1)), some (.int (nI b1)), some (.int (nI n1)), none, some (.int (nI k)), none] [.int (nI b1), .int (nI h1), .ref o] (tf_rw S (tf_rf G o 1) F) rfl ⟨by decide, by decide, rfl⟩ trivial ?_
              refine tf_cV hx ftX11_climb (nx := 53) (As := [.int (nI h1), .int (nI b1)]) (rest := []) (st2 := [.int (tf_on 3000 (tf_be F h1 b1))]) (m_betterOf h1 b1 ho hsf hF h1_lt b1_lt) rfl lX11_123 (by first | assumption | rfl | decide) rfl ⟨rfl, by decide, by decide, by decide, rfl, rfl⟩ ?_
              by_cases d1 : tf_be F h1 b1 < 3000
              · rw [if_pos d1] at he
                rw [tf_on_y d1]
                have bo := (tf_be_ok F h1 b1).resolve_left (by omega)
                generalize tf_be F h1 b1 = q at *
                refine tf_go hx ftX11_climb 11 [true] 75 [some (.ref o), some (.int (nI h1)), some (.int (nI b1)), some (.int (nI n1)), none, some (.int (nI k)), some (.int (nI q))] [.int ((nI q) - (nI q) / 100 * 100), .int ((nI q) / 100), .int (nI b1), .ref o] (tf_rw S (tf_rf G o 1) F) rfl ⟨by decide, by decide, rfl⟩ ⟨⟨⟨trivial, (tf_leT (a := 0) (b := q) (rfl : (0 : Int32) = nI 0) rfl (by omega) (by omega) (by omega))⟩, (by decide)⟩, (by decide)⟩ ?_
                rw [show ((nI q) - (nI q) / 100 * 100) = nI (q % 100) from (tf_rem (a := q) (d := 100) rfl (rfl : (100 : Int32) = nI 100) (by omega) (by omega) (by omega))]
                rw [show ((nI q) / 100) = nI (q / 100) from (tf_div (a := q) (d := 100) rfl (rfl : (100 : Int32) = nI 100) (by omega) (by omega) (by omega))]
                refine tf_cV hx ftX11_climb (nx := 78) (As := [.int (nI b1), .int (nI (q / 100)), .int (nI (q % 100))]) (rest := []) (st2 := []) ((by have h := m_changes b1 (q / 100) (q % 100) ho hsf b1_lt (by omega) (by omega); rw [tf_rw_rw] at h; exact h)) rfl lX11_119 (by first | assumption | rfl | decide) rfl ⟨rfl, by decide, by decide, by decide, rfl, rfl⟩ ?_
                refine tf_go hx ftX11_climb 2 [] 41 [some (.ref o), some (.int (nI h1)), some (.int (nI b1)), some (.int (nI n1)), none, some (.int ((nI k) + 1)), some (.int (nI q))] [] (tf_rw S (tf_rf G o 1) (tf_ex F b1 (q / 100) (q % 100))) rfl ⟨by decide, by decide, rfl⟩ trivial ?_
                rw [show ((nI k) + 1) = nI (k + 1) from (tf_add (a := k) (b := 1) rfl (rfl : (1 : Int32) = nI 1))]
                refine tf_fgt [some (.ref o), some (.int (nI h1)), some (.int (nI b1)), some (.int (nI n1)), none, some (.int (nI (k + 1))), none] (by simp [tf_lss]) ?_
                exact ih (k + 1) (tf_ex F b1 (q / 100) (q % 100)) (by omega) he (tf_ex_gd hF b1_lt (by omega) (by omega)) (tf_ex_le hF2)
              · rw [if_neg d1] at he
                rw [tf_on_n d1]
                refine tf_go hx ftX11_climb 4 [false] 62 [some (.ref o), some (.int (nI h1)), some (.int (nI b1)), some (.int (nI n1)), none, some (.int (nI k)), some (.int (-9))] [.int (nI k)] (tf_rw S (tf_rf G o 1) F) rfl ⟨by decide, by decide, rfl⟩ ⟨trivial, (by decide)⟩ ?_
                exact tf_ret ftX11_climb hR rfl ⟨by decide, by decide⟩ rfl (by rw [← he]) (by rw [← he]; rfl)
          have h0 := loop n1 0 A.1 (by omega) rfl hg hb
          rw [hid] at h0
          exact h0
    · rw [if_neg (fun h => c1 h.2)]
      refine ⟨tf_rfS G S o 1, tf_Fn_of (own := RX11) false ⟨by decide, rfl, by decide⟩ (Nat.le_of_ble_eq_true rfl) trivial (fun x hx hR => ?_), tf_ms_ref ho hd hM 1, tf_fm_0⟩
      show tf_K x 0 0 G S 0 [some (.ref o), some (.int h), some (.int b), some (.int n), none, none, none] []
      refine tf_go hx ftX11_climb 1 [] 1 [some (.ref o), some (.int h), some (.int b), some (.int n), none, none, none] [.int h] S rfl ⟨by decide, by decide, rfl⟩ trivial ?_
      refine tf_cS hx ftX11_climb (nx := 4) (As := [.int h]) (rest := []) (st2 := [.int (if ¬ h < 0 ∧ ¬ 4 ≤ h then 1 else 0)]) (m_isHand h) rfl lX11_62 rfl ⟨rfl, by decide, by decide, by decide, rfl, rfl⟩ ?_
      rw [if_pos c0]
      refine tf_go hx ftX11_climb 1 [false] 7 [some (.ref o), some (.int h), some (.int b), some (.int n), none, none, none] [] S rfl ⟨by decide, by decide, rfl⟩ ⟨trivial, (by decide)⟩ ?_
      refine tf_go hx ftX11_climb 1 [] 8 [some (.ref o), some (.int h), some (.int b), some (.int n), none, none, none] [.int b] S rfl ⟨by decide, by decide, rfl⟩ trivial ?_
      refine tf_cS hx ftX11_climb (nx := 11) (As := [.int b]) (rest := []) (st2 := [.int (if ¬ b < 0 ∧ ¬ 4 ≤ b then 1 else 0)]) (m_isBoard b) rfl lX11_40 rfl ⟨rfl, by decide, by decide, by decide, rfl, rfl⟩ ?_
      rw [if_neg c1]
      refine tf_go hx ftX11_climb 1 [true] 23 [some (.ref o), some (.int h), some (.int b), some (.int n), none, none, none] [] S rfl ⟨by decide, by decide, rfl⟩ ⟨trivial, (by decide)⟩ ?_
      refine tf_go hx ftX11_climb 3 [] 28 [some (.ref o), some (.int h), some (.int b), some (.int n), some (.int (-1)), none, none] [.int (-1)] S rfl ⟨by decide, by decide, rfl⟩ trivial ?_
      refine tf_go hx ftX11_climb 3 [false] 34 [some (.ref o), some (.int h), some (.int b), some (.int n), some (.int (-1)), none, none] [.int (-1), .ref o] S rfl ⟨by decide, by decide, rfl⟩ ⟨trivial, (by decide)⟩ ?_
      refine tf_cV hx ftX11_climb (nx := 37) (As := [.int (-1)]) (rest := []) (st2 := [.int (-1)]) (m_ref1 ho) rfl lX11_26 (by first | assumption | rfl | decide) rfl ⟨rfl, by decide, by decide, by decide, rfl, rfl⟩ ?_
      exact tf_ret ftX11_climb hR rfl ⟨by decide, by decide⟩ rfl rfl rfl
  · rw [if_neg (fun h => c0 h.1)]
    refine ⟨tf_rfS G S o 1, tf_Fn_of (own := RX11) false ⟨by decide, rfl, by decide⟩ (Nat.le_of_ble_eq_true rfl) trivial (fun x hx hR => ?_), tf_ms_ref ho hd hM 1, tf_fm_0⟩
    show tf_K x 0 0 G S 0 [some (.ref o), some (.int h), some (.int b), some (.int n), none, none, none] []
    refine tf_go hx ftX11_climb 1 [] 1 [some (.ref o), some (.int h), some (.int b), some (.int n), none, none, none] [.int h] S rfl ⟨by decide, by decide, rfl⟩ trivial ?_
    refine tf_cS hx ftX11_climb (nx := 4) (As := [.int h]) (rest := []) (st2 := [.int (if ¬ h < 0 ∧ ¬ 4 ≤ h then 1 else 0)]) (m_isHand h) rfl lX11_62 rfl ⟨rfl, by decide, by decide, by decide, rfl, rfl⟩ ?_
    rw [if_neg c0]
    refine tf_go hx ftX11_climb 1 [true] 23 [some (.ref o), some (.int h), some (.int b), some (.int n), none, none, none] [] S rfl ⟨by decide, by decide, rfl⟩ ⟨trivial, (by decide)⟩ ?_
    refine tf_go hx ftX11_climb 3 [] 28 [some (.ref o), some (.int h), some (.int b), some (.int n), some (.int (-1)), none, none] [.int (-1)] S rfl ⟨by decide, by decide, rfl⟩ trivial ?_
    refine tf_go hx ftX11_climb 3 [false] 34 [some (.ref o), some (.int h), some (.int b), some (.int n), some (.int (-1)), none, none] [.int (-1), .ref o] S rfl ⟨by decide, by decide, rfl⟩ ⟨trivial, (by decide)⟩ ?_
    refine tf_cV hx ftX11_climb (nx := 37) (As := [.int (-1)]) (rest := []) (st2 := [.int (-1)]) (m_ref1 ho) rfl lX11_26 (by first | assumption | rfl | decide) rfl ⟨rfl, by decide, by decide, by decide, rfl, rfl⟩ ?_
    exact tf_ret ftX11_climb hR rfl ⟨by decide, by decide⟩ rfl rfl rfl

set_option maxHeartbeats 2000000 in
theorem p_soonest {G : tf_G} {S : tf_Sg} {o : Nat} {A : tf_A} (h b d : Int32) (ho : tf_mo G o) (hd : tf_md G o) (hA : tf_okA A) (hM : tf_ms G S o A)  : tf_pm mX11_soonest 7 G S o [.ref o, .int h, .int b, .int d] (s_soonest A h b d) := by
  obtain ⟨h1, ⟨r0, t0, n0⟩, ⟨r1, t1, n1⟩, ⟨r2, t2, n2⟩, ⟨r4, t4, n4⟩⟩ := id ho
  obtain ⟨hg, hb, hA3, hA4, hA5, hA6⟩ := id hA
  have hs := hM.1
  have hf : tf_sf G S o A.1 := ⟨hM.1, hb⟩
  obtain ⟨⟨g1, g2, g3, g4⟩, g5, g6, g7, g8, g9, g10, g11⟩ := id hg
  unfold s_soonest
  by_cases c0 : ¬ h < 0 ∧ ¬ 4 ≤ h
  · by_cases c1 : ¬ b < 0 ∧ ¬ 4 ≤ b
    · rw [if_pos ⟨c0, c1⟩]
      obtain ⟨h1, h1_lt, h1_eq, h1_cl⟩ := tf_ok_nI (N := 4) (show tf_ok h _ from c0) rfl (by decide)
      try rw [h1_cl]
      obtain ⟨b1, b1_lt, b1_eq, b1_cl⟩ := tf_ok_nI (N := 4) (show tf_ok b _ from c1) rfl (by decide)
      try rw [b1_cl]
      subst h1_eq
      subst b1_eq
      by_cases e1 : ¬ 0 ≤ d
      · rw [if_pos e1]
        refine ⟨tf_rfS G S o 4, tf_Fn_of (own := RX11) false ⟨by decide, rfl, by decide⟩ (Nat.le_of_ble_eq_true rfl) trivial (fun x hx hR => ?_), tf_ms_ref ho hd hM 4, tf_fm_0⟩
        show tf_K x 0 0 G S 0 [some (.ref o), some (.int (nI h1)), some (.int (nI b1)), some (.int d), none, none, none] []
        refine tf_go hx ftX11_soonest 1 [] 1 [some (.ref o), some (.int (nI h1)), some (.int (nI b1)), some (.int d), none, none, none] [.int (nI h1)] S rfl ⟨by decide, by decide, rfl⟩ trivial ?_
        refine tf_cS hx ftX11_soonest (nx := 4) (As := [.int (nI h1)]) (rest := []) (st2 := [.int (if ¬ (nI h1) < 0 ∧ ¬ 4 ≤ (nI h1) then 1 else 0)]) (m_isHand (nI h1)) rfl lX11_62 rfl ⟨rfl, by decide, by decide, by decide, rfl, rfl⟩ ?_
        rw [if_pos c0]
        refine tf_go hx ftX11_soonest 1 [false] 7 [some (.ref o), some (.int (nI h1)), some (.int (nI b1)), some (.int d), none, none, none] [] S rfl ⟨by decide, by decide, rfl⟩ ⟨trivial, (by decide)⟩ ?_
        refine tf_go hx ftX11_soonest 1 [] 8 [some (.ref o), some (.int (nI h1)), some (.int (nI b1)), some (.int d), none, none, none] [.int (nI b1)] S rfl ⟨by decide, by decide, rfl⟩ trivial ?_
        refine tf_cS hx ftX11_soonest (nx := 11) (As := [.int (nI b1)]) (rest := []) (st2 := [.int (if ¬ (nI b1) < 0 ∧ ¬ 4 ≤ (nI b1) then 1 else 0)]) (m_isBoard (nI b1)) rfl lX11_40 rfl ⟨rfl, by decide, by decide, by decide, rfl, rfl⟩ ?_
        rw [if_pos c1]
        refine tf_go hx ftX11_soonest 1 [false] 14 [some (.ref o), some (.int (nI h1)), some (.int (nI b1)), some (.int d), none, none, none] [] S rfl ⟨by decide, by decide, rfl⟩ ⟨trivial, (by decide)⟩ ?_
        refine tf_go hx ftX11_soonest 3 [] 19 [some (.ref o), some (.int (nI h1)), some (.int (nI b1)), some (.int d), none, none, none] [.int 9999, .int 0, .int d] S rfl ⟨by decide, by decide, rfl⟩ trivial ?_
        refine tf_cS hx ftX11_soonest (nx := 22) (As := [.int d, .int 0, .int 9999]) (rest := []) (st2 := [.int (if ¬ 0 ≤ d then (-4) else if ¬ d ≤ 9999 then (-6) else 0)]) (m_within d 0 9999) rfl lX11_65 rfl ⟨rfl, by decide, by decide, by decide, rfl, rfl⟩ ?_
        rw [if_pos e1]
        refine tf_go hx ftX11_soonest 3 [] 30 [some (.ref o), some (.int (nI h1)), some (.int (nI b1)), some (.int d), some (.int (-4)), none, none] [.int (-4)] S rfl ⟨by decide, by decide, rfl⟩ trivial ?_
        refine tf_go hx ftX11_soonest 3 [false] 36 [some (.ref o), some (.int (nI h1)), some (.int (nI b1)), some (.int d), some (.int (-4)), none, none] [.int (-4), .ref o] S rfl ⟨by decide, by decide, rfl⟩ ⟨trivial, (by decide)⟩ ?_
        refine tf_cV hx ftX11_soonest (nx := 39) (As := [.int (-4)]) (rest := []) (st2 := [.int (-4)]) (m_ref4 ho) rfl lX11_26 (by first | assumption | rfl | decide) rfl ⟨rfl, by decide, by decide, by decide, rfl, rfl⟩ ?_
        exact tf_ret ftX11_soonest hR rfl ⟨by decide, by decide⟩ rfl rfl rfl
      · by_cases e2 : ¬ d ≤ 9999
        · rw [if_neg e1, if_pos e2]
          refine ⟨tf_rfS G S o 6, tf_Fn_of (own := RX11) false ⟨by decide, rfl, by decide⟩ (Nat.le_of_ble_eq_true rfl) trivial (fun x hx hR => ?_), tf_ms_ref ho hd hM 6, tf_fm_0⟩
          show tf_K x 0 0 G S 0 [some (.ref o), some (.int (nI h1)), some (.int (nI b1)), some (.int d), none, none, none] []
          refine tf_go hx ftX11_soonest 1 [] 1 [some (.ref o), some (.int (nI h1)), some (.int (nI b1)), some (.int d), none, none, none] [.int (nI h1)] S rfl ⟨by decide, by decide, rfl⟩ trivial ?_
          refine tf_cS hx ftX11_soonest (nx := 4) (As := [.int (nI h1)]) (rest := []) (st2 := [.int (if ¬ (nI h1) < 0 ∧ ¬ 4 ≤ (nI h1) then 1 else 0)]) (m_isHand (nI h1)) rfl lX11_62 rfl ⟨rfl, by decide, by decide, by decide, rfl, rfl⟩ ?_
          rw [if_pos c0]
          refine tf_go hx ftX11_soonest 1 [false] 7 [some (.ref o), some (.int (nI h1)), some (.int (nI b1)), some (.int d), none, none, none] [] S rfl ⟨by decide, by decide, rfl⟩ ⟨trivial, (by decide)⟩ ?_
          refine tf_go hx ftX11_soonest 1 [] 8 [some (.ref o), some (.int (nI h1)), some (.int (nI b1)), some (.int d), none, none, none] [.int (nI b1)] S rfl ⟨by decide, by decide, rfl⟩ trivial ?_
          refine tf_cS hx ftX11_soonest (nx := 11) (As := [.int (nI b1)]) (rest := []) (st2 := [.int (if ¬ (nI b1) < 0 ∧ ¬ 4 ≤ (nI b1) then 1 else 0)]) (m_isBoard (nI b1)) rfl lX11_40 rfl ⟨rfl, by decide, by decide, by decide, rfl, rfl⟩ ?_
          rw [if_pos c1]
          refine tf_go hx ftX11_soonest 1 [false] 14 [some (.ref o), some (.int (nI h1)), some (.int (nI b1)), some (.int d), none, none, none] [] S rfl ⟨by decide, by decide, rfl⟩ ⟨trivial, (by decide)⟩ ?_
          refine tf_go hx ftX11_soonest 3 [] 19 [some (.ref o), some (.int (nI h1)), some (.int (nI b1)), some (.int d), none, none, none] [.int 9999, .int 0, .int d] S rfl ⟨by decide, by decide, rfl⟩ trivial ?_
          refine tf_cS hx ftX11_soonest (nx := 22) (As := [.int d, .int 0, .int 9999]) (rest := []) (st2 := [.int (if ¬ 0 ≤ d then (-4) else if ¬ d ≤ 9999 then (-6) else 0)]) (m_within d 0 9999) rfl lX11_65 rfl ⟨rfl, by decide, by decide, by decide, rfl, rfl⟩ ?_
          rw [if_neg e1, if_pos e2]
          refine tf_go hx ftX11_soonest 3 [] 30 [some (.ref o), some (.int (nI h1)), some (.int (nI b1)), some (.int d), some (.int (-6)), none, none] [.int (-6)] S rfl ⟨by decide, by decide, rfl⟩ trivial ?_
          refine tf_go hx ftX11_soonest 3 [false] 36 [some (.ref o), some (.int (nI h1)), some (.int (nI b1)), some (.int d), some (.int (-6)), none, none] [.int (-6), .ref o] S rfl ⟨by decide, by decide, rfl⟩ ⟨trivial, (by decide)⟩ ?_
          refine tf_cV hx ftX11_soonest (nx := 39) (As := [.int (-6)]) (rest := []) (st2 := [.int (-6)]) (m_ref6 ho) rfl lX11_26 (by first | assumption | rfl | decide) rfl ⟨rfl, by decide, by decide, by decide, rfl, rfl⟩ ?_
          exact tf_ret ftX11_soonest hR rfl ⟨by decide, by decide⟩ rfl rfl rfl
        · rw [if_neg e1, if_neg e2]
          obtain ⟨d1, d1_le, d1_eq⟩ := nI_of2 (M := 9999) (n := 9999) (x := d) (by decide) (fun h => e1 (fun h2 => absurd h (Int32.not_lt.mpr h2))) (Classical.not_not.mp e2)
          have d1_cl : d.toNatClampNeg = d1 := by rw [d1_eq]; exact tf_cl_nI (by omega)
          rw [d1_cl]
          subst d1_eq
          refine ⟨S, tf_Fn_of (own := RX11) false ⟨by decide, rfl, by decide⟩ (Nat.le_of_ble_eq_true rfl) trivial (fun x hx hR => ?_), hM, tf_fm_id⟩
          show tf_K x 0 0 G S 0 [some (.ref o), some (.int (nI h1)), some (.int (nI b1)), some (.int (nI d1)), none, none, none] []
          refine tf_go hx ftX11_soonest 1 [] 1 [some (.ref o), some (.int (nI h1)), some (.int (nI b1)), some (.int (nI d1)), none, none, none] [.int (nI h1)] S rfl ⟨by decide, by decide, rfl⟩ trivial ?_
          refine tf_cS hx ftX11_soonest (nx := 4) (As := [.int (nI h1)]) (rest := []) (st2 := [.int (if ¬ (nI h1) < 0 ∧ ¬ 4 ≤ (nI h1) then 1 else 0)]) (m_isHand (nI h1)) rfl lX11_62 rfl ⟨rfl, by decide, by decide, by decide, rfl, rfl⟩ ?_
          rw [if_pos c0]
          refine tf_go hx ftX11_soonest 1 [false] 7 [some (.ref o), some (.int (nI h1)), some (.int (nI b1)), some (.int (nI d1)), none, none, none] [] S rfl ⟨by decide, by decide, rfl⟩ ⟨trivial, (by decide)⟩ ?_
          refine tf_go hx ftX11_soonest 1 [] 8 [some (.ref o), some (.int (nI h1)), some (.int (nI b1)), some (.int (nI d1)), none, none, none] [.int (nI b1)] S rfl ⟨by decide, by decide, rfl⟩ trivial ?_
          refine tf_cS hx ftX11_soonest (nx := 11) (As := [.int (nI b1)]) (rest := []) (st2 := [.int (if ¬ (nI b1) < 0 ∧ ¬ 4 ≤ (nI b1) then 1 else 0)]) (m_isBoard (nI b1)) rfl lX11_40 rfl ⟨rfl, by decide, by decide, by decide, rfl, rfl⟩ ?_
          rw [if_pos c1]
          refine tf_go hx ftX11_soonest 1 [false] 14 [some (.ref o), some (.int (nI h1)), some (.int (nI b1)), some (.int (nI d1)), none, none, none] [] S rfl ⟨by decide, by decide, rfl⟩ ⟨trivial, (by decide)⟩ ?_
          refine tf_go hx ftX11_soonest 3 [] 19 [some (.ref o), some (.int (nI h1)), some (.int (nI b1)), some (.int (nI d1)), none, none, none] [.int 9999, .int 0, .int (nI d1)] S rfl ⟨by decide, by decide, rfl⟩ trivial ?_
          refine tf_cS hx ftX11_soonest (nx := 22) (As := [.int (nI d1), .int 0, .int 9999]) (rest := []) (st2 := [.int (if ¬ 0 ≤ (nI d1) then (-4) else if ¬ (nI d1) ≤ 9999 then (-6) else 0)]) (m_within (nI d1) 0 9999) rfl lX11_65 rfl ⟨rfl, by decide, by decide, by decide, rfl, rfl⟩ ?_
          rw [if_neg e1, if_neg e2]
          refine tf_go hx ftX11_soonest 3 [] 30 [some (.ref o), some (.int (nI h1)), some (.int (nI b1)), some (.int (nI d1)), some (.int 0), none, none] [.int 0] S rfl ⟨by decide, by decide, rfl⟩ trivial ?_
          refine tf_go hx ftX11_soonest 5 [true] 46 [some (.ref o), some (.int (nI h1)), some (.int (nI b1)), some (.int (nI d1)), some (.int 0), some (.int 1), some (.int 2)] [] S rfl ⟨by decide, by decide, rfl⟩ ⟨trivial, (by decide)⟩ ?_
          refine tf_fgt [some (.ref o), some (.int (nI h1)), some (.int (nI b1)), some (.int (nI d1)), none, some (.int 1), some (.int 2)] (by simp [tf_lss]) ?_
          have pl : ∀ p, p ≤ 9 → tf_pc A.1 h1 b1 p d1 ≤ 480000 + 32 * 9999 := fun p hp => tf_pc_le hg h1_lt hp d1_le
          have loop : ∀ (m k : Nat) (q : Nat), k + m = 10 → (tf_sn A.1 h1 b1 d1 m k q = tf_sn A.1 h1 b1 d1 8 2 1) → (q ≤ 9) → tf_K x 0 0 G S 46 [some (.ref o), some (.int (nI h1)), some (.int (nI b1)), some (.int (nI d1)), none, some (.int (nI q)), some (.int (nI k))] [] := by
            intro m
            induction m with
            | zero =>
              intro k q hk he hq
              refine tf_go hx ftX11_soonest 2 [] 50 [some (.ref o), some (.int (nI h1)), some (.int (nI b1)), some (.int (nI d1)), none, some (.int (nI q)), some (.int (nI k))] [.int 10, .int (nI k)] S rfl ⟨by decide, by decide, rfl⟩ trivial ?_
              refine tf_go hx ftX11_soonest 2 [true] 91 [some (.ref o), some (.int (nI h1)), some (.int (nI b1)), some (.int (nI d1)), none, some (.int (nI q)), some (.int (nI k))] [.int (nI q)] S rfl ⟨by decide, by decide, rfl⟩ ⟨trivial, (tf_leT (a := 10) (b := k) (rfl : (10 : Int32) = nI 10) rfl (by omega) (by omega) (by omega))⟩ ?_
              exact tf_ret ftX11_soonest hR rfl ⟨by decide, by decide⟩ rfl rfl (by rw [← he]; rfl)
            | succ m ih =>
              intro k q hk he hq
              rw [tf_sn_s] at he
              have p1 := pl k (by omega)
              have p2 := pl q hq
              refine tf_go hx ftX11_soonest 2 [] 50 [some (.ref o), some (.int (nI h1)), some (.int (nI b1)), some (.int (nI d1)), none, some (.int (nI q)), some (.int (nI k))] [.int 10, .int (nI k)] S rfl ⟨by decide, by decide, rfl⟩ trivial ?_
              refine tf_go hx ftX11_soonest 1 [false] 53 [some (.ref o), some (.int (nI h1)), some (.int (nI b1)), some (.int (nI d1)), none, some (.int (nI q)), some (.int (nI k))] [] S rfl ⟨by decide, by decide, rfl⟩ ⟨trivial, (tf_leF (a := 10) (b := k) (rfl : (10 : Int32) = nI 10) rfl (by omega) (by omega) (by omega))⟩ ?_
              refine tf_go hx ftX11_soonest 5 [] 59 [some (.ref o), some (.int (nI h1)), some (.int (nI b1)), some (.int (nI d1)), none, some (.int (nI q)), some (.int (nI k))] [.int (nI d1), .int (nI k), .int (nI b1), .int (nI h1), .ref o] S rfl ⟨by decide, by decide, rfl⟩ trivial ?_
              refine tf_cV hx ftX11_soonest (nx := 62) (As := [.int (nI h1), .int (nI b1), .int (nI k), .int (nI d1)]) (rest := []) (st2 := [.int (nI (tf_pc A.1 h1 b1 k d1))]) (m_paceOf h1 b1 k d1 ho hf hg h1_lt b1_lt (by omega)) rfl lX11_132 (by first | assumption | rfl | decide) rfl ⟨rfl, by decide, by decide, by decide, rfl, rfl⟩ ?_
              refine tf_go hx ftX11_soonest 5 [] 68 [some (.ref o), some (.int (nI h1)), some (.int (nI b1)), some (.int (nI d1)), none, some (.int (nI q)), some (.int (nI k))] [.int (nI d1), .int (nI q), .int (nI b1), .int (nI h1), .ref o, .int (nI (tf_pc A.1 h1 b1 k d1))] S rfl ⟨by decide, by decide, rfl⟩ trivial ?_
              refine tf_cV hx ftX11_soonest (nx := 71) (As := [.int (nI h1), .int (nI b1), .int (nI q), .int (nI d1)]) (rest := [.int (nI (tf_pc A.1 h1 b1 k d1))]) (st2 := [.int (nI (tf_pc A.1 h1 b1 q d1)), .int (nI (tf_pc A.1 h1 b1 k d1))]) (m_paceOf h1 b1 q d1 ho hf hg h1_lt b1_lt hq) rfl lX11_132 (by first | assumption | rfl | decide) rfl ⟨rfl, by decide, by decide, by decide, rfl, rfl⟩ ?_
              by_cases e3 : tf_pc A.1 h1 b1 k d1 < tf_pc A.1 h1 b1 q d1
              · rw [if_pos e3] at he
                refine tf_go hx ftX11_soonest 6 [false] 46 [some (.ref o), some (.int (nI h1)), some (.int (nI b1)), some (.int (nI d1)), none, some (.int (nI k)), some (.int ((nI k) + 1))] [] S rfl ⟨by decide, by decide, rfl⟩ ⟨trivial, (tf_leF (a := (tf_pc A.1 h1 b1 q d1)) (b := (tf_pc A.1 h1 b1 k d1)) rfl rfl (by have := hb h1; omega) (by have := hb h1; omega) (by have := hb h1; omega))⟩ ?_
                rw [show ((nI k) + 1) = nI (k + 1) from (tf_add (a := k) (b := 1) rfl (rfl : (1 : Int32) = nI 1))]
                exact ih (k + 1) k (by omega) he (by omega)
              · rw [if_neg e3] at he
                refine tf_go hx ftX11_soonest 5 [true] 46 [some (.ref o), some (.int (nI h1)), some (.int (nI b1)), some (.int (nI d1)), none, some (.int (nI q)), some (.int ((nI k) + 1))] [] S rfl ⟨by decide, by decide, rfl⟩ ⟨trivial, (tf_leT (a := (tf_pc A.1 h1 b1 q d1)) (b := (tf_pc A.1 h1 b1 k d1)) rfl rfl (by have := hb h1; omega) (by have := hb h1; omega) (by have := hb h1; omega))⟩ ?_
                rw [show ((nI k) + 1) = nI (k + 1) from (tf_add (a := k) (b := 1) rfl (rfl : (1 : Int32) = nI 1))]
                exact ih (k + 1) q (by omega) he hq
          exact loop 8 2 1 rfl rfl (by omega)
    · rw [if_neg (fun h => c1 h.2)]
      refine ⟨tf_rfS G S o 1, tf_Fn_of (own := RX11) false ⟨by decide, rfl, by decide⟩ (Nat.le_of_ble_eq_true rfl) trivial (fun x hx hR => ?_), tf_ms_ref ho hd hM 1, tf_fm_0⟩
      show tf_K x 0 0 G S 0 [some (.ref o), some (.int h), some (.int b), some (.int d), none, none, none] []
      refine tf_go hx ftX11_soonest 1 [] 1 [some (.ref o), some (.int h), some (.int b), some (.int d), none, none, none] [.int h] S rfl ⟨by decide, by decide, rfl⟩ trivial ?_
      refine tf_cS hx ftX11_soonest (nx := 4) (As := [.int h]) (rest := []) (st2 := [.int (if ¬ h < 0 ∧ ¬ 4 ≤ h then 1 else 0)]) (m_isHand h) rfl lX11_62 rfl ⟨rfl, by decide, by decide, by decide, rfl, rfl⟩ ?_
      rw [if_pos c0]
      refine tf_go hx ftX11_soonest 1 [false] 7 [some (.ref o), some (.int h), some (.int b), some (.int d), none, none, none] [] S rfl ⟨by decide, by decide, rfl⟩ ⟨trivial, (by decide)⟩ ?_
      refine tf_go hx ftX11_soonest 1 [] 8 [some (.ref o), some (.int h), some (.int b), some (.int d), none, none, none] [.int b] S rfl ⟨by decide, by decide, rfl⟩ trivial ?_
      refine tf_cS hx ftX11_soonest (nx := 11) (As := [.int b]) (rest := []) (st2 := [.int (if ¬ b < 0 ∧ ¬ 4 ≤ b then 1 else 0)]) (m_isBoard b) rfl lX11_40 rfl ⟨rfl, by decide, by decide, by decide, rfl, rfl⟩ ?_
      rw [if_neg c1]
      refine tf_go hx ftX11_soonest 1 [true] 25 [some (.ref o), some (.int h), some (.int b), some (.int d), none, none, none] [] S rfl ⟨by decide, by decide, rfl⟩ ⟨trivial, (by decide)⟩ ?_
      refine tf_go hx ftX11_soonest 3 [] 30 [some (.ref o), some (.int h), some (.int b), some (.int d), some (.int (-1)), none, none] [.int (-1)] S rfl ⟨by decide, by decide, rfl⟩ trivial ?_
      refine tf_go hx ftX11_soonest 3 [false] 36 [some (.ref o), some (.int h), some (.int b), some (.int d), some (.int (-1)), none, none] [.int (-1), .ref o] S rfl ⟨by decide, by decide, rfl⟩ ⟨trivial, (by decide)⟩ ?_
      refine tf_cV hx ftX11_soonest (nx := 39) (As := [.int (-1)]) (rest := []) (st2 := [.int (-1)]) (m_ref1 ho) rfl lX11_26 (by first | assumption | rfl | decide) rfl ⟨rfl, by decide, by decide, by decide, rfl, rfl⟩ ?_
      exact tf_ret ftX11_soonest hR rfl ⟨by decide, by decide⟩ rfl rfl rfl
  · rw [if_neg (fun h => c0 h.1)]
    refine ⟨tf_rfS G S o 1, tf_Fn_of (own := RX11) false ⟨by decide, rfl, by decide⟩ (Nat.le_of_ble_eq_true rfl) trivial (fun x hx hR => ?_), tf_ms_ref ho hd hM 1, tf_fm_0⟩
    show tf_K x 0 0 G S 0 [some (.ref o), some (.int h), some (.int b), some (.int d), none, none, none] []
    refine tf_go hx ftX11_soonest 1 [] 1 [some (.ref o), some (.int h), some (.int b), some (.int d), none, none, none] [.int h] S rfl ⟨by decide, by decide, rfl⟩ trivial ?_
    refine tf_cS hx ftX11_soonest (nx := 4) (As := [.int h]) (rest := []) (st2 := [.int (if ¬ h < 0 ∧ ¬ 4 ≤ h then 1 else 0)]) (m_isHand h) rfl lX11_62 rfl ⟨rfl, by decide, by decide, by decide, rfl, rfl⟩ ?_
    rw [if_neg c0]
    refine tf_go hx ftX11_soonest 1 [true] 25 [some (.ref o), some (.int h), some (.int b), some (.int d), none, none, none] [] S rfl ⟨by decide, by decide, rfl⟩ ⟨trivial, (by decide)⟩ ?_
    refine tf_go hx ftX11_soonest 3 [] 30 [some (.ref o), some (.int h), some (.int b), some (.int d), some (.int (-1)), none, none] [.int (-1)] S rfl ⟨by decide, by decide, rfl⟩ trivial ?_
    refine tf_go hx ftX11_soonest 3 [false] 36 [some (.ref o), some (.int h), some (.int b), some (.int d), some (.int (-1)), none, none] [.int (-1), .ref o] S rfl ⟨by decide, by decide, rfl⟩ ⟨trivial, (by decide)⟩ ?_
    refine tf_cV hx ftX11_soonest (nx := 39) (As := [.int (-1)]) (rest := []) (st2 := [.int (-1)]) (m_ref1 ho) rfl lX11_26 (by first | assumption | rfl | decide) rfl ⟨rfl, by decide, by decide, by decide, rfl, rfl⟩ ?_
    exact tf_ret ftX11_soonest hR rfl ⟨by decide, by decide⟩ rfl rfl rfl

set_option maxHeartbeats 2000000 in
theorem p_nearest {G : tf_G} {S : tf_Sg} {o : Nat} {A : tf_A} (b : Int32) (ho : tf_mo G o) (hd : tf_md G o) (hA : tf_okA A) (hM : tf_ms G S o A)  : tf_pm mX11_nearest 6 G S o [.ref o, .int b] (s_nearest A b) := by
  obtain ⟨h1, ⟨r0, t0, n0⟩, ⟨r1, t1, n1⟩, ⟨r2, t2, n2⟩, ⟨r4, t4, n4⟩⟩ := id ho
  obtain ⟨hg, hb, hA3, hA4, hA5, hA6⟩ := id hA
  have hs := hM.1
  have hf : tf_sf G S o A.1 := ⟨hM.1, hb⟩
  obtain ⟨⟨g1, g2, g3, g4⟩, g5, g6, g7, g8, g9, g10, g11⟩ := id hg
  unfold s_nearest
  by_cases c0 : ¬ b < 0 ∧ ¬ 4 ≤ b
  · rw [if_pos c0]
    obtain ⟨b1, b1_lt, b1_eq, b1_cl⟩ := tf_ok_nI (N := 4) (show tf_ok b _ from c0) rfl (by decide)
    try rw [b1_cl]
    subst b1_eq
    by_cases e1 : A.1 367 = A.1 364
    · rw [if_pos e1]
      have fl : ∀ h, h < 4 → tf_fa A.1 h b1 ≤ 2000000 := fun h hh => tf_fa_le hg hb hh
      generalize hQ : tf_nb A.1 b1 3 1 0 = Q at *
      by_cases e2 : tf_nu A.1 b1 Q 4 0 = true
      · rw [if_pos e2]
        refine ⟨S, tf_Fn_of (own := RX11) false ⟨by decide, rfl, by decide⟩ (Nat.le_of_ble_eq_true rfl) trivial (fun x hx hR => ?_), hM, tf_fm_id⟩
        show tf_K x 0 0 G S 0 [some (.ref o), some (.int (nI b1)), none, none] []
        refine tf_go hx ftX11_nearest 1 [] 1 [some (.ref o), some (.int (nI b1)), none, none] [.int (nI b1)] S rfl ⟨by decide, by decide, rfl⟩ trivial ?_
        refine tf_cS hx ftX11_nearest (nx := 4) (As := [.int (nI b1)]) (rest := []) (st2 := [.int (if ¬ (nI b1) < 0 ∧ ¬ 4 ≤ (nI b1) then 1 else 0)]) (m_isBoard (nI b1)) rfl lX11_40 rfl ⟨rfl, by decide, by decide, by decide, rfl, rfl⟩ ?_
        rw [if_pos c0]
        refine tf_go hx ftX11_nearest 1 [true] 13 [some (.ref o), some (.int (nI b1)), none, none] [] S rfl ⟨by decide, by decide, rfl⟩ ⟨trivial, (by decide)⟩ ?_
        refine tf_go hx ftX11_nearest 8 [] 29 [some (.ref o), some (.int (nI b1)), none, none] [.int (S (tf_rf G o 1) (Int32.toNatClampNeg 364)), .int (S (tf_rf G o 1) (Int32.toNatClampNeg 367))] S rfl ⟨by decide, by decide, rfl⟩ ⟨⟨⟨⟨trivial, ⟨by first | assumption | rfl | decide | omega, by first | assumption | rfl | decide | omega⟩⟩, ⟨Or.inl (by first | assumption | rfl | decide | omega), by first | assumption | exact tf_in (n := 367) (rfl : (367 : Int32) = nI 367) (by first | assumption | rfl) (by omega) (by decide)⟩⟩, ⟨by first | assumption | rfl | decide | omega, by first | assumption | rfl | decide | omega⟩⟩, ⟨Or.inl (by first | assumption | rfl | decide | omega), by first | assumption | exact tf_in (n := 364) (rfl : (364 : Int32) = nI 364) (by first | assumption | rfl) (by omega) (by decide)⟩⟩ ?_
        rw [show (S (tf_rf G o 1) (Int32.toNatClampNeg 364)) = nI (A.1 364) from (tf_rd hs (rfl : (364 : Int32) = nI 364) (by omega))]
        rw [show (S (tf_rf G o 1) (Int32.toNatClampNeg 367)) = nI (A.1 367) from (tf_rd hs (rfl : (367 : Int32) = nI 367) (by omega))]
        refine tf_go hx ftX11_nearest 5 [true] 39 [some (.ref o), some (.int (nI b1)), some (.int 0), some (.int 1)] [] S rfl ⟨by decide, by decide, rfl⟩ ⟨trivial, (tf_eqT (a := (A.1 367)) (b := (A.1 364)) rfl rfl (by have := hb 367; have := hb 364; omega))⟩ ?_
        have tail : Q < 4 → tf_K x 0 0 G S 71 [some (.ref o), some (.int (nI b1)), some (.int (nI Q)), some (.int (nI 4))] [] := by
          intro hq4
          refine tf_go hx ftX11_nearest 2 [] 73 [some (.ref o), some (.int (nI b1)), some (.int (nI Q)), some (.int 0)] [] S rfl ⟨by decide, by decide, rfl⟩ trivial ?_
          have l2 : ∀ (m k : Nat), k + m = 4 → (tf_nu A.1 b1 Q m k = tf_nu A.1 b1 Q 4 0) → tf_K x 0 0 G S 73 [some (.ref o), some (.int (nI b1)), some (.int (nI Q)), some (.int (nI k))] [] := by
            intro m
            induction m with
            | zero =>
              intro k hk he
              refine tf_go hx ftX11_nearest 2 [] 75 [some (.ref o), some (.int (nI b1)), some (.int (nI Q)), some (.int (nI k))] [.int 4, .int (nI k)] S rfl ⟨by decide, by decide, rfl⟩ trivial ?_
              refine tf_go hx ftX11_nearest 2 [true] 108 [some (.ref o), some (.int (nI b1)), some (.int (nI Q)), some (.int (nI k))] [.int (nI Q)] S rfl ⟨by decide, by decide, rfl⟩ ⟨trivial, (tf_leT (a := 4) (b := k) (rfl : (4 : Int32) = nI 4) rfl (by omega) (by omega) (by omega))⟩ ?_
              exact tf_ret ftX11_nearest hR rfl ⟨by decide, by decide⟩ rfl rfl rfl
            | succ m ih =>
              intro k hk he
              rw [tf_nu_s] at he
              have p1 := fl k (by omega)
              have p2 := fl Q hq4
              refine tf_go hx ftX11_nearest 2 [] 75 [some (.ref o), some (.int (nI b1)), some (.int (nI Q)), some (.int (nI k))] [.int 4, .int (nI k)] S rfl ⟨by decide, by decide, rfl⟩ trivial ?_
              refine tf_go hx ftX11_nearest 1 [false] 78 [some (.ref o), some (.int (nI b1)), some (.int (nI Q)), some (.int (nI k))] [] S rfl ⟨by decide, by decide, rfl⟩ ⟨trivial, (tf_leF (a := 4) (b := k) (rfl : (4 : Int32) = nI 4) rfl (by omega) (by omega) (by omega))⟩ ?_
              refine tf_go hx ftX11_nearest 2 [] 80 [some (.ref o), some (.int (nI b1)), some (.int (nI Q)), some (.int (nI k))] [.int (nI Q), .int (nI k)] S rfl ⟨by decide, by decide, rfl⟩ trivial ?_
              by_cases d1 : k = Q
              · rw [if_neg (fun h => h.1 d1)] at he
                refine tf_go hx ftX11_nearest 3 [true] 73 [some (.ref o), some (.int (nI b1)), some (.int (nI Q)), some (.int ((nI k) + 1))] [] S rfl ⟨by decide, by decide, rfl⟩ ⟨trivial, (tf_eqT (a := k) (b := Q) rfl rfl (by omega))⟩ ?_
                rw [show ((nI k) + 1) = nI (k + 1) from (tf_add (a := k) (b := 1) rfl (rfl : (1 : Int32) = nI 1))]
                exact ih (k + 1) (by omega) he
              · refine tf_go hx ftX11_nearest 4 [false] 86 [some (.ref o), some (.int (nI b1)), some (.int (nI Q)), some (.int (nI k))] [.int (nI b1), .int (nI k), .ref o] S rfl ⟨by decide, by decide, rfl⟩ ⟨trivial, (tf_eqF (a := k) (b := Q) rfl rfl (by omega) (by omega) (by omega))⟩ ?_
                refine tf_cV hx ftX11_nearest (nx := 89) (As := [.int (nI k), .int (nI b1)]) (rest := []) (st2 := [.int (nI (tf_fa A.1 k b1))]) (m_farOf k b1 ho hf hg (by omega) b1_lt) rfl lX11_126 (by first | assumption | rfl | decide) rfl ⟨rfl, by decide, by decide, by decide, rfl, rfl⟩ ?_
                refine tf_go hx ftX11_nearest 3 [] 92 [some (.ref o), some (.int (nI b1)), some (.int (nI Q)), some (.int (nI k))] [.int (nI b1), .int (nI Q), .ref o, .int (nI (tf_fa A.1 k b1))] S rfl ⟨by decide, by decide, rfl⟩ trivial ?_
                refine tf_cV hx ftX11_nearest (nx := 95) (As := [.int (nI Q), .int (nI b1)]) (rest := [.int (nI (tf_fa A.1 k b1))]) (st2 := [.int (nI (tf_fa A.1 Q b1)), .int (nI (tf_fa A.1 k b1))]) (m_farOf Q b1 ho hf hg hq4 b1_lt) rfl lX11_126 (by first | assumption | rfl | decide) rfl ⟨rfl, by decide, by decide, by decide, rfl, rfl⟩ ?_
                by_cases d2 : tf_fa A.1 k b1 = tf_fa A.1 Q b1
                · rw [if_pos ⟨d1, d2⟩] at he
                  rw [e2] at he
                  cases he
                · rw [if_neg (fun h => d2 h.2)] at he
                  refine tf_go hx ftX11_nearest 3 [true] 73 [some (.ref o), some (.int (nI b1)), some (.int (nI Q)), some (.int ((nI k) + 1))] [] S rfl ⟨by decide, by decide, rfl⟩ ⟨trivial, (tf_eqF (a := (tf_fa A.1 k b1)) (b := (tf_fa A.1 Q b1)) rfl rfl (by have := hb k; have := hb Q; omega) (by have := hb k; have := hb Q; omega) (by have := hb k; have := hb Q; omega))⟩ ?_
                  rw [show ((nI k) + 1) = nI (k + 1) from (tf_add (a := k) (b := 1) rfl (rfl : (1 : Int32) = nI 1))]
                  exact ih (k + 1) (by omega) he
          exact l2 4 0 rfl rfl
        have loop : ∀ (m k : Nat) (q : Nat), k + m = 4 → (tf_nb A.1 b1 m k q = Q) → (q < 4) → tf_K x 0 0 G S 39 [some (.ref o), some (.int (nI b1)), some (.int (nI q)), some (.int (nI k))] [] := by
          intro m
          induction m with
          | zero =>
            intro k q hk he hq
            refine tf_go hx ftX11_nearest 2 [] 41 [some (.ref o), some (.int (nI b1)), some (.int (nI q)), some (.int (nI k))] [.int 4, .int (nI k)] S rfl ⟨by decide, by decide, rfl⟩ trivial ?_
            refine tf_go hx ftX11_nearest 1 [true] 71 [some (.ref o), some (.int (nI b1)), some (.int (nI q)), some (.int (nI k))] [] S rfl ⟨by decide, by decide, rfl⟩ ⟨trivial, (tf_leT (a := 4) (b := k) (rfl : (4 : Int32) = nI 4) rfl (by omega) (by omega) (by omega))⟩ ?_
            rw [show q = Q from he] at *
            rw [show k = 4 by omega]
            exact tail hq
          | succ m ih =>
            intro k q hk he hq
            rw [tf_nb_s] at he
            have p1 := fl k (by omega)
            have p2 := fl q hq
            refine tf_go hx ftX11_nearest 2 [] 41 [some (.ref o), some (.int (nI b1)), some (.int (nI q)), some (.int (nI k))] [.int 4, .int (nI k)] S rfl ⟨by decide, by decide, rfl⟩ trivial ?_
            refine tf_go hx ftX11_nearest 1 [false] 44 [some (.ref o), some (.int (nI b1)), some (.int (nI q)), some (.int (nI k))] [] S rfl ⟨by decide, by decide, rfl⟩ ⟨trivial, (tf_leF (a := 4) (b := k) (rfl : (4 : Int32) = nI 4) rfl (by omega) (by omega) (by omega))⟩ ?_
            refine tf_go hx ftX11_nearest 3 [] 47 [some (.ref o), some (.int (nI b1)), some (.int (nI q)), some (.int (nI k))] [.int (nI b1), .int (nI k), .ref o] S rfl ⟨by decide, by decide, rfl⟩ trivial ?_
            refine tf_cV hx ftX11_nearest (nx := 50) (As := [.int (nI k), .int (nI b1)]) (rest := []) (st2 := [.int (nI (tf_fa A.1 k b1))]) (m_farOf k b1 ho hf hg (by omega) b1_lt) rfl lX11_126 (by first | assumption | rfl | decide) rfl ⟨rfl, by decide, by decide, by decide, rfl, rfl⟩ ?_
            refine tf_go hx ftX11_nearest 3 [] 53 [some (.ref o), some (.int (nI b1)), some (.int (nI q)), some (.int (nI k))] [.int (nI b1), .int (nI q), .ref o, .int (nI (tf_fa A.1 k b1))] S rfl ⟨by decide, by decide, rfl⟩ trivial ?_
            refine tf_cV hx ftX11_nearest (nx := 56) (As := [.int (nI q), .int (nI b1)]) (rest := [.int (nI (tf_fa A.1 k b1))]) (st2 := [.int (nI (tf_fa A.1 q b1)), .int (nI (tf_fa A.1 k b1))]) (m_farOf q b1 ho hf hg hq b1_lt) rfl lX11_126 (by first | assumption | rfl | decide) rfl ⟨rfl, by decide, by decide, by decide, rfl, rfl⟩ ?_
            by_cases d1 : tf_fa A.1 k b1 < tf_fa A.1 q b1
            · rw [if_pos d1] at he
              refine tf_go hx ftX11_nearest 6 [false] 39 [some (.ref o), some (.int (nI b1)), some (.int (nI k)), some (.int ((nI k) + 1))] [] S rfl ⟨by decide, by decide, rfl⟩ ⟨trivial, (tf_leF (a := (tf_fa A.1 q b1)) (b := (tf_fa A.1 k b1)) rfl rfl (by have := hb q; have := hb k; omega) (by have := hb q; have := hb k; omega) (by have := hb q; have := hb k; omega))⟩ ?_
              rw [show ((nI k) + 1) = nI (k + 1) from (tf_add (a := k) (b := 1) rfl (rfl : (1 : Int32) = nI 1))]
              exact ih (k + 1) k (by omega) he (by omega)
            · rw [if_neg d1] at he
              refine tf_go hx ftX11_nearest 5 [true] 39 [some (.ref o), some (.int (nI b1)), some (.int (nI q)), some (.int ((nI k) + 1))] [] S rfl ⟨by decide, by decide, rfl⟩ ⟨trivial, (tf_leT (a := (tf_fa A.1 q b1)) (b := (tf_fa A.1 k b1)) rfl rfl (by have := hb q; have := hb k; omega) (by have := hb q; have := hb k; omega) (by have := hb q; have := hb k; omega))⟩ ?_
              rw [show ((nI k) + 1) = nI (k + 1) from (tf_add (a := k) (b := 1) rfl (rfl : (1 : Int32) = nI 1))]
              exact ih (k + 1) q (by omega) he hq
        exact loop 3 1 0 rfl hQ (by decide)
      · rw [if_neg e2]
        refine ⟨S, tf_Fn_of (own := RX11) false ⟨by decide, rfl, by decide⟩ (Nat.le_of_ble_eq_true rfl) trivial (fun x hx hR => ?_), hM, tf_fm_id⟩
        show tf_K x 0 0 G S 0 [some (.ref o), some (.int (nI b1)), none, none] []
        refine tf_go hx ftX11_nearest 1 [] 1 [some (.ref o), some (.int (nI b1)), none, none] [.int (nI b1)] S rfl ⟨by decide, by decide, rfl⟩ trivial ?_
        refine tf_cS hx ftX11_nearest (nx := 4) (As := [.int (nI b1)]) (rest := []) (st2 := [.int (if ¬ (nI b1) < 0 ∧ ¬ 4 ≤ (nI b1) then 1 else 0)]) (m_isBoard (nI b1)) rfl lX11_40 rfl ⟨rfl, by decide, by decide, by decide, rfl, rfl⟩ ?_
        rw [if_pos c0]
        refine tf_go hx ftX11_nearest 1 [true] 13 [some (.ref o), some (.int (nI b1)), none, none] [] S rfl ⟨by decide, by decide, rfl⟩ ⟨trivial, (by decide)⟩ ?_
        refine tf_go hx ftX11_nearest 8 [] 29 [some (.ref o), some (.int (nI b1)), none, none] [.int (S (tf_rf G o 1) (Int32.toNatClampNeg 364)), .int (S (tf_rf G o 1) (Int32.toNatClampNeg 367))] S rfl ⟨by decide, by decide, rfl⟩ ⟨⟨⟨⟨trivial, ⟨by first | assumption | rfl | decide | omega, by first | assumption | rfl | decide | omega⟩⟩, ⟨Or.inl (by first | assumption | rfl | decide | omega), by first | assumption | exact tf_in (n := 367) (rfl : (367 : Int32) = nI 367) (by first | assumption | rfl) (by omega) (by decide)⟩⟩, ⟨by first | assumption | rfl | decide | omega, by first | assumption | rfl | decide | omega⟩⟩, ⟨Or.inl (by first | assumption | rfl | decide | omega), by first | assumption | exact tf_in (n := 364) (rfl : (364 : Int32) = nI 364) (by first | assumption | rfl) (by omega) (by decide)⟩⟩ ?_
        rw [show (S (tf_rf G o 1) (Int32.toNatClampNeg 364)) = nI (A.1 364) from (tf_rd hs (rfl : (364 : Int32) = nI 364) (by omega))]
        rw [show (S (tf_rf G o 1) (Int32.toNatClampNeg 367)) = nI (A.1 367) from (tf_rd hs (rfl : (367 : Int32) = nI 367) (by omega))]
        refine tf_go hx ftX11_nearest 5 [true] 39 [some (.ref o), some (.int (nI b1)), some (.int 0), some (.int 1)] [] S rfl ⟨by decide, by decide, rfl⟩ ⟨trivial, (tf_eqT (a := (A.1 367)) (b := (A.1 364)) rfl rfl (by have := hb 367; have := hb 364; omega))⟩ ?_
        have tail : Q < 4 → tf_K x 0 0 G S 71 [some (.ref o), some (.int (nI b1)), some (.int (nI Q)), some (.int (nI 4))] [] := by
          intro hq4
          refine tf_go hx ftX11_nearest 2 [] 73 [some (.ref o), some (.int (nI b1)), some (.int (nI Q)), some (.int 0)] [] S rfl ⟨by decide, by decide, rfl⟩ trivial ?_
          have l2 : ∀ (m k : Nat), k + m = 4 → (tf_nu A.1 b1 Q m k = tf_nu A.1 b1 Q 4 0) → tf_K x 0 0 G S 73 [some (.ref o), some (.int (nI b1)), some (.int (nI Q)), some (.int (nI k))] [] := by
            intro m
            induction m with
            | zero =>
              intro k hk he
              exact absurd he.symm e2
            | succ m ih =>
              intro k hk he
              rw [tf_nu_s] at he
              have p1 := fl k (by omega)
              have p2 := fl Q hq4
              refine tf_go hx ftX11_nearest 2 [] 75 [some (.ref o), some (.int (nI b1)), some (.int (nI Q)), some (.int (nI k))] [.int 4, .int (nI k)] S rfl ⟨by decide, by decide, rfl⟩ trivial ?_
              refine tf_go hx ftX11_nearest 1 [false] 78 [some (.ref o), some (.int (nI b1)), some (.int (nI Q)), some (.int (nI k))] [] S rfl ⟨by decide, by decide, rfl⟩ ⟨trivial, (tf_leF (a := 4) (b := k) (rfl : (4 : Int32) = nI 4) rfl (by omega) (by omega) (by omega))⟩ ?_
              refine tf_go hx ftX11_nearest 2 [] 80 [some (.ref o), some (.int (nI b1)), some (.int (nI Q)), some (.int (nI k))] [.int (nI Q), .int (nI k)] S rfl ⟨by decide, by decide, rfl⟩ trivial ?_
              by_cases d1 : k = Q
              · rw [if_neg (fun h => h.1 d1)] at he
                refine tf_go hx ftX11_nearest 3 [true] 73 [some (.ref o), some (.int (nI b1)), some (.int (nI Q)), some (.int ((nI k) + 1))] [] S rfl ⟨by decide, by decide, rfl⟩ ⟨trivial, (tf_eqT (a := k) (b := Q) rfl rfl (by omega))⟩ ?_
                rw [show ((nI k) + 1) = nI (k + 1) from (tf_add (a := k) (b := 1) rfl (rfl : (1 : Int32) = nI 1))]
                exact ih (k + 1) (by omega) he
              · refine tf_go hx ftX11_nearest 4 [false] 86 [some (.ref o), some (.int (nI b1)), some (.int (nI Q)), some (.int (nI k))] [.int (nI b1), .int (nI k), .ref o] S rfl ⟨by decide, by decide, rfl⟩ ⟨trivial, (tf_eqF (a := k) (b := Q) rfl rfl (by omega) (by omega) (by omega))⟩ ?_
                refine tf_cV hx ftX11_nearest (nx := 89) (As := [.int (nI k), .int (nI b1)]) (rest := []) (st2 := [.int (nI (tf_fa A.1 k b1))]) (m_farOf k b1 ho hf hg (by omega) b1_lt) rfl lX11_126 (by first | assumption | rfl | decide) rfl ⟨rfl, by decide, by decide, by decide, rfl, rfl⟩ ?_
                refine tf_go hx ftX11_nearest 3 [] 92 [some (.ref o), some (.int (nI b1)), some (.int (nI Q)), some (.int (nI k))] [.int (nI b1), .int (nI Q), .ref o, .int (nI (tf_fa A.1 k b1))] S rfl ⟨by decide, by decide, rfl⟩ trivial ?_
                refine tf_cV hx ftX11_nearest (nx := 95) (As := [.int (nI Q), .int (nI b1)]) (rest := [.int (nI (tf_fa A.1 k b1))]) (st2 := [.int (nI (tf_fa A.1 Q b1)), .int (nI (tf_fa A.1 k b1))]) (m_farOf Q b1 ho hf hg hq4 b1_lt) rfl lX11_126 (by first | assumption | rfl | decide) rfl ⟨rfl, by decide, by decide, by decide, rfl, rfl⟩ ?_
                by_cases d2 : tf_fa A.1 k b1 = tf_fa A.1 Q b1
                · rw [if_pos ⟨d1, d2⟩] at he
                  refine tf_go hx ftX11_nearest 2 [false] 100 [some (.ref o), some (.int (nI b1)), some (.int (nI Q)), some (.int (nI k))] [.int (-9)] S rfl ⟨by decide, by decide, rfl⟩ ⟨trivial, (tf_neF (a := (tf_fa A.1 k b1)) (b := (tf_fa A.1 Q b1)) rfl rfl (by have := hb k; have := hb Q; omega))⟩ ?_
                  exact tf_ret ftX11_nearest hR rfl ⟨by decide, by decide⟩ rfl rfl rfl
                · rw [if_neg (fun h => d2 h.2)] at he
                  refine tf_go hx ftX11_nearest 3 [true] 73 [some (.ref o), some (.int (nI b1)), some (.int (nI Q)), some (.int ((nI k) + 1))] [] S rfl ⟨by decide, by decide, rfl⟩ ⟨trivial, (tf_eqF (a := (tf_fa A.1 k b1)) (b := (tf_fa A.1 Q b1)) rfl rfl (by have := hb k; have := hb Q; omega) (by have := hb k; have := hb Q; omega) (by have := hb k; have := hb Q; omega))⟩ ?_
                  rw [show ((nI k) + 1) = nI (k + 1) from (tf_add (a := k) (b := 1) rfl (rfl : (1 : Int32) = nI 1))]
                  exact ih (k + 1) (by omega) he
          exact l2 4 0 rfl rfl
        have loop : ∀ (m k : Nat) (q : Nat), k + m = 4 → (tf_nb A.1 b1 m k q = Q) → (q < 4) → tf_K x 0 0 G S 39 [some (.ref o), some (.int (nI b1)), some (.int (nI q)), some (.int (nI k))] [] := by
          intro m
          induction m with
          | zero =>
            intro k q hk he hq
            refine tf_go hx ftX11_nearest 2 [] 41 [some (.ref o), some (.int (nI b1)), some (.int (nI q)), some (.int (nI k))] [.int 4, .int (nI k)] S rfl ⟨by decide, by decide, rfl⟩ trivial ?_
            refine tf_go hx ftX11_nearest 1 [true] 71 [some (.ref o), some (.int (nI b1)), some (.int (nI q)), some (.int (nI k))] [] S rfl ⟨by decide, by decide, rfl⟩ ⟨trivial, (tf_leT (a := 4) (b := k) (rfl : (4 : Int32) = nI 4) rfl (by omega) (by omega) (by omega))⟩ ?_
            rw [show q = Q from he] at *
            rw [show k = 4 by omega]
            exact tail hq
          | succ m ih =>
            intro k q hk he hq
            rw [tf_nb_s] at he
            have p1 := fl k (by omega)
            have p2 := fl q hq
            refine tf_go hx ftX11_nearest 2 [] 41 [some (.ref o), some (.int (nI b1)), some (.int (nI q)), some (.int (nI k))] [.int 4, .int (nI k)] S rfl ⟨by decide, by decide, rfl⟩ trivial ?_
            refine tf_go hx ftX11_nearest 1 [false] 44 [some (.ref o), some (.int (nI b1)), some (.int (nI q)), some (.int (nI k))] [] S rfl ⟨by decide, by decide, rfl⟩ ⟨trivial, (tf_leF (a := 4) (b := k) (rfl : (4 : Int32) = nI 4) rfl (by omega) (by omega) (by omega))⟩ ?_
            refine tf_go hx ftX11_nearest 3 [] 47 [some (.ref o), some (.int (nI b1)), some (.int (nI q)), some (.int (nI k))] [.int (nI b1), .int (nI k), .ref o] S rfl ⟨by decide, by decide, rfl⟩ trivial ?_
            refine tf_cV hx ftX11_nearest (nx := 50) (As := [.int (nI k), .int (nI b1)]) (rest := []) (st2 := [.int (nI (tf_fa A.1 k b1))]) (m_farOf k b1 ho hf hg (by omega) b1_lt) rfl lX11_126 (by first | assumption | rfl | decide) rfl ⟨rfl, by decide, by decide, by decide, rfl, rfl⟩ ?_
            refine tf_go hx ftX11_nearest 3 [] 53 [some (.ref o), some (.int (nI b1)), some (.int (nI q)), some (.int (nI k))] [.int (nI b1), .int (nI q), .ref o, .int (nI (tf_fa A.1 k b1))] S rfl ⟨by decide, by decide, rfl⟩ trivial ?_
            refine tf_cV hx ftX11_nearest (nx := 56) (As := [.int (nI q), .int (nI b1)]) (rest := [.int (nI (tf_fa A.1 k b1))]) (st2 := [.int (nI (tf_fa A.1 q b1)), .int (nI (tf_fa A.1 k b1))]) (m_farOf q b1 ho hf hg hq b1_lt) rfl lX11_126 (by first | assumption | rfl | decide) rfl ⟨rfl, by decide, by decide, by decide, rfl, rfl⟩ ?_
            by_cases d1 : tf_fa A.1 k b1 < tf_fa A.1 q b1
            · rw [if_pos d1] at he
              refine tf_go hx ftX11_nearest 6 [false] 39 [some (.ref o), some (.int (nI b1)), some (.int (nI k)), some (.int ((nI k) + 1))] [] S rfl ⟨by decide, by decide, rfl⟩ ⟨trivial, (tf_leF (a := (tf_fa A.1 q b1)) (b := (tf_fa A.1 k b1)) rfl rfl (by have := hb q; have := hb k; omega) (by have := hb q; have := hb k; omega) (by have := hb q; have := hb k; omega))⟩ ?_
              rw [show ((nI k) + 1) = nI (k + 1) from (tf_add (a := k) (b := 1) rfl (rfl : (1 : Int32) = nI 1))]
              exact ih (k + 1) k (by omega) he (by omega)
            · rw [if_neg d1] at he
              refine tf_go hx ftX11_nearest 5 [true] 39 [some (.ref o), some (.int (nI b1)), some (.int (nI q)), some (.int ((nI k) + 1))] [] S rfl ⟨by decide, by decide, rfl⟩ ⟨trivial, (tf_leT (a := (tf_fa A.1 q b1)) (b := (tf_fa A.1 k b1)) rfl rfl (by have := hb q; have := hb k; omega) (by have := hb q; have := hb k; omega) (by have := hb q; have := hb k; omega))⟩ ?_
              rw [show ((nI k) + 1) = nI (k + 1) from (tf_add (a := k) (b := 1) rfl (rfl : (1 : Int32) = nI 1))]
              exact ih (k + 1) q (by omega) he hq
        exact loop 3 1 0 rfl hQ (by decide)
    · rw [if_neg e1]
      refine ⟨S, tf_Fn_of (own := RX11) false ⟨by decide, rfl, by decide⟩ (Nat.le_of_ble_eq_true rfl) trivial (fun x hx hR => ?_), hM, tf_fm_id⟩
      show tf_K x 0 0 G S 0 [some (.ref o), some (.int (nI b1)), none, none] []
      refine tf_go hx ftX11_nearest 1 [] 1 [some (.ref o), some (.int (nI b1)), none, none] [.int (nI b1)] S rfl ⟨by decide, by decide, rfl⟩ trivial ?_
      refine tf_cS hx ftX11_nearest (nx := 4) (As := [.int (nI b1)]) (rest := []) (st2 := [.int (if ¬ (nI b1) < 0 ∧ ¬ 4 ≤ (nI b1) then 1 else 0)]) (m_isBoard (nI b1)) rfl lX11_40 rfl ⟨rfl, by decide, by decide, by decide, rfl, rfl⟩ ?_
      rw [if_pos c0]
      refine tf_go hx ftX11_nearest 1 [true] 13 [some (.ref o), some (.int (nI b1)), none, none] [] S rfl ⟨by decide, by decide, rfl⟩ ⟨trivial, (by decide)⟩ ?_
      refine tf_go hx ftX11_nearest 8 [] 29 [some (.ref o), some (.int (nI b1)), none, none] [.int (S (tf_rf G o 1) (Int32.toNatClampNeg 364)), .int (S (tf_rf G o 1) (Int32.toNatClampNeg 367))] S rfl ⟨by decide, by decide, rfl⟩ ⟨⟨⟨⟨trivial, ⟨by first | assumption | rfl | decide | omega, by first | assumption | rfl | decide | omega⟩⟩, ⟨Or.inl (by first | assumption | rfl | decide | omega), by first | assumption | exact tf_in (n := 367) (rfl : (367 : Int32) = nI 367) (by first | assumption | rfl) (by omega) (by decide)⟩⟩, ⟨by first | assumption | rfl | decide | omega, by first | assumption | rfl | decide | omega⟩⟩, ⟨Or.inl (by first | assumption | rfl | decide | omega), by first | assumption | exact tf_in (n := 364) (rfl : (364 : Int32) = nI 364) (by first | assumption | rfl) (by omega) (by decide)⟩⟩ ?_
      rw [show (S (tf_rf G o 1) (Int32.toNatClampNeg 364)) = nI (A.1 364) from (tf_rd hs (rfl : (364 : Int32) = nI 364) (by omega))]
      rw [show (S (tf_rf G o 1) (Int32.toNatClampNeg 367)) = nI (A.1 367) from (tf_rd hs (rfl : (367 : Int32) = nI 367) (by omega))]
      refine tf_go hx ftX11_nearest 2 [false] 34 [some (.ref o), some (.int (nI b1)), none, none] [.int (-9)] S rfl ⟨by decide, by decide, rfl⟩ ⟨trivial, (tf_eqF (a := (A.1 367)) (b := (A.1 364)) rfl rfl (by have := hb 367; have := hb 364; omega) (by have := hb 367; have := hb 364; omega) (by have := hb 367; have := hb 364; omega))⟩ ?_
      exact tf_ret ftX11_nearest hR rfl ⟨by decide, by decide⟩ rfl rfl rfl
  · rw [if_neg (fun h => c0 h)]
    refine ⟨tf_rfS G S o 1, tf_Fn_of (own := RX11) false ⟨by decide, rfl, by decide⟩ (Nat.le_of_ble_eq_true rfl) trivial (fun x hx hR => ?_), tf_ms_ref ho hd hM 1, tf_fm_0⟩
    show tf_K x 0 0 G S 0 [some (.ref o), some (.int b), none, none] []
    refine tf_go hx ftX11_nearest 1 [] 1 [some (.ref o), some (.int b), none, none] [.int b] S rfl ⟨by decide, by decide, rfl⟩ trivial ?_
    refine tf_cS hx ftX11_nearest (nx := 4) (As := [.int b]) (rest := []) (st2 := [.int (if ¬ b < 0 ∧ ¬ 4 ≤ b then 1 else 0)]) (m_isBoard b) rfl lX11_40 rfl ⟨rfl, by decide, by decide, by decide, rfl, rfl⟩ ?_
    rw [if_neg c0]
    refine tf_go hx ftX11_nearest 1 [false] 7 [some (.ref o), some (.int b), none, none] [] S rfl ⟨by decide, by decide, rfl⟩ ⟨trivial, (by decide)⟩ ?_
    refine tf_go hx ftX11_nearest 2 [] 9 [some (.ref o), some (.int b), none, none] [.int (-1), .ref o] S rfl ⟨by decide, by decide, rfl⟩ trivial ?_
    refine tf_cV hx ftX11_nearest (nx := 12) (As := [.int (-1)]) (rest := []) (st2 := [.int (-1)]) (m_ref1 ho) rfl lX11_26 (by first | assumption | rfl | decide) rfl ⟨rfl, by decide, by decide, by decide, rfl, rfl⟩ ?_
    exact tf_ret ftX11_nearest hR rfl ⟨by decide, by decide⟩ rfl rfl rfl

set_option maxHeartbeats 2000000 in
theorem p_ache {G : tf_G} {S : tf_Sg} {o : Nat} {A : tf_A} (b q : Int32) (ho : tf_mo G o) (hd : tf_md G o) (hA : tf_okA A) (hM : tf_ms G S o A)  : tf_pm mX11_ache 3 G S o [.ref o, .int b, .int q] (s_ache A b q) := by
  obtain ⟨h1, ⟨r0, t0, n0⟩, ⟨r1, t1, n1⟩, ⟨r2, t2, n2⟩, ⟨r4, t4, n4⟩⟩ := id ho
  obtain ⟨hg, hb, hA3, hA4, hA5, hA6⟩ := id hA
  have hs := hM.1
  have hf : tf_sf G S o A.1 := ⟨hM.1, hb⟩
  obtain ⟨⟨g1, g2, g3, g4⟩, g5, g6, g7, g8, g9, g10, g11⟩ := id hg
  unfold s_ache
  by_cases c0 : ¬ b < 0 ∧ ¬ 4 ≤ b
  · by_cases c1 : ¬ q < 0 ∧ ¬ 8 ≤ q
    · rw [if_pos ⟨c0, c1⟩]
      obtain ⟨b1, b1_lt, b1_eq, b1_cl⟩ := tf_ok_nI (N := 4) (show tf_ok b _ from c0) rfl (by decide)
      try rw [b1_cl]
      obtain ⟨q1, q1_lt, q1_eq, q1_cl⟩ := tf_ok_nI (N := 8) (show tf_ok q _ from c1) rfl (by decide)
      try rw [q1_cl]
      subst b1_eq
      subst q1_eq
      refine ⟨S, tf_Fn_of (own := RX11) false ⟨by decide, rfl, by decide⟩ (Nat.le_of_ble_eq_true rfl) trivial (fun x hx hR => ?_), hM, tf_fm_id⟩
      show tf_K x 0 0 G S 0 [some (.ref o), some (.int (nI b1)), some (.int (nI q1)), none, none, none] []
      refine tf_go hx ftX11_ache 1 [] 1 [some (.ref o), some (.int (nI b1)), some (.int (nI q1)), none, none, none] [.int (nI b1)] S rfl ⟨by decide, by decide, rfl⟩ trivial ?_
      refine tf_cS hx ftX11_ache (nx := 4) (As := [.int (nI b1)]) (rest := []) (st2 := [.int (if ¬ (nI b1) < 0 ∧ ¬ 4 ≤ (nI b1) then 1 else 0)]) (m_isBoard (nI b1)) rfl lX11_40 rfl ⟨rfl, by decide, by decide, by decide, rfl, rfl⟩ ?_
      rw [if_pos c0]
      refine tf_go hx ftX11_ache 1 [false] 7 [some (.ref o), some (.int (nI b1)), some (.int (nI q1)), none, none, none] [] S rfl ⟨by decide, by decide, rfl⟩ ⟨trivial, (by decide)⟩ ?_
      refine tf_go hx ftX11_ache 2 [] 10 [some (.ref o), some (.int (nI b1)), some (.int (nI q1)), none, none, none] [.int 8, .int (nI q1)] S rfl ⟨by decide, by decide, rfl⟩ trivial ?_
      refine tf_cS hx ftX11_ache (nx := 13) (As := [.int (nI q1), .int 8]) (rest := []) (st2 := [.int (if ¬ (nI q1) < 0 ∧ ¬ 8 ≤ (nI q1) then 1 else 0)]) (m_isIn (nI q1) 8) rfl lX11_22 rfl ⟨rfl, by decide, by decide, by decide, rfl, rfl⟩ ?_
      rw [if_pos c1]
      refine tf_go hx ftX11_ache 1 [true] 22 [some (.ref o), some (.int (nI b1)), some (.int (nI q1)), none, none, none] [] S rfl ⟨by decide, by decide, rfl⟩ ⟨trivial, (by decide)⟩ ?_
      refine tf_go hx ftX11_ache 4 [] 27 [some (.ref o), some (.int (nI b1)), some (.int (nI q1)), some (.int 0), some (.int 0), none] [] S rfl ⟨by decide, by decide, rfl⟩ trivial ?_
      refine tf_fgt [some (.ref o), some (.int (nI b1)), some (.int (nI q1)), some (.int 0), some (.int 0), none] (by simp [tf_lss]) ?_
      have loop : ∀ (m k : Nat) (y : Nat), 41 = k + m → (y + tf_as A.1 b1 q1 m k = tf_as A.1 b1 q1 41 0) → (k ≤ 60) → tf_K x 0 0 G S 27 [some (.ref o), some (.int (nI b1)), some (.int (nI q1)), some (.int (nI y)), some (.int (nI k)), none] [] := by
        intro m
        induction m with
        | zero =>
          intro k y hk he hk3
          refine tf_go hx ftX11_ache 5 [] 37 [some (.ref o), some (.int (nI b1)), some (.int (nI q1)), some (.int (nI y)), some (.int (nI k)), none] [.int (S (tf_rf G o 1) (Int32.toNatClampNeg 364)), .int (nI k)] S rfl ⟨by decide, by decide, rfl⟩ ⟨⟨trivial, ⟨by first | assumption | rfl | decide | omega, by first | assumption | rfl | decide | omega⟩⟩, ⟨Or.inl (by first | assumption | rfl | decide | omega), by first | assumption | exact tf_in (n := 364) (rfl : (364 : Int32) = nI 364) (by first | assumption | rfl) (by omega) (by decide)⟩⟩ ?_
          rw [show (S (tf_rf G o 1) (Int32.toNatClampNeg 364)) = nI (A.1 364) from (tf_rd hs (rfl : (364 : Int32) = nI 364) (by omega))]
          refine tf_go hx ftX11_ache 2 [true] 94 [some (.ref o), some (.int (nI b1)), some (.int (nI q1)), some (.int (nI y)), some (.int (nI k)), none] [.int (nI y)] S rfl ⟨by decide, by decide, rfl⟩ ⟨trivial, (tf_leT (a := (A.1 364)) (b := k) rfl rfl (by have := hb 364; omega) (by have := hb 364; omega) (by have := hb 364; omega))⟩ ?_
          exact tf_ret ftX11_ache hR rfl ⟨by decide, by decide⟩ rfl rfl (by rw [← he]; rfl)
        | succ m ih =>
          intro k y hk he hk3
          rw [tf_as_s] at he
          refine tf_go hx ftX11_ache 5 [] 37 [some (.ref o), some (.int (nI b1)), some (.int (nI q1)), some (.int (nI y)), some (.int (nI k)), none] [.int (S (tf_rf G o 1) (Int32.toNatClampNeg 364)), .int (nI k)] S rfl ⟨by decide, by decide, rfl⟩ ⟨⟨trivial, ⟨by first | assumption | rfl | decide | omega, by first | assumption | rfl | decide | omega⟩⟩, ⟨Or.inl (by first | assumption | rfl | decide | omega), by first | assumption | exact tf_in (n := 364) (rfl : (364 : Int32) = nI 364) (by first | assumption | rfl) (by omega) (by decide)⟩⟩ ?_
          rw [show (S (tf_rf G o 1) (Int32.toNatClampNeg 364)) = nI (A.1 364) from (tf_rd hs (rfl : (364 : Int32) = nI 364) (by omega))]
          by_cases d0 : k < A.1 364
          · rw [if_pos d0] at he
            have l1 := g6 k d0
            refine tf_go hx ftX11_ache 1 [false] 40 [some (.ref o), some (.int (nI b1)), some (.int (nI q1)), some (.int (nI y)), some (.int (nI k)), none] [] S rfl ⟨by decide, by decide, rfl⟩ ⟨trivial, (tf_leF (a := (A.1 364)) (b := k) rfl rfl (by have := hb 364; omega) (by have := hb 364; omega) (by have := hb 364; omega))⟩ ?_
            refine tf_go hx ftX11_ache 8 [] 53 [some (.ref o), some (.int (nI b1)), some (.int (nI q1)), some (.int (nI y)), some (.int (nI k)), none] [.int (S (tf_rf G o 1) (Int32.toNatClampNeg (144 + (nI k)))), .int (nI b1), .ref o] S rfl ⟨by decide, by decide, rfl⟩ ⟨⟨trivial, ⟨by first | assumption | rfl | decide | omega, by first | assumption | rfl | decide | omega⟩⟩, ⟨Or.inl (by first | assumption | rfl | decide | omega), by first | assumption | exact tf_in (n := (144 + k)) (tf_add (a := 144) (b := k) (rfl : (144 : Int32) = nI 144) rfl) (by first | assumption | rfl) (by omega) (by decide)⟩⟩ ?_
            rw [show (S (tf_rf G o 1) (Int32.toNatClampNeg (144 + (nI k)))) = nI (A.1 (144 + k)) from (tf_rd hs (tf_add (a := 144) (b := k) (rfl : (144 : Int32) = nI 144) rfl) (by omega))]
            refine tf_cV hx ftX11_ache (nx := 56) (As := [.int (nI b1), .int (nI (A.1 (144 + k)))]) (rest := []) (st2 := [.int (tf_on 30 (tf_ke A.1 b1 (A.1 (144 + k))))]) (m_keyAt b1 (A.1 (144 + k)) ho hf b1_lt (by omega)) rfl lX11_51 (by first | assumption | rfl | decide) rfl ⟨rfl, by decide, by decide, by decide, rfl, rfl⟩ ?_
            have k1 := tf_ke_le A.1 b1 (A.1 (144 + k))
            generalize hu : tf_ke A.1 b1 (A.1 (144 + k)) = u at *
            by_cases d1 : u < 30
            · rw [tf_on_y d1]
              refine tf_go hx ftX11_ache 3 [] 61 [some (.ref o), some (.int (nI b1)), some (.int (nI q1)), some (.int (nI y)), some (.int (nI k)), some (.int (nI u))] [.int (nI u), .int (nI y)] S rfl ⟨by decide, by decide, rfl⟩ trivial ?_
              refine tf_go hx ftX11_ache 1 [false] 64 [some (.ref o), some (.int (nI b1)), some (.int (nI q1)), some (.int (nI y)), some (.int (nI k)), some (.int (nI u))] [.int (nI y)] S rfl ⟨by decide, by decide, rfl⟩ ⟨trivial, (tf_ltF (a := u) (b := 0) rfl (rfl : (0 : Int32) = nI 0) (by omega) (by omega) (by omega))⟩ ?_
              refine tf_go hx ftX11_ache 2 [] 67 [some (.ref o), some (.int (nI b1)), some (.int (nI q1)), some (.int (nI y)), some (.int (nI k)), some (.int (nI u))] [.int 0, .int (nI u), .int (nI y)] S rfl ⟨by decide, by decide, rfl⟩ trivial ?_
              refine tf_cS hx ftX11_ache (nx := 70) (As := [.int (nI u), .int 0]) (rest := [.int (nI y)]) (st2 := [.int (nI (tf_fi u 0)), .int (nI y)]) (m_finger u 0 (by omega) (by decide)) rfl lX11_58 rfl ⟨rfl, by decide, by decide, by decide, rfl, rfl⟩ ?_
              have f1 := tf_fi_le u 0
              refine tf_go hx ftX11_ache 1 [] 71 [some (.ref o), some (.int (nI b1)), some (.int (nI q1)), some (.int (nI y)), some (.int (nI k)), some (.int (nI u))] [.int (nI q1), .int (nI (tf_fi u 0)), .int (nI y)] S rfl ⟨by decide, by decide, rfl⟩ trivial ?_
              by_cases d2 : tf_fi u 0 = q1
              · rw [if_pos ⟨d1, d2⟩] at he
                refine tf_go hx ftX11_ache 4 [false] 78 [some (.ref o), some (.int (nI b1)), some (.int (nI q1)), some (.int (nI y)), some (.int (nI k)), some (.int (nI u))] [.int (nI k), .int (nI b1), .ref o, .int (nI y)] S rfl ⟨by decide, by decide, rfl⟩ ⟨trivial, (tf_neF (a := (tf_fi u 0)) (b := q1) rfl rfl (by omega))⟩ ?_
                refine tf_cV hx ftX11_ache (nx := 81) (As := [.int (nI b1), .int (nI k)]) (rest := [.int (nI y)]) (st2 := [.int (nI (tf_ah A.1 b1 k)), .int (nI y)]) (m_acheAt b1 k ho hf hg b1_lt d0) rfl lX11_129 (by first | assumption | rfl | decide) rfl ⟨rfl, by decide, by decide, by decide, rfl, rfl⟩ ?_
                refine tf_go hx ftX11_ache 5 [] 27 [some (.ref o), some (.int (nI b1)), some (.int (nI q1)), some (.int ((nI y) + (nI (tf_ah A.1 b1 k)))), some (.int ((nI k) + 1)), some (.int (nI u))] [] S rfl ⟨by decide, by decide, rfl⟩ trivial ?_
                rw [show ((nI y) + (nI (tf_ah A.1 b1 k))) = nI (y + (tf_ah A.1 b1 k)) from (tf_add (a := y) (b := (tf_ah A.1 b1 k)) rfl rfl)]
                rw [show ((nI k) + 1) = nI (k + 1) from (tf_add (a := k) (b := 1) rfl (rfl : (1 : Int32) = nI 1))]
                refine tf_fgt [some (.ref o), some (.int (nI b1)), some (.int (nI q1)), some (.int (nI (y + tf_ah A.1 b1 k))), some (.int (nI (k + 1))), none] (by simp [tf_lss]) ?_
                exact ih (k + 1) (y + tf_ah A.1 b1 k) (by omega) (by omega) (by omega)
              · rw [if_neg (fun h => d2 h.2)] at he
                refine tf_go hx ftX11_ache 6 [true] 27 [some (.ref o), some (.int (nI b1)), some (.int (nI q1)), some (.int ((nI y) + 0)), some (.int ((nI k) + 1)), some (.int (nI u))] [] S rfl ⟨by decide, by decide, rfl⟩ ⟨trivial, (tf_eqF (a := (tf_fi u 0)) (b := q1) rfl rfl (by omega) (by omega) (by omega))⟩ ?_
                rw [show ((nI k) + 1) = nI (k + 1) from (tf_add (a := k) (b := 1) rfl (rfl : (1 : Int32) = nI 1))]
                rw [show ((nI y) + 0) = nI (y + 0) from (tf_add (a := y) (b := 0) rfl (rfl : (0 : Int32) = nI 0))]
                refine tf_fgt [some (.ref o), some (.int (nI b1)), some (.int (nI q1)), some (.int (nI (y + 0))), some (.int (nI (k + 1))), none] (by simp [tf_lss]) ?_
                exact ih (k + 1) y (by omega) (by omega) (by omega)
            · rw [if_neg (fun h => d1 h.1)] at he
              rw [tf_on_n d1]
              refine tf_go hx ftX11_ache 3 [] 61 [some (.ref o), some (.int (nI b1)), some (.int (nI q1)), some (.int (nI y)), some (.int (nI k)), some (.int (-9))] [.int (-9), .int (nI y)] S rfl ⟨by decide, by decide, rfl⟩ trivial ?_
              refine tf_go hx ftX11_ache 6 [true] 27 [some (.ref o), some (.int (nI b1)), some (.int (nI q1)), some (.int ((nI y) + 0)), some (.int ((nI k) + 1)), some (.int (-9))] [] S rfl ⟨by decide, by decide, rfl⟩ ⟨trivial, (by decide)⟩ ?_
              rw [show ((nI k) + 1) = nI (k + 1) from (tf_add (a := k) (b := 1) rfl (rfl : (1 : Int32) = nI 1))]
              rw [show ((nI y) + 0) = nI (y + 0) from (tf_add (a := y) (b := 0) rfl (rfl : (0 : Int32) = nI 0))]
              refine tf_fgt [some (.ref o), some (.int (nI b1)), some (.int (nI q1)), some (.int (nI (y + 0))), some (.int (nI (k + 1))), none] (by simp [tf_lss]) ?_
              exact ih (k + 1) y (by omega) (by omega) (by omega)
          · rw [if_neg d0] at he
            refine tf_go hx ftX11_ache 2 [true] 94 [some (.ref o), some (.int (nI b1)), some (.int (nI q1)), some (.int (nI y)), some (.int (nI k)), none] [.int (nI y)] S rfl ⟨by decide, by decide, rfl⟩ ⟨trivial, (tf_leT (a := (A.1 364)) (b := k) rfl rfl (by have := hb 364; omega) (by have := hb 364; omega) (by have := hb 364; omega))⟩ ?_
            exact tf_ret ftX11_ache hR rfl ⟨by decide, by decide⟩ rfl rfl (by rw [← he]; rfl)
      exact loop 41 0 0 (by omega) (by omega) (by omega)
    · rw [if_neg (fun h => c1 h.2)]
      refine ⟨tf_rfS G S o 1, tf_Fn_of (own := RX11) false ⟨by decide, rfl, by decide⟩ (Nat.le_of_ble_eq_true rfl) trivial (fun x hx hR => ?_), tf_ms_ref ho hd hM 1, tf_fm_0⟩
      show tf_K x 0 0 G S 0 [some (.ref o), some (.int b), some (.int q), none, none, none] []
      refine tf_go hx ftX11_ache 1 [] 1 [some (.ref o), some (.int b), some (.int q), none, none, none] [.int b] S rfl ⟨by decide, by decide, rfl⟩ trivial ?_
      refine tf_cS hx ftX11_ache (nx := 4) (As := [.int b]) (rest := []) (st2 := [.int (if ¬ b < 0 ∧ ¬ 4 ≤ b then 1 else 0)]) (m_isBoard b) rfl lX11_40 rfl ⟨rfl, by decide, by decide, by decide, rfl, rfl⟩ ?_
      rw [if_pos c0]
      refine tf_go hx ftX11_ache 1 [false] 7 [some (.ref o), some (.int b), some (.int q), none, none, none] [] S rfl ⟨by decide, by decide, rfl⟩ ⟨trivial, (by decide)⟩ ?_
      refine tf_go hx ftX11_ache 2 [] 10 [some (.ref o), some (.int b), some (.int q), none, none, none] [.int 8, .int q] S rfl ⟨by decide, by decide, rfl⟩ trivial ?_
      refine tf_cS hx ftX11_ache (nx := 13) (As := [.int q, .int 8]) (rest := []) (st2 := [.int (if ¬ q < 0 ∧ ¬ 8 ≤ q then 1 else 0)]) (m_isIn q 8) rfl lX11_22 rfl ⟨rfl, by decide, by decide, by decide, rfl, rfl⟩ ?_
      rw [if_neg c1]
      refine tf_go hx ftX11_ache 1 [false] 16 [some (.ref o), some (.int b), some (.int q), none, none, none] [] S rfl ⟨by decide, by decide, rfl⟩ ⟨trivial, (by decide)⟩ ?_
      refine tf_go hx ftX11_ache 2 [] 18 [some (.ref o), some (.int b), some (.int q), none, none, none] [.int (-1), .ref o] S rfl ⟨by decide, by decide, rfl⟩ trivial ?_
      refine tf_cV hx ftX11_ache (nx := 21) (As := [.int (-1)]) (rest := []) (st2 := [.int (-1)]) (m_ref1 ho) rfl lX11_26 (by first | assumption | rfl | decide) rfl ⟨rfl, by decide, by decide, by decide, rfl, rfl⟩ ?_
      exact tf_ret ftX11_ache hR rfl ⟨by decide, by decide⟩ rfl rfl rfl
  · rw [if_neg (fun h => c0 h.1)]
    refine ⟨tf_rfS G S o 1, tf_Fn_of (own := RX11) false ⟨by decide, rfl, by decide⟩ (Nat.le_of_ble_eq_true rfl) trivial (fun x hx hR => ?_), tf_ms_ref ho hd hM 1, tf_fm_0⟩
    show tf_K x 0 0 G S 0 [some (.ref o), some (.int b), some (.int q), none, none, none] []
    refine tf_go hx ftX11_ache 1 [] 1 [some (.ref o), some (.int b), some (.int q), none, none, none] [.int b] S rfl ⟨by decide, by decide, rfl⟩ trivial ?_
    refine tf_cS hx ftX11_ache (nx := 4) (As := [.int b]) (rest := []) (st2 := [.int (if ¬ b < 0 ∧ ¬ 4 ≤ b then 1 else 0)]) (m_isBoard b) rfl lX11_40 rfl ⟨rfl, by decide, by decide, by decide, rfl, rfl⟩ ?_
    rw [if_neg c0]
    refine tf_go hx ftX11_ache 1 [true] 16 [some (.ref o), some (.int b), some (.int q), none, none, none] [] S rfl ⟨by decide, by decide, rfl⟩ ⟨trivial, (by decide)⟩ ?_
    refine tf_go hx ftX11_ache 2 [] 18 [some (.ref o), some (.int b), some (.int q), none, none, none] [.int (-1), .ref o] S rfl ⟨by decide, by decide, rfl⟩ trivial ?_
    refine tf_cV hx ftX11_ache (nx := 21) (As := [.int (-1)]) (rest := []) (st2 := [.int (-1)]) (m_ref1 ho) rfl lX11_26 (by first | assumption | rfl | decide) rfl ⟨rfl, by decide, by decide, by decide, rfl, rfl⟩ ?_
    exact tf_ret ftX11_ache hR rfl ⟨by decide, by decide⟩ rfl rfl rfl

set_option maxHeartbeats 2000000 in
theorem p_span {G : tf_G} {S : tf_Sg} {o : Nat} {A : tf_A} (b l : Int32) (g : Nat) (ho : tf_mo G o) (hd : tf_md G o) (hA : tf_okA A) (hM : tf_ms G S o A) (hgg : g < 2) : tf_pm mX11_span 3 G S o [.ref o, .int b, .int l, .int (nI g)] (s_span A b l g) := by
  obtain ⟨h1, ⟨r0, t0, n0⟩, ⟨r1, t1, n1⟩, ⟨r2, t2, n2⟩, ⟨r4, t4, n4⟩⟩ := id ho
  obtain ⟨hg, hb, hA3, hA4, hA5, hA6⟩ := id hA
  have hs := hM.1
  have hf : tf_sf G S o A.1 := ⟨hM.1, hb⟩
  obtain ⟨⟨g1, g2, g3, g4⟩, g5, g6, g7, g8, g9, g10, g11⟩ := id hg
  unfold s_span
  by_cases c0 : ¬ b < 0 ∧ ¬ 4 ≤ b
  · rw [if_pos c0]
    obtain ⟨b1, b1_lt, b1_eq, b1_cl⟩ := tf_ok_nI (N := 4) (show tf_ok b _ from c0) rfl (by decide)
    try rw [b1_cl]
    subst b1_eq
    by_cases e1 : ¬ l < 0 ∧ ¬ 3 ≤ l
    · rw [if_pos e1]
      obtain ⟨l1, l1_lt, l1_eq, l1_cl⟩ := tf_ok_nI (N := 3) (show tf_ok l _ from e1) rfl (by decide)
      try rw [l1_cl]
      subst l1_eq
      refine ⟨S, tf_Fn_of (own := RX11) false ⟨by decide, rfl, by decide⟩ (Nat.le_of_ble_eq_true rfl) trivial (fun x hx hR => ?_), hM, tf_fm_id⟩
      show tf_K x 0 0 G S 0 [some (.ref o), some (.int (nI b1)), some (.int (nI l1)), some (.int (nI g)), none, none, none, none, none] []
      refine tf_go hx ftX11_span 1 [] 1 [some (.ref o), some (.int (nI b1)), some (.int (nI l1)), some (.int (nI g)), none, none, none, none, none] [.int (nI b1)] S rfl ⟨by decide, by decide, rfl⟩ trivial ?_
      refine tf_cS hx ftX11_span (nx := 4) (As := [.int (nI b1)]) (rest := []) (st2 := [.int (if ¬ (nI b1) < 0 ∧ ¬ 4 ≤ (nI b1) then 1 else 0)]) (m_isBoard (nI b1)) rfl lX11_40 rfl ⟨rfl, by decide, by decide, by decide, rfl, rfl⟩ ?_
      rw [if_pos c0]
      refine tf_go hx ftX11_span 1 [true] 13 [some (.ref o), some (.int (nI b1)), some (.int (nI l1)), some (.int (nI g)), none, none, none, none, none] [] S rfl ⟨by decide, by decide, rfl⟩ ⟨trivial, (by decide)⟩ ?_
      refine tf_go hx ftX11_span 2 [] 15 [some (.ref o), some (.int (nI b1)), some (.int (nI l1)), some (.int (nI g)), none, none, none, none, none] [.int 3, .int (nI l1)] S rfl ⟨by decide, by decide, rfl⟩ trivial ?_
      refine tf_cS hx ftX11_span (nx := 18) (As := [.int (nI l1), .int 3]) (rest := []) (st2 := [.int (if ¬ (nI l1) < 0 ∧ ¬ 3 ≤ (nI l1) then 1 else 0)]) (m_isIn (nI l1) 3) rfl lX11_22 rfl ⟨rfl, by decide, by decide, by decide, rfl, rfl⟩ ?_
      rw [if_pos e1]
      refine tf_go hx ftX11_span 5 [true] 35 [some (.ref o), some (.int (nI b1)), some (.int (nI l1)), some (.int (nI g)), some (.int (-9)), some (.int 1), none, none, none] [] S rfl ⟨by decide, by decide, rfl⟩ ⟨trivial, (by decide)⟩ ?_
      refine tf_fgt [some (.ref o), some (.int (nI b1)), some (.int (nI l1)), some (.int (nI g)), some (.int (-9)), some (.int 1), none, none, none] (by simp [tf_lss]) ?_
      have loop : ∀ (m k : Nat) (q : Nat), 41 = k + m → (tf_sp A.1 b1 l1 g m k q = tf_sp A.1 b1 l1 g 40 1 10000) → (1 ≤ k) → (q = 10000 ∨ q < 10000) → tf_K x 0 0 G S 35 [some (.ref o), some (.int (nI b1)), some (.int (nI l1)), some (.int (nI g)), some (.int (tf_on 10000 q)), some (.int (nI k)), none, none, none] [] := by
        intro m
        induction m with
        | zero =>
          intro k q hk he hk3 hq
          refine tf_go hx ftX11_span 5 [] 45 [some (.ref o), some (.int (nI b1)), some (.int (nI l1)), some (.int (nI g)), some (.int (tf_on 10000 q)), some (.int (nI k)), none, none, none] [.int (S (tf_rf G o 1) (Int32.toNatClampNeg 367)), .int (nI k)] S rfl ⟨by decide, by decide, rfl⟩ ⟨⟨trivial, ⟨by first | assumption | rfl | decide | omega, by first | assumption | rfl | decide | omega⟩⟩, ⟨Or.inl (by first | assumption | rfl | decide | omega), by first | assumption | exact tf_in (n := 367) (rfl : (367 : Int32) = nI 367) (by first | assumption | rfl) (by omega) (by decide)⟩⟩ ?_
          rw [show (S (tf_rf G o 1) (Int32.toNatClampNeg 367)) = nI (A.1 367) from (tf_rd hs (rfl : (367 : Int32) = nI 367) (by omega))]
          by_cases d0 : k < A.1 367
          · refine tf_go hx ftX11_span 1 [false] 48 [some (.ref o), some (.int (nI b1)), some (.int (nI l1)), some (.int (nI g)), some (.int (tf_on 10000 q)), some (.int (nI k)), none, none, none] [] S rfl ⟨by decide, by decide, rfl⟩ ⟨trivial, (tf_leF (a := (A.1 367)) (b := k) rfl rfl (by have := hb 367; omega) (by have := hb 367; omega) (by have := hb 367; omega))⟩ ?_
            refine tf_go hx ftX11_span 5 [] 58 [some (.ref o), some (.int (nI b1)), some (.int (nI l1)), some (.int (nI g)), some (.int (tf_on 10000 q)), some (.int (nI k)), none, none, none] [.int (S (tf_rf G o 1) (Int32.toNatClampNeg 364)), .int (nI k)] S rfl ⟨by decide, by decide, rfl⟩ ⟨⟨trivial, ⟨by first | assumption | rfl | decide | omega, by first | assumption | rfl | decide | omega⟩⟩, ⟨Or.inl (by first | assumption | rfl | decide | omega), by first | assumption | exact tf_in (n := 364) (rfl : (364 : Int32) = nI 364) (by first | assumption | rfl) (by omega) (by decide)⟩⟩ ?_
            rw [show (S (tf_rf G o 1) (Int32.toNatClampNeg 364)) = nI (A.1 364) from (tf_rd hs (rfl : (364 : Int32) = nI 364) (by omega))]
            refine tf_go hx ftX11_span 2 [true] 198 [some (.ref o), some (.int (nI b1)), some (.int (nI l1)), some (.int (nI g)), some (.int (tf_on 10000 q)), some (.int (nI k)), none, none, none] [.int (tf_on 10000 q)] S rfl ⟨by decide, by decide, rfl⟩ ⟨trivial, (tf_leT (a := (A.1 364)) (b := k) rfl rfl (by have := hb 364; omega) (by have := hb 364; omega) (by have := hb 364; omega))⟩ ?_
            exact tf_ret ftX11_span hR rfl ⟨by decide, by decide⟩ rfl rfl (by rw [← he]; rfl)
          · refine tf_go hx ftX11_span 2 [true] 198 [some (.ref o), some (.int (nI b1)), some (.int (nI l1)), some (.int (nI g)), some (.int (tf_on 10000 q)), some (.int (nI k)), none, none, none] [.int (tf_on 10000 q)] S rfl ⟨by decide, by decide, rfl⟩ ⟨trivial, (tf_leT (a := (A.1 367)) (b := k) rfl rfl (by have := hb 367; omega) (by have := hb 367; omega) (by have := hb 367; omega))⟩ ?_
            exact tf_ret ftX11_span hR rfl ⟨by decide, by decide⟩ rfl rfl (by rw [← he]; rfl)
        | succ m ih =>
          intro k q hk he hk3 hq
          rw [tf_sp_s] at he
          refine tf_go hx ftX11_span 5 [] 45 [some (.ref o), some (.int (nI b1)), some (.int (nI l1)), some (.int (nI g)), some (.int (tf_on 10000 q)), some (.int (nI k)), none, none, none] [.int (S (tf_rf G o 1) (Int32.toNatClampNeg 367)), .int (nI k)] S rfl ⟨by decide, by decide, rfl⟩ ⟨⟨trivial, ⟨by first | assumption | rfl | decide | omega, by first | assumption | rfl | decide | omega⟩⟩, ⟨Or.inl (by first | assumption | rfl | decide | omega), by first | assumption | exact tf_in (n := 367) (rfl : (367 : Int32) = nI 367) (by first | assumption | rfl) (by omega) (by decide)⟩⟩ ?_
          rw [show (S (tf_rf G o 1) (Int32.toNatClampNeg 367)) = nI (A.1 367) from (tf_rd hs (rfl : (367 : Int32) = nI 367) (by omega))]
          by_cases d0 : k < A.1 367
          · refine tf_go hx ftX11_span 1 [false] 48 [some (.ref o), some (.int (nI b1)), some (.int (nI l1)), some (.int (nI g)), some (.int (tf_on 10000 q)), some (.int (nI k)), none, none, none] [] S rfl ⟨by decide, by decide, rfl⟩ ⟨trivial, (tf_leF (a := (A.1 367)) (b := k) rfl rfl (by have := hb 367; omega) (by have := hb 367; omega) (by have := hb 367; omega))⟩ ?_
            refine tf_go hx ftX11_span 5 [] 58 [some (.ref o), some (.int (nI b1)), some (.int (nI l1)), some (.int (nI g)), some (.int (tf_on 10000 q)), some (.int (nI k)), none, none, none] [.int (S (tf_rf G o 1) (Int32.toNatClampNeg 364)), .int (nI k)] S rfl ⟨by decide, by decide, rfl⟩ ⟨⟨trivial, ⟨by first | assumption | rfl | decide | omega, by first | assumption | rfl | decide | omega⟩⟩, ⟨Or.inl (by first | assumption | rfl | decide | omega), by first | assumption | exact tf_in (n := 364) (rfl : (364 : Int32) = nI 364) (by first | assumption | rfl) (by omega) (by decide)⟩⟩ ?_
            rw [show (S (tf_rf G o 1) (Int32.toNatClampNeg 364)) = nI (A.1 364) from (tf_rd hs (rfl : (364 : Int32) = nI 364) (by omega))]
            by_cases d1 : k < A.1 364
            · rw [if_pos ⟨d0, d1⟩] at he
              have l3 := g6 k d1
              have l2 := g6 (k - 1) (by omega)
              rw [show 144 + (k - 1) = 144 + k - 1 by omega] at l2
              refine tf_go hx ftX11_span 1 [false] 61 [some (.ref o), some (.int (nI b1)), some (.int (nI l1)), some (.int (nI g)), some (.int (tf_on 10000 q)), some (.int (nI k)), none, none, none] [] S rfl ⟨by decide, by decide, rfl⟩ ⟨trivial, (tf_leF (a := (A.1 364)) (b := k) rfl rfl (by have := hb 364; omega) (by have := hb 364; omega) (by have := hb 364; omega))⟩ ?_
              refine tf_go hx ftX11_span 8 [] 74 [some (.ref o), some (.int (nI b1)), some (.int (nI l1)), some (.int (nI g)), some (.int (tf_on 10000 q)), some (.int (nI k)), none, none, none] [.int (S (tf_rf G o 1) (Int32.toNatClampNeg (144 + (nI k)))), .int (nI b1), .ref o] S rfl ⟨by decide, by decide, rfl⟩ ⟨⟨trivial, ⟨by first | assumption | rfl | decide | omega, by first | assumption | rfl | decide | omega⟩⟩, ⟨Or.inl (by first | assumption | rfl | decide | omega), by first | assumption | exact tf_in (n := (144 + k)) (tf_add (a := 144) (b := k) (rfl : (144 : Int32) = nI 144) rfl) (by first | assumption | rfl) (by omega) (by decide)⟩⟩ ?_
              rw [show (S (tf_rf G o 1) (Int32.toNatClampNeg (144 + (nI k)))) = nI (A.1 (144 + k)) from (tf_rd hs (tf_add (a := 144) (b := k) (rfl : (144 : Int32) = nI 144) rfl) (by omega))]
              refine tf_cV hx ftX11_span (nx := 77) (As := [.int (nI b1), .int (nI (A.1 (144 + k)))]) (rest := []) (st2 := [.int (tf_on 30 (tf_ke A.1 b1 (A.1 (144 + k))))]) (m_keyAt b1 (A.1 (144 + k)) ho hf b1_lt (by omega)) rfl lX11_51 (by first | assumption | rfl | decide) rfl ⟨rfl, by decide, by decide, by decide, rfl, rfl⟩ ?_
              refine tf_go hx ftX11_span 11 [] 94 [some (.ref o), some (.int (nI b1)), some (.int (nI l1)), some (.int (nI g)), some (.int (tf_on 10000 q)), some (.int (nI k)), some (.int (tf_on 30 (tf_ke A.1 b1 (A.1 (144 + k))))), none, none] [.int (S (tf_rf G o 1) (Int32.toNatClampNeg ((144 + (nI k)) - 1))), .int (nI b1), .ref o] S rfl ⟨by decide, by decide, rfl⟩ ⟨⟨trivial, ⟨by first | assumption | rfl | decide | omega, by first | assumption | rfl | decide | omega⟩⟩, ⟨Or.inl (by first | assumption | rfl | decide | omega), by first | assumption | exact tf_in (n := ((144 + k) - 1)) (tf_sub (a := (144 + k)) (b := 1) (tf_add (a := 144) (b := k) (rfl : (144 : Int32) = nI 144) rfl) (rfl : (1 : Int32) = nI 1) (by omega)) (by first | assumption | rfl) (by omega) (by decide)⟩⟩ ?_
              rw [show (S (tf_rf G o 1) (Int32.toNatClampNeg ((144 + (nI k)) - 1))) = nI (A.1 ((144 + k) - 1)) from (tf_rd hs (tf_sub (a := (144 + k)) (b := 1) (tf_add (a := 144) (b := k) (rfl : (144 : Int32) = nI 144) rfl) (rfl : (1 : Int32) = nI 1) (by omega)) (by omega))]
              refine tf_cV hx ftX11_span (nx := 97) (As := [.int (nI b1), .int (nI (A.1 ((144 + k) - 1)))]) (rest := []) (st2 := [.int (tf_on 30 (tf_ke A.1 b1 (A.1 (144 + k - 1))))]) (m_keyAt b1 (A.1 (144 + k - 1)) ho hf b1_lt (by omega)) rfl lX11_51 (by first | assumption | rfl | decide) rfl ⟨rfl, by decide, by decide, by decide, rfl, rfl⟩ ?_
              have k1 := tf_ke_le A.1 b1 (A.1 (144 + k))
              have k2 := tf_ke_le A.1 b1 (A.1 (144 + k - 1))
              generalize hsc : tf_sc A.1 b1 l1 k = sc at he
              unfold tf_sc at hsc
              generalize hu : tf_ke A.1 b1 (A.1 (144 + k)) = u at *
              generalize hv : tf_ke A.1 b1 (A.1 (144 + k - 1)) = v at *
              by_cases e2 : u < 30
              · rw [tf_on_y e2]
                refine tf_go hx ftX11_span 2 [] 101 [some (.ref o), some (.int (nI b1)), some (.int (nI l1)), some (.int (nI g)), some (.int (tf_on 10000 q)), some (.int (nI k)), some (.int (nI u)), some (.int (tf_on 30 v)), none] [.int (nI u)] S rfl ⟨by decide, by decide, rfl⟩ trivial ?_
                refine tf_go hx ftX11_span 1 [false] 104 [some (.ref o), some (.int (nI b1)), some (.int (nI l1)), some (.int (nI g)), some (.int (tf_on 10000 q)), some (.int (nI k)), some (.int (nI u)), some (.int (tf_on 30 v)), none] [] S rfl ⟨by decide, by decide, rfl⟩ ⟨trivial, (tf_ltF (a := u) (b := 0) rfl (rfl : (0 : Int32) = nI 0) (by omega) (by omega) (by omega))⟩ ?_
                by_cases e3 : v < 30
                · rw [tf_on_y e3]
                  refine tf_go hx ftX11_span 1 [] 106 [some (.ref o), some (.int (nI b1)), some (.int (nI l1)), some (.int (nI g)), some (.int (tf_on 10000 q)), some (.int (nI k)), some (.int (nI u)), some (.int (nI v)), none] [.int (nI v)] S rfl ⟨by decide, by decide, rfl⟩ trivial ?_
                  refine tf_go hx ftX11_span 1 [false] 109 [some (.ref o), some (.int (nI b1)), some (.int (nI l1)), some (.int (nI g)), some (.int (tf_on 10000 q)), some (.int (nI k)), some (.int (nI u)), some (.int (nI v)), none] [] S rfl ⟨by decide, by decide, rfl⟩ ⟨trivial, (tf_ltF (a := v) (b := 0) rfl (rfl : (0 : Int32) = nI 0) (by omega) (by omega) (by omega))⟩ ?_
                  refine tf_go hx ftX11_span 3 [] 114 [some (.ref o), some (.int (nI b1)), some (.int (nI l1)), some (.int (nI g)), some (.int (tf_on 10000 q)), some (.int (nI k)), some (.int (nI u)), some (.int (nI v)), none] [.int 0, .int (nI u), .int (nI v)] S rfl ⟨by decide, by decide, rfl⟩ trivial ?_
                  refine tf_cS hx ftX11_span (nx := 117) (As := [.int (nI v), .int (nI u), .int 0]) (rest := []) (st2 := [.int (nI (tf_la v u 0))]) (m_lawOf v u 0 (by omega) (by omega) (by decide)) rfl lX11_72 rfl ⟨rfl, by decide, by decide, by decide, rfl, rfl⟩ ?_
                  have la := tf_la_le v u 0
                  refine tf_go hx ftX11_span 1 [] 118 [some (.ref o), some (.int (nI b1)), some (.int (nI l1)), some (.int (nI g)), some (.int (tf_on 10000 q)), some (.int (nI k)), some (.int (nI u)), some (.int (nI v)), none] [.int (nI l1), .int (nI (tf_la v u 0))] S rfl ⟨by decide, by decide, rfl⟩ trivial ?_
                  by_cases e4 : tf_la v u 0 = l1
                  · refine tf_go hx ftX11_span 1 [false] 121 [some (.ref o), some (.int (nI b1)), some (.int (nI l1)), some (.int (nI g)), some (.int (tf_on 10000 q)), some (.int (nI k)), some (.int (nI u)), some (.int (nI v)), none] [] S rfl ⟨by decide, by decide, rfl⟩ ⟨trivial, (tf_neF (a := (tf_la v u 0)) (b := l1) rfl rfl (by omega))⟩ ?_
                    refine tf_go hx ftX11_span 2 [] 123 [some (.ref o), some (.int (nI b1)), some (.int (nI l1)), some (.int (nI g)), some (.int (tf_on 10000 q)), some (.int (nI k)), some (.int (nI u)), some (.int (nI v)), none] [.int 1, .int (nI l1)] S rfl ⟨by decide, by decide, rfl⟩ trivial ?_
                    by_cases e5 : l1 = 1
                    · refine tf_go hx ftX11_span 1 [false] 126 [some (.ref o), some (.int (nI b1)), some (.int (nI l1)), some (.int (nI g)), some (.int (tf_on 10000 q)), some (.int (nI k)), some (.int (nI u)), some (.int (nI v)), none] [] S rfl ⟨by decide, by decide, rfl⟩ ⟨trivial, (tf_neF (a := l1) (b := 1) rfl (rfl : (1 : Int32) = nI 1) (by omega))⟩ ?_
                      refine tf_go hx ftX11_span 6 [] 136 [some (.ref o), some (.int (nI b1)), some (.int (nI l1)), some (.int (nI g)), some (.int (tf_on 10000 q)), some (.int (nI k)), some (.int (nI u)), some (.int (nI v)), none] [.int ((nI u) / 10), .int ((nI v) / 10)] S rfl ⟨by decide, by decide, rfl⟩ ⟨⟨trivial, (by decide)⟩, (by decide)⟩ ?_
                      rw [show ((nI u) / 10) = nI (u / 10) from (tf_div (a := u) (d := 10) rfl (rfl : (10 : Int32) = nI 10) (by omega) (by omega) (by omega))]
                      rw [show ((nI v) / 10) = nI (v / 10) from (tf_div (a := v) (d := 10) rfl (rfl : (10 : Int32) = nI 10) (by omega) (by omega) (by omega))]
                      by_cases e6 : v / 10 = u / 10
                      · refine tf_go hx ftX11_span 1 [true] 142 [some (.ref o), some (.int (nI b1)), some (.int (nI l1)), some (.int (nI g)), some (.int (tf_on 10000 q)), some (.int (nI k)), some (.int (nI u)), some (.int (nI v)), none] [] S rfl ⟨by decide, by decide, rfl⟩ ⟨trivial, (tf_eqT (a := (v / 10)) (b := (u / 10)) rfl rfl (by omega))⟩ ?_
                        have hn : sc = true := by rw [← hsc]; simp [e2, e3, e4, e6]
                        rw [hn, if_pos rfl] at he
                        refine tf_go hx ftX11_span 8 [] 157 [some (.ref o), some (.int (nI b1)), some (.int (nI l1)), some (.int (nI g)), some (.int (tf_on 10000 q)), some (.int (nI k)), some (.int (nI u)), some (.int (nI v)), some (.int (S (tf_rf G o 1) (Int32.toNatClampNeg (324 + (nI k)))))] [.int (tf_on 10000 q)] S rfl ⟨by decide, by decide, rfl⟩ ⟨⟨trivial, ⟨by first | assumption | rfl | decide | omega, by first | assumption | rfl | decide | omega⟩⟩, ⟨Or.inl (by first | assumption | rfl | decide | omega), by first | assumption | exact tf_in (n := (324 + k)) (tf_add (a := 324) (b := k) (rfl : (324 : Int32) = nI 324) rfl) (by first | assumption | rfl) (by omega) (by decide)⟩⟩ ?_
                        rw [show (S (tf_rf G o 1) (Int32.toNatClampNeg (324 + (nI k)))) = nI (A.1 (324 + k)) from (tf_rd hs (tf_add (a := 324) (b := k) (rfl : (324 : Int32) = nI 324) rfl) (by omega))]
                        by_cases f1 : q < 10000
                        · rw [tf_on_y f1]
                          refine tf_go hx ftX11_span 1 [false] 160 [some (.ref o), some (.int (nI b1)), some (.int (nI l1)), some (.int (nI g)), some (.int (nI q)), some (.int (nI k)), some (.int (nI u)), some (.int (nI v)), some (.int (nI (A.1 (324 + k))))] [] S rfl ⟨by decide, by decide, rfl⟩ ⟨trivial, (tf_ltF (a := q) (b := 0) rfl (rfl : (0 : Int32) = nI 0) (by omega) (by omega) (by omega))⟩ ?_
                          refine tf_go hx ftX11_span 1 [] 161 [some (.ref o), some (.int (nI b1)), some (.int (nI l1)), some (.int (nI g)), some (.int (nI q)), some (.int (nI k)), some (.int (nI u)), some (.int (nI v)), some (.int (nI (A.1 (324 + k))))] [.int (nI g)] S rfl ⟨by decide, by decide, rfl⟩ trivial ?_
                          by_cases f2 : g = 0
                          · refine tf_go hx ftX11_span 1 [true] 174 [some (.ref o), some (.int (nI b1)), some (.int (nI l1)), some (.int (nI g)), some (.int (nI q)), some (.int (nI k)), some (.int (nI u)), some (.int (nI v)), some (.int (nI (A.1 (324 + k))))] [] S rfl ⟨by decide, by decide, rfl⟩ ⟨trivial, (tf_eqT (a := g) (b := 0) rfl (rfl : (0 : Int32) = nI 0) (by omega))⟩ ?_
                            refine tf_go hx ftX11_span 2 [] 178 [some (.ref o), some (.int (nI b1)), some (.int (nI l1)), some (.int (nI g)), some (.int (nI q)), some (.int (nI k)), some (.int (nI u)), some (.int (nI v)), some (.int (nI (A.1 (324 + k))))] [.int (nI q), .int (nI (A.1 (324 + k)))] S rfl ⟨by decide, by decide, rfl⟩ trivial ?_
                            by_cases f3 : A.1 (324 + k) < q
                            · rw [if_pos (Or.inr (by rw [if_neg (fun h => h f2)]; exact f3))] at he
                              refine tf_go hx ftX11_span 6 [false] 35 [some (.ref o), some (.int (nI b1)), some (.int (nI l1)), some (.int (nI g)), some (.int (nI (A.1 (324 + k)))), some (.int ((nI k) + 1)), some (.int (nI u)), some (.int (nI v)), some (.int (nI (A.1 (324 + k))))] [] S rfl ⟨by decide, by decide, rfl⟩ ⟨trivial, (tf_leF (a := q) (b := (A.1 (324 + k))) rfl rfl (by have := hb (324 + k); omega) (by have := hb (324 + k); omega) (by have := hb (324 + k); omega))⟩ ?_
                              rw [show ((nI k) + 1) = nI (k + 1) from (tf_add (a := k) (b := 1) rfl (rfl : (1 : Int32) = nI 1))]
                              have gq := hb (324 + k)
                              refine tf_fgt [some (.ref o), some (.int (nI b1)), some (.int (nI l1)), some (.int (nI g)), some (.int (nI (A.1 (324 + k)))), some (.int (nI (k + 1))), none, none, none] (by simp [tf_lss]) ?_
                              have h0 := ih (k + 1) (A.1 (324 + k)) (by omega) he (by omega) (Or.inr gq)
                              rw [tf_on_y gq] at h0
                              exact h0
                            · rw [if_neg (by rintro (h | h); omega; rw [if_neg (fun h => h f2)] at h; exact f3 h)] at he
                              refine tf_go hx ftX11_span 5 [true] 35 [some (.ref o), some (.int (nI b1)), some (.int (nI l1)), some (.int (nI g)), some (.int (nI q)), some (.int ((nI k) + 1)), some (.int (nI u)), some (.int (nI v)), some (.int (nI (A.1 (324 + k))))] [] S rfl ⟨by decide, by decide, rfl⟩ ⟨trivial, (tf_leT (a := q) (b := (A.1 (324 + k))) rfl rfl (by have := hb (324 + k); omega) (by have := hb (324 + k); omega) (by have := hb (324 + k); omega))⟩ ?_
                              rw [show ((nI k) + 1) = nI (k + 1) from (tf_add (a := k) (b := 1) rfl (rfl : (1 : Int32) = nI 1))]
                              refine tf_fgt [some (.ref o), some (.int (nI b1)), some (.int (nI l1)), some (.int (nI g)), some (.int (nI q)), some (.int (nI (k + 1))), none, none, none] (by simp [tf_lss]) ?_
                              have h0 := ih (k + 1) q (by omega) he (by omega) hq
                              rw [tf_on_y f1] at h0
                              exact h0
                          · refine tf_go hx ftX11_span 1 [false] 164 [some (.ref o), some (.int (nI b1)), some (.int (nI l1)), some (.int (nI g)), some (.int (nI q)), some (.int (nI k)), some (.int (nI u)), some (.int (nI v)), some (.int (nI (A.1 (324 + k))))] [] S rfl ⟨by decide, by decide, rfl⟩ ⟨trivial, (tf_eqF (a := g) (b := 0) rfl (rfl : (0 : Int32) = nI 0) (by omega) (by omega) (by omega))⟩ ?_
                            refine tf_go hx ftX11_span 2 [] 168 [some (.ref o), some (.int (nI b1)), some (.int (nI l1)), some (.int (nI g)), some (.int (nI q)), some (.int (nI k)), some (.int (nI u)), some (.int (nI v)), some (.int (nI (A.1 (324 + k))))] [.int (nI q), .int (nI (A.1 (324 + k)))] S rfl ⟨by decide, by decide, rfl⟩ trivial ?_
                            by_cases f3 : q < A.1 (324 + k)
                            · rw [if_pos (Or.inr (by rw [if_pos f2]; exact f3))] at he
                              refine tf_go hx ftX11_span 7 [false] 35 [some (.ref o), some (.int (nI b1)), some (.int (nI l1)), some (.int (nI g)), some (.int (nI (A.1 (324 + k)))), some (.int ((nI k) + 1)), some (.int (nI u)), some (.int (nI v)), some (.int (nI (A.1 (324 + k))))] [] S rfl ⟨by decide, by decide, rfl⟩ ⟨trivial, (tf_leF (a := (A.1 (324 + k))) (b := q) rfl rfl (by have := hb (324 + k); omega) (by have := hb (324 + k); omega) (by have := hb (324 + k); omega))⟩ ?_
                              rw [show ((nI k) + 1) = nI (k + 1) from (tf_add (a := k) (b := 1) rfl (rfl : (1 : Int32) = nI 1))]
                              have gq := hb (324 + k)
                              refine tf_fgt [some (.ref o), some (.int (nI b1)), some (.int (nI l1)), some (.int (nI g)), some (.int (nI (A.1 (324 + k)))), some (.int (nI (k + 1))), none, none, none] (by simp [tf_lss]) ?_
                              have h0 := ih (k + 1) (A.1 (324 + k)) (by omega) he (by omega) (Or.inr gq)
                              rw [tf_on_y gq] at h0
                              exact h0
                            · rw [if_neg (by rintro (h | h); omega; rw [if_pos f2] at h; exact f3 h)] at he
                              refine tf_go hx ftX11_span 5 [true] 35 [some (.ref o), some (.int (nI b1)), some (.int (nI l1)), some (.int (nI g)), some (.int (nI q)), some (.int ((nI k) + 1)), some (.int (nI u)), some (.int (nI v)), some (.int (nI (A.1 (324 + k))))] [] S rfl ⟨by decide, by decide, rfl⟩ ⟨trivial, (tf_leT (a := (A.1 (324 + k))) (b := q) rfl rfl (by have := hb (324 + k); omega) (by have := hb (324 + k); omega) (by have := hb (324 + k); omega))⟩ ?_
                              rw [show ((nI k) + 1) = nI (k + 1) from (tf_add (a := k) (b := 1) rfl (rfl : (1 : Int32) = nI 1))]
                              refine tf_fgt [some (.ref o), some (.int (nI b1)), some (.int (nI l1)), some (.int (nI g)), some (.int (nI q)), some (.int (nI (k + 1))), none, none, none] (by simp [tf_lss]) ?_
                              have h0 := ih (k + 1) q (by omega) he (by omega) hq
                              rw [tf_on_y f1] at h0
                              exact h0
                        · rw [if_pos (Or.inl (by omega))] at he
                          rw [tf_on_n f1]
                          refine tf_go hx ftX11_span 6 [true] 35 [some (.ref o), some (.int (nI b1)), some (.int (nI l1)), some (.int (nI g)), some (.int (nI (A.1 (324 + k)))), some (.int ((nI k) + 1)), some (.int (nI u)), some (.int (nI v)), some (.int (nI (A.1 (324 + k))))] [] S rfl ⟨by decide, by decide, rfl⟩ ⟨trivial, (by decide)⟩ ?_
                          rw [show ((nI k) + 1) = nI (k + 1) from (tf_add (a := k) (b := 1) rfl (rfl : (1 : Int32) = nI 1))]
                          have gq := hb (324 + k)
                          refine tf_fgt [some (.ref o), some (.int (nI b1)), some (.int (nI l1)), some (.int (nI g)), some (.int (nI (A.1 (324 + k)))), some (.int (nI (k + 1))), none, none, none] (by simp [tf_lss]) ?_
                          have h0 := ih (k + 1) (A.1 (324 + k)) (by omega) he (by omega) (Or.inr gq)
                          rw [tf_on_y gq] at h0
                          exact h0
                      · refine tf_go hx ftX11_span 4 [false] 35 [some (.ref o), some (.int (nI b1)), some (.int (nI l1)), some (.int (nI g)), some (.int (tf_on 10000 q)), some (.int ((nI k) + 1)), some (.int (nI u)), some (.int (nI v)), none] [] S rfl ⟨by decide, by decide, rfl⟩ ⟨trivial, (tf_eqF (a := (v / 10)) (b := (u / 10)) rfl rfl (by omega) (by omega) (by omega))⟩ ?_
                        rw [show ((nI k) + 1) = nI (k + 1) from (tf_add (a := k) (b := 1) rfl (rfl : (1 : Int32) = nI 1))]
                        have hn : sc = false := by rw [← hsc]; simp [e4, e5, e6]
                        rw [hn, if_neg (by decide)] at he
                        refine tf_fgt [some (.ref o), some (.int (nI b1)), some (.int (nI l1)), some (.int (nI g)), some (.int (tf_on 10000 q)), some (.int (nI (k + 1))), none, none, none] (by simp [tf_lss]) ?_
                        exact ih (k + 1) q (by omega) he (by omega) hq
                    · refine tf_go hx ftX11_span 1 [true] 142 [some (.ref o), some (.int (nI b1)), some (.int (nI l1)), some (.int (nI g)), some (.int (tf_on 10000 q)), some (.int (nI k)), some (.int (nI u)), some (.int (nI v)), none] [] S rfl ⟨by decide, by decide, rfl⟩ ⟨trivial, (tf_eqF (a := l1) (b := 1) rfl (rfl : (1 : Int32) = nI 1) (by omega) (by omega) (by omega))⟩ ?_
                      have hn : sc = true := by rw [← hsc]; simp [e2, e3, e4, e5]
                      rw [hn, if_pos rfl] at he
                      refine tf_go hx ftX11_span 8 [] 157 [some (.ref o), some (.int (nI b1)), some (.int (nI l1)), some (.int (nI g)), some (.int (tf_on 10000 q)), some (.int (nI k)), some (.int (nI u)), some (.int (nI v)), some (.int (S (tf_rf G o 1) (Int32.toNatClampNeg (324 + (nI k)))))] [.int (tf_on 10000 q)] S rfl ⟨by decide, by decide, rfl⟩ ⟨⟨trivial, ⟨by first | assumption | rfl | decide | omega, by first | assumption | rfl | decide | omega⟩⟩, ⟨Or.inl (by first | assumption | rfl | decide | omega), by first | assumption | exact tf_in (n := (324 + k)) (tf_add (a := 324) (b := k) (rfl : (324 : Int32) = nI 324) rfl) (by first | assumption | rfl) (by omega) (by decide)⟩⟩ ?_
                      rw [show (S (tf_rf G o 1) (Int32.toNatClampNeg (324 + (nI k)))) = nI (A.1 (324 + k)) from (tf_rd hs (tf_add (a := 324) (b := k) (rfl : (324 : Int32) = nI 324) rfl) (by omega))]
                      by_cases f1 : q < 10000
                      · rw [tf_on_y f1]
                        refine tf_go hx ftX11_span 1 [false] 160 [some (.ref o), some (.int (nI b1)), some (.int (nI l1)), some (.int (nI g)), some (.int (nI q)), some (.int (nI k)), some (.int (nI u)), some (.int (nI v)), some (.int (nI (A.1 (324 + k))))] [] S rfl ⟨by decide, by decide, rfl⟩ ⟨trivial, (tf_ltF (a := q) (b := 0) rfl (rfl : (0 : Int32) = nI 0) (by omega) (by omega) (by omega))⟩ ?_
                        refine tf_go hx ftX11_span 1 [] 161 [some (.ref o), some (.int (nI b1)), some (.int (nI l1)), some (.int (nI g)), some (.int (nI q)), some (.int (nI k)), some (.int (nI u)), some (.int (nI v)), some (.int (nI (A.1 (324 + k))))] [.int (nI g)] S rfl ⟨by decide, by decide, rfl⟩ trivial ?_
                        by_cases f2 : g = 0
                        · refine tf_go hx ftX11_span 1 [true] 174 [some (.ref o), some (.int (nI b1)), some (.int (nI l1)), some (.int (nI g)), some (.int (nI q)), some (.int (nI k)), some (.int (nI u)), some (.int (nI v)), some (.int (nI (A.1 (324 + k))))] [] S rfl ⟨by decide, by decide, rfl⟩ ⟨trivial, (tf_eqT (a := g) (b := 0) rfl (rfl : (0 : Int32) = nI 0) (by omega))⟩ ?_
                          refine tf_go hx ftX11_span 2 [] 178 [some (.ref o), some (.int (nI b1)), some (.int (nI l1)), some (.int (nI g)), some (.int (nI q)), some (.int (nI k)), some (.int (nI u)), some (.int (nI v)), some (.int (nI (A.1 (324 + k))))] [.int (nI q), .int (nI (A.1 (324 + k)))] S rfl ⟨by decide, by decide, rfl⟩ trivial ?_
                          by_cases f3 : A.1 (324 + k) < q
                          · rw [if_pos (Or.inr (by rw [if_neg (fun h => h f2)]; exact f3))] at he
                            refine tf_go hx ftX11_span 6 [false] 35 [some (.ref o), some (.int (nI b1)), some (.int (nI l1)), some (.int (nI g)), some (.int (nI (A.1 (324 + k)))), some (.int ((nI k) + 1)), some (.int (nI u)), some (.int (nI v)), some (.int (nI (A.1 (324 + k))))] [] S rfl ⟨by decide, by decide, rfl⟩ ⟨trivial, (tf_leF (a := q) (b := (A.1 (324 + k))) rfl rfl (by have := hb (324 + k); omega) (by have := hb (324 + k); omega) (by have := hb (324 + k); omega))⟩ ?_
                            rw [show ((nI k) + 1) = nI (k + 1) from (tf_add (a := k) (b := 1) rfl (rfl : (1 : Int32) = nI 1))]
                            have gq := hb (324 + k)
                            refine tf_fgt [some (.ref o), some (.int (nI b1)), some (.int (nI l1)), some (.int (nI g)), some (.int (nI (A.1 (324 + k)))), some (.int (nI (k + 1))), none, none, none] (by simp [tf_lss]) ?_
                            have h0 := ih (k + 1) (A.1 (324 + k)) (by omega) he (by omega) (Or.inr gq)
                            rw [tf_on_y gq] at h0
                            exact h0
                          · rw [if_neg (by rintro (h | h); omega; rw [if_neg (fun h => h f2)] at h; exact f3 h)] at he
                            refine tf_go hx ftX11_span 5 [true] 35 [some (.ref o), some (.int (nI b1)), some (.int (nI l1)), some (.int (nI g)), some (.int (nI q)), some (.int ((nI k) + 1)), some (.int (nI u)), some (.int (nI v)), some (.int (nI (A.1 (324 + k))))] [] S rfl ⟨by decide, by decide, rfl⟩ ⟨trivial, (tf_leT (a := q) (b := (A.1 (324 + k))) rfl rfl (by have := hb (324 + k); omega) (by have := hb (324 + k); omega) (by have := hb (324 + k); omega))⟩ ?_
                            rw [show ((nI k) + 1) = nI (k + 1) from (tf_add (a := k) (b := 1) rfl (rfl : (1 : Int32) = nI 1))]
                            refine tf_fgt [some (.ref o), some (.int (nI b1)), some (.int (nI l1)), some (.int (nI g)), some (.int (nI q)), some (.int (nI (k + 1))), none, none, none] (by simp [tf_lss]) ?_
                            have h0 := ih (k + 1) q (by omega) he (by omega) hq
                            rw [tf_on_y f1] at h0
                            exact h0
                        · refine tf_go hx ftX11_span 1 [false] 164 [some (.ref o), some (.int (nI b1)), some (.int (nI l1)), some (.int (nI g)), some (.int (nI q)), some (.int (nI k)), some (.int (nI u)), some (.int (nI v)), some (.int (nI (A.1 (324 + k))))] [] S rfl ⟨by decide, by decide, rfl⟩ ⟨trivial, (tf_eqF (a := g) (b := 0) rfl (rfl : (0 : Int32) = nI 0) (by omega) (by omega) (by omega))⟩ ?_
                          refine tf_go hx ftX11_span 2 [] 168 [some (.ref o), some (.int (nI b1)), some (.int (nI l1)), some (.int (nI g)), some (.int (nI q)), some (.int (nI k)), some (.int (nI u)), some (.int (nI v)), some (.int (nI (A.1 (324 + k))))] [.int (nI q), .int (nI (A.1 (324 + k)))] S rfl ⟨by decide, by decide, rfl⟩ trivial ?_
                          by_cases f3 : q < A.1 (324 + k)
                          · rw [if_pos (Or.inr (by rw [if_pos f2]; exact f3))] at he
                            refine tf_go hx ftX11_span 7 [false] 35 [some (.ref o), some (.int (nI b1)), some (.int (nI l1)), some (.int (nI g)), some (.int (nI (A.1 (324 + k)))), some (.int ((nI k) + 1)), some (.int (nI u)), some (.int (nI v)), some (.int (nI (A.1 (324 + k))))] [] S rfl ⟨by decide, by decide, rfl⟩ ⟨trivial, (tf_leF (a := (A.1 (324 + k))) (b := q) rfl rfl (by have := hb (324 + k); omega) (by have := hb (324 + k); omega) (by have := hb (324 + k); omega))⟩ ?_
                            rw [show ((nI k) + 1) = nI (k + 1) from (tf_add (a := k) (b := 1) rfl (rfl : (1 : Int32) = nI 1))]
                            have gq := hb (324 + k)
                            refine tf_fgt [some (.ref o), some (.int (nI b1)), some (.int (nI l1)), some (.int (nI g)), some (.int (nI (A.1 (324 + k)))), some (.int (nI (k + 1))), none, none, none] (by simp [tf_lss]) ?_
                            have h0 := ih (k + 1) (A.1 (324 + k)) (by omega) he (by omega) (Or.inr gq)
                            rw [tf_on_y gq] at h0
                            exact h0
                          · rw [if_neg (by rintro (h | h); omega; rw [if_pos f2] at h; exact f3 h)] at he
                            refine tf_go hx ftX11_span 5 [true] 35 [some (.ref o), some (.int (nI b1)), some (.int (nI l1)), some (.int (nI g)), some (.int (nI q)), some (.int ((nI k) + 1)), some (.int (nI u)), some (.int (nI v)), some (.int (nI (A.1 (324 + k))))] [] S rfl ⟨by decide, by decide, rfl⟩ ⟨trivial, (tf_leT (a := (A.1 (324 + k))) (b := q) rfl rfl (by have := hb (324 + k); omega) (by have := hb (324 + k); omega) (by have := hb (324 + k); omega))⟩ ?_
                            rw [show ((nI k) + 1) = nI (k + 1) from (tf_add (a := k) (b := 1) rfl (rfl : (1 : Int32) = nI 1))]
                            refine tf_fgt [some (.ref o), some (.int (nI b1)), some (.int (nI l1)), some (.int (nI g)), some (.int (nI q)), some (.int (nI (k + 1))), none, none, none] (by simp [tf_lss]) ?_
                            have h0 := ih (k + 1) q (by omega) he (by omega) hq
                            rw [tf_on_y f1] at h0
                            exact h0
                      · rw [if_pos (Or.inl (by omega))] at he
                        rw [tf_on_n f1]
                        refine tf_go hx ftX11_span 6 [true] 35 [some (.ref o), some (.int (nI b1)), some (.int (nI l1)), some (.int (nI g)), some (.int (nI (A.1 (324 + k)))), some (.int ((nI k) + 1)), some (.int (nI u)), some (.int (nI v)), some (.int (nI (A.1 (324 + k))))] [] S rfl ⟨by decide, by decide, rfl⟩ ⟨trivial, (by decide)⟩ ?_
                        rw [show ((nI k) + 1) = nI (k + 1) from (tf_add (a := k) (b := 1) rfl (rfl : (1 : Int32) = nI 1))]
                        have gq := hb (324 + k)
                        refine tf_fgt [some (.ref o), some (.int (nI b1)), some (.int (nI l1)), some (.int (nI g)), some (.int (nI (A.1 (324 + k)))), some (.int (nI (k + 1))), none, none, none] (by simp [tf_lss]) ?_
                        have h0 := ih (k + 1) (A.1 (324 + k)) (by omega) he (by omega) (Or.inr gq)
                        rw [tf_on_y gq] at h0
                        exact h0
                  · refine tf_go hx ftX11_span 3 [true] 35 [some (.ref o), some (.int (nI b1)), some (.int (nI l1)), some (.int (nI g)), some (.int (tf_on 10000 q)), some (.int ((nI k) + 1)), some (.int (nI u)), some (.int (nI v)), none] [] S rfl ⟨by decide, by decide, rfl⟩ ⟨trivial, (tf_eqF (a := (tf_la v u 0)) (b := l1) rfl rfl (by omega) (by omega) (by omega))⟩ ?_
                    rw [show ((nI k) + 1) = nI (k + 1) from (tf_add (a := k) (b := 1) rfl (rfl : (1 : Int32) = nI 1))]
                    have hn : sc = false := by rw [← hsc]; simp [e4]
                    rw [hn, if_neg (by decide)] at he
                    refine tf_fgt [some (.ref o), some (.int (nI b1)), some (.int (nI l1)), some (.int (nI g)), some (.int (tf_on 10000 q)), some (.int (nI (k + 1))), none, none, none] (by simp [tf_lss]) ?_
                    exact ih (k + 1) q (by omega) he (by omega) hq
                · rw [tf_on_n e3]
                  refine tf_go hx ftX11_span 1 [] 106 [some (.ref o), some (.int (nI b1)), some (.int (nI l1)), some (.int (nI g)), some (.int (tf_on 10000 q)), some (.int (nI k)), some (.int (nI u)), some (.int (-9)), none] [.int (-9)] S rfl ⟨by decide, by decide, rfl⟩ trivial ?_
                  refine tf_go hx ftX11_span 3 [true] 35 [some (.ref o), some (.int (nI b1)), some (.int (nI l1)), some (.int (nI g)), some (.int (tf_on 10000 q)), some (.int ((nI k) + 1)), some (.int (nI u)), some (.int (-9)), none] [] S rfl ⟨by decide, by decide, rfl⟩ ⟨trivial, (by decide)⟩ ?_
                  rw [show ((nI k) + 1) = nI (k + 1) from (tf_add (a := k) (b := 1) rfl (rfl : (1 : Int32) = nI 1))]
                  have hn : sc = false := by rw [← hsc]; simp [e3]
                  rw [hn, if_neg (by decide)] at he
                  refine tf_fgt [some (.ref o), some (.int (nI b1)), some (.int (nI l1)), some (.int (nI g)), some (.int (tf_on 10000 q)), some (.int (nI (k + 1))), none, none, none] (by simp [tf_lss]) ?_
                  exact ih (k + 1) q (by omega) he (by omega) hq
              · rw [tf_on_n e2]
                refine tf_go hx ftX11_span 2 [] 101 [some (.ref o), some (.int (nI b1)), some (.int (nI l1)), some (.int (nI g)), some (.int (tf_on 10000 q)), some (.int (nI k)), some (.int (-9)), some (.int (tf_on 30 v)), none] [.int (-9)] S rfl ⟨by decide, by decide, rfl⟩ trivial ?_
                refine tf_go hx ftX11_span 3 [true] 35 [some (.ref o), some (.int (nI b1)), some (.int (nI l1)), some (.int (nI g)), some (.int (tf_on 10000 q)), some (.int ((nI k) + 1)), some (.int (-9)), some (.int (tf_on 30 v)), none] [] S rfl ⟨by decide, by decide, rfl⟩ ⟨trivial, (by decide)⟩ ?_
                rw [show ((nI k) + 1) = nI (k + 1) from (tf_add (a := k) (b := 1) rfl (rfl : (1 : Int32) = nI 1))]
                have hn : sc = false := by rw [← hsc]; simp [e2]
                rw [hn, if_neg (by decide)] at he
                refine tf_fgt [some (.ref o), some (.int (nI b1)), some (.int (nI l1)), some (.int (nI g)), some (.int (tf_on 10000 q)), some (.int (nI (k + 1))), none, none, none] (by simp [tf_lss]) ?_
                exact ih (k + 1) q (by omega) he (by omega) hq
            · rw [if_neg (fun h => d1 h.2)] at he
              refine tf_go hx ftX11_span 2 [true] 198 [some (.ref o), some (.int (nI b1)), some (.int (nI l1)), some (.int (nI g)), some (.int (tf_on 10000 q)), some (.int (nI k)), none, none, none] [.int (tf_on 10000 q)] S rfl ⟨by decide, by decide, rfl⟩ ⟨trivial, (tf_leT (a := (A.1 364)) (b := k) rfl rfl (by have := hb 364; omega) (by have := hb 364; omega) (by have := hb 364; omega))⟩ ?_
              exact tf_ret ftX11_span hR rfl ⟨by decide, by decide⟩ rfl rfl (by rw [← he]; rfl)
          · rw [if_neg (fun h => d0 h.1)] at he
            refine tf_go hx ftX11_span 2 [true] 198 [some (.ref o), some (.int (nI b1)), some (.int (nI l1)), some (.int (nI g)), some (.int (tf_on 10000 q)), some (.int (nI k)), none, none, none] [.int (tf_on 10000 q)] S rfl ⟨by decide, by decide, rfl⟩ ⟨trivial, (tf_leT (a := (A.1 367)) (b := k) rfl rfl (by have := hb 367; omega) (by have := hb 367; omega) (by have := hb 367; omega))⟩ ?_
            exact tf_ret ftX11_span hR rfl ⟨by decide, by decide⟩ rfl rfl (by rw [← he]; rfl)
      exact loop 40 1 10000 (by omega) rfl (by omega) (Or.inl rfl)
    · rw [if_neg e1]
      refine ⟨tf_rfS G S o 2, tf_Fn_of (own := RX11) false ⟨by decide, rfl, by decide⟩ (Nat.le_of_ble_eq_true rfl) trivial (fun x hx hR => ?_), tf_ms_ref ho hd hM 2, tf_fm_0⟩
      show tf_K x 0 0 G S 0 [some (.ref o), some (.int (nI b1)), some (.int l), some (.int (nI g)), none, none, none, none, none] []
      refine tf_go hx ftX11_span 1 [] 1 [some (.ref o), some (.int (nI b1)), some (.int l), some (.int (nI g)), none, none, none, none, none] [.int (nI b1)] S rfl ⟨by decide, by decide, rfl⟩ trivial ?_
      refine tf_cS hx ftX11_span (nx := 4) (As := [.int (nI b1)]) (rest := []) (st2 := [.int (if ¬ (nI b1) < 0 ∧ ¬ 4 ≤ (nI b1) then 1 else 0)]) (m_isBoard (nI b1)) rfl lX11_40 rfl ⟨rfl, by decide, by decide, by decide, rfl, rfl⟩ ?_
      rw [if_pos c0]
      refine tf_go hx ftX11_span 1 [true] 13 [some (.ref o), some (.int (nI b1)), some (.int l), some (.int (nI g)), none, none, none, none, none] [] S rfl ⟨by decide, by decide, rfl⟩ ⟨trivial, (by decide)⟩ ?_
      refine tf_go hx ftX11_span 2 [] 15 [some (.ref o), some (.int (nI b1)), some (.int l), some (.int (nI g)), none, none, none, none, none] [.int 3, .int l] S rfl ⟨by decide, by decide, rfl⟩ trivial ?_
      refine tf_cS hx ftX11_span (nx := 18) (As := [.int l, .int 3]) (rest := []) (st2 := [.int (if ¬ l < 0 ∧ ¬ 3 ≤ l then 1 else 0)]) (m_isIn l 3) rfl lX11_22 rfl ⟨rfl, by decide, by decide, by decide, rfl, rfl⟩ ?_
      rw [if_neg e1]
      refine tf_go hx ftX11_span 3 [false] 24 [some (.ref o), some (.int (nI b1)), some (.int l), some (.int (nI g)), none, none, none, none, none] [.int (-2), .ref o] S rfl ⟨by decide, by decide, rfl⟩ ⟨trivial, (by decide)⟩ ?_
      refine tf_cV hx ftX11_span (nx := 27) (As := [.int (-2)]) (rest := []) (st2 := [.int (-2)]) (m_ref2 ho) rfl lX11_26 (by first | assumption | rfl | decide) rfl ⟨rfl, by decide, by decide, by decide, rfl, rfl⟩ ?_
      exact tf_ret ftX11_span hR rfl ⟨by decide, by decide⟩ rfl rfl rfl
  · rw [if_neg (fun h => c0 h)]
    refine ⟨tf_rfS G S o 1, tf_Fn_of (own := RX11) false ⟨by decide, rfl, by decide⟩ (Nat.le_of_ble_eq_true rfl) trivial (fun x hx hR => ?_), tf_ms_ref ho hd hM 1, tf_fm_0⟩
    show tf_K x 0 0 G S 0 [some (.ref o), some (.int b), some (.int l), some (.int (nI g)), none, none, none, none, none] []
    refine tf_go hx ftX11_span 1 [] 1 [some (.ref o), some (.int b), some (.int l), some (.int (nI g)), none, none, none, none, none] [.int b] S rfl ⟨by decide, by decide, rfl⟩ trivial ?_
    refine tf_cS hx ftX11_span (nx := 4) (As := [.int b]) (rest := []) (st2 := [.int (if ¬ b < 0 ∧ ¬ 4 ≤ b then 1 else 0)]) (m_isBoard b) rfl lX11_40 rfl ⟨rfl, by decide, by decide, by decide, rfl, rfl⟩ ?_
    rw [if_neg c0]
    refine tf_go hx ftX11_span 1 [false] 7 [some (.ref o), some (.int b), some (.int l), some (.int (nI g)), none, none, none, none, none] [] S rfl ⟨by decide, by decide, rfl⟩ ⟨trivial, (by decide)⟩ ?_
    refine tf_go hx ftX11_span 2 [] 9 [some (.ref o), some (.int b), some (.int l), some (.int (nI g)), none, none, none, none, none] [.int (-1), .ref o] S rfl ⟨by decide, by decide, rfl⟩ trivial ?_
    refine tf_cV hx ftX11_span (nx := 12) (As := [.int (-1)]) (rest := []) (st2 := [.int (-1)]) (m_ref1 ho) rfl lX11_26 (by first | assumption | rfl | decide) rfl ⟨rfl, by decide, by decide, by decide, rfl, rfl⟩ ?_
    exact tf_ret ftX11_span hR rfl ⟨by decide, by decide⟩ rfl rfl rfl

set_option maxHeartbeats 2000000 in
theorem p_pauses {G : tf_G} {S : tf_Sg} {o : Nat} {A : tf_A} (b l r : Int32) (ho : tf_mo G o) (hd : tf_md G o) (hA : tf_okA A) (hM : tf_ms G S o A)  : tf_pm mX11_pauses 3 G S o [.ref o, .int b, .int l, .int r] (s_pauses A b l r) := by
  obtain ⟨h1, ⟨r0, t0, n0⟩, ⟨r1, t1, n1⟩, ⟨r2, t2, n2⟩, ⟨r4, t4, n4⟩⟩ := id ho
  obtain ⟨hg, hb, hA3, hA4, hA5, hA6⟩ := id hA
  have hs := hM.1
  have hf : tf_sf G S o A.1 := ⟨hM.1, hb⟩
  obtain ⟨⟨g1, g2, g3, g4⟩, g5, g6, g7, g8, g9, g10, g11⟩ := id hg
  unfold s_pauses
  by_cases c0 : ¬ b < 0 ∧ ¬ 4 ≤ b
  · rw [if_pos c0]
    obtain ⟨b1, b1_lt, b1_eq, b1_cl⟩ := tf_ok_nI (N := 4) (show tf_ok b _ from c0) rfl (by decide)
    try rw [b1_cl]
    subst b1_eq
    by_cases e1 : l < 1
    · rw [if_pos (Or.inl e1)]
      refine ⟨tf_rfS G S o 4, tf_Fn_of (own := RX11) false ⟨by decide, rfl, by decide⟩ (Nat.le_of_ble_eq_true rfl) trivial (fun x hx hR => ?_), tf_ms_ref ho hd hM 4, tf_fm_0⟩
      show tf_K x 0 0 G S 0 [some (.ref o), some (.int (nI b1)), some (.int l), some (.int r), none, none, none, none] []
      refine tf_go hx ftX11_pauses 1 [] 1 [some (.ref o), some (.int (nI b1)), some (.int l), some (.int r), none, none, none, none] [.int (nI b1)] S rfl ⟨by decide, by decide, rfl⟩ trivial ?_
      refine tf_cS hx ftX11_pauses (nx := 4) (As := [.int (nI b1)]) (rest := []) (st2 := [.int (if ¬ (nI b1) < 0 ∧ ¬ 4 ≤ (nI b1) then 1 else 0)]) (m_isBoard (nI b1)) rfl lX11_40 rfl ⟨rfl, by decide, by decide, by decide, rfl, rfl⟩ ?_
      rw [if_pos c0]
      refine tf_go hx ftX11_pauses 1 [true] 13 [some (.ref o), some (.int (nI b1)), some (.int l), some (.int r), none, none, none, none] [] S rfl ⟨by decide, by decide, rfl⟩ ⟨trivial, (by decide)⟩ ?_
      refine tf_go hx ftX11_pauses 2 [] 15 [some (.ref o), some (.int (nI b1)), some (.int l), some (.int r), none, none, none, none] [.int 1, .int l] S rfl ⟨by decide, by decide, rfl⟩ trivial ?_
      refine tf_go hx ftX11_pauses 3 [true] 25 [some (.ref o), some (.int (nI b1)), some (.int l), some (.int r), none, none, none, none] [.int (-4), .ref o] S rfl ⟨by decide, by decide, rfl⟩ ⟨trivial, e1⟩ ?_
      refine tf_cV hx ftX11_pauses (nx := 28) (As := [.int (-4)]) (rest := []) (st2 := [.int (-4)]) (m_ref4 ho) rfl lX11_26 (by first | assumption | rfl | decide) rfl ⟨rfl, by decide, by decide, by decide, rfl, rfl⟩ ?_
      exact tf_ret ftX11_pauses hR rfl ⟨by decide, by decide⟩ rfl rfl rfl
    · by_cases e2 : r < 0
      · rw [if_pos (Or.inr e2)]
        refine ⟨tf_rfS G S o 4, tf_Fn_of (own := RX11) false ⟨by decide, rfl, by decide⟩ (Nat.le_of_ble_eq_true rfl) trivial (fun x hx hR => ?_), tf_ms_ref ho hd hM 4, tf_fm_0⟩
        show tf_K x 0 0 G S 0 [some (.ref o), some (.int (nI b1)), some (.int l), some (.int r), none, none, none, none] []
        refine tf_go hx ftX11_pauses 1 [] 1 [some (.ref o), some (.int (nI b1)), some (.int l), some (.int r), none, none, none, none] [.int (nI b1)] S rfl ⟨by decide, by decide, rfl⟩ trivial ?_
        refine tf_cS hx ftX11_pauses (nx := 4) (As := [.int (nI b1)]) (rest := []) (st2 := [.int (if ¬ (nI b1) < 0 ∧ ¬ 4 ≤ (nI b1) then 1 else 0)]) (m_isBoard (nI b1)) rfl lX11_40 rfl ⟨rfl, by decide, by decide, by decide, rfl, rfl⟩ ?_
        rw [if_pos c0]
        refine tf_go hx ftX11_pauses 1 [true] 13 [some (.ref o), some (.int (nI b1)), some (.int l), some (.int r), none, none, none, none] [] S rfl ⟨by decide, by decide, rfl⟩ ⟨trivial, (by decide)⟩ ?_
        refine tf_go hx ftX11_pauses 2 [] 15 [some (.ref o), some (.int (nI b1)), some (.int l), some (.int r), none, none, none, none] [.int 1, .int l] S rfl ⟨by decide, by decide, rfl⟩ trivial ?_
        refine tf_go hx ftX11_pauses 1 [false] 18 [some (.ref o), some (.int (nI b1)), some (.int l), some (.int r), none, none, none, none] [] S rfl ⟨by decide, by decide, rfl⟩ ⟨trivial, e1⟩ ?_
        refine tf_go hx ftX11_pauses 1 [] 19 [some (.ref o), some (.int (nI b1)), some (.int l), some (.int r), none, none, none, none] [.int r] S rfl ⟨by decide, by decide, rfl⟩ trivial ?_
        refine tf_go hx ftX11_pauses 3 [false] 25 [some (.ref o), some (.int (nI b1)), some (.int l), some (.int r), none, none, none, none] [.int (-4), .ref o] S rfl ⟨by decide, by decide, rfl⟩ ⟨trivial, (Int32.not_le.mpr e2)⟩ ?_
        refine tf_cV hx ftX11_pauses (nx := 28) (As := [.int (-4)]) (rest := []) (st2 := [.int (-4)]) (m_ref4 ho) rfl lX11_26 (by first | assumption | rfl | decide) rfl ⟨rfl, by decide, by decide, by decide, rfl, rfl⟩ ?_
        exact tf_ret ftX11_pauses hR rfl ⟨by decide, by decide⟩ rfl rfl rfl
      · rw [if_neg (by rintro (h | h); exact e1 h; exact e2 h)]
        by_cases e3 : 999 < l
        · rw [if_pos (Or.inl e3)]
          refine ⟨tf_rfS G S o 6, tf_Fn_of (own := RX11) false ⟨by decide, rfl, by decide⟩ (Nat.le_of_ble_eq_true rfl) trivial (fun x hx hR => ?_), tf_ms_ref ho hd hM 6, tf_fm_0⟩
          show tf_K x 0 0 G S 0 [some (.ref o), some (.int (nI b1)), some (.int l), some (.int r), none, none, none, none] []
          refine tf_go hx ftX11_pauses 1 [] 1 [some (.ref o), some (.int (nI b1)), some (.int l), some (.int r), none, none, none, none] [.int (nI b1)] S rfl ⟨by decide, by decide, rfl⟩ trivial ?_
          refine tf_cS hx ftX11_pauses (nx := 4) (As := [.int (nI b1)]) (rest := []) (st2 := [.int (if ¬ (nI b1) < 0 ∧ ¬ 4 ≤ (nI b1) then 1 else 0)]) (m_isBoard (nI b1)) rfl lX11_40 rfl ⟨rfl, by decide, by decide, by decide, rfl, rfl⟩ ?_
          rw [if_pos c0]
          refine tf_go hx ftX11_pauses 1 [true] 13 [some (.ref o), some (.int (nI b1)), some (.int l), some (.int r), none, none, none, none] [] S rfl ⟨by decide, by decide, rfl⟩ ⟨trivial, (by decide)⟩ ?_
          refine tf_go hx ftX11_pauses 2 [] 15 [some (.ref o), some (.int (nI b1)), some (.int l), some (.int r), none, none, none, none] [.int 1, .int l] S rfl ⟨by decide, by decide, rfl⟩ trivial ?_
          refine tf_go hx ftX11_pauses 1 [false] 18 [some (.ref o), some (.int (nI b1)), some (.int l), some (.int r), none, none, none, none] [] S rfl ⟨by decide, by decide, rfl⟩ ⟨trivial, e1⟩ ?_
          refine tf_go hx ftX11_pauses 1 [] 19 [some (.ref o), some (.int (nI b1)), some (.int l), some (.int r), none, none, none, none] [.int r] S rfl ⟨by decide, by decide, rfl⟩ trivial ?_
          refine tf_go hx ftX11_pauses 1 [true] 29 [some (.ref o), some (.int (nI b1)), some (.int l), some (.int r), none, none, none, none] [] S rfl ⟨by decide, by decide, rfl⟩ ⟨trivial, (Int32.not_lt.mp e2)⟩ ?_
          refine tf_go hx ftX11_pauses 2 [] 33 [some (.ref o), some (.int (nI b1)), some (.int l), some (.int r), none, none, none, none] [.int 999, .int l] S rfl ⟨by decide, by decide, rfl⟩ trivial ?_
          refine tf_go hx ftX11_pauses 3 [true] 46 [some (.ref o), some (.int (nI b1)), some (.int l), some (.int r), none, none, none, none] [.int (-6), .ref o] S rfl ⟨by decide, by decide, rfl⟩ ⟨trivial, e3⟩ ?_
          refine tf_cV hx ftX11_pauses (nx := 49) (As := [.int (-6)]) (rest := []) (st2 := [.int (-6)]) (m_ref6 ho) rfl lX11_26 (by first | assumption | rfl | decide) rfl ⟨rfl, by decide, by decide, by decide, rfl, rfl⟩ ?_
          exact tf_ret ftX11_pauses hR rfl ⟨by decide, by decide⟩ rfl rfl rfl
        · by_cases e4 : 999 < r
          · rw [if_pos (Or.inr e4)]
            refine ⟨tf_rfS G S o 6, tf_Fn_of (own := RX11) false ⟨by decide, rfl, by decide⟩ (Nat.le_of_ble_eq_true rfl) trivial (fun x hx hR => ?_), tf_ms_ref ho hd hM 6, tf_fm_0⟩
            show tf_K x 0 0 G S 0 [some (.ref o), some (.int (nI b1)), some (.int l), some (.int r), none, none, none, none] []
            refine tf_go hx ftX11_pauses 1 [] 1 [some (.ref o), some (.int (nI b1)), some (.int l), some (.int r), none, none, none, none] [.int (nI b1)] S rfl ⟨by decide, by decide, rfl⟩ trivial ?_
            refine tf_cS hx ftX11_pauses (nx := 4) (As := [.int (nI b1)]) (rest := []) (st2 := [.int (if ¬ (nI b1) < 0 ∧ ¬ 4 ≤ (nI b1) then 1 else 0)]) (m_isBoard (nI b1)) rfl lX11_40 rfl ⟨rfl, by decide, by decide, by decide, rfl, rfl⟩ ?_
            rw [if_pos c0]
            refine tf_go hx ftX11_pauses 1 [true] 13 [some (.ref o), some (.int (nI b1)), some (.int l), some (.int r), none, none, none, none] [] S rfl ⟨by decide, by decide, rfl⟩ ⟨trivial, (by decide)⟩ ?_
            refine tf_go hx ftX11_pauses 2 [] 15 [some (.ref o), some (.int (nI b1)), some (.int l), some (.int r), none, none, none, none] [.int 1, .int l] S rfl ⟨by decide, by decide, rfl⟩ trivial ?_
            refine tf_go hx ftX11_pauses 1 [false] 18 [some (.ref o), some (.int (nI b1)), some (.int l), some (.int r), none, none, none, none] [] S rfl ⟨by decide, by decide, rfl⟩ ⟨trivial, e1⟩ ?_
            refine tf_go hx ftX11_pauses 1 [] 19 [some (.ref o), some (.int (nI b1)), some (.int l), some (.int r), none, none, none, none] [.int r] S rfl ⟨by decide, by decide, rfl⟩ trivial ?_
            refine tf_go hx ftX11_pauses 1 [true] 29 [some (.ref o), some (.int (nI b1)), some (.int l), some (.int r), none, none, none, none] [] S rfl ⟨by decide, by decide, rfl⟩ ⟨trivial, (Int32.not_lt.mp e2)⟩ ?_
            refine tf_go hx ftX11_pauses 2 [] 33 [some (.ref o), some (.int (nI b1)), some (.int l), some (.int r), none, none, none, none] [.int 999, .int l] S rfl ⟨by decide, by decide, rfl⟩ trivial ?_
            refine tf_go hx ftX11_pauses 1 [false] 36 [some (.ref o), some (.int (nI b1)), some (.int l), some (.int r), none, none, none, none] [] S rfl ⟨by decide, by decide, rfl⟩ ⟨trivial, e3⟩ ?_
            refine tf_go hx ftX11_pauses 2 [] 40 [some (.ref o), some (.int (nI b1)), some (.int l), some (.int r), none, none, none, none] [.int 999, .int r] S rfl ⟨by decide, by decide, rfl⟩ trivial ?_
            refine tf_go hx ftX11_pauses 3 [false] 46 [some (.ref o), some (.int (nI b1)), some (.int l), some (.int r), none, none, none, none] [.int (-6), .ref o] S rfl ⟨by decide, by decide, rfl⟩ ⟨trivial, (Int32.not_le.mpr e4)⟩ ?_
            refine tf_cV hx ftX11_pauses (nx := 49) (As := [.int (-6)]) (rest := []) (st2 := [.int (-6)]) (m_ref6 ho) rfl lX11_26 (by first | assumption | rfl | decide) rfl ⟨rfl, by decide, by decide, by decide, rfl, rfl⟩ ?_
            exact tf_ret ftX11_pauses hR rfl ⟨by decide, by decide⟩ rfl rfl rfl
          · rw [if_neg (by rintro (h | h); exact e3 h; exact e4 h)]
            obtain ⟨l1, l1_le, l1_eq⟩ := nI_of2 (M := 999) (n := 999) (x := l) (by decide) (fun h => e1 (Int32.lt_trans h (by decide))) (Int32.not_lt.mp e3)
            obtain ⟨r1, r1_le, r1_eq⟩ := nI_of2 (M := 999) (n := 999) (x := r) (by decide) e2 (Int32.not_lt.mp e4)
            subst l1_eq
            subst r1_eq
            rw [tf_cl_nI (show l1 < 2147483648 by omega), tf_cl_nI (show r1 < 2147483648 by omega)]
            refine ⟨S, tf_Fn_of (own := RX11) false ⟨by decide, rfl, by decide⟩ (Nat.le_of_ble_eq_true rfl) trivial (fun x hx hR => ?_), hM, tf_fm_id⟩
            show tf_K x 0 0 G S 0 [some (.ref o), some (.int (nI b1)), some (.int (nI l1)), some (.int (nI r1)), none, none, none, none] []
            refine tf_go hx ftX11_pauses 1 [] 1 [some (.ref o), some (.int (nI b1)), some (.int (nI l1)), some (.int (nI r1)), none, none, none, none] [.int (nI b1)] S rfl ⟨by decide, by decide, rfl⟩ trivial ?_
            refine tf_cS hx ftX11_pauses (nx := 4) (As := [.int (nI b1)]) (rest := []) (st2 := [.int (if ¬ (nI b1) < 0 ∧ ¬ 4 ≤ (nI b1) then 1 else 0)]) (m_isBoard (nI b1)) rfl lX11_40 rfl ⟨rfl, by decide, by decide, by decide, rfl, rfl⟩ ?_
            rw [if_pos c0]
            refine tf_go hx ftX11_pauses 1 [true] 13 [some (.ref o), some (.int (nI b1)), some (.int (nI l1)), some (.int (nI r1)), none, none, none, none] [] S rfl ⟨by decide, by decide, rfl⟩ ⟨trivial, (by decide)⟩ ?_
            refine tf_go hx ftX11_pauses 2 [] 15 [some (.ref o), some (.int (nI b1)), some (.int (nI l1)), some (.int (nI r1)), none, none, none, none] [.int 1, .int (nI l1)] S rfl ⟨by decide, by decide, rfl⟩ trivial ?_
            refine tf_go hx ftX11_pauses 1 [false] 18 [some (.ref o), some (.int (nI b1)), some (.int (nI l1)), some (.int (nI r1)), none, none, none, none] [] S rfl ⟨by decide, by decide, rfl⟩ ⟨trivial, e1⟩ ?_
            refine tf_go hx ftX11_pauses 1 [] 19 [some (.ref o), some (.int (nI b1)), some (.int (nI l1)), some (.int (nI r1)), none, none, none, none] [.int (nI r1)] S rfl ⟨by decide, by decide, rfl⟩ trivial ?_
            refine tf_go hx ftX11_pauses 1 [true] 29 [some (.ref o), some (.int (nI b1)), some (.int (nI l1)), some (.int (nI r1)), none, none, none, none] [] S rfl ⟨by decide, by decide, rfl⟩ ⟨trivial, (Int32.not_lt.mp e2)⟩ ?_
            refine tf_go hx ftX11_pauses 2 [] 33 [some (.ref o), some (.int (nI b1)), some (.int (nI l1)), some (.int (nI r1)), none, none, none, none] [.int 999, .int (nI l1)] S rfl ⟨by decide, by decide, rfl⟩ trivial ?_
            refine tf_go hx ftX11_pauses 1 [false] 36 [some (.ref o), some (.int (nI b1)), some (.int (nI l1)), some (.int (nI r1)), none, none, none, none] [] S rfl ⟨by decide, by decide, rfl⟩ ⟨trivial, e3⟩ ?_
            refine tf_go hx ftX11_pauses 2 [] 40 [some (.ref o), some (.int (nI b1)), some (.int (nI l1)), some (.int (nI r1)), none, none, none, none] [.int 999, .int (nI r1)] S rfl ⟨by decide, by decide, rfl⟩ trivial ?_
            refine tf_go hx ftX11_pauses 7 [true] 59 [some (.ref o), some (.int (nI b1)), some (.int (nI l1)), some (.int (nI r1)), some (.int 0), some (.int 0), some (.int 0), none] [] S rfl ⟨by decide, by decide, rfl⟩ ⟨trivial, (Int32.not_lt.mp e4)⟩ ?_
            refine tf_fgt [some (.ref o), some (.int (nI b1)), some (.int (nI l1)), some (.int (nI r1)), some (.int 0), some (.int 0), some (.int 0), none] (by simp [tf_lss]) ?_
            have loop : ∀ (m k : Nat) (n : Nat) (y : Nat), 41 = k + m → (tf_pz A.1 b1 l1 r1 m k y n = tf_pz A.1 b1 l1 r1 41 0 0 0) → (y ≤ 3 * k) → (n + y ≤ 3 * k) → tf_K x 0 0 G S 59 [some (.ref o), some (.int (nI b1)), some (.int (nI l1)), some (.int (nI r1)), some (.int (nI y)), some (.int (nI n)), some (.int (nI k)), none] [] := by
              intro m
              induction m with
              | zero =>
                intro k n y hk he hy hn
                refine tf_go hx ftX11_pauses 5 [] 69 [some (.ref o), some (.int (nI b1)), some (.int (nI l1)), some (.int (nI r1)), some (.int (nI y)), some (.int (nI n)), some (.int (nI k)), none] [.int (S (tf_rf G o 1) (Int32.toNatClampNeg 364)), .int (nI k)] S rfl ⟨by decide, by decide, rfl⟩ ⟨⟨trivial, ⟨by first | assumption | rfl | decide | omega, by first | assumption | rfl | decide | omega⟩⟩, ⟨Or.inl (by first | assumption | rfl | decide | omega), by first | assumption | exact tf_in (n := 364) (rfl : (364 : Int32) = nI 364) (by first | assumption | rfl) (by omega) (by decide)⟩⟩ ?_
                rw [show (S (tf_rf G o 1) (Int32.toNatClampNeg 364)) = nI (A.1 364) from (tf_rd hs (rfl : (364 : Int32) = nI 364) (by omega))]
                refine tf_go hx ftX11_pauses 2 [true] 143 [some (.ref o), some (.int (nI b1)), some (.int (nI l1)), some (.int (nI r1)), some (.int (nI y)), some (.int (nI n)), some (.int (nI k)), none] [.int (nI n)] S rfl ⟨by decide, by decide, rfl⟩ ⟨trivial, (tf_leT (a := (A.1 364)) (b := k) rfl rfl (by have := hb 364; omega) (by have := hb 364; omega) (by have := hb 364; omega))⟩ ?_
                exact tf_ret ftX11_pauses hR rfl ⟨by decide, by decide⟩ rfl rfl (by rw [← he]; show _ = [Value.int (tf_on 100000 n)]; rw [tf_on_y (by omega)])
              | succ m ih =>
                intro k n y hk he hy hn
                rw [tf_pz_s] at he
                refine tf_go hx ftX11_pauses 5 [] 69 [some (.ref o), some (.int (nI b1)), some (.int (nI l1)), some (.int (nI r1)), some (.int (nI y)), some (.int (nI n)), some (.int (nI k)), none] [.int (S (tf_rf G o 1) (Int32.toNatClampNeg 364)), .int (nI k)] S rfl ⟨by decide, by decide, rfl⟩ ⟨⟨trivial, ⟨by first | assumption | rfl | decide | omega, by first | assumption | rfl | decide | omega⟩⟩, ⟨Or.inl (by first | assumption | rfl | decide | omega), by first | assumption | exact tf_in (n := 364) (rfl : (364 : Int32) = nI 364) (by first | assumption | rfl) (by omega) (by decide)⟩⟩ ?_
                rw [show (S (tf_rf G o 1) (Int32.toNatClampNeg 364)) = nI (A.1 364) from (tf_rd hs (rfl : (364 : Int32) = nI 364) (by omega))]
                by_cases d0 : k < A.1 364
                · rw [if_pos d0] at he
                  have ah := tf_ah_le A.1 b1 k
                  refine tf_go hx ftX11_pauses 1 [false] 72 [some (.ref o), some (.int (nI b1)), some (.int (nI l1)), some (.int (nI r1)), some (.int (nI y)), some (.int (nI n)), some (.int (nI k)), none] [] S rfl ⟨by decide, by decide, rfl⟩ ⟨trivial, (tf_leF (a := (A.1 364)) (b := k) rfl rfl (by have := hb 364; omega) (by have := hb 364; omega) (by have := hb 364; omega))⟩ ?_
                  refine tf_go hx ftX11_pauses 3 [] 76 [some (.ref o), some (.int (nI b1)), some (.int (nI l1)), some (.int (nI r1)), some (.int (nI y)), some (.int (nI n)), some (.int (nI k)), none] [.int (nI k), .int (nI b1), .ref o] S rfl ⟨by decide, by decide, rfl⟩ trivial ?_
                  refine tf_cV hx ftX11_pauses (nx := 79) (As := [.int (nI b1), .int (nI k)]) (rest := []) (st2 := [.int (nI (tf_ah A.1 b1 k))]) (m_acheAt b1 k ho hf hg b1_lt d0) rfl lX11_129 (by first | assumption | rfl | decide) rfl ⟨rfl, by decide, by decide, by decide, rfl, rfl⟩ ?_
                  generalize hw : tf_ah A.1 b1 k = w at *
                  refine tf_go hx ftX11_pauses 3 [] 84 [some (.ref o), some (.int (nI b1)), some (.int (nI l1)), some (.int (nI r1)), some (.int (nI y)), some (.int (nI n)), some (.int (nI k)), some (.int (nI w))] [.int (nI l1), .int (nI w)] S rfl ⟨by decide, by decide, rfl⟩ trivial ?_
                  by_cases d1 : l1 < w
                  · rw [if_pos d1] at he
                    refine tf_go hx ftX11_pauses 2 [false] 89 [some (.ref o), some (.int (nI b1)), some (.int (nI l1)), some (.int (nI r1)), some (.int (nI y)), some (.int (nI n)), some (.int (nI k)), some (.int (nI w))] [.int (-9)] S rfl ⟨by decide, by decide, rfl⟩ ⟨trivial, (tf_leF (a := w) (b := l1) rfl rfl (by omega) (by omega) (by omega))⟩ ?_
                    exact tf_ret ftX11_pauses hR rfl ⟨by decide, by decide⟩ rfl rfl (by rw [← he]; rfl)
                  · rw [if_neg d1] at he
                    refine tf_go hx ftX11_pauses 1 [true] 90 [some (.ref o), some (.int (nI b1)), some (.int (nI l1)), some (.int (nI r1)), some (.int (nI y)), some (.int (nI n)), some (.int (nI k)), some (.int (nI w))] [] S rfl ⟨by decide, by decide, rfl⟩ ⟨trivial, (tf_leT (a := w) (b := l1) rfl rfl (by omega) (by omega) (by omega))⟩ ?_
                    by_cases d2 : l1 < y + w ∧ r1 = 0
                    · rw [if_pos d2] at he
                      obtain ⟨d3, d4⟩ := d2
                      subst d4
                      refine tf_go hx ftX11_pauses 4 [] 96 [some (.ref o), some (.int (nI b1)), some (.int (nI l1)), some (.int (nI 0)), some (.int (nI y)), some (.int (nI n)), some (.int (nI k)), some (.int (nI w))] [.int (nI l1), .int ((nI y) + (nI w))] S rfl ⟨by decide, by decide, rfl⟩ trivial ?_
                      rw [show ((nI y) + (nI w)) = nI (y + w) from (tf_add (a := y) (b := w) rfl rfl)]
                      refine tf_go hx ftX11_pauses 1 [false] 99 [some (.ref o), some (.int (nI b1)), some (.int (nI l1)), some (.int (nI 0)), some (.int (nI y)), some (.int (nI n)), some (.int (nI k)), some (.int (nI w))] [] S rfl ⟨by decide, by decide, rfl⟩ ⟨trivial, (tf_leF (a := (y + w)) (b := l1) rfl rfl (by omega) (by omega) (by omega))⟩ ?_
                      refine tf_go hx ftX11_pauses 1 [] 100 [some (.ref o), some (.int (nI b1)), some (.int (nI l1)), some (.int (nI 0)), some (.int (nI y)), some (.int (nI n)), some (.int (nI k)), some (.int (nI w))] [.int (nI 0)] S rfl ⟨by decide, by decide, rfl⟩ trivial ?_
                      refine tf_go hx ftX11_pauses 2 [false] 105 [some (.ref o), some (.int (nI b1)), some (.int (nI l1)), some (.int (nI 0)), some (.int (nI y)), some (.int (nI n)), some (.int (nI k)), some (.int (nI w))] [.int (-9)] S rfl ⟨by decide, by decide, rfl⟩ ⟨trivial, (tf_neF (a := 0) (b := 0) rfl (rfl : (0 : Int32) = nI 0) (by omega))⟩ ?_
                      exact tf_ret ftX11_pauses hR rfl ⟨by decide, by decide⟩ rfl rfl (by rw [← he]; rfl)
                    · rw [if_neg d2] at he
                      have inner : ∀ (i t c : Nat), t < i → tf_pi w l1 r1 i t c = tf_pi w l1 r1 (y + 1) y n → (l1 < t + w → r1 ≠ 0) → t ≤ y → c + t ≤ n + y → tf_K x 0 0 G S 90 [some (.ref o), some (.int (nI b1)), some (.int (nI l1)), some (.int (nI r1)), some (.int (nI t)), some (.int (nI c)), some (.int (nI k)), some (.int (nI w))] [] := by
                        intro i
                        induction i with
                        | zero =>
                          intro t c ht
                          omega
                        | succ i ihi =>
                          intro t c ht hi hr hty hc
                          rw [tf_pi_s] at hi
                          refine tf_go hx ftX11_pauses 4 [] 96 [some (.ref o), some (.int (nI b1)), some (.int (nI l1)), some (.int (nI r1)), some (.int (nI t)), some (.int (nI c)), some (.int (nI k)), some (.int (nI w))] [.int (nI l1), .int ((nI t) + (nI w))] S rfl ⟨by decide, by decide, rfl⟩ trivial ?_
                          rw [show ((nI t) + (nI w)) = nI (t + w) from (tf_add (a := t) (b := w) rfl rfl)]
                          by_cases d3 : l1 < t + w
                          · rw [if_pos d3] at hi
                            have r0 := hr d3
                            refine tf_go hx ftX11_pauses 1 [false] 99 [some (.ref o), some (.int (nI b1)), some (.int (nI l1)), some (.int (nI r1)), some (.int (nI t)), some (.int (nI c)), some (.int (nI k)), some (.int (nI w))] [] S rfl ⟨by decide, by decide, rfl⟩ ⟨trivial, (tf_leF (a := (t + w)) (b := l1) rfl rfl (by omega) (by omega) (by omega))⟩ ?_
                            refine tf_go hx ftX11_pauses 1 [] 100 [some (.ref o), some (.int (nI b1)), some (.int (nI l1)), some (.int (nI r1)), some (.int (nI t)), some (.int (nI c)), some (.int (nI k)), some (.int (nI w))] [.int (nI r1)] S rfl ⟨by decide, by decide, rfl⟩ trivial ?_
                            refine tf_go hx ftX11_pauses 1 [true] 106 [some (.ref o), some (.int (nI b1)), some (.int (nI l1)), some (.int (nI r1)), some (.int (nI t)), some (.int (nI c)), some (.int (nI k)), some (.int (nI w))] [] S rfl ⟨by decide, by decide, rfl⟩ ⟨trivial, (tf_eqF (a := r1) (b := 0) rfl (rfl : (0 : Int32) = nI 0) (by omega) (by omega) (by omega))⟩ ?_
                            refine tf_go hx ftX11_pauses 2 [] 109 [some (.ref o), some (.int (nI b1)), some (.int (nI l1)), some (.int (nI r1)), some (.int (nI t)), some (.int (nI c)), some (.int (nI k)), some (.int (nI w))] [.int (nI r1), .int (nI t)] S rfl ⟨by decide, by decide, rfl⟩ trivial ?_
                            by_cases d4 : r1 < t
                            · refine tf_go hx ftX11_pauses 8 [false] 90 [some (.ref o), some (.int (nI b1)), some (.int (nI l1)), some (.int (nI r1)), some (.int ((nI t) - (nI r1))), some (.int ((nI c) + 1)), some (.int (nI k)), some (.int (nI w))] [] S rfl ⟨by decide, by decide, rfl⟩ ⟨trivial, (tf_leF (a := t) (b := r1) rfl rfl (by omega) (by omega) (by omega))⟩ ?_
                              rw [show ((nI t) - (nI r1)) = nI (t - r1) from (tf_sub (a := t) (b := r1) rfl rfl (by omega))]
                              rw [show ((nI c) + 1) = nI (c + 1) from (tf_add (a := c) (b := 1) rfl (rfl : (1 : Int32) = nI 1))]
                              exact ihi (t - r1) (c + 1) (by omega) hi (fun _ => r0) (by omega) (by omega)
                            · refine tf_go hx ftX11_pauses 5 [true] 90 [some (.ref o), some (.int (nI b1)), some (.int (nI l1)), some (.int (nI r1)), some (.int 0), some (.int ((nI c) + 1)), some (.int (nI k)), some (.int (nI w))] [] S rfl ⟨by decide, by decide, rfl⟩ ⟨trivial, (tf_leT (a := t) (b := r1) rfl rfl (by omega) (by omega) (by omega))⟩ ?_
                              rw [show ((nI c) + 1) = nI (c + 1) from (tf_add (a := c) (b := 1) rfl (rfl : (1 : Int32) = nI 1))]
                              rw [show t - r1 = 0 by omega] at hi
                              exact ihi 0 (c + 1) (by omega) hi (fun _ => r0) (by omega) (by omega)
                          · rw [if_neg d3] at hi
                            refine tf_go hx ftX11_pauses 7 [true] 59 [some (.ref o), some (.int (nI b1)), some (.int (nI l1)), some (.int (nI r1)), some (.int ((nI t) + (nI w))), some (.int (nI c)), some (.int ((nI k) + 1)), some (.int (nI w))] [] S rfl ⟨by decide, by decide, rfl⟩ ⟨trivial, (tf_leT (a := (t + w)) (b := l1) rfl rfl (by omega) (by omega) (by omega))⟩ ?_
                            rw [show ((nI t) + (nI w)) = nI (t + w) from (tf_add (a := t) (b := w) rfl rfl)]
                            rw [show ((nI k) + 1) = nI (k + 1) from (tf_add (a := k) (b := 1) rfl (rfl : (1 : Int32) = nI 1))]
                            refine tf_fgt [some (.ref o), some (.int (nI b1)), some (.int (nI l1)), some (.int (nI r1)), some (.int (nI (t + w))), some (.int (nI c)), some (.int (nI (k + 1))), none] (by simp [tf_lss]) ?_
                            exact ih (k + 1) c (t + w) (by omega) (by rw [← hi] at he; exact he) (by omega) (by omega)
                      exact inner (y + 1) y n (by omega) rfl (fun h h2 => d2 ⟨h, h2⟩) (Nat.le_refl _) (Nat.le_refl _)
                · rw [if_neg d0] at he
                  refine tf_go hx ftX11_pauses 2 [true] 143 [some (.ref o), some (.int (nI b1)), some (.int (nI l1)), some (.int (nI r1)), some (.int (nI y)), some (.int (nI n)), some (.int (nI k)), none] [.int (nI n)] S rfl ⟨by decide, by decide, rfl⟩ ⟨trivial, (tf_leT (a := (A.1 364)) (b := k) rfl rfl (by have := hb 364; omega) (by have := hb 364; omega) (by have := hb 364; omega))⟩ ?_
                  exact tf_ret ftX11_pauses hR rfl ⟨by decide, by decide⟩ rfl rfl (by rw [← he]; show _ = [Value.int (tf_on 100000 n)]; rw [tf_on_y (by omega)])
            exact loop 41 0 0 0 (by omega) rfl (by omega) (by omega)
  · rw [if_neg (fun h => c0 h)]
    refine ⟨tf_rfS G S o 1, tf_Fn_of (own := RX11) false ⟨by decide, rfl, by decide⟩ (Nat.le_of_ble_eq_true rfl) trivial (fun x hx hR => ?_), tf_ms_ref ho hd hM 1, tf_fm_0⟩
    show tf_K x 0 0 G S 0 [some (.ref o), some (.int b), some (.int l), some (.int r), none, none, none, none] []
    refine tf_go hx ftX11_pauses 1 [] 1 [some (.ref o), some (.int b), some (.int l), some (.int r), none, none, none, none] [.int b] S rfl ⟨by decide, by decide, rfl⟩ trivial ?_
    refine tf_cS hx ftX11_pauses (nx := 4) (As := [.int b]) (rest := []) (st2 := [.int (if ¬ b < 0 ∧ ¬ 4 ≤ b then 1 else 0)]) (m_isBoard b) rfl lX11_40 rfl ⟨rfl, by decide, by decide, by decide, rfl, rfl⟩ ?_
    rw [if_neg c0]
    refine tf_go hx ftX11_pauses 1 [false] 7 [some (.ref o), some (.int b), some (.int l), some (.int r), none, none, none, none] [] S rfl ⟨by decide, by decide, rfl⟩ ⟨trivial, (by decide)⟩ ?_
    refine tf_go hx ftX11_pauses 2 [] 9 [some (.ref o), some (.int b), some (.int l), some (.int r), none, none, none, none] [.int (-1), .ref o] S rfl ⟨by decide, by decide, rfl⟩ trivial ?_
    refine tf_cV hx ftX11_pauses (nx := 12) (As := [.int (-1)]) (rest := []) (st2 := [.int (-1)]) (m_ref1 ho) rfl lX11_26 (by first | assumption | rfl | decide) rfl ⟨rfl, by decide, by decide, by decide, rfl, rfl⟩ ?_
    exact tf_ret ftX11_pauses hR rfl ⟨by decide, by decide⟩ rfl rfl rfl

theorem tf_smr (t k V : Nat) : ((nI t - nI (100 * k)) + (nI V - 100)) = nI (t + V) - nI (100 * (k + 1)) := by
  rw [show nI (t + V) = nI t + nI V from (nI_add t V).symm, show nI (100 * (k + 1)) = nI (100 * k) + 100 from by rw [Nat.mul_add, Nat.mul_one, ← nI_add]; rfl]
  grind

set_option maxHeartbeats 2000000 in
theorem p_summer {G : tf_G} {S : tf_Sg} {o : Nat} {A : tf_A} (st ep ga : Int32) (ho : tf_mo G o) (hd : tf_md G o) (hA : tf_okA A) (hM : tf_ms G S o A)  : tf_pm mX11_summer 2 G S o [.ref o, .int st, .int ep, .int ga] (s_summer A st ep ga) := by
  obtain ⟨h1, ⟨r0, t0, n0⟩, ⟨r1, t1, n1⟩, ⟨r2, t2, n2⟩, ⟨r4, t4, n4⟩⟩ := id ho
  obtain ⟨hg, hb, hA3, hA4, hA5, hA6⟩ := id hA
  have hs := hM.1
  have hf : tf_sf G S o A.1 := ⟨hM.1, hb⟩
  obtain ⟨⟨g1, g2, g3, g4⟩, g5, g6, g7, g8, g9, g10, g11⟩ := id hg
  unfold s_summer
  by_cases e1 : st < 0
  · rw [if_pos (Or.inl e1)]
    refine ⟨tf_rfS G S o 4, tf_Fn_of (own := RX11) false ⟨by decide, rfl, by decide⟩ (Nat.le_of_ble_eq_true rfl) trivial (fun x hx hR => ?_), tf_ms_ref ho hd hM 4, tf_fm_0⟩
    show tf_K x 0 0 G S 0 [some (.ref o), some (.int st), some (.int ep), some (.int ga), none, none, none] []
    refine tf_go hx ftX11_summer 1 [] 1 [some (.ref o), some (.int st), some (.int ep), some (.int ga), none, none, none] [.int st] S rfl ⟨by decide, by decide, rfl⟩ trivial ?_
    refine tf_go hx ftX11_summer 3 [true] 17 [some (.ref o), some (.int st), some (.int ep), some (.int ga), none, none, none] [.int (-4), .ref o] S rfl ⟨by decide, by decide, rfl⟩ ⟨trivial, e1⟩ ?_
    refine tf_cV hx ftX11_summer (nx := 20) (As := [.int (-4)]) (rest := []) (st2 := [.int (-4)]) (m_ref4 ho) rfl lX11_26 (by first | assumption | rfl | decide) rfl ⟨rfl, by decide, by decide, by decide, rfl, rfl⟩ ?_
    exact tf_ret ftX11_summer hR rfl ⟨by decide, by decide⟩ rfl rfl rfl
  · by_cases e2 : ep < 1
    · rw [if_pos (Or.inr (Or.inl e2))]
      refine ⟨tf_rfS G S o 4, tf_Fn_of (own := RX11) false ⟨by decide, rfl, by decide⟩ (Nat.le_of_ble_eq_true rfl) trivial (fun x hx hR => ?_), tf_ms_ref ho hd hM 4, tf_fm_0⟩
      show tf_K x 0 0 G S 0 [some (.ref o), some (.int st), some (.int ep), some (.int ga), none, none, none] []
      refine tf_go hx ftX11_summer 1 [] 1 [some (.ref o), some (.int st), some (.int ep), some (.int ga), none, none, none] [.int st] S rfl ⟨by decide, by decide, rfl⟩ trivial ?_
      refine tf_go hx ftX11_summer 1 [false] 4 [some (.ref o), some (.int st), some (.int ep), some (.int ga), none, none, none] [] S rfl ⟨by decide, by decide, rfl⟩ ⟨trivial, e1⟩ ?_
      refine tf_go hx ftX11_summer 2 [] 6 [some (.ref o), some (.int st), some (.int ep), some (.int ga), none, none, none] [.int 1, .int ep] S rfl ⟨by decide, by decide, rfl⟩ trivial ?_
      refine tf_go hx ftX11_summer 3 [true] 17 [some (.ref o), some (.int st), some (.int ep), some (.int ga), none, none, none] [.int (-4), .ref o] S rfl ⟨by decide, by decide, rfl⟩ ⟨trivial, e2⟩ ?_
      refine tf_cV hx ftX11_summer (nx := 20) (As := [.int (-4)]) (rest := []) (st2 := [.int (-4)]) (m_ref4 ho) rfl lX11_26 (by first | assumption | rfl | decide) rfl ⟨rfl, by decide, by decide, by decide, rfl, rfl⟩ ?_
      exact tf_ret ftX11_summer hR rfl ⟨by decide, by decide⟩ rfl rfl rfl
    · by_cases e3 : ga < 1
      · rw [if_pos (Or.inr (Or.inr e3))]
        refine ⟨tf_rfS G S o 4, tf_Fn_of (own := RX11) false ⟨by decide, rfl, by decide⟩ (Nat.le_of_ble_eq_true rfl) trivial (fun x hx hR => ?_), tf_ms_ref ho hd hM 4, tf_fm_0⟩
        show tf_K x 0 0 G S 0 [some (.ref o), some (.int st), some (.int ep), some (.int ga), none, none, none] []
        refine tf_go hx ftX11_summer 1 [] 1 [some (.ref o), some (.int st), some (.int ep), some (.int ga), none, none, none] [.int st] S rfl ⟨by decide, by decide, rfl⟩ trivial ?_
        refine tf_go hx ftX11_summer 1 [false] 4 [some (.ref o), some (.int st), some (.int ep), some (.int ga), none, none, none] [] S rfl ⟨by decide, by decide, rfl⟩ ⟨trivial, e1⟩ ?_
        refine tf_go hx ftX11_summer 2 [] 6 [some (.ref o), some (.int st), some (.int ep), some (.int ga), none, none, none] [.int 1, .int ep] S rfl ⟨by decide, by decide, rfl⟩ trivial ?_
        refine tf_go hx ftX11_summer 1 [false] 9 [some (.ref o), some (.int st), some (.int ep), some (.int ga), none, none, none] [] S rfl ⟨by decide, by decide, rfl⟩ ⟨trivial, e2⟩ ?_
        refine tf_go hx ftX11_summer 2 [] 11 [some (.ref o), some (.int st), some (.int ep), some (.int ga), none, none, none] [.int 1, .int ga] S rfl ⟨by decide, by decide, rfl⟩ trivial ?_
        refine tf_go hx ftX11_summer 3 [false] 17 [some (.ref o), some (.int st), some (.int ep), some (.int ga), none, none, none] [.int (-4), .ref o] S rfl ⟨by decide, by decide, rfl⟩ ⟨trivial, (Int32.not_le.mpr e3)⟩ ?_
        refine tf_cV hx ftX11_summer (nx := 20) (As := [.int (-4)]) (rest := []) (st2 := [.int (-4)]) (m_ref4 ho) rfl lX11_26 (by first | assumption | rfl | decide) rfl ⟨rfl, by decide, by decide, by decide, rfl, rfl⟩ ?_
        exact tf_ret ftX11_summer hR rfl ⟨by decide, by decide⟩ rfl rfl rfl
      · rw [if_neg (by rintro (h | h | h); exact e1 h; exact e2 h; exact e3 h)]
        by_cases f1 : 99 < st
        · rw [if_pos (Or.inl f1)]
          refine ⟨tf_rfS G S o 6, tf_Fn_of (own := RX11) false ⟨by decide, rfl, by decide⟩ (Nat.le_of_ble_eq_true rfl) trivial (fun x hx hR => ?_), tf_ms_ref ho hd hM 6, tf_fm_0⟩
          show tf_K x 0 0 G S 0 [some (.ref o), some (.int st), some (.int ep), some (.int ga), none, none, none] []
          refine tf_go hx ftX11_summer 1 [] 1 [some (.ref o), some (.int st), some (.int ep), some (.int ga), none, none, none] [.int st] S rfl ⟨by decide, by decide, rfl⟩ trivial ?_
          refine tf_go hx ftX11_summer 1 [false] 4 [some (.ref o), some (.int st), some (.int ep), some (.int ga), none, none, none] [] S rfl ⟨by decide, by decide, rfl⟩ ⟨trivial, e1⟩ ?_
          refine tf_go hx ftX11_summer 2 [] 6 [some (.ref o), some (.int st), some (.int ep), some (.int ga), none, none, none] [.int 1, .int ep] S rfl ⟨by decide, by decide, rfl⟩ trivial ?_
          refine tf_go hx ftX11_summer 1 [false] 9 [some (.ref o), some (.int st), some (.int ep), some (.int ga), none, none, none] [] S rfl ⟨by decide, by decide, rfl⟩ ⟨trivial, e2⟩ ?_
          refine tf_go hx ftX11_summer 2 [] 11 [some (.ref o), some (.int st), some (.int ep), some (.int ga), none, none, none] [.int 1, .int ga] S rfl ⟨by decide, by decide, rfl⟩ trivial ?_
          refine tf_go hx ftX11_summer 1 [true] 21 [some (.ref o), some (.int st), some (.int ep), some (.int ga), none, none, none] [] S rfl ⟨by decide, by decide, rfl⟩ ⟨trivial, (Int32.not_lt.mp e3)⟩ ?_
          refine tf_go hx ftX11_summer 2 [] 24 [some (.ref o), some (.int st), some (.int ep), some (.int ga), none, none, none] [.int 99, .int st] S rfl ⟨by decide, by decide, rfl⟩ trivial ?_
          refine tf_go hx ftX11_summer 3 [true] 42 [some (.ref o), some (.int st), some (.int ep), some (.int ga), none, none, none] [.int (-6), .ref o] S rfl ⟨by decide, by decide, rfl⟩ ⟨trivial, f1⟩ ?_
          refine tf_cV hx ftX11_summer (nx := 45) (As := [.int (-6)]) (rest := []) (st2 := [.int (-6)]) (m_ref6 ho) rfl lX11_26 (by first | assumption | rfl | decide) rfl ⟨rfl, by decide, by decide, by decide, rfl, rfl⟩ ?_
          exact tf_ret ftX11_summer hR rfl ⟨by decide, by decide⟩ rfl rfl rfl
        · by_cases f2 : 50 < ep
          · rw [if_pos (Or.inr (Or.inl f2))]
            refine ⟨tf_rfS G S o 6, tf_Fn_of (own := RX11) false ⟨by decide, rfl, by decide⟩ (Nat.le_of_ble_eq_true rfl) trivial (fun x hx hR => ?_), tf_ms_ref ho hd hM 6, tf_fm_0⟩
            show tf_K x 0 0 G S 0 [some (.ref o), some (.int st), some (.int ep), some (.int ga), none, none, none] []
            refine tf_go hx ftX11_summer 1 [] 1 [some (.ref o), some (.int st), some (.int ep), some (.int ga), none, none, none] [.int st] S rfl ⟨by decide, by decide, rfl⟩ trivial ?_
            refine tf_go hx ftX11_summer 1 [false] 4 [some (.ref o), some (.int st), some (.int ep), some (.int ga), none, none, none] [] S rfl ⟨by decide, by decide, rfl⟩ ⟨trivial, e1⟩ ?_
            refine tf_go hx ftX11_summer 2 [] 6 [some (.ref o), some (.int st), some (.int ep), some (.int ga), none, none, none] [.int 1, .int ep] S rfl ⟨by decide, by decide, rfl⟩ trivial ?_
            refine tf_go hx ftX11_summer 1 [false] 9 [some (.ref o), some (.int st), some (.int ep), some (.int ga), none, none, none] [] S rfl ⟨by decide, by decide, rfl⟩ ⟨trivial, e2⟩ ?_
            refine tf_go hx ftX11_summer 2 [] 11 [some (.ref o), some (.int st), some (.int ep), some (.int ga), none, none, none] [.int 1, .int ga] S rfl ⟨by decide, by decide, rfl⟩ trivial ?_
            refine tf_go hx ftX11_summer 1 [true] 21 [some (.ref o), some (.int st), some (.int ep), some (.int ga), none, none, none] [] S rfl ⟨by decide, by decide, rfl⟩ ⟨trivial, (Int32.not_lt.mp e3)⟩ ?_
            refine tf_go hx ftX11_summer 2 [] 24 [some (.ref o), some (.int st), some (.int ep), some (.int ga), none, none, none] [.int 99, .int st] S rfl ⟨by decide, by decide, rfl⟩ trivial ?_
            refine tf_go hx ftX11_summer 1 [false] 27 [some (.ref o), some (.int st), some (.int ep), some (.int ga), none, none, none] [] S rfl ⟨by decide, by decide, rfl⟩ ⟨trivial, f1⟩ ?_
            refine tf_go hx ftX11_summer 2 [] 30 [some (.ref o), some (.int st), some (.int ep), some (.int ga), none, none, none] [.int 50, .int ep] S rfl ⟨by decide, by decide, rfl⟩ trivial ?_
            refine tf_go hx ftX11_summer 3 [true] 42 [some (.ref o), some (.int st), some (.int ep), some (.int ga), none, none, none] [.int (-6), .ref o] S rfl ⟨by decide, by decide, rfl⟩ ⟨trivial, f2⟩ ?_
            refine tf_cV hx ftX11_summer (nx := 45) (As := [.int (-6)]) (rest := []) (st2 := [.int (-6)]) (m_ref6 ho) rfl lX11_26 (by first | assumption | rfl | decide) rfl ⟨rfl, by decide, by decide, by decide, rfl, rfl⟩ ?_
            exact tf_ret ftX11_summer hR rfl ⟨by decide, by decide⟩ rfl rfl rfl
          · by_cases f3 : 50 < ga
            · rw [if_pos (Or.inr (Or.inr f3))]
              refine ⟨tf_rfS G S o 6, tf_Fn_of (own := RX11) false ⟨by decide, rfl, by decide⟩ (Nat.le_of_ble_eq_true rfl) trivial (fun x hx hR => ?_), tf_ms_ref ho hd hM 6, tf_fm_0⟩
              show tf_K x 0 0 G S 0 [some (.ref o), some (.int st), some (.int ep), some (.int ga), none, none, none] []
              refine tf_go hx ftX11_summer 1 [] 1 [some (.ref o), some (.int st), some (.int ep), some (.int ga), none, none, none] [.int st] S rfl ⟨by decide, by decide, rfl⟩ trivial ?_
              refine tf_go hx ftX11_summer 1 [false] 4 [some (.ref o), some (.int st), some (.int ep), some (.int ga), none, none, none] [] S rfl ⟨by decide, by decide, rfl⟩ ⟨trivial, e1⟩ ?_
              refine tf_go hx ftX11_summer 2 [] 6 [some (.ref o), some (.int st), some (.int ep), some (.int ga), none, none, none] [.int 1, .int ep] S rfl ⟨by decide, by decide, rfl⟩ trivial ?_
              refine tf_go hx ftX11_summer 1 [false] 9 [some (.ref o), some (.int st), some (.int ep), some (.int ga), none, none, none] [] S rfl ⟨by decide, by decide, rfl⟩ ⟨trivial, e2⟩ ?_
              refine tf_go hx ftX11_summer 2 [] 11 [some (.ref o), some (.int st), some (.int ep), some (.int ga), none, none, none] [.int 1, .int ga] S rfl ⟨by decide, by decide, rfl⟩ trivial ?_
              refine tf_go hx ftX11_summer 1 [true] 21 [some (.ref o), some (.int st), some (.int ep), some (.int ga), none, none, none] [] S rfl ⟨by decide, by decide, rfl⟩ ⟨trivial, (Int32.not_lt.mp e3)⟩ ?_
              refine tf_go hx ftX11_summer 2 [] 24 [some (.ref o), some (.int st), some (.int ep), some (.int ga), none, none, none] [.int 99, .int st] S rfl ⟨by decide, by decide, rfl⟩ trivial ?_
              refine tf_go hx ftX11_summer 1 [false] 27 [some (.ref o), some (.int st), some (.int ep), some (.int ga), none, none, none] [] S rfl ⟨by decide, by decide, rfl⟩ ⟨trivial, f1⟩ ?_
              refine tf_go hx ftX11_summer 2 [] 30 [some (.ref o), some (.int st), some (.int ep), some (.int ga), none, none, none] [.int 50, .int ep] S rfl ⟨by decide, by decide, rfl⟩ trivial ?_
              refine tf_go hx ftX11_summer 1 [false] 33 [some (.ref o), some (.int st), some (.int ep), some (.int ga), none, none, none] [] S rfl ⟨by decide, by decide, rfl⟩ ⟨trivial, f2⟩ ?_
              refine tf_go hx ftX11_summer 2 [] 36 [some (.ref o), some (.int st), some (.int ep), some (.int ga), none, none, none] [.int 50, .int ga] S rfl ⟨by decide, by decide, rfl⟩ trivial ?_
              refine tf_go hx ftX11_summer 3 [false] 42 [some (.ref o), some (.int st), some (.int ep), some (.int ga), none, none, none] [.int (-6), .ref o] S rfl ⟨by decide, by decide, rfl⟩ ⟨trivial, (Int32.not_le.mpr f3)⟩ ?_
              refine tf_cV hx ftX11_summer (nx := 45) (As := [.int (-6)]) (rest := []) (st2 := [.int (-6)]) (m_ref6 ho) rfl lX11_26 (by first | assumption | rfl | decide) rfl ⟨rfl, by decide, by decide, by decide, rfl, rfl⟩ ?_
              exact tf_ret ftX11_summer hR rfl ⟨by decide, by decide⟩ rfl rfl rfl
            · rw [if_neg (by rintro (h | h | h); exact f1 h; exact f2 h; exact f3 h)]
              obtain ⟨st1, st1_le, st1_eq⟩ := nI_of2 (M := 99) (n := 99) (x := st) (by decide) e1 (Int32.not_lt.mp f1)
              obtain ⟨ep1, ep1_le, ep1_eq⟩ := nI_of2 (M := 50) (n := 50) (x := ep) (by decide) (fun h => e2 (Int32.lt_trans h (by decide))) (Int32.not_lt.mp f2)
              obtain ⟨ga1, ga1_le, ga1_eq⟩ := nI_of2 (M := 50) (n := 50) (x := ga) (by decide) (fun h => e3 (Int32.lt_trans h (by decide))) (Int32.not_lt.mp f3)
              subst st1_eq
              subst ep1_eq
              subst ga1_eq
              rw [tf_cl_nI (show st1 < 2147483648 by omega), tf_cl_nI (show ep1 < 2147483648 by omega), tf_cl_nI (show ga1 < 2147483648 by omega)]
              refine ⟨S, tf_Fn_of (own := RX11) false ⟨by decide, rfl, by decide⟩ (Nat.le_of_ble_eq_true rfl) trivial (fun x hx hR => ?_), hM, tf_fm_id⟩
              show tf_K x 0 0 G S 0 [some (.ref o), some (.int (nI st1)), some (.int (nI ep1)), some (.int (nI ga1)), none, none, none] []
              refine tf_go hx ftX11_summer 1 [] 1 [some (.ref o), some (.int (nI st1)), some (.int (nI ep1)), some (.int (nI ga1)), none, none, none] [.int (nI st1)] S rfl ⟨by decide, by decide, rfl⟩ trivial ?_
              refine tf_go hx ftX11_summer 1 [false] 4 [some (.ref o), some (.int (nI st1)), some (.int (nI ep1)), some (.int (nI ga1)), none, none, none] [] S rfl ⟨by decide, by decide, rfl⟩ ⟨trivial, e1⟩ ?_
              refine tf_go hx ftX11_summer 2 [] 6 [some (.ref o), some (.int (nI st1)), some (.int (nI ep1)), some (.int (nI ga1)), none, none, none] [.int 1, .int (nI ep1)] S rfl ⟨by decide, by decide, rfl⟩ trivial ?_
              refine tf_go hx ftX11_summer 1 [false] 9 [some (.ref o), some (.int (nI st1)), some (.int (nI ep1)), some (.int (nI ga1)), none, none, none] [] S rfl ⟨by decide, by decide, rfl⟩ ⟨trivial, e2⟩ ?_
              refine tf_go hx ftX11_summer 2 [] 11 [some (.ref o), some (.int (nI st1)), some (.int (nI ep1)), some (.int (nI ga1)), none, none, none] [.int 1, .int (nI ga1)] S rfl ⟨by decide, by decide, rfl⟩ trivial ?_
              refine tf_go hx ftX11_summer 1 [true] 21 [some (.ref o), some (.int (nI st1)), some (.int (nI ep1)), some (.int (nI ga1)), none, none, none] [] S rfl ⟨by decide, by decide, rfl⟩ ⟨trivial, (Int32.not_lt.mp e3)⟩ ?_
              refine tf_go hx ftX11_summer 2 [] 24 [some (.ref o), some (.int (nI st1)), some (.int (nI ep1)), some (.int (nI ga1)), none, none, none] [.int 99, .int (nI st1)] S rfl ⟨by decide, by decide, rfl⟩ trivial ?_
              refine tf_go hx ftX11_summer 1 [false] 27 [some (.ref o), some (.int (nI st1)), some (.int (nI ep1)), some (.int (nI ga1)), none, none, none] [] S rfl ⟨by decide, by decide, rfl⟩ ⟨trivial, f1⟩ ?_
              refine tf_go hx ftX11_summer 2 [] 30 [some (.ref o), some (.int (nI st1)), some (.int (nI ep1)), some (.int (nI ga1)), none, none, none] [.int 50, .int (nI ep1)] S rfl ⟨by decide, by decide, rfl⟩ trivial ?_
              refine tf_go hx ftX11_summer 1 [false] 33 [some (.ref o), some (.int (nI st1)), some (.int (nI ep1)), some (.int (nI ga1)), none, none, none] [] S rfl ⟨by decide, by decide, rfl⟩ ⟨trivial, f2⟩ ?_
              refine tf_go hx ftX11_summer 2 [] 36 [some (.ref o), some (.int (nI st1)), some (.int (nI ep1)), some (.int (nI ga1)), none, none, none] [.int 50, .int (nI ga1)] S rfl ⟨by decide, by decide, rfl⟩ trivial ?_
              refine tf_go hx ftX11_summer 5 [true] 52 [some (.ref o), some (.int (nI st1)), some (.int (nI ep1)), some (.int (nI ga1)), some (.int 0), some (.int 0), none] [] S rfl ⟨by decide, by decide, rfl⟩ ⟨trivial, (Int32.not_lt.mp f3)⟩ ?_
              refine tf_fgt [some (.ref o), some (.int (nI st1)), some (.int (nI ep1)), some (.int (nI ga1)), some (.int 0), some (.int 0), none] (by simp [tf_lss]) ?_
              have loop : ∀ (m k : Nat) (t : Nat), k + m = 999 → (tf_su st1 ep1 ga1 m k t = tf_su st1 ep1 ga1 999 0 0) → (t ≤ 150 * k) → tf_K x 0 0 G S 52 [some (.ref o), some (.int (nI st1)), some (.int (nI ep1)), some (.int (nI ga1)), some (.int ((nI t) - (nI (100 * k)))), some (.int (nI k)), none] [] := by
                intro m
                induction m with
                | zero =>
                  intro k t hk he ht
                  refine tf_go hx ftX11_summer 2 [] 57 [some (.ref o), some (.int (nI st1)), some (.int (nI ep1)), some (.int (nI ga1)), some (.int ((nI t) - (nI (100 * k)))), some (.int (nI k)), none] [.int 999, .int (nI k)] S rfl ⟨by decide, by decide, rfl⟩ trivial ?_
                  refine tf_go hx ftX11_summer 2 [true] 110 [some (.ref o), some (.int (nI st1)), some (.int (nI ep1)), some (.int (nI ga1)), some (.int ((nI t) - (nI (100 * k)))), some (.int (nI k)), none] [.int (-9)] S rfl ⟨by decide, by decide, rfl⟩ ⟨trivial, (tf_leT (a := 999) (b := k) (rfl : (999 : Int32) = nI 999) rfl (by omega) (by omega) (by omega))⟩ ?_
                  exact tf_ret ftX11_summer hR rfl ⟨by decide, by decide⟩ rfl rfl (by rw [← he]; show _ = [Value.int (tf_on 999 k)]; rw [tf_on_n (by omega)])
                | succ m ih =>
                  intro k t hk he ht
                  rw [tf_su_s] at he
                  have km := Nat.mul_le_mul (show k ≤ 999 by omega) ep1_le
                  refine tf_go hx ftX11_summer 2 [] 57 [some (.ref o), some (.int (nI st1)), some (.int (nI ep1)), some (.int (nI ga1)), some (.int ((nI t) - (nI (100 * k)))), some (.int (nI k)), none] [.int 999, .int (nI k)] S rfl ⟨by decide, by decide, rfl⟩ trivial ?_
                  refine tf_go hx ftX11_summer 1 [false] 60 [some (.ref o), some (.int (nI st1)), some (.int (nI ep1)), some (.int (nI ga1)), some (.int ((nI t) - (nI (100 * k)))), some (.int (nI k)), none] [] S rfl ⟨by decide, by decide, rfl⟩ ⟨trivial, (tf_leF (a := 999) (b := k) (rfl : (999 : Int32) = nI 999) rfl (by omega) (by omega) (by omega))⟩ ?_
                  refine tf_go hx ftX11_summer 11 [] 76 [some (.ref o), some (.int (nI st1)), some (.int (nI ep1)), some (.int (nI ga1)), some (.int ((nI t) - (nI (100 * k)))), some (.int (nI k)), some (.int ((nI st1) + ((nI k) * (nI ep1))))] [.int (100 + (nI ga1)), .int ((nI st1) + ((nI k) * (nI ep1))), .int ((nI t) - (nI (100 * k)))] S rfl ⟨by decide, by decide, rfl⟩ trivial ?_
                  rw [show ((nI st1) + ((nI k) * (nI ep1))) = nI (st1 + (k * ep1)) from (tf_add (a := st1) (b := (k * ep1)) rfl (tf_mul (a := k) (b := ep1) rfl rfl))]
                  rw [show (100 + (nI ga1)) = nI (100 + ga1) from (tf_add (a := 100) (b := ga1) (rfl : (100 : Int32) = nI 100) rfl)]
                  by_cases d1 : 100 + ga1 < st1 + k * ep1
                  · refine tf_go hx ftX11_summer 1 [false] 79 [some (.ref o), some (.int (nI st1)), some (.int (nI ep1)), some (.int (nI ga1)), some (.int ((nI t) - (nI (100 * k)))), some (.int (nI k)), some (.int (nI (st1 + (k * ep1))))] [.int ((nI t) - (nI (100 * k)))] S rfl ⟨by decide, by decide, rfl⟩ ⟨trivial, (tf_leF (a := (st1 + (k * ep1))) (b := (100 + ga1)) rfl rfl (by omega) (by omega) (by omega))⟩ ?_
                    rw [if_pos d1] at he
                    refine tf_go hx ftX11_summer 9 [] 96 [some (.ref o), some (.int (nI st1)), some (.int (nI ep1)), some (.int (nI ga1)), some (.int (((nI t) - (nI (100 * k))) + ((100 + (nI ga1)) - 100))), some (.int (nI k)), some (.int (nI (st1 + (k * ep1))))] [.int (((nI t) - (nI (100 * k))) + ((100 + (nI ga1)) - 100))] S rfl ⟨by decide, by decide, rfl⟩ trivial ?_
                    rw [show (100 + (nI ga1)) = nI (100 + ga1) from (tf_add (a := 100) (b := ga1) (rfl : (100 : Int32) = nI 100) rfl)]
                    rw [show (((nI t) - (nI (100 * k))) + ((nI ((100 + ga1))) - 100)) = (nI (t + (100 + ga1))) - (nI (100 * (k + 1))) from tf_smr t k ((100 + ga1))]
                    by_cases d2 : 100 * (k + 1) ≤ t + (100 + ga1)
                    · rw [if_pos d2] at he
                      refine tf_go hx ftX11_summer 2 [false] 101 [some (.ref o), some (.int (nI st1)), some (.int (nI ep1)), some (.int (nI ga1)), some (.int ((nI (t + (100 + ga1))) - (nI (100 * (k + 1))))), some (.int (nI k)), some (.int (nI (st1 + (k * ep1))))] [.int (nI k)] S rfl ⟨by decide, by decide, rfl⟩ ⟨trivial, (by rw [pk_sub d2]; exact nI_pos (by omega))⟩ ?_
                      exact tf_ret ftX11_summer hR rfl ⟨by decide, by decide⟩ rfl rfl (by rw [← he]; show _ = [Value.int (tf_on 999 k)]; rw [tf_on_y (by omega)])
                    · rw [if_neg d2] at he
                      refine tf_go hx ftX11_summer 3 [true] 52 [some (.ref o), some (.int (nI st1)), some (.int (nI ep1)), some (.int (nI ga1)), some (.int ((nI (t + (100 + ga1))) - (nI (100 * (k + 1))))), some (.int ((nI k) + 1)), some (.int (nI (st1 + (k * ep1))))] [] S rfl ⟨by decide, by decide, rfl⟩ ⟨trivial, (pk_sneg (by omega) (by omega))⟩ ?_
                      rw [show ((nI k) + 1) = nI (k + 1) from (tf_add (a := k) (b := 1) rfl (rfl : (1 : Int32) = nI 1))]
                      refine tf_fgt [some (.ref o), some (.int (nI st1)), some (.int (nI ep1)), some (.int (nI ga1)), some (.int ((nI (t + (100 + ga1))) - (nI (100 * (k + 1))))), some (.int (nI (k + 1))), none] (by simp [tf_lss]) ?_
                      exact ih (k + 1) (t + (100 + ga1)) (by omega) he (by omega)
                  · refine tf_go hx ftX11_summer 1 [true] 86 [some (.ref o), some (.int (nI st1)), some (.int (nI ep1)), some (.int (nI ga1)), some (.int ((nI t) - (nI (100 * k)))), some (.int (nI k)), some (.int (nI (st1 + (k * ep1))))] [.int ((nI t) - (nI (100 * k)))] S rfl ⟨by decide, by decide, rfl⟩ ⟨trivial, (tf_leT (a := (st1 + (k * ep1))) (b := (100 + ga1)) rfl rfl (by omega) (by omega) (by omega))⟩ ?_
                    rw [if_neg d1] at he
                    refine tf_go hx ftX11_summer 6 [] 96 [some (.ref o), some (.int (nI st1)), some (.int (nI ep1)), some (.int (nI ga1)), some (.int (((nI t) - (nI (100 * k))) + ((nI (st1 + (k * ep1))) - 100))), some (.int (nI k)), some (.int (nI (st1 + (k * ep1))))] [.int (((nI t) - (nI (100 * k))) + ((nI (st1 + (k * ep1))) - 100))] S rfl ⟨by decide, by decide, rfl⟩ trivial ?_
                    rw [show (((nI t) - (nI (100 * k))) + ((nI ((st1 + k * ep1))) - 100)) = (nI (t + (st1 + k * ep1))) - (nI (100 * (k + 1))) from tf_smr t k ((st1 + k * ep1))]
                    by_cases d2 : 100 * (k + 1) ≤ t + (st1 + k * ep1)
                    · rw [if_pos d2] at he
                      refine tf_go hx ftX11_summer 2 [false] 101 [some (.ref o), some (.int (nI st1)), some (.int (nI ep1)), some (.int (nI ga1)), some (.int ((nI (t + (st1 + k * ep1))) - (nI (100 * (k + 1))))), some (.int (nI k)), some (.int (nI (st1 + (k * ep1))))] [.int (nI k)] S rfl ⟨by decide, by decide, rfl⟩ ⟨trivial, (by rw [pk_sub d2]; exact nI_pos (by omega))⟩ ?_
                      exact tf_ret ftX11_summer hR rfl ⟨by decide, by decide⟩ rfl rfl (by rw [← he]; show _ = [Value.int (tf_on 999 k)]; rw [tf_on_y (by omega)])
                    · rw [if_neg d2] at he
                      refine tf_go hx ftX11_summer 3 [true] 52 [some (.ref o), some (.int (nI st1)), some (.int (nI ep1)), some (.int (nI ga1)), some (.int ((nI (t + (st1 + k * ep1))) - (nI (100 * (k + 1))))), some (.int ((nI k) + 1)), some (.int (nI (st1 + (k * ep1))))] [] S rfl ⟨by decide, by decide, rfl⟩ ⟨trivial, (pk_sneg (by omega) (by omega))⟩ ?_
                      rw [show ((nI k) + 1) = nI (k + 1) from (tf_add (a := k) (b := 1) rfl (rfl : (1 : Int32) = nI 1))]
                      refine tf_fgt [some (.ref o), some (.int (nI st1)), some (.int (nI ep1)), some (.int (nI ga1)), some (.int ((nI (t + (st1 + k * ep1))) - (nI (100 * (k + 1))))), some (.int (nI (k + 1))), none] (by simp [tf_lss]) ?_
                      exact ih (k + 1) (t + (st1 + k * ep1)) (by omega) he (by omega)
              exact loop 999 0 0 rfl rfl (by omega)

theorem tf_ms_im {G : tf_G} {S : tf_Sg} {o : Nat} {A : tf_A} (ho : tf_mo G o) (hd : tf_md G o) (h : tf_ms G S o A) : tf_ms G (tf_set (tf_rw S (tf_rf G o 2) (tf_mx A.1 A.2.2.2.2.1 368)) o 3 1) o (A.1, A.2.1, A.2.2.1, A.2.2.2.1, tf_mx A.1 A.2.2.2.2.1 368, 1) := by
  obtain ⟨a1, a2, a3, a4, a5, a6⟩ := h
  obtain ⟨n0, n1, n2, n4⟩ := tf_mo_ne ho
  obtain ⟨d1, d2, d3, d4, d5, d6⟩ := hd
  refine ⟨fun j => ?_, fun j => ?_, ?_, fun j => ?_, fun j => ?_, ?_⟩
  · rw [tf_set_n n1, tf_rw_n d4]; exact a1 j
  · rw [tf_set_n n4, tf_rw_n (Ne.symm d6)]; exact a2 j
  · rw [tf_set_k (by decide), tf_rw_n (Ne.symm n2)]; exact a3
  · rw [tf_set_n n0, tf_rw_n d2]; exact a4 j
  · rw [tf_set_n n2]; exact tf_rw_a j
  · rw [tf_set_s]; rfl

set_option maxHeartbeats 2000000 in
theorem p_image {G : tf_G} {S : tf_Sg} {o : Nat} {A : tf_A}  (ho : tf_mo G o) (hd : tf_md G o) (hA : tf_okA A) (hM : tf_ms G S o A)  : tf_pm mX11_image 1 G S o [.ref o] (s_image A) := by
  obtain ⟨h1, ⟨r0, t0, n0⟩, ⟨r1, t1, n1⟩, ⟨r2, t2, n2⟩, ⟨r4, t4, n4⟩⟩ := id ho
  obtain ⟨hg, hb, hA3, hA4, hA5, hA6⟩ := id hA
  have hs := hM.1
  have hf : tf_sf G S o A.1 := ⟨hM.1, hb⟩
  obtain ⟨⟨g1, g2, g3, g4⟩, g5, g6, g7, g8, g9, g10, g11⟩ := id hg
  obtain ⟨z0, z1, z2, z4⟩ := tf_mo_ne ho
  obtain ⟨m01, m02, m04, m12, m14, m24⟩ := id hd
  unfold s_image
  refine ⟨(tf_set (tf_rw S (tf_rf G o 2) (tf_mx A.1 A.2.2.2.2.1 368)) o 3 1), tf_Fn_of (own := RX11) false ⟨by decide, rfl, by decide⟩ (Nat.le_of_ble_eq_true rfl) trivial (fun x hx hR => ?_), tf_ms_im ho hd hM, (tf_fm_tr tf_fm_2 tf_fm_o)⟩
  show tf_K x 0 0 G S 0 [some (.ref o), none] []
  refine tf_go hx ftX11_image 2 [] 2 [some (.ref o), some (.int 0)] [] S rfl ⟨by decide, by decide, rfl⟩ trivial ?_
  refine tf_fgt [some (.ref o), some (.int 0)] (by simp [tf_lss]) ?_
  have hid : tf_rw S (tf_rf G o 2) A.2.2.2.2.1 = S := tf_rw_id hM.2.2.2.2.1
  have loop : ∀ (m k : Nat), k + m = 368 → tf_K x 0 0 G (tf_rw S (tf_rf G o 2) (tf_mx A.1 A.2.2.2.2.1 k)) 2 [some (.ref o), some (.int (nI k))] [] := by
    intro m
    induction m with
    | zero =>
      intro k hk
      have hk2 : k = 368 := by omega
      refine tf_go hx ftX11_image 2 [] 6 [some (.ref o), some (.int (nI k))] [.int 368, .int (nI k)] (tf_rw S (tf_rf G o 2) (tf_mx A.1 A.2.2.2.2.1 k)) rfl ⟨by decide, by decide, rfl⟩ trivial ?_
      refine tf_go hx ftX11_image 1 [true] 27 [some (.ref o), some (.int (nI k))] [] (tf_rw S (tf_rf G o 2) (tf_mx A.1 A.2.2.2.2.1 k)) rfl ⟨by decide, by decide, rfl⟩ ⟨trivial, (tf_leT (a := 368) (b := k) (rfl : (368 : Int32) = nI 368) rfl (by omega) (by omega) (by omega))⟩ ?_
      rw [show k = 368 by omega]
      refine tf_go hx ftX11_image 3 [] 32 [some (.ref o), some (.int (nI 368))] [] (tf_set (tf_rw S (tf_rf G o 2) (tf_mx A.1 A.2.2.2.2.1 368)) o 3 1) rfl ⟨by decide, by decide, rfl⟩ ⟨trivial, ⟨by first | assumption | rfl | decide | omega, by first | exact Or.inl rfl | exact Or.inr rfl⟩⟩ ?_
      have rr : ∀ j, (tf_set (tf_rw S (tf_rf G o 2) (tf_mx A.1 A.2.2.2.2.1 368)) o 3 1) (tf_rf G o 1) j = nI (A.1 j) := fun j => by rw [tf_set_n z1, tf_rw_n m12]; exact hs j
      refine tf_go hx ftX11_image 4 [] 40 [some (.ref o), some (.int (nI 368))] [.int ((tf_set (tf_rw S (tf_rf G o 2) (tf_mx A.1 A.2.2.2.2.1 368)) o 3 1) (tf_rf G o 1) (Int32.toNatClampNeg 366))] (tf_set (tf_rw S (tf_rf G o 2) (tf_mx A.1 A.2.2.2.2.1 368)) o 3 1) rfl ⟨by decide, by decide, rfl⟩ ⟨⟨trivial, ⟨by first | assumption | rfl | decide | omega, by first | assumption | rfl | decide | omega⟩⟩, ⟨Or.inl (by first | assumption | rfl | decide | omega), by first | assumption | exact tf_in (n := 366) (rfl : (366 : Int32) = nI 366) (by first | assumption | rfl) (by omega) (by decide)⟩⟩ ?_
      rw [show ((tf_set (tf_rw S (tf_rf G o 2) (tf_mx A.1 A.2.2.2.2.1 368)) o 3 1) (tf_rf G o 1) (Int32.toNatClampNeg 366)) = nI (A.1 366) from (tf_rd rr (rfl : (366 : Int32) = nI 366) (by omega))]
      exact tf_ret ftX11_image hR rfl ⟨by decide, by decide⟩ rfl rfl rfl
    | succ m ih =>
      intro k hk
      have rr : ∀ j, (tf_rw S (tf_rf G o 2) (tf_mx A.1 A.2.2.2.2.1 k)) (tf_rf G o 1) j = nI (A.1 j) := fun j => by rw [tf_rw_n m12]; exact hs j
      refine tf_go hx ftX11_image 2 [] 6 [some (.ref o), some (.int (nI k))] [.int 368, .int (nI k)] (tf_rw S (tf_rf G o 2) (tf_mx A.1 A.2.2.2.2.1 k)) rfl ⟨by decide, by decide, rfl⟩ trivial ?_
      refine tf_go hx ftX11_image 1 [false] 9 [some (.ref o), some (.int (nI k))] [] (tf_rw S (tf_rf G o 2) (tf_mx A.1 A.2.2.2.2.1 k)) rfl ⟨by decide, by decide, rfl⟩ ⟨trivial, (tf_leF (a := 368) (b := k) (rfl : (368 : Int32) = nI 368) rfl (by omega) (by omega) (by omega))⟩ ?_
      refine tf_go hx ftX11_image 7 [] 20 [some (.ref o), some (.int (nI k))] [.int ((tf_rw S (tf_rf G o 2) (tf_mx A.1 A.2.2.2.2.1 k)) (tf_rf G o 1) (Int32.toNatClampNeg (nI k))), .int (nI k), .ref (tf_rf G o 2)] (tf_rw S (tf_rf G o 2) (tf_mx A.1 A.2.2.2.2.1 k)) rfl ⟨by decide, by decide, rfl⟩ ⟨⟨⟨trivial, ⟨by first | assumption | rfl | decide | omega, by first | assumption | rfl | decide | omega⟩⟩, ⟨by first | assumption | rfl | decide | omega, by first | assumption | rfl | decide | omega⟩⟩, ⟨Or.inl (by first | assumption | rfl | decide | omega), by first | assumption | exact tf_in (n := k) rfl (by first | assumption | rfl) (by omega) (by decide)⟩⟩ ?_
      rw [show ((tf_rw S (tf_rf G o 2) (tf_mx A.1 A.2.2.2.2.1 k)) (tf_rf G o 1) (Int32.toNatClampNeg (nI k))) = nI (A.1 k) from (tf_rd rr rfl (by omega))]
      refine tf_go hx ftX11_image 1 [] 21 [some (.ref o), some (.int (nI k))] [] (tf_set (tf_rw S (tf_rf G o 2) (tf_mx A.1 A.2.2.2.2.1 k)) (tf_rf G o 2) (Int32.toNatClampNeg (nI k)) (nI (A.1 k))) rfl ⟨by decide, by decide, rfl⟩ ⟨trivial, ⟨by first | assumption | rfl | decide | omega, by first | assumption | exact tf_in (n := k) rfl (by first | assumption | rfl) (by omega) (by decide)⟩⟩ ?_
      rw [show Int32.toNatClampNeg (nI k) = k from tf_cln rfl (by omega)]
      rw [tf_rw_u2, tf_mx_s]
      refine tf_go hx ftX11_image 2 [] 2 [some (.ref o), some (.int ((nI k) + 1))] [] (tf_rw S (tf_rf G o 2) (tf_mx A.1 A.2.2.2.2.1 (k + 1))) rfl ⟨by decide, by decide, rfl⟩ trivial ?_
      rw [show ((nI k) + 1) = nI (k + 1) from (tf_add (a := k) (b := 1) rfl (rfl : (1 : Int32) = nI 1))]
      exact ih (k + 1) (by omega)
  have h0 := loop 368 0 rfl
  rw [tf_mx_0, hid] at h0
  exact h0

set_option maxHeartbeats 2000000 in
theorem p_on {G : tf_G} {S : tf_Sg} {o : Nat} {A : tf_A}  (ho : tf_mo G o) (hd : tf_md G o) (hA : tf_okA A) (hM : tf_ms G S o A)  : tf_pm mX11_on 2 G S o [.ref o] (s_on A) := by
  obtain ⟨h1, ⟨r0, t0, n0⟩, ⟨r1, t1, n1⟩, ⟨r2, t2, n2⟩, ⟨r4, t4, n4⟩⟩ := id ho
  obtain ⟨hg, hb, hA3, hA4, hA5, hA6⟩ := id hA
  have hs := hM.1
  have hf : tf_sf G S o A.1 := ⟨hM.1, hb⟩
  obtain ⟨⟨g1, g2, g3, g4⟩, g5, g6, g7, g8, g9, g10, g11⟩ := id hg
  obtain ⟨z0, z1, z2, z4⟩ := tf_mo_ne ho
  obtain ⟨m01, m02, m04, m12, m14, m24⟩ := id hd
  have im2 : A.2.2.2.2.2 < 2 := by rcases hA6 with h | h; rw [h]; decide; rw [h.1]; decide
  unfold s_on
  by_cases e1 : A.2.2.2.2.2 = 0
  · rw [if_pos e1]
    refine ⟨tf_rfS G S o 3, tf_Fn_of (own := RX11) false ⟨by decide, rfl, by decide⟩ (Nat.le_of_ble_eq_true rfl) trivial (fun x hx hR => ?_), tf_ms_ref ho hd hM 3, tf_fm_0⟩
    show tf_K x 0 0 G S 0 [some (.ref o), none] []
    refine tf_go hx ftX11_on 2 [] 4 [some (.ref o), none] [.int (S o 3)] S rfl ⟨by decide, by decide, rfl⟩ ⟨trivial, (by first | assumption | rfl | decide | omega)⟩ ?_
    rw [show (S o 3) = nI A.2.2.2.2.2 from hM.2.2.2.2.2]
    refine tf_go hx ftX11_on 3 [false] 10 [some (.ref o), none] [.int (-3), .ref o] S rfl ⟨by decide, by decide, rfl⟩ ⟨trivial, (tf_neF (a := A.2.2.2.2.2) (b := 0) rfl (rfl : (0 : Int32) = nI 0) (by omega))⟩ ?_
    refine tf_cV hx ftX11_on (nx := 13) (As := [.int (-3)]) (rest := []) (st2 := [.int (-3)]) (m_ref3 ho) rfl lX11_26 (by first | assumption | rfl | decide) rfl ⟨rfl, by decide, by decide, by decide, rfl, rfl⟩ ?_
    exact tf_ret ftX11_on hR rfl ⟨by decide, by decide⟩ rfl rfl rfl
  · rw [if_neg e1]
    refine ⟨(tf_rw S (tf_rf G o 1) (tf_mx A.2.2.2.2.1 A.1 368)), tf_Fn_of (own := RX11) false ⟨by decide, rfl, by decide⟩ (Nat.le_of_ble_eq_true rfl) trivial (fun x hx hR => ?_), tf_ms_rw ho hd hM _, tf_fm_1⟩
    show tf_K x 0 0 G S 0 [some (.ref o), none] []
    refine tf_go hx ftX11_on 2 [] 4 [some (.ref o), none] [.int (S o 3)] S rfl ⟨by decide, by decide, rfl⟩ ⟨trivial, (by first | assumption | rfl | decide | omega)⟩ ?_
    rw [show (S o 3) = nI A.2.2.2.2.2 from hM.2.2.2.2.2]
    refine tf_go hx ftX11_on 3 [true] 16 [some (.ref o), some (.int 0)] [] S rfl ⟨by decide, by decide, rfl⟩ ⟨trivial, (tf_eqF (a := A.2.2.2.2.2) (b := 0) rfl (rfl : (0 : Int32) = nI 0) (by omega) (by omega) (by omega))⟩ ?_
    refine tf_fgt [some (.ref o), some (.int 0)] (by simp [tf_lss]) ?_
    have hid : tf_rw S (tf_rf G o 1) A.1 = S := tf_rw_id hs
    have loop : ∀ (m k : Nat), k + m = 368 → tf_K x 0 0 G (tf_rw S (tf_rf G o 1) (tf_mx A.2.2.2.2.1 A.1 k)) 16 [some (.ref o), some (.int (nI k))] [] := by
      intro m
      induction m with
      | zero =>
        intro k hk
        refine tf_go hx ftX11_on 2 [] 20 [some (.ref o), some (.int (nI k))] [.int 368, .int (nI k)] (tf_rw S (tf_rf G o 1) (tf_mx A.2.2.2.2.1 A.1 k)) rfl ⟨by decide, by decide, rfl⟩ trivial ?_
        refine tf_go hx ftX11_on 1 [true] 41 [some (.ref o), some (.int (nI k))] [] (tf_rw S (tf_rf G o 1) (tf_mx A.2.2.2.2.1 A.1 k)) rfl ⟨by decide, by decide, rfl⟩ ⟨trivial, (tf_leT (a := 368) (b := k) (rfl : (368 : Int32) = nI 368) rfl (by omega) (by omega) (by omega))⟩ ?_
        rw [show k = 368 by omega]
        have hb9 : ∀ j, tf_mx A.2.2.2.2.1 A.1 368 j < 10000 := fun j => by unfold tf_mx; split; exact hA5 j; exact hb j
        refine tf_go hx ftX11_on 4 [] 49 [some (.ref o), some (.int (nI 368))] [.int ((tf_rw S (tf_rf G o 1) (tf_mx A.2.2.2.2.1 A.1 368)) (tf_rf G o 1) (Int32.toNatClampNeg 366))] (tf_rw S (tf_rf G o 1) (tf_mx A.2.2.2.2.1 A.1 368)) rfl ⟨by decide, by decide, rfl⟩ ⟨⟨trivial, ⟨by first | assumption | rfl | decide | omega, by first | assumption | rfl | decide | omega⟩⟩, ⟨Or.inl (by first | assumption | rfl | decide | omega), by first | assumption | exact tf_in (n := 366) (rfl : (366 : Int32) = nI 366) (by first | assumption | rfl) (by omega) (by decide)⟩⟩ ?_
        rw [show ((tf_rw S (tf_rf G o 1) (tf_mx A.2.2.2.2.1 A.1 368)) (tf_rf G o 1) (Int32.toNatClampNeg 366)) = nI ((tf_mx A.2.2.2.2.1 A.1 368) 366) from (tf_rd tf_rw_a (rfl : (366 : Int32) = nI 366) (by omega))]
        exact tf_ret ftX11_on hR rfl ⟨by decide, by decide⟩ rfl rfl (by unfold tf_mx; rw [if_pos (by decide)]; rfl)
      | succ m ih =>
        intro k hk
        have rr : ∀ j, (tf_rw S (tf_rf G o 1) (tf_mx A.2.2.2.2.1 A.1 k)) (tf_rf G o 2) j = nI (A.2.2.2.2.1 j) := fun j => by rw [tf_rw_n (Ne.symm m12)]; exact hM.2.2.2.2.1 j
        refine tf_go hx ftX11_on 2 [] 20 [some (.ref o), some (.int (nI k))] [.int 368, .int (nI k)] (tf_rw S (tf_rf G o 1) (tf_mx A.2.2.2.2.1 A.1 k)) rfl ⟨by decide, by decide, rfl⟩ trivial ?_
        refine tf_go hx ftX11_on 1 [false] 23 [some (.ref o), some (.int (nI k))] [] (tf_rw S (tf_rf G o 1) (tf_mx A.2.2.2.2.1 A.1 k)) rfl ⟨by decide, by decide, rfl⟩ ⟨trivial, (tf_leF (a := 368) (b := k) (rfl : (368 : Int32) = nI 368) rfl (by omega) (by omega) (by omega))⟩ ?_
        refine tf_go hx ftX11_on 7 [] 34 [some (.ref o), some (.int (nI k))] [.int ((tf_rw S (tf_rf G o 1) (tf_mx A.2.2.2.2.1 A.1 k)) (tf_rf G o 2) (Int32.toNatClampNeg (nI k))), .int (nI k), .ref (tf_rf G o 1)] (tf_rw S (tf_rf G o 1) (tf_mx A.2.2.2.2.1 A.1 k)) rfl ⟨by decide, by decide, rfl⟩ ⟨⟨⟨trivial, ⟨by first | assumption | rfl | decide | omega, by first | assumption | rfl | decide | omega⟩⟩, ⟨by first | assumption | rfl | decide | omega, by first | assumption | rfl | decide | omega⟩⟩, ⟨Or.inl (by first | assumption | rfl | decide | omega), by first | assumption | exact tf_in (n := k) rfl (by first | assumption | rfl) (by omega) (by decide)⟩⟩ ?_
        rw [show ((tf_rw S (tf_rf G o 1) (tf_mx A.2.2.2.2.1 A.1 k)) (tf_rf G o 2) (Int32.toNatClampNeg (nI k))) = nI (A.2.2.2.2.1 k) from (tf_rd rr rfl (by omega))]
        refine tf_go hx ftX11_on 1 [] 35 [some (.ref o), some (.int (nI k))] [] (tf_set (tf_rw S (tf_rf G o 1) (tf_mx A.2.2.2.2.1 A.1 k)) (tf_rf G o 1) (Int32.toNatClampNeg (nI k)) (nI (A.2.2.2.2.1 k))) rfl ⟨by decide, by decide, rfl⟩ ⟨trivial, ⟨by first | assumption | rfl | decide | omega, by first | assumption | exact tf_in (n := k) rfl (by first | assumption | rfl) (by omega) (by decide)⟩⟩ ?_
        rw [show Int32.toNatClampNeg (nI k) = k from tf_cln rfl (by omega)]
        rw [tf_rw_u2, tf_mx_s]
        refine tf_go hx ftX11_on 2 [] 16 [some (.ref o), some (.int ((nI k) + 1))] [] (tf_rw S (tf_rf G o 1) (tf_mx A.2.2.2.2.1 A.1 (k + 1))) rfl ⟨by decide, by decide, rfl⟩ trivial ?_
        rw [show ((nI k) + 1) = nI (k + 1) from (tf_add (a := k) (b := 1) rfl (rfl : (1 : Int32) = nI 1))]
        exact ih (k + 1) (by omega)
    have h0 := loop 368 0 rfl
    rw [tf_mx_0, hid] at h0
    exact h0
end
section
/-! BYTES AND FAULTS -/
theorem nI_tb (n : Nat) : (nI n).toBitVec = BitVec.ofNat 32 n := rfl
theorem tf_or {a b : Nat} : nI a ||| nI b = nI (a ||| b) := by
  apply Int32.toBitVec_inj.mp
  rw [Int32.toBitVec_or, nI_tb, nI_tb, nI_tb]
  apply BitVec.eq_of_toNat_eq
  rw [BitVec.toNat_or, BitVec.toNat_ofNat, BitVec.toNat_ofNat, BitVec.toNat_ofNat, Nat.or_mod_two_pow]
theorem tf_an {a b : Nat} : nI a &&& nI b = nI (a &&& b) := by
  apply Int32.toBitVec_inj.mp
  rw [Int32.toBitVec_and, nI_tb, nI_tb, nI_tb]
  apply BitVec.eq_of_toNat_eq
  rw [BitVec.toNat_and, BitVec.toNat_ofNat, BitVec.toNat_ofNat, BitVec.toNat_ofNat, Nat.and_mod_two_pow]
theorem tf_smod : ∀ l, l < 32 → ((nI l &&& 31).toBitVec.smod 32).toNat = l := by decide +kernel
theorem tf_shl {l : Nat} (h : l < 26) : (1 : Int32) <<< (nI l &&& 31) = nI (2 ^ l) := by
  have h2 : 1 * 2 ^ l < 2 ^ 32 := by rw [Nat.one_mul]; exact Nat.pow_lt_pow_right (by decide) (by omega)
  have := pk_shlN (n := 1) (nI l &&& 31) l (tf_smod l (by omega)) h2
  rw [Nat.one_mul] at this
  exact this
theorem tf_tst {s l : Nat} (hs : s < 2 ^ 26) (h : l < 26) : (nI s >>> (nI l &&& 31)) &&& 1 = nI (if s.testBit l = true then 1 else 0) := by
  rw [pk_shrN (show s < 2 ^ 31 by omega) (nI l &&& 31) l (tf_smod l (by omega)), show (1 : Int32) = nI 1 from rfl, tf_an, Nat.and_one_is_mod]
  congr 1
  rw [Nat.testBit_eq_decide_div_mod_eq]
  by_cases hq : s / 2 ^ l % 2 = 1
  · rw [if_pos (by simpa using hq), hq]
  · rw [if_neg (by simpa using hq)]; omega
theorem tf_tst2 {s l : Nat} : nI s &&& nI (2 ^ l) = nI (if s.testBit l = true then 2 ^ l else 0) := by
  rw [tf_an]
  congr 1
  apply Nat.eq_of_testBit_eq
  intro i
  rw [Nat.testBit_and, Nat.testBit_two_pow]
  by_cases hi : l = i
  · subst hi
    cases hb : s.testBit l
    · simp
    · simp
  · cases hb : s.testBit l
    · simp [hi]
    · simp [hi, Nat.testBit_two_pow]
/-- the byte of a place of eight -/
def tf_by (x : Int64) (k : Nat) : Nat := (x.toBitVec >>> (8 * k)).toNat % 256
theorem tf_by_le (x : Int64) (k : Nat) : tf_by x k < 256 := Nat.mod_lt _ (by decide)
theorem tf_by_bv (x : BitVec 64) {s : Nat} (hs : s ≤ 56) : ((x.sshiftRight s) &&& 255#64).signExtend 32 = BitVec.ofNat 32 ((x >>> s).toNat % 256) := by
  apply BitVec.eq_of_getLsbD_eq
  intro i hi
  rw [BitVec.getLsbD_signExtend, BitVec.getLsbD_ofNat, show (256 : Nat) = 2 ^ 8 from rfl, Nat.testBit_mod_two_pow, BitVec.getLsbD_and, BitVec.getLsbD_sshiftRight]
  have h255 : ∀ j, (255#64).getLsbD j = decide (j < 8) := by
    intro j
    by_cases hj : j < 64
    · revert hj
      revert j
      decide +kernel
    · rw [BitVec.getLsbD_of_ge _ _ (by omega)]
      simp; omega
  rw [h255]
  have ht : (x >>> s).toNat.testBit i = x.getLsbD (s + i) := by rw [← BitVec.getLsbD]; exact BitVec.getLsbD_ushiftRight _ _ _
  rw [ht]
  by_cases h8 : i < 8
  · simp [hi, h8, show i < 64 by omega, show s + i < 64 by omega]
  · simp [h8, show i < 64 by omega]
theorem tf_by_bu (x : BitVec 64) {s : Nat} (hs : s ≤ 56) : ((x >>> s).signExtend 32) &&& 255#32 = BitVec.ofNat 32 ((x >>> s).toNat % 256) := by
  apply BitVec.eq_of_getLsbD_eq
  intro i hi
  have h255 : ∀ j, (255#32).getLsbD j = decide (j < 8) := by
    intro j
    by_cases hj : j < 32
    · revert hj
      revert j
      decide +kernel
    · rw [BitVec.getLsbD_of_ge _ _ (by omega)]
      simp; omega
  rw [BitVec.getLsbD_and, BitVec.getLsbD_signExtend, h255, BitVec.getLsbD_ofNat, show (256 : Nat) = 2 ^ 8 from rfl, Nat.testBit_mod_two_pow]
  have ht : (x >>> s).toNat.testBit i = (x >>> s).getLsbD i := rfl
  rw [ht]
  by_cases h8 : i < 8
  · simp [hi, h8, show i < 64 by omega]
  · simp [h8]
theorem tf_sh64 : ∀ k, k < 8 → ((((8 : Int32) * nI k).toInt64 &&& 63).toBitVec.smod 64).toNat = 8 * k := by decide +kernel
theorem tf_by_m (x : Int64) {k : Nat} (hk : k < 8) : ((x >>> (((8 : Int32) * nI k).toInt64 &&& 63)) &&& Int64.ofNat 255).toInt32 = nI (tf_by x k) := by
  apply Int32.toBitVec_inj.mp
  rw [nI_tb]
  show ((x >>> (((8 : Int32) * nI k).toInt64 &&& 63)) &&& Int64.ofNat 255).toBitVec.signExtend 32 = _
  rw [Int64.toBitVec_and, Int64.toBitVec_shiftRight, BitVec.sshiftRight', tf_sh64 k hk]
  exact tf_by_bv x.toBitVec (by omega)
theorem tf_sh64u : ∀ k, k < 8 → ((((8 : Int32) * nI k).toInt64.toUInt64 &&& Int64.toUInt64 63).toBitVec % 64#64).toNat = 8 * k := by decide +kernel
theorem tf_by_c (x : Int64) {k : Nat} (hk : k < 8) : (((x.toUInt64 >>> (((8 : Int32) * nI k).toInt64.toUInt64 &&& Int64.toUInt64 63)).toInt64).toInt32) &&& 255 = nI (tf_by x k) := by
  apply Int32.toBitVec_inj.mp
  rw [nI_tb, Int32.toBitVec_and]
  show (x.toUInt64 >>> (((8 : Int32) * nI k).toInt64.toUInt64 &&& Int64.toUInt64 63)).toBitVec.signExtend 32 &&& 255#32 = _
  have h1 : (x.toUInt64 >>> (((8 : Int32) * nI k).toInt64.toUInt64 &&& Int64.toUInt64 63)).toBitVec = x.toBitVec >>> (8 * k) := by
    rw [UInt64.toBitVec_shiftRight]
    show x.toBitVec >>> ((((8 : Int32) * nI k).toInt64.toUInt64 &&& Int64.toUInt64 63).toBitVec % 64#64) = _
    rw [BitVec.ushiftRight_eq', tf_sh64u k hk]
  rw [h1]
  exact tf_by_bu x.toBitVec (by omega)
def tf_lt (c : Nat) : Bool := decide (97 ≤ c) && decide (c ≤ 122)
theorem tf_lt_y {c : Nat} (h : tf_lt c = true) : 97 ≤ c ∧ c ≤ 122 := by unfold tf_lt at h; simpa using h
theorem tf_lt_i {c : Nat} (hc : c < 256) : (if ¬ nI c < 97 ∧ ¬ 122 < nI c then (1 : Int32) else 0) = if tf_lt c = true then 1 else 0 := by
  have h1 : (nI c < 97) ↔ c < 97 := nI_ltI (b := 97) (by omega) (by decide)
  have h2 : (122 < nI c) ↔ 122 < c := nI_ltI (a := 122) (by decide) (by omega)
  unfold tf_lt
  by_cases a : c < 97
  · rw [if_neg (by rintro ⟨q, -⟩; exact q (h1.mpr a)), if_neg (by simp; omega)]
  · by_cases b : 122 < c
    · rw [if_neg (by rintro ⟨-, q⟩; exact q (h2.mpr b)), if_neg (by simp; omega)]
    · rw [if_pos ⟨fun q => a (h1.mp q), fun q => b (h2.mp q)⟩, if_pos (by simp; omega)]
/-- FAULTS of a text -/
def tf_lb (T : Nat → Nat) (bk k : Nat) : Bool := !(tf_lt (T k)) && !(decide (bk ≠ 0) && decide (T k = 60))
def tf_lf (T : Nat → Nat) (n bk : Nat) : Nat := tf_fst (tf_lb T bk) n 0
/-- the letters that came, as bits -/
def tf_bs (T : Nat → Nat) : Nat → Nat
  | 0 => 0
  | k + 1 => if k % 11 ≠ 10 ∧ tf_lt (T k) = true then tf_bs T k ||| 2 ^ (T k - 97) else tf_bs T k
theorem tf_bs_s {T : Nat → Nat} {k : Nat} : tf_bs T (k + 1) = if k % 11 ≠ 10 ∧ tf_lt (T k) = true then tf_bs T k ||| 2 ^ (T k - 97) else tf_bs T k := rfl
theorem tf_bs_le (T : Nat → Nat) : ∀ k, tf_bs T k < 2 ^ 26
  | 0 => by show 0 < 2 ^ 26; decide
  | k + 1 => by
    rw [tf_bs_s]
    split
    · next h =>
      have := tf_lt_y h.2
      exact Nat.or_lt_two_pow (tf_bs_le T k) (Nat.pow_lt_pow_right (by decide) (by omega))
    · exact tf_bs_le T k
def tf_bb (T : Nat → Nat) (n k : Nat) : Bool := decide (n ≤ k) || (if k % 11 = 10 then !decide (T k = 47) else (!decide (T k = 46) && !tf_lt (T k)) || (tf_lt (T k) && (tf_bs T k).testBit (T k - 97)))
def tf_bf (T : Nat → Nat) (n : Nat) : Nat := if tf_fst (tf_bb T n) 32 0 < 32 then tf_fst (tf_bb T n) 32 0 else if 32 < n then 32 else 49
end
section
def tX11_lettersFault : tf_T := [(0, .iconst 0, 1, 0, 0),
  (1, .istore_n 2, 2, 0, 0),
  (2, .iload_n 2, 3, 0, 0),
  (3, .aload_n 0, 4, 0, 0),
  (4, .getfield 30, 7, 0, 0),
  (7, .if_icmp .ge 38, 10, 45, 0),
  (10, .aload_n 0, 11, 0, 0),
  (11, .getfield 19, 14, 0, 0),
  (14, .iload_n 2, 15, 0, 0),
  (15, .iaload, 16, 0, 0),
  (16, .invokestatic 36, 19, 0, 0),
  (19, .ifCond .ne 20, 22, 39, 0),
  (22, .iload_n 1, 23, 0, 0),
  (23, .ifCond .eq 14, 26, 37, 0),
  (26, .aload_n 0, 27, 0, 0),
  (27, .getfield 19, 30, 0, 0),
  (30, .iload_n 2, 31, 0, 0),
  (31, .iaload, 32, 0, 0),
  (32, .bipush 60, 34, 0, 60),
  (34, .if_icmp .eq 5, 37, 39, 0),
  (37, .iload_n 2, 38, 0, 0),
  (38, .ireturn, 39, 0, 0),
  (39, .iinc 2 1, 42, 0, 1),
  (42, .goto (-40), 45, 2, 0),
  (45, .bipush (-9), 47, 0, (-9)),
  (47, .ireturn, 48, 0, 0)]
set_option maxRecDepth 100000 in
theorem okX11_lettersFault : tf_okT cX11_lettersFault tX11_lettersFault := by unfold tf_okT; decide +kernel
theorem ftX11_lettersFault : 1 ≤ 2 ∧ tf_okF RX11 fX11 ∧ tf_okT cX11_lettersFault tX11_lettersFault := ⟨by decide, okfX11, okX11_lettersFault⟩
def mX11_lettersFault : tf_M := (yX11_lettersFault, cX11_lettersFault, 3, (some .int))

def tX11_boardFault : tf_T := [(0, .iconst 0, 1, 0, 0),
  (1, .istore_n 1, 2, 0, 0),
  (2, .iconst 0, 3, 0, 0),
  (3, .istore_n 2, 4, 0, 0),
  (4, .iload_n 2, 5, 0, 0),
  (5, .bipush 32, 7, 0, 32),
  (7, .if_icmp .ge 100, 10, 107, 0),
  (10, .iload_n 2, 11, 0, 0),
  (11, .aload_n 0, 12, 0, 0),
  (12, .getfield 30, 15, 0, 0),
  (15, .if_icmp .lt 8, 18, 23, 0),
  (18, .aload_n 0, 19, 0, 0),
  (19, .getfield 30, 22, 0, 0),
  (22, .ireturn, 23, 0, 0),
  (23, .aload_n 0, 24, 0, 0),
  (24, .getfield 19, 27, 0, 0),
  (27, .iload_n 2, 28, 0, 0),
  (28, .iaload, 29, 0, 0),
  (29, .istore_n 3, 30, 0, 0),
  (30, .iload_n 2, 31, 0, 0),
  (31, .bipush 11, 33, 0, 11),
  (33, .irem, 34, 0, 0),
  (34, .bipush 10, 36, 0, 10),
  (36, .if_icmp .ne 11, 39, 47, 0),
  (39, .iload_n 3, 40, 0, 0),
  (40, .bipush 47, 42, 0, 47),
  (42, .if_icmp .eq 59, 45, 101, 0),
  (45, .iload_n 2, 46, 0, 0),
  (46, .ireturn, 47, 0, 0),
  (47, .iload_n 3, 48, 0, 0),
  (48, .bipush 46, 50, 0, 46),
  (50, .if_icmp .eq 10, 53, 60, 0),
  (53, .iload_n 3, 54, 0, 0),
  (54, .invokestatic 36, 57, 0, 0),
  (57, .ifCond .eq 22, 60, 79, 0),
  (60, .iload_n 3, 61, 0, 0),
  (61, .invokestatic 36, 64, 0, 0),
  (64, .ifCond .eq 17, 67, 81, 0),
  (67, .iload_n 1, 68, 0, 0),
  (68, .iload_n 3, 69, 0, 0),
  (69, .bipush 97, 71, 0, 97),
  (71, .isub, 72, 0, 0),
  (72, .ishr, 73, 0, 0),
  (73, .iconst 1, 74, 0, 1),
  (74, .iand, 75, 0, 0),
  (75, .iconst 1, 76, 0, 1),
  (76, .if_icmp .ne 5, 79, 81, 0),
  (79, .iload_n 2, 80, 0, 0),
  (80, .ireturn, 81, 0, 0),
  (81, .iload_n 1, 82, 0, 0),
  (82, .iload_n 3, 83, 0, 0),
  (83, .invokestatic 36, 86, 0, 0),
  (86, .ifCond .eq 12, 89, 98, 0),
  (89, .iconst 1, 90, 0, 1),
  (90, .iload_n 3, 91, 0, 0),
  (91, .bipush 97, 93, 0, 97),
  (93, .isub, 94, 0, 0),
  (94, .ishl, 95, 0, 0),
  (95, .goto 4, 98, 99, 0),
  (98, .iconst 0, 99, 0, 0),
  (99, .ior, 100, 0, 0),
  (100, .istore_n 1, 101, 0, 0),
  (101, .iinc 2 1, 104, 0, 1),
  (104, .goto (-100), 107, 4, 0),
  (107, .aload_n 0, 108, 0, 0),
  (108, .getfield 30, 111, 0, 0),
  (111, .bipush 32, 113, 0, 32),
  (113, .if_icmp .le 8, 116, 121, 0),
  (116, .bipush 32, 118, 0, 32),
  (118, .goto 5, 121, 123, 0),
  (121, .bipush (-9), 123, 0, (-9)),
  (123, .ireturn, 124, 0, 0)]
set_option maxRecDepth 100000 in
theorem okX11_boardFault : tf_okT cX11_boardFault tX11_boardFault := by unfold tf_okT; decide +kernel
theorem ftX11_boardFault : 1 ≤ 2 ∧ tf_okF RX11 fX11 ∧ tf_okT cX11_boardFault tX11_boardFault := ⟨by decide, okfX11, okX11_boardFault⟩
def mX11_boardFault : tf_M := (yX11_boardFault, cX11_boardFault, 4, (some .int))

def tX11_feed : tf_T := [(0, .iload_n 1, 1, 0, 0),
  (1, .iconst 1, 2, 0, 1),
  (2, .if_icmp .ge 10, 5, 12, 0),
  (5, .aload_n 0, 6, 0, 0),
  (6, .bipush (-4), 8, 0, (-4)),
  (8, .invokevirtual 26, 11, 0, 0),
  (11, .ireturn, 12, 0, 0),
  (12, .iload_n 1, 13, 0, 0),
  (13, .bipush 8, 15, 0, 8),
  (15, .if_icmp .gt 14, 18, 29, 0),
  (18, .aload_n 0, 19, 0, 0),
  (19, .getfield 30, 22, 0, 0),
  (22, .iload_n 1, 23, 0, 0),
  (23, .iadd, 24, 0, 0),
  (24, .bipush 48, 26, 0, 48),
  (26, .if_icmp .le 10, 29, 36, 0),
  (29, .aload_n 0, 30, 0, 0),
  (30, .bipush (-6), 32, 0, (-6)),
  (32, .invokevirtual 26, 35, 0, 0),
  (35, .ireturn, 36, 0, 0),
  (36, .iconst 0, 37, 0, 0),
  (37, .istore 4, 39, 0, 0),
  (39, .iload 4, 41, 0, 0),
  (41, .iload_n 1, 42, 0, 0),
  (42, .if_icmp .ge 40, 45, 82, 0),
  (45, .aload_n 0, 46, 0, 0),
  (46, .getfield 19, 49, 0, 0),
  (49, .aload_n 0, 50, 0, 0),
  (50, .getfield 30, 53, 0, 0),
  (53, .lload_n 2, 54, 0, 0),
  (54, .bipush 8, 56, 0, 8),
  (56, .iload 4, 58, 0, 0),
  (58, .imul, 59, 0, 0),
  (59, .lshr, 60, 0, 0),
  (60, .ldc2_w 34, 63, 0, 0),
  (63, .land, 64, 0, 0),
  (64, .l2i, 65, 0, 0),
  (65, .iastore, 66, 0, 0),
  (66, .aload_n 0, 67, 0, 0),
  (67, .dup, 68, 0, 0),
  (68, .getfield 30, 71, 0, 0),
  (71, .iconst 1, 72, 0, 1),
  (72, .iadd, 73, 0, 0),
  (73, .putfield 30, 76, 0, 0),
  (76, .iinc 4 1, 79, 0, 1),
  (79, .goto (-40), 82, 39, 0),
  (82, .aload_n 0, 83, 0, 0),
  (83, .getfield 30, 86, 0, 0),
  (86, .ireturn, 87, 0, 0)]
set_option maxRecDepth 100000 in
theorem okX11_feed : tf_okT cX11_feed tX11_feed := by unfold tf_okT; decide +kernel
theorem ftX11_feed : 1 ≤ 2 ∧ tf_okF RX11 fX11 ∧ tf_okT cX11_feed tX11_feed := ⟨by decide, okfX11, okX11_feed⟩
def mX11_feed : tf_M := (yX11_feed, cX11_feed, 5, (some .int))

set_option maxRecDepth 100000 in
theorem lX11_36 : tf_okS RX11 36 1 mX11_isLetter := by unfold tf_okS tf_okL; decide +kernel

set_option maxHeartbeats 1000000 in
theorem m_lettersFault {G : tf_G} {S : tf_Sg} {o : Nat} {T : Nat → Nat} {n : Nat} (bk : Nat) (ho : tf_mo G o) (hT : ∀ k, S (tf_rf G o 4) k = nI (T k)) (hT2 : ∀ k, T k < 256) (hn : S o 5 = nI n) (hn2 : n ≤ 48) (hbk : bk < 2) : tf_Fn mX11_lettersFault 2 0 0 G S [.ref o, .int (nI bk)] G S (some (.int (tf_on n (tf_lf T n bk)))) := by
  obtain ⟨h1, ⟨r0, t0, n0⟩, ⟨r1, t1, n1⟩, ⟨r2, t2, n2⟩, ⟨r4, t4, n4⟩⟩ := id ho
  refine tf_Fn_of (own := RX11) false ⟨by decide, rfl, by decide⟩ (Nat.le_of_ble_eq_true rfl) trivial (fun x hx hR => ?_)
  show tf_K x 0 0 G S 0 [some (.ref o), some (.int (nI bk)), none] []
  unfold tf_lf at hR
  refine tf_go hx ftX11_lettersFault 2 [] 2 [some (.ref o), some (.int (nI bk)), some (.int 0)] [] S rfl ⟨by decide, by decide, rfl⟩ trivial ?_
  have loop : ∀ (m k : Nat), k + m = n → (tf_fst (tf_lb T bk) m k = tf_fst (tf_lb T bk) n 0) → tf_K x 0 0 G S 2 [some (.ref o), some (.int (nI bk)), some (.int (nI k))] [] := by
    intro m
    induction m with
    | zero =>
      intro k hk he
      refine tf_go hx ftX11_lettersFault 3 [] 7 [some (.ref o), some (.int (nI bk)), some (.int (nI k))] [.int (S o 5), .int (nI k)] S rfl ⟨by decide, by decide, rfl⟩ ⟨trivial, (by first | assumption | rfl | decide | omega)⟩ ?_
      rw [show (S o 5) = nI n from hn]
      refine tf_go hx ftX11_lettersFault 2 [true] 47 [some (.ref o), some (.int (nI bk)), some (.int (nI k))] [.int (-9)] S rfl ⟨by decide, by decide, rfl⟩ ⟨trivial, (tf_leT (a := n) (b := k) rfl rfl (by omega) (by omega) (by omega))⟩ ?_
      exact tf_ret ftX11_lettersFault hR rfl ⟨by decide, by decide⟩ rfl rfl (by rw [← he, tf_fst_0]; show _ = [Value.int (tf_on n k)]; rw [tf_on_n (by omega)])
    | succ m ih =>
      intro k hk he
      refine tf_go hx ftX11_lettersFault 3 [] 7 [some (.ref o), some (.int (nI bk)), some (.int (nI k))] [.int (S o 5), .int (nI k)] S rfl ⟨by decide, by decide, rfl⟩ ⟨trivial, (by first | assumption | rfl | decide | omega)⟩ ?_
      rw [show (S o 5) = nI n from hn]
      refine tf_go hx ftX11_lettersFault 1 [false] 10 [some (.ref o), some (.int (nI bk)), some (.int (nI k))] [] S rfl ⟨by decide, by decide, rfl⟩ ⟨trivial, (tf_leF (a := n) (b := k) rfl rfl (by omega) (by omega) (by omega))⟩ ?_
      refine tf_go hx ftX11_lettersFault 4 [] 16 [some (.ref o), some (.int (nI bk)), some (.int (nI k))] [.int (S (tf_rf G o 4) (Int32.toNatClampNeg (nI k)))] S rfl ⟨by decide, by decide, rfl⟩ ⟨⟨trivial, ⟨by first | assumption | rfl | decide | omega, by first | assumption | rfl | decide | omega⟩⟩, ⟨Or.inl (by first | assumption | rfl | decide | omega), by first | assumption | exact tf_in (n := k) rfl (by first | assumption | rfl) (by omega) (by decide)⟩⟩ ?_
      rw [show (S (tf_rf G o 4) (Int32.toNatClampNeg (nI k))) = nI (T k) from (tf_rd hT rfl (by omega))]
      refine tf_cS hx ftX11_lettersFault (nx := 19) (As := [.int (nI (T k))]) (rest := []) (st2 := [.int (if tf_lt (T k) = true then 1 else 0)]) ((by have h := m_isLetter (G := G) (S := S) (nI (T k)); rw [tf_lt_i (hT2 _)] at h; exact h)) rfl lX11_36 rfl ⟨rfl, by decide, by decide, by decide, rfl, rfl⟩ ?_
      by_cases c1 : tf_lt (T k) = true
      · rw [if_pos c1]
        refine tf_go hx ftX11_lettersFault 3 [true] 2 [some (.ref o), some (.int (nI bk)), some (.int ((nI k) + 1))] [] S rfl ⟨by decide, by decide, rfl⟩ ⟨trivial, (by decide)⟩ ?_
        rw [show ((nI k) + 1) = nI (k + 1) from (tf_add (a := k) (b := 1) rfl (rfl : (1 : Int32) = nI 1))]
        exact ih (k + 1) (by omega) (by rw [← he, tf_fst_n (by unfold tf_lb; simp [c1])])
      · rw [if_neg c1]
        refine tf_go hx ftX11_lettersFault 1 [false] 22 [some (.ref o), some (.int (nI bk)), some (.int (nI k))] [] S rfl ⟨by decide, by decide, rfl⟩ ⟨trivial, (by decide)⟩ ?_
        refine tf_go hx ftX11_lettersFault 1 [] 23 [some (.ref o), some (.int (nI bk)), some (.int (nI k))] [.int (nI bk)] S rfl ⟨by decide, by decide, rfl⟩ trivial ?_
        by_cases c2 : bk = 0
        · refine tf_go hx ftX11_lettersFault 2 [true] 38 [some (.ref o), some (.int (nI bk)), some (.int (nI k))] [.int (nI k)] S rfl ⟨by decide, by decide, rfl⟩ ⟨trivial, (tf_eqT (a := bk) (b := 0) rfl (rfl : (0 : Int32) = nI 0) (by omega))⟩ ?_
          exact tf_ret ftX11_lettersFault hR rfl ⟨by decide, by decide⟩ rfl rfl (by rw [← he, tf_fst_y (by unfold tf_lb; simp [c1, c2])]; show _ = [Value.int (tf_on n k)]; rw [tf_on_y (by omega)])
        · refine tf_go hx ftX11_lettersFault 1 [false] 26 [some (.ref o), some (.int (nI bk)), some (.int (nI k))] [] S rfl ⟨by decide, by decide, rfl⟩ ⟨trivial, (tf_eqF (a := bk) (b := 0) rfl (rfl : (0 : Int32) = nI 0) (by omega) (by omega) (by omega))⟩ ?_
          refine tf_go hx ftX11_lettersFault 5 [] 34 [some (.ref o), some (.int (nI bk)), some (.int (nI k))] [.int 60, .int (S (tf_rf G o 4) (Int32.toNatClampNeg (nI k)))] S rfl ⟨by decide, by decide, rfl⟩ ⟨⟨trivial, ⟨by first | assumption | rfl | decide | omega, by first | assumption | rfl | decide | omega⟩⟩, ⟨Or.inl (by first | assumption | rfl | decide | omega), by first | assumption | exact tf_in (n := k) rfl (by first | assumption | rfl) (by omega) (by decide)⟩⟩ ?_
          rw [show (S (tf_rf G o 4) (Int32.toNatClampNeg (nI k))) = nI (T k) from (tf_rd hT rfl (by omega))]
          by_cases c3 : T k = 60
          · refine tf_go hx ftX11_lettersFault 3 [true] 2 [some (.ref o), some (.int (nI bk)), some (.int ((nI k) + 1))] [] S rfl ⟨by decide, by decide, rfl⟩ ⟨trivial, (tf_eqT (a := (T k)) (b := 60) rfl (rfl : (60 : Int32) = nI 60) (by have := hT2 k; omega))⟩ ?_
            rw [show ((nI k) + 1) = nI (k + 1) from (tf_add (a := k) (b := 1) rfl (rfl : (1 : Int32) = nI 1))]
            exact ih (k + 1) (by omega) (by rw [← he, tf_fst_n (by unfold tf_lb; simp [c2, c3])])
          · refine tf_go hx ftX11_lettersFault 2 [false] 38 [some (.ref o), some (.int (nI bk)), some (.int (nI k))] [.int (nI k)] S rfl ⟨by decide, by decide, rfl⟩ ⟨trivial, (tf_eqF (a := (T k)) (b := 60) rfl (rfl : (60 : Int32) = nI 60) (by have := hT2 k; omega) (by have := hT2 k; omega) (by have := hT2 k; omega))⟩ ?_
            exact tf_ret ftX11_lettersFault hR rfl ⟨by decide, by decide⟩ rfl rfl (by rw [← he, tf_fst_y (by unfold tf_lb; simp [c1, c3])]; show _ = [Value.int (tf_on n k)]; rw [tf_on_y (by omega)])
  exact loop n 0 (by omega) rfl

set_option maxHeartbeats 1000000 in
theorem m_boardFault {G : tf_G} {S : tf_Sg} {o : Nat} {T : Nat → Nat} {n : Nat} (ho : tf_mo G o) (hT : ∀ k, S (tf_rf G o 4) k = nI (T k)) (hT2 : ∀ k, T k < 256) (hn : S o 5 = nI n) (hn2 : n ≤ 48) : tf_Fn mX11_boardFault 2 0 0 G S [.ref o] G S (some (.int (tf_on 49 (tf_bf T n)))) := by
  obtain ⟨h1, ⟨r0, t0, n0⟩, ⟨r1, t1, n1⟩, ⟨r2, t2, n2⟩, ⟨r4, t4, n4⟩⟩ := id ho
  refine tf_Fn_of (own := RX11) false ⟨by decide, rfl, by decide⟩ (Nat.le_of_ble_eq_true rfl) trivial (fun x hx hR => ?_)
  show tf_K x 0 0 G S 0 [some (.ref o), none, none, none] []
  unfold tf_bf at hR
  refine tf_go hx ftX11_boardFault 4 [] 4 [some (.ref o), some (.int 0), some (.int 0), none] [] S rfl ⟨by decide, by decide, rfl⟩ trivial ?_
  refine tf_fgt [some (.ref o), some (.int 0), some (.int 0), none] (by simp [tf_lss]) ?_
  have loop : ∀ (m k : Nat), k + m = 32 → (tf_fst (tf_bb T n) m k = tf_fst (tf_bb T n) 32 0) → (k ≤ n) → tf_K x 0 0 G S 4 [some (.ref o), some (.int (nI (tf_bs T k))), some (.int (nI k)), none] [] := by
    intro m
    induction m with
    | zero =>
      intro k hk he hnk
      refine tf_go hx ftX11_boardFault 2 [] 7 [some (.ref o), some (.int (nI (tf_bs T k))), some (.int (nI k)), none] [.int 32, .int (nI k)] S rfl ⟨by decide, by decide, rfl⟩ trivial ?_
      refine tf_go hx ftX11_boardFault 1 [true] 107 [some (.ref o), some (.int (nI (tf_bs T k))), some (.int (nI k)), none] [] S rfl ⟨by decide, by decide, rfl⟩ ⟨trivial, (tf_leT (a := 32) (b := k) (rfl : (32 : Int32) = nI 32) rfl (by omega) (by omega) (by omega))⟩ ?_
      refine tf_go hx ftX11_boardFault 3 [] 113 [some (.ref o), some (.int (nI (tf_bs T k))), some (.int (nI k)), none] [.int 32, .int (S o 5)] S rfl ⟨by decide, by decide, rfl⟩ ⟨trivial, (by first | assumption | rfl | decide | omega)⟩ ?_
      rw [show (S o 5) = nI n from hn]
      by_cases c0 : 32 < n
      · refine tf_go hx ftX11_boardFault 3 [false] 123 [some (.ref o), some (.int (nI (tf_bs T k))), some (.int (nI k)), none] [.int 32] S rfl ⟨by decide, by decide, rfl⟩ ⟨trivial, (tf_leF (a := n) (b := 32) rfl (rfl : (32 : Int32) = nI 32) (by omega) (by omega) (by omega))⟩ ?_
        exact tf_ret ftX11_boardFault hR rfl ⟨by decide, by decide⟩ rfl rfl (by rw [← he, tf_fst_0, if_neg (by omega), if_pos c0]; rfl)
      · refine tf_go hx ftX11_boardFault 2 [true] 123 [some (.ref o), some (.int (nI (tf_bs T k))), some (.int (nI k)), none] [.int (-9)] S rfl ⟨by decide, by decide, rfl⟩ ⟨trivial, (tf_leT (a := n) (b := 32) rfl (rfl : (32 : Int32) = nI 32) (by omega) (by omega) (by omega))⟩ ?_
        exact tf_ret ftX11_boardFault hR rfl ⟨by decide, by decide⟩ rfl rfl (by rw [← he, tf_fst_0, if_neg (by omega), if_neg c0]; rfl)
    | succ m ih =>
      intro k hk he hnk
      have sl := tf_bs_le T k
      refine tf_go hx ftX11_boardFault 2 [] 7 [some (.ref o), some (.int (nI (tf_bs T k))), some (.int (nI k)), none] [.int 32, .int (nI k)] S rfl ⟨by decide, by decide, rfl⟩ trivial ?_
      refine tf_go hx ftX11_boardFault 1 [false] 10 [some (.ref o), some (.int (nI (tf_bs T k))), some (.int (nI k)), none] [] S rfl ⟨by decide, by decide, rfl⟩ ⟨trivial, (tf_leF (a := 32) (b := k) (rfl : (32 : Int32) = nI 32) rfl (by omega) (by omega) (by omega))⟩ ?_
      refine tf_go hx ftX11_boardFault 3 [] 15 [some (.ref o), some (.int (nI (tf_bs T k))), some (.int (nI k)), none] [.int (S o 5), .int (nI k)] S rfl ⟨by decide, by decide, rfl⟩ ⟨trivial, (by first | assumption | rfl | decide | omega)⟩ ?_
      rw [show (S o 5) = nI n from hn]
      by_cases c0 : k < n
      · refine tf_go hx ftX11_boardFault 1 [true] 23 [some (.ref o), some (.int (nI (tf_bs T k))), some (.int (nI k)), none] [] S rfl ⟨by decide, by decide, rfl⟩ ⟨trivial, (tf_ltT (a := k) (b := n) rfl rfl (by omega) (by omega) (by omega))⟩ ?_
        refine tf_go hx ftX11_boardFault 9 [] 36 [some (.ref o), some (.int (nI (tf_bs T k))), some (.int (nI k)), some (.int (S (tf_rf G o 4) (Int32.toNatClampNeg (nI k))))] [.int 10, .int ((nI k) - (nI k) / 11 * 11)] S rfl ⟨by decide, by decide, rfl⟩ ⟨⟨⟨trivial, ⟨by first | assumption | rfl | decide | omega, by first | assumption | rfl | decide | omega⟩⟩, ⟨Or.inl (by first | assumption | rfl | decide | omega), by first | assumption | exact tf_in (n := k) rfl (by first | assumption | rfl) (by omega) (by decide)⟩⟩, (by decide)⟩ ?_
        rw [show (S (tf_rf G o 4) (Int32.toNatClampNeg (nI k))) = nI (T k) from (tf_rd hT rfl (by omega))]
        rw [show ((nI k) - (nI k) / 11 * 11) = nI (k % 11) from (tf_rem (a := k) (d := 11) rfl (rfl : (11 : Int32) = nI 11) (by omega) (by omega) (by omega))]
        by_cases c1 : k % 11 = 10
        · refine tf_go hx ftX11_boardFault 1 [false] 39 [some (.ref o), some (.int (nI (tf_bs T k))), some (.int (nI k)), some (.int (nI (T k)))] [] S rfl ⟨by decide, by decide, rfl⟩ ⟨trivial, (tf_neF (a := (k % 11)) (b := 10) rfl (rfl : (10 : Int32) = nI 10) (by omega))⟩ ?_
          refine tf_go hx ftX11_boardFault 2 [] 42 [some (.ref o), some (.int (nI (tf_bs T k))), some (.int (nI k)), some (.int (nI (T k)))] [.int 47, .int (nI (T k))] S rfl ⟨by decide, by decide, rfl⟩ trivial ?_
          by_cases c2 : T k = 47
          · refine tf_go hx ftX11_boardFault 3 [true] 4 [some (.ref o), some (.int (nI (tf_bs T k))), some (.int ((nI k) + 1)), some (.int (nI (T k)))] [] S rfl ⟨by decide, by decide, rfl⟩ ⟨trivial, (tf_eqT (a := (T k)) (b := 47) rfl (rfl : (47 : Int32) = nI 47) (by have := hT2 k; omega))⟩ ?_
            rw [show ((nI k) + 1) = nI (k + 1) from (tf_add (a := k) (b := 1) rfl (rfl : (1 : Int32) = nI 1))]
            have se : tf_bs T (k + 1) = tf_bs T k := by rw [tf_bs_s, if_neg (fun h => h.1 c1)]
            refine tf_fgt [some (.ref o), some (.int (nI (tf_bs T k))), some (.int (nI (k + 1))), none] (by simp [tf_lss]) ?_
            rw [← se]
            exact ih (k + 1) (by omega) (by rw [← he, tf_fst_n (by unfold tf_bb; simp [show ¬ n ≤ k by omega, c1, c2])]) (by omega)
          · refine tf_go hx ftX11_boardFault 2 [false] 46 [some (.ref o), some (.int (nI (tf_bs T k))), some (.int (nI k)), some (.int (nI (T k)))] [.int (nI k)] S rfl ⟨by decide, by decide, rfl⟩ ⟨trivial, (tf_eqF (a := (T k)) (b := 47) rfl (rfl : (47 : Int32) = nI 47) (by have := hT2 k; omega) (by have := hT2 k; omega) (by have := hT2 k; omega))⟩ ?_
            exact tf_ret ftX11_boardFault hR rfl ⟨by decide, by decide⟩ rfl rfl (by rw [← he, tf_fst_y (by unfold tf_bb; simp [c1, c2]), if_pos (by omega), tf_on_y (by omega)]; rfl)
        · refine tf_go hx ftX11_boardFault 1 [true] 47 [some (.ref o), some (.int (nI (tf_bs T k))), some (.int (nI k)), some (.int (nI (T k)))] [] S rfl ⟨by decide, by decide, rfl⟩ ⟨trivial, (tf_eqF (a := (k % 11)) (b := 10) rfl (rfl : (10 : Int32) = nI 10) (by omega) (by omega) (by omega))⟩ ?_
          refine tf_go hx ftX11_boardFault 2 [] 50 [some (.ref o), some (.int (nI (tf_bs T k))), some (.int (nI k)), some (.int (nI (T k)))] [.int 46, .int (nI (T k))] S rfl ⟨by decide, by decide, rfl⟩ trivial ?_
          by_cases c2 : T k = 46
          · refine tf_go hx ftX11_boardFault 1 [true] 60 [some (.ref o), some (.int (nI (tf_bs T k))), some (.int (nI k)), some (.int (nI (T k)))] [] S rfl ⟨by decide, by decide, rfl⟩ ⟨trivial, (tf_eqT (a := (T k)) (b := 46) rfl (rfl : (46 : Int32) = nI 46) (by have := hT2 k; omega))⟩ ?_
            by_cases c3 : tf_lt (T k) = true
            · exact absurd (tf_lt_y c3).1 (by omega)
            · refine tf_go hx ftX11_boardFault 1 [] 61 [some (.ref o), some (.int (nI (tf_bs T k))), some (.int (nI k)), some (.int (nI (T k)))] [.int (nI (T k))] S rfl ⟨by decide, by decide, rfl⟩ trivial ?_
              refine tf_cS hx ftX11_boardFault (nx := 64) (As := [.int (nI (T k))]) (rest := []) (st2 := [.int (if tf_lt (T k) = true then 1 else 0)]) ((by have h := m_isLetter (G := G) (S := S) (nI (T k)); rw [tf_lt_i (hT2 _)] at h; exact h)) rfl lX11_36 rfl ⟨rfl, by decide, by decide, by decide, rfl, rfl⟩ ?_
              rw [if_neg c3]
              refine tf_go hx ftX11_boardFault 3 [true] 83 [some (.ref o), some (.int (nI (tf_bs T k))), some (.int (nI k)), some (.int (nI (T k)))] [.int (nI (T k)), .int (nI (tf_bs T k))] S rfl ⟨by decide, by decide, rfl⟩ ⟨trivial, (by decide)⟩ ?_
              refine tf_cS hx ftX11_boardFault (nx := 86) (As := [.int (nI (T k))]) (rest := [.int (nI (tf_bs T k))]) (st2 := [.int (if tf_lt (T k) = true then 1 else 0), .int (nI (tf_bs T k))]) ((by have h := m_isLetter (G := G) (S := S) (nI (T k)); rw [tf_lt_i (hT2 _)] at h; exact h)) rfl lX11_36 rfl ⟨rfl, by decide, by decide, by decide, rfl, rfl⟩ ?_
              rw [if_neg c3]
              refine tf_go hx ftX11_boardFault 1 [true] 98 [some (.ref o), some (.int (nI (tf_bs T k))), some (.int (nI k)), some (.int (nI (T k)))] [.int (nI (tf_bs T k))] S rfl ⟨by decide, by decide, rfl⟩ ⟨trivial, (by decide)⟩ ?_
              refine tf_go hx ftX11_boardFault 2 [] 100 [some (.ref o), some (.int (nI (tf_bs T k))), some (.int (nI k)), some (.int (nI (T k)))] [.int ((nI (tf_bs T k)) ||| 0)] S rfl ⟨by decide, by decide, rfl⟩ trivial ?_
              rw [Int32.or_zero]
              refine tf_go hx ftX11_boardFault 3 [] 4 [some (.ref o), some (.int (nI (tf_bs T k))), some (.int ((nI k) + 1)), some (.int (nI (T k)))] [] S rfl ⟨by decide, by decide, rfl⟩ trivial ?_
              rw [show ((nI k) + 1) = nI (k + 1) from (tf_add (a := k) (b := 1) rfl (rfl : (1 : Int32) = nI 1))]
              have se : tf_bs T (k + 1) = tf_bs T k := by rw [tf_bs_s, if_neg (fun h => c3 h.2)]
              refine tf_fgt [some (.ref o), some (.int (nI (tf_bs T k))), some (.int (nI (k + 1))), none] (by simp [tf_lss]) ?_
              rw [← se]
              exact ih (k + 1) (by omega) (by rw [← he, tf_fst_n (by unfold tf_bb; simp [show ¬ n ≤ k by omega, c1, c3, c2, show tf_lt 46 = false from by decide])]) (by omega)
          · refine tf_go hx ftX11_boardFault 1 [false] 53 [some (.ref o), some (.int (nI (tf_bs T k))), some (.int (nI k)), some (.int (nI (T k)))] [] S rfl ⟨by decide, by decide, rfl⟩ ⟨trivial, (tf_eqF (a := (T k)) (b := 46) rfl (rfl : (46 : Int32) = nI 46) (by have := hT2 k; omega) (by have := hT2 k; omega) (by have := hT2 k; omega))⟩ ?_
            refine tf_go hx ftX11_boardFault 1 [] 54 [some (.ref o), some (.int (nI (tf_bs T k))), some (.int (nI k)), some (.int (nI (T k)))] [.int (nI (T k))] S rfl ⟨by decide, by decide, rfl⟩ trivial ?_
            refine tf_cS hx ftX11_boardFault (nx := 57) (As := [.int (nI (T k))]) (rest := []) (st2 := [.int (if tf_lt (T k) = true then 1 else 0)]) ((by have h := m_isLetter (G := G) (S := S) (nI (T k)); rw [tf_lt_i (hT2 _)] at h; exact h)) rfl lX11_36 rfl ⟨rfl, by decide, by decide, by decide, rfl, rfl⟩ ?_
            by_cases c3 : tf_lt (T k) = true
            · rw [if_pos c3]
              refine tf_go hx ftX11_boardFault 1 [false] 60 [some (.ref o), some (.int (nI (tf_bs T k))), some (.int (nI k)), some (.int (nI (T k)))] [] S rfl ⟨by decide, by decide, rfl⟩ ⟨trivial, (by decide)⟩ ?_
              obtain ⟨l1, l2⟩ := tf_lt_y c3
              refine tf_go hx ftX11_boardFault 1 [] 61 [some (.ref o), some (.int (nI (tf_bs T k))), some (.int (nI k)), some (.int (nI (T k)))] [.int (nI (T k))] S rfl ⟨by decide, by decide, rfl⟩ trivial ?_
              refine tf_cS hx ftX11_boardFault (nx := 64) (As := [.int (nI (T k))]) (rest := []) (st2 := [.int (if tf_lt (T k) = true then 1 else 0)]) ((by have h := m_isLetter (G := G) (S := S) (nI (T k)); rw [tf_lt_i (hT2 _)] at h; exact h)) rfl lX11_36 rfl ⟨rfl, by decide, by decide, by decide, rfl, rfl⟩ ?_
              rw [if_pos c3]
              refine tf_go hx ftX11_boardFault 1 [false] 67 [some (.ref o), some (.int (nI (tf_bs T k))), some (.int (nI k)), some (.int (nI (T k)))] [] S rfl ⟨by decide, by decide, rfl⟩ ⟨trivial, (by decide)⟩ ?_
              refine tf_go hx ftX11_boardFault 7 [] 75 [some (.ref o), some (.int (nI (tf_bs T k))), some (.int (nI k)), some (.int (nI (T k)))] [.int (((nI (tf_bs T k)) >>> (((nI (T k)) - 97) &&& 31)) &&& 1)] S rfl ⟨by decide, by decide, rfl⟩ trivial ?_
              rw [show ((nI (T k)) - 97) = nI ((T k) - 97) from (tf_sub (a := (T k)) (b := 97) rfl (rfl : (97 : Int32) = nI 97) (by have := hT2 k; omega))]
              rw [tf_tst sl (show T k - 97 < 26 by omega)]
              refine tf_go hx ftX11_boardFault 1 [] 76 [some (.ref o), some (.int (nI (tf_bs T k))), some (.int (nI k)), some (.int (nI (T k)))] [.int 1, .int (nI (if (tf_bs T k).testBit (T k - 97) = true then 1 else 0))] S rfl ⟨by decide, by decide, rfl⟩ trivial ?_
              by_cases c4 : (tf_bs T k).testBit (T k - 97) = true
              · rw [if_pos c4]
                refine tf_go hx ftX11_boardFault 2 [false] 80 [some (.ref o), some (.int (nI (tf_bs T k))), some (.int (nI k)), some (.int (nI (T k)))] [.int (nI k)] S rfl ⟨by decide, by decide, rfl⟩ ⟨trivial, (tf_neF (a := 1) (b := 1) rfl (rfl : (1 : Int32) = nI 1) (by omega))⟩ ?_
                exact tf_ret ftX11_boardFault hR rfl ⟨by decide, by decide⟩ rfl rfl (by rw [← he, tf_fst_y (by unfold tf_bb; simp [c1, c3, c4, c2]), if_pos (by omega), tf_on_y (by omega)]; rfl)
              · rw [if_neg c4]
                refine tf_go hx ftX11_boardFault 1 [true] 81 [some (.ref o), some (.int (nI (tf_bs T k))), some (.int (nI k)), some (.int (nI (T k)))] [] S rfl ⟨by decide, by decide, rfl⟩ ⟨trivial, (tf_eqF (a := 0) (b := 1) rfl (rfl : (1 : Int32) = nI 1) (by omega) (by omega) (by omega))⟩ ?_
                refine tf_go hx ftX11_boardFault 2 [] 83 [some (.ref o), some (.int (nI (tf_bs T k))), some (.int (nI k)), some (.int (nI (T k)))] [.int (nI (T k)), .int (nI (tf_bs T k))] S rfl ⟨by decide, by decide, rfl⟩ trivial ?_
                refine tf_cS hx ftX11_boardFault (nx := 86) (As := [.int (nI (T k))]) (rest := [.int (nI (tf_bs T k))]) (st2 := [.int (if tf_lt (T k) = true then 1 else 0), .int (nI (tf_bs T k))]) ((by have h := m_isLetter (G := G) (S := S) (nI (T k)); rw [tf_lt_i (hT2 _)] at h; exact h)) rfl lX11_36 rfl ⟨rfl, by decide, by decide, by decide, rfl, rfl⟩ ?_
                rw [if_pos c3]
                refine tf_go hx ftX11_boardFault 1 [false] 89 [some (.ref o), some (.int (nI (tf_bs T k))), some (.int (nI k)), some (.int (nI (T k)))] [.int (nI (tf_bs T k))] S rfl ⟨by decide, by decide, rfl⟩ ⟨trivial, (by decide)⟩ ?_
                refine tf_go hx ftX11_boardFault 6 [] 99 [some (.ref o), some (.int (nI (tf_bs T k))), some (.int (nI k)), some (.int (nI (T k)))] [.int (1 <<< (((nI (T k)) - 97) &&& 31)), .int (nI (tf_bs T k))] S rfl ⟨by decide, by decide, rfl⟩ trivial ?_
                rw [show ((nI (T k)) - 97) = nI ((T k) - 97) from (tf_sub (a := (T k)) (b := 97) rfl (rfl : (97 : Int32) = nI 97) (by have := hT2 k; omega))]
                rw [tf_shl (show T k - 97 < 26 by omega)]
                refine tf_go hx ftX11_boardFault 1 [] 100 [some (.ref o), some (.int (nI (tf_bs T k))), some (.int (nI k)), some (.int (nI (T k)))] [.int ((nI (tf_bs T k)) ||| (nI (2 ^ (T k - 97))))] S rfl ⟨by decide, by decide, rfl⟩ trivial ?_
                rw [tf_or]
                refine tf_go hx ftX11_boardFault 3 [] 4 [some (.ref o), some (.int (nI (tf_bs T k ||| 2 ^ (T k - 97)))), some (.int ((nI k) + 1)), some (.int (nI (T k)))] [] S rfl ⟨by decide, by decide, rfl⟩ trivial ?_
                rw [show ((nI k) + 1) = nI (k + 1) from (tf_add (a := k) (b := 1) rfl (rfl : (1 : Int32) = nI 1))]
                have se : tf_bs T (k + 1) = tf_bs T k ||| 2 ^ (T k - 97) := by rw [tf_bs_s, if_pos ⟨c1, c3⟩]
                refine tf_fgt [some (.ref o), some (.int (nI (tf_bs T k ||| 2 ^ (T k - 97)))), some (.int (nI (k + 1))), none] (by simp [tf_lss]) ?_
                rw [← se]
                exact ih (k + 1) (by omega) (by rw [← he, tf_fst_n (by unfold tf_bb; simp [show ¬ n ≤ k by omega, c1, c3, c4, c2])]) (by omega)
            · rw [if_neg c3]
              refine tf_go hx ftX11_boardFault 2 [true] 80 [some (.ref o), some (.int (nI (tf_bs T k))), some (.int (nI k)), some (.int (nI (T k)))] [.int (nI k)] S rfl ⟨by decide, by decide, rfl⟩ ⟨trivial, (by decide)⟩ ?_
              exact tf_ret ftX11_boardFault hR rfl ⟨by decide, by decide⟩ rfl rfl (by rw [← he, tf_fst_y (by unfold tf_bb; simp [c1, c2, c3]), if_pos (by omega), tf_on_y (by omega)]; rfl)
      · refine tf_go hx ftX11_boardFault 3 [false] 22 [some (.ref o), some (.int (nI (tf_bs T k))), some (.int (nI k)), none] [.int (S o 5)] S rfl ⟨by decide, by decide, rfl⟩ ⟨⟨trivial, (tf_ltF (a := k) (b := n) rfl rfl (by omega) (by omega) (by omega))⟩, (by first | assumption | rfl | decide | omega)⟩ ?_
        rw [show (S o 5) = nI n from hn]
        exact tf_ret ftX11_boardFault hR rfl ⟨by decide, by decide⟩ rfl rfl (by rw [← he, tf_fst_y (by unfold tf_bb; simp; omega), if_pos (by omega), tf_on_y (by omega), show k = n by omega]; rfl)
  exact loop 32 0 (by omega) rfl (by omega)
end
