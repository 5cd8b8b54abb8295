-- ===== PART A: goes FIRST, ahead of the names: the tables' words, and 'selects' of the private methods out of them =====
/-- a private method of a class that the tables say can be made, by its rows of tables_1 -/
def lw_okq (q : MethodName × Nat) : Prop := (q.1.cls ≠ "java/lang/invoke/MethodHandle" ∧ q.1.cls ≠ "java/lang/invoke/VarHandle") ∧ Cond.instantiable q.1.cls q.2 ∈ tables_1 ∧ Cond.privateMethod q.1 ∈ tables_1 ∧ Cond.instanceMethod q.1 ∈ tables_1
theorem lw_p0 : lw_okq (⟨"TenFingers$Board", "empty", "()V"⟩, 2) := ⟨⟨by decide +kernel, by decide +kernel⟩, List.mem_of_getElem? (i := 30) (by decide +kernel), List.mem_of_getElem? (i := 36) (by decide +kernel), List.mem_of_getElem? (i := 37) (by decide +kernel)⟩
theorem lw_p1 : lw_okq (⟨"TenFingers", "refuse", "(I)I"⟩, 7) := ⟨⟨by decide +kernel, by decide +kernel⟩, List.mem_of_getElem? (i := 15) (by decide +kernel), List.mem_of_getElem? (i := 186) (by decide +kernel), List.mem_of_getElem? (i := 187) (by decide +kernel)⟩
theorem lw_p2 : lw_okq (⟨"TenFingers$Board", "lay", "(II)V"⟩, 2) := ⟨⟨by decide +kernel, by decide +kernel⟩, List.mem_of_getElem? (i := 30) (by decide +kernel), List.mem_of_getElem? (i := 222) (by decide +kernel), List.mem_of_getElem? (i := 223) (by decide +kernel)⟩
theorem lw_p3 : lw_okq (⟨"TenFingers$Words", "noWord", "(I)Z"⟩, 3) := ⟨⟨by decide +kernel, by decide +kernel⟩, List.mem_of_getElem? (i := 77) (by decide +kernel), List.mem_of_getElem? (i := 334) (by decide +kernel), List.mem_of_getElem? (i := 335) (by decide +kernel)⟩
theorem lw_p4 : lw_okq (⟨"TenFingers$Pieces", "addHundredths", "(II)V"⟩, 4) := ⟨⟨by decide +kernel, by decide +kernel⟩, List.mem_of_getElem? (i := 123) (by decide +kernel), List.mem_of_getElem? (i := 370) (by decide +kernel), List.mem_of_getElem? (i := 371) (by decide +kernel)⟩
theorem lw_p5 : lw_okq (⟨"TenFingers", "timeOfMeant", "(IIZ)I"⟩, 7) := ⟨⟨by decide +kernel, by decide +kernel⟩, List.mem_of_getElem? (i := 15) (by decide +kernel), List.mem_of_getElem? (i := 399) (by decide +kernel), List.mem_of_getElem? (i := 400) (by decide +kernel)⟩
theorem lw_p6 : lw_okq (⟨"TenFingers", "bestExchange", "(II)I"⟩, 7) := ⟨⟨by decide +kernel, by decide +kernel⟩, List.mem_of_getElem? (i := 15) (by decide +kernel), List.mem_of_getElem? (i := 485) (by decide +kernel), List.mem_of_getElem? (i := 486) (by decide +kernel)⟩
theorem lw_p7 : lw_okq (⟨"TenFingers$Strokes", "gapAt", "(ILTenFingers$Hand;)I"⟩, 2) := ⟨⟨by decide +kernel, by decide +kernel⟩, List.mem_of_getElem? (i := 144) (by decide +kernel), List.mem_of_getElem? (i := 522) (by decide +kernel), List.mem_of_getElem? (i := 523) (by decide +kernel)⟩
theorem lw_p8 : lw_okq (⟨"TenFingers", "handNearest", "()I"⟩, 7) := ⟨⟨by decide +kernel, by decide +kernel⟩, List.mem_of_getElem? (i := 15) (by decide +kernel), List.mem_of_getElem? (i := 531) (by decide +kernel), List.mem_of_getElem? (i := 532) (by decide +kernel)⟩
theorem lw_p9 : lw_okq (⟨"TenFingers$Strokes", "showsLaw", "(II)Z"⟩, 2) := ⟨⟨by decide +kernel, by decide +kernel⟩, List.mem_of_getElem? (i := 144) (by decide +kernel), List.mem_of_getElem? (i := 543) (by decide +kernel), List.mem_of_getElem? (i := 544) (by decide +kernel)⟩
theorem lw_p10 : lw_okq (⟨"TenFingers$Strokes", "acheAt", "(I)I"⟩, 2) := ⟨⟨by decide +kernel, by decide +kernel⟩, List.mem_of_getElem? (i := 144) (by decide +kernel), List.mem_of_getElem? (i := 558) (by decide +kernel), List.mem_of_getElem? (i := 559) (by decide +kernel)⟩
theorem lw_p11 : lw_okq (⟨"TenFingers", "allAtPace", "(III)I"⟩, 7) := ⟨⟨by decide +kernel, by decide +kernel⟩, List.mem_of_getElem? (i := 15) (by decide +kernel), List.mem_of_getElem? (i := 575) (by decide +kernel), List.mem_of_getElem? (i := 576) (by decide +kernel)⟩
theorem lw_p12 : lw_okq (⟨"TenFingers", "refusalsOf", "(I)I"⟩, 7) := ⟨⟨by decide +kernel, by decide +kernel⟩, List.mem_of_getElem? (i := 15) (by decide +kernel), List.mem_of_getElem? (i := 620) (by decide +kernel), List.mem_of_getElem? (i := 621) (by decide +kernel)⟩
theorem lw_p13 : lw_okq (⟨"TenFingersModel", "refuse", "(I)I"⟩, 6) := ⟨⟨by decide +kernel, by decide +kernel⟩, List.mem_of_getElem? (i := 624) (by decide +kernel), List.mem_of_getElem? (i := 653) (by decide +kernel), List.mem_of_getElem? (i := 654) (by decide +kernel)⟩
theorem lw_p14 : lw_okq (⟨"TenFingersModel", "boardFault", "()I"⟩, 6) := ⟨⟨by decide +kernel, by decide +kernel⟩, List.mem_of_getElem? (i := 624) (by decide +kernel), List.mem_of_getElem? (i := 668) (by decide +kernel), List.mem_of_getElem? (i := 669) (by decide +kernel)⟩
theorem lw_p15 : lw_okq (⟨"TenFingersModel", "lettersFault", "(Z)I"⟩, 6) := ⟨⟨by decide +kernel, by decide +kernel⟩, List.mem_of_getElem? (i := 624) (by decide +kernel), List.mem_of_getElem? (i := 679) (by decide +kernel), List.mem_of_getElem? (i := 680) (by decide +kernel)⟩
def lw_privs_1 : List (MethodName × Nat) := [(⟨"TenFingers$Board", "empty", "()V"⟩, 2), (⟨"TenFingers", "refuse", "(I)I"⟩, 7), (⟨"TenFingers$Board", "lay", "(II)V"⟩, 2), (⟨"TenFingers$Words", "noWord", "(I)Z"⟩, 3), (⟨"TenFingers$Pieces", "addHundredths", "(II)V"⟩, 4), (⟨"TenFingers", "timeOfMeant", "(IIZ)I"⟩, 7), (⟨"TenFingers", "bestExchange", "(II)I"⟩, 7), (⟨"TenFingers$Strokes", "gapAt", "(ILTenFingers$Hand;)I"⟩, 2), (⟨"TenFingers", "handNearest", "()I"⟩, 7), (⟨"TenFingers$Strokes", "showsLaw", "(II)Z"⟩, 2), (⟨"TenFingers$Strokes", "acheAt", "(I)I"⟩, 2), (⟨"TenFingers", "allAtPace", "(III)I"⟩, 7), (⟨"TenFingers", "refusalsOf", "(I)I"⟩, 7), (⟨"TenFingersModel", "refuse", "(I)I"⟩, 6), (⟨"TenFingersModel", "boardFault", "()I"⟩, 6), (⟨"TenFingersModel", "lettersFault", "(Z)I"⟩, 6)]
theorem lw_r1 : ∀ q ∈ lw_privs_1, lw_okq q := List.forall_mem_cons.mpr ⟨lw_p0, List.forall_mem_cons.mpr ⟨lw_p1, List.forall_mem_cons.mpr ⟨lw_p2, List.forall_mem_cons.mpr ⟨lw_p3, List.forall_mem_cons.mpr ⟨lw_p4, List.forall_mem_cons.mpr ⟨lw_p5, List.forall_mem_cons.mpr ⟨lw_p6, List.forall_mem_cons.mpr ⟨lw_p7, List.forall_mem_cons.mpr ⟨lw_p8, List.forall_mem_cons.mpr ⟨lw_p9, List.forall_mem_cons.mpr ⟨lw_p10, List.forall_mem_cons.mpr ⟨lw_p11, List.forall_mem_cons.mpr ⟨lw_p12, List.forall_mem_cons.mpr ⟨lw_p13, List.forall_mem_cons.mpr ⟨lw_p14, List.forall_mem_cons.mpr ⟨lw_p15, fun _ h => absurd h List.not_mem_nil⟩⟩⟩⟩⟩⟩⟩⟩⟩⟩⟩⟩⟩⟩⟩⟩
theorem lw_p16 : lw_okq (⟨"TenFingersModel", "keyAt", "(II)I"⟩, 6) := ⟨⟨by decide +kernel, by decide +kernel⟩, List.mem_of_getElem? (i := 624) (by decide +kernel), List.mem_of_getElem? (i := 691) (by decide +kernel), List.mem_of_getElem? (i := 692) (by decide +kernel)⟩
theorem lw_p17 : lw_okq (⟨"TenFingersModel", "gapOf", "(IIIZ)I"⟩, 6) := ⟨⟨by decide +kernel, by decide +kernel⟩, List.mem_of_getElem? (i := 624) (by decide +kernel), List.mem_of_getElem? (i := 723) (by decide +kernel), List.mem_of_getElem? (i := 724) (by decide +kernel)⟩
theorem lw_p18 : lw_okq (⟨"TenFingersModel", "wordAt", "(I)I"⟩, 6) := ⟨⟨by decide +kernel, by decide +kernel⟩, List.mem_of_getElem? (i := 624) (by decide +kernel), List.mem_of_getElem? (i := 745) (by decide +kernel), List.mem_of_getElem? (i := 746) (by decide +kernel)⟩
theorem lw_p19 : lw_okq (⟨"TenFingersModel", "stands", "(II)Z"⟩, 6) := ⟨⟨by decide +kernel, by decide +kernel⟩, List.mem_of_getElem? (i := 624) (by decide +kernel), List.mem_of_getElem? (i := 749) (by decide +kernel), List.mem_of_getElem? (i := 750) (by decide +kernel)⟩
theorem lw_p20 : lw_okq (⟨"TenFingersModel", "sizeOf", "(I)I"⟩, 6) := ⟨⟨by decide +kernel, by decide +kernel⟩, List.mem_of_getElem? (i := 624) (by decide +kernel), List.mem_of_getElem? (i := 753) (by decide +kernel), List.mem_of_getElem? (i := 754) (by decide +kernel)⟩
theorem lw_p21 : lw_okq (⟨"TenFingersModel", "timeOf", "(IIZ)I"⟩, 6) := ⟨⟨by decide +kernel, by decide +kernel⟩, List.mem_of_getElem? (i := 624) (by decide +kernel), List.mem_of_getElem? (i := 765) (by decide +kernel), List.mem_of_getElem? (i := 766) (by decide +kernel)⟩
theorem lw_p22 : lw_okq (⟨"TenFingersModel", "gapAt", "(IIIZ)I"⟩, 6) := ⟨⟨by decide +kernel, by decide +kernel⟩, List.mem_of_getElem? (i := 624) (by decide +kernel), List.mem_of_getElem? (i := 769) (by decide +kernel), List.mem_of_getElem? (i := 770) (by decide +kernel)⟩
theorem lw_p23 : lw_okq (⟨"TenFingersModel", "whereOf", "(II)I"⟩, 6) := ⟨⟨by decide +kernel, by decide +kernel⟩, List.mem_of_getElem? (i := 624) (by decide +kernel), List.mem_of_getElem? (i := 777) (by decide +kernel), List.mem_of_getElem? (i := 778) (by decide +kernel)⟩
theorem lw_p24 : lw_okq (⟨"TenFingersModel", "slipAt", "()I"⟩, 6) := ⟨⟨by decide +kernel, by decide +kernel⟩, List.mem_of_getElem? (i := 624) (by decide +kernel), List.mem_of_getElem? (i := 781) (by decide +kernel), List.mem_of_getElem? (i := 782) (by decide +kernel)⟩
theorem lw_p25 : lw_okq (⟨"TenFingersModel", "swapAt", "()I"⟩, 6) := ⟨⟨by decide +kernel, by decide +kernel⟩, List.mem_of_getElem? (i := 624) (by decide +kernel), List.mem_of_getElem? (i := 785) (by decide +kernel), List.mem_of_getElem? (i := 786) (by decide +kernel)⟩
theorem lw_p26 : lw_okq (⟨"TenFingersModel", "doubleAt", "()I"⟩, 6) := ⟨⟨by decide +kernel, by decide +kernel⟩, List.mem_of_getElem? (i := 624) (by decide +kernel), List.mem_of_getElem? (i := 789) (by decide +kernel), List.mem_of_getElem? (i := 790) (by decide +kernel)⟩
theorem lw_p27 : lw_okq (⟨"TenFingersModel", "byKeys", "(IZ)I"⟩, 6) := ⟨⟨by decide +kernel, by decide +kernel⟩, List.mem_of_getElem? (i := 624) (by decide +kernel), List.mem_of_getElem? (i := 793) (by decide +kernel), List.mem_of_getElem? (i := 794) (by decide +kernel)⟩
theorem lw_p28 : lw_okq (⟨"TenFingersModel", "earlyAt", "()I"⟩, 6) := ⟨⟨by decide +kernel, by decide +kernel⟩, List.mem_of_getElem? (i := 624) (by decide +kernel), List.mem_of_getElem? (i := 797) (by decide +kernel), List.mem_of_getElem? (i := 798) (by decide +kernel)⟩
theorem lw_p29 : lw_okq (⟨"TenFingersModel", "lostAt", "()I"⟩, 6) := ⟨⟨by decide +kernel, by decide +kernel⟩, List.mem_of_getElem? (i := 624) (by decide +kernel), List.mem_of_getElem? (i := 801) (by decide +kernel), List.mem_of_getElem? (i := 802) (by decide +kernel)⟩
theorem lw_p30 : lw_okq (⟨"TenFingersModel", "caughtAt", "()I"⟩, 6) := ⟨⟨by decide +kernel, by decide +kernel⟩, List.mem_of_getElem? (i := 624) (by decide +kernel), List.mem_of_getElem? (i := 805) (by decide +kernel), List.mem_of_getElem? (i := 806) (by decide +kernel)⟩
theorem lw_p31 : lw_okq (⟨"TenFingersModel", "changes", "(III)V"⟩, 6) := ⟨⟨by decide +kernel, by decide +kernel⟩, List.mem_of_getElem? (i := 624) (by decide +kernel), List.mem_of_getElem? (i := 817) (by decide +kernel), List.mem_of_getElem? (i := 818) (by decide +kernel)⟩
def lw_privs_2 : List (MethodName × Nat) := [(⟨"TenFingersModel", "keyAt", "(II)I"⟩, 6), (⟨"TenFingersModel", "gapOf", "(IIIZ)I"⟩, 6), (⟨"TenFingersModel", "wordAt", "(I)I"⟩, 6), (⟨"TenFingersModel", "stands", "(II)Z"⟩, 6), (⟨"TenFingersModel", "sizeOf", "(I)I"⟩, 6), (⟨"TenFingersModel", "timeOf", "(IIZ)I"⟩, 6), (⟨"TenFingersModel", "gapAt", "(IIIZ)I"⟩, 6), (⟨"TenFingersModel", "whereOf", "(II)I"⟩, 6), (⟨"TenFingersModel", "slipAt", "()I"⟩, 6), (⟨"TenFingersModel", "swapAt", "()I"⟩, 6), (⟨"TenFingersModel", "doubleAt", "()I"⟩, 6), (⟨"TenFingersModel", "byKeys", "(IZ)I"⟩, 6), (⟨"TenFingersModel", "earlyAt", "()I"⟩, 6), (⟨"TenFingersModel", "lostAt", "()I"⟩, 6), (⟨"TenFingersModel", "caughtAt", "()I"⟩, 6), (⟨"TenFingersModel", "changes", "(III)V"⟩, 6)]
theorem lw_r2 : ∀ q ∈ lw_privs_2, lw_okq q := List.forall_mem_cons.mpr ⟨lw_p16, List.forall_mem_cons.mpr ⟨lw_p17, List.forall_mem_cons.mpr ⟨lw_p18, List.forall_mem_cons.mpr ⟨lw_p19, List.forall_mem_cons.mpr ⟨lw_p20, List.forall_mem_cons.mpr ⟨lw_p21, List.forall_mem_cons.mpr ⟨lw_p22, List.forall_mem_cons.mpr ⟨lw_p23, List.forall_mem_cons.mpr ⟨lw_p24, List.forall_mem_cons.mpr ⟨lw_p25, List.forall_mem_cons.mpr ⟨lw_p26, List.forall_mem_cons.mpr ⟨lw_p27, List.forall_mem_cons.mpr ⟨lw_p28, List.forall_mem_cons.mpr ⟨lw_p29, List.forall_mem_cons.mpr ⟨lw_p30, List.forall_mem_cons.mpr ⟨lw_p31, fun _ h => absurd h List.not_mem_nil⟩⟩⟩⟩⟩⟩⟩⟩⟩⟩⟩⟩⟩⟩⟩⟩
theorem lw_p32 : lw_okq (⟨"TenFingersModel", "betterOf", "(II)I"⟩, 6) := ⟨⟨by decide +kernel, by decide +kernel⟩, List.mem_of_getElem? (i := 624) (by decide +kernel), List.mem_of_getElem? (i := 825) (by decide +kernel), List.mem_of_getElem? (i := 826) (by decide +kernel)⟩
theorem lw_p33 : lw_okq (⟨"TenFingersModel", "farOf", "(II)I"⟩, 6) := ⟨⟨by decide +kernel, by decide +kernel⟩, List.mem_of_getElem? (i := 624) (by decide +kernel), List.mem_of_getElem? (i := 849) (by decide +kernel), List.mem_of_getElem? (i := 850) (by decide +kernel)⟩
theorem lw_p34 : lw_okq (⟨"TenFingersModel", "acheAt", "(II)I"⟩, 6) := ⟨⟨by decide +kernel, by decide +kernel⟩, List.mem_of_getElem? (i := 624) (by decide +kernel), List.mem_of_getElem? (i := 865) (by decide +kernel), List.mem_of_getElem? (i := 866) (by decide +kernel)⟩
theorem lw_p35 : lw_okq (⟨"TenFingersModel", "paceOf", "(IIII)I"⟩, 6) := ⟨⟨by decide +kernel, by decide +kernel⟩, List.mem_of_getElem? (i := 624) (by decide +kernel), List.mem_of_getElem? (i := 877) (by decide +kernel), List.mem_of_getElem? (i := 878) (by decide +kernel)⟩
def lw_privs_3 : List (MethodName × Nat) := [(⟨"TenFingersModel", "betterOf", "(II)I"⟩, 6), (⟨"TenFingersModel", "farOf", "(II)I"⟩, 6), (⟨"TenFingersModel", "acheAt", "(II)I"⟩, 6), (⟨"TenFingersModel", "paceOf", "(IIII)I"⟩, 6)]
theorem lw_r3 : ∀ q ∈ lw_privs_3, lw_okq q := List.forall_mem_cons.mpr ⟨lw_p32, List.forall_mem_cons.mpr ⟨lw_p33, List.forall_mem_cons.mpr ⟨lw_p34, List.forall_mem_cons.mpr ⟨lw_p35, fun _ h => absurd h List.not_mem_nil⟩⟩⟩⟩
def lw_privs : List (MethodName × Nat) := lw_privs_1 ++ (lw_privs_2 ++ (lw_privs_3))
def lw_tbl : List Cond := k2_sels lw_privs ++ tables_1
theorem lw_privs_ok : ∀ q ∈ lw_privs, lw_okq q := by
  show ∀ q ∈ lw_privs_1 ++ (lw_privs_2 ++ (lw_privs_3)), lw_okq q
  exact List.forall_mem_append.mpr ⟨lw_r1, List.forall_mem_append.mpr ⟨lw_r2, lw_r3⟩⟩

def RX0 : String := "TenFingers$Board"
def TX0 : u_T := fun k => match k with
  | 0 => ("TenFingers$Board", "letterOfKey", "[I", true)
  | _ => ("TenFingers$Board", "keyOfLetter", "[I", true)
def tyX0 : Nat → FieldType := fun k => match k with
  | 0 => .array .int
  | _ => .array .int
theorem nmX0 : ∀ a, a < 2 → ∀ b, b < 2 → a ≠ b → (TX0 a).2.1 ≠ (TX0 b).2.1 := by decide +kernel
theorem tyX0_ok : ∀ k, k < 2 → parseFieldDescriptor (TX0 k).2.2.1 = some (tyX0 k) := by decide +kernel
abbrev cX0_init : ByteArray := prog_2_method_1_code
def yX0_init : MethodName := ⟨RX0, "<init>", "()V"⟩
abbrev cX0_empty : ByteArray := prog_2_method_2_code
def yX0_empty : MethodName := ⟨RX0, "empty", "()V"⟩
abbrev cX0_letterAt : ByteArray := prog_2_method_3_code
def yX0_letterAt : MethodName := ⟨RX0, "letterAt", "(I)I"⟩
abbrev cX0_keyAt : ByteArray := prog_2_method_4_code
def yX0_keyAt : MethodName := ⟨RX0, "keyAt", "(I)I"⟩
abbrev cX0_readFrom : ByteArray := prog_2_method_5_code
def yX0_readFrom : MethodName := ⟨RX0, "readFrom", "(LTenFingers$Series;)I"⟩
abbrev cX0_swap : ByteArray := prog_2_method_6_code
def yX0_swap : MethodName := ⟨RX0, "swap", "(II)V"⟩
abbrev cX0_lay : ByteArray := prog_2_method_7_code
def yX0_lay : MethodName := ⟨RX0, "lay", "(II)V"⟩
abbrev cX0_copyFrom : ByteArray := prog_2_method_8_code
def yX0_copyFrom : MethodName := ⟨RX0, "copyFrom", "(LTenFingers$Board;)V"⟩
def RX1 : String := "TenFingers$Hand"
def TX1 : u_T := fun k => match k with
  | _ => ("TenFingers$Hand", "laws", "[I", true)
def tyX1 : Nat → FieldType := fun k => match k with
  | _ => .array .int
theorem nmX1 : ∀ a, a < 1 → ∀ b, b < 1 → a ≠ b → (TX1 a).2.1 ≠ (TX1 b).2.1 := by decide +kernel
theorem tyX1_ok : ∀ k, k < 1 → parseFieldDescriptor (TX1 k).2.2.1 = some (tyX1 k) := by decide +kernel
abbrev cX1_init : ByteArray := prog_3_method_1_code
def yX1_init : MethodName := ⟨RX1, "<init>", "()V"⟩
abbrev cX1_changeLaw : ByteArray := prog_3_method_2_code
def yX1_changeLaw : MethodName := ⟨RX1, "changeLaw", "(II)I"⟩
abbrev cX1_gapTo : ByteArray := prog_3_method_3_code
def yX1_gapTo : MethodName := ⟨RX1, "gapTo", "(IIZ)I"⟩
abbrev cX1_copyFrom : ByteArray := prog_3_method_4_code
def yX1_copyFrom : MethodName := ⟨RX1, "copyFrom", "(LTenFingers$Hand;)V"⟩
def RX2 : String := "TenFingers$Keys"
def TX2 : u_T := fun k => match k with
  | _ => ("", "", "", false)
def tyX2 : Nat → FieldType := fun k => match k with
  | _ => .int
theorem nmX2 : ∀ a, a < 0 → ∀ b, b < 0 → a ≠ b → (TX2 a).2.1 ≠ (TX2 b).2.1 := by decide +kernel
theorem tyX2_ok : ∀ k, k < 0 → parseFieldDescriptor (TX2 k).2.2.1 = some (tyX2 k) := by decide +kernel
abbrev cX2_fingerBy : ByteArray := prog_4_method_2_code
def yX2_fingerBy : MethodName := ⟨RX2, "fingerBy", "(IZ)I"⟩
abbrev cX2_inRightHalf : ByteArray := prog_4_method_3_code
def yX2_inRightHalf : MethodName := ⟨RX2, "inRightHalf", "(I)Z"⟩
abbrev cX2_linesBetween : ByteArray := prog_4_method_4_code
def yX2_linesBetween : MethodName := ⟨RX2, "linesBetween", "(II)I"⟩
abbrev cX2_columnsBetween : ByteArray := prog_4_method_5_code
def yX2_columnsBetween : MethodName := ⟨RX2, "columnsBetween", "(II)I"⟩
abbrev cX2_lawBetween : ByteArray := prog_4_method_6_code
def yX2_lawBetween : MethodName := ⟨RX2, "lawBetween", "(IIZ)I"⟩
abbrev cX2_beside : ByteArray := prog_4_method_7_code
def yX2_beside : MethodName := ⟨RX2, "beside", "(II)Z"⟩
abbrev cX2_mirrored : ByteArray := prog_4_method_8_code
def yX2_mirrored : MethodName := ⟨RX2, "mirrored", "(II)Z"⟩
def RX3 : String := "TenFingers$Pieces"
def TX3 : u_T := fun k => match k with
  | 0 => ("TenFingers$Pieces", "begins", "LTenFingers$Series;", true)
  | 1 => ("TenFingers$Pieces", "lengths", "LTenFingers$Series;", true)
  | 2 => ("TenFingers$Pieces", "words", "LTenFingers$Series;", true)
  | _ => ("TenFingers$Pieces", "hundredths", "LTenFingers$Series;", true)
def tyX3 : Nat → FieldType := fun k => match k with
  | 0 => .object "TenFingers$Series"
  | 1 => .object "TenFingers$Series"
  | 2 => .object "TenFingers$Series"
  | _ => .object "TenFingers$Series"
theorem nmX3 : ∀ a, a < 4 → ∀ b, b < 4 → a ≠ b → (TX3 a).2.1 ≠ (TX3 b).2.1 := by decide +kernel
theorem tyX3_ok : ∀ k, k < 4 → parseFieldDescriptor (TX3 k).2.2.1 = some (tyX3 k) := by decide +kernel
abbrev cX3_init : ByteArray := prog_5_method_1_code
def yX3_init : MethodName := ⟨RX3, "<init>", "()V"⟩
abbrev cX3_cutFrom : ByteArray := prog_5_method_2_code
def yX3_cutFrom : MethodName := ⟨RX3, "cutFrom", "(LTenFingers$Series;LTenFingers$Words;)V"⟩
abbrev cX3_addHundredths : ByteArray := prog_5_method_3_code
def yX3_addHundredths : MethodName := ⟨RX3, "addHundredths", "(II)V"⟩
abbrev cX3_size : ByteArray := prog_5_method_4_code
def yX3_size : MethodName := ⟨RX3, "size", "()I"⟩
abbrev cX3_beginAt : ByteArray := prog_5_method_5_code
def yX3_beginAt : MethodName := ⟨RX3, "beginAt", "(I)I"⟩
abbrev cX3_lengthAt : ByteArray := prog_5_method_6_code
def yX3_lengthAt : MethodName := ⟨RX3, "lengthAt", "(I)I"⟩
abbrev cX3_wordAt : ByteArray := prog_5_method_7_code
def yX3_wordAt : MethodName := ⟨RX3, "wordAt", "(I)I"⟩
abbrev cX3_hundredthsAt : ByteArray := prog_5_method_8_code
def yX3_hundredthsAt : MethodName := ⟨RX3, "hundredthsAt", "(I)I"⟩
def RX4 : String := "TenFingers$Reading"
def TX4 : u_T := fun k => match k with
  | _ => ("", "", "", false)
def tyX4 : Nat → FieldType := fun k => match k with
  | _ => .int
theorem nmX4 : ∀ a, a < 0 → ∀ b, b < 0 → a ≠ b → (TX4 a).2.1 ≠ (TX4 b).2.1 := by decide +kernel
theorem tyX4_ok : ∀ k, k < 0 → parseFieldDescriptor (TX4 k).2.2.1 = some (tyX4 k) := by decide +kernel
abbrev cX4_isLetter : ByteArray := prog_6_method_2_code
def yX4_isLetter : MethodName := ⟨RX4, "isLetter", "(I)Z"⟩
abbrev cX4_boardFault : ByteArray := prog_6_method_3_code
def yX4_boardFault : MethodName := ⟨RX4, "boardFault", "(LTenFingers$Series;)I"⟩
abbrev cX4_textFault : ByteArray := prog_6_method_4_code
def yX4_textFault : MethodName := ⟨RX4, "textFault", "(LTenFingers$Series;Z)I"⟩
abbrev cX4_signsInto : ByteArray := prog_6_method_5_code
def yX4_signsInto : MethodName := ⟨RX4, "signsInto", "(LTenFingers$Series;LTenFingers$Series;)I"⟩
def RX5 : String := "TenFingers$Series"
def TX5 : u_T := fun k => match k with
  | 0 => ("TenFingers$Series", "items", "[I", true)
  | _ => ("TenFingers$Series", "size", "I", false)
def tyX5 : Nat → FieldType := fun k => match k with
  | 0 => .array .int
  | _ => .int
theorem nmX5 : ∀ a, a < 2 → ∀ b, b < 2 → a ≠ b → (TX5 a).2.1 ≠ (TX5 b).2.1 := by decide +kernel
theorem tyX5_ok : ∀ k, k < 2 → parseFieldDescriptor (TX5 k).2.2.1 = some (tyX5 k) := by decide +kernel
abbrev cX5_init : ByteArray := prog_7_method_1_code
def yX5_init : MethodName := ⟨RX5, "<init>", "(I)V"⟩
abbrev cX5_size : ByteArray := prog_7_method_2_code
def yX5_size : MethodName := ⟨RX5, "size", "()I"⟩
abbrev cX5_at : ByteArray := prog_7_method_3_code
def yX5_at : MethodName := ⟨RX5, "at", "(I)I"⟩
abbrev cX5_add : ByteArray := prog_7_method_4_code
def yX5_add : MethodName := ⟨RX5, "add", "(I)V"⟩
abbrev cX5_clear : ByteArray := prog_7_method_5_code
def yX5_clear : MethodName := ⟨RX5, "clear", "()V"⟩
abbrev cX5_copyFrom : ByteArray := prog_7_method_6_code
def yX5_copyFrom : MethodName := ⟨RX5, "copyFrom", "(LTenFingers$Series;)V"⟩
def RX6 : String := "TenFingers$Slips"
def TX6 : u_T := fun k => match k with
  | _ => ("", "", "", false)
def tyX6 : Nat → FieldType := fun k => match k with
  | _ => .int
theorem nmX6 : ∀ a, a < 0 → ∀ b, b < 0 → a ≠ b → (TX6 a).2.1 ≠ (TX6 b).2.1 := by decide +kernel
theorem tyX6_ok : ∀ k, k < 0 → parseFieldDescriptor (TX6 k).2.2.1 = some (tyX6 k) := by decide +kernel
abbrev cX6_placeOf : ByteArray := prog_8_method_2_code
def yX6_placeOf : MethodName := ⟨RX6, "placeOf", "(ILTenFingers$Series;LTenFingers$Series;LTenFingers$Board;)I"⟩
abbrev cX6_firstUnlike : ByteArray := prog_8_method_3_code
def yX6_firstUnlike : MethodName := ⟨RX6, "firstUnlike", "(LTenFingers$Series;LTenFingers$Series;)I"⟩
abbrev cX6_sameRest : ByteArray := prog_8_method_4_code
def yX6_sameRest : MethodName := ⟨RX6, "sameRest", "(LTenFingers$Series;ILTenFingers$Series;I)Z"⟩
abbrev cX6_slipPlace : ByteArray := prog_8_method_5_code
def yX6_slipPlace : MethodName := ⟨RX6, "slipPlace", "(LTenFingers$Series;LTenFingers$Series;)I"⟩
abbrev cX6_swappedPlace : ByteArray := prog_8_method_6_code
def yX6_swappedPlace : MethodName := ⟨RX6, "swappedPlace", "(LTenFingers$Series;LTenFingers$Series;)I"⟩
abbrev cX6_doubledPlace : ByteArray := prog_8_method_7_code
def yX6_doubledPlace : MethodName := ⟨RX6, "doubledPlace", "(LTenFingers$Series;LTenFingers$Series;)I"⟩
abbrev cX6_keyPlace : ByteArray := prog_8_method_8_code
def yX6_keyPlace : MethodName := ⟨RX6, "keyPlace", "(ILTenFingers$Series;LTenFingers$Series;LTenFingers$Board;)I"⟩
abbrev cX6_earlyPlace : ByteArray := prog_8_method_9_code
def yX6_earlyPlace : MethodName := ⟨RX6, "earlyPlace", "(LTenFingers$Series;LTenFingers$Series;)I"⟩
abbrev cX6_lostPlace : ByteArray := prog_8_method_10_code
def yX6_lostPlace : MethodName := ⟨RX6, "lostPlace", "(LTenFingers$Series;LTenFingers$Series;)I"⟩
abbrev cX6_caughtPlace : ByteArray := prog_8_method_11_code
def yX6_caughtPlace : MethodName := ⟨RX6, "caughtPlace", "(LTenFingers$Series;LTenFingers$Series;)I"⟩
def RX7 : String := "TenFingers$State"
def TX7 : u_T := fun k => match k with
  | 0 => ("TenFingers$State", "boards", "[LTenFingers$Board;", true)
  | 1 => ("TenFingers$State", "hands", "[LTenFingers$Hand;", true)
  | 2 => ("TenFingers$State", "meant", "LTenFingers$Series;", true)
  | 3 => ("TenFingers$State", "written", "LTenFingers$Series;", true)
  | 4 => ("TenFingers$State", "words", "LTenFingers$Words;", true)
  | _ => ("TenFingers$State", "row", "LTenFingers$Series;", true)
def tyX7 : Nat → FieldType := fun k => match k with
  | 0 => .array (.object "TenFingers$Board")
  | 1 => .array (.object "TenFingers$Hand")
  | 2 => .object "TenFingers$Series"
  | 3 => .object "TenFingers$Series"
  | 4 => .object "TenFingers$Words"
  | _ => .object "TenFingers$Series"
theorem nmX7 : ∀ a, a < 6 → ∀ b, b < 6 → a ≠ b → (TX7 a).2.1 ≠ (TX7 b).2.1 := by decide +kernel
theorem tyX7_ok : ∀ k, k < 6 → parseFieldDescriptor (TX7 k).2.2.1 = some (tyX7 k) := by decide +kernel
abbrev cX7_init : ByteArray := prog_9_method_1_code
def yX7_init : MethodName := ⟨RX7, "<init>", "()V"⟩
abbrev cX7_copyFrom : ByteArray := prog_9_method_2_code
def yX7_copyFrom : MethodName := ⟨RX7, "copyFrom", "(LTenFingers$State;)V"⟩
def RX8 : String := "TenFingers$Strokes"
def TX8 : u_T := fun k => match k with
  | 0 => ("TenFingers$Strokes", "keys", "LTenFingers$Series;", true)
  | _ => ("TenFingers$Strokes", "used", "[Z", true)
def tyX8 : Nat → FieldType := fun k => match k with
  | 0 => .object "TenFingers$Series"
  | _ => .array .boolean
theorem nmX8 : ∀ a, a < 2 → ∀ b, b < 2 → a ≠ b → (TX8 a).2.1 ≠ (TX8 b).2.1 := by decide +kernel
theorem tyX8_ok : ∀ k, k < 2 → parseFieldDescriptor (TX8 k).2.2.1 = some (tyX8 k) := by decide +kernel
abbrev cX8_init : ByteArray := prog_10_method_1_code
def yX8_init : MethodName := ⟨RX8, "<init>", "()V"⟩
abbrev cX8_layOut : ByteArray := prog_10_method_2_code
def yX8_layOut : MethodName := ⟨RX8, "layOut", "(LTenFingers$Series;LTenFingers$Board;)V"⟩
abbrev cX8_uses : ByteArray := prog_10_method_3_code
def yX8_uses : MethodName := ⟨RX8, "uses", "(I)Z"⟩
abbrev cX8_gapAt : ByteArray := prog_10_method_4_code
def yX8_gapAt : MethodName := ⟨RX8, "gapAt", "(ILTenFingers$Hand;)I"⟩
abbrev cX8_timeBy : ByteArray := prog_10_method_5_code
def yX8_timeBy : MethodName := ⟨RX8, "timeBy", "(LTenFingers$Hand;LTenFingers$Pieces;Z)I"⟩
abbrev cX8_timeExchanged : ByteArray := prog_10_method_6_code
def yX8_timeExchanged : MethodName := ⟨RX8, "timeExchanged", "(LTenFingers$Hand;LTenFingers$Pieces;II)I"⟩
abbrev cX8_farFrom : ByteArray := prog_10_method_7_code
def yX8_farFrom : MethodName := ⟨RX8, "farFrom", "(LTenFingers$Series;LTenFingers$Hand;)I"⟩
abbrev cX8_showsLaw : ByteArray := prog_10_method_8_code
def yX8_showsLaw : MethodName := ⟨RX8, "showsLaw", "(II)Z"⟩
abbrev cX8_outermost : ByteArray := prog_10_method_9_code
def yX8_outermost : MethodName := ⟨RX8, "outermost", "(LTenFingers$Series;IZ)I"⟩
abbrev cX8_acheAt : ByteArray := prog_10_method_10_code
def yX8_acheAt : MethodName := ⟨RX8, "acheAt", "(I)I"⟩
abbrev cX8_acheOf : ByteArray := prog_10_method_11_code
def yX8_acheOf : MethodName := ⟨RX8, "acheOf", "(I)I"⟩
abbrev cX8_pausesWith : ByteArray := prog_10_method_12_code
def yX8_pausesWith : MethodName := ⟨RX8, "pausesWith", "(II)I"⟩
def RX9 : String := "TenFingers$Words"
def TX9 : u_T := fun k => match k with
  | 0 => ("TenFingers$Words", "letters", "[LTenFingers$Series;", true)
  | 1 => ("TenFingers$Words", "practised", "[I", true)
  | _ => ("TenFingers$Words", "size", "I", false)
def tyX9 : Nat → FieldType := fun k => match k with
  | 0 => .array (.object "TenFingers$Series")
  | 1 => .array .int
  | _ => .int
theorem nmX9 : ∀ a, a < 3 → ∀ b, b < 3 → a ≠ b → (TX9 a).2.1 ≠ (TX9 b).2.1 := by decide +kernel
theorem tyX9_ok : ∀ k, k < 3 → parseFieldDescriptor (TX9 k).2.2.1 = some (tyX9 k) := by decide +kernel
abbrev cX9_init : ByteArray := prog_11_method_1_code
def yX9_init : MethodName := ⟨RX9, "<init>", "()V"⟩
abbrev cX9_size : ByteArray := prog_11_method_2_code
def yX9_size : MethodName := ⟨RX9, "size", "()I"⟩
abbrev cX9_noWord : ByteArray := prog_11_method_3_code
def yX9_noWord : MethodName := ⟨RX9, "noWord", "(I)Z"⟩
abbrev cX9_addFrom : ByteArray := prog_11_method_4_code
def yX9_addFrom : MethodName := ⟨RX9, "addFrom", "(LTenFingers$Series;)I"⟩
abbrev cX9_useMore : ByteArray := prog_11_method_5_code
def yX9_useMore : MethodName := ⟨RX9, "useMore", "(II)I"⟩
abbrev cX9_lengthOf : ByteArray := prog_11_method_6_code
def yX9_lengthOf : MethodName := ⟨RX9, "lengthOf", "(I)I"⟩
abbrev cX9_hundredthsOf : ByteArray := prog_11_method_7_code
def yX9_hundredthsOf : MethodName := ⟨RX9, "hundredthsOf", "(I)I"⟩
abbrev cX9_longestAt : ByteArray := prog_11_method_8_code
def yX9_longestAt : MethodName := ⟨RX9, "longestAt", "(LTenFingers$Series;I)I"⟩
abbrev cX9_standsAt : ByteArray := prog_11_method_9_code
def yX9_standsAt : MethodName := ⟨RX9, "standsAt", "(LTenFingers$Series;LTenFingers$Series;I)Z"⟩
abbrev cX9_copyFrom : ByteArray := prog_11_method_10_code
def yX9_copyFrom : MethodName := ⟨RX9, "copyFrom", "(LTenFingers$Words;)V"⟩
def RX10 : String := "TenFingers"
def TX10 : u_T := fun k => match k with
  | 0 => ("TenFingers", "now", "LTenFingers$State;", true)
  | 1 => ("TenFingers", "kept", "LTenFingers$State;", true)
  | 2 => ("TenFingers", "tape", "LTenFingers$Series;", true)
  | 3 => ("TenFingers", "pieceRow", "LTenFingers$Pieces;", true)
  | 4 => ("TenFingers", "strokes", "LTenFingers$Strokes;", true)
  | 5 => ("TenFingers", "refused", "[I", true)
  | _ => ("TenFingers", "imageTaken", "Z", false)
def tyX10 : Nat → FieldType := fun k => match k with
  | 0 => .object "TenFingers$State"
  | 1 => .object "TenFingers$State"
  | 2 => .object "TenFingers$Series"
  | 3 => .object "TenFingers$Pieces"
  | 4 => .object "TenFingers$Strokes"
  | 5 => .array .int
  | _ => .boolean
theorem nmX10 : ∀ a, a < 7 → ∀ b, b < 7 → a ≠ b → (TX10 a).2.1 ≠ (TX10 b).2.1 := by decide +kernel
theorem tyX10_ok : ∀ k, k < 7 → parseFieldDescriptor (TX10 k).2.2.1 = some (tyX10 k) := by decide +kernel
abbrev cX10_init : ByteArray := prog_1_method_1_code
def yX10_init : MethodName := ⟨RX10, "<init>", "()V"⟩
abbrev cX10_feed : ByteArray := prog_1_method_2_code
def yX10_feed : MethodName := ⟨RX10, "feed", "(IJ)I"⟩
abbrev cX10_board : ByteArray := prog_1_method_3_code
def yX10_board : MethodName := ⟨RX10, "board", "(I)I"⟩
abbrev cX10_text : ByteArray := prog_1_method_4_code
def yX10_text : MethodName := ⟨RX10, "text", "(Z)I"⟩
abbrev cX10_word : ByteArray := prog_1_method_5_code
def yX10_word : MethodName := ⟨RX10, "word", "()I"⟩
abbrev cX10_keyOf : ByteArray := prog_1_method_6_code
def yX10_keyOf : MethodName := ⟨RX10, "keyOf", "(II)I"⟩
abbrev cX10_letterOn : ByteArray := prog_1_method_7_code
def yX10_letterOn : MethodName := ⟨RX10, "letterOn", "(II)I"⟩
abbrev cX10_fingerOf : ByteArray := prog_1_method_8_code
def yX10_fingerOf : MethodName := ⟨RX10, "fingerOf", "(IZ)I"⟩
abbrev cX10_law : ByteArray := prog_1_method_9_code
def yX10_law : MethodName := ⟨RX10, "law", "(III)I"⟩
abbrev cX10_gap : ByteArray := prog_1_method_10_code
def yX10_gap : MethodName := ⟨RX10, "gap", "(IIII)I"⟩
abbrev cX10_sign : ByteArray := prog_1_method_11_code
def yX10_sign : MethodName := ⟨RX10, "sign", "(ZI)I"⟩
abbrev cX10_practise : ByteArray := prog_1_method_12_code
def yX10_practise : MethodName := ⟨RX10, "practise", "(II)I"⟩
abbrev cX10_piece : ByteArray := prog_1_method_13_code
def yX10_piece : MethodName := ⟨RX10, "piece", "(II)I"⟩
abbrev cX10_pieces : ByteArray := prog_1_method_14_code
def yX10_pieces : MethodName := ⟨RX10, "pieces", "()I"⟩
abbrev cX10_time : ByteArray := prog_1_method_15_code
def yX10_time : MethodName := ⟨RX10, "time", "(IIZ)I"⟩
abbrev cX10_may : ByteArray := prog_1_method_16_code
def yX10_may : MethodName := ⟨RX10, "may", "(I)I"⟩
abbrev cX10_where : ByteArray := prog_1_method_17_code
def yX10_where : MethodName := ⟨RX10, "where", "(II)I"⟩
abbrev cX10_exchange : ByteArray := prog_1_method_18_code
def yX10_exchange : MethodName := ⟨RX10, "exchange", "(III)I"⟩
abbrev cX10_better : ByteArray := prog_1_method_19_code
def yX10_better : MethodName := ⟨RX10, "better", "(II)I"⟩
abbrev cX10_climb : ByteArray := prog_1_method_20_code
def yX10_climb : MethodName := ⟨RX10, "climb", "(III)I"⟩
abbrev cX10_summer : ByteArray := prog_1_method_21_code
def yX10_summer : MethodName := ⟨RX10, "summer", "(III)I"⟩
abbrev cX10_put : ByteArray := prog_1_method_22_code
def yX10_put : MethodName := ⟨RX10, "put", "(I)I"⟩
abbrev cX10_unput : ByteArray := prog_1_method_23_code
def yX10_unput : MethodName := ⟨RX10, "unput", "()I"⟩
abbrev cX10_far : ByteArray := prog_1_method_24_code
def yX10_far : MethodName := ⟨RX10, "far", "(II)I"⟩
abbrev cX10_nearest : ByteArray := prog_1_method_25_code
def yX10_nearest : MethodName := ⟨RX10, "nearest", "(I)I"⟩
abbrev cX10_span : ByteArray := prog_1_method_26_code
def yX10_span : MethodName := ⟨RX10, "span", "(IIZ)I"⟩
abbrev cX10_ache : ByteArray := prog_1_method_27_code
def yX10_ache : MethodName := ⟨RX10, "ache", "(II)I"⟩
abbrev cX10_pauses : ByteArray := prog_1_method_28_code
def yX10_pauses : MethodName := ⟨RX10, "pauses", "(III)I"⟩
abbrev cX10_pace : ByteArray := prog_1_method_29_code
def yX10_pace : MethodName := ⟨RX10, "pace", "(IIII)I"⟩
abbrev cX10_soonest : ByteArray := prog_1_method_30_code
def yX10_soonest : MethodName := ⟨RX10, "soonest", "(III)I"⟩
abbrev cX10_image : ByteArray := prog_1_method_31_code
def yX10_image : MethodName := ⟨RX10, "image", "()I"⟩
abbrev cX10_on : ByteArray := prog_1_method_32_code
def yX10_on : MethodName := ⟨RX10, "on", "()I"⟩
abbrev cX10_count : ByteArray := prog_1_method_33_code
def yX10_count : MethodName := ⟨RX10, "count", "(I)I"⟩
abbrev cX10_refusalsOf : ByteArray := prog_1_method_34_code
def yX10_refusalsOf : MethodName := ⟨RX10, "refusalsOf", "(I)I"⟩
abbrev cX10_refuse : ByteArray := prog_1_method_35_code
def yX10_refuse : MethodName := ⟨RX10, "refuse", "(I)I"⟩
abbrev cX10_noBoard : ByteArray := prog_1_method_36_code
def yX10_noBoard : MethodName := ⟨RX10, "noBoard", "(I)Z"⟩
abbrev cX10_noHand : ByteArray := prog_1_method_37_code
def yX10_noHand : MethodName := ⟨RX10, "noHand", "(I)Z"⟩
abbrev cX10_noKey : ByteArray := prog_1_method_38_code
def yX10_noKey : MethodName := ⟨RX10, "noKey", "(I)Z"⟩
abbrev cX10_timeOfMeant : ByteArray := prog_1_method_39_code
def yX10_timeOfMeant : MethodName := ⟨RX10, "timeOfMeant", "(IIZ)I"⟩
abbrev cX10_bestExchange : ByteArray := prog_1_method_40_code
def yX10_bestExchange : MethodName := ⟨RX10, "bestExchange", "(II)I"⟩
abbrev cX10_handNearest : ByteArray := prog_1_method_41_code
def yX10_handNearest : MethodName := ⟨RX10, "handNearest", "()I"⟩
abbrev cX10_allAtPace : ByteArray := prog_1_method_42_code
def yX10_allAtPace : MethodName := ⟨RX10, "allAtPace", "(III)I"⟩
def RX11 : String := "TenFingersModel"
def TX11 : u_T := fun k => match k with
  | 0 => ("TenFingersModel", "refusals", "[I", true)
  | 1 => ("TenFingersModel", "s", "[I", true)
  | 2 => ("TenFingersModel", "image", "[I", true)
  | 3 => ("TenFingersModel", "isImage", "Z", false)
  | 4 => ("TenFingersModel", "tape", "[I", true)
  | _ => ("TenFingersModel", "taped", "I", false)
def tyX11 : Nat → FieldType := fun k => match k with
  | 0 => .array .int
  | 1 => .array .int
  | 2 => .array .int
  | 3 => .boolean
  | 4 => .array .int
  | _ => .int
theorem nmX11 : ∀ a, a < 6 → ∀ b, b < 6 → a ≠ b → (TX11 a).2.1 ≠ (TX11 b).2.1 := by decide +kernel
theorem tyX11_ok : ∀ k, k < 6 → parseFieldDescriptor (TX11 k).2.2.1 = some (tyX11 k) := by decide +kernel
abbrev cX11_init : ByteArray := prog_13_method_1_code
def yX11_init : MethodName := ⟨RX11, "<init>", "()V"⟩
abbrev cX11_refuse : ByteArray := prog_13_method_2_code
def yX11_refuse : MethodName := ⟨RX11, "refuse", "(I)I"⟩
abbrev cX11_isIn : ByteArray := prog_13_method_3_code
def yX11_isIn : MethodName := ⟨RX11, "isIn", "(II)Z"⟩
abbrev cX11_within : ByteArray := prog_13_method_4_code
def yX11_within : MethodName := ⟨RX11, "within", "(III)I"⟩
abbrev cX11_amount : ByteArray := prog_13_method_5_code
def yX11_amount : MethodName := ⟨RX11, "amount", "(I)I"⟩
abbrev cX11_isHand : ByteArray := prog_13_method_6_code
def yX11_isHand : MethodName := ⟨RX11, "isHand", "(I)Z"⟩
abbrev cX11_isBoard : ByteArray := prog_13_method_7_code
def yX11_isBoard : MethodName := ⟨RX11, "isBoard", "(I)Z"⟩
abbrev cX11_isKey : ByteArray := prog_13_method_8_code
def yX11_isKey : MethodName := ⟨RX11, "isKey", "(I)Z"⟩
abbrev cX11_feed : ByteArray := prog_13_method_9_code
def yX11_feed : MethodName := ⟨RX11, "feed", "(IJ)I"⟩
abbrev cX11_isLetter : ByteArray := prog_13_method_10_code
def yX11_isLetter : MethodName := ⟨RX11, "isLetter", "(I)Z"⟩
abbrev cX11_boardFault : ByteArray := prog_13_method_11_code
def yX11_boardFault : MethodName := ⟨RX11, "boardFault", "()I"⟩
abbrev cX11_board : ByteArray := prog_13_method_12_code
def yX11_board : MethodName := ⟨RX11, "board", "(I)I"⟩
abbrev cX11_lettersFault : ByteArray := prog_13_method_13_code
def yX11_lettersFault : MethodName := ⟨RX11, "lettersFault", "(Z)I"⟩
abbrev cX11_text : ByteArray := prog_13_method_14_code
def yX11_text : MethodName := ⟨RX11, "text", "(Z)I"⟩
abbrev cX11_word : ByteArray := prog_13_method_15_code
def yX11_word : MethodName := ⟨RX11, "word", "()I"⟩
abbrev cX11_keyAt : ByteArray := prog_13_method_16_code
def yX11_keyAt : MethodName := ⟨RX11, "keyAt", "(II)I"⟩
abbrev cX11_keyOf : ByteArray := prog_13_method_17_code
def yX11_keyOf : MethodName := ⟨RX11, "keyOf", "(II)I"⟩
abbrev cX11_letterOn : ByteArray := prog_13_method_18_code
def yX11_letterOn : MethodName := ⟨RX11, "letterOn", "(II)I"⟩
abbrev cX11_finger : ByteArray := prog_13_method_19_code
def yX11_finger : MethodName := ⟨RX11, "finger", "(IZ)I"⟩
abbrev cX11_fingerOf : ByteArray := prog_13_method_20_code
def yX11_fingerOf : MethodName := ⟨RX11, "fingerOf", "(IZ)I"⟩
abbrev cX11_law : ByteArray := prog_13_method_21_code
def yX11_law : MethodName := ⟨RX11, "law", "(III)I"⟩
abbrev cX11_lawOf : ByteArray := prog_13_method_22_code
def yX11_lawOf : MethodName := ⟨RX11, "lawOf", "(IIZ)I"⟩
abbrev cX11_gapOf : ByteArray := prog_13_method_23_code
def yX11_gapOf : MethodName := ⟨RX11, "gapOf", "(IIIZ)I"⟩
abbrev cX11_gap : ByteArray := prog_13_method_24_code
def yX11_gap : MethodName := ⟨RX11, "gap", "(IIII)I"⟩
abbrev cX11_sign : ByteArray := prog_13_method_25_code
def yX11_sign : MethodName := ⟨RX11, "sign", "(ZI)I"⟩
abbrev cX11_practise : ByteArray := prog_13_method_26_code
def yX11_practise : MethodName := ⟨RX11, "practise", "(II)I"⟩
abbrev cX11_stands : ByteArray := prog_13_method_27_code
def yX11_stands : MethodName := ⟨RX11, "stands", "(II)Z"⟩
abbrev cX11_sizeOf : ByteArray := prog_13_method_28_code
def yX11_sizeOf : MethodName := ⟨RX11, "sizeOf", "(I)I"⟩
abbrev cX11_wordAt : ByteArray := prog_13_method_29_code
def yX11_wordAt : MethodName := ⟨RX11, "wordAt", "(I)I"⟩
abbrev cX11_piece : ByteArray := prog_13_method_30_code
def yX11_piece : MethodName := ⟨RX11, "piece", "(II)I"⟩
abbrev cX11_pieces : ByteArray := prog_13_method_31_code
def yX11_pieces : MethodName := ⟨RX11, "pieces", "()I"⟩
abbrev cX11_gapAt : ByteArray := prog_13_method_32_code
def yX11_gapAt : MethodName := ⟨RX11, "gapAt", "(IIIZ)I"⟩
abbrev cX11_timeOf : ByteArray := prog_13_method_33_code
def yX11_timeOf : MethodName := ⟨RX11, "timeOf", "(IIZ)I"⟩
abbrev cX11_time : ByteArray := prog_13_method_34_code
def yX11_time : MethodName := ⟨RX11, "time", "(IIZ)I"⟩
abbrev cX11_slipAt : ByteArray := prog_13_method_35_code
def yX11_slipAt : MethodName := ⟨RX11, "slipAt", "()I"⟩
abbrev cX11_swapAt : ByteArray := prog_13_method_36_code
def yX11_swapAt : MethodName := ⟨RX11, "swapAt", "()I"⟩
abbrev cX11_doubleAt : ByteArray := prog_13_method_37_code
def yX11_doubleAt : MethodName := ⟨RX11, "doubleAt", "()I"⟩
abbrev cX11_byKeys : ByteArray := prog_13_method_38_code
def yX11_byKeys : MethodName := ⟨RX11, "byKeys", "(IZ)I"⟩
abbrev cX11_earlyAt : ByteArray := prog_13_method_39_code
def yX11_earlyAt : MethodName := ⟨RX11, "earlyAt", "()I"⟩
abbrev cX11_lostAt : ByteArray := prog_13_method_40_code
def yX11_lostAt : MethodName := ⟨RX11, "lostAt", "()I"⟩
abbrev cX11_caughtAt : ByteArray := prog_13_method_41_code
def yX11_caughtAt : MethodName := ⟨RX11, "caughtAt", "()I"⟩
abbrev cX11_whereOf : ByteArray := prog_13_method_42_code
def yX11_whereOf : MethodName := ⟨RX11, "whereOf", "(II)I"⟩
abbrev cX11_may : ByteArray := prog_13_method_43_code
def yX11_may : MethodName := ⟨RX11, "may", "(I)I"⟩
abbrev cX11_where : ByteArray := prog_13_method_44_code
def yX11_where : MethodName := ⟨RX11, "where", "(II)I"⟩
abbrev cX11_changes : ByteArray := prog_13_method_45_code
def yX11_changes : MethodName := ⟨RX11, "changes", "(III)V"⟩
abbrev cX11_exchange : ByteArray := prog_13_method_46_code
def yX11_exchange : MethodName := ⟨RX11, "exchange", "(III)I"⟩
abbrev cX11_betterOf : ByteArray := prog_13_method_47_code
def yX11_betterOf : MethodName := ⟨RX11, "betterOf", "(II)I"⟩
abbrev cX11_better : ByteArray := prog_13_method_48_code
def yX11_better : MethodName := ⟨RX11, "better", "(II)I"⟩
abbrev cX11_climb : ByteArray := prog_13_method_49_code
def yX11_climb : MethodName := ⟨RX11, "climb", "(III)I"⟩
abbrev cX11_summer : ByteArray := prog_13_method_50_code
def yX11_summer : MethodName := ⟨RX11, "summer", "(III)I"⟩
abbrev cX11_put : ByteArray := prog_13_method_51_code
def yX11_put : MethodName := ⟨RX11, "put", "(I)I"⟩
abbrev cX11_unput : ByteArray := prog_13_method_52_code
def yX11_unput : MethodName := ⟨RX11, "unput", "()I"⟩
abbrev cX11_farOf : ByteArray := prog_13_method_53_code
def yX11_farOf : MethodName := ⟨RX11, "farOf", "(II)I"⟩
abbrev cX11_far : ByteArray := prog_13_method_54_code
def yX11_far : MethodName := ⟨RX11, "far", "(II)I"⟩
abbrev cX11_nearest : ByteArray := prog_13_method_55_code
def yX11_nearest : MethodName := ⟨RX11, "nearest", "(I)I"⟩
abbrev cX11_span : ByteArray := prog_13_method_56_code
def yX11_span : MethodName := ⟨RX11, "span", "(IIZ)I"⟩
abbrev cX11_acheAt : ByteArray := prog_13_method_57_code
def yX11_acheAt : MethodName := ⟨RX11, "acheAt", "(II)I"⟩
abbrev cX11_ache : ByteArray := prog_13_method_58_code
def yX11_ache : MethodName := ⟨RX11, "ache", "(II)I"⟩
abbrev cX11_pauses : ByteArray := prog_13_method_59_code
def yX11_pauses : MethodName := ⟨RX11, "pauses", "(III)I"⟩
abbrev cX11_paceOf : ByteArray := prog_13_method_60_code
def yX11_paceOf : MethodName := ⟨RX11, "paceOf", "(IIII)I"⟩
abbrev cX11_pace : ByteArray := prog_13_method_61_code
def yX11_pace : MethodName := ⟨RX11, "pace", "(IIII)I"⟩
abbrev cX11_soonest : ByteArray := prog_13_method_62_code
def yX11_soonest : MethodName := ⟨RX11, "soonest", "(III)I"⟩
abbrev cX11_image : ByteArray := prog_13_method_63_code
def yX11_image : MethodName := ⟨RX11, "image", "()I"⟩
abbrev cX11_on : ByteArray := prog_13_method_64_code
def yX11_on : MethodName := ⟨RX11, "on", "()I"⟩
abbrev cX11_count : ByteArray := prog_13_method_65_code
def yX11_count : MethodName := ⟨RX11, "count", "(I)I"⟩
def RL : String := "TenFingersLaw"
abbrev cL_law : ByteArray := code
abbrev vwCl : List vw_C := [(RX0, TX0, 2), (RX1, TX1, 1), (RX3, TX3, 4), (RX5, TX5, 2), (RX7, TX7, 6), (RX8, TX8, 2), (RX9, TX9, 3), (RX10, TX10, 7), (RX11, TX11, 6)]
-- the words of the tables that stay
def tf_TB : List Cond := lw_tbl.filter goodWord
theorem tf_tbl {args : Array Value} {s : State} (h : ∀ w ∈ lw_tbl, w.before args s = true) : ∀ w ∈ tf_TB, w.before args s = true := fun w hw => h w (List.mem_filter.mp hw).1
theorem tf_gin {ws : List Cond} (h : ∀ w ∈ ws, w ∈ tf_TB) : GoodIn tf_TB ws := fun w hw => ⟨h w hw, good_of_word (List.mem_filter.mp (h w hw)).2⟩
set_option maxRecDepth 100000 in
theorem tf_in0 : ∀ w ∈ u_ws RX0 TX0 2, w ∈ tf_TB := by decide +kernel
set_option maxRecDepth 100000 in
theorem tf_in1 : ∀ w ∈ u_ws RX1 TX1 1, w ∈ tf_TB := by decide +kernel
set_option maxRecDepth 100000 in
theorem tf_in3 : ∀ w ∈ u_ws RX3 TX3 4, w ∈ tf_TB := by decide +kernel
set_option maxRecDepth 100000 in
theorem tf_in5 : ∀ w ∈ u_ws RX5 TX5 2, w ∈ tf_TB := by decide +kernel
set_option maxRecDepth 100000 in
theorem tf_in7 : ∀ w ∈ u_ws RX7 TX7 6, w ∈ tf_TB := by decide +kernel
set_option maxRecDepth 100000 in
theorem tf_in8 : ∀ w ∈ u_ws RX8 TX8 2, w ∈ tf_TB := by decide +kernel
set_option maxRecDepth 100000 in
theorem tf_in9 : ∀ w ∈ u_ws RX9 TX9 3, w ∈ tf_TB := by decide +kernel
set_option maxRecDepth 100000 in
theorem tf_in10 : ∀ w ∈ u_ws RX10 TX10 7, w ∈ tf_TB := by decide +kernel
set_option maxRecDepth 100000 in
theorem tf_in11 : ∀ w ∈ u_ws RX11 TX11 6, w ∈ tf_TB := by decide +kernel
