section
/-- a private method of a class that the tables say can be made, by its rows of tables_1 -/
def lw_okq (q : MethodName × Nat) : Prop := (q.1.cls ≠ "java/lang/invoke/MethodHandle" ∧ q.1.cls ≠ "java/lang/invoke/VarHandle") ∧ Cond.instantiable q.1.cls q.2 ∈ tables_1 ∧ Cond.privateMethod q.1 ∈ tables_1 ∧ Cond.instanceMethod q.1 ∈ tables_1
theorem lw_p0 : lw_okq (⟨"java/lang/Throwable", "fillInStackTrace", "(I)Ljava/lang/Throwable;"⟩, 6) := ⟨⟨by decide +kernel, by decide +kernel⟩, List.mem_of_getElem? (i := 206) (by decide +kernel), List.mem_of_getElem? (i := 204) (by decide +kernel), List.mem_of_getElem? (i := 205) (by decide +kernel)⟩
theorem lw_p1 : lw_okq (⟨"SegmentDesk$Run", "makeFresh", "(II)V"⟩, 7) := ⟨⟨by decide +kernel, by decide +kernel⟩, List.mem_of_getElem? (i := 40) (by decide +kernel), List.mem_of_getElem? (i := 259) (by decide +kernel), List.mem_of_getElem? (i := 260) (by decide +kernel)⟩
theorem lw_p2 : lw_okq (⟨"SegmentDesk$Run", "enter", "(III)Z"⟩, 7) := ⟨⟨by decide +kernel, by decide +kernel⟩, List.mem_of_getElem? (i := 40) (by decide +kernel), List.mem_of_getElem? (i := 332) (by decide +kernel), List.mem_of_getElem? (i := 333) (by decide +kernel)⟩
theorem lw_p3 : lw_okq (⟨"SegmentDesk$Memory", "leastLatelyCalled", "(I)I"⟩, 9) := ⟨⟨by decide +kernel, by decide +kernel⟩, List.mem_of_getElem? (i := 46) (by decide +kernel), List.mem_of_getElem? (i := 359) (by decide +kernel), List.mem_of_getElem? (i := 360) (by decide +kernel)⟩
theorem lw_p4 : lw_okq (⟨"SegmentDesk$Run", "kindAt", "(II)I"⟩, 7) := ⟨⟨by decide +kernel, by decide +kernel⟩, List.mem_of_getElem? (i := 40) (by decide +kernel), List.mem_of_getElem? (i := 403) (by decide +kernel), List.mem_of_getElem? (i := 404) (by decide +kernel)⟩
theorem lw_p5 : lw_okq (⟨"SegmentDesk$Run", "pushAndMove", "(II)V"⟩, 7) := ⟨⟨by decide +kernel, by decide +kernel⟩, List.mem_of_getElem? (i := 40) (by decide +kernel), List.mem_of_getElem? (i := 416) (by decide +kernel), List.mem_of_getElem? (i := 417) (by decide +kernel)⟩
theorem lw_p6 : lw_okq (⟨"SegmentDesk$Run", "push", "(I)Z"⟩, 7) := ⟨⟨by decide +kernel, by decide +kernel⟩, List.mem_of_getElem? (i := 40) (by decide +kernel), List.mem_of_getElem? (i := 420) (by decide +kernel), List.mem_of_getElem? (i := 421) (by decide +kernel)⟩
theorem lw_p7 : lw_okq (⟨"SegmentDesk$Run", "getLocal", "(II)V"⟩, 7) := ⟨⟨by decide +kernel, by decide +kernel⟩, List.mem_of_getElem? (i := 40) (by decide +kernel), List.mem_of_getElem? (i := 433) (by decide +kernel), List.mem_of_getElem? (i := 434) (by decide +kernel)⟩
theorem lw_p8 : lw_okq (⟨"SegmentDesk$Run", "setLocal", "(II)V"⟩, 7) := ⟨⟨by decide +kernel, by decide +kernel⟩, List.mem_of_getElem? (i := 40) (by decide +kernel), List.mem_of_getElem? (i := 442) (by decide +kernel), List.mem_of_getElem? (i := 443) (by decide +kernel)⟩
theorem lw_p9 : lw_okq (⟨"SegmentDesk$Run", "take", "()I"⟩, 7) := ⟨⟨by decide +kernel, by decide +kernel⟩, List.mem_of_getElem? (i := 40) (by decide +kernel), List.mem_of_getElem? (i := 446) (by decide +kernel), List.mem_of_getElem? (i := 447) (by decide +kernel)⟩
theorem lw_p10 : lw_okq (⟨"SegmentDesk$Run", "callFrom", "(III)V"⟩, 7) := ⟨⟨by decide +kernel, by decide +kernel⟩, List.mem_of_getElem? (i := 40) (by decide +kernel), List.mem_of_getElem? (i := 463) (by decide +kernel), List.mem_of_getElem? (i := 464) (by decide +kernel)⟩
theorem lw_p11 : lw_okq (⟨"SegmentDesk$Run", "giveBack", "()V"⟩, 7) := ⟨⟨by decide +kernel, by decide +kernel⟩, List.mem_of_getElem? (i := 40) (by decide +kernel), List.mem_of_getElem? (i := 471) (by decide +kernel), List.mem_of_getElem? (i := 472) (by decide +kernel)⟩
theorem lw_p12 : lw_okq (⟨"SegmentDesk$Run", "putOut", "(I)V"⟩, 7) := ⟨⟨by decide +kernel, by decide +kernel⟩, List.mem_of_getElem? (i := 40) (by decide +kernel), List.mem_of_getElem? (i := 491) (by decide +kernel), List.mem_of_getElem? (i := 492) (by decide +kernel)⟩
theorem lw_p13 : lw_okq (⟨"SegmentDesk$Run", "calculate", "(II)V"⟩, 7) := ⟨⟨by decide +kernel, by decide +kernel⟩, List.mem_of_getElem? (i := 40) (by decide +kernel), List.mem_of_getElem? (i := 495) (by decide +kernel), List.mem_of_getElem? (i := 496) (by decide +kernel)⟩
theorem lw_p14 : lw_okq (⟨"SegmentDeskModel", "procedures", "(I)I"⟩, 22) := ⟨⟨by decide +kernel, by decide +kernel⟩, List.mem_of_getElem? (i := 559) (by decide +kernel), List.mem_of_getElem? (i := 652) (by decide +kernel), List.mem_of_getElem? (i := 653) (by decide +kernel)⟩
theorem lw_p15 : lw_okq (⟨"SegmentDeskModel", "call", "(III)V"⟩, 22) := ⟨⟨by decide +kernel, by decide +kernel⟩, List.mem_of_getElem? (i := 559) (by decide +kernel), List.mem_of_getElem? (i := 660) (by decide +kernel), List.mem_of_getElem? (i := 661) (by decide +kernel)⟩
def lw_privs_1 : List (MethodName × Nat) := [(⟨"java/lang/Throwable", "fillInStackTrace", "(I)Ljava/lang/Throwable;"⟩, 6), (⟨"SegmentDesk$Run", "makeFresh", "(II)V"⟩, 7), (⟨"SegmentDesk$Run", "enter", "(III)Z"⟩, 7), (⟨"SegmentDesk$Memory", "leastLatelyCalled", "(I)I"⟩, 9), (⟨"SegmentDesk$Run", "kindAt", "(II)I"⟩, 7), (⟨"SegmentDesk$Run", "pushAndMove", "(II)V"⟩, 7), (⟨"SegmentDesk$Run", "push", "(I)Z"⟩, 7), (⟨"SegmentDesk$Run", "getLocal", "(II)V"⟩, 7), (⟨"SegmentDesk$Run", "setLocal", "(II)V"⟩, 7), (⟨"SegmentDesk$Run", "take", "()I"⟩, 7), (⟨"SegmentDesk$Run", "callFrom", "(III)V"⟩, 7), (⟨"SegmentDesk$Run", "giveBack", "()V"⟩, 7), (⟨"SegmentDesk$Run", "putOut", "(I)V"⟩, 7), (⟨"SegmentDesk$Run", "calculate", "(II)V"⟩, 7), (⟨"SegmentDeskModel", "procedures", "(I)I"⟩, 22), (⟨"SegmentDeskModel", "call", "(III)V"⟩, 22)]
theorem lw_r1 : ∀ q ∈ lw_privs_1, lw_okq q := List.forall_mem_cons.mpr ⟨lw_p0, List.forall_mem_cons.mpr ⟨lw_p1, List.forall_mem_cons.mpr ⟨lw_p2, List.forall_mem_cons.mpr ⟨lw_p3, List.forall_mem_cons.mpr ⟨lw_p4, List.forall_mem_cons.mpr ⟨lw_p5, List.forall_mem_cons.mpr ⟨lw_p6, List.forall_mem_cons.mpr ⟨lw_p7, List.forall_mem_cons.mpr ⟨lw_p8, List.forall_mem_cons.mpr ⟨lw_p9, List.forall_mem_cons.mpr ⟨lw_p10, List.forall_mem_cons.mpr ⟨lw_p11, List.forall_mem_cons.mpr ⟨lw_p12, List.forall_mem_cons.mpr ⟨lw_p13, List.forall_mem_cons.mpr ⟨lw_p14, List.forall_mem_cons.mpr ⟨lw_p15, fun _ h => absurd h List.not_mem_nil⟩⟩⟩⟩⟩⟩⟩⟩⟩⟩⟩⟩⟩⟩⟩⟩
theorem lw_p16 : lw_okq (⟨"SegmentDeskModel", "room", "(II)Z"⟩, 22) := ⟨⟨by decide +kernel, by decide +kernel⟩, List.mem_of_getElem? (i := 559) (by decide +kernel), List.mem_of_getElem? (i := 664) (by decide +kernel), List.mem_of_getElem? (i := 665) (by decide +kernel)⟩
theorem lw_p17 : lw_okq (⟨"SegmentDeskModel", "held", "()I"⟩, 22) := ⟨⟨by decide +kernel, by decide +kernel⟩, List.mem_of_getElem? (i := 559) (by decide +kernel), List.mem_of_getElem? (i := 668) (by decide +kernel), List.mem_of_getElem? (i := 669) (by decide +kernel)⟩
theorem lw_p18 : lw_okq (⟨"SegmentDeskModel", "isActive", "(I)Z"⟩, 22) := ⟨⟨by decide +kernel, by decide +kernel⟩, List.mem_of_getElem? (i := 559) (by decide +kernel), List.mem_of_getElem? (i := 672) (by decide +kernel), List.mem_of_getElem? (i := 673) (by decide +kernel)⟩
theorem lw_p19 : lw_okq (⟨"SegmentDeskModel", "grown", "()V"⟩, 22) := ⟨⟨by decide +kernel, by decide +kernel⟩, List.mem_of_getElem? (i := 559) (by decide +kernel), List.mem_of_getElem? (i := 676) (by decide +kernel), List.mem_of_getElem? (i := 677) (by decide +kernel)⟩
theorem lw_p20 : lw_okq (⟨"SegmentDeskModel", "one", "()V"⟩, 22) := ⟨⟨by decide +kernel, by decide +kernel⟩, List.mem_of_getElem? (i := 559) (by decide +kernel), List.mem_of_getElem? (i := 684) (by decide +kernel), List.mem_of_getElem? (i := 685) (by decide +kernel)⟩
theorem lw_p21 : lw_okq (⟨"SegmentDeskModel", "pop", "()I"⟩, 22) := ⟨⟨by decide +kernel, by decide +kernel⟩, List.mem_of_getElem? (i := 559) (by decide +kernel), List.mem_of_getElem? (i := 694) (by decide +kernel), List.mem_of_getElem? (i := 695) (by decide +kernel)⟩
theorem lw_p22 : lw_okq (⟨"SegmentDeskModel", "push", "(I)Z"⟩, 22) := ⟨⟨by decide +kernel, by decide +kernel⟩, List.mem_of_getElem? (i := 559) (by decide +kernel), List.mem_of_getElem? (i := 698) (by decide +kernel), List.mem_of_getElem? (i := 699) (by decide +kernel)⟩
theorem lw_p23 : lw_okq (⟨"SegmentDeskModel", "back", "(I)V"⟩, 22) := ⟨⟨by decide +kernel, by decide +kernel⟩, List.mem_of_getElem? (i := 559) (by decide +kernel), List.mem_of_getElem? (i := 702) (by decide +kernel), List.mem_of_getElem? (i := 703) (by decide +kernel)⟩
def lw_privs_2 : List (MethodName × Nat) := [(⟨"SegmentDeskModel", "room", "(II)Z"⟩, 22), (⟨"SegmentDeskModel", "held", "()I"⟩, 22), (⟨"SegmentDeskModel", "isActive", "(I)Z"⟩, 22), (⟨"SegmentDeskModel", "grown", "()V"⟩, 22), (⟨"SegmentDeskModel", "one", "()V"⟩, 22), (⟨"SegmentDeskModel", "pop", "()I"⟩, 22), (⟨"SegmentDeskModel", "push", "(I)Z"⟩, 22), (⟨"SegmentDeskModel", "back", "(I)V"⟩, 22)]
theorem lw_r2 : ∀ q ∈ lw_privs_2, lw_okq q := List.forall_mem_cons.mpr ⟨lw_p16, List.forall_mem_cons.mpr ⟨lw_p17, List.forall_mem_cons.mpr ⟨lw_p18, List.forall_mem_cons.mpr ⟨lw_p19, List.forall_mem_cons.mpr ⟨lw_p20, List.forall_mem_cons.mpr ⟨lw_p21, List.forall_mem_cons.mpr ⟨lw_p22, List.forall_mem_cons.mpr ⟨lw_p23, fun _ h => absurd h List.not_mem_nil⟩⟩⟩⟩⟩⟩⟩⟩
def lw_privs : List (MethodName × Nat) := lw_privs_1 ++ (lw_privs_2)
def lw_tbl : List Cond := k2_sels lw_privs ++ tables_1
theorem lw_privs_ok : ∀ q ∈ lw_privs, lw_okq q := by
  show ∀ q ∈ lw_privs_1 ++ (lw_privs_2), lw_okq q
  exact List.forall_mem_append.mpr ⟨lw_r1, lw_r2⟩
end
section
def RX0 : String := "SegmentDesk$Disk"
def TX0 : u_T := fun k => match k with
  | 0 => ("SegmentDesk$Disk", "bytes", "[[B", true)
  | _ => ("SegmentDesk$Disk", "lengths", "[I", true)
def tyX0 : Nat → FieldType := fun k => match k with
  | 0 => .array (.array .byte)
  | _ => .array .int
abbrev wsX00 : List Cond := u_ws RX0 TX0 2
theorem nmX0 : ∀ a, a < 2 → ∀ b, b < 2 → a ≠ b → (TX0 a).2.1 ≠ (TX0 b).2.1 := by decide +kernel
theorem tyX0_ok : ∀ k, k < 2 → parseFieldDescriptor (TX0 k).2.2.1 = some (tyX0 k) := by decide +kernel
abbrev cX0_init : ByteArray := prog_2_method_1_code
def yX0_init : MethodName := ⟨RX0, "<init>", "()V"⟩
abbrev cX0_lengthOf : ByteArray := prog_2_method_2_code
def yX0_lengthOf : MethodName := ⟨RX0, "lengthOf", "(I)I"⟩
abbrev cX0_append : ByteArray := prog_2_method_3_code
def yX0_append : MethodName := ⟨RX0, "append", "(IB)V"⟩
abbrev cX0_wipe : ByteArray := prog_2_method_4_code
def yX0_wipe : MethodName := ⟨RX0, "wipe", "(I)V"⟩
abbrev cX0_byteAt : ByteArray := prog_2_method_5_code
def yX0_byteAt : MethodName := ⟨RX0, "byteAt", "(II)I"⟩
abbrev cX0_proceduresOf : ByteArray := prog_2_method_6_code
def yX0_proceduresOf : MethodName := ⟨RX0, "proceduresOf", "(I)I"⟩
abbrev cX0_beginOf : ByteArray := prog_2_method_7_code
def yX0_beginOf : MethodName := ⟨RX0, "beginOf", "(II)I"⟩
abbrev cX0_localsOf : ByteArray := prog_2_method_8_code
def yX0_localsOf : MethodName := ⟨RX0, "localsOf", "(II)I"⟩
def RX1 : String := "SegmentDesk$Frames"
def TX1 : u_T := fun k => match k with
  | 0 => ("SegmentDesk$Frames", "segments", "[I", true)
  | 1 => ("SegmentDesk$Frames", "places", "[I", true)
  | 2 => ("SegmentDesk$Frames", "localCounts", "[I", true)
  | 3 => ("SegmentDesk$Frames", "firstWords", "[I", true)
  | 4 => ("SegmentDesk$Frames", "words", "[I", true)
  | 5 => ("SegmentDesk$Frames", "count", "I", false)
  | _ => ("SegmentDesk$Frames", "usedWords", "I", false)
def tyX1 : Nat → FieldType := fun k => match k with
  | 0 => .array .int
  | 1 => .array .int
  | 2 => .array .int
  | 3 => .array .int
  | 4 => .array .int
  | 5 => .int
  | _ => .int
abbrev wsX10 : List Cond := u_ws RX1 TX1 7
theorem nmX1 : ∀ a, a < 7 → ∀ b, b < 7 → a ≠ b → (TX1 a).2.1 ≠ (TX1 b).2.1 := by decide +kernel
theorem tyX1_ok : ∀ k, k < 7 → parseFieldDescriptor (TX1 k).2.2.1 = some (tyX1 k) := by decide +kernel
abbrev cX1_init : ByteArray := prog_3_method_1_code
def yX1_init : MethodName := ⟨RX1, "<init>", "()V"⟩
abbrev cX1_empty : ByteArray := prog_3_method_2_code
def yX1_empty : MethodName := ⟨RX1, "empty", "()V"⟩
abbrev cX1_count : ByteArray := prog_3_method_3_code
def yX1_count : MethodName := ⟨RX1, "count", "()I"⟩
abbrev cX1_latestSegment : ByteArray := prog_3_method_4_code
def yX1_latestSegment : MethodName := ⟨RX1, "latestSegment", "()I"⟩
abbrev cX1_latestPlace : ByteArray := prog_3_method_5_code
def yX1_latestPlace : MethodName := ⟨RX1, "latestPlace", "()I"⟩
abbrev cX1_latestLocals : ByteArray := prog_3_method_6_code
def yX1_latestLocals : MethodName := ⟨RX1, "latestLocals", "()I"⟩
abbrev cX1_depth : ByteArray := prog_3_method_7_code
def yX1_depth : MethodName := ⟨RX1, "depth", "()I"⟩
abbrev cX1_open : ByteArray := prog_3_method_8_code
def yX1_open : MethodName := ⟨RX1, "open", "(IIII)V"⟩
abbrev cX1_close : ByteArray := prog_3_method_9_code
def yX1_close : MethodName := ⟨RX1, "close", "()V"⟩
abbrev cX1_moveTo : ByteArray := prog_3_method_10_code
def yX1_moveTo : MethodName := ⟨RX1, "moveTo", "(I)V"⟩
abbrev cX1_moveCallerTo : ByteArray := prog_3_method_11_code
def yX1_moveCallerTo : MethodName := ⟨RX1, "moveCallerTo", "(I)V"⟩
abbrev cX1_push : ByteArray := prog_3_method_12_code
def yX1_push : MethodName := ⟨RX1, "push", "(I)V"⟩
abbrev cX1_pop : ByteArray := prog_3_method_13_code
def yX1_pop : MethodName := ⟨RX1, "pop", "()I"⟩
abbrev cX1_hasLocal : ByteArray := prog_3_method_14_code
def yX1_hasLocal : MethodName := ⟨RX1, "hasLocal", "(II)Z"⟩
abbrev cX1_localAt : ByteArray := prog_3_method_15_code
def yX1_localAt : MethodName := ⟨RX1, "localAt", "(II)I"⟩
abbrev cX1_setLocal : ByteArray := prog_3_method_16_code
def yX1_setLocal : MethodName := ⟨RX1, "setLocal", "(III)V"⟩
def RX2 : String := "SegmentDesk$Memory"
def TX2 : u_T := fun k => match k with
  | 0 => ("SegmentDesk$Memory", "residentBytes", "[I", true)
  | 1 => ("SegmentDesk$Memory", "frameCounts", "[I", true)
  | 2 => ("SegmentDesk$Memory", "latestCalls", "[I", true)
  | 3 => ("SegmentDesk$Memory", "calls", "I", false)
  | 4 => ("SegmentDesk$Memory", "limit", "I", false)
  | 5 => ("SegmentDesk$Memory", "held", "I", false)
  | 6 => ("SegmentDesk$Memory", "most", "I", false)
  | 7 => ("SegmentDesk$Memory", "loads", "I", false)
  | _ => ("SegmentDesk$Memory", "gone", "I", false)
def tyX2 : Nat → FieldType := fun k => match k with
  | 0 => .array .int
  | 1 => .array .int
  | 2 => .array .int
  | 3 => .int
  | 4 => .int
  | 5 => .int
  | 6 => .int
  | 7 => .int
  | _ => .int
abbrev wsX20 : List Cond := u_ws RX2 TX2 9
theorem nmX2 : ∀ a, a < 9 → ∀ b, b < 9 → a ≠ b → (TX2 a).2.1 ≠ (TX2 b).2.1 := by decide +kernel
theorem tyX2_ok : ∀ k, k < 9 → parseFieldDescriptor (TX2 k).2.2.1 = some (tyX2 k) := by decide +kernel
abbrev cX2_init : ByteArray := prog_4_method_1_code
def yX2_init : MethodName := ⟨RX2, "<init>", "()V"⟩
abbrev cX2_empty : ByteArray := prog_4_method_2_code
def yX2_empty : MethodName := ⟨RX2, "empty", "(I)V"⟩
abbrev cX2_held : ByteArray := prog_4_method_3_code
def yX2_held : MethodName := ⟨RX2, "held", "()I"⟩
abbrev cX2_most : ByteArray := prog_4_method_4_code
def yX2_most : MethodName := ⟨RX2, "most", "()I"⟩
abbrev cX2_loads : ByteArray := prog_4_method_5_code
def yX2_loads : MethodName := ⟨RX2, "loads", "()I"⟩
abbrev cX2_gone : ByteArray := prog_4_method_6_code
def yX2_gone : MethodName := ⟨RX2, "gone", "()I"⟩
abbrev cX2_isResident : ByteArray := prog_4_method_7_code
def yX2_isResident : MethodName := ⟨RX2, "isResident", "(I)Z"⟩
abbrev cX2_isActive : ByteArray := prog_4_method_8_code
def yX2_isActive : MethodName := ⟨RX2, "isActive", "(I)Z"⟩
abbrev cX2_bringIn : ByteArray := prog_4_method_9_code
def yX2_bringIn : MethodName := ⟨RX2, "bringIn", "(II)Z"⟩
abbrev cX2_addFrame : ByteArray := prog_4_method_10_code
def yX2_addFrame : MethodName := ⟨RX2, "addFrame", "(II)Z"⟩
abbrev cX2_dropFrame : ByteArray := prog_4_method_11_code
def yX2_dropFrame : MethodName := ⟨RX2, "dropFrame", "(II)V"⟩
abbrev cX2_dropNumber : ByteArray := prog_4_method_12_code
def yX2_dropNumber : MethodName := ⟨RX2, "dropNumber", "()V"⟩
abbrev cX2_hold : ByteArray := prog_4_method_13_code
def yX2_hold : MethodName := ⟨RX2, "hold", "(II)Z"⟩
abbrev cX2_leastLatelyCalled : ByteArray := prog_4_method_14_code
def yX2_leastLatelyCalled : MethodName := ⟨RX2, "leastLatelyCalled", "(I)I"⟩
def RX3 : String := "SegmentDesk$Run"
def TX3 : u_T := fun k => match k with
  | 0 => ("SegmentDesk$Run", "disk", "LSegmentDesk$Disk;", true)
  | 1 => ("SegmentDesk$Run", "memory", "LSegmentDesk$Memory;", true)
  | 2 => ("SegmentDesk$Run", "frames", "LSegmentDesk$Frames;", true)
  | 3 => ("SegmentDesk$Run", "outs", "[I", true)
  | 4 => ("SegmentDesk$Run", "outCount", "I", false)
  | 5 => ("SegmentDesk$Run", "result", "I", false)
  | _ => ("SegmentDesk$Run", "status", "I", false)
def tyX3 : Nat → FieldType := fun k => match k with
  | 0 => .object "SegmentDesk$Disk"
  | 1 => .object "SegmentDesk$Memory"
  | 2 => .object "SegmentDesk$Frames"
  | 3 => .array .int
  | 4 => .int
  | 5 => .int
  | _ => .int
abbrev wsX30 : List Cond := u_ws RX3 TX3 7
theorem nmX3 : ∀ a, a < 7 → ∀ b, b < 7 → a ≠ b → (TX3 a).2.1 ≠ (TX3 b).2.1 := by decide +kernel
theorem tyX3_ok : ∀ k, k < 7 → parseFieldDescriptor (TX3 k).2.2.1 = some (tyX3 k) := by decide +kernel
abbrev cX3_init : ByteArray := prog_5_method_1_code
def yX3_init : MethodName := ⟨RX3, "<init>", "(LSegmentDesk$Disk;)V"⟩
abbrev cX3_forget : ByteArray := prog_5_method_2_code
def yX3_forget : MethodName := ⟨RX3, "forget", "()V"⟩
abbrev cX3_begin : ByteArray := prog_5_method_3_code
def yX3_begin : MethodName := ⟨RX3, "begin", "(III)V"⟩
abbrev cX3_makeFresh : ByteArray := prog_5_method_4_code
def yX3_makeFresh : MethodName := ⟨RX3, "makeFresh", "(II)V"⟩
abbrev cX3_status : ByteArray := prog_5_method_5_code
def yX3_status : MethodName := ⟨RX3, "status", "()I"⟩
abbrev cX3_outCount : ByteArray := prog_5_method_6_code
def yX3_outCount : MethodName := ⟨RX3, "outCount", "()I"⟩
abbrev cX3_outAt : ByteArray := prog_5_method_7_code
def yX3_outAt : MethodName := ⟨RX3, "outAt", "(I)I"⟩
abbrev cX3_localAt : ByteArray := prog_5_method_8_code
def yX3_localAt : MethodName := ⟨RX3, "localAt", "(II)I"⟩
abbrev cX3_stateOf : ByteArray := prog_5_method_9_code
def yX3_stateOf : MethodName := ⟨RX3, "stateOf", "(I)I"⟩
abbrev cX3_fact : ByteArray := prog_5_method_10_code
def yX3_fact : MethodName := ⟨RX3, "fact", "(I)I"⟩
abbrev cX3_doInstruction : ByteArray := prog_5_method_11_code
def yX3_doInstruction : MethodName := ⟨RX3, "doInstruction", "()V"⟩
abbrev cX3_kindAt : ByteArray := prog_5_method_12_code
def yX3_kindAt : MethodName := ⟨RX3, "kindAt", "(II)I"⟩
abbrev cX3_take : ByteArray := prog_5_method_13_code
def yX3_take : MethodName := ⟨RX3, "take", "()I"⟩
abbrev cX3_push : ByteArray := prog_5_method_14_code
def yX3_push : MethodName := ⟨RX3, "push", "(I)Z"⟩
abbrev cX3_pushAndMove : ByteArray := prog_5_method_15_code
def yX3_pushAndMove : MethodName := ⟨RX3, "pushAndMove", "(II)V"⟩
abbrev cX3_getLocal : ByteArray := prog_5_method_16_code
def yX3_getLocal : MethodName := ⟨RX3, "getLocal", "(II)V"⟩
abbrev cX3_setLocal : ByteArray := prog_5_method_17_code
def yX3_setLocal : MethodName := ⟨RX3, "setLocal", "(II)V"⟩
abbrev cX3_calculate : ByteArray := prog_5_method_18_code
def yX3_calculate : MethodName := ⟨RX3, "calculate", "(II)V"⟩
abbrev cX3_valueOf : ByteArray := prog_5_method_19_code
def yX3_valueOf : MethodName := ⟨RX3, "valueOf", "(III)I"⟩
abbrev cX3_putOut : ByteArray := prog_5_method_20_code
def yX3_putOut : MethodName := ⟨RX3, "putOut", "(I)V"⟩
abbrev cX3_callFrom : ByteArray := prog_5_method_21_code
def yX3_callFrom : MethodName := ⟨RX3, "callFrom", "(III)V"⟩
abbrev cX3_enter : ByteArray := prog_5_method_22_code
def yX3_enter : MethodName := ⟨RX3, "enter", "(III)Z"⟩
abbrev cX3_giveBack : ByteArray := prog_5_method_23_code
def yX3_giveBack : MethodName := ⟨RX3, "giveBack", "()V"⟩
abbrev cX3_frameBytes : ByteArray := prog_5_method_24_code
def yX3_frameBytes : MethodName := ⟨RX3, "frameBytes", "(I)I"⟩
def RX4 : String := "SegmentDesk"
def TX4 : u_T := fun k => match k with
  | 0 => ("SegmentDesk", "disk", "LSegmentDesk$Disk;", true)
  | _ => ("SegmentDesk", "run", "LSegmentDesk$Run;", true)
def tyX4 : Nat → FieldType := fun k => match k with
  | 0 => .object "SegmentDesk$Disk"
  | _ => .object "SegmentDesk$Run"
abbrev wsX40 : List Cond := u_ws RX4 TX4 2
theorem nmX4 : ∀ a, a < 2 → ∀ b, b < 2 → a ≠ b → (TX4 a).2.1 ≠ (TX4 b).2.1 := by decide +kernel
theorem tyX4_ok : ∀ k, k < 2 → parseFieldDescriptor (TX4 k).2.2.1 = some (tyX4 k) := by decide +kernel
abbrev cX4_init : ByteArray := prog_1_method_1_code
def yX4_init : MethodName := ⟨RX4, "<init>", "()V"⟩
abbrev cX4_code : ByteArray := prog_1_method_2_code
def yX4_code : MethodName := ⟨RX4, "code", "(IB)I"⟩
abbrev cX4_clear : ByteArray := prog_1_method_3_code
def yX4_clear : MethodName := ⟨RX4, "clear", "(I)V"⟩
abbrev cX4_good : ByteArray := prog_1_method_4_code
def yX4_good : MethodName := ⟨RX4, "good", "(I)I"⟩
abbrev cX4_start : ByteArray := prog_1_method_5_code
def yX4_start : MethodName := ⟨RX4, "start", "(III)V"⟩
abbrev cX4_step : ByteArray := prog_1_method_6_code
def yX4_step : MethodName := ⟨RX4, "step", "(I)I"⟩
abbrev cX4_look : ByteArray := prog_1_method_7_code
def yX4_look : MethodName := ⟨RX4, "look", "(I)I"⟩
abbrev cX4_state : ByteArray := prog_1_method_8_code
def yX4_state : MethodName := ⟨RX4, "state", "(I)I"⟩
abbrev cX4_out : ByteArray := prog_1_method_9_code
def yX4_out : MethodName := ⟨RX4, "out", "(I)I"⟩
abbrev cX4_local : ByteArray := prog_1_method_10_code
def yX4_local : MethodName := ⟨RX4, "local", "(II)I"⟩
abbrev cX4_requireSegment : ByteArray := prog_1_method_11_code
def yX4_requireSegment : MethodName := ⟨RX4, "requireSegment", "(I)V"⟩
abbrev cX4_isSegment : ByteArray := prog_1_method_12_code
def yX4_isSegment : MethodName := ⟨RX4, "isSegment", "(I)Z"⟩
def RX5 : String := "SegmentDeskModel"
def TX5 : u_T := fun k => match k with
  | 0 => ("SegmentDeskModel", "code", "I", false)
  | 1 => ("SegmentDeskModel", "disk", "[I", true)
  | 2 => ("SegmentDeskModel", "length", "[I", true)
  | 3 => ("SegmentDeskModel", "state", "I", false)
  | 4 => ("SegmentDeskModel", "limit", "I", false)
  | 5 => ("SegmentDeskModel", "resident", "[Z", true)
  | 6 => ("SegmentDeskModel", "called", "[I", true)
  | 7 => ("SegmentDeskModel", "time", "I", false)
  | 8 => ("SegmentDeskModel", "most", "I", false)
  | 9 => ("SegmentDeskModel", "loads", "I", false)
  | 10 => ("SegmentDeskModel", "gone", "I", false)
  | 11 => ("SegmentDeskModel", "frames", "I", false)
  | 12 => ("SegmentDeskModel", "segment", "[I", true)
  | 13 => ("SegmentDeskModel", "place", "[I", true)
  | 14 => ("SegmentDeskModel", "locals", "[I", true)
  | 15 => ("SegmentDeskModel", "local", "[I", true)
  | 16 => ("SegmentDeskModel", "below", "[I", true)
  | 17 => ("SegmentDeskModel", "numbers", "I", false)
  | 18 => ("SegmentDeskModel", "number", "[I", true)
  | 19 => ("SegmentDeskModel", "result", "I", false)
  | 20 => ("SegmentDeskModel", "puts", "I", false)
  | _ => ("SegmentDeskModel", "put", "[I", true)
def tyX5 : Nat → FieldType := fun k => match k with
  | 0 => .int
  | 1 => .array .int
  | 2 => .array .int
  | 3 => .int
  | 4 => .int
  | 5 => .array .boolean
  | 6 => .array .int
  | 7 => .int
  | 8 => .int
  | 9 => .int
  | 10 => .int
  | 11 => .int
  | 12 => .array .int
  | 13 => .array .int
  | 14 => .array .int
  | 15 => .array .int
  | 16 => .array .int
  | 17 => .int
  | 18 => .array .int
  | 19 => .int
  | 20 => .int
  | _ => .array .int
abbrev wsX50 : List Cond := u_ws RX5 TX5 22
theorem nmX5 : ∀ a, a < 22 → ∀ b, b < 22 → a ≠ b → (TX5 a).2.1 ≠ (TX5 b).2.1 := by decide +kernel
theorem tyX5_ok : ∀ k, k < 22 → parseFieldDescriptor (TX5 k).2.2.1 = some (tyX5 k) := by decide +kernel
abbrev cX5_init : ByteArray := prog_7_method_1_code
def yX5_init : MethodName := ⟨RX5, "<init>", "()V"⟩
abbrev cX5_thrown : ByteArray := prog_7_method_2_code
def yX5_thrown : MethodName := ⟨RX5, "thrown", "()I"⟩
abbrev cX5_isSegment : ByteArray := prog_7_method_4_code
def yX5_isSegment : MethodName := ⟨RX5, "isSegment", "(I)Z"⟩
abbrev cX5_code : ByteArray := prog_7_method_5_code
def yX5_code : MethodName := ⟨RX5, "code", "(IB)I"⟩
abbrev cX5_clear : ByteArray := prog_7_method_6_code
def yX5_clear : MethodName := ⟨RX5, "clear", "(I)V"⟩
abbrev cX5_procedures : ByteArray := prog_7_method_7_code
def yX5_procedures : MethodName := ⟨RX5, "procedures", "(I)I"⟩
abbrev cX5_good : ByteArray := prog_7_method_8_code
def yX5_good : MethodName := ⟨RX5, "good", "(I)I"⟩
abbrev cX5_held : ByteArray := prog_7_method_9_code
def yX5_held : MethodName := ⟨RX5, "held", "()I"⟩
abbrev cX5_isActive : ByteArray := prog_7_method_10_code
def yX5_isActive : MethodName := ⟨RX5, "isActive", "(I)Z"⟩
abbrev cX5_room : ByteArray := prog_7_method_11_code
def yX5_room : MethodName := ⟨RX5, "room", "(II)Z"⟩
abbrev cX5_grown : ByteArray := prog_7_method_12_code
def yX5_grown : MethodName := ⟨RX5, "grown", "()V"⟩
abbrev cX5_push : ByteArray := prog_7_method_13_code
def yX5_push : MethodName := ⟨RX5, "push", "(I)Z"⟩
abbrev cX5_call : ByteArray := prog_7_method_14_code
def yX5_call : MethodName := ⟨RX5, "call", "(III)V"⟩
abbrev cX5_start : ByteArray := prog_7_method_15_code
def yX5_start : MethodName := ⟨RX5, "start", "(III)V"⟩
abbrev cX5_size : ByteArray := prog_7_method_16_code
def yX5_size : MethodName := ⟨RX5, "size", "(I)I"⟩
abbrev cX5_takes : ByteArray := prog_7_method_17_code
def yX5_takes : MethodName := ⟨RX5, "takes", "(I)I"⟩
abbrev cX5_pop : ByteArray := prog_7_method_18_code
def yX5_pop : MethodName := ⟨RX5, "pop", "()I"⟩
abbrev cX5_one : ByteArray := prog_7_method_19_code
def yX5_one : MethodName := ⟨RX5, "one", "()V"⟩
abbrev cX5_back : ByteArray := prog_7_method_20_code
def yX5_back : MethodName := ⟨RX5, "back", "(I)V"⟩
abbrev cX5_step : ByteArray := prog_7_method_21_code
def yX5_step : MethodName := ⟨RX5, "step", "(I)I"⟩
abbrev cX5_look : ByteArray := prog_7_method_22_code
def yX5_look : MethodName := ⟨RX5, "look", "(I)I"⟩
abbrev cX5_state : ByteArray := prog_7_method_23_code
def yX5_state : MethodName := ⟨RX5, "state", "(I)I"⟩
abbrev cX5_out : ByteArray := prog_7_method_24_code
def yX5_out : MethodName := ⟨RX5, "out", "(I)I"⟩
abbrev cX5_local : ByteArray := prog_7_method_25_code
def yX5_local : MethodName := ⟨RX5, "local", "(II)I"⟩
def RJ9 : String := "java/lang/Math"
def TJ9 : u_T := fun k => match k with
  | _ => ("", "", "", false)
def tyJ9 : Nat → FieldType := fun k => match k with
  | _ => .int
abbrev wsJ90 : List Cond := u_ws RJ9 TJ9 0
theorem nmJ9 : ∀ a, a < 0 → ∀ b, b < 0 → a ≠ b → (TJ9 a).2.1 ≠ (TJ9 b).2.1 := by decide +kernel
theorem tyJ9_ok : ∀ k, k < 0 → parseFieldDescriptor (TJ9 k).2.2.1 = some (tyJ9 k) := by decide +kernel
abbrev cJ9_max_7cf53 : ByteArray := prog_12_method_65_code
def yJ9_max_7cf53 : MethodName := ⟨RJ9, "max", "(II)I"⟩
def RJ0 : String := "java/lang/String"
def TJ0 : u_T := fun k => match k with
  | _ => ("", "", "", false)
def tyJ0 : Nat → FieldType := fun k => match k with
  | _ => .int
abbrev wsJ00 : List Cond := u_ws RJ0 TJ0 0
theorem nmJ0 : ∀ a, a < 0 → ∀ b, b < 0 → a ≠ b → (TJ0 a).2.1 ≠ (TJ0 b).2.1 := by decide +kernel
theorem tyJ0_ok : ∀ k, k < 0 → parseFieldDescriptor (TJ0 k).2.2.1 = some (tyJ0 k) := by decide +kernel
def RL : String := "SegmentDeskLaw"
abbrev cL_code : ByteArray := method_3_code
def yL_code : MethodName := ⟨RL, "code", "(LSegmentDesk;IB[J)I"⟩
abbrev cL_clear : ByteArray := method_4_code
def yL_clear : MethodName := ⟨RL, "clear", "(LSegmentDesk;I)I"⟩
abbrev cL_good : ByteArray := method_5_code
def yL_good : MethodName := ⟨RL, "good", "(LSegmentDesk;I[J)I"⟩
abbrev cL_start : ByteArray := method_6_code
def yL_start : MethodName := ⟨RL, "start", "(LSegmentDesk;III)I"⟩
abbrev cL_step : ByteArray := method_7_code
def yL_step : MethodName := ⟨RL, "step", "(LSegmentDesk;I[J)I"⟩
abbrev cL_look : ByteArray := method_8_code
def yL_look : MethodName := ⟨RL, "look", "(LSegmentDesk;I[J)I"⟩
abbrev cL_state : ByteArray := method_9_code
def yL_state : MethodName := ⟨RL, "state", "(LSegmentDesk;I[J)I"⟩
abbrev cL_out : ByteArray := method_10_code
def yL_out : MethodName := ⟨RL, "out", "(LSegmentDesk;I[J)I"⟩
abbrev cL_law : ByteArray := code
def yL_law : MethodName := ⟨RL, "law", "([I)Z"⟩
theorem dJ9_max_7cf53_0 : decode cJ9_max_7cf53 0 = .ok (.iload_n 0, 1) := by decide +kernel
theorem dJ9_max_7cf53_1 : decode cJ9_max_7cf53 1 = .ok (.iload_n 1, 1) := by decide +kernel
theorem dJ9_max_7cf53_2 : decode cJ9_max_7cf53 2 = .ok (.if_icmp .lt 7, 3) := by decide +kernel
theorem dJ9_max_7cf53_5 : decode cJ9_max_7cf53 5 = .ok (.iload_n 0, 1) := by decide +kernel
theorem dJ9_max_7cf53_6 : decode cJ9_max_7cf53 6 = .ok (.goto 4, 3) := by decide +kernel
theorem dJ9_max_7cf53_9 : decode cJ9_max_7cf53 9 = .ok (.iload_n 1, 1) := by decide +kernel
theorem dJ9_max_7cf53_10 : decode cJ9_max_7cf53 10 = .ok (.ireturn, 1) := by decide +kernel
abbrev vwCl : List vw_C := [(RX0, TX0, 2), (RX1, TX1, 7), (RX2, TX2, 9), (RX3, TX3, 7), (RX4, TX4, 2), (RX5, TX5, 22)]
end
section
theorem dX0_init_0 : decode cX0_init 0 = .ok (.aload_n 0, 1) := by decide +kernel
theorem dX0_init_1 : decode cX0_init 1 = .ok (.invokespecial 3, 3) := by decide +kernel
theorem dX0_init_4 : decode cX0_init 4 = .ok (.aload_n 0, 1) := by decide +kernel
theorem dX0_init_5 : decode cX0_init 5 = .ok (.iconst 5, 1) := by decide +kernel
theorem dX0_init_6 : decode cX0_init 6 = .ok (.bipush 80, 2) := by decide +kernel
theorem dX0_init_8 : decode cX0_init 8 = .ok (.multianewarray 9 2, 4) := by decide +kernel
theorem dX0_init_12 : decode cX0_init 12 = .ok (.putfield 11, 3) := by decide +kernel
theorem dX0_init_15 : decode cX0_init 15 = .ok (.aload_n 0, 1) := by decide +kernel
theorem dX0_init_16 : decode cX0_init 16 = .ok (.iconst 5, 1) := by decide +kernel
theorem dX0_init_17 : decode cX0_init 17 = .ok (.newarray .int, 2) := by decide +kernel
theorem dX0_init_19 : decode cX0_init 19 = .ok (.putfield 16, 3) := by decide +kernel
theorem dX0_init_22 : decode cX0_init 22 = .ok (.return_, 1) := by decide +kernel
theorem dX0_lengthOf_0 : decode cX0_lengthOf 0 = .ok (.iload_n 1, 1) := by decide +kernel
theorem dX0_lengthOf_1 : decode cX0_lengthOf 1 = .ok (.ifCond .lt 17, 3) := by decide +kernel
theorem dX0_lengthOf_4 : decode cX0_lengthOf 4 = .ok (.iload_n 1, 1) := by decide +kernel
theorem dX0_lengthOf_5 : decode cX0_lengthOf 5 = .ok (.iconst 5, 1) := by decide +kernel
theorem dX0_lengthOf_6 : decode cX0_lengthOf 6 = .ok (.if_icmp .ge 12, 3) := by decide +kernel
theorem dX0_lengthOf_9 : decode cX0_lengthOf 9 = .ok (.aload_n 0, 1) := by decide +kernel
theorem dX0_lengthOf_10 : decode cX0_lengthOf 10 = .ok (.getfield 16, 3) := by decide +kernel
theorem dX0_lengthOf_13 : decode cX0_lengthOf 13 = .ok (.iload_n 1, 1) := by decide +kernel
theorem dX0_lengthOf_14 : decode cX0_lengthOf 14 = .ok (.iaload, 1) := by decide +kernel
theorem dX0_lengthOf_15 : decode cX0_lengthOf 15 = .ok (.goto 4, 3) := by decide +kernel
theorem dX0_lengthOf_18 : decode cX0_lengthOf 18 = .ok (.iconst 0, 1) := by decide +kernel
theorem dX0_lengthOf_19 : decode cX0_lengthOf 19 = .ok (.ireturn, 1) := by decide +kernel
theorem dX0_append_0 : decode cX0_append 0 = .ok (.aload_n 0, 1) := by decide +kernel
theorem dX0_append_1 : decode cX0_append 1 = .ok (.iload_n 1, 1) := by decide +kernel
theorem dX0_append_2 : decode cX0_append 2 = .ok (.invokevirtual 20, 3) := by decide +kernel
theorem dX0_append_5 : decode cX0_append 5 = .ok (.istore_n 3, 1) := by decide +kernel
theorem dX0_append_6 : decode cX0_append 6 = .ok (.iload_n 1, 1) := by decide +kernel
theorem dX0_append_7 : decode cX0_append 7 = .ok (.invokestatic 24, 3) := by decide +kernel
theorem dX0_append_10 : decode cX0_append 10 = .ok (.ifCond .eq 27, 3) := by decide +kernel
theorem dX0_append_13 : decode cX0_append 13 = .ok (.iload_n 3, 1) := by decide +kernel
theorem dX0_append_14 : decode cX0_append 14 = .ok (.bipush 80, 2) := by decide +kernel
theorem dX0_append_16 : decode cX0_append 16 = .ok (.if_icmp .ge 21, 3) := by decide +kernel
theorem dX0_append_19 : decode cX0_append 19 = .ok (.aload_n 0, 1) := by decide +kernel
theorem dX0_append_20 : decode cX0_append 20 = .ok (.getfield 11, 3) := by decide +kernel
theorem dX0_append_23 : decode cX0_append 23 = .ok (.iload_n 1, 1) := by decide +kernel
theorem dX0_append_24 : decode cX0_append 24 = .ok (.aaload, 1) := by decide +kernel
theorem dX0_append_25 : decode cX0_append 25 = .ok (.iload_n 3, 1) := by decide +kernel
theorem dX0_append_26 : decode cX0_append 26 = .ok (.iload_n 2, 1) := by decide +kernel
theorem dX0_append_27 : decode cX0_append 27 = .ok (.bastore, 1) := by decide +kernel
theorem dX0_append_28 : decode cX0_append 28 = .ok (.aload_n 0, 1) := by decide +kernel
theorem dX0_append_29 : decode cX0_append 29 = .ok (.getfield 16, 3) := by decide +kernel
theorem dX0_append_32 : decode cX0_append 32 = .ok (.iload_n 1, 1) := by decide +kernel
theorem dX0_append_33 : decode cX0_append 33 = .ok (.iload_n 3, 1) := by decide +kernel
theorem dX0_append_34 : decode cX0_append 34 = .ok (.iconst 1, 1) := by decide +kernel
theorem dX0_append_35 : decode cX0_append 35 = .ok (.iadd, 1) := by decide +kernel
theorem dX0_append_36 : decode cX0_append 36 = .ok (.iastore, 1) := by decide +kernel
theorem dX0_append_37 : decode cX0_append 37 = .ok (.return_, 1) := by decide +kernel
theorem dX0_wipe_0 : decode cX0_wipe 0 = .ok (.iload_n 1, 1) := by decide +kernel
theorem dX0_wipe_1 : decode cX0_wipe 1 = .ok (.invokestatic 24, 3) := by decide +kernel
theorem dX0_wipe_4 : decode cX0_wipe 4 = .ok (.ifCond .eq 10, 3) := by decide +kernel
theorem dX0_wipe_7 : decode cX0_wipe 7 = .ok (.aload_n 0, 1) := by decide +kernel
theorem dX0_wipe_8 : decode cX0_wipe 8 = .ok (.getfield 16, 3) := by decide +kernel
theorem dX0_wipe_11 : decode cX0_wipe 11 = .ok (.iload_n 1, 1) := by decide +kernel
theorem dX0_wipe_12 : decode cX0_wipe 12 = .ok (.iconst 0, 1) := by decide +kernel
theorem dX0_wipe_13 : decode cX0_wipe 13 = .ok (.iastore, 1) := by decide +kernel
theorem dX0_wipe_14 : decode cX0_wipe 14 = .ok (.return_, 1) := by decide +kernel
theorem dX0_byteAt_0 : decode cX0_byteAt 0 = .ok (.iload_n 1, 1) := by decide +kernel
theorem dX0_byteAt_1 : decode cX0_byteAt 1 = .ok (.ifCond .lt 26, 3) := by decide +kernel
theorem dX0_byteAt_4 : decode cX0_byteAt 4 = .ok (.iload_n 1, 1) := by decide +kernel
theorem dX0_byteAt_5 : decode cX0_byteAt 5 = .ok (.iconst 5, 1) := by decide +kernel
theorem dX0_byteAt_6 : decode cX0_byteAt 6 = .ok (.if_icmp .ge 21, 3) := by decide +kernel
theorem dX0_byteAt_9 : decode cX0_byteAt 9 = .ok (.iload_n 2, 1) := by decide +kernel
theorem dX0_byteAt_10 : decode cX0_byteAt 10 = .ok (.ifCond .lt 17, 3) := by decide +kernel
theorem dX0_byteAt_13 : decode cX0_byteAt 13 = .ok (.iload_n 2, 1) := by decide +kernel
theorem dX0_byteAt_14 : decode cX0_byteAt 14 = .ok (.aload_n 0, 1) := by decide +kernel
theorem dX0_byteAt_15 : decode cX0_byteAt 15 = .ok (.getfield 16, 3) := by decide +kernel
theorem dX0_byteAt_18 : decode cX0_byteAt 18 = .ok (.iload_n 1, 1) := by decide +kernel
theorem dX0_byteAt_19 : decode cX0_byteAt 19 = .ok (.iaload, 1) := by decide +kernel
theorem dX0_byteAt_20 : decode cX0_byteAt 20 = .ok (.if_icmp .ge 7, 3) := by decide +kernel
theorem dX0_byteAt_23 : decode cX0_byteAt 23 = .ok (.iconst 1, 1) := by decide +kernel
theorem dX0_byteAt_24 : decode cX0_byteAt 24 = .ok (.goto 4, 3) := by decide +kernel
theorem dX0_byteAt_27 : decode cX0_byteAt 27 = .ok (.iconst 0, 1) := by decide +kernel
theorem dX0_byteAt_28 : decode cX0_byteAt 28 = .ok (.istore_n 3, 1) := by decide +kernel
theorem dX0_byteAt_29 : decode cX0_byteAt 29 = .ok (.iload_n 3, 1) := by decide +kernel
theorem dX0_byteAt_30 : decode cX0_byteAt 30 = .ok (.ifCond .eq 14, 3) := by decide +kernel
theorem dX0_byteAt_33 : decode cX0_byteAt 33 = .ok (.aload_n 0, 1) := by decide +kernel
theorem dX0_byteAt_34 : decode cX0_byteAt 34 = .ok (.getfield 11, 3) := by decide +kernel
theorem dX0_byteAt_37 : decode cX0_byteAt 37 = .ok (.iload_n 1, 1) := by decide +kernel
theorem dX0_byteAt_38 : decode cX0_byteAt 38 = .ok (.aaload, 1) := by decide +kernel
theorem dX0_byteAt_39 : decode cX0_byteAt 39 = .ok (.iload_n 2, 1) := by decide +kernel
theorem dX0_byteAt_40 : decode cX0_byteAt 40 = .ok (.baload, 1) := by decide +kernel
theorem dX0_byteAt_41 : decode cX0_byteAt 41 = .ok (.goto 4, 3) := by decide +kernel
theorem dX0_byteAt_44 : decode cX0_byteAt 44 = .ok (.iconst 0, 1) := by decide +kernel
theorem dX0_byteAt_45 : decode cX0_byteAt 45 = .ok (.ireturn, 1) := by decide +kernel
theorem dX0_proceduresOf_0 : decode cX0_proceduresOf 0 = .ok (.aload_n 0, 1) := by decide +kernel
theorem dX0_proceduresOf_1 : decode cX0_proceduresOf 1 = .ok (.iload_n 1, 1) := by decide +kernel
theorem dX0_proceduresOf_2 : decode cX0_proceduresOf 2 = .ok (.iconst 0, 1) := by decide +kernel
theorem dX0_proceduresOf_3 : decode cX0_proceduresOf 3 = .ok (.invokevirtual 28, 3) := by decide +kernel
theorem dX0_proceduresOf_6 : decode cX0_proceduresOf 6 = .ok (.istore_n 2, 1) := by decide +kernel
theorem dX0_proceduresOf_7 : decode cX0_proceduresOf 7 = .ok (.iload_n 2, 1) := by decide +kernel
theorem dX0_proceduresOf_8 : decode cX0_proceduresOf 8 = .ok (.iconst 1, 1) := by decide +kernel
theorem dX0_proceduresOf_9 : decode cX0_proceduresOf 9 = .ok (.if_icmp .lt 8, 3) := by decide +kernel
theorem dX0_proceduresOf_12 : decode cX0_proceduresOf 12 = .ok (.iload_n 2, 1) := by decide +kernel
theorem dX0_proceduresOf_13 : decode cX0_proceduresOf 13 = .ok (.iconst 4, 1) := by decide +kernel
theorem dX0_proceduresOf_14 : decode cX0_proceduresOf 14 = .ok (.if_icmp .le 5, 3) := by decide +kernel
theorem dX0_proceduresOf_17 : decode cX0_proceduresOf 17 = .ok (.iconst 0, 1) := by decide +kernel
theorem dX0_proceduresOf_18 : decode cX0_proceduresOf 18 = .ok (.ireturn, 1) := by decide +kernel
theorem dX0_proceduresOf_19 : decode cX0_proceduresOf 19 = .ok (.iconst 1, 1) := by decide +kernel
theorem dX0_proceduresOf_20 : decode cX0_proceduresOf 20 = .ok (.istore_n 3, 1) := by decide +kernel
theorem dX0_proceduresOf_21 : decode cX0_proceduresOf 21 = .ok (.iload_n 3, 1) := by decide +kernel
theorem dX0_proceduresOf_22 : decode cX0_proceduresOf 22 = .ok (.iload_n 2, 1) := by decide +kernel
theorem dX0_proceduresOf_23 : decode cX0_proceduresOf 23 = .ok (.if_icmp .gt 39, 3) := by decide +kernel
theorem dX0_proceduresOf_26 : decode cX0_proceduresOf 26 = .ok (.aload_n 0, 1) := by decide +kernel
theorem dX0_proceduresOf_27 : decode cX0_proceduresOf 27 = .ok (.iload_n 1, 1) := by decide +kernel
theorem dX0_proceduresOf_28 : decode cX0_proceduresOf 28 = .ok (.iload_n 3, 1) := by decide +kernel
theorem dX0_proceduresOf_29 : decode cX0_proceduresOf 29 = .ok (.invokevirtual 28, 3) := by decide +kernel
theorem dX0_proceduresOf_32 : decode cX0_proceduresOf 32 = .ok (.sipush 255, 3) := by decide +kernel
theorem dX0_proceduresOf_35 : decode cX0_proceduresOf 35 = .ok (.iand, 1) := by decide +kernel
theorem dX0_proceduresOf_36 : decode cX0_proceduresOf 36 = .ok (.istore 4, 2) := by decide +kernel
theorem dX0_proceduresOf_38 : decode cX0_proceduresOf 38 = .ok (.iload 4, 2) := by decide +kernel
theorem dX0_proceduresOf_40 : decode cX0_proceduresOf 40 = .ok (.iload_n 2, 1) := by decide +kernel
theorem dX0_proceduresOf_41 : decode cX0_proceduresOf 41 = .ok (.if_icmp .le 13, 3) := by decide +kernel
theorem dX0_proceduresOf_44 : decode cX0_proceduresOf 44 = .ok (.iload 4, 2) := by decide +kernel
theorem dX0_proceduresOf_46 : decode cX0_proceduresOf 46 = .ok (.aload_n 0, 1) := by decide +kernel
theorem dX0_proceduresOf_47 : decode cX0_proceduresOf 47 = .ok (.iload_n 1, 1) := by decide +kernel
theorem dX0_proceduresOf_48 : decode cX0_proceduresOf 48 = .ok (.invokevirtual 20, 3) := by decide +kernel
theorem dX0_proceduresOf_51 : decode cX0_proceduresOf 51 = .ok (.if_icmp .lt 5, 3) := by decide +kernel
theorem dX0_proceduresOf_54 : decode cX0_proceduresOf 54 = .ok (.iconst 0, 1) := by decide +kernel
theorem dX0_proceduresOf_55 : decode cX0_proceduresOf 55 = .ok (.ireturn, 1) := by decide +kernel
theorem dX0_proceduresOf_56 : decode cX0_proceduresOf 56 = .ok (.iinc 3 1, 3) := by decide +kernel
theorem dX0_proceduresOf_59 : decode cX0_proceduresOf 59 = .ok (.goto (-38), 3) := by decide +kernel
theorem dX0_proceduresOf_62 : decode cX0_proceduresOf 62 = .ok (.iload_n 2, 1) := by decide +kernel
theorem dX0_proceduresOf_63 : decode cX0_proceduresOf 63 = .ok (.ireturn, 1) := by decide +kernel
theorem dX0_beginOf_0 : decode cX0_beginOf 0 = .ok (.aload_n 0, 1) := by decide +kernel
theorem dX0_beginOf_1 : decode cX0_beginOf 1 = .ok (.iload_n 1, 1) := by decide +kernel
theorem dX0_beginOf_2 : decode cX0_beginOf 2 = .ok (.iload_n 2, 1) := by decide +kernel
theorem dX0_beginOf_3 : decode cX0_beginOf 3 = .ok (.iconst 1, 1) := by decide +kernel
theorem dX0_beginOf_4 : decode cX0_beginOf 4 = .ok (.iadd, 1) := by decide +kernel
theorem dX0_beginOf_5 : decode cX0_beginOf 5 = .ok (.invokevirtual 28, 3) := by decide +kernel
theorem dX0_beginOf_8 : decode cX0_beginOf 8 = .ok (.sipush 255, 3) := by decide +kernel
theorem dX0_beginOf_11 : decode cX0_beginOf 11 = .ok (.iand, 1) := by decide +kernel
theorem dX0_beginOf_12 : decode cX0_beginOf 12 = .ok (.ireturn, 1) := by decide +kernel
theorem dX0_localsOf_0 : decode cX0_localsOf 0 = .ok (.iload_n 2, 1) := by decide +kernel
theorem dX0_localsOf_1 : decode cX0_localsOf 1 = .ok (.ifCond .lt 12, 3) := by decide +kernel
theorem dX0_localsOf_4 : decode cX0_localsOf 4 = .ok (.iload_n 2, 1) := by decide +kernel
theorem dX0_localsOf_5 : decode cX0_localsOf 5 = .ok (.aload_n 0, 1) := by decide +kernel
theorem dX0_localsOf_6 : decode cX0_localsOf 6 = .ok (.iload_n 1, 1) := by decide +kernel
theorem dX0_localsOf_7 : decode cX0_localsOf 7 = .ok (.invokevirtual 32, 3) := by decide +kernel
theorem dX0_localsOf_10 : decode cX0_localsOf 10 = .ok (.if_icmp .lt 5, 3) := by decide +kernel
theorem dX0_localsOf_13 : decode cX0_localsOf 13 = .ok (.iconst (-1), 1) := by decide +kernel
theorem dX0_localsOf_14 : decode cX0_localsOf 14 = .ok (.ireturn, 1) := by decide +kernel
theorem dX0_localsOf_15 : decode cX0_localsOf 15 = .ok (.aload_n 0, 1) := by decide +kernel
theorem dX0_localsOf_16 : decode cX0_localsOf 16 = .ok (.iload_n 1, 1) := by decide +kernel
theorem dX0_localsOf_17 : decode cX0_localsOf 17 = .ok (.aload_n 0, 1) := by decide +kernel
theorem dX0_localsOf_18 : decode cX0_localsOf 18 = .ok (.iload_n 1, 1) := by decide +kernel
theorem dX0_localsOf_19 : decode cX0_localsOf 19 = .ok (.iload_n 2, 1) := by decide +kernel
theorem dX0_localsOf_20 : decode cX0_localsOf 20 = .ok (.invokevirtual 35, 3) := by decide +kernel
theorem dX0_localsOf_23 : decode cX0_localsOf 23 = .ok (.invokevirtual 28, 3) := by decide +kernel
theorem dX0_localsOf_26 : decode cX0_localsOf 26 = .ok (.istore_n 3, 1) := by decide +kernel
theorem dX0_localsOf_27 : decode cX0_localsOf 27 = .ok (.iload_n 3, 1) := by decide +kernel
theorem dX0_localsOf_28 : decode cX0_localsOf 28 = .ok (.ifCond .lt 13, 3) := by decide +kernel
theorem dX0_localsOf_31 : decode cX0_localsOf 31 = .ok (.iload_n 3, 1) := by decide +kernel
theorem dX0_localsOf_32 : decode cX0_localsOf 32 = .ok (.bipush 6, 2) := by decide +kernel
theorem dX0_localsOf_34 : decode cX0_localsOf 34 = .ok (.if_icmp .gt 7, 3) := by decide +kernel
theorem dX0_localsOf_37 : decode cX0_localsOf 37 = .ok (.iload_n 3, 1) := by decide +kernel
theorem dX0_localsOf_38 : decode cX0_localsOf 38 = .ok (.goto 4, 3) := by decide +kernel
theorem dX0_localsOf_41 : decode cX0_localsOf 41 = .ok (.iconst (-1), 1) := by decide +kernel
theorem dX0_localsOf_42 : decode cX0_localsOf 42 = .ok (.ireturn, 1) := by decide +kernel
theorem dX1_init_0 : decode cX1_init 0 = .ok (.aload_n 0, 1) := by decide +kernel
theorem dX1_init_1 : decode cX1_init 1 = .ok (.invokespecial 3, 3) := by decide +kernel
theorem dX1_init_4 : decode cX1_init 4 = .ok (.aload_n 0, 1) := by decide +kernel
theorem dX1_init_5 : decode cX1_init 5 = .ok (.sipush 500, 3) := by decide +kernel
theorem dX1_init_8 : decode cX1_init 8 = .ok (.newarray .int, 2) := by decide +kernel
theorem dX1_init_10 : decode cX1_init 10 = .ok (.putfield 11, 3) := by decide +kernel
theorem dX1_init_13 : decode cX1_init 13 = .ok (.aload_n 0, 1) := by decide +kernel
theorem dX1_init_14 : decode cX1_init 14 = .ok (.sipush 500, 3) := by decide +kernel
theorem dX1_init_17 : decode cX1_init 17 = .ok (.newarray .int, 2) := by decide +kernel
theorem dX1_init_19 : decode cX1_init 19 = .ok (.putfield 15, 3) := by decide +kernel
theorem dX1_init_22 : decode cX1_init 22 = .ok (.aload_n 0, 1) := by decide +kernel
theorem dX1_init_23 : decode cX1_init 23 = .ok (.sipush 500, 3) := by decide +kernel
theorem dX1_init_26 : decode cX1_init 26 = .ok (.newarray .int, 2) := by decide +kernel
theorem dX1_init_28 : decode cX1_init 28 = .ok (.putfield 18, 3) := by decide +kernel
theorem dX1_init_31 : decode cX1_init 31 = .ok (.aload_n 0, 1) := by decide +kernel
theorem dX1_init_32 : decode cX1_init 32 = .ok (.sipush 500, 3) := by decide +kernel
theorem dX1_init_35 : decode cX1_init 35 = .ok (.newarray .int, 2) := by decide +kernel
theorem dX1_init_37 : decode cX1_init 37 = .ok (.putfield 21, 3) := by decide +kernel
theorem dX1_init_40 : decode cX1_init 40 = .ok (.aload_n 0, 1) := by decide +kernel
theorem dX1_init_41 : decode cX1_init 41 = .ok (.sipush 1000, 3) := by decide +kernel
theorem dX1_init_44 : decode cX1_init 44 = .ok (.newarray .int, 2) := by decide +kernel
theorem dX1_init_46 : decode cX1_init 46 = .ok (.putfield 24, 3) := by decide +kernel
theorem dX1_init_49 : decode cX1_init 49 = .ok (.return_, 1) := by decide +kernel
theorem dX1_empty_0 : decode cX1_empty 0 = .ok (.aload_n 0, 1) := by decide +kernel
theorem dX1_empty_1 : decode cX1_empty 1 = .ok (.iconst 0, 1) := by decide +kernel
theorem dX1_empty_2 : decode cX1_empty 2 = .ok (.putfield 27, 3) := by decide +kernel
theorem dX1_empty_5 : decode cX1_empty 5 = .ok (.aload_n 0, 1) := by decide +kernel
theorem dX1_empty_6 : decode cX1_empty 6 = .ok (.iconst 0, 1) := by decide +kernel
theorem dX1_empty_7 : decode cX1_empty 7 = .ok (.putfield 31, 3) := by decide +kernel
theorem dX1_empty_10 : decode cX1_empty 10 = .ok (.return_, 1) := by decide +kernel
theorem dX1_count_0 : decode cX1_count 0 = .ok (.aload_n 0, 1) := by decide +kernel
theorem dX1_count_1 : decode cX1_count 1 = .ok (.getfield 27, 3) := by decide +kernel
theorem dX1_count_4 : decode cX1_count 4 = .ok (.ireturn, 1) := by decide +kernel
theorem dX1_latestSegment_0 : decode cX1_latestSegment 0 = .ok (.aload_n 0, 1) := by decide +kernel
theorem dX1_latestSegment_1 : decode cX1_latestSegment 1 = .ok (.getfield 27, 3) := by decide +kernel
theorem dX1_latestSegment_4 : decode cX1_latestSegment 4 = .ok (.ifCond .le 17, 3) := by decide +kernel
theorem dX1_latestSegment_7 : decode cX1_latestSegment 7 = .ok (.aload_n 0, 1) := by decide +kernel
theorem dX1_latestSegment_8 : decode cX1_latestSegment 8 = .ok (.getfield 11, 3) := by decide +kernel
theorem dX1_latestSegment_11 : decode cX1_latestSegment 11 = .ok (.aload_n 0, 1) := by decide +kernel
theorem dX1_latestSegment_12 : decode cX1_latestSegment 12 = .ok (.getfield 27, 3) := by decide +kernel
theorem dX1_latestSegment_15 : decode cX1_latestSegment 15 = .ok (.iconst 1, 1) := by decide +kernel
theorem dX1_latestSegment_16 : decode cX1_latestSegment 16 = .ok (.isub, 1) := by decide +kernel
theorem dX1_latestSegment_17 : decode cX1_latestSegment 17 = .ok (.iaload, 1) := by decide +kernel
theorem dX1_latestSegment_18 : decode cX1_latestSegment 18 = .ok (.goto 4, 3) := by decide +kernel
theorem dX1_latestSegment_21 : decode cX1_latestSegment 21 = .ok (.iconst (-1), 1) := by decide +kernel
theorem dX1_latestSegment_22 : decode cX1_latestSegment 22 = .ok (.ireturn, 1) := by decide +kernel
theorem dX1_latestPlace_0 : decode cX1_latestPlace 0 = .ok (.aload_n 0, 1) := by decide +kernel
theorem dX1_latestPlace_1 : decode cX1_latestPlace 1 = .ok (.getfield 27, 3) := by decide +kernel
theorem dX1_latestPlace_4 : decode cX1_latestPlace 4 = .ok (.ifCond .le 17, 3) := by decide +kernel
theorem dX1_latestPlace_7 : decode cX1_latestPlace 7 = .ok (.aload_n 0, 1) := by decide +kernel
theorem dX1_latestPlace_8 : decode cX1_latestPlace 8 = .ok (.getfield 15, 3) := by decide +kernel
theorem dX1_latestPlace_11 : decode cX1_latestPlace 11 = .ok (.aload_n 0, 1) := by decide +kernel
theorem dX1_latestPlace_12 : decode cX1_latestPlace 12 = .ok (.getfield 27, 3) := by decide +kernel
theorem dX1_latestPlace_15 : decode cX1_latestPlace 15 = .ok (.iconst 1, 1) := by decide +kernel
theorem dX1_latestPlace_16 : decode cX1_latestPlace 16 = .ok (.isub, 1) := by decide +kernel
theorem dX1_latestPlace_17 : decode cX1_latestPlace 17 = .ok (.iaload, 1) := by decide +kernel
theorem dX1_latestPlace_18 : decode cX1_latestPlace 18 = .ok (.goto 4, 3) := by decide +kernel
theorem dX1_latestPlace_21 : decode cX1_latestPlace 21 = .ok (.iconst (-1), 1) := by decide +kernel
theorem dX1_latestPlace_22 : decode cX1_latestPlace 22 = .ok (.ireturn, 1) := by decide +kernel
theorem dX1_latestLocals_0 : decode cX1_latestLocals 0 = .ok (.aload_n 0, 1) := by decide +kernel
theorem dX1_latestLocals_1 : decode cX1_latestLocals 1 = .ok (.getfield 27, 3) := by decide +kernel
theorem dX1_latestLocals_4 : decode cX1_latestLocals 4 = .ok (.ifCond .le 17, 3) := by decide +kernel
theorem dX1_latestLocals_7 : decode cX1_latestLocals 7 = .ok (.aload_n 0, 1) := by decide +kernel
theorem dX1_latestLocals_8 : decode cX1_latestLocals 8 = .ok (.getfield 18, 3) := by decide +kernel
theorem dX1_latestLocals_11 : decode cX1_latestLocals 11 = .ok (.aload_n 0, 1) := by decide +kernel
theorem dX1_latestLocals_12 : decode cX1_latestLocals 12 = .ok (.getfield 27, 3) := by decide +kernel
theorem dX1_latestLocals_15 : decode cX1_latestLocals 15 = .ok (.iconst 1, 1) := by decide +kernel
theorem dX1_latestLocals_16 : decode cX1_latestLocals 16 = .ok (.isub, 1) := by decide +kernel
theorem dX1_latestLocals_17 : decode cX1_latestLocals 17 = .ok (.iaload, 1) := by decide +kernel
theorem dX1_latestLocals_18 : decode cX1_latestLocals 18 = .ok (.goto 4, 3) := by decide +kernel
theorem dX1_latestLocals_21 : decode cX1_latestLocals 21 = .ok (.iconst 0, 1) := by decide +kernel
theorem dX1_latestLocals_22 : decode cX1_latestLocals 22 = .ok (.ireturn, 1) := by decide +kernel
theorem dX1_depth_0 : decode cX1_depth 0 = .ok (.aload_n 0, 1) := by decide +kernel
theorem dX1_depth_1 : decode cX1_depth 1 = .ok (.getfield 27, 3) := by decide +kernel
theorem dX1_depth_4 : decode cX1_depth 4 = .ok (.ifCond .le 34, 3) := by decide +kernel
theorem dX1_depth_7 : decode cX1_depth 7 = .ok (.aload_n 0, 1) := by decide +kernel
theorem dX1_depth_8 : decode cX1_depth 8 = .ok (.getfield 31, 3) := by decide +kernel
theorem dX1_depth_11 : decode cX1_depth 11 = .ok (.aload_n 0, 1) := by decide +kernel
theorem dX1_depth_12 : decode cX1_depth 12 = .ok (.getfield 21, 3) := by decide +kernel
theorem dX1_depth_15 : decode cX1_depth 15 = .ok (.aload_n 0, 1) := by decide +kernel
theorem dX1_depth_16 : decode cX1_depth 16 = .ok (.getfield 27, 3) := by decide +kernel
theorem dX1_depth_19 : decode cX1_depth 19 = .ok (.iconst 1, 1) := by decide +kernel
theorem dX1_depth_20 : decode cX1_depth 20 = .ok (.isub, 1) := by decide +kernel
theorem dX1_depth_21 : decode cX1_depth 21 = .ok (.iaload, 1) := by decide +kernel
theorem dX1_depth_22 : decode cX1_depth 22 = .ok (.isub, 1) := by decide +kernel
theorem dX1_depth_23 : decode cX1_depth 23 = .ok (.aload_n 0, 1) := by decide +kernel
theorem dX1_depth_24 : decode cX1_depth 24 = .ok (.getfield 18, 3) := by decide +kernel
theorem dX1_depth_27 : decode cX1_depth 27 = .ok (.aload_n 0, 1) := by decide +kernel
theorem dX1_depth_28 : decode cX1_depth 28 = .ok (.getfield 27, 3) := by decide +kernel
theorem dX1_depth_31 : decode cX1_depth 31 = .ok (.iconst 1, 1) := by decide +kernel
theorem dX1_depth_32 : decode cX1_depth 32 = .ok (.isub, 1) := by decide +kernel
theorem dX1_depth_33 : decode cX1_depth 33 = .ok (.iaload, 1) := by decide +kernel
theorem dX1_depth_34 : decode cX1_depth 34 = .ok (.isub, 1) := by decide +kernel
theorem dX1_depth_35 : decode cX1_depth 35 = .ok (.goto 4, 3) := by decide +kernel
theorem dX1_depth_38 : decode cX1_depth 38 = .ok (.iconst 0, 1) := by decide +kernel
theorem dX1_depth_39 : decode cX1_depth 39 = .ok (.ireturn, 1) := by decide +kernel
theorem dX1_open_0 : decode cX1_open 0 = .ok (.aload_n 0, 1) := by decide +kernel
theorem dX1_open_1 : decode cX1_open 1 = .ok (.getfield 27, 3) := by decide +kernel
theorem dX1_open_4 : decode cX1_open 4 = .ok (.sipush 500, 3) := by decide +kernel
theorem dX1_open_7 : decode cX1_open 7 = .ok (.if_icmp .ge 19, 3) := by decide +kernel
theorem dX1_open_10 : decode cX1_open 10 = .ok (.iload_n 3, 1) := by decide +kernel
theorem dX1_open_11 : decode cX1_open 11 = .ok (.ifCond .lt 15, 3) := by decide +kernel
theorem dX1_open_14 : decode cX1_open 14 = .ok (.iload_n 3, 1) := by decide +kernel
theorem dX1_open_15 : decode cX1_open 15 = .ok (.sipush 1000, 3) := by decide +kernel
theorem dX1_open_18 : decode cX1_open 18 = .ok (.aload_n 0, 1) := by decide +kernel
theorem dX1_open_19 : decode cX1_open 19 = .ok (.getfield 31, 3) := by decide +kernel
theorem dX1_open_22 : decode cX1_open 22 = .ok (.isub, 1) := by decide +kernel
theorem dX1_open_23 : decode cX1_open 23 = .ok (.if_icmp .le 4, 3) := by decide +kernel
theorem dX1_open_26 : decode cX1_open 26 = .ok (.return_, 1) := by decide +kernel
theorem dX1_open_27 : decode cX1_open 27 = .ok (.aload_n 0, 1) := by decide +kernel
theorem dX1_open_28 : decode cX1_open 28 = .ok (.getfield 11, 3) := by decide +kernel
theorem dX1_open_31 : decode cX1_open 31 = .ok (.aload_n 0, 1) := by decide +kernel
theorem dX1_open_32 : decode cX1_open 32 = .ok (.getfield 27, 3) := by decide +kernel
theorem dX1_open_35 : decode cX1_open 35 = .ok (.iload_n 1, 1) := by decide +kernel
theorem dX1_open_36 : decode cX1_open 36 = .ok (.iastore, 1) := by decide +kernel
theorem dX1_open_37 : decode cX1_open 37 = .ok (.aload_n 0, 1) := by decide +kernel
theorem dX1_open_38 : decode cX1_open 38 = .ok (.getfield 15, 3) := by decide +kernel
theorem dX1_open_41 : decode cX1_open 41 = .ok (.aload_n 0, 1) := by decide +kernel
theorem dX1_open_42 : decode cX1_open 42 = .ok (.getfield 27, 3) := by decide +kernel
theorem dX1_open_45 : decode cX1_open 45 = .ok (.iload_n 2, 1) := by decide +kernel
theorem dX1_open_46 : decode cX1_open 46 = .ok (.iastore, 1) := by decide +kernel
theorem dX1_open_47 : decode cX1_open 47 = .ok (.aload_n 0, 1) := by decide +kernel
theorem dX1_open_48 : decode cX1_open 48 = .ok (.getfield 18, 3) := by decide +kernel
theorem dX1_open_51 : decode cX1_open 51 = .ok (.aload_n 0, 1) := by decide +kernel
theorem dX1_open_52 : decode cX1_open 52 = .ok (.getfield 27, 3) := by decide +kernel
theorem dX1_open_55 : decode cX1_open 55 = .ok (.iload_n 3, 1) := by decide +kernel
theorem dX1_open_56 : decode cX1_open 56 = .ok (.iastore, 1) := by decide +kernel
theorem dX1_open_57 : decode cX1_open 57 = .ok (.aload_n 0, 1) := by decide +kernel
theorem dX1_open_58 : decode cX1_open 58 = .ok (.getfield 21, 3) := by decide +kernel
theorem dX1_open_61 : decode cX1_open 61 = .ok (.aload_n 0, 1) := by decide +kernel
theorem dX1_open_62 : decode cX1_open 62 = .ok (.getfield 27, 3) := by decide +kernel
theorem dX1_open_65 : decode cX1_open 65 = .ok (.aload_n 0, 1) := by decide +kernel
theorem dX1_open_66 : decode cX1_open 66 = .ok (.getfield 31, 3) := by decide +kernel
theorem dX1_open_69 : decode cX1_open 69 = .ok (.iastore, 1) := by decide +kernel
theorem dX1_open_70 : decode cX1_open 70 = .ok (.iconst 0, 1) := by decide +kernel
theorem dX1_open_71 : decode cX1_open 71 = .ok (.istore 5, 2) := by decide +kernel
theorem dX1_open_73 : decode cX1_open 73 = .ok (.iload 5, 2) := by decide +kernel
theorem dX1_open_75 : decode cX1_open 75 = .ok (.iload_n 3, 1) := by decide +kernel
theorem dX1_open_76 : decode cX1_open 76 = .ok (.if_icmp .ge 32, 3) := by decide +kernel
theorem dX1_open_79 : decode cX1_open 79 = .ok (.aload_n 0, 1) := by decide +kernel
theorem dX1_open_80 : decode cX1_open 80 = .ok (.getfield 24, 3) := by decide +kernel
theorem dX1_open_83 : decode cX1_open 83 = .ok (.aload_n 0, 1) := by decide +kernel
theorem dX1_open_84 : decode cX1_open 84 = .ok (.getfield 31, 3) := by decide +kernel
theorem dX1_open_87 : decode cX1_open 87 = .ok (.iload 5, 2) := by decide +kernel
theorem dX1_open_89 : decode cX1_open 89 = .ok (.iadd, 1) := by decide +kernel
theorem dX1_open_90 : decode cX1_open 90 = .ok (.iload 5, 2) := by decide +kernel
theorem dX1_open_92 : decode cX1_open 92 = .ok (.ifCond .ne 8, 3) := by decide +kernel
theorem dX1_open_95 : decode cX1_open 95 = .ok (.iload 4, 2) := by decide +kernel
theorem dX1_open_97 : decode cX1_open 97 = .ok (.goto 4, 3) := by decide +kernel
theorem dX1_open_100 : decode cX1_open 100 = .ok (.iconst 0, 1) := by decide +kernel
theorem dX1_open_101 : decode cX1_open 101 = .ok (.iastore, 1) := by decide +kernel
theorem dX1_open_102 : decode cX1_open 102 = .ok (.iinc 5 1, 3) := by decide +kernel
theorem dX1_open_105 : decode cX1_open 105 = .ok (.goto (-32), 3) := by decide +kernel
theorem dX1_open_108 : decode cX1_open 108 = .ok (.aload_n 0, 1) := by decide +kernel
theorem dX1_open_109 : decode cX1_open 109 = .ok (.dup, 1) := by decide +kernel
theorem dX1_open_110 : decode cX1_open 110 = .ok (.getfield 31, 3) := by decide +kernel
theorem dX1_open_113 : decode cX1_open 113 = .ok (.iload_n 3, 1) := by decide +kernel
theorem dX1_open_114 : decode cX1_open 114 = .ok (.iadd, 1) := by decide +kernel
theorem dX1_open_115 : decode cX1_open 115 = .ok (.putfield 31, 3) := by decide +kernel
theorem dX1_open_118 : decode cX1_open 118 = .ok (.aload_n 0, 1) := by decide +kernel
theorem dX1_open_119 : decode cX1_open 119 = .ok (.dup, 1) := by decide +kernel
theorem dX1_open_120 : decode cX1_open 120 = .ok (.getfield 27, 3) := by decide +kernel
theorem dX1_open_123 : decode cX1_open 123 = .ok (.iconst 1, 1) := by decide +kernel
theorem dX1_open_124 : decode cX1_open 124 = .ok (.iadd, 1) := by decide +kernel
theorem dX1_open_125 : decode cX1_open 125 = .ok (.putfield 27, 3) := by decide +kernel
theorem dX1_open_128 : decode cX1_open 128 = .ok (.return_, 1) := by decide +kernel
theorem dX1_close_0 : decode cX1_close 0 = .ok (.aload_n 0, 1) := by decide +kernel
theorem dX1_close_1 : decode cX1_close 1 = .ok (.getfield 27, 3) := by decide +kernel
theorem dX1_close_4 : decode cX1_close 4 = .ok (.ifCond .le 26, 3) := by decide +kernel
theorem dX1_close_7 : decode cX1_close 7 = .ok (.aload_n 0, 1) := by decide +kernel
theorem dX1_close_8 : decode cX1_close 8 = .ok (.dup, 1) := by decide +kernel
theorem dX1_close_9 : decode cX1_close 9 = .ok (.getfield 27, 3) := by decide +kernel
theorem dX1_close_12 : decode cX1_close 12 = .ok (.iconst 1, 1) := by decide +kernel
theorem dX1_close_13 : decode cX1_close 13 = .ok (.isub, 1) := by decide +kernel
theorem dX1_close_14 : decode cX1_close 14 = .ok (.putfield 27, 3) := by decide +kernel
theorem dX1_close_17 : decode cX1_close 17 = .ok (.aload_n 0, 1) := by decide +kernel
theorem dX1_close_18 : decode cX1_close 18 = .ok (.aload_n 0, 1) := by decide +kernel
theorem dX1_close_19 : decode cX1_close 19 = .ok (.getfield 21, 3) := by decide +kernel
theorem dX1_close_22 : decode cX1_close 22 = .ok (.aload_n 0, 1) := by decide +kernel
theorem dX1_close_23 : decode cX1_close 23 = .ok (.getfield 27, 3) := by decide +kernel
theorem dX1_close_26 : decode cX1_close 26 = .ok (.iaload, 1) := by decide +kernel
theorem dX1_close_27 : decode cX1_close 27 = .ok (.putfield 31, 3) := by decide +kernel
theorem dX1_close_30 : decode cX1_close 30 = .ok (.return_, 1) := by decide +kernel
theorem dX1_moveTo_0 : decode cX1_moveTo 0 = .ok (.aload_n 0, 1) := by decide +kernel
theorem dX1_moveTo_1 : decode cX1_moveTo 1 = .ok (.getfield 27, 3) := by decide +kernel
theorem dX1_moveTo_4 : decode cX1_moveTo 4 = .ok (.ifCond .le 15, 3) := by decide +kernel
theorem dX1_moveTo_7 : decode cX1_moveTo 7 = .ok (.aload_n 0, 1) := by decide +kernel
theorem dX1_moveTo_8 : decode cX1_moveTo 8 = .ok (.getfield 15, 3) := by decide +kernel
theorem dX1_moveTo_11 : decode cX1_moveTo 11 = .ok (.aload_n 0, 1) := by decide +kernel
theorem dX1_moveTo_12 : decode cX1_moveTo 12 = .ok (.getfield 27, 3) := by decide +kernel
theorem dX1_moveTo_15 : decode cX1_moveTo 15 = .ok (.iconst 1, 1) := by decide +kernel
theorem dX1_moveTo_16 : decode cX1_moveTo 16 = .ok (.isub, 1) := by decide +kernel
theorem dX1_moveTo_17 : decode cX1_moveTo 17 = .ok (.iload_n 1, 1) := by decide +kernel
theorem dX1_moveTo_18 : decode cX1_moveTo 18 = .ok (.iastore, 1) := by decide +kernel
theorem dX1_moveTo_19 : decode cX1_moveTo 19 = .ok (.return_, 1) := by decide +kernel
theorem dX1_moveCallerTo_0 : decode cX1_moveCallerTo 0 = .ok (.aload_n 0, 1) := by decide +kernel
theorem dX1_moveCallerTo_1 : decode cX1_moveCallerTo 1 = .ok (.getfield 27, 3) := by decide +kernel
theorem dX1_moveCallerTo_4 : decode cX1_moveCallerTo 4 = .ok (.iconst 1, 1) := by decide +kernel
theorem dX1_moveCallerTo_5 : decode cX1_moveCallerTo 5 = .ok (.if_icmp .le 15, 3) := by decide +kernel
theorem dX1_moveCallerTo_8 : decode cX1_moveCallerTo 8 = .ok (.aload_n 0, 1) := by decide +kernel
theorem dX1_moveCallerTo_9 : decode cX1_moveCallerTo 9 = .ok (.getfield 15, 3) := by decide +kernel
theorem dX1_moveCallerTo_12 : decode cX1_moveCallerTo 12 = .ok (.aload_n 0, 1) := by decide +kernel
theorem dX1_moveCallerTo_13 : decode cX1_moveCallerTo 13 = .ok (.getfield 27, 3) := by decide +kernel
theorem dX1_moveCallerTo_16 : decode cX1_moveCallerTo 16 = .ok (.iconst 2, 1) := by decide +kernel
theorem dX1_moveCallerTo_17 : decode cX1_moveCallerTo 17 = .ok (.isub, 1) := by decide +kernel
theorem dX1_moveCallerTo_18 : decode cX1_moveCallerTo 18 = .ok (.iload_n 1, 1) := by decide +kernel
theorem dX1_moveCallerTo_19 : decode cX1_moveCallerTo 19 = .ok (.iastore, 1) := by decide +kernel
theorem dX1_moveCallerTo_20 : decode cX1_moveCallerTo 20 = .ok (.return_, 1) := by decide +kernel
theorem dX1_push_0 : decode cX1_push 0 = .ok (.aload_n 0, 1) := by decide +kernel
theorem dX1_push_1 : decode cX1_push 1 = .ok (.getfield 31, 3) := by decide +kernel
theorem dX1_push_4 : decode cX1_push 4 = .ok (.sipush 1000, 3) := by decide +kernel
theorem dX1_push_7 : decode cX1_push 7 = .ok (.if_icmp .ge 23, 3) := by decide +kernel
theorem dX1_push_10 : decode cX1_push 10 = .ok (.aload_n 0, 1) := by decide +kernel
theorem dX1_push_11 : decode cX1_push 11 = .ok (.getfield 24, 3) := by decide +kernel
theorem dX1_push_14 : decode cX1_push 14 = .ok (.aload_n 0, 1) := by decide +kernel
theorem dX1_push_15 : decode cX1_push 15 = .ok (.getfield 31, 3) := by decide +kernel
theorem dX1_push_18 : decode cX1_push 18 = .ok (.iload_n 1, 1) := by decide +kernel
theorem dX1_push_19 : decode cX1_push 19 = .ok (.iastore, 1) := by decide +kernel
theorem dX1_push_20 : decode cX1_push 20 = .ok (.aload_n 0, 1) := by decide +kernel
theorem dX1_push_21 : decode cX1_push 21 = .ok (.dup, 1) := by decide +kernel
theorem dX1_push_22 : decode cX1_push 22 = .ok (.getfield 31, 3) := by decide +kernel
theorem dX1_push_25 : decode cX1_push 25 = .ok (.iconst 1, 1) := by decide +kernel
theorem dX1_push_26 : decode cX1_push 26 = .ok (.iadd, 1) := by decide +kernel
theorem dX1_push_27 : decode cX1_push 27 = .ok (.putfield 31, 3) := by decide +kernel
theorem dX1_push_30 : decode cX1_push 30 = .ok (.return_, 1) := by decide +kernel
theorem dX1_pop_0 : decode cX1_pop 0 = .ok (.aload_n 0, 1) := by decide +kernel
theorem dX1_pop_1 : decode cX1_pop 1 = .ok (.invokevirtual 34, 3) := by decide +kernel
theorem dX1_pop_4 : decode cX1_pop 4 = .ok (.ifCond .gt 5, 3) := by decide +kernel
theorem dX1_pop_7 : decode cX1_pop 7 = .ok (.iconst 0, 1) := by decide +kernel
theorem dX1_pop_8 : decode cX1_pop 8 = .ok (.ireturn, 1) := by decide +kernel
theorem dX1_pop_9 : decode cX1_pop 9 = .ok (.aload_n 0, 1) := by decide +kernel
theorem dX1_pop_10 : decode cX1_pop 10 = .ok (.dup, 1) := by decide +kernel
theorem dX1_pop_11 : decode cX1_pop 11 = .ok (.getfield 31, 3) := by decide +kernel
theorem dX1_pop_14 : decode cX1_pop 14 = .ok (.iconst 1, 1) := by decide +kernel
theorem dX1_pop_15 : decode cX1_pop 15 = .ok (.isub, 1) := by decide +kernel
theorem dX1_pop_16 : decode cX1_pop 16 = .ok (.putfield 31, 3) := by decide +kernel
theorem dX1_pop_19 : decode cX1_pop 19 = .ok (.aload_n 0, 1) := by decide +kernel
theorem dX1_pop_20 : decode cX1_pop 20 = .ok (.getfield 24, 3) := by decide +kernel
theorem dX1_pop_23 : decode cX1_pop 23 = .ok (.aload_n 0, 1) := by decide +kernel
theorem dX1_pop_24 : decode cX1_pop 24 = .ok (.getfield 31, 3) := by decide +kernel
theorem dX1_pop_27 : decode cX1_pop 27 = .ok (.iaload, 1) := by decide +kernel
theorem dX1_pop_28 : decode cX1_pop 28 = .ok (.ireturn, 1) := by decide +kernel
theorem dX1_hasLocal_0 : decode cX1_hasLocal 0 = .ok (.iload_n 1, 1) := by decide +kernel
theorem dX1_hasLocal_1 : decode cX1_hasLocal 1 = .ok (.ifCond .lt 29, 3) := by decide +kernel
theorem dX1_hasLocal_4 : decode cX1_hasLocal 4 = .ok (.iload_n 1, 1) := by decide +kernel
theorem dX1_hasLocal_5 : decode cX1_hasLocal 5 = .ok (.aload_n 0, 1) := by decide +kernel
theorem dX1_hasLocal_6 : decode cX1_hasLocal 6 = .ok (.getfield 27, 3) := by decide +kernel
theorem dX1_hasLocal_9 : decode cX1_hasLocal 9 = .ok (.if_icmp .ge 21, 3) := by decide +kernel
theorem dX1_hasLocal_12 : decode cX1_hasLocal 12 = .ok (.iload_n 2, 1) := by decide +kernel
theorem dX1_hasLocal_13 : decode cX1_hasLocal 13 = .ok (.ifCond .lt 17, 3) := by decide +kernel
theorem dX1_hasLocal_16 : decode cX1_hasLocal 16 = .ok (.iload_n 2, 1) := by decide +kernel
theorem dX1_hasLocal_17 : decode cX1_hasLocal 17 = .ok (.aload_n 0, 1) := by decide +kernel
theorem dX1_hasLocal_18 : decode cX1_hasLocal 18 = .ok (.getfield 18, 3) := by decide +kernel
theorem dX1_hasLocal_21 : decode cX1_hasLocal 21 = .ok (.iload_n 1, 1) := by decide +kernel
theorem dX1_hasLocal_22 : decode cX1_hasLocal 22 = .ok (.iaload, 1) := by decide +kernel
theorem dX1_hasLocal_23 : decode cX1_hasLocal 23 = .ok (.if_icmp .ge 7, 3) := by decide +kernel
theorem dX1_hasLocal_26 : decode cX1_hasLocal 26 = .ok (.iconst 1, 1) := by decide +kernel
theorem dX1_hasLocal_27 : decode cX1_hasLocal 27 = .ok (.goto 4, 3) := by decide +kernel
theorem dX1_hasLocal_30 : decode cX1_hasLocal 30 = .ok (.iconst 0, 1) := by decide +kernel
theorem dX1_hasLocal_31 : decode cX1_hasLocal 31 = .ok (.ireturn, 1) := by decide +kernel
end
section
theorem dX1_localAt_0 : decode cX1_localAt 0 = .ok (.aload_n 0, 1) := by decide +kernel
theorem dX1_localAt_1 : decode cX1_localAt 1 = .ok (.iload_n 1, 1) := by decide +kernel
theorem dX1_localAt_2 : decode cX1_localAt 2 = .ok (.iload_n 2, 1) := by decide +kernel
theorem dX1_localAt_3 : decode cX1_localAt 3 = .ok (.invokevirtual 38, 3) := by decide +kernel
theorem dX1_localAt_6 : decode cX1_localAt 6 = .ok (.ifCond .eq 19, 3) := by decide +kernel
theorem dX1_localAt_9 : decode cX1_localAt 9 = .ok (.aload_n 0, 1) := by decide +kernel
theorem dX1_localAt_10 : decode cX1_localAt 10 = .ok (.getfield 24, 3) := by decide +kernel
theorem dX1_localAt_13 : decode cX1_localAt 13 = .ok (.aload_n 0, 1) := by decide +kernel
theorem dX1_localAt_14 : decode cX1_localAt 14 = .ok (.getfield 21, 3) := by decide +kernel
theorem dX1_localAt_17 : decode cX1_localAt 17 = .ok (.iload_n 1, 1) := by decide +kernel
theorem dX1_localAt_18 : decode cX1_localAt 18 = .ok (.iaload, 1) := by decide +kernel
theorem dX1_localAt_19 : decode cX1_localAt 19 = .ok (.iload_n 2, 1) := by decide +kernel
theorem dX1_localAt_20 : decode cX1_localAt 20 = .ok (.iadd, 1) := by decide +kernel
theorem dX1_localAt_21 : decode cX1_localAt 21 = .ok (.iaload, 1) := by decide +kernel
theorem dX1_localAt_22 : decode cX1_localAt 22 = .ok (.goto 4, 3) := by decide +kernel
theorem dX1_localAt_25 : decode cX1_localAt 25 = .ok (.iconst 0, 1) := by decide +kernel
theorem dX1_localAt_26 : decode cX1_localAt 26 = .ok (.ireturn, 1) := by decide +kernel
theorem dX1_setLocal_0 : decode cX1_setLocal 0 = .ok (.aload_n 0, 1) := by decide +kernel
theorem dX1_setLocal_1 : decode cX1_setLocal 1 = .ok (.iload_n 1, 1) := by decide +kernel
theorem dX1_setLocal_2 : decode cX1_setLocal 2 = .ok (.iload_n 2, 1) := by decide +kernel
theorem dX1_setLocal_3 : decode cX1_setLocal 3 = .ok (.invokevirtual 38, 3) := by decide +kernel
theorem dX1_setLocal_6 : decode cX1_setLocal 6 = .ok (.ifCond .eq 17, 3) := by decide +kernel
theorem dX1_setLocal_9 : decode cX1_setLocal 9 = .ok (.aload_n 0, 1) := by decide +kernel
theorem dX1_setLocal_10 : decode cX1_setLocal 10 = .ok (.getfield 24, 3) := by decide +kernel
theorem dX1_setLocal_13 : decode cX1_setLocal 13 = .ok (.aload_n 0, 1) := by decide +kernel
theorem dX1_setLocal_14 : decode cX1_setLocal 14 = .ok (.getfield 21, 3) := by decide +kernel
theorem dX1_setLocal_17 : decode cX1_setLocal 17 = .ok (.iload_n 1, 1) := by decide +kernel
theorem dX1_setLocal_18 : decode cX1_setLocal 18 = .ok (.iaload, 1) := by decide +kernel
theorem dX1_setLocal_19 : decode cX1_setLocal 19 = .ok (.iload_n 2, 1) := by decide +kernel
theorem dX1_setLocal_20 : decode cX1_setLocal 20 = .ok (.iadd, 1) := by decide +kernel
theorem dX1_setLocal_21 : decode cX1_setLocal 21 = .ok (.iload_n 3, 1) := by decide +kernel
theorem dX1_setLocal_22 : decode cX1_setLocal 22 = .ok (.iastore, 1) := by decide +kernel
theorem dX1_setLocal_23 : decode cX1_setLocal 23 = .ok (.return_, 1) := by decide +kernel
theorem dX2_init_0 : decode cX2_init 0 = .ok (.aload_n 0, 1) := by decide +kernel
theorem dX2_init_1 : decode cX2_init 1 = .ok (.invokespecial 3, 3) := by decide +kernel
theorem dX2_init_4 : decode cX2_init 4 = .ok (.aload_n 0, 1) := by decide +kernel
theorem dX2_init_5 : decode cX2_init 5 = .ok (.iconst 5, 1) := by decide +kernel
theorem dX2_init_6 : decode cX2_init 6 = .ok (.newarray .int, 2) := by decide +kernel
theorem dX2_init_8 : decode cX2_init 8 = .ok (.putfield 9, 3) := by decide +kernel
theorem dX2_init_11 : decode cX2_init 11 = .ok (.aload_n 0, 1) := by decide +kernel
theorem dX2_init_12 : decode cX2_init 12 = .ok (.iconst 5, 1) := by decide +kernel
theorem dX2_init_13 : decode cX2_init 13 = .ok (.newarray .int, 2) := by decide +kernel
theorem dX2_init_15 : decode cX2_init 15 = .ok (.putfield 15, 3) := by decide +kernel
theorem dX2_init_18 : decode cX2_init 18 = .ok (.aload_n 0, 1) := by decide +kernel
theorem dX2_init_19 : decode cX2_init 19 = .ok (.iconst 5, 1) := by decide +kernel
theorem dX2_init_20 : decode cX2_init 20 = .ok (.newarray .int, 2) := by decide +kernel
theorem dX2_init_22 : decode cX2_init 22 = .ok (.putfield 18, 3) := by decide +kernel
theorem dX2_init_25 : decode cX2_init 25 = .ok (.return_, 1) := by decide +kernel
theorem dX2_empty_0 : decode cX2_empty 0 = .ok (.iconst 0, 1) := by decide +kernel
theorem dX2_empty_1 : decode cX2_empty 1 = .ok (.istore_n 2, 1) := by decide +kernel
theorem dX2_empty_2 : decode cX2_empty 2 = .ok (.iload_n 2, 1) := by decide +kernel
theorem dX2_empty_3 : decode cX2_empty 3 = .ok (.iconst 5, 1) := by decide +kernel
theorem dX2_empty_4 : decode cX2_empty 4 = .ok (.if_icmp .ge 30, 3) := by decide +kernel
theorem dX2_empty_7 : decode cX2_empty 7 = .ok (.aload_n 0, 1) := by decide +kernel
theorem dX2_empty_8 : decode cX2_empty 8 = .ok (.getfield 9, 3) := by decide +kernel
theorem dX2_empty_11 : decode cX2_empty 11 = .ok (.iload_n 2, 1) := by decide +kernel
theorem dX2_empty_12 : decode cX2_empty 12 = .ok (.iconst 0, 1) := by decide +kernel
theorem dX2_empty_13 : decode cX2_empty 13 = .ok (.iastore, 1) := by decide +kernel
theorem dX2_empty_14 : decode cX2_empty 14 = .ok (.aload_n 0, 1) := by decide +kernel
theorem dX2_empty_15 : decode cX2_empty 15 = .ok (.getfield 15, 3) := by decide +kernel
theorem dX2_empty_18 : decode cX2_empty 18 = .ok (.iload_n 2, 1) := by decide +kernel
theorem dX2_empty_19 : decode cX2_empty 19 = .ok (.iconst 0, 1) := by decide +kernel
theorem dX2_empty_20 : decode cX2_empty 20 = .ok (.iastore, 1) := by decide +kernel
theorem dX2_empty_21 : decode cX2_empty 21 = .ok (.aload_n 0, 1) := by decide +kernel
theorem dX2_empty_22 : decode cX2_empty 22 = .ok (.getfield 18, 3) := by decide +kernel
theorem dX2_empty_25 : decode cX2_empty 25 = .ok (.iload_n 2, 1) := by decide +kernel
theorem dX2_empty_26 : decode cX2_empty 26 = .ok (.iconst 0, 1) := by decide +kernel
theorem dX2_empty_27 : decode cX2_empty 27 = .ok (.iastore, 1) := by decide +kernel
theorem dX2_empty_28 : decode cX2_empty 28 = .ok (.iinc 2 1, 3) := by decide +kernel
theorem dX2_empty_31 : decode cX2_empty 31 = .ok (.goto (-29), 3) := by decide +kernel
theorem dX2_empty_34 : decode cX2_empty 34 = .ok (.aload_n 0, 1) := by decide +kernel
theorem dX2_empty_35 : decode cX2_empty 35 = .ok (.iconst 0, 1) := by decide +kernel
theorem dX2_empty_36 : decode cX2_empty 36 = .ok (.putfield 21, 3) := by decide +kernel
theorem dX2_empty_39 : decode cX2_empty 39 = .ok (.aload_n 0, 1) := by decide +kernel
theorem dX2_empty_40 : decode cX2_empty 40 = .ok (.iload_n 1, 1) := by decide +kernel
theorem dX2_empty_41 : decode cX2_empty 41 = .ok (.putfield 25, 3) := by decide +kernel
theorem dX2_empty_44 : decode cX2_empty 44 = .ok (.aload_n 0, 1) := by decide +kernel
theorem dX2_empty_45 : decode cX2_empty 45 = .ok (.iconst 0, 1) := by decide +kernel
theorem dX2_empty_46 : decode cX2_empty 46 = .ok (.putfield 28, 3) := by decide +kernel
theorem dX2_empty_49 : decode cX2_empty 49 = .ok (.aload_n 0, 1) := by decide +kernel
theorem dX2_empty_50 : decode cX2_empty 50 = .ok (.iconst 0, 1) := by decide +kernel
theorem dX2_empty_51 : decode cX2_empty 51 = .ok (.putfield 31, 3) := by decide +kernel
theorem dX2_empty_54 : decode cX2_empty 54 = .ok (.aload_n 0, 1) := by decide +kernel
theorem dX2_empty_55 : decode cX2_empty 55 = .ok (.iconst 0, 1) := by decide +kernel
theorem dX2_empty_56 : decode cX2_empty 56 = .ok (.putfield 34, 3) := by decide +kernel
theorem dX2_empty_59 : decode cX2_empty 59 = .ok (.aload_n 0, 1) := by decide +kernel
theorem dX2_empty_60 : decode cX2_empty 60 = .ok (.iconst 0, 1) := by decide +kernel
theorem dX2_empty_61 : decode cX2_empty 61 = .ok (.putfield 37, 3) := by decide +kernel
theorem dX2_empty_64 : decode cX2_empty 64 = .ok (.return_, 1) := by decide +kernel
theorem dX2_held_0 : decode cX2_held 0 = .ok (.aload_n 0, 1) := by decide +kernel
theorem dX2_held_1 : decode cX2_held 1 = .ok (.getfield 28, 3) := by decide +kernel
theorem dX2_held_4 : decode cX2_held 4 = .ok (.ireturn, 1) := by decide +kernel
theorem dX2_most_0 : decode cX2_most 0 = .ok (.aload_n 0, 1) := by decide +kernel
theorem dX2_most_1 : decode cX2_most 1 = .ok (.getfield 31, 3) := by decide +kernel
theorem dX2_most_4 : decode cX2_most 4 = .ok (.ireturn, 1) := by decide +kernel
theorem dX2_loads_0 : decode cX2_loads 0 = .ok (.aload_n 0, 1) := by decide +kernel
theorem dX2_loads_1 : decode cX2_loads 1 = .ok (.getfield 34, 3) := by decide +kernel
theorem dX2_loads_4 : decode cX2_loads 4 = .ok (.ireturn, 1) := by decide +kernel
theorem dX2_gone_0 : decode cX2_gone 0 = .ok (.aload_n 0, 1) := by decide +kernel
theorem dX2_gone_1 : decode cX2_gone 1 = .ok (.getfield 37, 3) := by decide +kernel
theorem dX2_gone_4 : decode cX2_gone 4 = .ok (.ireturn, 1) := by decide +kernel
theorem dX2_isResident_0 : decode cX2_isResident 0 = .ok (.iload_n 1, 1) := by decide +kernel
theorem dX2_isResident_1 : decode cX2_isResident 1 = .ok (.invokestatic 40, 3) := by decide +kernel
theorem dX2_isResident_4 : decode cX2_isResident 4 = .ok (.ifCond .eq 16, 3) := by decide +kernel
theorem dX2_isResident_7 : decode cX2_isResident 7 = .ok (.aload_n 0, 1) := by decide +kernel
theorem dX2_isResident_8 : decode cX2_isResident 8 = .ok (.getfield 9, 3) := by decide +kernel
theorem dX2_isResident_11 : decode cX2_isResident 11 = .ok (.iload_n 1, 1) := by decide +kernel
theorem dX2_isResident_12 : decode cX2_isResident 12 = .ok (.iaload, 1) := by decide +kernel
theorem dX2_isResident_13 : decode cX2_isResident 13 = .ok (.ifCond .le 7, 3) := by decide +kernel
theorem dX2_isResident_16 : decode cX2_isResident 16 = .ok (.iconst 1, 1) := by decide +kernel
theorem dX2_isResident_17 : decode cX2_isResident 17 = .ok (.goto 4, 3) := by decide +kernel
theorem dX2_isResident_20 : decode cX2_isResident 20 = .ok (.iconst 0, 1) := by decide +kernel
theorem dX2_isResident_21 : decode cX2_isResident 21 = .ok (.ireturn, 1) := by decide +kernel
theorem dX2_isActive_0 : decode cX2_isActive 0 = .ok (.iload_n 1, 1) := by decide +kernel
theorem dX2_isActive_1 : decode cX2_isActive 1 = .ok (.invokestatic 40, 3) := by decide +kernel
theorem dX2_isActive_4 : decode cX2_isActive 4 = .ok (.ifCond .eq 16, 3) := by decide +kernel
theorem dX2_isActive_7 : decode cX2_isActive 7 = .ok (.aload_n 0, 1) := by decide +kernel
theorem dX2_isActive_8 : decode cX2_isActive 8 = .ok (.getfield 15, 3) := by decide +kernel
theorem dX2_isActive_11 : decode cX2_isActive 11 = .ok (.iload_n 1, 1) := by decide +kernel
theorem dX2_isActive_12 : decode cX2_isActive 12 = .ok (.iaload, 1) := by decide +kernel
theorem dX2_isActive_13 : decode cX2_isActive 13 = .ok (.ifCond .le 7, 3) := by decide +kernel
theorem dX2_isActive_16 : decode cX2_isActive 16 = .ok (.iconst 1, 1) := by decide +kernel
theorem dX2_isActive_17 : decode cX2_isActive 17 = .ok (.goto 4, 3) := by decide +kernel
theorem dX2_isActive_20 : decode cX2_isActive 20 = .ok (.iconst 0, 1) := by decide +kernel
theorem dX2_isActive_21 : decode cX2_isActive 21 = .ok (.ireturn, 1) := by decide +kernel
theorem dX2_bringIn_0 : decode cX2_bringIn 0 = .ok (.iload_n 1, 1) := by decide +kernel
theorem dX2_bringIn_1 : decode cX2_bringIn 1 = .ok (.invokestatic 40, 3) := by decide +kernel
theorem dX2_bringIn_4 : decode cX2_bringIn 4 = .ok (.ifCond .eq 11, 3) := by decide +kernel
theorem dX2_bringIn_7 : decode cX2_bringIn 7 = .ok (.aload_n 0, 1) := by decide +kernel
theorem dX2_bringIn_8 : decode cX2_bringIn 8 = .ok (.iload_n 1, 1) := by decide +kernel
theorem dX2_bringIn_9 : decode cX2_bringIn 9 = .ok (.invokevirtual 44, 3) := by decide +kernel
theorem dX2_bringIn_12 : decode cX2_bringIn 12 = .ok (.ifCond .eq 8, 3) := by decide +kernel
theorem dX2_bringIn_15 : decode cX2_bringIn 15 = .ok (.iload_n 1, 1) := by decide +kernel
theorem dX2_bringIn_16 : decode cX2_bringIn 16 = .ok (.invokestatic 40, 3) := by decide +kernel
theorem dX2_bringIn_19 : decode cX2_bringIn 19 = .ok (.ireturn, 1) := by decide +kernel
theorem dX2_bringIn_20 : decode cX2_bringIn 20 = .ok (.aload_n 0, 1) := by decide +kernel
theorem dX2_bringIn_21 : decode cX2_bringIn 21 = .ok (.iload_n 2, 1) := by decide +kernel
theorem dX2_bringIn_22 : decode cX2_bringIn 22 = .ok (.iload_n 1, 1) := by decide +kernel
theorem dX2_bringIn_23 : decode cX2_bringIn 23 = .ok (.invokevirtual 47, 3) := by decide +kernel
theorem dX2_bringIn_26 : decode cX2_bringIn 26 = .ok (.ifCond .ne 5, 3) := by decide +kernel
theorem dX2_bringIn_29 : decode cX2_bringIn 29 = .ok (.iconst 0, 1) := by decide +kernel
theorem dX2_bringIn_30 : decode cX2_bringIn 30 = .ok (.ireturn, 1) := by decide +kernel
theorem dX2_bringIn_31 : decode cX2_bringIn 31 = .ok (.aload_n 0, 1) := by decide +kernel
theorem dX2_bringIn_32 : decode cX2_bringIn 32 = .ok (.getfield 9, 3) := by decide +kernel
theorem dX2_bringIn_35 : decode cX2_bringIn 35 = .ok (.iload_n 1, 1) := by decide +kernel
theorem dX2_bringIn_36 : decode cX2_bringIn 36 = .ok (.iload_n 2, 1) := by decide +kernel
theorem dX2_bringIn_37 : decode cX2_bringIn 37 = .ok (.iastore, 1) := by decide +kernel
theorem dX2_bringIn_38 : decode cX2_bringIn 38 = .ok (.aload_n 0, 1) := by decide +kernel
theorem dX2_bringIn_39 : decode cX2_bringIn 39 = .ok (.dup, 1) := by decide +kernel
theorem dX2_bringIn_40 : decode cX2_bringIn 40 = .ok (.getfield 34, 3) := by decide +kernel
theorem dX2_bringIn_43 : decode cX2_bringIn 43 = .ok (.iconst 1, 1) := by decide +kernel
theorem dX2_bringIn_44 : decode cX2_bringIn 44 = .ok (.iadd, 1) := by decide +kernel
theorem dX2_bringIn_45 : decode cX2_bringIn 45 = .ok (.putfield 34, 3) := by decide +kernel
theorem dX2_bringIn_48 : decode cX2_bringIn 48 = .ok (.iconst 1, 1) := by decide +kernel
theorem dX2_bringIn_49 : decode cX2_bringIn 49 = .ok (.ireturn, 1) := by decide +kernel
theorem dX2_addFrame_0 : decode cX2_addFrame 0 = .ok (.iload_n 1, 1) := by decide +kernel
theorem dX2_addFrame_1 : decode cX2_addFrame 1 = .ok (.invokestatic 40, 3) := by decide +kernel
theorem dX2_addFrame_4 : decode cX2_addFrame 4 = .ok (.ifCond .eq 12, 3) := by decide +kernel
theorem dX2_addFrame_7 : decode cX2_addFrame 7 = .ok (.aload_n 0, 1) := by decide +kernel
theorem dX2_addFrame_8 : decode cX2_addFrame 8 = .ok (.iload_n 2, 1) := by decide +kernel
theorem dX2_addFrame_9 : decode cX2_addFrame 9 = .ok (.iload_n 1, 1) := by decide +kernel
theorem dX2_addFrame_10 : decode cX2_addFrame 10 = .ok (.invokevirtual 47, 3) := by decide +kernel
theorem dX2_addFrame_13 : decode cX2_addFrame 13 = .ok (.ifCond .ne 5, 3) := by decide +kernel
theorem dX2_addFrame_16 : decode cX2_addFrame 16 = .ok (.iconst 0, 1) := by decide +kernel
theorem dX2_addFrame_17 : decode cX2_addFrame 17 = .ok (.ireturn, 1) := by decide +kernel
theorem dX2_addFrame_18 : decode cX2_addFrame 18 = .ok (.aload_n 0, 1) := by decide +kernel
theorem dX2_addFrame_19 : decode cX2_addFrame 19 = .ok (.getfield 15, 3) := by decide +kernel
theorem dX2_addFrame_22 : decode cX2_addFrame 22 = .ok (.iload_n 1, 1) := by decide +kernel
theorem dX2_addFrame_23 : decode cX2_addFrame 23 = .ok (.dup2, 1) := by decide +kernel
theorem dX2_addFrame_24 : decode cX2_addFrame 24 = .ok (.iaload, 1) := by decide +kernel
theorem dX2_addFrame_25 : decode cX2_addFrame 25 = .ok (.iconst 1, 1) := by decide +kernel
theorem dX2_addFrame_26 : decode cX2_addFrame 26 = .ok (.iadd, 1) := by decide +kernel
theorem dX2_addFrame_27 : decode cX2_addFrame 27 = .ok (.iastore, 1) := by decide +kernel
theorem dX2_addFrame_28 : decode cX2_addFrame 28 = .ok (.aload_n 0, 1) := by decide +kernel
theorem dX2_addFrame_29 : decode cX2_addFrame 29 = .ok (.dup, 1) := by decide +kernel
theorem dX2_addFrame_30 : decode cX2_addFrame 30 = .ok (.getfield 21, 3) := by decide +kernel
theorem dX2_addFrame_33 : decode cX2_addFrame 33 = .ok (.iconst 1, 1) := by decide +kernel
theorem dX2_addFrame_34 : decode cX2_addFrame 34 = .ok (.iadd, 1) := by decide +kernel
theorem dX2_addFrame_35 : decode cX2_addFrame 35 = .ok (.putfield 21, 3) := by decide +kernel
theorem dX2_addFrame_38 : decode cX2_addFrame 38 = .ok (.aload_n 0, 1) := by decide +kernel
theorem dX2_addFrame_39 : decode cX2_addFrame 39 = .ok (.getfield 18, 3) := by decide +kernel
theorem dX2_addFrame_42 : decode cX2_addFrame 42 = .ok (.iload_n 1, 1) := by decide +kernel
theorem dX2_addFrame_43 : decode cX2_addFrame 43 = .ok (.aload_n 0, 1) := by decide +kernel
theorem dX2_addFrame_44 : decode cX2_addFrame 44 = .ok (.getfield 21, 3) := by decide +kernel
theorem dX2_addFrame_47 : decode cX2_addFrame 47 = .ok (.iastore, 1) := by decide +kernel
theorem dX2_addFrame_48 : decode cX2_addFrame 48 = .ok (.iconst 1, 1) := by decide +kernel
theorem dX2_addFrame_49 : decode cX2_addFrame 49 = .ok (.ireturn, 1) := by decide +kernel
theorem dX2_dropFrame_0 : decode cX2_dropFrame 0 = .ok (.aload_n 0, 1) := by decide +kernel
theorem dX2_dropFrame_1 : decode cX2_dropFrame 1 = .ok (.iload_n 1, 1) := by decide +kernel
theorem dX2_dropFrame_2 : decode cX2_dropFrame 2 = .ok (.invokevirtual 51, 3) := by decide +kernel
theorem dX2_dropFrame_5 : decode cX2_dropFrame 5 = .ok (.ifCond .eq 23, 3) := by decide +kernel
theorem dX2_dropFrame_8 : decode cX2_dropFrame 8 = .ok (.aload_n 0, 1) := by decide +kernel
theorem dX2_dropFrame_9 : decode cX2_dropFrame 9 = .ok (.getfield 15, 3) := by decide +kernel
theorem dX2_dropFrame_12 : decode cX2_dropFrame 12 = .ok (.iload_n 1, 1) := by decide +kernel
theorem dX2_dropFrame_13 : decode cX2_dropFrame 13 = .ok (.dup2, 1) := by decide +kernel
theorem dX2_dropFrame_14 : decode cX2_dropFrame 14 = .ok (.iaload, 1) := by decide +kernel
theorem dX2_dropFrame_15 : decode cX2_dropFrame 15 = .ok (.iconst 1, 1) := by decide +kernel
theorem dX2_dropFrame_16 : decode cX2_dropFrame 16 = .ok (.isub, 1) := by decide +kernel
theorem dX2_dropFrame_17 : decode cX2_dropFrame 17 = .ok (.iastore, 1) := by decide +kernel
theorem dX2_dropFrame_18 : decode cX2_dropFrame 18 = .ok (.aload_n 0, 1) := by decide +kernel
theorem dX2_dropFrame_19 : decode cX2_dropFrame 19 = .ok (.dup, 1) := by decide +kernel
theorem dX2_dropFrame_20 : decode cX2_dropFrame 20 = .ok (.getfield 28, 3) := by decide +kernel
theorem dX2_dropFrame_23 : decode cX2_dropFrame 23 = .ok (.iload_n 2, 1) := by decide +kernel
theorem dX2_dropFrame_24 : decode cX2_dropFrame 24 = .ok (.isub, 1) := by decide +kernel
theorem dX2_dropFrame_25 : decode cX2_dropFrame 25 = .ok (.putfield 28, 3) := by decide +kernel
theorem dX2_dropFrame_28 : decode cX2_dropFrame 28 = .ok (.return_, 1) := by decide +kernel
theorem dX2_dropNumber_0 : decode cX2_dropNumber 0 = .ok (.aload_n 0, 1) := by decide +kernel
theorem dX2_dropNumber_1 : decode cX2_dropNumber 1 = .ok (.dup, 1) := by decide +kernel
theorem dX2_dropNumber_2 : decode cX2_dropNumber 2 = .ok (.getfield 28, 3) := by decide +kernel
theorem dX2_dropNumber_5 : decode cX2_dropNumber 5 = .ok (.iconst 4, 1) := by decide +kernel
theorem dX2_dropNumber_6 : decode cX2_dropNumber 6 = .ok (.isub, 1) := by decide +kernel
theorem dX2_dropNumber_7 : decode cX2_dropNumber 7 = .ok (.putfield 28, 3) := by decide +kernel
theorem dX2_dropNumber_10 : decode cX2_dropNumber 10 = .ok (.return_, 1) := by decide +kernel
theorem dX2_hold_0 : decode cX2_hold 0 = .ok (.iconst 0, 1) := by decide +kernel
theorem dX2_hold_1 : decode cX2_hold 1 = .ok (.istore_n 3, 1) := by decide +kernel
theorem dX2_hold_2 : decode cX2_hold 2 = .ok (.aload_n 0, 1) := by decide +kernel
theorem dX2_hold_3 : decode cX2_hold 3 = .ok (.getfield 28, 3) := by decide +kernel
theorem dX2_hold_6 : decode cX2_hold 6 = .ok (.iload_n 1, 1) := by decide +kernel
theorem dX2_hold_7 : decode cX2_hold 7 = .ok (.iadd, 1) := by decide +kernel
theorem dX2_hold_8 : decode cX2_hold 8 = .ok (.aload_n 0, 1) := by decide +kernel
theorem dX2_hold_9 : decode cX2_hold 9 = .ok (.getfield 25, 3) := by decide +kernel
theorem dX2_hold_12 : decode cX2_hold 12 = .ok (.if_icmp .le 63, 3) := by decide +kernel
theorem dX2_hold_15 : decode cX2_hold 15 = .ok (.iload_n 3, 1) := by decide +kernel
theorem dX2_hold_16 : decode cX2_hold 16 = .ok (.iconst 5, 1) := by decide +kernel
theorem dX2_hold_17 : decode cX2_hold 17 = .ok (.if_icmp .ge 58, 3) := by decide +kernel
theorem dX2_hold_20 : decode cX2_hold 20 = .ok (.aload_n 0, 1) := by decide +kernel
theorem dX2_hold_21 : decode cX2_hold 21 = .ok (.iload_n 2, 1) := by decide +kernel
theorem dX2_hold_22 : decode cX2_hold 22 = .ok (.invokevirtual 54, 3) := by decide +kernel
theorem dX2_hold_25 : decode cX2_hold 25 = .ok (.istore 4, 2) := by decide +kernel
theorem dX2_hold_27 : decode cX2_hold 27 = .ok (.iload 4, 2) := by decide +kernel
theorem dX2_hold_29 : decode cX2_hold 29 = .ok (.iconst (-1), 1) := by decide +kernel
theorem dX2_hold_30 : decode cX2_hold 30 = .ok (.if_icmp .ne 5, 3) := by decide +kernel
theorem dX2_hold_33 : decode cX2_hold 33 = .ok (.iconst 0, 1) := by decide +kernel
theorem dX2_hold_34 : decode cX2_hold 34 = .ok (.ireturn, 1) := by decide +kernel
theorem dX2_hold_35 : decode cX2_hold 35 = .ok (.aload_n 0, 1) := by decide +kernel
theorem dX2_hold_36 : decode cX2_hold 36 = .ok (.dup, 1) := by decide +kernel
theorem dX2_hold_37 : decode cX2_hold 37 = .ok (.getfield 28, 3) := by decide +kernel
theorem dX2_hold_40 : decode cX2_hold 40 = .ok (.aload_n 0, 1) := by decide +kernel
theorem dX2_hold_41 : decode cX2_hold 41 = .ok (.getfield 9, 3) := by decide +kernel
theorem dX2_hold_44 : decode cX2_hold 44 = .ok (.iload 4, 2) := by decide +kernel
theorem dX2_hold_46 : decode cX2_hold 46 = .ok (.iaload, 1) := by decide +kernel
theorem dX2_hold_47 : decode cX2_hold 47 = .ok (.isub, 1) := by decide +kernel
theorem dX2_hold_48 : decode cX2_hold 48 = .ok (.putfield 28, 3) := by decide +kernel
theorem dX2_hold_51 : decode cX2_hold 51 = .ok (.aload_n 0, 1) := by decide +kernel
theorem dX2_hold_52 : decode cX2_hold 52 = .ok (.getfield 9, 3) := by decide +kernel
theorem dX2_hold_55 : decode cX2_hold 55 = .ok (.iload 4, 2) := by decide +kernel
theorem dX2_hold_57 : decode cX2_hold 57 = .ok (.iconst 0, 1) := by decide +kernel
theorem dX2_hold_58 : decode cX2_hold 58 = .ok (.iastore, 1) := by decide +kernel
theorem dX2_hold_59 : decode cX2_hold 59 = .ok (.aload_n 0, 1) := by decide +kernel
theorem dX2_hold_60 : decode cX2_hold 60 = .ok (.dup, 1) := by decide +kernel
theorem dX2_hold_61 : decode cX2_hold 61 = .ok (.getfield 37, 3) := by decide +kernel
theorem dX2_hold_64 : decode cX2_hold 64 = .ok (.iconst 1, 1) := by decide +kernel
theorem dX2_hold_65 : decode cX2_hold 65 = .ok (.iadd, 1) := by decide +kernel
theorem dX2_hold_66 : decode cX2_hold 66 = .ok (.putfield 37, 3) := by decide +kernel
theorem dX2_hold_69 : decode cX2_hold 69 = .ok (.iinc 3 1, 3) := by decide +kernel
theorem dX2_hold_72 : decode cX2_hold 72 = .ok (.goto (-70), 3) := by decide +kernel
theorem dX2_hold_75 : decode cX2_hold 75 = .ok (.aload_n 0, 1) := by decide +kernel
theorem dX2_hold_76 : decode cX2_hold 76 = .ok (.getfield 28, 3) := by decide +kernel
theorem dX2_hold_79 : decode cX2_hold 79 = .ok (.iload_n 1, 1) := by decide +kernel
theorem dX2_hold_80 : decode cX2_hold 80 = .ok (.iadd, 1) := by decide +kernel
theorem dX2_hold_81 : decode cX2_hold 81 = .ok (.aload_n 0, 1) := by decide +kernel
theorem dX2_hold_82 : decode cX2_hold 82 = .ok (.getfield 25, 3) := by decide +kernel
theorem dX2_hold_85 : decode cX2_hold 85 = .ok (.if_icmp .le 5, 3) := by decide +kernel
theorem dX2_hold_88 : decode cX2_hold 88 = .ok (.iconst 0, 1) := by decide +kernel
theorem dX2_hold_89 : decode cX2_hold 89 = .ok (.ireturn, 1) := by decide +kernel
theorem dX2_hold_90 : decode cX2_hold 90 = .ok (.aload_n 0, 1) := by decide +kernel
theorem dX2_hold_91 : decode cX2_hold 91 = .ok (.dup, 1) := by decide +kernel
theorem dX2_hold_92 : decode cX2_hold 92 = .ok (.getfield 28, 3) := by decide +kernel
theorem dX2_hold_95 : decode cX2_hold 95 = .ok (.iload_n 1, 1) := by decide +kernel
theorem dX2_hold_96 : decode cX2_hold 96 = .ok (.iadd, 1) := by decide +kernel
theorem dX2_hold_97 : decode cX2_hold 97 = .ok (.putfield 28, 3) := by decide +kernel
theorem dX2_hold_100 : decode cX2_hold 100 = .ok (.aload_n 0, 1) := by decide +kernel
theorem dX2_hold_101 : decode cX2_hold 101 = .ok (.aload_n 0, 1) := by decide +kernel
theorem dX2_hold_102 : decode cX2_hold 102 = .ok (.getfield 31, 3) := by decide +kernel
theorem dX2_hold_105 : decode cX2_hold 105 = .ok (.aload_n 0, 1) := by decide +kernel
theorem dX2_hold_106 : decode cX2_hold 106 = .ok (.getfield 28, 3) := by decide +kernel
theorem dX2_hold_109 : decode cX2_hold 109 = .ok (.invokestatic 58, 3) := by decide +kernel
theorem dX2_hold_112 : decode cX2_hold 112 = .ok (.putfield 31, 3) := by decide +kernel
theorem dX2_hold_115 : decode cX2_hold 115 = .ok (.iconst 1, 1) := by decide +kernel
theorem dX2_hold_116 : decode cX2_hold 116 = .ok (.ireturn, 1) := by decide +kernel
theorem dX2_leastLatelyCalled_0 : decode cX2_leastLatelyCalled 0 = .ok (.iconst (-1), 1) := by decide +kernel
theorem dX2_leastLatelyCalled_1 : decode cX2_leastLatelyCalled 1 = .ok (.istore_n 2, 1) := by decide +kernel
theorem dX2_leastLatelyCalled_2 : decode cX2_leastLatelyCalled 2 = .ok (.iconst 0, 1) := by decide +kernel
theorem dX2_leastLatelyCalled_3 : decode cX2_leastLatelyCalled 3 = .ok (.istore_n 3, 1) := by decide +kernel
theorem dX2_leastLatelyCalled_4 : decode cX2_leastLatelyCalled 4 = .ok (.iload_n 3, 1) := by decide +kernel
theorem dX2_leastLatelyCalled_5 : decode cX2_leastLatelyCalled 5 = .ok (.iconst 5, 1) := by decide +kernel
theorem dX2_leastLatelyCalled_6 : decode cX2_leastLatelyCalled 6 = .ok (.if_icmp .ge 66, 3) := by decide +kernel
theorem dX2_leastLatelyCalled_9 : decode cX2_leastLatelyCalled 9 = .ok (.iload_n 3, 1) := by decide +kernel
theorem dX2_leastLatelyCalled_10 : decode cX2_leastLatelyCalled 10 = .ok (.iload_n 1, 1) := by decide +kernel
theorem dX2_leastLatelyCalled_11 : decode cX2_leastLatelyCalled 11 = .ok (.if_icmp .eq 25, 3) := by decide +kernel
theorem dX2_leastLatelyCalled_14 : decode cX2_leastLatelyCalled 14 = .ok (.aload_n 0, 1) := by decide +kernel
theorem dX2_leastLatelyCalled_15 : decode cX2_leastLatelyCalled 15 = .ok (.getfield 9, 3) := by decide +kernel
theorem dX2_leastLatelyCalled_18 : decode cX2_leastLatelyCalled 18 = .ok (.iload_n 3, 1) := by decide +kernel
theorem dX2_leastLatelyCalled_19 : decode cX2_leastLatelyCalled 19 = .ok (.iaload, 1) := by decide +kernel
theorem dX2_leastLatelyCalled_20 : decode cX2_leastLatelyCalled 20 = .ok (.ifCond .le 16, 3) := by decide +kernel
theorem dX2_leastLatelyCalled_23 : decode cX2_leastLatelyCalled 23 = .ok (.aload_n 0, 1) := by decide +kernel
theorem dX2_leastLatelyCalled_24 : decode cX2_leastLatelyCalled 24 = .ok (.getfield 15, 3) := by decide +kernel
theorem dX2_leastLatelyCalled_27 : decode cX2_leastLatelyCalled 27 = .ok (.iload_n 3, 1) := by decide +kernel
theorem dX2_leastLatelyCalled_28 : decode cX2_leastLatelyCalled 28 = .ok (.iaload, 1) := by decide +kernel
theorem dX2_leastLatelyCalled_29 : decode cX2_leastLatelyCalled 29 = .ok (.ifCond .ne 7, 3) := by decide +kernel
theorem dX2_leastLatelyCalled_32 : decode cX2_leastLatelyCalled 32 = .ok (.iconst 1, 1) := by decide +kernel
theorem dX2_leastLatelyCalled_33 : decode cX2_leastLatelyCalled 33 = .ok (.goto 4, 3) := by decide +kernel
theorem dX2_leastLatelyCalled_36 : decode cX2_leastLatelyCalled 36 = .ok (.iconst 0, 1) := by decide +kernel
theorem dX2_leastLatelyCalled_37 : decode cX2_leastLatelyCalled 37 = .ok (.istore 4, 2) := by decide +kernel
theorem dX2_leastLatelyCalled_39 : decode cX2_leastLatelyCalled 39 = .ok (.iload 4, 2) := by decide +kernel
theorem dX2_leastLatelyCalled_41 : decode cX2_leastLatelyCalled 41 = .ok (.ifCond .eq 25, 3) := by decide +kernel
theorem dX2_leastLatelyCalled_44 : decode cX2_leastLatelyCalled 44 = .ok (.iload_n 2, 1) := by decide +kernel
theorem dX2_leastLatelyCalled_45 : decode cX2_leastLatelyCalled 45 = .ok (.iconst (-1), 1) := by decide +kernel
theorem dX2_leastLatelyCalled_46 : decode cX2_leastLatelyCalled 46 = .ok (.if_icmp .eq 18, 3) := by decide +kernel
theorem dX2_leastLatelyCalled_49 : decode cX2_leastLatelyCalled 49 = .ok (.aload_n 0, 1) := by decide +kernel
theorem dX2_leastLatelyCalled_50 : decode cX2_leastLatelyCalled 50 = .ok (.getfield 18, 3) := by decide +kernel
theorem dX2_leastLatelyCalled_53 : decode cX2_leastLatelyCalled 53 = .ok (.iload_n 3, 1) := by decide +kernel
theorem dX2_leastLatelyCalled_54 : decode cX2_leastLatelyCalled 54 = .ok (.iaload, 1) := by decide +kernel
theorem dX2_leastLatelyCalled_55 : decode cX2_leastLatelyCalled 55 = .ok (.aload_n 0, 1) := by decide +kernel
theorem dX2_leastLatelyCalled_56 : decode cX2_leastLatelyCalled 56 = .ok (.getfield 18, 3) := by decide +kernel
theorem dX2_leastLatelyCalled_59 : decode cX2_leastLatelyCalled 59 = .ok (.iload_n 2, 1) := by decide +kernel
theorem dX2_leastLatelyCalled_60 : decode cX2_leastLatelyCalled 60 = .ok (.iaload, 1) := by decide +kernel
theorem dX2_leastLatelyCalled_61 : decode cX2_leastLatelyCalled 61 = .ok (.if_icmp .ge 5, 3) := by decide +kernel
theorem dX2_leastLatelyCalled_64 : decode cX2_leastLatelyCalled 64 = .ok (.iload_n 3, 1) := by decide +kernel
theorem dX2_leastLatelyCalled_65 : decode cX2_leastLatelyCalled 65 = .ok (.istore_n 2, 1) := by decide +kernel
theorem dX2_leastLatelyCalled_66 : decode cX2_leastLatelyCalled 66 = .ok (.iinc 3 1, 3) := by decide +kernel
theorem dX2_leastLatelyCalled_69 : decode cX2_leastLatelyCalled 69 = .ok (.goto (-65), 3) := by decide +kernel
theorem dX2_leastLatelyCalled_72 : decode cX2_leastLatelyCalled 72 = .ok (.iload_n 2, 1) := by decide +kernel
theorem dX2_leastLatelyCalled_73 : decode cX2_leastLatelyCalled 73 = .ok (.ireturn, 1) := by decide +kernel
theorem dX3_init_0 : decode cX3_init 0 = .ok (.aload_n 0, 1) := by decide +kernel
theorem dX3_init_1 : decode cX3_init 1 = .ok (.invokespecial 3, 3) := by decide +kernel
theorem dX3_init_4 : decode cX3_init 4 = .ok (.aload_n 0, 1) := by decide +kernel
theorem dX3_init_5 : decode cX3_init 5 = .ok (.new 9, 3) := by decide +kernel
theorem dX3_init_8 : decode cX3_init 8 = .ok (.dup, 1) := by decide +kernel
theorem dX3_init_9 : decode cX3_init 9 = .ok (.invokespecial 11, 3) := by decide +kernel
theorem dX3_init_12 : decode cX3_init 12 = .ok (.putfield 12, 3) := by decide +kernel
theorem dX3_init_15 : decode cX3_init 15 = .ok (.aload_n 0, 1) := by decide +kernel
theorem dX3_init_16 : decode cX3_init 16 = .ok (.new 18, 3) := by decide +kernel
theorem dX3_init_19 : decode cX3_init 19 = .ok (.dup, 1) := by decide +kernel
theorem dX3_init_20 : decode cX3_init 20 = .ok (.invokespecial 20, 3) := by decide +kernel
theorem dX3_init_23 : decode cX3_init 23 = .ok (.putfield 21, 3) := by decide +kernel
theorem dX3_init_26 : decode cX3_init 26 = .ok (.aload_n 0, 1) := by decide +kernel
theorem dX3_init_27 : decode cX3_init 27 = .ok (.bipush 40, 2) := by decide +kernel
theorem dX3_init_29 : decode cX3_init 29 = .ok (.newarray .int, 2) := by decide +kernel
theorem dX3_init_31 : decode cX3_init 31 = .ok (.putfield 25, 3) := by decide +kernel
theorem dX3_init_34 : decode cX3_init 34 = .ok (.aload_n 0, 1) := by decide +kernel
theorem dX3_init_35 : decode cX3_init 35 = .ok (.aload_n 1, 1) := by decide +kernel
theorem dX3_init_36 : decode cX3_init 36 = .ok (.putfield 29, 3) := by decide +kernel
theorem dX3_init_39 : decode cX3_init 39 = .ok (.return_, 1) := by decide +kernel
theorem dX3_forget_0 : decode cX3_forget 0 = .ok (.aload_n 0, 1) := by decide +kernel
theorem dX3_forget_1 : decode cX3_forget 1 = .ok (.iconst 0, 1) := by decide +kernel
theorem dX3_forget_2 : decode cX3_forget 2 = .ok (.iconst 0, 1) := by decide +kernel
theorem dX3_forget_3 : decode cX3_forget 3 = .ok (.invokevirtual 33, 3) := by decide +kernel
theorem dX3_forget_6 : decode cX3_forget 6 = .ok (.return_, 1) := by decide +kernel
theorem dX3_begin_0 : decode cX3_begin 0 = .ok (.aload_n 0, 1) := by decide +kernel
theorem dX3_begin_1 : decode cX3_begin 1 = .ok (.iload_n 3, 1) := by decide +kernel
theorem dX3_begin_2 : decode cX3_begin 2 = .ok (.iconst 1, 1) := by decide +kernel
theorem dX3_begin_3 : decode cX3_begin 3 = .ok (.invokevirtual 33, 3) := by decide +kernel
theorem dX3_begin_6 : decode cX3_begin 6 = .ok (.aload_n 0, 1) := by decide +kernel
theorem dX3_begin_7 : decode cX3_begin 7 = .ok (.iload_n 1, 1) := by decide +kernel
theorem dX3_begin_8 : decode cX3_begin 8 = .ok (.iconst 0, 1) := by decide +kernel
theorem dX3_begin_9 : decode cX3_begin 9 = .ok (.iload_n 2, 1) := by decide +kernel
theorem dX3_begin_10 : decode cX3_begin 10 = .ok (.invokevirtual 37, 3) := by decide +kernel
theorem dX3_begin_13 : decode cX3_begin 13 = .ok (.pop, 1) := by decide +kernel
theorem dX3_begin_14 : decode cX3_begin 14 = .ok (.return_, 1) := by decide +kernel
theorem dX3_makeFresh_0 : decode cX3_makeFresh 0 = .ok (.aload_n 0, 1) := by decide +kernel
theorem dX3_makeFresh_1 : decode cX3_makeFresh 1 = .ok (.getfield 12, 3) := by decide +kernel
theorem dX3_makeFresh_4 : decode cX3_makeFresh 4 = .ok (.iload_n 1, 1) := by decide +kernel
theorem dX3_makeFresh_5 : decode cX3_makeFresh 5 = .ok (.invokevirtual 41, 3) := by decide +kernel
theorem dX3_makeFresh_8 : decode cX3_makeFresh 8 = .ok (.aload_n 0, 1) := by decide +kernel
theorem dX3_makeFresh_9 : decode cX3_makeFresh 9 = .ok (.getfield 21, 3) := by decide +kernel
theorem dX3_makeFresh_12 : decode cX3_makeFresh 12 = .ok (.invokevirtual 45, 3) := by decide +kernel
theorem dX3_makeFresh_15 : decode cX3_makeFresh 15 = .ok (.aload_n 0, 1) := by decide +kernel
theorem dX3_makeFresh_16 : decode cX3_makeFresh 16 = .ok (.iconst 0, 1) := by decide +kernel
theorem dX3_makeFresh_17 : decode cX3_makeFresh 17 = .ok (.putfield 47, 3) := by decide +kernel
theorem dX3_makeFresh_20 : decode cX3_makeFresh 20 = .ok (.aload_n 0, 1) := by decide +kernel
theorem dX3_makeFresh_21 : decode cX3_makeFresh 21 = .ok (.iconst 0, 1) := by decide +kernel
theorem dX3_makeFresh_22 : decode cX3_makeFresh 22 = .ok (.putfield 51, 3) := by decide +kernel
theorem dX3_makeFresh_25 : decode cX3_makeFresh 25 = .ok (.aload_n 0, 1) := by decide +kernel
theorem dX3_makeFresh_26 : decode cX3_makeFresh 26 = .ok (.iload_n 2, 1) := by decide +kernel
theorem dX3_makeFresh_27 : decode cX3_makeFresh 27 = .ok (.putfield 54, 3) := by decide +kernel
theorem dX3_makeFresh_30 : decode cX3_makeFresh 30 = .ok (.return_, 1) := by decide +kernel
theorem dX3_status_0 : decode cX3_status 0 = .ok (.aload_n 0, 1) := by decide +kernel
theorem dX3_status_1 : decode cX3_status 1 = .ok (.getfield 54, 3) := by decide +kernel
theorem dX3_status_4 : decode cX3_status 4 = .ok (.ireturn, 1) := by decide +kernel
theorem dX3_outCount_0 : decode cX3_outCount 0 = .ok (.aload_n 0, 1) := by decide +kernel
theorem dX3_outCount_1 : decode cX3_outCount 1 = .ok (.getfield 47, 3) := by decide +kernel
theorem dX3_outCount_4 : decode cX3_outCount 4 = .ok (.ireturn, 1) := by decide +kernel
theorem dX3_outAt_0 : decode cX3_outAt 0 = .ok (.iload_n 1, 1) := by decide +kernel
theorem dX3_outAt_1 : decode cX3_outAt 1 = .ok (.ifCond .lt 20, 3) := by decide +kernel
theorem dX3_outAt_4 : decode cX3_outAt 4 = .ok (.iload_n 1, 1) := by decide +kernel
theorem dX3_outAt_5 : decode cX3_outAt 5 = .ok (.aload_n 0, 1) := by decide +kernel
theorem dX3_outAt_6 : decode cX3_outAt 6 = .ok (.getfield 47, 3) := by decide +kernel
theorem dX3_outAt_9 : decode cX3_outAt 9 = .ok (.if_icmp .ge 12, 3) := by decide +kernel
theorem dX3_outAt_12 : decode cX3_outAt 12 = .ok (.aload_n 0, 1) := by decide +kernel
theorem dX3_outAt_13 : decode cX3_outAt 13 = .ok (.getfield 25, 3) := by decide +kernel
theorem dX3_outAt_16 : decode cX3_outAt 16 = .ok (.iload_n 1, 1) := by decide +kernel
theorem dX3_outAt_17 : decode cX3_outAt 17 = .ok (.iaload, 1) := by decide +kernel
theorem dX3_outAt_18 : decode cX3_outAt 18 = .ok (.goto 4, 3) := by decide +kernel
theorem dX3_outAt_21 : decode cX3_outAt 21 = .ok (.iconst 0, 1) := by decide +kernel
theorem dX3_outAt_22 : decode cX3_outAt 22 = .ok (.ireturn, 1) := by decide +kernel
theorem dX3_localAt_0 : decode cX3_localAt 0 = .ok (.aload_n 0, 1) := by decide +kernel
theorem dX3_localAt_1 : decode cX3_localAt 1 = .ok (.getfield 21, 3) := by decide +kernel
theorem dX3_localAt_4 : decode cX3_localAt 4 = .ok (.iload_n 1, 1) := by decide +kernel
theorem dX3_localAt_5 : decode cX3_localAt 5 = .ok (.iload_n 2, 1) := by decide +kernel
theorem dX3_localAt_6 : decode cX3_localAt 6 = .ok (.invokevirtual 57, 3) := by decide +kernel
theorem dX3_localAt_9 : decode cX3_localAt 9 = .ok (.ireturn, 1) := by decide +kernel
theorem dX3_stateOf_0 : decode cX3_stateOf 0 = .ok (.aload_n 0, 1) := by decide +kernel
theorem dX3_stateOf_1 : decode cX3_stateOf 1 = .ok (.getfield 12, 3) := by decide +kernel
theorem dX3_stateOf_4 : decode cX3_stateOf 4 = .ok (.iload_n 1, 1) := by decide +kernel
theorem dX3_stateOf_5 : decode cX3_stateOf 5 = .ok (.invokevirtual 61, 3) := by decide +kernel
theorem dX3_stateOf_8 : decode cX3_stateOf 8 = .ok (.ifCond .eq 7, 3) := by decide +kernel
theorem dX3_stateOf_11 : decode cX3_stateOf 11 = .ok (.iconst 1, 1) := by decide +kernel
theorem dX3_stateOf_12 : decode cX3_stateOf 12 = .ok (.goto 4, 3) := by decide +kernel
theorem dX3_stateOf_15 : decode cX3_stateOf 15 = .ok (.iconst 0, 1) := by decide +kernel
theorem dX3_stateOf_16 : decode cX3_stateOf 16 = .ok (.aload_n 0, 1) := by decide +kernel
theorem dX3_stateOf_17 : decode cX3_stateOf 17 = .ok (.getfield 12, 3) := by decide +kernel
theorem dX3_stateOf_20 : decode cX3_stateOf 20 = .ok (.iload_n 1, 1) := by decide +kernel
theorem dX3_stateOf_21 : decode cX3_stateOf 21 = .ok (.invokevirtual 65, 3) := by decide +kernel
theorem dX3_stateOf_24 : decode cX3_stateOf 24 = .ok (.ifCond .eq 7, 3) := by decide +kernel
theorem dX3_stateOf_27 : decode cX3_stateOf 27 = .ok (.iconst 2, 1) := by decide +kernel
theorem dX3_stateOf_28 : decode cX3_stateOf 28 = .ok (.goto 4, 3) := by decide +kernel
theorem dX3_stateOf_31 : decode cX3_stateOf 31 = .ok (.iconst 0, 1) := by decide +kernel
theorem dX3_stateOf_32 : decode cX3_stateOf 32 = .ok (.iadd, 1) := by decide +kernel
theorem dX3_stateOf_33 : decode cX3_stateOf 33 = .ok (.ireturn, 1) := by decide +kernel
end
section
theorem dX3_fact_0 : decode cX3_fact 0 = .ok (.iload_n 1, 1) := by decide +kernel
theorem dX3_fact_1 : decode cX3_fact 1 = .ok (.tableswitch 129 0 9 #[55, 60, 68, 76, 84, 92, 100, 108, 116, 124], 55) := by decide +kernel
theorem dX3_fact_56 : decode cX3_fact 56 = .ok (.aload_n 0, 1) := by decide +kernel
theorem dX3_fact_57 : decode cX3_fact 57 = .ok (.getfield 54, 3) := by decide +kernel
theorem dX3_fact_60 : decode cX3_fact 60 = .ok (.ireturn, 1) := by decide +kernel
theorem dX3_fact_61 : decode cX3_fact 61 = .ok (.aload_n 0, 1) := by decide +kernel
theorem dX3_fact_62 : decode cX3_fact 62 = .ok (.getfield 12, 3) := by decide +kernel
theorem dX3_fact_65 : decode cX3_fact 65 = .ok (.invokevirtual 68, 3) := by decide +kernel
theorem dX3_fact_68 : decode cX3_fact 68 = .ok (.ireturn, 1) := by decide +kernel
theorem dX3_fact_69 : decode cX3_fact 69 = .ok (.aload_n 0, 1) := by decide +kernel
theorem dX3_fact_70 : decode cX3_fact 70 = .ok (.getfield 12, 3) := by decide +kernel
theorem dX3_fact_73 : decode cX3_fact 73 = .ok (.invokevirtual 72, 3) := by decide +kernel
theorem dX3_fact_76 : decode cX3_fact 76 = .ok (.ireturn, 1) := by decide +kernel
theorem dX3_fact_77 : decode cX3_fact 77 = .ok (.aload_n 0, 1) := by decide +kernel
theorem dX3_fact_78 : decode cX3_fact 78 = .ok (.getfield 12, 3) := by decide +kernel
theorem dX3_fact_81 : decode cX3_fact 81 = .ok (.invokevirtual 75, 3) := by decide +kernel
theorem dX3_fact_84 : decode cX3_fact 84 = .ok (.ireturn, 1) := by decide +kernel
theorem dX3_fact_85 : decode cX3_fact 85 = .ok (.aload_n 0, 1) := by decide +kernel
theorem dX3_fact_86 : decode cX3_fact 86 = .ok (.getfield 12, 3) := by decide +kernel
theorem dX3_fact_89 : decode cX3_fact 89 = .ok (.invokevirtual 78, 3) := by decide +kernel
theorem dX3_fact_92 : decode cX3_fact 92 = .ok (.ireturn, 1) := by decide +kernel
theorem dX3_fact_93 : decode cX3_fact 93 = .ok (.aload_n 0, 1) := by decide +kernel
theorem dX3_fact_94 : decode cX3_fact 94 = .ok (.getfield 21, 3) := by decide +kernel
theorem dX3_fact_97 : decode cX3_fact 97 = .ok (.invokevirtual 81, 3) := by decide +kernel
theorem dX3_fact_100 : decode cX3_fact 100 = .ok (.ireturn, 1) := by decide +kernel
theorem dX3_fact_101 : decode cX3_fact 101 = .ok (.aload_n 0, 1) := by decide +kernel
theorem dX3_fact_102 : decode cX3_fact 102 = .ok (.getfield 21, 3) := by decide +kernel
theorem dX3_fact_105 : decode cX3_fact 105 = .ok (.invokevirtual 84, 3) := by decide +kernel
theorem dX3_fact_108 : decode cX3_fact 108 = .ok (.ireturn, 1) := by decide +kernel
theorem dX3_fact_109 : decode cX3_fact 109 = .ok (.aload_n 0, 1) := by decide +kernel
theorem dX3_fact_110 : decode cX3_fact 110 = .ok (.getfield 21, 3) := by decide +kernel
theorem dX3_fact_113 : decode cX3_fact 113 = .ok (.invokevirtual 87, 3) := by decide +kernel
theorem dX3_fact_116 : decode cX3_fact 116 = .ok (.ireturn, 1) := by decide +kernel
theorem dX3_fact_117 : decode cX3_fact 117 = .ok (.aload_n 0, 1) := by decide +kernel
theorem dX3_fact_118 : decode cX3_fact 118 = .ok (.getfield 21, 3) := by decide +kernel
theorem dX3_fact_121 : decode cX3_fact 121 = .ok (.invokevirtual 90, 3) := by decide +kernel
theorem dX3_fact_124 : decode cX3_fact 124 = .ok (.ireturn, 1) := by decide +kernel
theorem dX3_fact_125 : decode cX3_fact 125 = .ok (.aload_n 0, 1) := by decide +kernel
theorem dX3_fact_126 : decode cX3_fact 126 = .ok (.getfield 51, 3) := by decide +kernel
theorem dX3_fact_129 : decode cX3_fact 129 = .ok (.ireturn, 1) := by decide +kernel
theorem dX3_fact_130 : decode cX3_fact 130 = .ok (.aload_n 0, 1) := by decide +kernel
theorem dX3_fact_131 : decode cX3_fact 131 = .ok (.getfield 47, 3) := by decide +kernel
theorem dX3_fact_134 : decode cX3_fact 134 = .ok (.ireturn, 1) := by decide +kernel
theorem dX3_doInstruction_0 : decode cX3_doInstruction 0 = .ok (.aload_n 0, 1) := by decide +kernel
theorem dX3_doInstruction_1 : decode cX3_doInstruction 1 = .ok (.getfield 21, 3) := by decide +kernel
theorem dX3_doInstruction_4 : decode cX3_doInstruction 4 = .ok (.invokevirtual 84, 3) := by decide +kernel
theorem dX3_doInstruction_7 : decode cX3_doInstruction 7 = .ok (.istore_n 1, 1) := by decide +kernel
theorem dX3_doInstruction_8 : decode cX3_doInstruction 8 = .ok (.aload_n 0, 1) := by decide +kernel
theorem dX3_doInstruction_9 : decode cX3_doInstruction 9 = .ok (.getfield 21, 3) := by decide +kernel
theorem dX3_doInstruction_12 : decode cX3_doInstruction 12 = .ok (.invokevirtual 87, 3) := by decide +kernel
theorem dX3_doInstruction_15 : decode cX3_doInstruction 15 = .ok (.istore_n 2, 1) := by decide +kernel
theorem dX3_doInstruction_16 : decode cX3_doInstruction 16 = .ok (.aload_n 0, 1) := by decide +kernel
theorem dX3_doInstruction_17 : decode cX3_doInstruction 17 = .ok (.iload_n 1, 1) := by decide +kernel
theorem dX3_doInstruction_18 : decode cX3_doInstruction 18 = .ok (.iload_n 2, 1) := by decide +kernel
theorem dX3_doInstruction_19 : decode cX3_doInstruction 19 = .ok (.invokevirtual 93, 3) := by decide +kernel
theorem dX3_doInstruction_22 : decode cX3_doInstruction 22 = .ok (.istore_n 3, 1) := by decide +kernel
theorem dX3_doInstruction_23 : decode cX3_doInstruction 23 = .ok (.iload_n 3, 1) := by decide +kernel
theorem dX3_doInstruction_24 : decode cX3_doInstruction 24 = .ok (.iconst (-1), 1) := by decide +kernel
theorem dX3_doInstruction_25 : decode cX3_doInstruction 25 = .ok (.if_icmp .eq 18, 3) := by decide +kernel
theorem dX3_doInstruction_28 : decode cX3_doInstruction 28 = .ok (.aload_n 0, 1) := by decide +kernel
theorem dX3_doInstruction_29 : decode cX3_doInstruction 29 = .ok (.getfield 21, 3) := by decide +kernel
theorem dX3_doInstruction_32 : decode cX3_doInstruction 32 = .ok (.invokevirtual 90, 3) := by decide +kernel
theorem dX3_doInstruction_35 : decode cX3_doInstruction 35 = .ok (.getstatic 96, 3) := by decide +kernel
theorem dX3_doInstruction_38 : decode cX3_doInstruction 38 = .ok (.iload_n 3, 1) := by decide +kernel
theorem dX3_doInstruction_39 : decode cX3_doInstruction 39 = .ok (.iaload, 1) := by decide +kernel
theorem dX3_doInstruction_40 : decode cX3_doInstruction 40 = .ok (.if_icmp .ge 9, 3) := by decide +kernel
theorem dX3_doInstruction_43 : decode cX3_doInstruction 43 = .ok (.aload_n 0, 1) := by decide +kernel
theorem dX3_doInstruction_44 : decode cX3_doInstruction 44 = .ok (.iconst 3, 1) := by decide +kernel
theorem dX3_doInstruction_45 : decode cX3_doInstruction 45 = .ok (.putfield 54, 3) := by decide +kernel
theorem dX3_doInstruction_48 : decode cX3_doInstruction 48 = .ok (.return_, 1) := by decide +kernel
theorem dX3_doInstruction_49 : decode cX3_doInstruction 49 = .ok (.aload_n 0, 1) := by decide +kernel
theorem dX3_doInstruction_50 : decode cX3_doInstruction 50 = .ok (.getfield 29, 3) := by decide +kernel
theorem dX3_doInstruction_53 : decode cX3_doInstruction 53 = .ok (.iload_n 1, 1) := by decide +kernel
theorem dX3_doInstruction_54 : decode cX3_doInstruction 54 = .ok (.iload_n 2, 1) := by decide +kernel
theorem dX3_doInstruction_55 : decode cX3_doInstruction 55 = .ok (.iconst 1, 1) := by decide +kernel
theorem dX3_doInstruction_56 : decode cX3_doInstruction 56 = .ok (.iadd, 1) := by decide +kernel
theorem dX3_doInstruction_57 : decode cX3_doInstruction 57 = .ok (.invokevirtual 99, 3) := by decide +kernel
theorem dX3_doInstruction_60 : decode cX3_doInstruction 60 = .ok (.istore 4, 2) := by decide +kernel
theorem dX3_doInstruction_62 : decode cX3_doInstruction 62 = .ok (.iload_n 2, 1) := by decide +kernel
theorem dX3_doInstruction_63 : decode cX3_doInstruction 63 = .ok (.getstatic 104, 3) := by decide +kernel
theorem dX3_doInstruction_66 : decode cX3_doInstruction 66 = .ok (.iload_n 3, 1) := by decide +kernel
theorem dX3_doInstruction_67 : decode cX3_doInstruction 67 = .ok (.iaload, 1) := by decide +kernel
theorem dX3_doInstruction_68 : decode cX3_doInstruction 68 = .ok (.iadd, 1) := by decide +kernel
theorem dX3_doInstruction_69 : decode cX3_doInstruction 69 = .ok (.istore 5, 2) := by decide +kernel
theorem dX3_doInstruction_71 : decode cX3_doInstruction 71 = .ok (.iload_n 3, 1) := by decide +kernel
theorem dX3_doInstruction_72 : decode cX3_doInstruction 72 = .ok (.tableswitch 189 0 12 #[68, 76, 87, 98, 189, 189, 189, 189, 109, 136, 151, 173, 180], 68) := by decide +kernel
theorem dX3_doInstruction_140 : decode cX3_doInstruction 140 = .ok (.aload_n 0, 1) := by decide +kernel
theorem dX3_doInstruction_141 : decode cX3_doInstruction 141 = .ok (.iconst 2, 1) := by decide +kernel
theorem dX3_doInstruction_142 : decode cX3_doInstruction 142 = .ok (.putfield 54, 3) := by decide +kernel
theorem dX3_doInstruction_145 : decode cX3_doInstruction 145 = .ok (.goto 123, 3) := by decide +kernel
theorem dX3_doInstruction_148 : decode cX3_doInstruction 148 = .ok (.aload_n 0, 1) := by decide +kernel
theorem dX3_doInstruction_149 : decode cX3_doInstruction 149 = .ok (.iload 4, 2) := by decide +kernel
theorem dX3_doInstruction_151 : decode cX3_doInstruction 151 = .ok (.iload 5, 2) := by decide +kernel
theorem dX3_doInstruction_153 : decode cX3_doInstruction 153 = .ok (.invokevirtual 107, 3) := by decide +kernel
theorem dX3_doInstruction_156 : decode cX3_doInstruction 156 = .ok (.goto 112, 3) := by decide +kernel
theorem dX3_doInstruction_159 : decode cX3_doInstruction 159 = .ok (.aload_n 0, 1) := by decide +kernel
theorem dX3_doInstruction_160 : decode cX3_doInstruction 160 = .ok (.iload 4, 2) := by decide +kernel
theorem dX3_doInstruction_162 : decode cX3_doInstruction 162 = .ok (.iload 5, 2) := by decide +kernel
theorem dX3_doInstruction_164 : decode cX3_doInstruction 164 = .ok (.invokevirtual 110, 3) := by decide +kernel
theorem dX3_doInstruction_167 : decode cX3_doInstruction 167 = .ok (.goto 101, 3) := by decide +kernel
theorem dX3_doInstruction_170 : decode cX3_doInstruction 170 = .ok (.aload_n 0, 1) := by decide +kernel
theorem dX3_doInstruction_171 : decode cX3_doInstruction 171 = .ok (.iload 4, 2) := by decide +kernel
theorem dX3_doInstruction_173 : decode cX3_doInstruction 173 = .ok (.iload 5, 2) := by decide +kernel
theorem dX3_doInstruction_175 : decode cX3_doInstruction 175 = .ok (.invokevirtual 113, 3) := by decide +kernel
theorem dX3_doInstruction_178 : decode cX3_doInstruction 178 = .ok (.goto 90, 3) := by decide +kernel
theorem dX3_doInstruction_181 : decode cX3_doInstruction 181 = .ok (.aload_n 0, 1) := by decide +kernel
theorem dX3_doInstruction_182 : decode cX3_doInstruction 182 = .ok (.getfield 21, 3) := by decide +kernel
theorem dX3_doInstruction_185 : decode cX3_doInstruction 185 = .ok (.aload_n 0, 1) := by decide +kernel
theorem dX3_doInstruction_186 : decode cX3_doInstruction 186 = .ok (.invokevirtual 116, 3) := by decide +kernel
theorem dX3_doInstruction_189 : decode cX3_doInstruction 189 = .ok (.ifCond .ne 11, 3) := by decide +kernel
theorem dX3_doInstruction_192 : decode cX3_doInstruction 192 = .ok (.iload 5, 2) := by decide +kernel
theorem dX3_doInstruction_194 : decode cX3_doInstruction 194 = .ok (.iload 4, 2) := by decide +kernel
theorem dX3_doInstruction_196 : decode cX3_doInstruction 196 = .ok (.iadd, 1) := by decide +kernel
theorem dX3_doInstruction_197 : decode cX3_doInstruction 197 = .ok (.goto 5, 3) := by decide +kernel
theorem dX3_doInstruction_200 : decode cX3_doInstruction 200 = .ok (.iload 5, 2) := by decide +kernel
theorem dX3_doInstruction_202 : decode cX3_doInstruction 202 = .ok (.invokevirtual 119, 3) := by decide +kernel
theorem dX3_doInstruction_205 : decode cX3_doInstruction 205 = .ok (.goto 63, 3) := by decide +kernel
theorem dX3_doInstruction_208 : decode cX3_doInstruction 208 = .ok (.aload_n 0, 1) := by decide +kernel
theorem dX3_doInstruction_209 : decode cX3_doInstruction 209 = .ok (.getfield 21, 3) := by decide +kernel
theorem dX3_doInstruction_212 : decode cX3_doInstruction 212 = .ok (.iload 5, 2) := by decide +kernel
theorem dX3_doInstruction_214 : decode cX3_doInstruction 214 = .ok (.iload 4, 2) := by decide +kernel
theorem dX3_doInstruction_216 : decode cX3_doInstruction 216 = .ok (.iadd, 1) := by decide +kernel
theorem dX3_doInstruction_217 : decode cX3_doInstruction 217 = .ok (.invokevirtual 119, 3) := by decide +kernel
theorem dX3_doInstruction_220 : decode cX3_doInstruction 220 = .ok (.goto 48, 3) := by decide +kernel
theorem dX3_doInstruction_223 : decode cX3_doInstruction 223 = .ok (.aload_n 0, 1) := by decide +kernel
theorem dX3_doInstruction_224 : decode cX3_doInstruction 224 = .ok (.iload 5, 2) := by decide +kernel
theorem dX3_doInstruction_226 : decode cX3_doInstruction 226 = .ok (.iload 4, 2) := by decide +kernel
theorem dX3_doInstruction_228 : decode cX3_doInstruction 228 = .ok (.aload_n 0, 1) := by decide +kernel
theorem dX3_doInstruction_229 : decode cX3_doInstruction 229 = .ok (.getfield 29, 3) := by decide +kernel
theorem dX3_doInstruction_232 : decode cX3_doInstruction 232 = .ok (.iload_n 1, 1) := by decide +kernel
theorem dX3_doInstruction_233 : decode cX3_doInstruction 233 = .ok (.iload_n 2, 1) := by decide +kernel
theorem dX3_doInstruction_234 : decode cX3_doInstruction 234 = .ok (.iconst 2, 1) := by decide +kernel
theorem dX3_doInstruction_235 : decode cX3_doInstruction 235 = .ok (.iadd, 1) := by decide +kernel
theorem dX3_doInstruction_236 : decode cX3_doInstruction 236 = .ok (.invokevirtual 99, 3) := by decide +kernel
theorem dX3_doInstruction_239 : decode cX3_doInstruction 239 = .ok (.invokevirtual 122, 3) := by decide +kernel
theorem dX3_doInstruction_242 : decode cX3_doInstruction 242 = .ok (.goto 26, 3) := by decide +kernel
theorem dX3_doInstruction_245 : decode cX3_doInstruction 245 = .ok (.aload_n 0, 1) := by decide +kernel
theorem dX3_doInstruction_246 : decode cX3_doInstruction 246 = .ok (.invokevirtual 126, 3) := by decide +kernel
theorem dX3_doInstruction_249 : decode cX3_doInstruction 249 = .ok (.goto 19, 3) := by decide +kernel
theorem dX3_doInstruction_252 : decode cX3_doInstruction 252 = .ok (.aload_n 0, 1) := by decide +kernel
theorem dX3_doInstruction_253 : decode cX3_doInstruction 253 = .ok (.iload 5, 2) := by decide +kernel
theorem dX3_doInstruction_255 : decode cX3_doInstruction 255 = .ok (.invokevirtual 129, 3) := by decide +kernel
theorem dX3_doInstruction_258 : decode cX3_doInstruction 258 = .ok (.goto 10, 3) := by decide +kernel
theorem dX3_doInstruction_261 : decode cX3_doInstruction 261 = .ok (.aload_n 0, 1) := by decide +kernel
theorem dX3_doInstruction_262 : decode cX3_doInstruction 262 = .ok (.iload_n 3, 1) := by decide +kernel
theorem dX3_doInstruction_263 : decode cX3_doInstruction 263 = .ok (.iload 5, 2) := by decide +kernel
theorem dX3_doInstruction_265 : decode cX3_doInstruction 265 = .ok (.invokevirtual 132, 3) := by decide +kernel
theorem dX3_doInstruction_268 : decode cX3_doInstruction 268 = .ok (.return_, 1) := by decide +kernel
theorem dX3_kindAt_0 : decode cX3_kindAt 0 = .ok (.aload_n 0, 1) := by decide +kernel
theorem dX3_kindAt_1 : decode cX3_kindAt 1 = .ok (.getfield 29, 3) := by decide +kernel
theorem dX3_kindAt_4 : decode cX3_kindAt 4 = .ok (.iload_n 1, 1) := by decide +kernel
theorem dX3_kindAt_5 : decode cX3_kindAt 5 = .ok (.invokevirtual 135, 3) := by decide +kernel
theorem dX3_kindAt_8 : decode cX3_kindAt 8 = .ok (.istore_n 3, 1) := by decide +kernel
theorem dX3_kindAt_9 : decode cX3_kindAt 9 = .ok (.iload_n 2, 1) := by decide +kernel
theorem dX3_kindAt_10 : decode cX3_kindAt 10 = .ok (.ifCond .lt 8, 3) := by decide +kernel
theorem dX3_kindAt_13 : decode cX3_kindAt 13 = .ok (.iload_n 2, 1) := by decide +kernel
theorem dX3_kindAt_14 : decode cX3_kindAt 14 = .ok (.iload_n 3, 1) := by decide +kernel
theorem dX3_kindAt_15 : decode cX3_kindAt 15 = .ok (.if_icmp .lt 5, 3) := by decide +kernel
theorem dX3_kindAt_18 : decode cX3_kindAt 18 = .ok (.iconst (-1), 1) := by decide +kernel
theorem dX3_kindAt_19 : decode cX3_kindAt 19 = .ok (.ireturn, 1) := by decide +kernel
theorem dX3_kindAt_20 : decode cX3_kindAt 20 = .ok (.aload_n 0, 1) := by decide +kernel
theorem dX3_kindAt_21 : decode cX3_kindAt 21 = .ok (.getfield 29, 3) := by decide +kernel
theorem dX3_kindAt_24 : decode cX3_kindAt 24 = .ok (.iload_n 1, 1) := by decide +kernel
theorem dX3_kindAt_25 : decode cX3_kindAt 25 = .ok (.iload_n 2, 1) := by decide +kernel
theorem dX3_kindAt_26 : decode cX3_kindAt 26 = .ok (.invokevirtual 99, 3) := by decide +kernel
theorem dX3_kindAt_29 : decode cX3_kindAt 29 = .ok (.istore 4, 2) := by decide +kernel
theorem dX3_kindAt_31 : decode cX3_kindAt 31 = .ok (.iload 4, 2) := by decide +kernel
theorem dX3_kindAt_33 : decode cX3_kindAt 33 = .ok (.ifCond .lt 24, 3) := by decide +kernel
theorem dX3_kindAt_36 : decode cX3_kindAt 36 = .ok (.iload 4, 2) := by decide +kernel
theorem dX3_kindAt_38 : decode cX3_kindAt 38 = .ok (.getstatic 104, 3) := by decide +kernel
theorem dX3_kindAt_41 : decode cX3_kindAt 41 = .ok (.arraylength, 1) := by decide +kernel
theorem dX3_kindAt_42 : decode cX3_kindAt 42 = .ok (.if_icmp .ge 15, 3) := by decide +kernel
theorem dX3_kindAt_45 : decode cX3_kindAt 45 = .ok (.iload_n 2, 1) := by decide +kernel
theorem dX3_kindAt_46 : decode cX3_kindAt 46 = .ok (.getstatic 104, 3) := by decide +kernel
theorem dX3_kindAt_49 : decode cX3_kindAt 49 = .ok (.iload 4, 2) := by decide +kernel
theorem dX3_kindAt_51 : decode cX3_kindAt 51 = .ok (.iaload, 1) := by decide +kernel
theorem dX3_kindAt_52 : decode cX3_kindAt 52 = .ok (.iadd, 1) := by decide +kernel
theorem dX3_kindAt_53 : decode cX3_kindAt 53 = .ok (.iload_n 3, 1) := by decide +kernel
theorem dX3_kindAt_54 : decode cX3_kindAt 54 = .ok (.if_icmp .le 5, 3) := by decide +kernel
theorem dX3_kindAt_57 : decode cX3_kindAt 57 = .ok (.iconst (-1), 1) := by decide +kernel
theorem dX3_kindAt_58 : decode cX3_kindAt 58 = .ok (.ireturn, 1) := by decide +kernel
theorem dX3_kindAt_59 : decode cX3_kindAt 59 = .ok (.iload 4, 2) := by decide +kernel
theorem dX3_kindAt_61 : decode cX3_kindAt 61 = .ok (.ireturn, 1) := by decide +kernel
theorem dX3_take_0 : decode cX3_take 0 = .ok (.aload_n 0, 1) := by decide +kernel
theorem dX3_take_1 : decode cX3_take 1 = .ok (.getfield 12, 3) := by decide +kernel
theorem dX3_take_4 : decode cX3_take 4 = .ok (.invokevirtual 139, 3) := by decide +kernel
theorem dX3_take_7 : decode cX3_take 7 = .ok (.aload_n 0, 1) := by decide +kernel
theorem dX3_take_8 : decode cX3_take 8 = .ok (.getfield 21, 3) := by decide +kernel
theorem dX3_take_11 : decode cX3_take 11 = .ok (.invokevirtual 142, 3) := by decide +kernel
theorem dX3_take_14 : decode cX3_take 14 = .ok (.ireturn, 1) := by decide +kernel
theorem dX3_push_0 : decode cX3_push 0 = .ok (.aload_n 0, 1) := by decide +kernel
theorem dX3_push_1 : decode cX3_push 1 = .ok (.getfield 12, 3) := by decide +kernel
theorem dX3_push_4 : decode cX3_push 4 = .ok (.iconst 4, 1) := by decide +kernel
theorem dX3_push_5 : decode cX3_push 5 = .ok (.iconst (-1), 1) := by decide +kernel
theorem dX3_push_6 : decode cX3_push 6 = .ok (.invokevirtual 145, 3) := by decide +kernel
theorem dX3_push_9 : decode cX3_push 9 = .ok (.ifCond .ne 10, 3) := by decide +kernel
theorem dX3_push_12 : decode cX3_push 12 = .ok (.aload_n 0, 1) := by decide +kernel
theorem dX3_push_13 : decode cX3_push 13 = .ok (.iconst 4, 1) := by decide +kernel
theorem dX3_push_14 : decode cX3_push 14 = .ok (.putfield 54, 3) := by decide +kernel
theorem dX3_push_17 : decode cX3_push 17 = .ok (.iconst 0, 1) := by decide +kernel
theorem dX3_push_18 : decode cX3_push 18 = .ok (.ireturn, 1) := by decide +kernel
theorem dX3_push_19 : decode cX3_push 19 = .ok (.aload_n 0, 1) := by decide +kernel
theorem dX3_push_20 : decode cX3_push 20 = .ok (.getfield 21, 3) := by decide +kernel
theorem dX3_push_23 : decode cX3_push 23 = .ok (.iload_n 1, 1) := by decide +kernel
theorem dX3_push_24 : decode cX3_push 24 = .ok (.invokevirtual 149, 3) := by decide +kernel
theorem dX3_push_27 : decode cX3_push 27 = .ok (.iconst 1, 1) := by decide +kernel
theorem dX3_push_28 : decode cX3_push 28 = .ok (.ireturn, 1) := by decide +kernel
theorem dX3_pushAndMove_0 : decode cX3_pushAndMove 0 = .ok (.aload_n 0, 1) := by decide +kernel
theorem dX3_pushAndMove_1 : decode cX3_pushAndMove 1 = .ok (.iload_n 1, 1) := by decide +kernel
theorem dX3_pushAndMove_2 : decode cX3_pushAndMove 2 = .ok (.invokevirtual 152, 3) := by decide +kernel
theorem dX3_pushAndMove_5 : decode cX3_pushAndMove 5 = .ok (.ifCond .eq 11, 3) := by decide +kernel
theorem dX3_pushAndMove_8 : decode cX3_pushAndMove 8 = .ok (.aload_n 0, 1) := by decide +kernel
theorem dX3_pushAndMove_9 : decode cX3_pushAndMove 9 = .ok (.getfield 21, 3) := by decide +kernel
theorem dX3_pushAndMove_12 : decode cX3_pushAndMove 12 = .ok (.iload_n 2, 1) := by decide +kernel
theorem dX3_pushAndMove_13 : decode cX3_pushAndMove 13 = .ok (.invokevirtual 119, 3) := by decide +kernel
theorem dX3_pushAndMove_16 : decode cX3_pushAndMove 16 = .ok (.return_, 1) := by decide +kernel
theorem dX3_getLocal_0 : decode cX3_getLocal 0 = .ok (.aload_n 0, 1) := by decide +kernel
theorem dX3_getLocal_1 : decode cX3_getLocal 1 = .ok (.getfield 21, 3) := by decide +kernel
theorem dX3_getLocal_4 : decode cX3_getLocal 4 = .ok (.invokevirtual 81, 3) := by decide +kernel
theorem dX3_getLocal_7 : decode cX3_getLocal 7 = .ok (.iconst 1, 1) := by decide +kernel
theorem dX3_getLocal_8 : decode cX3_getLocal 8 = .ok (.isub, 1) := by decide +kernel
theorem dX3_getLocal_9 : decode cX3_getLocal 9 = .ok (.istore_n 3, 1) := by decide +kernel
theorem dX3_getLocal_10 : decode cX3_getLocal 10 = .ok (.aload_n 0, 1) := by decide +kernel
theorem dX3_getLocal_11 : decode cX3_getLocal 11 = .ok (.getfield 21, 3) := by decide +kernel
theorem dX3_getLocal_14 : decode cX3_getLocal 14 = .ok (.iload_n 3, 1) := by decide +kernel
theorem dX3_getLocal_15 : decode cX3_getLocal 15 = .ok (.iload_n 1, 1) := by decide +kernel
theorem dX3_getLocal_16 : decode cX3_getLocal 16 = .ok (.invokevirtual 154, 3) := by decide +kernel
theorem dX3_getLocal_19 : decode cX3_getLocal 19 = .ok (.ifCond .ne 9, 3) := by decide +kernel
theorem dX3_getLocal_22 : decode cX3_getLocal 22 = .ok (.aload_n 0, 1) := by decide +kernel
theorem dX3_getLocal_23 : decode cX3_getLocal 23 = .ok (.iconst 3, 1) := by decide +kernel
theorem dX3_getLocal_24 : decode cX3_getLocal 24 = .ok (.putfield 54, 3) := by decide +kernel
theorem dX3_getLocal_27 : decode cX3_getLocal 27 = .ok (.return_, 1) := by decide +kernel
theorem dX3_getLocal_28 : decode cX3_getLocal 28 = .ok (.aload_n 0, 1) := by decide +kernel
theorem dX3_getLocal_29 : decode cX3_getLocal 29 = .ok (.aload_n 0, 1) := by decide +kernel
theorem dX3_getLocal_30 : decode cX3_getLocal 30 = .ok (.getfield 21, 3) := by decide +kernel
theorem dX3_getLocal_33 : decode cX3_getLocal 33 = .ok (.iload_n 3, 1) := by decide +kernel
theorem dX3_getLocal_34 : decode cX3_getLocal 34 = .ok (.iload_n 1, 1) := by decide +kernel
theorem dX3_getLocal_35 : decode cX3_getLocal 35 = .ok (.invokevirtual 57, 3) := by decide +kernel
theorem dX3_getLocal_38 : decode cX3_getLocal 38 = .ok (.iload_n 2, 1) := by decide +kernel
theorem dX3_getLocal_39 : decode cX3_getLocal 39 = .ok (.invokevirtual 107, 3) := by decide +kernel
theorem dX3_getLocal_42 : decode cX3_getLocal 42 = .ok (.return_, 1) := by decide +kernel
theorem dX3_setLocal_0 : decode cX3_setLocal 0 = .ok (.aload_n 0, 1) := by decide +kernel
theorem dX3_setLocal_1 : decode cX3_setLocal 1 = .ok (.getfield 21, 3) := by decide +kernel
theorem dX3_setLocal_4 : decode cX3_setLocal 4 = .ok (.invokevirtual 81, 3) := by decide +kernel
theorem dX3_setLocal_7 : decode cX3_setLocal 7 = .ok (.iconst 1, 1) := by decide +kernel
theorem dX3_setLocal_8 : decode cX3_setLocal 8 = .ok (.isub, 1) := by decide +kernel
theorem dX3_setLocal_9 : decode cX3_setLocal 9 = .ok (.istore_n 3, 1) := by decide +kernel
theorem dX3_setLocal_10 : decode cX3_setLocal 10 = .ok (.aload_n 0, 1) := by decide +kernel
theorem dX3_setLocal_11 : decode cX3_setLocal 11 = .ok (.getfield 21, 3) := by decide +kernel
theorem dX3_setLocal_14 : decode cX3_setLocal 14 = .ok (.iload_n 3, 1) := by decide +kernel
theorem dX3_setLocal_15 : decode cX3_setLocal 15 = .ok (.iload_n 1, 1) := by decide +kernel
theorem dX3_setLocal_16 : decode cX3_setLocal 16 = .ok (.invokevirtual 154, 3) := by decide +kernel
theorem dX3_setLocal_19 : decode cX3_setLocal 19 = .ok (.ifCond .ne 9, 3) := by decide +kernel
theorem dX3_setLocal_22 : decode cX3_setLocal 22 = .ok (.aload_n 0, 1) := by decide +kernel
theorem dX3_setLocal_23 : decode cX3_setLocal 23 = .ok (.iconst 3, 1) := by decide +kernel
theorem dX3_setLocal_24 : decode cX3_setLocal 24 = .ok (.putfield 54, 3) := by decide +kernel
theorem dX3_setLocal_27 : decode cX3_setLocal 27 = .ok (.return_, 1) := by decide +kernel
theorem dX3_setLocal_28 : decode cX3_setLocal 28 = .ok (.aload_n 0, 1) := by decide +kernel
theorem dX3_setLocal_29 : decode cX3_setLocal 29 = .ok (.getfield 21, 3) := by decide +kernel
theorem dX3_setLocal_32 : decode cX3_setLocal 32 = .ok (.iload_n 3, 1) := by decide +kernel
theorem dX3_setLocal_33 : decode cX3_setLocal 33 = .ok (.iload_n 1, 1) := by decide +kernel
theorem dX3_setLocal_34 : decode cX3_setLocal 34 = .ok (.aload_n 0, 1) := by decide +kernel
theorem dX3_setLocal_35 : decode cX3_setLocal 35 = .ok (.invokevirtual 116, 3) := by decide +kernel
theorem dX3_setLocal_38 : decode cX3_setLocal 38 = .ok (.invokevirtual 157, 3) := by decide +kernel
theorem dX3_setLocal_41 : decode cX3_setLocal 41 = .ok (.aload_n 0, 1) := by decide +kernel
theorem dX3_setLocal_42 : decode cX3_setLocal 42 = .ok (.getfield 21, 3) := by decide +kernel
theorem dX3_setLocal_45 : decode cX3_setLocal 45 = .ok (.iload_n 2, 1) := by decide +kernel
theorem dX3_setLocal_46 : decode cX3_setLocal 46 = .ok (.invokevirtual 119, 3) := by decide +kernel
theorem dX3_setLocal_49 : decode cX3_setLocal 49 = .ok (.return_, 1) := by decide +kernel
theorem dX3_calculate_0 : decode cX3_calculate 0 = .ok (.aload_n 0, 1) := by decide +kernel
theorem dX3_calculate_1 : decode cX3_calculate 1 = .ok (.invokevirtual 116, 3) := by decide +kernel
theorem dX3_calculate_4 : decode cX3_calculate 4 = .ok (.istore_n 3, 1) := by decide +kernel
theorem dX3_calculate_5 : decode cX3_calculate 5 = .ok (.aload_n 0, 1) := by decide +kernel
theorem dX3_calculate_6 : decode cX3_calculate 6 = .ok (.invokevirtual 116, 3) := by decide +kernel
theorem dX3_calculate_9 : decode cX3_calculate 9 = .ok (.istore 4, 2) := by decide +kernel
theorem dX3_calculate_11 : decode cX3_calculate 11 = .ok (.aload_n 0, 1) := by decide +kernel
theorem dX3_calculate_12 : decode cX3_calculate 12 = .ok (.iload_n 1, 1) := by decide +kernel
theorem dX3_calculate_13 : decode cX3_calculate 13 = .ok (.iload 4, 2) := by decide +kernel
theorem dX3_calculate_15 : decode cX3_calculate 15 = .ok (.iload_n 3, 1) := by decide +kernel
theorem dX3_calculate_16 : decode cX3_calculate 16 = .ok (.invokestatic 159, 3) := by decide +kernel
theorem dX3_calculate_19 : decode cX3_calculate 19 = .ok (.iload_n 2, 1) := by decide +kernel
theorem dX3_calculate_20 : decode cX3_calculate 20 = .ok (.invokevirtual 107, 3) := by decide +kernel
theorem dX3_calculate_23 : decode cX3_calculate 23 = .ok (.return_, 1) := by decide +kernel
theorem dX3_valueOf_0 : decode cX3_valueOf 0 = .ok (.iload_n 0, 1) := by decide +kernel
theorem dX3_valueOf_1 : decode cX3_valueOf 1 = .ok (.tableswitch 54 4 7 #[31, 35, 39, 50], 31) := by decide +kernel
theorem dX3_valueOf_32 : decode cX3_valueOf 32 = .ok (.iload_n 1, 1) := by decide +kernel
theorem dX3_valueOf_33 : decode cX3_valueOf 33 = .ok (.iload_n 2, 1) := by decide +kernel
theorem dX3_valueOf_34 : decode cX3_valueOf 34 = .ok (.iadd, 1) := by decide +kernel
theorem dX3_valueOf_35 : decode cX3_valueOf 35 = .ok (.ireturn, 1) := by decide +kernel
theorem dX3_valueOf_36 : decode cX3_valueOf 36 = .ok (.iload_n 1, 1) := by decide +kernel
theorem dX3_valueOf_37 : decode cX3_valueOf 37 = .ok (.iload_n 2, 1) := by decide +kernel
theorem dX3_valueOf_38 : decode cX3_valueOf 38 = .ok (.isub, 1) := by decide +kernel
theorem dX3_valueOf_39 : decode cX3_valueOf 39 = .ok (.ireturn, 1) := by decide +kernel
theorem dX3_valueOf_40 : decode cX3_valueOf 40 = .ok (.iload_n 1, 1) := by decide +kernel
theorem dX3_valueOf_41 : decode cX3_valueOf 41 = .ok (.iload_n 2, 1) := by decide +kernel
theorem dX3_valueOf_42 : decode cX3_valueOf 42 = .ok (.if_icmp .ge 7, 3) := by decide +kernel
theorem dX3_valueOf_45 : decode cX3_valueOf 45 = .ok (.iconst 1, 1) := by decide +kernel
theorem dX3_valueOf_46 : decode cX3_valueOf 46 = .ok (.goto 4, 3) := by decide +kernel
theorem dX3_valueOf_49 : decode cX3_valueOf 49 = .ok (.iconst 0, 1) := by decide +kernel
theorem dX3_valueOf_50 : decode cX3_valueOf 50 = .ok (.ireturn, 1) := by decide +kernel
theorem dX3_valueOf_51 : decode cX3_valueOf 51 = .ok (.iload_n 1, 1) := by decide +kernel
theorem dX3_valueOf_52 : decode cX3_valueOf 52 = .ok (.iload_n 2, 1) := by decide +kernel
theorem dX3_valueOf_53 : decode cX3_valueOf 53 = .ok (.imul, 1) := by decide +kernel
theorem dX3_valueOf_54 : decode cX3_valueOf 54 = .ok (.ireturn, 1) := by decide +kernel
theorem dX3_valueOf_55 : decode cX3_valueOf 55 = .ok (.iconst 0, 1) := by decide +kernel
theorem dX3_valueOf_56 : decode cX3_valueOf 56 = .ok (.ireturn, 1) := by decide +kernel
theorem dX3_putOut_0 : decode cX3_putOut 0 = .ok (.aload_n 0, 1) := by decide +kernel
theorem dX3_putOut_1 : decode cX3_putOut 1 = .ok (.getfield 47, 3) := by decide +kernel
theorem dX3_putOut_4 : decode cX3_putOut 4 = .ok (.bipush 40, 2) := by decide +kernel
theorem dX3_putOut_6 : decode cX3_putOut 6 = .ok (.if_icmp .lt 9, 3) := by decide +kernel
theorem dX3_putOut_9 : decode cX3_putOut 9 = .ok (.aload_n 0, 1) := by decide +kernel
theorem dX3_putOut_10 : decode cX3_putOut 10 = .ok (.iconst 3, 1) := by decide +kernel
theorem dX3_putOut_11 : decode cX3_putOut 11 = .ok (.putfield 54, 3) := by decide +kernel
theorem dX3_putOut_14 : decode cX3_putOut 14 = .ok (.return_, 1) := by decide +kernel
theorem dX3_putOut_15 : decode cX3_putOut 15 = .ok (.aload_n 0, 1) := by decide +kernel
theorem dX3_putOut_16 : decode cX3_putOut 16 = .ok (.getfield 25, 3) := by decide +kernel
theorem dX3_putOut_19 : decode cX3_putOut 19 = .ok (.aload_n 0, 1) := by decide +kernel
theorem dX3_putOut_20 : decode cX3_putOut 20 = .ok (.getfield 47, 3) := by decide +kernel
theorem dX3_putOut_23 : decode cX3_putOut 23 = .ok (.aload_n 0, 1) := by decide +kernel
theorem dX3_putOut_24 : decode cX3_putOut 24 = .ok (.invokevirtual 116, 3) := by decide +kernel
theorem dX3_putOut_27 : decode cX3_putOut 27 = .ok (.iastore, 1) := by decide +kernel
theorem dX3_putOut_28 : decode cX3_putOut 28 = .ok (.aload_n 0, 1) := by decide +kernel
theorem dX3_putOut_29 : decode cX3_putOut 29 = .ok (.dup, 1) := by decide +kernel
theorem dX3_putOut_30 : decode cX3_putOut 30 = .ok (.getfield 47, 3) := by decide +kernel
theorem dX3_putOut_33 : decode cX3_putOut 33 = .ok (.iconst 1, 1) := by decide +kernel
theorem dX3_putOut_34 : decode cX3_putOut 34 = .ok (.iadd, 1) := by decide +kernel
theorem dX3_putOut_35 : decode cX3_putOut 35 = .ok (.putfield 47, 3) := by decide +kernel
theorem dX3_putOut_38 : decode cX3_putOut 38 = .ok (.aload_n 0, 1) := by decide +kernel
theorem dX3_putOut_39 : decode cX3_putOut 39 = .ok (.getfield 21, 3) := by decide +kernel
theorem dX3_putOut_42 : decode cX3_putOut 42 = .ok (.iload_n 1, 1) := by decide +kernel
theorem dX3_putOut_43 : decode cX3_putOut 43 = .ok (.invokevirtual 119, 3) := by decide +kernel
theorem dX3_putOut_46 : decode cX3_putOut 46 = .ok (.return_, 1) := by decide +kernel
theorem dX3_callFrom_0 : decode cX3_callFrom 0 = .ok (.aload_n 0, 1) := by decide +kernel
theorem dX3_callFrom_1 : decode cX3_callFrom 1 = .ok (.iload_n 2, 1) := by decide +kernel
theorem dX3_callFrom_2 : decode cX3_callFrom 2 = .ok (.iload_n 3, 1) := by decide +kernel
theorem dX3_callFrom_3 : decode cX3_callFrom 3 = .ok (.aload_n 0, 1) := by decide +kernel
theorem dX3_callFrom_4 : decode cX3_callFrom 4 = .ok (.invokevirtual 116, 3) := by decide +kernel
theorem dX3_callFrom_7 : decode cX3_callFrom 7 = .ok (.invokevirtual 37, 3) := by decide +kernel
theorem dX3_callFrom_10 : decode cX3_callFrom 10 = .ok (.ifCond .eq 11, 3) := by decide +kernel
theorem dX3_callFrom_13 : decode cX3_callFrom 13 = .ok (.aload_n 0, 1) := by decide +kernel
theorem dX3_callFrom_14 : decode cX3_callFrom 14 = .ok (.getfield 21, 3) := by decide +kernel
theorem dX3_callFrom_17 : decode cX3_callFrom 17 = .ok (.iload_n 1, 1) := by decide +kernel
theorem dX3_callFrom_18 : decode cX3_callFrom 18 = .ok (.invokevirtual 163, 3) := by decide +kernel
theorem dX3_callFrom_21 : decode cX3_callFrom 21 = .ok (.return_, 1) := by decide +kernel
theorem dX3_enter_0 : decode cX3_enter 0 = .ok (.aload_n 0, 1) := by decide +kernel
theorem dX3_enter_1 : decode cX3_enter 1 = .ok (.getfield 29, 3) := by decide +kernel
theorem dX3_enter_4 : decode cX3_enter 4 = .ok (.iload_n 1, 1) := by decide +kernel
theorem dX3_enter_5 : decode cX3_enter 5 = .ok (.iload_n 2, 1) := by decide +kernel
theorem dX3_enter_6 : decode cX3_enter 6 = .ok (.invokevirtual 166, 3) := by decide +kernel
theorem dX3_enter_9 : decode cX3_enter 9 = .ok (.istore 4, 2) := by decide +kernel
theorem dX3_enter_11 : decode cX3_enter 11 = .ok (.iload 4, 2) := by decide +kernel
theorem dX3_enter_13 : decode cX3_enter 13 = .ok (.iconst (-1), 1) := by decide +kernel
theorem dX3_enter_14 : decode cX3_enter 14 = .ok (.if_icmp .ne 10, 3) := by decide +kernel
theorem dX3_enter_17 : decode cX3_enter 17 = .ok (.aload_n 0, 1) := by decide +kernel
theorem dX3_enter_18 : decode cX3_enter 18 = .ok (.iconst 3, 1) := by decide +kernel
theorem dX3_enter_19 : decode cX3_enter 19 = .ok (.putfield 54, 3) := by decide +kernel
theorem dX3_enter_22 : decode cX3_enter 22 = .ok (.iconst 0, 1) := by decide +kernel
theorem dX3_enter_23 : decode cX3_enter 23 = .ok (.ireturn, 1) := by decide +kernel
theorem dX3_enter_24 : decode cX3_enter 24 = .ok (.aload_n 0, 1) := by decide +kernel
theorem dX3_enter_25 : decode cX3_enter 25 = .ok (.getfield 12, 3) := by decide +kernel
theorem dX3_enter_28 : decode cX3_enter 28 = .ok (.iload_n 1, 1) := by decide +kernel
theorem dX3_enter_29 : decode cX3_enter 29 = .ok (.aload_n 0, 1) := by decide +kernel
theorem dX3_enter_30 : decode cX3_enter 30 = .ok (.getfield 29, 3) := by decide +kernel
theorem dX3_enter_33 : decode cX3_enter 33 = .ok (.iload_n 1, 1) := by decide +kernel
theorem dX3_enter_34 : decode cX3_enter 34 = .ok (.invokevirtual 135, 3) := by decide +kernel
theorem dX3_enter_37 : decode cX3_enter 37 = .ok (.invokevirtual 169, 3) := by decide +kernel
theorem dX3_enter_40 : decode cX3_enter 40 = .ok (.ifCond .eq 23, 3) := by decide +kernel
theorem dX3_enter_43 : decode cX3_enter 43 = .ok (.aload_n 0, 1) := by decide +kernel
theorem dX3_enter_44 : decode cX3_enter 44 = .ok (.getfield 12, 3) := by decide +kernel
theorem dX3_enter_47 : decode cX3_enter 47 = .ok (.iload_n 1, 1) := by decide +kernel
theorem dX3_enter_48 : decode cX3_enter 48 = .ok (.iload 4, 2) := by decide +kernel
theorem dX3_enter_50 : decode cX3_enter 50 = .ok (.invokestatic 172, 3) := by decide +kernel
theorem dX3_enter_53 : decode cX3_enter 53 = .ok (.invokevirtual 175, 3) := by decide +kernel
theorem dX3_enter_56 : decode cX3_enter 56 = .ok (.ifCond .eq 7, 3) := by decide +kernel
theorem dX3_enter_59 : decode cX3_enter 59 = .ok (.iconst 1, 1) := by decide +kernel
theorem dX3_enter_60 : decode cX3_enter 60 = .ok (.goto 4, 3) := by decide +kernel
theorem dX3_enter_63 : decode cX3_enter 63 = .ok (.iconst 0, 1) := by decide +kernel
theorem dX3_enter_64 : decode cX3_enter 64 = .ok (.istore 5, 2) := by decide +kernel
theorem dX3_enter_66 : decode cX3_enter 66 = .ok (.iload 5, 2) := by decide +kernel
theorem dX3_enter_68 : decode cX3_enter 68 = .ok (.ifCond .ne 10, 3) := by decide +kernel
theorem dX3_enter_71 : decode cX3_enter 71 = .ok (.aload_n 0, 1) := by decide +kernel
theorem dX3_enter_72 : decode cX3_enter 72 = .ok (.iconst 4, 1) := by decide +kernel
theorem dX3_enter_73 : decode cX3_enter 73 = .ok (.putfield 54, 3) := by decide +kernel
theorem dX3_enter_76 : decode cX3_enter 76 = .ok (.iconst 0, 1) := by decide +kernel
theorem dX3_enter_77 : decode cX3_enter 77 = .ok (.ireturn, 1) := by decide +kernel
theorem dX3_enter_78 : decode cX3_enter 78 = .ok (.aload_n 0, 1) := by decide +kernel
theorem dX3_enter_79 : decode cX3_enter 79 = .ok (.getfield 21, 3) := by decide +kernel
theorem dX3_enter_82 : decode cX3_enter 82 = .ok (.iload_n 1, 1) := by decide +kernel
theorem dX3_enter_83 : decode cX3_enter 83 = .ok (.aload_n 0, 1) := by decide +kernel
theorem dX3_enter_84 : decode cX3_enter 84 = .ok (.getfield 29, 3) := by decide +kernel
theorem dX3_enter_87 : decode cX3_enter 87 = .ok (.iload_n 1, 1) := by decide +kernel
theorem dX3_enter_88 : decode cX3_enter 88 = .ok (.iload_n 2, 1) := by decide +kernel
theorem dX3_enter_89 : decode cX3_enter 89 = .ok (.invokevirtual 178, 3) := by decide +kernel
theorem dX3_enter_92 : decode cX3_enter 92 = .ok (.iconst 1, 1) := by decide +kernel
theorem dX3_enter_93 : decode cX3_enter 93 = .ok (.iadd, 1) := by decide +kernel
theorem dX3_enter_94 : decode cX3_enter 94 = .ok (.iload 4, 2) := by decide +kernel
theorem dX3_enter_96 : decode cX3_enter 96 = .ok (.iload_n 3, 1) := by decide +kernel
theorem dX3_enter_97 : decode cX3_enter 97 = .ok (.invokevirtual 181, 3) := by decide +kernel
theorem dX3_enter_100 : decode cX3_enter 100 = .ok (.iconst 1, 1) := by decide +kernel
theorem dX3_enter_101 : decode cX3_enter 101 = .ok (.ireturn, 1) := by decide +kernel
theorem dX3_giveBack_0 : decode cX3_giveBack 0 = .ok (.aload_n 0, 1) := by decide +kernel
theorem dX3_giveBack_1 : decode cX3_giveBack 1 = .ok (.invokevirtual 116, 3) := by decide +kernel
theorem dX3_giveBack_4 : decode cX3_giveBack 4 = .ok (.istore_n 1, 1) := by decide +kernel
theorem dX3_giveBack_5 : decode cX3_giveBack 5 = .ok (.aload_n 0, 1) := by decide +kernel
theorem dX3_giveBack_6 : decode cX3_giveBack 6 = .ok (.getfield 21, 3) := by decide +kernel
theorem dX3_giveBack_9 : decode cX3_giveBack 9 = .ok (.invokevirtual 81, 3) := by decide +kernel
theorem dX3_giveBack_12 : decode cX3_giveBack 12 = .ok (.iconst 1, 1) := by decide +kernel
theorem dX3_giveBack_13 : decode cX3_giveBack 13 = .ok (.if_icmp .ne 14, 3) := by decide +kernel
theorem dX3_giveBack_16 : decode cX3_giveBack 16 = .ok (.aload_n 0, 1) := by decide +kernel
theorem dX3_giveBack_17 : decode cX3_giveBack 17 = .ok (.iload_n 1, 1) := by decide +kernel
theorem dX3_giveBack_18 : decode cX3_giveBack 18 = .ok (.putfield 51, 3) := by decide +kernel
theorem dX3_giveBack_21 : decode cX3_giveBack 21 = .ok (.aload_n 0, 1) := by decide +kernel
theorem dX3_giveBack_22 : decode cX3_giveBack 22 = .ok (.iconst 2, 1) := by decide +kernel
theorem dX3_giveBack_23 : decode cX3_giveBack 23 = .ok (.putfield 54, 3) := by decide +kernel
theorem dX3_giveBack_26 : decode cX3_giveBack 26 = .ok (.return_, 1) := by decide +kernel
theorem dX3_giveBack_27 : decode cX3_giveBack 27 = .ok (.aload_n 0, 1) := by decide +kernel
theorem dX3_giveBack_28 : decode cX3_giveBack 28 = .ok (.getfield 21, 3) := by decide +kernel
theorem dX3_giveBack_31 : decode cX3_giveBack 31 = .ok (.invokevirtual 185, 3) := by decide +kernel
theorem dX3_giveBack_34 : decode cX3_giveBack 34 = .ok (.invokestatic 172, 3) := by decide +kernel
theorem dX3_giveBack_37 : decode cX3_giveBack 37 = .ok (.iconst 4, 1) := by decide +kernel
end
section
theorem dX3_giveBack_38 : decode cX3_giveBack 38 = .ok (.aload_n 0, 1) := by decide +kernel
theorem dX3_giveBack_39 : decode cX3_giveBack 39 = .ok (.getfield 21, 3) := by decide +kernel
theorem dX3_giveBack_42 : decode cX3_giveBack 42 = .ok (.invokevirtual 90, 3) := by decide +kernel
theorem dX3_giveBack_45 : decode cX3_giveBack 45 = .ok (.imul, 1) := by decide +kernel
theorem dX3_giveBack_46 : decode cX3_giveBack 46 = .ok (.iadd, 1) := by decide +kernel
theorem dX3_giveBack_47 : decode cX3_giveBack 47 = .ok (.istore_n 2, 1) := by decide +kernel
theorem dX3_giveBack_48 : decode cX3_giveBack 48 = .ok (.aload_n 0, 1) := by decide +kernel
theorem dX3_giveBack_49 : decode cX3_giveBack 49 = .ok (.getfield 12, 3) := by decide +kernel
theorem dX3_giveBack_52 : decode cX3_giveBack 52 = .ok (.aload_n 0, 1) := by decide +kernel
theorem dX3_giveBack_53 : decode cX3_giveBack 53 = .ok (.getfield 21, 3) := by decide +kernel
theorem dX3_giveBack_56 : decode cX3_giveBack 56 = .ok (.invokevirtual 84, 3) := by decide +kernel
theorem dX3_giveBack_59 : decode cX3_giveBack 59 = .ok (.iload_n 2, 1) := by decide +kernel
theorem dX3_giveBack_60 : decode cX3_giveBack 60 = .ok (.invokevirtual 188, 3) := by decide +kernel
theorem dX3_giveBack_63 : decode cX3_giveBack 63 = .ok (.aload_n 0, 1) := by decide +kernel
theorem dX3_giveBack_64 : decode cX3_giveBack 64 = .ok (.getfield 21, 3) := by decide +kernel
theorem dX3_giveBack_67 : decode cX3_giveBack 67 = .ok (.invokevirtual 191, 3) := by decide +kernel
theorem dX3_giveBack_70 : decode cX3_giveBack 70 = .ok (.aload_n 0, 1) := by decide +kernel
theorem dX3_giveBack_71 : decode cX3_giveBack 71 = .ok (.iload_n 1, 1) := by decide +kernel
theorem dX3_giveBack_72 : decode cX3_giveBack 72 = .ok (.invokevirtual 152, 3) := by decide +kernel
theorem dX3_giveBack_75 : decode cX3_giveBack 75 = .ok (.pop, 1) := by decide +kernel
theorem dX3_giveBack_76 : decode cX3_giveBack 76 = .ok (.return_, 1) := by decide +kernel
theorem dX3_frameBytes_0 : decode cX3_frameBytes 0 = .ok (.bipush 8, 2) := by decide +kernel
theorem dX3_frameBytes_2 : decode cX3_frameBytes 2 = .ok (.iconst 4, 1) := by decide +kernel
theorem dX3_frameBytes_3 : decode cX3_frameBytes 3 = .ok (.iload_n 0, 1) := by decide +kernel
theorem dX3_frameBytes_4 : decode cX3_frameBytes 4 = .ok (.imul, 1) := by decide +kernel
theorem dX3_frameBytes_5 : decode cX3_frameBytes 5 = .ok (.iadd, 1) := by decide +kernel
theorem dX3_frameBytes_6 : decode cX3_frameBytes 6 = .ok (.ireturn, 1) := by decide +kernel
theorem dX4_init_0 : decode cX4_init 0 = .ok (.aload_n 0, 1) := by decide +kernel
theorem dX4_init_1 : decode cX4_init 1 = .ok (.invokespecial 1, 3) := by decide +kernel
theorem dX4_init_4 : decode cX4_init 4 = .ok (.aload_n 0, 1) := by decide +kernel
theorem dX4_init_5 : decode cX4_init 5 = .ok (.new 7, 3) := by decide +kernel
theorem dX4_init_8 : decode cX4_init 8 = .ok (.dup, 1) := by decide +kernel
theorem dX4_init_9 : decode cX4_init 9 = .ok (.invokespecial 9, 3) := by decide +kernel
theorem dX4_init_12 : decode cX4_init 12 = .ok (.putfield 10, 3) := by decide +kernel
theorem dX4_init_15 : decode cX4_init 15 = .ok (.aload_n 0, 1) := by decide +kernel
theorem dX4_init_16 : decode cX4_init 16 = .ok (.new 16, 3) := by decide +kernel
theorem dX4_init_19 : decode cX4_init 19 = .ok (.dup, 1) := by decide +kernel
theorem dX4_init_20 : decode cX4_init 20 = .ok (.aload_n 0, 1) := by decide +kernel
theorem dX4_init_21 : decode cX4_init 21 = .ok (.getfield 10, 3) := by decide +kernel
theorem dX4_init_24 : decode cX4_init 24 = .ok (.invokespecial 18, 3) := by decide +kernel
theorem dX4_init_27 : decode cX4_init 27 = .ok (.putfield 21, 3) := by decide +kernel
theorem dX4_init_30 : decode cX4_init 30 = .ok (.return_, 1) := by decide +kernel
theorem dX4_code_0 : decode cX4_code 0 = .ok (.iload_n 1, 1) := by decide +kernel
theorem dX4_code_1 : decode cX4_code 1 = .ok (.invokestatic 25, 3) := by decide +kernel
theorem dX4_code_4 : decode cX4_code 4 = .ok (.aload_n 0, 1) := by decide +kernel
theorem dX4_code_5 : decode cX4_code 5 = .ok (.getfield 10, 3) := by decide +kernel
theorem dX4_code_8 : decode cX4_code 8 = .ok (.iload_n 1, 1) := by decide +kernel
theorem dX4_code_9 : decode cX4_code 9 = .ok (.invokevirtual 29, 3) := by decide +kernel
theorem dX4_code_12 : decode cX4_code 12 = .ok (.bipush 80, 2) := by decide +kernel
theorem dX4_code_14 : decode cX4_code 14 = .ok (.if_icmp .lt 13, 3) := by decide +kernel
theorem dX4_code_17 : decode cX4_code 17 = .ok (.new 33, 3) := by decide +kernel
theorem dX4_code_20 : decode cX4_code 20 = .ok (.dup, 1) := by decide +kernel
theorem dX4_code_21 : decode cX4_code 21 = .ok (.ldc 35, 2) := by decide +kernel
theorem dX4_code_23 : decode cX4_code 23 = .ok (.invokespecial 37, 3) := by decide +kernel
theorem dX4_code_26 : decode cX4_code 26 = .ok (.athrow, 1) := by decide +kernel
theorem dX4_code_27 : decode cX4_code 27 = .ok (.aload_n 0, 1) := by decide +kernel
theorem dX4_code_28 : decode cX4_code 28 = .ok (.getfield 21, 3) := by decide +kernel
theorem dX4_code_31 : decode cX4_code 31 = .ok (.invokevirtual 40, 3) := by decide +kernel
theorem dX4_code_34 : decode cX4_code 34 = .ok (.aload_n 0, 1) := by decide +kernel
theorem dX4_code_35 : decode cX4_code 35 = .ok (.getfield 10, 3) := by decide +kernel
theorem dX4_code_38 : decode cX4_code 38 = .ok (.iload_n 1, 1) := by decide +kernel
theorem dX4_code_39 : decode cX4_code 39 = .ok (.iload_n 2, 1) := by decide +kernel
theorem dX4_code_40 : decode cX4_code 40 = .ok (.invokevirtual 43, 3) := by decide +kernel
theorem dX4_code_43 : decode cX4_code 43 = .ok (.aload_n 0, 1) := by decide +kernel
theorem dX4_code_44 : decode cX4_code 44 = .ok (.getfield 10, 3) := by decide +kernel
theorem dX4_code_47 : decode cX4_code 47 = .ok (.iload_n 1, 1) := by decide +kernel
theorem dX4_code_48 : decode cX4_code 48 = .ok (.invokevirtual 29, 3) := by decide +kernel
theorem dX4_code_51 : decode cX4_code 51 = .ok (.ireturn, 1) := by decide +kernel
theorem dX4_clear_0 : decode cX4_clear 0 = .ok (.iload_n 1, 1) := by decide +kernel
theorem dX4_clear_1 : decode cX4_clear 1 = .ok (.invokestatic 25, 3) := by decide +kernel
theorem dX4_clear_4 : decode cX4_clear 4 = .ok (.aload_n 0, 1) := by decide +kernel
theorem dX4_clear_5 : decode cX4_clear 5 = .ok (.getfield 21, 3) := by decide +kernel
theorem dX4_clear_8 : decode cX4_clear 8 = .ok (.invokevirtual 40, 3) := by decide +kernel
theorem dX4_clear_11 : decode cX4_clear 11 = .ok (.aload_n 0, 1) := by decide +kernel
theorem dX4_clear_12 : decode cX4_clear 12 = .ok (.getfield 10, 3) := by decide +kernel
theorem dX4_clear_15 : decode cX4_clear 15 = .ok (.iload_n 1, 1) := by decide +kernel
theorem dX4_clear_16 : decode cX4_clear 16 = .ok (.invokevirtual 47, 3) := by decide +kernel
theorem dX4_clear_19 : decode cX4_clear 19 = .ok (.return_, 1) := by decide +kernel
theorem dX4_good_0 : decode cX4_good 0 = .ok (.iload_n 1, 1) := by decide +kernel
theorem dX4_good_1 : decode cX4_good 1 = .ok (.invokestatic 25, 3) := by decide +kernel
theorem dX4_good_4 : decode cX4_good 4 = .ok (.aload_n 0, 1) := by decide +kernel
theorem dX4_good_5 : decode cX4_good 5 = .ok (.getfield 10, 3) := by decide +kernel
theorem dX4_good_8 : decode cX4_good 8 = .ok (.iload_n 1, 1) := by decide +kernel
theorem dX4_good_9 : decode cX4_good 9 = .ok (.invokevirtual 50, 3) := by decide +kernel
theorem dX4_good_12 : decode cX4_good 12 = .ok (.ireturn, 1) := by decide +kernel
theorem dX4_start_0 : decode cX4_start 0 = .ok (.iload_n 1, 1) := by decide +kernel
theorem dX4_start_1 : decode cX4_start 1 = .ok (.invokestatic 25, 3) := by decide +kernel
theorem dX4_start_4 : decode cX4_start 4 = .ok (.iload_n 3, 1) := by decide +kernel
theorem dX4_start_5 : decode cX4_start 5 = .ok (.ifCond .lt 10, 3) := by decide +kernel
theorem dX4_start_8 : decode cX4_start 8 = .ok (.iload_n 3, 1) := by decide +kernel
theorem dX4_start_9 : decode cX4_start 9 = .ok (.sipush 4000, 3) := by decide +kernel
theorem dX4_start_12 : decode cX4_start 12 = .ok (.if_icmp .le 13, 3) := by decide +kernel
theorem dX4_start_15 : decode cX4_start 15 = .ok (.new 53, 3) := by decide +kernel
theorem dX4_start_18 : decode cX4_start 18 = .ok (.dup, 1) := by decide +kernel
theorem dX4_start_19 : decode cX4_start 19 = .ok (.ldc 55, 2) := by decide +kernel
theorem dX4_start_21 : decode cX4_start 21 = .ok (.invokespecial 57, 3) := by decide +kernel
theorem dX4_start_24 : decode cX4_start 24 = .ok (.athrow, 1) := by decide +kernel
theorem dX4_start_25 : decode cX4_start 25 = .ok (.aload_n 0, 1) := by decide +kernel
theorem dX4_start_26 : decode cX4_start 26 = .ok (.getfield 10, 3) := by decide +kernel
theorem dX4_start_29 : decode cX4_start 29 = .ok (.iload_n 1, 1) := by decide +kernel
theorem dX4_start_30 : decode cX4_start 30 = .ok (.invokevirtual 50, 3) := by decide +kernel
theorem dX4_start_33 : decode cX4_start 33 = .ok (.ifCond .ne 13, 3) := by decide +kernel
theorem dX4_start_36 : decode cX4_start 36 = .ok (.new 58, 3) := by decide +kernel
theorem dX4_start_39 : decode cX4_start 39 = .ok (.dup, 1) := by decide +kernel
theorem dX4_start_40 : decode cX4_start 40 = .ok (.ldc 60, 2) := by decide +kernel
theorem dX4_start_42 : decode cX4_start 42 = .ok (.invokespecial 62, 3) := by decide +kernel
theorem dX4_start_45 : decode cX4_start 45 = .ok (.athrow, 1) := by decide +kernel
theorem dX4_start_46 : decode cX4_start 46 = .ok (.aload_n 0, 1) := by decide +kernel
theorem dX4_start_47 : decode cX4_start 47 = .ok (.getfield 21, 3) := by decide +kernel
theorem dX4_start_50 : decode cX4_start 50 = .ok (.iload_n 1, 1) := by decide +kernel
theorem dX4_start_51 : decode cX4_start 51 = .ok (.iload_n 2, 1) := by decide +kernel
theorem dX4_start_52 : decode cX4_start 52 = .ok (.iload_n 3, 1) := by decide +kernel
theorem dX4_start_53 : decode cX4_start 53 = .ok (.invokevirtual 63, 3) := by decide +kernel
theorem dX4_start_56 : decode cX4_start 56 = .ok (.return_, 1) := by decide +kernel
theorem dX4_step_0 : decode cX4_step 0 = .ok (.aload_n 0, 1) := by decide +kernel
theorem dX4_step_1 : decode cX4_step 1 = .ok (.getfield 21, 3) := by decide +kernel
theorem dX4_step_4 : decode cX4_step 4 = .ok (.invokevirtual 67, 3) := by decide +kernel
theorem dX4_step_7 : decode cX4_step 7 = .ok (.ifCond .ne 13, 3) := by decide +kernel
theorem dX4_step_10 : decode cX4_step 10 = .ok (.new 58, 3) := by decide +kernel
theorem dX4_step_13 : decode cX4_step 13 = .ok (.dup, 1) := by decide +kernel
theorem dX4_step_14 : decode cX4_step 14 = .ok (.ldc 71, 2) := by decide +kernel
theorem dX4_step_16 : decode cX4_step 16 = .ok (.invokespecial 62, 3) := by decide +kernel
theorem dX4_step_19 : decode cX4_step 19 = .ok (.athrow, 1) := by decide +kernel
theorem dX4_step_20 : decode cX4_step 20 = .ok (.iload_n 1, 1) := by decide +kernel
theorem dX4_step_21 : decode cX4_step 21 = .ok (.ifCond .lt 10, 3) := by decide +kernel
theorem dX4_step_24 : decode cX4_step 24 = .ok (.iload_n 1, 1) := by decide +kernel
theorem dX4_step_25 : decode cX4_step 25 = .ok (.sipush 2000, 3) := by decide +kernel
theorem dX4_step_28 : decode cX4_step 28 = .ok (.if_icmp .le 13, 3) := by decide +kernel
theorem dX4_step_31 : decode cX4_step 31 = .ok (.new 53, 3) := by decide +kernel
theorem dX4_step_34 : decode cX4_step 34 = .ok (.dup, 1) := by decide +kernel
theorem dX4_step_35 : decode cX4_step 35 = .ok (.ldc 73, 2) := by decide +kernel
theorem dX4_step_37 : decode cX4_step 37 = .ok (.invokespecial 57, 3) := by decide +kernel
theorem dX4_step_40 : decode cX4_step 40 = .ok (.athrow, 1) := by decide +kernel
theorem dX4_step_41 : decode cX4_step 41 = .ok (.iconst 0, 1) := by decide +kernel
theorem dX4_step_42 : decode cX4_step 42 = .ok (.istore_n 2, 1) := by decide +kernel
theorem dX4_step_43 : decode cX4_step 43 = .ok (.iload_n 2, 1) := by decide +kernel
theorem dX4_step_44 : decode cX4_step 44 = .ok (.iload_n 1, 1) := by decide +kernel
theorem dX4_step_45 : decode cX4_step 45 = .ok (.if_icmp .ge 27, 3) := by decide +kernel
theorem dX4_step_48 : decode cX4_step 48 = .ok (.aload_n 0, 1) := by decide +kernel
theorem dX4_step_49 : decode cX4_step 49 = .ok (.getfield 21, 3) := by decide +kernel
theorem dX4_step_52 : decode cX4_step 52 = .ok (.invokevirtual 67, 3) := by decide +kernel
theorem dX4_step_55 : decode cX4_step 55 = .ok (.iconst 1, 1) := by decide +kernel
theorem dX4_step_56 : decode cX4_step 56 = .ok (.if_icmp .ne 16, 3) := by decide +kernel
theorem dX4_step_59 : decode cX4_step 59 = .ok (.aload_n 0, 1) := by decide +kernel
theorem dX4_step_60 : decode cX4_step 60 = .ok (.getfield 21, 3) := by decide +kernel
theorem dX4_step_63 : decode cX4_step 63 = .ok (.invokevirtual 75, 3) := by decide +kernel
theorem dX4_step_66 : decode cX4_step 66 = .ok (.iinc 2 1, 3) := by decide +kernel
theorem dX4_step_69 : decode cX4_step 69 = .ok (.goto (-26), 3) := by decide +kernel
theorem dX4_step_72 : decode cX4_step 72 = .ok (.iload_n 2, 1) := by decide +kernel
theorem dX4_step_73 : decode cX4_step 73 = .ok (.ireturn, 1) := by decide +kernel
theorem dX4_look_0 : decode cX4_look 0 = .ok (.iload_n 1, 1) := by decide +kernel
theorem dX4_look_1 : decode cX4_look 1 = .ok (.ifCond .lt 9, 3) := by decide +kernel
theorem dX4_look_4 : decode cX4_look 4 = .ok (.iload_n 1, 1) := by decide +kernel
theorem dX4_look_5 : decode cX4_look 5 = .ok (.bipush 10, 2) := by decide +kernel
theorem dX4_look_7 : decode cX4_look 7 = .ok (.if_icmp .le 13, 3) := by decide +kernel
theorem dX4_look_10 : decode cX4_look 10 = .ok (.new 53, 3) := by decide +kernel
theorem dX4_look_13 : decode cX4_look 13 = .ok (.dup, 1) := by decide +kernel
theorem dX4_look_14 : decode cX4_look 14 = .ok (.ldc 78, 2) := by decide +kernel
theorem dX4_look_16 : decode cX4_look 16 = .ok (.invokespecial 57, 3) := by decide +kernel
theorem dX4_look_19 : decode cX4_look 19 = .ok (.athrow, 1) := by decide +kernel
theorem dX4_look_20 : decode cX4_look 20 = .ok (.aload_n 0, 1) := by decide +kernel
theorem dX4_look_21 : decode cX4_look 21 = .ok (.getfield 21, 3) := by decide +kernel
theorem dX4_look_24 : decode cX4_look 24 = .ok (.iload_n 1, 1) := by decide +kernel
theorem dX4_look_25 : decode cX4_look 25 = .ok (.invokevirtual 80, 3) := by decide +kernel
theorem dX4_look_28 : decode cX4_look 28 = .ok (.ireturn, 1) := by decide +kernel
theorem dX4_state_0 : decode cX4_state 0 = .ok (.iload_n 1, 1) := by decide +kernel
theorem dX4_state_1 : decode cX4_state 1 = .ok (.invokestatic 25, 3) := by decide +kernel
theorem dX4_state_4 : decode cX4_state 4 = .ok (.aload_n 0, 1) := by decide +kernel
theorem dX4_state_5 : decode cX4_state 5 = .ok (.getfield 21, 3) := by decide +kernel
theorem dX4_state_8 : decode cX4_state 8 = .ok (.iload_n 1, 1) := by decide +kernel
theorem dX4_state_9 : decode cX4_state 9 = .ok (.invokevirtual 83, 3) := by decide +kernel
theorem dX4_state_12 : decode cX4_state 12 = .ok (.ireturn, 1) := by decide +kernel
theorem dX4_out_0 : decode cX4_out 0 = .ok (.iload_n 1, 1) := by decide +kernel
theorem dX4_out_1 : decode cX4_out 1 = .ok (.ifCond .lt 14, 3) := by decide +kernel
theorem dX4_out_4 : decode cX4_out 4 = .ok (.iload_n 1, 1) := by decide +kernel
theorem dX4_out_5 : decode cX4_out 5 = .ok (.aload_n 0, 1) := by decide +kernel
theorem dX4_out_6 : decode cX4_out 6 = .ok (.getfield 21, 3) := by decide +kernel
theorem dX4_out_9 : decode cX4_out 9 = .ok (.invokevirtual 86, 3) := by decide +kernel
theorem dX4_out_12 : decode cX4_out 12 = .ok (.if_icmp .lt 13, 3) := by decide +kernel
theorem dX4_out_15 : decode cX4_out 15 = .ok (.new 33, 3) := by decide +kernel
theorem dX4_out_18 : decode cX4_out 18 = .ok (.dup, 1) := by decide +kernel
theorem dX4_out_19 : decode cX4_out 19 = .ok (.ldc 89, 2) := by decide +kernel
theorem dX4_out_21 : decode cX4_out 21 = .ok (.invokespecial 37, 3) := by decide +kernel
theorem dX4_out_24 : decode cX4_out 24 = .ok (.athrow, 1) := by decide +kernel
theorem dX4_out_25 : decode cX4_out 25 = .ok (.aload_n 0, 1) := by decide +kernel
theorem dX4_out_26 : decode cX4_out 26 = .ok (.getfield 21, 3) := by decide +kernel
theorem dX4_out_29 : decode cX4_out 29 = .ok (.iload_n 1, 1) := by decide +kernel
theorem dX4_out_30 : decode cX4_out 30 = .ok (.invokevirtual 91, 3) := by decide +kernel
theorem dX4_out_33 : decode cX4_out 33 = .ok (.ireturn, 1) := by decide +kernel
theorem dX4_local_0 : decode cX4_local 0 = .ok (.aload_n 0, 1) := by decide +kernel
theorem dX4_local_1 : decode cX4_local 1 = .ok (.getfield 21, 3) := by decide +kernel
theorem dX4_local_4 : decode cX4_local 4 = .ok (.iload_n 1, 1) := by decide +kernel
theorem dX4_local_5 : decode cX4_local 5 = .ok (.iload_n 2, 1) := by decide +kernel
theorem dX4_local_6 : decode cX4_local 6 = .ok (.invokevirtual 94, 3) := by decide +kernel
theorem dX4_local_9 : decode cX4_local 9 = .ok (.ireturn, 1) := by decide +kernel
theorem dX4_requireSegment_0 : decode cX4_requireSegment 0 = .ok (.iload_n 0, 1) := by decide +kernel
theorem dX4_requireSegment_1 : decode cX4_requireSegment 1 = .ok (.invokestatic 98, 3) := by decide +kernel
theorem dX4_requireSegment_4 : decode cX4_requireSegment 4 = .ok (.ifCond .ne 13, 3) := by decide +kernel
theorem dX4_requireSegment_7 : decode cX4_requireSegment 7 = .ok (.new 53, 3) := by decide +kernel
theorem dX4_requireSegment_10 : decode cX4_requireSegment 10 = .ok (.dup, 1) := by decide +kernel
theorem dX4_requireSegment_11 : decode cX4_requireSegment 11 = .ok (.ldc 102, 2) := by decide +kernel
theorem dX4_requireSegment_13 : decode cX4_requireSegment 13 = .ok (.invokespecial 57, 3) := by decide +kernel
theorem dX4_requireSegment_16 : decode cX4_requireSegment 16 = .ok (.athrow, 1) := by decide +kernel
theorem dX4_requireSegment_17 : decode cX4_requireSegment 17 = .ok (.return_, 1) := by decide +kernel
theorem dX4_isSegment_0 : decode cX4_isSegment 0 = .ok (.iload_n 0, 1) := by decide +kernel
theorem dX4_isSegment_1 : decode cX4_isSegment 1 = .ok (.ifCond .lt 12, 3) := by decide +kernel
theorem dX4_isSegment_4 : decode cX4_isSegment 4 = .ok (.iload_n 0, 1) := by decide +kernel
theorem dX4_isSegment_5 : decode cX4_isSegment 5 = .ok (.iconst 5, 1) := by decide +kernel
theorem dX4_isSegment_6 : decode cX4_isSegment 6 = .ok (.if_icmp .ge 7, 3) := by decide +kernel
theorem dX4_isSegment_9 : decode cX4_isSegment 9 = .ok (.iconst 1, 1) := by decide +kernel
theorem dX4_isSegment_10 : decode cX4_isSegment 10 = .ok (.goto 4, 3) := by decide +kernel
theorem dX4_isSegment_13 : decode cX4_isSegment 13 = .ok (.iconst 0, 1) := by decide +kernel
theorem dX4_isSegment_14 : decode cX4_isSegment 14 = .ok (.ireturn, 1) := by decide +kernel
theorem dX5_init_0 : decode cX5_init 0 = .ok (.aload_n 0, 1) := by decide +kernel
theorem dX5_init_1 : decode cX5_init 1 = .ok (.invokespecial 1, 3) := by decide +kernel
theorem dX5_init_4 : decode cX5_init 4 = .ok (.aload_n 0, 1) := by decide +kernel
theorem dX5_init_5 : decode cX5_init 5 = .ok (.sipush 400, 3) := by decide +kernel
theorem dX5_init_8 : decode cX5_init 8 = .ok (.newarray .int, 2) := by decide +kernel
theorem dX5_init_10 : decode cX5_init 10 = .ok (.putfield 7, 3) := by decide +kernel
theorem dX5_init_13 : decode cX5_init 13 = .ok (.aload_n 0, 1) := by decide +kernel
theorem dX5_init_14 : decode cX5_init 14 = .ok (.iconst 5, 1) := by decide +kernel
theorem dX5_init_15 : decode cX5_init 15 = .ok (.newarray .int, 2) := by decide +kernel
theorem dX5_init_17 : decode cX5_init 17 = .ok (.putfield 13, 3) := by decide +kernel
theorem dX5_init_20 : decode cX5_init 20 = .ok (.aload_n 0, 1) := by decide +kernel
theorem dX5_init_21 : decode cX5_init 21 = .ok (.iconst 5, 1) := by decide +kernel
theorem dX5_init_22 : decode cX5_init 22 = .ok (.newarray .boolean, 2) := by decide +kernel
theorem dX5_init_24 : decode cX5_init 24 = .ok (.putfield 16, 3) := by decide +kernel
theorem dX5_init_27 : decode cX5_init 27 = .ok (.aload_n 0, 1) := by decide +kernel
theorem dX5_init_28 : decode cX5_init 28 = .ok (.iconst 5, 1) := by decide +kernel
theorem dX5_init_29 : decode cX5_init 29 = .ok (.newarray .int, 2) := by decide +kernel
theorem dX5_init_31 : decode cX5_init 31 = .ok (.putfield 20, 3) := by decide +kernel
theorem dX5_init_34 : decode cX5_init 34 = .ok (.aload_n 0, 1) := by decide +kernel
theorem dX5_init_35 : decode cX5_init 35 = .ok (.sipush 520, 3) := by decide +kernel
theorem dX5_init_38 : decode cX5_init 38 = .ok (.newarray .int, 2) := by decide +kernel
theorem dX5_init_40 : decode cX5_init 40 = .ok (.putfield 23, 3) := by decide +kernel
theorem dX5_init_43 : decode cX5_init 43 = .ok (.aload_n 0, 1) := by decide +kernel
theorem dX5_init_44 : decode cX5_init 44 = .ok (.sipush 520, 3) := by decide +kernel
theorem dX5_init_47 : decode cX5_init 47 = .ok (.newarray .int, 2) := by decide +kernel
theorem dX5_init_49 : decode cX5_init 49 = .ok (.putfield 26, 3) := by decide +kernel
theorem dX5_init_52 : decode cX5_init 52 = .ok (.aload_n 0, 1) := by decide +kernel
theorem dX5_init_53 : decode cX5_init 53 = .ok (.sipush 520, 3) := by decide +kernel
theorem dX5_init_56 : decode cX5_init 56 = .ok (.newarray .int, 2) := by decide +kernel
theorem dX5_init_58 : decode cX5_init 58 = .ok (.putfield 29, 3) := by decide +kernel
theorem dX5_init_61 : decode cX5_init 61 = .ok (.aload_n 0, 1) := by decide +kernel
theorem dX5_init_62 : decode cX5_init 62 = .ok (.sipush 3120, 3) := by decide +kernel
theorem dX5_init_65 : decode cX5_init 65 = .ok (.newarray .int, 2) := by decide +kernel
theorem dX5_init_67 : decode cX5_init 67 = .ok (.putfield 32, 3) := by decide +kernel
theorem dX5_init_70 : decode cX5_init 70 = .ok (.aload_n 0, 1) := by decide +kernel
theorem dX5_init_71 : decode cX5_init 71 = .ok (.sipush 520, 3) := by decide +kernel
theorem dX5_init_74 : decode cX5_init 74 = .ok (.newarray .int, 2) := by decide +kernel
theorem dX5_init_76 : decode cX5_init 76 = .ok (.putfield 35, 3) := by decide +kernel
theorem dX5_init_79 : decode cX5_init 79 = .ok (.aload_n 0, 1) := by decide +kernel
theorem dX5_init_80 : decode cX5_init 80 = .ok (.sipush 1010, 3) := by decide +kernel
theorem dX5_init_83 : decode cX5_init 83 = .ok (.newarray .int, 2) := by decide +kernel
theorem dX5_init_85 : decode cX5_init 85 = .ok (.putfield 38, 3) := by decide +kernel
theorem dX5_init_88 : decode cX5_init 88 = .ok (.aload_n 0, 1) := by decide +kernel
theorem dX5_init_89 : decode cX5_init 89 = .ok (.bipush 40, 2) := by decide +kernel
theorem dX5_init_91 : decode cX5_init 91 = .ok (.newarray .int, 2) := by decide +kernel
theorem dX5_init_93 : decode cX5_init 93 = .ok (.putfield 41, 3) := by decide +kernel
theorem dX5_init_96 : decode cX5_init 96 = .ok (.return_, 1) := by decide +kernel
theorem dX5_thrown_0 : decode cX5_thrown 0 = .ok (.aload_n 0, 1) := by decide +kernel
theorem dX5_thrown_1 : decode cX5_thrown 1 = .ok (.getfield 44, 3) := by decide +kernel
theorem dX5_thrown_4 : decode cX5_thrown 4 = .ok (.ireturn, 1) := by decide +kernel
theorem dX5_isSegment_0 : decode cX5_isSegment 0 = .ok (.iload_n 0, 1) := by decide +kernel
theorem dX5_isSegment_1 : decode cX5_isSegment 1 = .ok (.ifCond .lt 12, 3) := by decide +kernel
theorem dX5_isSegment_4 : decode cX5_isSegment 4 = .ok (.iload_n 0, 1) := by decide +kernel
theorem dX5_isSegment_5 : decode cX5_isSegment 5 = .ok (.iconst 5, 1) := by decide +kernel
theorem dX5_isSegment_6 : decode cX5_isSegment 6 = .ok (.if_icmp .ge 7, 3) := by decide +kernel
theorem dX5_isSegment_9 : decode cX5_isSegment 9 = .ok (.iconst 1, 1) := by decide +kernel
theorem dX5_isSegment_10 : decode cX5_isSegment 10 = .ok (.goto 4, 3) := by decide +kernel
theorem dX5_isSegment_13 : decode cX5_isSegment 13 = .ok (.iconst 0, 1) := by decide +kernel
theorem dX5_isSegment_14 : decode cX5_isSegment 14 = .ok (.ireturn, 1) := by decide +kernel
theorem dX5_code_0 : decode cX5_code 0 = .ok (.aload_n 0, 1) := by decide +kernel
theorem dX5_code_1 : decode cX5_code 1 = .ok (.iload_n 1, 1) := by decide +kernel
theorem dX5_code_2 : decode cX5_code 2 = .ok (.invokestatic 48, 3) := by decide +kernel
theorem dX5_code_5 : decode cX5_code 5 = .ok (.ifCond .ne 7, 3) := by decide +kernel
theorem dX5_code_8 : decode cX5_code 8 = .ok (.iconst 1, 1) := by decide +kernel
theorem dX5_code_9 : decode cX5_code 9 = .ok (.goto 19, 3) := by decide +kernel
theorem dX5_code_12 : decode cX5_code 12 = .ok (.aload_n 0, 1) := by decide +kernel
theorem dX5_code_13 : decode cX5_code 13 = .ok (.getfield 13, 3) := by decide +kernel
theorem dX5_code_16 : decode cX5_code 16 = .ok (.iload_n 1, 1) := by decide +kernel
theorem dX5_code_17 : decode cX5_code 17 = .ok (.iaload, 1) := by decide +kernel
theorem dX5_code_18 : decode cX5_code 18 = .ok (.bipush 80, 2) := by decide +kernel
theorem dX5_code_20 : decode cX5_code 20 = .ok (.if_icmp .ne 7, 3) := by decide +kernel
theorem dX5_code_23 : decode cX5_code 23 = .ok (.iconst 2, 1) := by decide +kernel
theorem dX5_code_24 : decode cX5_code 24 = .ok (.goto 4, 3) := by decide +kernel
theorem dX5_code_27 : decode cX5_code 27 = .ok (.iconst 0, 1) := by decide +kernel
theorem dX5_code_28 : decode cX5_code 28 = .ok (.putfield 44, 3) := by decide +kernel
theorem dX5_code_31 : decode cX5_code 31 = .ok (.aload_n 0, 1) := by decide +kernel
theorem dX5_code_32 : decode cX5_code 32 = .ok (.getfield 44, 3) := by decide +kernel
theorem dX5_code_35 : decode cX5_code 35 = .ok (.ifCond .le 5, 3) := by decide +kernel
theorem dX5_code_38 : decode cX5_code 38 = .ok (.iconst 0, 1) := by decide +kernel
theorem dX5_code_39 : decode cX5_code 39 = .ok (.ireturn, 1) := by decide +kernel
theorem dX5_code_40 : decode cX5_code 40 = .ok (.aload_n 0, 1) := by decide +kernel
theorem dX5_code_41 : decode cX5_code 41 = .ok (.getfield 7, 3) := by decide +kernel
theorem dX5_code_44 : decode cX5_code 44 = .ok (.bipush 80, 2) := by decide +kernel
theorem dX5_code_46 : decode cX5_code 46 = .ok (.iload_n 1, 1) := by decide +kernel
theorem dX5_code_47 : decode cX5_code 47 = .ok (.imul, 1) := by decide +kernel
theorem dX5_code_48 : decode cX5_code 48 = .ok (.aload_n 0, 1) := by decide +kernel
theorem dX5_code_49 : decode cX5_code 49 = .ok (.getfield 13, 3) := by decide +kernel
theorem dX5_code_52 : decode cX5_code 52 = .ok (.iload_n 1, 1) := by decide +kernel
theorem dX5_code_53 : decode cX5_code 53 = .ok (.iaload, 1) := by decide +kernel
theorem dX5_code_54 : decode cX5_code 54 = .ok (.iadd, 1) := by decide +kernel
theorem dX5_code_55 : decode cX5_code 55 = .ok (.iload_n 2, 1) := by decide +kernel
theorem dX5_code_56 : decode cX5_code 56 = .ok (.iastore, 1) := by decide +kernel
theorem dX5_code_57 : decode cX5_code 57 = .ok (.aload_n 0, 1) := by decide +kernel
theorem dX5_code_58 : decode cX5_code 58 = .ok (.getfield 13, 3) := by decide +kernel
theorem dX5_code_61 : decode cX5_code 61 = .ok (.iload_n 1, 1) := by decide +kernel
theorem dX5_code_62 : decode cX5_code 62 = .ok (.dup2, 1) := by decide +kernel
theorem dX5_code_63 : decode cX5_code 63 = .ok (.iaload, 1) := by decide +kernel
theorem dX5_code_64 : decode cX5_code 64 = .ok (.iconst 1, 1) := by decide +kernel
theorem dX5_code_65 : decode cX5_code 65 = .ok (.iadd, 1) := by decide +kernel
theorem dX5_code_66 : decode cX5_code 66 = .ok (.iastore, 1) := by decide +kernel
theorem dX5_code_67 : decode cX5_code 67 = .ok (.aload_n 0, 1) := by decide +kernel
theorem dX5_code_68 : decode cX5_code 68 = .ok (.iconst 0, 1) := by decide +kernel
theorem dX5_code_69 : decode cX5_code 69 = .ok (.putfield 52, 3) := by decide +kernel
theorem dX5_code_72 : decode cX5_code 72 = .ok (.aload_n 0, 1) := by decide +kernel
theorem dX5_code_73 : decode cX5_code 73 = .ok (.getfield 13, 3) := by decide +kernel
theorem dX5_code_76 : decode cX5_code 76 = .ok (.iload_n 1, 1) := by decide +kernel
theorem dX5_code_77 : decode cX5_code 77 = .ok (.iaload, 1) := by decide +kernel
theorem dX5_code_78 : decode cX5_code 78 = .ok (.ireturn, 1) := by decide +kernel
theorem dX5_clear_0 : decode cX5_clear 0 = .ok (.aload_n 0, 1) := by decide +kernel
theorem dX5_clear_1 : decode cX5_clear 1 = .ok (.iload_n 1, 1) := by decide +kernel
theorem dX5_clear_2 : decode cX5_clear 2 = .ok (.invokestatic 48, 3) := by decide +kernel
theorem dX5_clear_5 : decode cX5_clear 5 = .ok (.ifCond .eq 7, 3) := by decide +kernel
theorem dX5_clear_8 : decode cX5_clear 8 = .ok (.iconst 0, 1) := by decide +kernel
theorem dX5_clear_9 : decode cX5_clear 9 = .ok (.goto 4, 3) := by decide +kernel
theorem dX5_clear_12 : decode cX5_clear 12 = .ok (.iconst 1, 1) := by decide +kernel
theorem dX5_clear_13 : decode cX5_clear 13 = .ok (.putfield 44, 3) := by decide +kernel
theorem dX5_clear_16 : decode cX5_clear 16 = .ok (.aload_n 0, 1) := by decide +kernel
theorem dX5_clear_17 : decode cX5_clear 17 = .ok (.getfield 44, 3) := by decide +kernel
theorem dX5_clear_20 : decode cX5_clear 20 = .ok (.ifCond .le 4, 3) := by decide +kernel
theorem dX5_clear_23 : decode cX5_clear 23 = .ok (.return_, 1) := by decide +kernel
theorem dX5_clear_24 : decode cX5_clear 24 = .ok (.aload_n 0, 1) := by decide +kernel
theorem dX5_clear_25 : decode cX5_clear 25 = .ok (.getfield 13, 3) := by decide +kernel
theorem dX5_clear_28 : decode cX5_clear 28 = .ok (.iload_n 1, 1) := by decide +kernel
theorem dX5_clear_29 : decode cX5_clear 29 = .ok (.iconst 0, 1) := by decide +kernel
theorem dX5_clear_30 : decode cX5_clear 30 = .ok (.iastore, 1) := by decide +kernel
theorem dX5_clear_31 : decode cX5_clear 31 = .ok (.aload_n 0, 1) := by decide +kernel
theorem dX5_clear_32 : decode cX5_clear 32 = .ok (.iconst 0, 1) := by decide +kernel
theorem dX5_clear_33 : decode cX5_clear 33 = .ok (.putfield 52, 3) := by decide +kernel
theorem dX5_clear_36 : decode cX5_clear 36 = .ok (.return_, 1) := by decide +kernel
theorem dX5_procedures_0 : decode cX5_procedures 0 = .ok (.iload_n 1, 1) := by decide +kernel
theorem dX5_procedures_1 : decode cX5_procedures 1 = .ok (.invokestatic 48, 3) := by decide +kernel
theorem dX5_procedures_4 : decode cX5_procedures 4 = .ok (.ifCond .eq 12, 3) := by decide +kernel
theorem dX5_procedures_7 : decode cX5_procedures 7 = .ok (.aload_n 0, 1) := by decide +kernel
theorem dX5_procedures_8 : decode cX5_procedures 8 = .ok (.getfield 13, 3) := by decide +kernel
theorem dX5_procedures_11 : decode cX5_procedures 11 = .ok (.iload_n 1, 1) := by decide +kernel
theorem dX5_procedures_12 : decode cX5_procedures 12 = .ok (.iaload, 1) := by decide +kernel
theorem dX5_procedures_13 : decode cX5_procedures 13 = .ok (.ifCond .ne 5, 3) := by decide +kernel
theorem dX5_procedures_16 : decode cX5_procedures 16 = .ok (.iconst 0, 1) := by decide +kernel
theorem dX5_procedures_17 : decode cX5_procedures 17 = .ok (.ireturn, 1) := by decide +kernel
theorem dX5_procedures_18 : decode cX5_procedures 18 = .ok (.aload_n 0, 1) := by decide +kernel
theorem dX5_procedures_19 : decode cX5_procedures 19 = .ok (.getfield 7, 3) := by decide +kernel
theorem dX5_procedures_22 : decode cX5_procedures 22 = .ok (.bipush 80, 2) := by decide +kernel
theorem dX5_procedures_24 : decode cX5_procedures 24 = .ok (.iload_n 1, 1) := by decide +kernel
theorem dX5_procedures_25 : decode cX5_procedures 25 = .ok (.imul, 1) := by decide +kernel
theorem dX5_procedures_26 : decode cX5_procedures 26 = .ok (.iaload, 1) := by decide +kernel
theorem dX5_procedures_27 : decode cX5_procedures 27 = .ok (.istore_n 2, 1) := by decide +kernel
theorem dX5_procedures_28 : decode cX5_procedures 28 = .ok (.iload_n 2, 1) := by decide +kernel
theorem dX5_procedures_29 : decode cX5_procedures 29 = .ok (.iconst 1, 1) := by decide +kernel
theorem dX5_procedures_30 : decode cX5_procedures 30 = .ok (.if_icmp .lt 22, 3) := by decide +kernel
theorem dX5_procedures_33 : decode cX5_procedures 33 = .ok (.iload_n 2, 1) := by decide +kernel
theorem dX5_procedures_34 : decode cX5_procedures 34 = .ok (.iconst 4, 1) := by decide +kernel
theorem dX5_procedures_35 : decode cX5_procedures 35 = .ok (.if_icmp .gt 17, 3) := by decide +kernel
theorem dX5_procedures_38 : decode cX5_procedures 38 = .ok (.iload_n 2, 1) := by decide +kernel
theorem dX5_procedures_39 : decode cX5_procedures 39 = .ok (.aload_n 0, 1) := by decide +kernel
theorem dX5_procedures_40 : decode cX5_procedures 40 = .ok (.getfield 13, 3) := by decide +kernel
theorem dX5_procedures_43 : decode cX5_procedures 43 = .ok (.iload_n 1, 1) := by decide +kernel
theorem dX5_procedures_44 : decode cX5_procedures 44 = .ok (.iaload, 1) := by decide +kernel
theorem dX5_procedures_45 : decode cX5_procedures 45 = .ok (.if_icmp .ge 7, 3) := by decide +kernel
theorem dX5_procedures_48 : decode cX5_procedures 48 = .ok (.iconst 1, 1) := by decide +kernel
theorem dX5_procedures_49 : decode cX5_procedures 49 = .ok (.goto 4, 3) := by decide +kernel
theorem dX5_procedures_52 : decode cX5_procedures 52 = .ok (.iconst 0, 1) := by decide +kernel
theorem dX5_procedures_53 : decode cX5_procedures 53 = .ok (.istore_n 3, 1) := by decide +kernel
theorem dX5_procedures_54 : decode cX5_procedures 54 = .ok (.iconst 1, 1) := by decide +kernel
theorem dX5_procedures_55 : decode cX5_procedures 55 = .ok (.istore 4, 2) := by decide +kernel
theorem dX5_procedures_57 : decode cX5_procedures 57 = .ok (.iload 4, 2) := by decide +kernel
theorem dX5_procedures_59 : decode cX5_procedures 59 = .ok (.iload_n 2, 1) := by decide +kernel
theorem dX5_procedures_60 : decode cX5_procedures 60 = .ok (.if_icmp .gt 54, 3) := by decide +kernel
theorem dX5_procedures_63 : decode cX5_procedures 63 = .ok (.iload_n 3, 1) := by decide +kernel
theorem dX5_procedures_64 : decode cX5_procedures 64 = .ok (.ifCond .eq 50, 3) := by decide +kernel
theorem dX5_procedures_67 : decode cX5_procedures 67 = .ok (.aload_n 0, 1) := by decide +kernel
theorem dX5_procedures_68 : decode cX5_procedures 68 = .ok (.getfield 7, 3) := by decide +kernel
theorem dX5_procedures_71 : decode cX5_procedures 71 = .ok (.bipush 80, 2) := by decide +kernel
theorem dX5_procedures_73 : decode cX5_procedures 73 = .ok (.iload_n 1, 1) := by decide +kernel
theorem dX5_procedures_74 : decode cX5_procedures 74 = .ok (.imul, 1) := by decide +kernel
theorem dX5_procedures_75 : decode cX5_procedures 75 = .ok (.iload 4, 2) := by decide +kernel
theorem dX5_procedures_77 : decode cX5_procedures 77 = .ok (.iadd, 1) := by decide +kernel
theorem dX5_procedures_78 : decode cX5_procedures 78 = .ok (.iaload, 1) := by decide +kernel
theorem dX5_procedures_79 : decode cX5_procedures 79 = .ok (.sipush 255, 3) := by decide +kernel
theorem dX5_procedures_82 : decode cX5_procedures 82 = .ok (.iand, 1) := by decide +kernel
theorem dX5_procedures_83 : decode cX5_procedures 83 = .ok (.istore 5, 2) := by decide +kernel
theorem dX5_procedures_85 : decode cX5_procedures 85 = .ok (.iload 5, 2) := by decide +kernel
theorem dX5_procedures_87 : decode cX5_procedures 87 = .ok (.iload_n 2, 1) := by decide +kernel
theorem dX5_procedures_88 : decode cX5_procedures 88 = .ok (.if_icmp .le 18, 3) := by decide +kernel
theorem dX5_procedures_91 : decode cX5_procedures 91 = .ok (.iload 5, 2) := by decide +kernel
theorem dX5_procedures_93 : decode cX5_procedures 93 = .ok (.aload_n 0, 1) := by decide +kernel
theorem dX5_procedures_94 : decode cX5_procedures 94 = .ok (.getfield 13, 3) := by decide +kernel
theorem dX5_procedures_97 : decode cX5_procedures 97 = .ok (.iload_n 1, 1) := by decide +kernel
theorem dX5_procedures_98 : decode cX5_procedures 98 = .ok (.iaload, 1) := by decide +kernel
theorem dX5_procedures_99 : decode cX5_procedures 99 = .ok (.if_icmp .ge 7, 3) := by decide +kernel
theorem dX5_procedures_102 : decode cX5_procedures 102 = .ok (.iconst 1, 1) := by decide +kernel
theorem dX5_procedures_103 : decode cX5_procedures 103 = .ok (.goto 4, 3) := by decide +kernel
theorem dX5_procedures_106 : decode cX5_procedures 106 = .ok (.iconst 0, 1) := by decide +kernel
theorem dX5_procedures_107 : decode cX5_procedures 107 = .ok (.istore_n 3, 1) := by decide +kernel
theorem dX5_procedures_108 : decode cX5_procedures 108 = .ok (.iinc 4 1, 3) := by decide +kernel
theorem dX5_procedures_111 : decode cX5_procedures 111 = .ok (.goto (-54), 3) := by decide +kernel
theorem dX5_procedures_114 : decode cX5_procedures 114 = .ok (.iload_n 3, 1) := by decide +kernel
theorem dX5_procedures_115 : decode cX5_procedures 115 = .ok (.ifCond .eq 7, 3) := by decide +kernel
theorem dX5_procedures_118 : decode cX5_procedures 118 = .ok (.iload_n 2, 1) := by decide +kernel
theorem dX5_procedures_119 : decode cX5_procedures 119 = .ok (.goto 4, 3) := by decide +kernel
theorem dX5_procedures_122 : decode cX5_procedures 122 = .ok (.iconst 0, 1) := by decide +kernel
theorem dX5_procedures_123 : decode cX5_procedures 123 = .ok (.ireturn, 1) := by decide +kernel
theorem dX5_good_0 : decode cX5_good 0 = .ok (.aload_n 0, 1) := by decide +kernel
theorem dX5_good_1 : decode cX5_good 1 = .ok (.iload_n 1, 1) := by decide +kernel
theorem dX5_good_2 : decode cX5_good 2 = .ok (.invokestatic 48, 3) := by decide +kernel
theorem dX5_good_5 : decode cX5_good 5 = .ok (.ifCond .eq 7, 3) := by decide +kernel
theorem dX5_good_8 : decode cX5_good 8 = .ok (.iconst 0, 1) := by decide +kernel
theorem dX5_good_9 : decode cX5_good 9 = .ok (.goto 4, 3) := by decide +kernel
end
section
theorem dX5_good_12 : decode cX5_good 12 = .ok (.iconst 1, 1) := by decide +kernel
theorem dX5_good_13 : decode cX5_good 13 = .ok (.putfield 44, 3) := by decide +kernel
theorem dX5_good_16 : decode cX5_good 16 = .ok (.aload_n 0, 1) := by decide +kernel
theorem dX5_good_17 : decode cX5_good 17 = .ok (.getfield 44, 3) := by decide +kernel
theorem dX5_good_20 : decode cX5_good 20 = .ok (.ifCond .le 7, 3) := by decide +kernel
theorem dX5_good_23 : decode cX5_good 23 = .ok (.iconst 0, 1) := by decide +kernel
theorem dX5_good_24 : decode cX5_good 24 = .ok (.goto 8, 3) := by decide +kernel
theorem dX5_good_27 : decode cX5_good 27 = .ok (.aload_n 0, 1) := by decide +kernel
theorem dX5_good_28 : decode cX5_good 28 = .ok (.iload_n 1, 1) := by decide +kernel
theorem dX5_good_29 : decode cX5_good 29 = .ok (.invokevirtual 55, 3) := by decide +kernel
theorem dX5_good_32 : decode cX5_good 32 = .ok (.ireturn, 1) := by decide +kernel
theorem dX5_held_0 : decode cX5_held 0 = .ok (.iconst 4, 1) := by decide +kernel
theorem dX5_held_1 : decode cX5_held 1 = .ok (.aload_n 0, 1) := by decide +kernel
theorem dX5_held_2 : decode cX5_held 2 = .ok (.getfield 59, 3) := by decide +kernel
theorem dX5_held_5 : decode cX5_held 5 = .ok (.imul, 1) := by decide +kernel
theorem dX5_held_6 : decode cX5_held 6 = .ok (.istore_n 1, 1) := by decide +kernel
theorem dX5_held_7 : decode cX5_held 7 = .ok (.iconst 0, 1) := by decide +kernel
theorem dX5_held_8 : decode cX5_held 8 = .ok (.istore_n 2, 1) := by decide +kernel
theorem dX5_held_9 : decode cX5_held 9 = .ok (.iload_n 2, 1) := by decide +kernel
theorem dX5_held_10 : decode cX5_held 10 = .ok (.aload_n 0, 1) := by decide +kernel
theorem dX5_held_11 : decode cX5_held 11 = .ok (.getfield 62, 3) := by decide +kernel
theorem dX5_held_14 : decode cX5_held 14 = .ok (.if_icmp .ge 23, 3) := by decide +kernel
theorem dX5_held_17 : decode cX5_held 17 = .ok (.iload_n 1, 1) := by decide +kernel
theorem dX5_held_18 : decode cX5_held 18 = .ok (.bipush 8, 2) := by decide +kernel
theorem dX5_held_20 : decode cX5_held 20 = .ok (.iconst 4, 1) := by decide +kernel
theorem dX5_held_21 : decode cX5_held 21 = .ok (.aload_n 0, 1) := by decide +kernel
theorem dX5_held_22 : decode cX5_held 22 = .ok (.getfield 29, 3) := by decide +kernel
theorem dX5_held_25 : decode cX5_held 25 = .ok (.iload_n 2, 1) := by decide +kernel
theorem dX5_held_26 : decode cX5_held 26 = .ok (.iaload, 1) := by decide +kernel
theorem dX5_held_27 : decode cX5_held 27 = .ok (.imul, 1) := by decide +kernel
theorem dX5_held_28 : decode cX5_held 28 = .ok (.iadd, 1) := by decide +kernel
theorem dX5_held_29 : decode cX5_held 29 = .ok (.iadd, 1) := by decide +kernel
theorem dX5_held_30 : decode cX5_held 30 = .ok (.istore_n 1, 1) := by decide +kernel
theorem dX5_held_31 : decode cX5_held 31 = .ok (.iinc 2 1, 3) := by decide +kernel
theorem dX5_held_34 : decode cX5_held 34 = .ok (.goto (-25), 3) := by decide +kernel
theorem dX5_held_37 : decode cX5_held 37 = .ok (.iconst 0, 1) := by decide +kernel
theorem dX5_held_38 : decode cX5_held 38 = .ok (.istore_n 2, 1) := by decide +kernel
theorem dX5_held_39 : decode cX5_held 39 = .ok (.iload_n 2, 1) := by decide +kernel
theorem dX5_held_40 : decode cX5_held 40 = .ok (.iconst 5, 1) := by decide +kernel
theorem dX5_held_41 : decode cX5_held 41 = .ok (.if_icmp .ge 31, 3) := by decide +kernel
theorem dX5_held_44 : decode cX5_held 44 = .ok (.iload_n 1, 1) := by decide +kernel
theorem dX5_held_45 : decode cX5_held 45 = .ok (.aload_n 0, 1) := by decide +kernel
theorem dX5_held_46 : decode cX5_held 46 = .ok (.getfield 16, 3) := by decide +kernel
theorem dX5_held_49 : decode cX5_held 49 = .ok (.iload_n 2, 1) := by decide +kernel
theorem dX5_held_50 : decode cX5_held 50 = .ok (.baload, 1) := by decide +kernel
theorem dX5_held_51 : decode cX5_held 51 = .ok (.ifCond .eq 12, 3) := by decide +kernel
theorem dX5_held_54 : decode cX5_held 54 = .ok (.aload_n 0, 1) := by decide +kernel
theorem dX5_held_55 : decode cX5_held 55 = .ok (.getfield 13, 3) := by decide +kernel
theorem dX5_held_58 : decode cX5_held 58 = .ok (.iload_n 2, 1) := by decide +kernel
theorem dX5_held_59 : decode cX5_held 59 = .ok (.iaload, 1) := by decide +kernel
theorem dX5_held_60 : decode cX5_held 60 = .ok (.goto 4, 3) := by decide +kernel
theorem dX5_held_63 : decode cX5_held 63 = .ok (.iconst 0, 1) := by decide +kernel
theorem dX5_held_64 : decode cX5_held 64 = .ok (.iadd, 1) := by decide +kernel
theorem dX5_held_65 : decode cX5_held 65 = .ok (.istore_n 1, 1) := by decide +kernel
theorem dX5_held_66 : decode cX5_held 66 = .ok (.iinc 2 1, 3) := by decide +kernel
theorem dX5_held_69 : decode cX5_held 69 = .ok (.goto (-30), 3) := by decide +kernel
theorem dX5_held_72 : decode cX5_held 72 = .ok (.iload_n 1, 1) := by decide +kernel
theorem dX5_held_73 : decode cX5_held 73 = .ok (.ireturn, 1) := by decide +kernel
theorem dX5_isActive_0 : decode cX5_isActive 0 = .ok (.iconst 0, 1) := by decide +kernel
theorem dX5_isActive_1 : decode cX5_isActive 1 = .ok (.istore_n 2, 1) := by decide +kernel
theorem dX5_isActive_2 : decode cX5_isActive 2 = .ok (.iconst 0, 1) := by decide +kernel
theorem dX5_isActive_3 : decode cX5_isActive 3 = .ok (.istore_n 3, 1) := by decide +kernel
theorem dX5_isActive_4 : decode cX5_isActive 4 = .ok (.iload_n 3, 1) := by decide +kernel
theorem dX5_isActive_5 : decode cX5_isActive 5 = .ok (.aload_n 0, 1) := by decide +kernel
theorem dX5_isActive_6 : decode cX5_isActive 6 = .ok (.getfield 62, 3) := by decide +kernel
theorem dX5_isActive_9 : decode cX5_isActive 9 = .ok (.if_icmp .ge 29, 3) := by decide +kernel
theorem dX5_isActive_12 : decode cX5_isActive 12 = .ok (.iload_n 2, 1) := by decide +kernel
theorem dX5_isActive_13 : decode cX5_isActive 13 = .ok (.ifCond .ne 13, 3) := by decide +kernel
theorem dX5_isActive_16 : decode cX5_isActive 16 = .ok (.aload_n 0, 1) := by decide +kernel
theorem dX5_isActive_17 : decode cX5_isActive 17 = .ok (.getfield 23, 3) := by decide +kernel
theorem dX5_isActive_20 : decode cX5_isActive 20 = .ok (.iload_n 3, 1) := by decide +kernel
theorem dX5_isActive_21 : decode cX5_isActive 21 = .ok (.iaload, 1) := by decide +kernel
theorem dX5_isActive_22 : decode cX5_isActive 22 = .ok (.iload_n 1, 1) := by decide +kernel
theorem dX5_isActive_23 : decode cX5_isActive 23 = .ok (.if_icmp .ne 7, 3) := by decide +kernel
theorem dX5_isActive_26 : decode cX5_isActive 26 = .ok (.iconst 1, 1) := by decide +kernel
theorem dX5_isActive_27 : decode cX5_isActive 27 = .ok (.goto 4, 3) := by decide +kernel
theorem dX5_isActive_30 : decode cX5_isActive 30 = .ok (.iconst 0, 1) := by decide +kernel
theorem dX5_isActive_31 : decode cX5_isActive 31 = .ok (.istore_n 2, 1) := by decide +kernel
theorem dX5_isActive_32 : decode cX5_isActive 32 = .ok (.iinc 3 1, 3) := by decide +kernel
theorem dX5_isActive_35 : decode cX5_isActive 35 = .ok (.goto (-31), 3) := by decide +kernel
theorem dX5_isActive_38 : decode cX5_isActive 38 = .ok (.iload_n 2, 1) := by decide +kernel
theorem dX5_isActive_39 : decode cX5_isActive 39 = .ok (.ireturn, 1) := by decide +kernel
theorem dX5_room_0 : decode cX5_room 0 = .ok (.aload_n 0, 1) := by decide +kernel
theorem dX5_room_1 : decode cX5_room 1 = .ok (.invokevirtual 65, 3) := by decide +kernel
theorem dX5_room_4 : decode cX5_room 4 = .ok (.iload_n 1, 1) := by decide +kernel
theorem dX5_room_5 : decode cX5_room 5 = .ok (.iadd, 1) := by decide +kernel
theorem dX5_room_6 : decode cX5_room 6 = .ok (.aload_n 0, 1) := by decide +kernel
theorem dX5_room_7 : decode cX5_room 7 = .ok (.getfield 69, 3) := by decide +kernel
theorem dX5_room_10 : decode cX5_room 10 = .ok (.if_icmp .le 111, 3) := by decide +kernel
theorem dX5_room_13 : decode cX5_room 13 = .ok (.iconst (-1), 1) := by decide +kernel
theorem dX5_room_14 : decode cX5_room 14 = .ok (.istore_n 3, 1) := by decide +kernel
theorem dX5_room_15 : decode cX5_room 15 = .ok (.iconst 0, 1) := by decide +kernel
theorem dX5_room_16 : decode cX5_room 16 = .ok (.istore 4, 2) := by decide +kernel
theorem dX5_room_18 : decode cX5_room 18 = .ok (.iload 4, 2) := by decide +kernel
theorem dX5_room_20 : decode cX5_room 20 = .ok (.iconst 5, 1) := by decide +kernel
theorem dX5_room_21 : decode cX5_room 21 = .ok (.if_icmp .ge 69, 3) := by decide +kernel
theorem dX5_room_24 : decode cX5_room 24 = .ok (.aload_n 0, 1) := by decide +kernel
theorem dX5_room_25 : decode cX5_room 25 = .ok (.getfield 16, 3) := by decide +kernel
theorem dX5_room_28 : decode cX5_room 28 = .ok (.iload 4, 2) := by decide +kernel
theorem dX5_room_30 : decode cX5_room 30 = .ok (.baload, 1) := by decide +kernel
theorem dX5_room_31 : decode cX5_room 31 = .ok (.ifCond .eq 22, 3) := by decide +kernel
theorem dX5_room_34 : decode cX5_room 34 = .ok (.iload 4, 2) := by decide +kernel
theorem dX5_room_36 : decode cX5_room 36 = .ok (.iload_n 2, 1) := by decide +kernel
theorem dX5_room_37 : decode cX5_room 37 = .ok (.if_icmp .eq 16, 3) := by decide +kernel
theorem dX5_room_40 : decode cX5_room 40 = .ok (.aload_n 0, 1) := by decide +kernel
theorem dX5_room_41 : decode cX5_room 41 = .ok (.iload 4, 2) := by decide +kernel
theorem dX5_room_43 : decode cX5_room 43 = .ok (.invokevirtual 72, 3) := by decide +kernel
theorem dX5_room_46 : decode cX5_room 46 = .ok (.ifCond .ne 7, 3) := by decide +kernel
theorem dX5_room_49 : decode cX5_room 49 = .ok (.iconst 1, 1) := by decide +kernel
theorem dX5_room_50 : decode cX5_room 50 = .ok (.goto 4, 3) := by decide +kernel
theorem dX5_room_53 : decode cX5_room 53 = .ok (.iconst 0, 1) := by decide +kernel
theorem dX5_room_54 : decode cX5_room 54 = .ok (.istore 5, 2) := by decide +kernel
theorem dX5_room_56 : decode cX5_room 56 = .ok (.iload 5, 2) := by decide +kernel
theorem dX5_room_58 : decode cX5_room 58 = .ok (.ifCond .eq 26, 3) := by decide +kernel
theorem dX5_room_61 : decode cX5_room 61 = .ok (.iload_n 3, 1) := by decide +kernel
theorem dX5_room_62 : decode cX5_room 62 = .ok (.ifCond .lt 19, 3) := by decide +kernel
theorem dX5_room_65 : decode cX5_room 65 = .ok (.aload_n 0, 1) := by decide +kernel
theorem dX5_room_66 : decode cX5_room 66 = .ok (.getfield 20, 3) := by decide +kernel
theorem dX5_room_69 : decode cX5_room 69 = .ok (.iload 4, 2) := by decide +kernel
theorem dX5_room_71 : decode cX5_room 71 = .ok (.iaload, 1) := by decide +kernel
theorem dX5_room_72 : decode cX5_room 72 = .ok (.aload_n 0, 1) := by decide +kernel
theorem dX5_room_73 : decode cX5_room 73 = .ok (.getfield 20, 3) := by decide +kernel
theorem dX5_room_76 : decode cX5_room 76 = .ok (.iload_n 3, 1) := by decide +kernel
theorem dX5_room_77 : decode cX5_room 77 = .ok (.iaload, 1) := by decide +kernel
theorem dX5_room_78 : decode cX5_room 78 = .ok (.if_icmp .ge 6, 3) := by decide +kernel
theorem dX5_room_81 : decode cX5_room 81 = .ok (.iload 4, 2) := by decide +kernel
theorem dX5_room_83 : decode cX5_room 83 = .ok (.istore_n 3, 1) := by decide +kernel
theorem dX5_room_84 : decode cX5_room 84 = .ok (.iinc 4 1, 3) := by decide +kernel
theorem dX5_room_87 : decode cX5_room 87 = .ok (.goto (-69), 3) := by decide +kernel
theorem dX5_room_90 : decode cX5_room 90 = .ok (.iload_n 3, 1) := by decide +kernel
theorem dX5_room_91 : decode cX5_room 91 = .ok (.ifCond .ge 10, 3) := by decide +kernel
theorem dX5_room_94 : decode cX5_room 94 = .ok (.aload_n 0, 1) := by decide +kernel
theorem dX5_room_95 : decode cX5_room 95 = .ok (.iconst 4, 1) := by decide +kernel
theorem dX5_room_96 : decode cX5_room 96 = .ok (.putfield 52, 3) := by decide +kernel
theorem dX5_room_99 : decode cX5_room 99 = .ok (.iconst 0, 1) := by decide +kernel
theorem dX5_room_100 : decode cX5_room 100 = .ok (.ireturn, 1) := by decide +kernel
theorem dX5_room_101 : decode cX5_room 101 = .ok (.aload_n 0, 1) := by decide +kernel
theorem dX5_room_102 : decode cX5_room 102 = .ok (.getfield 16, 3) := by decide +kernel
theorem dX5_room_105 : decode cX5_room 105 = .ok (.iload_n 3, 1) := by decide +kernel
theorem dX5_room_106 : decode cX5_room 106 = .ok (.iconst 0, 1) := by decide +kernel
theorem dX5_room_107 : decode cX5_room 107 = .ok (.bastore, 1) := by decide +kernel
theorem dX5_room_108 : decode cX5_room 108 = .ok (.aload_n 0, 1) := by decide +kernel
theorem dX5_room_109 : decode cX5_room 109 = .ok (.dup, 1) := by decide +kernel
theorem dX5_room_110 : decode cX5_room 110 = .ok (.getfield 75, 3) := by decide +kernel
theorem dX5_room_113 : decode cX5_room 113 = .ok (.iconst 1, 1) := by decide +kernel
theorem dX5_room_114 : decode cX5_room 114 = .ok (.iadd, 1) := by decide +kernel
theorem dX5_room_115 : decode cX5_room 115 = .ok (.putfield 75, 3) := by decide +kernel
theorem dX5_room_118 : decode cX5_room 118 = .ok (.goto (-118), 3) := by decide +kernel
theorem dX5_room_121 : decode cX5_room 121 = .ok (.iconst 1, 1) := by decide +kernel
theorem dX5_room_122 : decode cX5_room 122 = .ok (.ireturn, 1) := by decide +kernel
theorem dX5_grown_0 : decode cX5_grown 0 = .ok (.aload_n 0, 1) := by decide +kernel
theorem dX5_grown_1 : decode cX5_grown 1 = .ok (.invokevirtual 65, 3) := by decide +kernel
theorem dX5_grown_4 : decode cX5_grown 4 = .ok (.istore_n 1, 1) := by decide +kernel
theorem dX5_grown_5 : decode cX5_grown 5 = .ok (.aload_n 0, 1) := by decide +kernel
theorem dX5_grown_6 : decode cX5_grown 6 = .ok (.iload_n 1, 1) := by decide +kernel
theorem dX5_grown_7 : decode cX5_grown 7 = .ok (.aload_n 0, 1) := by decide +kernel
theorem dX5_grown_8 : decode cX5_grown 8 = .ok (.getfield 78, 3) := by decide +kernel
theorem dX5_grown_11 : decode cX5_grown 11 = .ok (.if_icmp .le 7, 3) := by decide +kernel
theorem dX5_grown_14 : decode cX5_grown 14 = .ok (.iload_n 1, 1) := by decide +kernel
theorem dX5_grown_15 : decode cX5_grown 15 = .ok (.goto 7, 3) := by decide +kernel
theorem dX5_grown_18 : decode cX5_grown 18 = .ok (.aload_n 0, 1) := by decide +kernel
theorem dX5_grown_19 : decode cX5_grown 19 = .ok (.getfield 78, 3) := by decide +kernel
theorem dX5_grown_22 : decode cX5_grown 22 = .ok (.putfield 78, 3) := by decide +kernel
theorem dX5_grown_25 : decode cX5_grown 25 = .ok (.return_, 1) := by decide +kernel
theorem dX5_push_0 : decode cX5_push 0 = .ok (.aload_n 0, 1) := by decide +kernel
theorem dX5_push_1 : decode cX5_push 1 = .ok (.iconst 4, 1) := by decide +kernel
theorem dX5_push_2 : decode cX5_push 2 = .ok (.iconst (-1), 1) := by decide +kernel
theorem dX5_push_3 : decode cX5_push 3 = .ok (.invokevirtual 81, 3) := by decide +kernel
theorem dX5_push_6 : decode cX5_push 6 = .ok (.ifCond .ne 5, 3) := by decide +kernel
theorem dX5_push_9 : decode cX5_push 9 = .ok (.iconst 0, 1) := by decide +kernel
theorem dX5_push_10 : decode cX5_push 10 = .ok (.ireturn, 1) := by decide +kernel
theorem dX5_push_11 : decode cX5_push 11 = .ok (.aload_n 0, 1) := by decide +kernel
theorem dX5_push_12 : decode cX5_push 12 = .ok (.getfield 38, 3) := by decide +kernel
theorem dX5_push_15 : decode cX5_push 15 = .ok (.aload_n 0, 1) := by decide +kernel
theorem dX5_push_16 : decode cX5_push 16 = .ok (.getfield 59, 3) := by decide +kernel
theorem dX5_push_19 : decode cX5_push 19 = .ok (.iload_n 1, 1) := by decide +kernel
theorem dX5_push_20 : decode cX5_push 20 = .ok (.iastore, 1) := by decide +kernel
theorem dX5_push_21 : decode cX5_push 21 = .ok (.aload_n 0, 1) := by decide +kernel
theorem dX5_push_22 : decode cX5_push 22 = .ok (.dup, 1) := by decide +kernel
theorem dX5_push_23 : decode cX5_push 23 = .ok (.getfield 59, 3) := by decide +kernel
theorem dX5_push_26 : decode cX5_push 26 = .ok (.iconst 1, 1) := by decide +kernel
theorem dX5_push_27 : decode cX5_push 27 = .ok (.iadd, 1) := by decide +kernel
theorem dX5_push_28 : decode cX5_push 28 = .ok (.putfield 59, 3) := by decide +kernel
theorem dX5_push_31 : decode cX5_push 31 = .ok (.aload_n 0, 1) := by decide +kernel
theorem dX5_push_32 : decode cX5_push 32 = .ok (.invokevirtual 85, 3) := by decide +kernel
theorem dX5_push_35 : decode cX5_push 35 = .ok (.iconst 1, 1) := by decide +kernel
theorem dX5_push_36 : decode cX5_push 36 = .ok (.ireturn, 1) := by decide +kernel
theorem dX5_call_0 : decode cX5_call 0 = .ok (.iload_n 2, 1) := by decide +kernel
theorem dX5_call_1 : decode cX5_call 1 = .ok (.ifCond .lt 32, 3) := by decide +kernel
theorem dX5_call_4 : decode cX5_call 4 = .ok (.iload_n 2, 1) := by decide +kernel
theorem dX5_call_5 : decode cX5_call 5 = .ok (.aload_n 0, 1) := by decide +kernel
theorem dX5_call_6 : decode cX5_call 6 = .ok (.iload_n 1, 1) := by decide +kernel
theorem dX5_call_7 : decode cX5_call 7 = .ok (.invokevirtual 55, 3) := by decide +kernel
theorem dX5_call_10 : decode cX5_call 10 = .ok (.if_icmp .ge 23, 3) := by decide +kernel
theorem dX5_call_13 : decode cX5_call 13 = .ok (.aload_n 0, 1) := by decide +kernel
theorem dX5_call_14 : decode cX5_call 14 = .ok (.getfield 7, 3) := by decide +kernel
theorem dX5_call_17 : decode cX5_call 17 = .ok (.bipush 80, 2) := by decide +kernel
theorem dX5_call_19 : decode cX5_call 19 = .ok (.iload_n 1, 1) := by decide +kernel
theorem dX5_call_20 : decode cX5_call 20 = .ok (.imul, 1) := by decide +kernel
theorem dX5_call_21 : decode cX5_call 21 = .ok (.iconst 1, 1) := by decide +kernel
theorem dX5_call_22 : decode cX5_call 22 = .ok (.iadd, 1) := by decide +kernel
theorem dX5_call_23 : decode cX5_call 23 = .ok (.iload_n 2, 1) := by decide +kernel
theorem dX5_call_24 : decode cX5_call 24 = .ok (.iadd, 1) := by decide +kernel
theorem dX5_call_25 : decode cX5_call 25 = .ok (.iaload, 1) := by decide +kernel
theorem dX5_call_26 : decode cX5_call 26 = .ok (.sipush 255, 3) := by decide +kernel
theorem dX5_call_29 : decode cX5_call 29 = .ok (.iand, 1) := by decide +kernel
theorem dX5_call_30 : decode cX5_call 30 = .ok (.goto 4, 3) := by decide +kernel
theorem dX5_call_33 : decode cX5_call 33 = .ok (.iconst 0, 1) := by decide +kernel
theorem dX5_call_34 : decode cX5_call 34 = .ok (.istore 4, 2) := by decide +kernel
theorem dX5_call_36 : decode cX5_call 36 = .ok (.iload 4, 2) := by decide +kernel
theorem dX5_call_38 : decode cX5_call 38 = .ok (.ifCond .le 18, 3) := by decide +kernel
theorem dX5_call_41 : decode cX5_call 41 = .ok (.aload_n 0, 1) := by decide +kernel
theorem dX5_call_42 : decode cX5_call 42 = .ok (.getfield 7, 3) := by decide +kernel
theorem dX5_call_45 : decode cX5_call 45 = .ok (.bipush 80, 2) := by decide +kernel
theorem dX5_call_47 : decode cX5_call 47 = .ok (.iload_n 1, 1) := by decide +kernel
theorem dX5_call_48 : decode cX5_call 48 = .ok (.imul, 1) := by decide +kernel
theorem dX5_call_49 : decode cX5_call 49 = .ok (.iload 4, 2) := by decide +kernel
theorem dX5_call_51 : decode cX5_call 51 = .ok (.iadd, 1) := by decide +kernel
theorem dX5_call_52 : decode cX5_call 52 = .ok (.iaload, 1) := by decide +kernel
theorem dX5_call_53 : decode cX5_call 53 = .ok (.goto 4, 3) := by decide +kernel
theorem dX5_call_56 : decode cX5_call 56 = .ok (.iconst (-1), 1) := by decide +kernel
theorem dX5_call_57 : decode cX5_call 57 = .ok (.istore 5, 2) := by decide +kernel
theorem dX5_call_59 : decode cX5_call 59 = .ok (.iload 5, 2) := by decide +kernel
theorem dX5_call_61 : decode cX5_call 61 = .ok (.ifCond .lt 10, 3) := by decide +kernel
theorem dX5_call_64 : decode cX5_call 64 = .ok (.iload 5, 2) := by decide +kernel
theorem dX5_call_66 : decode cX5_call 66 = .ok (.bipush 6, 2) := by decide +kernel
theorem dX5_call_68 : decode cX5_call 68 = .ok (.if_icmp .le 9, 3) := by decide +kernel
theorem dX5_call_71 : decode cX5_call 71 = .ok (.aload_n 0, 1) := by decide +kernel
theorem dX5_call_72 : decode cX5_call 72 = .ok (.iconst 3, 1) := by decide +kernel
theorem dX5_call_73 : decode cX5_call 73 = .ok (.putfield 52, 3) := by decide +kernel
theorem dX5_call_76 : decode cX5_call 76 = .ok (.return_, 1) := by decide +kernel
theorem dX5_call_77 : decode cX5_call 77 = .ok (.aload_n 0, 1) := by decide +kernel
theorem dX5_call_78 : decode cX5_call 78 = .ok (.dup, 1) := by decide +kernel
theorem dX5_call_79 : decode cX5_call 79 = .ok (.getfield 88, 3) := by decide +kernel
theorem dX5_call_82 : decode cX5_call 82 = .ok (.iconst 1, 1) := by decide +kernel
theorem dX5_call_83 : decode cX5_call 83 = .ok (.iadd, 1) := by decide +kernel
theorem dX5_call_84 : decode cX5_call 84 = .ok (.putfield 88, 3) := by decide +kernel
theorem dX5_call_87 : decode cX5_call 87 = .ok (.aload_n 0, 1) := by decide +kernel
theorem dX5_call_88 : decode cX5_call 88 = .ok (.getfield 16, 3) := by decide +kernel
theorem dX5_call_91 : decode cX5_call 91 = .ok (.iload_n 1, 1) := by decide +kernel
theorem dX5_call_92 : decode cX5_call 92 = .ok (.baload, 1) := by decide +kernel
theorem dX5_call_93 : decode cX5_call 93 = .ok (.ifCond .ne 39, 3) := by decide +kernel
theorem dX5_call_96 : decode cX5_call 96 = .ok (.aload_n 0, 1) := by decide +kernel
theorem dX5_call_97 : decode cX5_call 97 = .ok (.aload_n 0, 1) := by decide +kernel
theorem dX5_call_98 : decode cX5_call 98 = .ok (.getfield 13, 3) := by decide +kernel
theorem dX5_call_101 : decode cX5_call 101 = .ok (.iload_n 1, 1) := by decide +kernel
theorem dX5_call_102 : decode cX5_call 102 = .ok (.iaload, 1) := by decide +kernel
theorem dX5_call_103 : decode cX5_call 103 = .ok (.iload_n 1, 1) := by decide +kernel
theorem dX5_call_104 : decode cX5_call 104 = .ok (.invokevirtual 81, 3) := by decide +kernel
theorem dX5_call_107 : decode cX5_call 107 = .ok (.ifCond .ne 4, 3) := by decide +kernel
theorem dX5_call_110 : decode cX5_call 110 = .ok (.return_, 1) := by decide +kernel
theorem dX5_call_111 : decode cX5_call 111 = .ok (.aload_n 0, 1) := by decide +kernel
theorem dX5_call_112 : decode cX5_call 112 = .ok (.getfield 16, 3) := by decide +kernel
theorem dX5_call_115 : decode cX5_call 115 = .ok (.iload_n 1, 1) := by decide +kernel
theorem dX5_call_116 : decode cX5_call 116 = .ok (.iconst 1, 1) := by decide +kernel
theorem dX5_call_117 : decode cX5_call 117 = .ok (.bastore, 1) := by decide +kernel
theorem dX5_call_118 : decode cX5_call 118 = .ok (.aload_n 0, 1) := by decide +kernel
theorem dX5_call_119 : decode cX5_call 119 = .ok (.dup, 1) := by decide +kernel
theorem dX5_call_120 : decode cX5_call 120 = .ok (.getfield 91, 3) := by decide +kernel
theorem dX5_call_123 : decode cX5_call 123 = .ok (.iconst 1, 1) := by decide +kernel
theorem dX5_call_124 : decode cX5_call 124 = .ok (.iadd, 1) := by decide +kernel
theorem dX5_call_125 : decode cX5_call 125 = .ok (.putfield 91, 3) := by decide +kernel
theorem dX5_call_128 : decode cX5_call 128 = .ok (.aload_n 0, 1) := by decide +kernel
theorem dX5_call_129 : decode cX5_call 129 = .ok (.invokevirtual 85, 3) := by decide +kernel
theorem dX5_call_132 : decode cX5_call 132 = .ok (.aload_n 0, 1) := by decide +kernel
theorem dX5_call_133 : decode cX5_call 133 = .ok (.getfield 20, 3) := by decide +kernel
theorem dX5_call_136 : decode cX5_call 136 = .ok (.iload_n 1, 1) := by decide +kernel
theorem dX5_call_137 : decode cX5_call 137 = .ok (.aload_n 0, 1) := by decide +kernel
theorem dX5_call_138 : decode cX5_call 138 = .ok (.getfield 88, 3) := by decide +kernel
theorem dX5_call_141 : decode cX5_call 141 = .ok (.iastore, 1) := by decide +kernel
theorem dX5_call_142 : decode cX5_call 142 = .ok (.aload_n 0, 1) := by decide +kernel
theorem dX5_call_143 : decode cX5_call 143 = .ok (.bipush 8, 2) := by decide +kernel
theorem dX5_call_145 : decode cX5_call 145 = .ok (.iconst 4, 1) := by decide +kernel
theorem dX5_call_146 : decode cX5_call 146 = .ok (.iload 5, 2) := by decide +kernel
theorem dX5_call_148 : decode cX5_call 148 = .ok (.imul, 1) := by decide +kernel
theorem dX5_call_149 : decode cX5_call 149 = .ok (.iadd, 1) := by decide +kernel
theorem dX5_call_150 : decode cX5_call 150 = .ok (.iload_n 1, 1) := by decide +kernel
theorem dX5_call_151 : decode cX5_call 151 = .ok (.invokevirtual 81, 3) := by decide +kernel
theorem dX5_call_154 : decode cX5_call 154 = .ok (.ifCond .ne 4, 3) := by decide +kernel
theorem dX5_call_157 : decode cX5_call 157 = .ok (.return_, 1) := by decide +kernel
theorem dX5_call_158 : decode cX5_call 158 = .ok (.aload_n 0, 1) := by decide +kernel
theorem dX5_call_159 : decode cX5_call 159 = .ok (.getfield 23, 3) := by decide +kernel
theorem dX5_call_162 : decode cX5_call 162 = .ok (.aload_n 0, 1) := by decide +kernel
theorem dX5_call_163 : decode cX5_call 163 = .ok (.getfield 62, 3) := by decide +kernel
theorem dX5_call_166 : decode cX5_call 166 = .ok (.iload_n 1, 1) := by decide +kernel
theorem dX5_call_167 : decode cX5_call 167 = .ok (.iastore, 1) := by decide +kernel
theorem dX5_call_168 : decode cX5_call 168 = .ok (.aload_n 0, 1) := by decide +kernel
theorem dX5_call_169 : decode cX5_call 169 = .ok (.getfield 26, 3) := by decide +kernel
theorem dX5_call_172 : decode cX5_call 172 = .ok (.aload_n 0, 1) := by decide +kernel
theorem dX5_call_173 : decode cX5_call 173 = .ok (.getfield 62, 3) := by decide +kernel
theorem dX5_call_176 : decode cX5_call 176 = .ok (.iload 4, 2) := by decide +kernel
theorem dX5_call_178 : decode cX5_call 178 = .ok (.iconst 1, 1) := by decide +kernel
theorem dX5_call_179 : decode cX5_call 179 = .ok (.iadd, 1) := by decide +kernel
theorem dX5_call_180 : decode cX5_call 180 = .ok (.iastore, 1) := by decide +kernel
theorem dX5_call_181 : decode cX5_call 181 = .ok (.aload_n 0, 1) := by decide +kernel
theorem dX5_call_182 : decode cX5_call 182 = .ok (.getfield 29, 3) := by decide +kernel
theorem dX5_call_185 : decode cX5_call 185 = .ok (.aload_n 0, 1) := by decide +kernel
theorem dX5_call_186 : decode cX5_call 186 = .ok (.getfield 62, 3) := by decide +kernel
theorem dX5_call_189 : decode cX5_call 189 = .ok (.iload 5, 2) := by decide +kernel
theorem dX5_call_191 : decode cX5_call 191 = .ok (.iastore, 1) := by decide +kernel
theorem dX5_call_192 : decode cX5_call 192 = .ok (.aload_n 0, 1) := by decide +kernel
theorem dX5_call_193 : decode cX5_call 193 = .ok (.getfield 35, 3) := by decide +kernel
theorem dX5_call_196 : decode cX5_call 196 = .ok (.aload_n 0, 1) := by decide +kernel
theorem dX5_call_197 : decode cX5_call 197 = .ok (.getfield 62, 3) := by decide +kernel
theorem dX5_call_200 : decode cX5_call 200 = .ok (.aload_n 0, 1) := by decide +kernel
theorem dX5_call_201 : decode cX5_call 201 = .ok (.getfield 59, 3) := by decide +kernel
theorem dX5_call_204 : decode cX5_call 204 = .ok (.iastore, 1) := by decide +kernel
theorem dX5_call_205 : decode cX5_call 205 = .ok (.iconst 0, 1) := by decide +kernel
theorem dX5_call_206 : decode cX5_call 206 = .ok (.istore 6, 2) := by decide +kernel
theorem dX5_call_208 : decode cX5_call 208 = .ok (.iload 6, 2) := by decide +kernel
theorem dX5_call_210 : decode cX5_call 210 = .ok (.bipush 6, 2) := by decide +kernel
theorem dX5_call_212 : decode cX5_call 212 = .ok (.if_icmp .ge 39, 3) := by decide +kernel
theorem dX5_call_215 : decode cX5_call 215 = .ok (.aload_n 0, 1) := by decide +kernel
theorem dX5_call_216 : decode cX5_call 216 = .ok (.getfield 32, 3) := by decide +kernel
theorem dX5_call_219 : decode cX5_call 219 = .ok (.bipush 6, 2) := by decide +kernel
theorem dX5_call_221 : decode cX5_call 221 = .ok (.aload_n 0, 1) := by decide +kernel
theorem dX5_call_222 : decode cX5_call 222 = .ok (.getfield 62, 3) := by decide +kernel
theorem dX5_call_225 : decode cX5_call 225 = .ok (.imul, 1) := by decide +kernel
theorem dX5_call_226 : decode cX5_call 226 = .ok (.iload 6, 2) := by decide +kernel
theorem dX5_call_228 : decode cX5_call 228 = .ok (.iadd, 1) := by decide +kernel
theorem dX5_call_229 : decode cX5_call 229 = .ok (.iload 6, 2) := by decide +kernel
theorem dX5_call_231 : decode cX5_call 231 = .ok (.ifCond .ne 12, 3) := by decide +kernel
theorem dX5_call_234 : decode cX5_call 234 = .ok (.iload 5, 2) := by decide +kernel
theorem dX5_call_236 : decode cX5_call 236 = .ok (.ifCond .le 7, 3) := by decide +kernel
theorem dX5_call_239 : decode cX5_call 239 = .ok (.iload_n 3, 1) := by decide +kernel
theorem dX5_call_240 : decode cX5_call 240 = .ok (.goto 4, 3) := by decide +kernel
theorem dX5_call_243 : decode cX5_call 243 = .ok (.iconst 0, 1) := by decide +kernel
theorem dX5_call_244 : decode cX5_call 244 = .ok (.iastore, 1) := by decide +kernel
theorem dX5_call_245 : decode cX5_call 245 = .ok (.iinc 6 1, 3) := by decide +kernel
theorem dX5_call_248 : decode cX5_call 248 = .ok (.goto (-40), 3) := by decide +kernel
theorem dX5_call_251 : decode cX5_call 251 = .ok (.aload_n 0, 1) := by decide +kernel
theorem dX5_call_252 : decode cX5_call 252 = .ok (.dup, 1) := by decide +kernel
theorem dX5_call_253 : decode cX5_call 253 = .ok (.getfield 62, 3) := by decide +kernel
theorem dX5_call_256 : decode cX5_call 256 = .ok (.iconst 1, 1) := by decide +kernel
theorem dX5_call_257 : decode cX5_call 257 = .ok (.iadd, 1) := by decide +kernel
theorem dX5_call_258 : decode cX5_call 258 = .ok (.putfield 62, 3) := by decide +kernel
theorem dX5_call_261 : decode cX5_call 261 = .ok (.aload_n 0, 1) := by decide +kernel
theorem dX5_call_262 : decode cX5_call 262 = .ok (.invokevirtual 85, 3) := by decide +kernel
theorem dX5_call_265 : decode cX5_call 265 = .ok (.return_, 1) := by decide +kernel
theorem dX5_start_0 : decode cX5_start 0 = .ok (.aload_n 0, 1) := by decide +kernel
theorem dX5_start_1 : decode cX5_start 1 = .ok (.iload_n 1, 1) := by decide +kernel
theorem dX5_start_2 : decode cX5_start 2 = .ok (.invokestatic 48, 3) := by decide +kernel
theorem dX5_start_5 : decode cX5_start 5 = .ok (.ifCond .eq 14, 3) := by decide +kernel
theorem dX5_start_8 : decode cX5_start 8 = .ok (.iload_n 3, 1) := by decide +kernel
theorem dX5_start_9 : decode cX5_start 9 = .ok (.ifCond .lt 10, 3) := by decide +kernel
theorem dX5_start_12 : decode cX5_start 12 = .ok (.iload_n 3, 1) := by decide +kernel
theorem dX5_start_13 : decode cX5_start 13 = .ok (.sipush 4000, 3) := by decide +kernel
theorem dX5_start_16 : decode cX5_start 16 = .ok (.if_icmp .le 7, 3) := by decide +kernel
theorem dX5_start_19 : decode cX5_start 19 = .ok (.iconst 1, 1) := by decide +kernel
theorem dX5_start_20 : decode cX5_start 20 = .ok (.goto 16, 3) := by decide +kernel
theorem dX5_start_23 : decode cX5_start 23 = .ok (.aload_n 0, 1) := by decide +kernel
theorem dX5_start_24 : decode cX5_start 24 = .ok (.iload_n 1, 1) := by decide +kernel
theorem dX5_start_25 : decode cX5_start 25 = .ok (.invokevirtual 55, 3) := by decide +kernel
theorem dX5_start_28 : decode cX5_start 28 = .ok (.ifCond .ne 7, 3) := by decide +kernel
theorem dX5_start_31 : decode cX5_start 31 = .ok (.iconst 2, 1) := by decide +kernel
theorem dX5_start_32 : decode cX5_start 32 = .ok (.goto 4, 3) := by decide +kernel
theorem dX5_start_35 : decode cX5_start 35 = .ok (.iconst 0, 1) := by decide +kernel
theorem dX5_start_36 : decode cX5_start 36 = .ok (.putfield 44, 3) := by decide +kernel
theorem dX5_start_39 : decode cX5_start 39 = .ok (.aload_n 0, 1) := by decide +kernel
theorem dX5_start_40 : decode cX5_start 40 = .ok (.getfield 44, 3) := by decide +kernel
theorem dX5_start_43 : decode cX5_start 43 = .ok (.ifCond .le 4, 3) := by decide +kernel
theorem dX5_start_46 : decode cX5_start 46 = .ok (.return_, 1) := by decide +kernel
theorem dX5_start_47 : decode cX5_start 47 = .ok (.aload_n 0, 1) := by decide +kernel
theorem dX5_start_48 : decode cX5_start 48 = .ok (.iconst 1, 1) := by decide +kernel
theorem dX5_start_49 : decode cX5_start 49 = .ok (.putfield 52, 3) := by decide +kernel
theorem dX5_start_52 : decode cX5_start 52 = .ok (.aload_n 0, 1) := by decide +kernel
theorem dX5_start_53 : decode cX5_start 53 = .ok (.iload_n 3, 1) := by decide +kernel
theorem dX5_start_54 : decode cX5_start 54 = .ok (.putfield 69, 3) := by decide +kernel
theorem dX5_start_57 : decode cX5_start 57 = .ok (.aload_n 0, 1) := by decide +kernel
theorem dX5_start_58 : decode cX5_start 58 = .ok (.iconst 0, 1) := by decide +kernel
theorem dX5_start_59 : decode cX5_start 59 = .ok (.putfield 88, 3) := by decide +kernel
theorem dX5_start_62 : decode cX5_start 62 = .ok (.aload_n 0, 1) := by decide +kernel
theorem dX5_start_63 : decode cX5_start 63 = .ok (.iconst 0, 1) := by decide +kernel
theorem dX5_start_64 : decode cX5_start 64 = .ok (.putfield 78, 3) := by decide +kernel
theorem dX5_start_67 : decode cX5_start 67 = .ok (.aload_n 0, 1) := by decide +kernel
theorem dX5_start_68 : decode cX5_start 68 = .ok (.iconst 0, 1) := by decide +kernel
theorem dX5_start_69 : decode cX5_start 69 = .ok (.putfield 91, 3) := by decide +kernel
theorem dX5_start_72 : decode cX5_start 72 = .ok (.aload_n 0, 1) := by decide +kernel
theorem dX5_start_73 : decode cX5_start 73 = .ok (.iconst 0, 1) := by decide +kernel
theorem dX5_start_74 : decode cX5_start 74 = .ok (.putfield 75, 3) := by decide +kernel
theorem dX5_start_77 : decode cX5_start 77 = .ok (.aload_n 0, 1) := by decide +kernel
theorem dX5_start_78 : decode cX5_start 78 = .ok (.iconst 0, 1) := by decide +kernel
theorem dX5_start_79 : decode cX5_start 79 = .ok (.putfield 62, 3) := by decide +kernel
theorem dX5_start_82 : decode cX5_start 82 = .ok (.aload_n 0, 1) := by decide +kernel
theorem dX5_start_83 : decode cX5_start 83 = .ok (.iconst 0, 1) := by decide +kernel
theorem dX5_start_84 : decode cX5_start 84 = .ok (.putfield 59, 3) := by decide +kernel
theorem dX5_start_87 : decode cX5_start 87 = .ok (.aload_n 0, 1) := by decide +kernel
theorem dX5_start_88 : decode cX5_start 88 = .ok (.iconst 0, 1) := by decide +kernel
theorem dX5_start_89 : decode cX5_start 89 = .ok (.putfield 94, 3) := by decide +kernel
theorem dX5_start_92 : decode cX5_start 92 = .ok (.aload_n 0, 1) := by decide +kernel
theorem dX5_start_93 : decode cX5_start 93 = .ok (.iconst 0, 1) := by decide +kernel
theorem dX5_start_94 : decode cX5_start 94 = .ok (.putfield 97, 3) := by decide +kernel
theorem dX5_start_97 : decode cX5_start 97 = .ok (.iconst 0, 1) := by decide +kernel
theorem dX5_start_98 : decode cX5_start 98 = .ok (.istore 4, 2) := by decide +kernel
theorem dX5_start_100 : decode cX5_start 100 = .ok (.iload 4, 2) := by decide +kernel
theorem dX5_start_102 : decode cX5_start 102 = .ok (.iconst 5, 1) := by decide +kernel
theorem dX5_start_103 : decode cX5_start 103 = .ok (.if_icmp .ge 25, 3) := by decide +kernel
theorem dX5_start_106 : decode cX5_start 106 = .ok (.aload_n 0, 1) := by decide +kernel
theorem dX5_start_107 : decode cX5_start 107 = .ok (.getfield 16, 3) := by decide +kernel
theorem dX5_start_110 : decode cX5_start 110 = .ok (.iload 4, 2) := by decide +kernel
theorem dX5_start_112 : decode cX5_start 112 = .ok (.iconst 0, 1) := by decide +kernel
theorem dX5_start_113 : decode cX5_start 113 = .ok (.bastore, 1) := by decide +kernel
theorem dX5_start_114 : decode cX5_start 114 = .ok (.aload_n 0, 1) := by decide +kernel
theorem dX5_start_115 : decode cX5_start 115 = .ok (.getfield 20, 3) := by decide +kernel
theorem dX5_start_118 : decode cX5_start 118 = .ok (.iload 4, 2) := by decide +kernel
theorem dX5_start_120 : decode cX5_start 120 = .ok (.iconst 0, 1) := by decide +kernel
theorem dX5_start_121 : decode cX5_start 121 = .ok (.iastore, 1) := by decide +kernel
theorem dX5_start_122 : decode cX5_start 122 = .ok (.iinc 4 1, 3) := by decide +kernel
theorem dX5_start_125 : decode cX5_start 125 = .ok (.goto (-25), 3) := by decide +kernel
theorem dX5_start_128 : decode cX5_start 128 = .ok (.aload_n 0, 1) := by decide +kernel
theorem dX5_start_129 : decode cX5_start 129 = .ok (.iload_n 1, 1) := by decide +kernel
theorem dX5_start_130 : decode cX5_start 130 = .ok (.iconst 0, 1) := by decide +kernel
theorem dX5_start_131 : decode cX5_start 131 = .ok (.iload_n 2, 1) := by decide +kernel
theorem dX5_start_132 : decode cX5_start 132 = .ok (.invokevirtual 100, 3) := by decide +kernel
theorem dX5_start_135 : decode cX5_start 135 = .ok (.return_, 1) := by decide +kernel
theorem dX5_size_0 : decode cX5_size 0 = .ok (.iload_n 0, 1) := by decide +kernel
theorem dX5_size_1 : decode cX5_size 1 = .ok (.bipush 10, 2) := by decide +kernel
theorem dX5_size_3 : decode cX5_size 3 = .ok (.if_icmp .ne 7, 3) := by decide +kernel
theorem dX5_size_6 : decode cX5_size 6 = .ok (.iconst 3, 1) := by decide +kernel
theorem dX5_size_7 : decode cX5_size 7 = .ok (.goto 29, 3) := by decide +kernel
end
section
theorem dX5_size_10 : decode cX5_size 10 = .ok (.iload_n 0, 1) := by decide +kernel
theorem dX5_size_11 : decode cX5_size 11 = .ok (.ifCond .le 8, 3) := by decide +kernel
theorem dX5_size_14 : decode cX5_size 14 = .ok (.iload_n 0, 1) := by decide +kernel
theorem dX5_size_15 : decode cX5_size 15 = .ok (.iconst 4, 1) := by decide +kernel
theorem dX5_size_16 : decode cX5_size 16 = .ok (.if_icmp .lt 15, 3) := by decide +kernel
theorem dX5_size_19 : decode cX5_size 19 = .ok (.iload_n 0, 1) := by decide +kernel
theorem dX5_size_20 : decode cX5_size 20 = .ok (.bipush 8, 2) := by decide +kernel
theorem dX5_size_22 : decode cX5_size 22 = .ok (.if_icmp .eq 9, 3) := by decide +kernel
theorem dX5_size_25 : decode cX5_size 25 = .ok (.iload_n 0, 1) := by decide +kernel
theorem dX5_size_26 : decode cX5_size 26 = .ok (.bipush 9, 2) := by decide +kernel
theorem dX5_size_28 : decode cX5_size 28 = .ok (.if_icmp .ne 7, 3) := by decide +kernel
theorem dX5_size_31 : decode cX5_size 31 = .ok (.iconst 2, 1) := by decide +kernel
theorem dX5_size_32 : decode cX5_size 32 = .ok (.goto 4, 3) := by decide +kernel
theorem dX5_size_35 : decode cX5_size 35 = .ok (.iconst 1, 1) := by decide +kernel
theorem dX5_size_36 : decode cX5_size 36 = .ok (.ireturn, 1) := by decide +kernel
theorem dX5_takes_0 : decode cX5_takes 0 = .ok (.iload_n 0, 1) := by decide +kernel
theorem dX5_takes_1 : decode cX5_takes 1 = .ok (.iconst 3, 1) := by decide +kernel
theorem dX5_takes_2 : decode cX5_takes 2 = .ok (.if_icmp .le 13, 3) := by decide +kernel
theorem dX5_takes_5 : decode cX5_takes 5 = .ok (.iload_n 0, 1) := by decide +kernel
theorem dX5_takes_6 : decode cX5_takes 6 = .ok (.bipush 8, 2) := by decide +kernel
theorem dX5_takes_8 : decode cX5_takes 8 = .ok (.if_icmp .ge 7, 3) := by decide +kernel
theorem dX5_takes_11 : decode cX5_takes 11 = .ok (.iconst 2, 1) := by decide +kernel
theorem dX5_takes_12 : decode cX5_takes 12 = .ok (.goto 25, 3) := by decide +kernel
theorem dX5_takes_15 : decode cX5_takes 15 = .ok (.iload_n 0, 1) := by decide +kernel
theorem dX5_takes_16 : decode cX5_takes 16 = .ok (.iconst 3, 1) := by decide +kernel
theorem dX5_takes_17 : decode cX5_takes 17 = .ok (.if_icmp .eq 15, 3) := by decide +kernel
theorem dX5_takes_20 : decode cX5_takes 20 = .ok (.iload_n 0, 1) := by decide +kernel
theorem dX5_takes_21 : decode cX5_takes 21 = .ok (.bipush 8, 2) := by decide +kernel
theorem dX5_takes_23 : decode cX5_takes 23 = .ok (.if_icmp .eq 9, 3) := by decide +kernel
theorem dX5_takes_26 : decode cX5_takes 26 = .ok (.iload_n 0, 1) := by decide +kernel
theorem dX5_takes_27 : decode cX5_takes 27 = .ok (.bipush 9, 2) := by decide +kernel
theorem dX5_takes_29 : decode cX5_takes 29 = .ok (.if_icmp .le 7, 3) := by decide +kernel
theorem dX5_takes_32 : decode cX5_takes 32 = .ok (.iconst 1, 1) := by decide +kernel
theorem dX5_takes_33 : decode cX5_takes 33 = .ok (.goto 4, 3) := by decide +kernel
theorem dX5_takes_36 : decode cX5_takes 36 = .ok (.iconst 0, 1) := by decide +kernel
theorem dX5_takes_37 : decode cX5_takes 37 = .ok (.ireturn, 1) := by decide +kernel
theorem dX5_pop_0 : decode cX5_pop 0 = .ok (.aload_n 0, 1) := by decide +kernel
theorem dX5_pop_1 : decode cX5_pop 1 = .ok (.dup, 1) := by decide +kernel
theorem dX5_pop_2 : decode cX5_pop 2 = .ok (.getfield 59, 3) := by decide +kernel
theorem dX5_pop_5 : decode cX5_pop 5 = .ok (.iconst 1, 1) := by decide +kernel
theorem dX5_pop_6 : decode cX5_pop 6 = .ok (.isub, 1) := by decide +kernel
theorem dX5_pop_7 : decode cX5_pop 7 = .ok (.putfield 59, 3) := by decide +kernel
theorem dX5_pop_10 : decode cX5_pop 10 = .ok (.aload_n 0, 1) := by decide +kernel
theorem dX5_pop_11 : decode cX5_pop 11 = .ok (.getfield 38, 3) := by decide +kernel
theorem dX5_pop_14 : decode cX5_pop 14 = .ok (.aload_n 0, 1) := by decide +kernel
theorem dX5_pop_15 : decode cX5_pop 15 = .ok (.getfield 59, 3) := by decide +kernel
theorem dX5_pop_18 : decode cX5_pop 18 = .ok (.iaload, 1) := by decide +kernel
theorem dX5_pop_19 : decode cX5_pop 19 = .ok (.ireturn, 1) := by decide +kernel
theorem dX5_one_0 : decode cX5_one 0 = .ok (.aload_n 0, 1) := by decide +kernel
theorem dX5_one_1 : decode cX5_one 1 = .ok (.getfield 62, 3) := by decide +kernel
theorem dX5_one_4 : decode cX5_one 4 = .ok (.iconst 1, 1) := by decide +kernel
theorem dX5_one_5 : decode cX5_one 5 = .ok (.isub, 1) := by decide +kernel
theorem dX5_one_6 : decode cX5_one 6 = .ok (.istore_n 1, 1) := by decide +kernel
theorem dX5_one_7 : decode cX5_one 7 = .ok (.aload_n 0, 1) := by decide +kernel
theorem dX5_one_8 : decode cX5_one 8 = .ok (.getfield 23, 3) := by decide +kernel
theorem dX5_one_11 : decode cX5_one 11 = .ok (.iload_n 1, 1) := by decide +kernel
theorem dX5_one_12 : decode cX5_one 12 = .ok (.iaload, 1) := by decide +kernel
theorem dX5_one_13 : decode cX5_one 13 = .ok (.istore_n 2, 1) := by decide +kernel
theorem dX5_one_14 : decode cX5_one 14 = .ok (.aload_n 0, 1) := by decide +kernel
theorem dX5_one_15 : decode cX5_one 15 = .ok (.getfield 26, 3) := by decide +kernel
theorem dX5_one_18 : decode cX5_one 18 = .ok (.iload_n 1, 1) := by decide +kernel
theorem dX5_one_19 : decode cX5_one 19 = .ok (.iaload, 1) := by decide +kernel
theorem dX5_one_20 : decode cX5_one 20 = .ok (.istore_n 3, 1) := by decide +kernel
theorem dX5_one_21 : decode cX5_one 21 = .ok (.iload_n 3, 1) := by decide +kernel
theorem dX5_one_22 : decode cX5_one 22 = .ok (.ifCond .lt 17, 3) := by decide +kernel
theorem dX5_one_25 : decode cX5_one 25 = .ok (.iload_n 3, 1) := by decide +kernel
theorem dX5_one_26 : decode cX5_one 26 = .ok (.aload_n 0, 1) := by decide +kernel
theorem dX5_one_27 : decode cX5_one 27 = .ok (.getfield 13, 3) := by decide +kernel
theorem dX5_one_30 : decode cX5_one 30 = .ok (.iload_n 2, 1) := by decide +kernel
theorem dX5_one_31 : decode cX5_one 31 = .ok (.iaload, 1) := by decide +kernel
theorem dX5_one_32 : decode cX5_one 32 = .ok (.if_icmp .ge 7, 3) := by decide +kernel
theorem dX5_one_35 : decode cX5_one 35 = .ok (.iconst 1, 1) := by decide +kernel
theorem dX5_one_36 : decode cX5_one 36 = .ok (.goto 4, 3) := by decide +kernel
theorem dX5_one_39 : decode cX5_one 39 = .ok (.iconst 0, 1) := by decide +kernel
theorem dX5_one_40 : decode cX5_one 40 = .ok (.istore 4, 2) := by decide +kernel
theorem dX5_one_42 : decode cX5_one 42 = .ok (.iload 4, 2) := by decide +kernel
theorem dX5_one_44 : decode cX5_one 44 = .ok (.ifCond .eq 17, 3) := by decide +kernel
theorem dX5_one_47 : decode cX5_one 47 = .ok (.aload_n 0, 1) := by decide +kernel
theorem dX5_one_48 : decode cX5_one 48 = .ok (.getfield 7, 3) := by decide +kernel
theorem dX5_one_51 : decode cX5_one 51 = .ok (.bipush 80, 2) := by decide +kernel
theorem dX5_one_53 : decode cX5_one 53 = .ok (.iload_n 2, 1) := by decide +kernel
theorem dX5_one_54 : decode cX5_one 54 = .ok (.imul, 1) := by decide +kernel
theorem dX5_one_55 : decode cX5_one 55 = .ok (.iload_n 3, 1) := by decide +kernel
theorem dX5_one_56 : decode cX5_one 56 = .ok (.iadd, 1) := by decide +kernel
theorem dX5_one_57 : decode cX5_one 57 = .ok (.iaload, 1) := by decide +kernel
theorem dX5_one_58 : decode cX5_one 58 = .ok (.goto 4, 3) := by decide +kernel
theorem dX5_one_61 : decode cX5_one 61 = .ok (.iconst (-1), 1) := by decide +kernel
theorem dX5_one_62 : decode cX5_one 62 = .ok (.istore 5, 2) := by decide +kernel
theorem dX5_one_64 : decode cX5_one 64 = .ok (.iload 4, 2) := by decide +kernel
theorem dX5_one_66 : decode cX5_one 66 = .ok (.ifCond .eq 54, 3) := by decide +kernel
theorem dX5_one_69 : decode cX5_one 69 = .ok (.iload 5, 2) := by decide +kernel
theorem dX5_one_71 : decode cX5_one 71 = .ok (.ifCond .lt 49, 3) := by decide +kernel
theorem dX5_one_74 : decode cX5_one 74 = .ok (.iload 5, 2) := by decide +kernel
theorem dX5_one_76 : decode cX5_one 76 = .ok (.bipush 12, 2) := by decide +kernel
theorem dX5_one_78 : decode cX5_one 78 = .ok (.if_icmp .gt 42, 3) := by decide +kernel
theorem dX5_one_81 : decode cX5_one 81 = .ok (.iload_n 3, 1) := by decide +kernel
theorem dX5_one_82 : decode cX5_one 82 = .ok (.iload 5, 2) := by decide +kernel
theorem dX5_one_84 : decode cX5_one 84 = .ok (.invokestatic 104, 3) := by decide +kernel
theorem dX5_one_87 : decode cX5_one 87 = .ok (.iadd, 1) := by decide +kernel
theorem dX5_one_88 : decode cX5_one 88 = .ok (.aload_n 0, 1) := by decide +kernel
theorem dX5_one_89 : decode cX5_one 89 = .ok (.getfield 13, 3) := by decide +kernel
theorem dX5_one_92 : decode cX5_one 92 = .ok (.iload_n 2, 1) := by decide +kernel
theorem dX5_one_93 : decode cX5_one 93 = .ok (.iaload, 1) := by decide +kernel
theorem dX5_one_94 : decode cX5_one 94 = .ok (.if_icmp .gt 26, 3) := by decide +kernel
theorem dX5_one_97 : decode cX5_one 97 = .ok (.aload_n 0, 1) := by decide +kernel
theorem dX5_one_98 : decode cX5_one 98 = .ok (.getfield 59, 3) := by decide +kernel
theorem dX5_one_101 : decode cX5_one 101 = .ok (.aload_n 0, 1) := by decide +kernel
theorem dX5_one_102 : decode cX5_one 102 = .ok (.getfield 35, 3) := by decide +kernel
theorem dX5_one_105 : decode cX5_one 105 = .ok (.iload_n 1, 1) := by decide +kernel
theorem dX5_one_106 : decode cX5_one 106 = .ok (.iaload, 1) := by decide +kernel
theorem dX5_one_107 : decode cX5_one 107 = .ok (.isub, 1) := by decide +kernel
theorem dX5_one_108 : decode cX5_one 108 = .ok (.iload 5, 2) := by decide +kernel
theorem dX5_one_110 : decode cX5_one 110 = .ok (.invokestatic 107, 3) := by decide +kernel
theorem dX5_one_113 : decode cX5_one 113 = .ok (.if_icmp .lt 7, 3) := by decide +kernel
theorem dX5_one_116 : decode cX5_one 116 = .ok (.iconst 1, 1) := by decide +kernel
theorem dX5_one_117 : decode cX5_one 117 = .ok (.goto 4, 3) := by decide +kernel
theorem dX5_one_120 : decode cX5_one 120 = .ok (.iconst 0, 1) := by decide +kernel
theorem dX5_one_121 : decode cX5_one 121 = .ok (.istore 4, 2) := by decide +kernel
theorem dX5_one_123 : decode cX5_one 123 = .ok (.iload 4, 2) := by decide +kernel
theorem dX5_one_125 : decode cX5_one 125 = .ok (.ifCond .eq 28, 3) := by decide +kernel
theorem dX5_one_128 : decode cX5_one 128 = .ok (.iload 5, 2) := by decide +kernel
theorem dX5_one_130 : decode cX5_one 130 = .ok (.invokestatic 104, 3) := by decide +kernel
theorem dX5_one_133 : decode cX5_one 133 = .ok (.iconst 1, 1) := by decide +kernel
theorem dX5_one_134 : decode cX5_one 134 = .ok (.if_icmp .le 19, 3) := by decide +kernel
theorem dX5_one_137 : decode cX5_one 137 = .ok (.aload_n 0, 1) := by decide +kernel
theorem dX5_one_138 : decode cX5_one 138 = .ok (.getfield 7, 3) := by decide +kernel
theorem dX5_one_141 : decode cX5_one 141 = .ok (.bipush 80, 2) := by decide +kernel
theorem dX5_one_143 : decode cX5_one 143 = .ok (.iload_n 2, 1) := by decide +kernel
theorem dX5_one_144 : decode cX5_one 144 = .ok (.imul, 1) := by decide +kernel
theorem dX5_one_145 : decode cX5_one 145 = .ok (.iload_n 3, 1) := by decide +kernel
theorem dX5_one_146 : decode cX5_one 146 = .ok (.iadd, 1) := by decide +kernel
theorem dX5_one_147 : decode cX5_one 147 = .ok (.iconst 1, 1) := by decide +kernel
theorem dX5_one_148 : decode cX5_one 148 = .ok (.iadd, 1) := by decide +kernel
theorem dX5_one_149 : decode cX5_one 149 = .ok (.iaload, 1) := by decide +kernel
theorem dX5_one_150 : decode cX5_one 150 = .ok (.goto 4, 3) := by decide +kernel
theorem dX5_one_153 : decode cX5_one 153 = .ok (.iconst 0, 1) := by decide +kernel
theorem dX5_one_154 : decode cX5_one 154 = .ok (.istore 6, 2) := by decide +kernel
theorem dX5_one_156 : decode cX5_one 156 = .ok (.iload 5, 2) := by decide +kernel
theorem dX5_one_158 : decode cX5_one 158 = .ok (.iconst 2, 1) := by decide +kernel
theorem dX5_one_159 : decode cX5_one 159 = .ok (.if_icmp .eq 9, 3) := by decide +kernel
theorem dX5_one_162 : decode cX5_one 162 = .ok (.iload 5, 2) := by decide +kernel
theorem dX5_one_164 : decode cX5_one 164 = .ok (.iconst 3, 1) := by decide +kernel
theorem dX5_one_165 : decode cX5_one 165 = .ok (.if_icmp .ne 31, 3) := by decide +kernel
theorem dX5_one_168 : decode cX5_one 168 = .ok (.iload 4, 2) := by decide +kernel
theorem dX5_one_170 : decode cX5_one 170 = .ok (.ifCond .eq 23, 3) := by decide +kernel
theorem dX5_one_173 : decode cX5_one 173 = .ok (.iload 6, 2) := by decide +kernel
theorem dX5_one_175 : decode cX5_one 175 = .ok (.ifCond .lt 18, 3) := by decide +kernel
theorem dX5_one_178 : decode cX5_one 178 = .ok (.iload 6, 2) := by decide +kernel
theorem dX5_one_180 : decode cX5_one 180 = .ok (.aload_n 0, 1) := by decide +kernel
theorem dX5_one_181 : decode cX5_one 181 = .ok (.getfield 29, 3) := by decide +kernel
theorem dX5_one_184 : decode cX5_one 184 = .ok (.iload_n 1, 1) := by decide +kernel
theorem dX5_one_185 : decode cX5_one 185 = .ok (.iaload, 1) := by decide +kernel
theorem dX5_one_186 : decode cX5_one 186 = .ok (.if_icmp .ge 7, 3) := by decide +kernel
theorem dX5_one_189 : decode cX5_one 189 = .ok (.iconst 1, 1) := by decide +kernel
theorem dX5_one_190 : decode cX5_one 190 = .ok (.goto 4, 3) := by decide +kernel
theorem dX5_one_193 : decode cX5_one 193 = .ok (.iconst 0, 1) := by decide +kernel
theorem dX5_one_194 : decode cX5_one 194 = .ok (.istore 4, 2) := by decide +kernel
theorem dX5_one_196 : decode cX5_one 196 = .ok (.iload 5, 2) := by decide +kernel
theorem dX5_one_198 : decode cX5_one 198 = .ok (.bipush 12, 2) := by decide +kernel
theorem dX5_one_200 : decode cX5_one 200 = .ok (.if_icmp .ne 24, 3) := by decide +kernel
theorem dX5_one_203 : decode cX5_one 203 = .ok (.iload 4, 2) := by decide +kernel
theorem dX5_one_205 : decode cX5_one 205 = .ok (.ifCond .eq 16, 3) := by decide +kernel
theorem dX5_one_208 : decode cX5_one 208 = .ok (.aload_n 0, 1) := by decide +kernel
theorem dX5_one_209 : decode cX5_one 209 = .ok (.getfield 97, 3) := by decide +kernel
theorem dX5_one_212 : decode cX5_one 212 = .ok (.bipush 40, 2) := by decide +kernel
theorem dX5_one_214 : decode cX5_one 214 = .ok (.if_icmp .ge 7, 3) := by decide +kernel
theorem dX5_one_217 : decode cX5_one 217 = .ok (.iconst 1, 1) := by decide +kernel
theorem dX5_one_218 : decode cX5_one 218 = .ok (.goto 4, 3) := by decide +kernel
theorem dX5_one_221 : decode cX5_one 221 = .ok (.iconst 0, 1) := by decide +kernel
theorem dX5_one_222 : decode cX5_one 222 = .ok (.istore 4, 2) := by decide +kernel
theorem dX5_one_224 : decode cX5_one 224 = .ok (.iload 4, 2) := by decide +kernel
theorem dX5_one_226 : decode cX5_one 226 = .ok (.ifCond .ne 9, 3) := by decide +kernel
theorem dX5_one_229 : decode cX5_one 229 = .ok (.aload_n 0, 1) := by decide +kernel
theorem dX5_one_230 : decode cX5_one 230 = .ok (.iconst 3, 1) := by decide +kernel
theorem dX5_one_231 : decode cX5_one 231 = .ok (.putfield 52, 3) := by decide +kernel
theorem dX5_one_234 : decode cX5_one 234 = .ok (.return_, 1) := by decide +kernel
theorem dX5_one_235 : decode cX5_one 235 = .ok (.iload 5, 2) := by decide +kernel
theorem dX5_one_237 : decode cX5_one 237 = .ok (.invokestatic 107, 3) := by decide +kernel
theorem dX5_one_240 : decode cX5_one 240 = .ok (.ifCond .le 10, 3) := by decide +kernel
theorem dX5_one_243 : decode cX5_one 243 = .ok (.aload_n 0, 1) := by decide +kernel
theorem dX5_one_244 : decode cX5_one 244 = .ok (.invokevirtual 110, 3) := by decide +kernel
theorem dX5_one_247 : decode cX5_one 247 = .ok (.goto 4, 3) := by decide +kernel
theorem dX5_one_250 : decode cX5_one 250 = .ok (.iconst 0, 1) := by decide +kernel
theorem dX5_one_251 : decode cX5_one 251 = .ok (.istore 7, 2) := by decide +kernel
theorem dX5_one_253 : decode cX5_one 253 = .ok (.iload 5, 2) := by decide +kernel
theorem dX5_one_255 : decode cX5_one 255 = .ok (.invokestatic 107, 3) := by decide +kernel
theorem dX5_one_258 : decode cX5_one 258 = .ok (.iconst 1, 1) := by decide +kernel
theorem dX5_one_259 : decode cX5_one 259 = .ok (.if_icmp .le 10, 3) := by decide +kernel
theorem dX5_one_262 : decode cX5_one 262 = .ok (.aload_n 0, 1) := by decide +kernel
theorem dX5_one_263 : decode cX5_one 263 = .ok (.invokevirtual 110, 3) := by decide +kernel
theorem dX5_one_266 : decode cX5_one 266 = .ok (.goto 4, 3) := by decide +kernel
theorem dX5_one_269 : decode cX5_one 269 = .ok (.iconst 0, 1) := by decide +kernel
theorem dX5_one_270 : decode cX5_one 270 = .ok (.istore 8, 2) := by decide +kernel
theorem dX5_one_272 : decode cX5_one 272 = .ok (.aload_n 0, 1) := by decide +kernel
theorem dX5_one_273 : decode cX5_one 273 = .ok (.getfield 26, 3) := by decide +kernel
theorem dX5_one_276 : decode cX5_one 276 = .ok (.iload_n 1, 1) := by decide +kernel
theorem dX5_one_277 : decode cX5_one 277 = .ok (.iload_n 3, 1) := by decide +kernel
theorem dX5_one_278 : decode cX5_one 278 = .ok (.iload 5, 2) := by decide +kernel
theorem dX5_one_280 : decode cX5_one 280 = .ok (.invokestatic 104, 3) := by decide +kernel
theorem dX5_one_283 : decode cX5_one 283 = .ok (.iadd, 1) := by decide +kernel
theorem dX5_one_284 : decode cX5_one 284 = .ok (.iastore, 1) := by decide +kernel
theorem dX5_one_285 : decode cX5_one 285 = .ok (.iload 5, 2) := by decide +kernel
theorem dX5_one_287 : decode cX5_one 287 = .ok (.tableswitch 224 0 12 #[65, 73, 73, 113, 224, 224, 224, 224, 130, 153, 167, 191, 200], 65) := by decide +kernel
theorem dX5_one_352 : decode cX5_one 352 = .ok (.aload_n 0, 1) := by decide +kernel
theorem dX5_one_353 : decode cX5_one 353 = .ok (.iconst 2, 1) := by decide +kernel
theorem dX5_one_354 : decode cX5_one 354 = .ok (.putfield 52, 3) := by decide +kernel
theorem dX5_one_357 : decode cX5_one 357 = .ok (.goto 218, 3) := by decide +kernel
theorem dX5_one_360 : decode cX5_one 360 = .ok (.aload_n 0, 1) := by decide +kernel
theorem dX5_one_361 : decode cX5_one 361 = .ok (.iload 5, 2) := by decide +kernel
theorem dX5_one_363 : decode cX5_one 363 = .ok (.iconst 1, 1) := by decide +kernel
theorem dX5_one_364 : decode cX5_one 364 = .ok (.if_icmp .ne 8, 3) := by decide +kernel
theorem dX5_one_367 : decode cX5_one 367 = .ok (.iload 6, 2) := by decide +kernel
theorem dX5_one_369 : decode cX5_one 369 = .ok (.goto 15, 3) := by decide +kernel
theorem dX5_one_372 : decode cX5_one 372 = .ok (.aload_n 0, 1) := by decide +kernel
theorem dX5_one_373 : decode cX5_one 373 = .ok (.getfield 32, 3) := by decide +kernel
theorem dX5_one_376 : decode cX5_one 376 = .ok (.bipush 6, 2) := by decide +kernel
theorem dX5_one_378 : decode cX5_one 378 = .ok (.iload_n 1, 1) := by decide +kernel
theorem dX5_one_379 : decode cX5_one 379 = .ok (.imul, 1) := by decide +kernel
theorem dX5_one_380 : decode cX5_one 380 = .ok (.iload 6, 2) := by decide +kernel
theorem dX5_one_382 : decode cX5_one 382 = .ok (.iadd, 1) := by decide +kernel
theorem dX5_one_383 : decode cX5_one 383 = .ok (.iaload, 1) := by decide +kernel
theorem dX5_one_384 : decode cX5_one 384 = .ok (.invokevirtual 113, 3) := by decide +kernel
theorem dX5_one_387 : decode cX5_one 387 = .ok (.ifCond .ne 188, 3) := by decide +kernel
theorem dX5_one_390 : decode cX5_one 390 = .ok (.aload_n 0, 1) := by decide +kernel
theorem dX5_one_391 : decode cX5_one 391 = .ok (.getfield 26, 3) := by decide +kernel
theorem dX5_one_394 : decode cX5_one 394 = .ok (.iload_n 1, 1) := by decide +kernel
theorem dX5_one_395 : decode cX5_one 395 = .ok (.iload_n 3, 1) := by decide +kernel
theorem dX5_one_396 : decode cX5_one 396 = .ok (.iastore, 1) := by decide +kernel
theorem dX5_one_397 : decode cX5_one 397 = .ok (.goto 178, 3) := by decide +kernel
theorem dX5_one_400 : decode cX5_one 400 = .ok (.aload_n 0, 1) := by decide +kernel
theorem dX5_one_401 : decode cX5_one 401 = .ok (.getfield 32, 3) := by decide +kernel
theorem dX5_one_404 : decode cX5_one 404 = .ok (.bipush 6, 2) := by decide +kernel
theorem dX5_one_406 : decode cX5_one 406 = .ok (.iload_n 1, 1) := by decide +kernel
theorem dX5_one_407 : decode cX5_one 407 = .ok (.imul, 1) := by decide +kernel
theorem dX5_one_408 : decode cX5_one 408 = .ok (.iload 6, 2) := by decide +kernel
theorem dX5_one_410 : decode cX5_one 410 = .ok (.iadd, 1) := by decide +kernel
theorem dX5_one_411 : decode cX5_one 411 = .ok (.iload 7, 2) := by decide +kernel
theorem dX5_one_413 : decode cX5_one 413 = .ok (.iastore, 1) := by decide +kernel
theorem dX5_one_414 : decode cX5_one 414 = .ok (.goto 161, 3) := by decide +kernel
theorem dX5_one_417 : decode cX5_one 417 = .ok (.aload_n 0, 1) := by decide +kernel
theorem dX5_one_418 : decode cX5_one 418 = .ok (.getfield 26, 3) := by decide +kernel
theorem dX5_one_421 : decode cX5_one 421 = .ok (.iload_n 1, 1) := by decide +kernel
theorem dX5_one_422 : decode cX5_one 422 = .ok (.dup2, 1) := by decide +kernel
theorem dX5_one_423 : decode cX5_one 423 = .ok (.iaload, 1) := by decide +kernel
theorem dX5_one_424 : decode cX5_one 424 = .ok (.iload 7, 2) := by decide +kernel
theorem dX5_one_426 : decode cX5_one 426 = .ok (.ifCond .ne 8, 3) := by decide +kernel
theorem dX5_one_429 : decode cX5_one 429 = .ok (.iload 6, 2) := by decide +kernel
theorem dX5_one_431 : decode cX5_one 431 = .ok (.goto 4, 3) := by decide +kernel
theorem dX5_one_434 : decode cX5_one 434 = .ok (.iconst 0, 1) := by decide +kernel
theorem dX5_one_435 : decode cX5_one 435 = .ok (.iadd, 1) := by decide +kernel
theorem dX5_one_436 : decode cX5_one 436 = .ok (.iastore, 1) := by decide +kernel
theorem dX5_one_437 : decode cX5_one 437 = .ok (.goto 138, 3) := by decide +kernel
theorem dX5_one_440 : decode cX5_one 440 = .ok (.aload_n 0, 1) := by decide +kernel
theorem dX5_one_441 : decode cX5_one 441 = .ok (.getfield 26, 3) := by decide +kernel
theorem dX5_one_444 : decode cX5_one 444 = .ok (.iload_n 1, 1) := by decide +kernel
theorem dX5_one_445 : decode cX5_one 445 = .ok (.dup2, 1) := by decide +kernel
theorem dX5_one_446 : decode cX5_one 446 = .ok (.iaload, 1) := by decide +kernel
theorem dX5_one_447 : decode cX5_one 447 = .ok (.iload 6, 2) := by decide +kernel
theorem dX5_one_449 : decode cX5_one 449 = .ok (.iadd, 1) := by decide +kernel
theorem dX5_one_450 : decode cX5_one 450 = .ok (.iastore, 1) := by decide +kernel
theorem dX5_one_451 : decode cX5_one 451 = .ok (.goto 124, 3) := by decide +kernel
theorem dX5_one_454 : decode cX5_one 454 = .ok (.aload_n 0, 1) := by decide +kernel
theorem dX5_one_455 : decode cX5_one 455 = .ok (.iload 6, 2) := by decide +kernel
theorem dX5_one_457 : decode cX5_one 457 = .ok (.aload_n 0, 1) := by decide +kernel
theorem dX5_one_458 : decode cX5_one 458 = .ok (.getfield 7, 3) := by decide +kernel
theorem dX5_one_461 : decode cX5_one 461 = .ok (.bipush 80, 2) := by decide +kernel
theorem dX5_one_463 : decode cX5_one 463 = .ok (.iload_n 2, 1) := by decide +kernel
theorem dX5_one_464 : decode cX5_one 464 = .ok (.imul, 1) := by decide +kernel
theorem dX5_one_465 : decode cX5_one 465 = .ok (.iload_n 3, 1) := by decide +kernel
theorem dX5_one_466 : decode cX5_one 466 = .ok (.iadd, 1) := by decide +kernel
theorem dX5_one_467 : decode cX5_one 467 = .ok (.iconst 2, 1) := by decide +kernel
theorem dX5_one_468 : decode cX5_one 468 = .ok (.iadd, 1) := by decide +kernel
theorem dX5_one_469 : decode cX5_one 469 = .ok (.iaload, 1) := by decide +kernel
theorem dX5_one_470 : decode cX5_one 470 = .ok (.iload 7, 2) := by decide +kernel
theorem dX5_one_472 : decode cX5_one 472 = .ok (.invokevirtual 100, 3) := by decide +kernel
theorem dX5_one_475 : decode cX5_one 475 = .ok (.goto 100, 3) := by decide +kernel
theorem dX5_one_478 : decode cX5_one 478 = .ok (.aload_n 0, 1) := by decide +kernel
theorem dX5_one_479 : decode cX5_one 479 = .ok (.iload 7, 2) := by decide +kernel
theorem dX5_one_481 : decode cX5_one 481 = .ok (.invokevirtual 116, 3) := by decide +kernel
theorem dX5_one_484 : decode cX5_one 484 = .ok (.goto 91, 3) := by decide +kernel
theorem dX5_one_487 : decode cX5_one 487 = .ok (.aload_n 0, 1) := by decide +kernel
theorem dX5_one_488 : decode cX5_one 488 = .ok (.getfield 41, 3) := by decide +kernel
theorem dX5_one_491 : decode cX5_one 491 = .ok (.aload_n 0, 1) := by decide +kernel
theorem dX5_one_492 : decode cX5_one 492 = .ok (.getfield 97, 3) := by decide +kernel
theorem dX5_one_495 : decode cX5_one 495 = .ok (.iload 7, 2) := by decide +kernel
theorem dX5_one_497 : decode cX5_one 497 = .ok (.iastore, 1) := by decide +kernel
theorem dX5_one_498 : decode cX5_one 498 = .ok (.aload_n 0, 1) := by decide +kernel
theorem dX5_one_499 : decode cX5_one 499 = .ok (.dup, 1) := by decide +kernel
theorem dX5_one_500 : decode cX5_one 500 = .ok (.getfield 97, 3) := by decide +kernel
theorem dX5_one_503 : decode cX5_one 503 = .ok (.iconst 1, 1) := by decide +kernel
theorem dX5_one_504 : decode cX5_one 504 = .ok (.iadd, 1) := by decide +kernel
theorem dX5_one_505 : decode cX5_one 505 = .ok (.putfield 97, 3) := by decide +kernel
theorem dX5_one_508 : decode cX5_one 508 = .ok (.goto 67, 3) := by decide +kernel
theorem dX5_one_511 : decode cX5_one 511 = .ok (.aload_n 0, 1) := by decide +kernel
theorem dX5_one_512 : decode cX5_one 512 = .ok (.iload 5, 2) := by decide +kernel
theorem dX5_one_514 : decode cX5_one 514 = .ok (.iconst 4, 1) := by decide +kernel
theorem dX5_one_515 : decode cX5_one 515 = .ok (.if_icmp .ne 11, 3) := by decide +kernel
theorem dX5_one_518 : decode cX5_one 518 = .ok (.iload 8, 2) := by decide +kernel
theorem dX5_one_520 : decode cX5_one 520 = .ok (.iload 7, 2) := by decide +kernel
theorem dX5_one_522 : decode cX5_one 522 = .ok (.iadd, 1) := by decide +kernel
theorem dX5_one_523 : decode cX5_one 523 = .ok (.goto 44, 3) := by decide +kernel
theorem dX5_one_526 : decode cX5_one 526 = .ok (.iload 5, 2) := by decide +kernel
theorem dX5_one_528 : decode cX5_one 528 = .ok (.iconst 5, 1) := by decide +kernel
theorem dX5_one_529 : decode cX5_one 529 = .ok (.if_icmp .ne 11, 3) := by decide +kernel
theorem dX5_one_532 : decode cX5_one 532 = .ok (.iload 8, 2) := by decide +kernel
theorem dX5_one_534 : decode cX5_one 534 = .ok (.iload 7, 2) := by decide +kernel
theorem dX5_one_536 : decode cX5_one 536 = .ok (.isub, 1) := by decide +kernel
theorem dX5_one_537 : decode cX5_one 537 = .ok (.goto 30, 3) := by decide +kernel
theorem dX5_one_540 : decode cX5_one 540 = .ok (.iload 5, 2) := by decide +kernel
theorem dX5_one_542 : decode cX5_one 542 = .ok (.bipush 7, 2) := by decide +kernel
theorem dX5_one_544 : decode cX5_one 544 = .ok (.if_icmp .ne 11, 3) := by decide +kernel
theorem dX5_one_547 : decode cX5_one 547 = .ok (.iload 8, 2) := by decide +kernel
theorem dX5_one_549 : decode cX5_one 549 = .ok (.iload 7, 2) := by decide +kernel
theorem dX5_one_551 : decode cX5_one 551 = .ok (.imul, 1) := by decide +kernel
theorem dX5_one_552 : decode cX5_one 552 = .ok (.goto 15, 3) := by decide +kernel
theorem dX5_one_555 : decode cX5_one 555 = .ok (.iload 8, 2) := by decide +kernel
theorem dX5_one_557 : decode cX5_one 557 = .ok (.iload 7, 2) := by decide +kernel
theorem dX5_one_559 : decode cX5_one 559 = .ok (.if_icmp .ge 7, 3) := by decide +kernel
theorem dX5_one_562 : decode cX5_one 562 = .ok (.iconst 1, 1) := by decide +kernel
theorem dX5_one_563 : decode cX5_one 563 = .ok (.goto 4, 3) := by decide +kernel
theorem dX5_one_566 : decode cX5_one 566 = .ok (.iconst 0, 1) := by decide +kernel
theorem dX5_one_567 : decode cX5_one 567 = .ok (.invokevirtual 113, 3) := by decide +kernel
theorem dX5_one_570 : decode cX5_one 570 = .ok (.istore 9, 2) := by decide +kernel
theorem dX5_one_572 : decode cX5_one 572 = .ok (.goto 3, 3) := by decide +kernel
theorem dX5_one_575 : decode cX5_one 575 = .ok (.aload_n 0, 1) := by decide +kernel
theorem dX5_one_576 : decode cX5_one 576 = .ok (.getfield 52, 3) := by decide +kernel
theorem dX5_one_579 : decode cX5_one 579 = .ok (.iconst 1, 1) := by decide +kernel
theorem dX5_one_580 : decode cX5_one 580 = .ok (.if_icmp .le 18, 3) := by decide +kernel
theorem dX5_one_583 : decode cX5_one 583 = .ok (.aload_n 0, 1) := by decide +kernel
theorem dX5_one_584 : decode cX5_one 584 = .ok (.getfield 62, 3) := by decide +kernel
theorem dX5_one_587 : decode cX5_one 587 = .ok (.iload_n 1, 1) := by decide +kernel
theorem dX5_one_588 : decode cX5_one 588 = .ok (.if_icmp .le 10, 3) := by decide +kernel
theorem dX5_one_591 : decode cX5_one 591 = .ok (.aload_n 0, 1) := by decide +kernel
theorem dX5_one_592 : decode cX5_one 592 = .ok (.getfield 26, 3) := by decide +kernel
theorem dX5_one_595 : decode cX5_one 595 = .ok (.iload_n 1, 1) := by decide +kernel
theorem dX5_one_596 : decode cX5_one 596 = .ok (.iload_n 3, 1) := by decide +kernel
theorem dX5_one_597 : decode cX5_one 597 = .ok (.iastore, 1) := by decide +kernel
theorem dX5_one_598 : decode cX5_one 598 = .ok (.return_, 1) := by decide +kernel
theorem dX5_back_0 : decode cX5_back 0 = .ok (.aload_n 0, 1) := by decide +kernel
theorem dX5_back_1 : decode cX5_back 1 = .ok (.getfield 62, 3) := by decide +kernel
theorem dX5_back_4 : decode cX5_back 4 = .ok (.iconst 1, 1) := by decide +kernel
theorem dX5_back_5 : decode cX5_back 5 = .ok (.if_icmp .ne 14, 3) := by decide +kernel
theorem dX5_back_8 : decode cX5_back 8 = .ok (.aload_n 0, 1) := by decide +kernel
theorem dX5_back_9 : decode cX5_back 9 = .ok (.iload_n 1, 1) := by decide +kernel
theorem dX5_back_10 : decode cX5_back 10 = .ok (.putfield 94, 3) := by decide +kernel
theorem dX5_back_13 : decode cX5_back 13 = .ok (.aload_n 0, 1) := by decide +kernel
theorem dX5_back_14 : decode cX5_back 14 = .ok (.iconst 2, 1) := by decide +kernel
theorem dX5_back_15 : decode cX5_back 15 = .ok (.putfield 52, 3) := by decide +kernel
theorem dX5_back_18 : decode cX5_back 18 = .ok (.return_, 1) := by decide +kernel
theorem dX5_back_19 : decode cX5_back 19 = .ok (.aload_n 0, 1) := by decide +kernel
theorem dX5_back_20 : decode cX5_back 20 = .ok (.dup, 1) := by decide +kernel
theorem dX5_back_21 : decode cX5_back 21 = .ok (.getfield 62, 3) := by decide +kernel
theorem dX5_back_24 : decode cX5_back 24 = .ok (.iconst 1, 1) := by decide +kernel
theorem dX5_back_25 : decode cX5_back 25 = .ok (.isub, 1) := by decide +kernel
theorem dX5_back_26 : decode cX5_back 26 = .ok (.putfield 62, 3) := by decide +kernel
theorem dX5_back_29 : decode cX5_back 29 = .ok (.aload_n 0, 1) := by decide +kernel
theorem dX5_back_30 : decode cX5_back 30 = .ok (.aload_n 0, 1) := by decide +kernel
theorem dX5_back_31 : decode cX5_back 31 = .ok (.getfield 35, 3) := by decide +kernel
theorem dX5_back_34 : decode cX5_back 34 = .ok (.aload_n 0, 1) := by decide +kernel
theorem dX5_back_35 : decode cX5_back 35 = .ok (.getfield 62, 3) := by decide +kernel
theorem dX5_back_38 : decode cX5_back 38 = .ok (.iaload, 1) := by decide +kernel
theorem dX5_back_39 : decode cX5_back 39 = .ok (.putfield 59, 3) := by decide +kernel
theorem dX5_back_42 : decode cX5_back 42 = .ok (.aload_n 0, 1) := by decide +kernel
theorem dX5_back_43 : decode cX5_back 43 = .ok (.iload_n 1, 1) := by decide +kernel
theorem dX5_back_44 : decode cX5_back 44 = .ok (.invokevirtual 113, 3) := by decide +kernel
theorem dX5_back_47 : decode cX5_back 47 = .ok (.istore_n 2, 1) := by decide +kernel
theorem dX5_back_48 : decode cX5_back 48 = .ok (.return_, 1) := by decide +kernel
theorem dX5_step_0 : decode cX5_step 0 = .ok (.aload_n 0, 1) := by decide +kernel
theorem dX5_step_1 : decode cX5_step 1 = .ok (.aload_n 0, 1) := by decide +kernel
theorem dX5_step_2 : decode cX5_step 2 = .ok (.getfield 52, 3) := by decide +kernel
theorem dX5_step_5 : decode cX5_step 5 = .ok (.ifCond .ne 7, 3) := by decide +kernel
theorem dX5_step_8 : decode cX5_step 8 = .ok (.iconst 1, 1) := by decide +kernel
theorem dX5_step_9 : decode cX5_step 9 = .ok (.goto 19, 3) := by decide +kernel
theorem dX5_step_12 : decode cX5_step 12 = .ok (.iload_n 1, 1) := by decide +kernel
theorem dX5_step_13 : decode cX5_step 13 = .ok (.ifCond .lt 10, 3) := by decide +kernel
theorem dX5_step_16 : decode cX5_step 16 = .ok (.iload_n 1, 1) := by decide +kernel
theorem dX5_step_17 : decode cX5_step 17 = .ok (.sipush 2000, 3) := by decide +kernel
theorem dX5_step_20 : decode cX5_step 20 = .ok (.if_icmp .le 7, 3) := by decide +kernel
theorem dX5_step_23 : decode cX5_step 23 = .ok (.iconst 2, 1) := by decide +kernel
theorem dX5_step_24 : decode cX5_step 24 = .ok (.goto 4, 3) := by decide +kernel
theorem dX5_step_27 : decode cX5_step 27 = .ok (.iconst 0, 1) := by decide +kernel
theorem dX5_step_28 : decode cX5_step 28 = .ok (.putfield 44, 3) := by decide +kernel
theorem dX5_step_31 : decode cX5_step 31 = .ok (.iconst 0, 1) := by decide +kernel
theorem dX5_step_32 : decode cX5_step 32 = .ok (.istore_n 2, 1) := by decide +kernel
theorem dX5_step_33 : decode cX5_step 33 = .ok (.aload_n 0, 1) := by decide +kernel
theorem dX5_step_34 : decode cX5_step 34 = .ok (.getfield 44, 3) := by decide +kernel
theorem dX5_step_37 : decode cX5_step 37 = .ok (.ifCond .ne 26, 3) := by decide +kernel
theorem dX5_step_40 : decode cX5_step 40 = .ok (.iload_n 2, 1) := by decide +kernel
theorem dX5_step_41 : decode cX5_step 41 = .ok (.iload_n 1, 1) := by decide +kernel
theorem dX5_step_42 : decode cX5_step 42 = .ok (.if_icmp .ge 21, 3) := by decide +kernel
theorem dX5_step_45 : decode cX5_step 45 = .ok (.aload_n 0, 1) := by decide +kernel
theorem dX5_step_46 : decode cX5_step 46 = .ok (.getfield 52, 3) := by decide +kernel
theorem dX5_step_49 : decode cX5_step 49 = .ok (.iconst 1, 1) := by decide +kernel
theorem dX5_step_50 : decode cX5_step 50 = .ok (.if_icmp .ne 13, 3) := by decide +kernel
theorem dX5_step_53 : decode cX5_step 53 = .ok (.aload_n 0, 1) := by decide +kernel
theorem dX5_step_54 : decode cX5_step 54 = .ok (.invokevirtual 120, 3) := by decide +kernel
theorem dX5_step_57 : decode cX5_step 57 = .ok (.iinc 2 1, 3) := by decide +kernel
theorem dX5_step_60 : decode cX5_step 60 = .ok (.goto (-27), 3) := by decide +kernel
theorem dX5_step_63 : decode cX5_step 63 = .ok (.iload_n 2, 1) := by decide +kernel
theorem dX5_step_64 : decode cX5_step 64 = .ok (.ireturn, 1) := by decide +kernel
theorem dX5_look_0 : decode cX5_look 0 = .ok (.aload_n 0, 1) := by decide +kernel
theorem dX5_look_1 : decode cX5_look 1 = .ok (.iload_n 1, 1) := by decide +kernel
theorem dX5_look_2 : decode cX5_look 2 = .ok (.ifCond .lt 9, 3) := by decide +kernel
theorem dX5_look_5 : decode cX5_look 5 = .ok (.iload_n 1, 1) := by decide +kernel
theorem dX5_look_6 : decode cX5_look 6 = .ok (.bipush 10, 2) := by decide +kernel
theorem dX5_look_8 : decode cX5_look 8 = .ok (.if_icmp .le 7, 3) := by decide +kernel
theorem dX5_look_11 : decode cX5_look 11 = .ok (.iconst 1, 1) := by decide +kernel
theorem dX5_look_12 : decode cX5_look 12 = .ok (.goto 4, 3) := by decide +kernel
theorem dX5_look_15 : decode cX5_look 15 = .ok (.iconst 0, 1) := by decide +kernel
theorem dX5_look_16 : decode cX5_look 16 = .ok (.putfield 44, 3) := by decide +kernel
theorem dX5_look_19 : decode cX5_look 19 = .ok (.aload_n 0, 1) := by decide +kernel
theorem dX5_look_20 : decode cX5_look 20 = .ok (.getfield 44, 3) := by decide +kernel
theorem dX5_look_23 : decode cX5_look 23 = .ok (.ifCond .le 5, 3) := by decide +kernel
theorem dX5_look_26 : decode cX5_look 26 = .ok (.iconst 0, 1) := by decide +kernel
theorem dX5_look_27 : decode cX5_look 27 = .ok (.ireturn, 1) := by decide +kernel
theorem dX5_look_28 : decode cX5_look 28 = .ok (.iload_n 1, 1) := by decide +kernel
theorem dX5_look_29 : decode cX5_look 29 = .ok (.bipush 6, 2) := by decide +kernel
theorem dX5_look_31 : decode cX5_look 31 = .ok (.if_icmp .eq 9, 3) := by decide +kernel
theorem dX5_look_34 : decode cX5_look 34 = .ok (.iload_n 1, 1) := by decide +kernel
theorem dX5_look_35 : decode cX5_look 35 = .ok (.bipush 7, 2) := by decide +kernel
end
section
theorem dX5_look_37 : decode cX5_look 37 = .ok (.if_icmp .ne 7, 3) := by decide +kernel
theorem dX5_look_40 : decode cX5_look 40 = .ok (.iconst 1, 1) := by decide +kernel
theorem dX5_look_41 : decode cX5_look 41 = .ok (.goto 4, 3) := by decide +kernel
theorem dX5_look_44 : decode cX5_look 44 = .ok (.iconst 0, 1) := by decide +kernel
theorem dX5_look_45 : decode cX5_look 45 = .ok (.istore_n 2, 1) := by decide +kernel
theorem dX5_look_46 : decode cX5_look 46 = .ok (.aload_n 0, 1) := by decide +kernel
theorem dX5_look_47 : decode cX5_look 47 = .ok (.getfield 52, 3) := by decide +kernel
theorem dX5_look_50 : decode cX5_look 50 = .ok (.ifCond .ne 13, 3) := by decide +kernel
theorem dX5_look_53 : decode cX5_look 53 = .ok (.iload_n 2, 1) := by decide +kernel
theorem dX5_look_54 : decode cX5_look 54 = .ok (.ifCond .eq 7, 3) := by decide +kernel
theorem dX5_look_57 : decode cX5_look 57 = .ok (.iconst (-1), 1) := by decide +kernel
theorem dX5_look_58 : decode cX5_look 58 = .ok (.goto 4, 3) := by decide +kernel
theorem dX5_look_61 : decode cX5_look 61 = .ok (.iconst 0, 1) := by decide +kernel
theorem dX5_look_62 : decode cX5_look 62 = .ok (.ireturn, 1) := by decide +kernel
theorem dX5_look_63 : decode cX5_look 63 = .ok (.aload_n 0, 1) := by decide +kernel
theorem dX5_look_64 : decode cX5_look 64 = .ok (.getfield 62, 3) := by decide +kernel
theorem dX5_look_67 : decode cX5_look 67 = .ok (.iconst 1, 1) := by decide +kernel
theorem dX5_look_68 : decode cX5_look 68 = .ok (.isub, 1) := by decide +kernel
theorem dX5_look_69 : decode cX5_look 69 = .ok (.istore_n 3, 1) := by decide +kernel
theorem dX5_look_70 : decode cX5_look 70 = .ok (.iload_n 3, 1) := by decide +kernel
theorem dX5_look_71 : decode cX5_look 71 = .ok (.ifCond .ge 9, 3) := by decide +kernel
theorem dX5_look_74 : decode cX5_look 74 = .ok (.iload_n 2, 1) := by decide +kernel
theorem dX5_look_75 : decode cX5_look 75 = .ok (.ifCond .eq 5, 3) := by decide +kernel
theorem dX5_look_78 : decode cX5_look 78 = .ok (.iconst (-1), 1) := by decide +kernel
theorem dX5_look_79 : decode cX5_look 79 = .ok (.ireturn, 1) := by decide +kernel
theorem dX5_look_80 : decode cX5_look 80 = .ok (.iload_n 1, 1) := by decide +kernel
theorem dX5_look_81 : decode cX5_look 81 = .ok (.tableswitch 124 0 9 #[55, 60, 65, 70, 75, 80, 85, 92, 99, 119], 55) := by decide +kernel
theorem dX5_look_136 : decode cX5_look 136 = .ok (.aload_n 0, 1) := by decide +kernel
theorem dX5_look_137 : decode cX5_look 137 = .ok (.getfield 52, 3) := by decide +kernel
theorem dX5_look_140 : decode cX5_look 140 = .ok (.ireturn, 1) := by decide +kernel
theorem dX5_look_141 : decode cX5_look 141 = .ok (.aload_n 0, 1) := by decide +kernel
theorem dX5_look_142 : decode cX5_look 142 = .ok (.invokevirtual 65, 3) := by decide +kernel
theorem dX5_look_145 : decode cX5_look 145 = .ok (.ireturn, 1) := by decide +kernel
theorem dX5_look_146 : decode cX5_look 146 = .ok (.aload_n 0, 1) := by decide +kernel
theorem dX5_look_147 : decode cX5_look 147 = .ok (.getfield 78, 3) := by decide +kernel
theorem dX5_look_150 : decode cX5_look 150 = .ok (.ireturn, 1) := by decide +kernel
theorem dX5_look_151 : decode cX5_look 151 = .ok (.aload_n 0, 1) := by decide +kernel
theorem dX5_look_152 : decode cX5_look 152 = .ok (.getfield 91, 3) := by decide +kernel
theorem dX5_look_155 : decode cX5_look 155 = .ok (.ireturn, 1) := by decide +kernel
theorem dX5_look_156 : decode cX5_look 156 = .ok (.aload_n 0, 1) := by decide +kernel
theorem dX5_look_157 : decode cX5_look 157 = .ok (.getfield 75, 3) := by decide +kernel
theorem dX5_look_160 : decode cX5_look 160 = .ok (.ireturn, 1) := by decide +kernel
theorem dX5_look_161 : decode cX5_look 161 = .ok (.aload_n 0, 1) := by decide +kernel
theorem dX5_look_162 : decode cX5_look 162 = .ok (.getfield 62, 3) := by decide +kernel
theorem dX5_look_165 : decode cX5_look 165 = .ok (.ireturn, 1) := by decide +kernel
theorem dX5_look_166 : decode cX5_look 166 = .ok (.aload_n 0, 1) := by decide +kernel
theorem dX5_look_167 : decode cX5_look 167 = .ok (.getfield 23, 3) := by decide +kernel
theorem dX5_look_170 : decode cX5_look 170 = .ok (.iload_n 3, 1) := by decide +kernel
theorem dX5_look_171 : decode cX5_look 171 = .ok (.iaload, 1) := by decide +kernel
theorem dX5_look_172 : decode cX5_look 172 = .ok (.ireturn, 1) := by decide +kernel
theorem dX5_look_173 : decode cX5_look 173 = .ok (.aload_n 0, 1) := by decide +kernel
theorem dX5_look_174 : decode cX5_look 174 = .ok (.getfield 26, 3) := by decide +kernel
theorem dX5_look_177 : decode cX5_look 177 = .ok (.iload_n 3, 1) := by decide +kernel
theorem dX5_look_178 : decode cX5_look 178 = .ok (.iaload, 1) := by decide +kernel
theorem dX5_look_179 : decode cX5_look 179 = .ok (.ireturn, 1) := by decide +kernel
theorem dX5_look_180 : decode cX5_look 180 = .ok (.iload_n 3, 1) := by decide +kernel
theorem dX5_look_181 : decode cX5_look 181 = .ok (.ifCond .ge 7, 3) := by decide +kernel
theorem dX5_look_184 : decode cX5_look 184 = .ok (.iconst 0, 1) := by decide +kernel
theorem dX5_look_185 : decode cX5_look 185 = .ok (.goto 14, 3) := by decide +kernel
theorem dX5_look_188 : decode cX5_look 188 = .ok (.aload_n 0, 1) := by decide +kernel
theorem dX5_look_189 : decode cX5_look 189 = .ok (.getfield 59, 3) := by decide +kernel
theorem dX5_look_192 : decode cX5_look 192 = .ok (.aload_n 0, 1) := by decide +kernel
theorem dX5_look_193 : decode cX5_look 193 = .ok (.getfield 35, 3) := by decide +kernel
theorem dX5_look_196 : decode cX5_look 196 = .ok (.iload_n 3, 1) := by decide +kernel
theorem dX5_look_197 : decode cX5_look 197 = .ok (.iaload, 1) := by decide +kernel
theorem dX5_look_198 : decode cX5_look 198 = .ok (.isub, 1) := by decide +kernel
theorem dX5_look_199 : decode cX5_look 199 = .ok (.ireturn, 1) := by decide +kernel
theorem dX5_look_200 : decode cX5_look 200 = .ok (.aload_n 0, 1) := by decide +kernel
theorem dX5_look_201 : decode cX5_look 201 = .ok (.getfield 94, 3) := by decide +kernel
theorem dX5_look_204 : decode cX5_look 204 = .ok (.ireturn, 1) := by decide +kernel
theorem dX5_look_205 : decode cX5_look 205 = .ok (.aload_n 0, 1) := by decide +kernel
theorem dX5_look_206 : decode cX5_look 206 = .ok (.getfield 97, 3) := by decide +kernel
theorem dX5_look_209 : decode cX5_look 209 = .ok (.ireturn, 1) := by decide +kernel
theorem dX5_state_0 : decode cX5_state 0 = .ok (.aload_n 0, 1) := by decide +kernel
theorem dX5_state_1 : decode cX5_state 1 = .ok (.iload_n 1, 1) := by decide +kernel
theorem dX5_state_2 : decode cX5_state 2 = .ok (.invokestatic 48, 3) := by decide +kernel
theorem dX5_state_5 : decode cX5_state 5 = .ok (.ifCond .eq 7, 3) := by decide +kernel
theorem dX5_state_8 : decode cX5_state 8 = .ok (.iconst 0, 1) := by decide +kernel
theorem dX5_state_9 : decode cX5_state 9 = .ok (.goto 4, 3) := by decide +kernel
theorem dX5_state_12 : decode cX5_state 12 = .ok (.iconst 1, 1) := by decide +kernel
theorem dX5_state_13 : decode cX5_state 13 = .ok (.putfield 44, 3) := by decide +kernel
theorem dX5_state_16 : decode cX5_state 16 = .ok (.aload_n 0, 1) := by decide +kernel
theorem dX5_state_17 : decode cX5_state 17 = .ok (.getfield 44, 3) := by decide +kernel
theorem dX5_state_20 : decode cX5_state 20 = .ok (.ifCond .gt 10, 3) := by decide +kernel
theorem dX5_state_23 : decode cX5_state 23 = .ok (.aload_n 0, 1) := by decide +kernel
theorem dX5_state_24 : decode cX5_state 24 = .ok (.getfield 52, 3) := by decide +kernel
theorem dX5_state_27 : decode cX5_state 27 = .ok (.ifCond .ne 5, 3) := by decide +kernel
theorem dX5_state_30 : decode cX5_state 30 = .ok (.iconst 0, 1) := by decide +kernel
theorem dX5_state_31 : decode cX5_state 31 = .ok (.ireturn, 1) := by decide +kernel
theorem dX5_state_32 : decode cX5_state 32 = .ok (.aload_n 0, 1) := by decide +kernel
theorem dX5_state_33 : decode cX5_state 33 = .ok (.getfield 16, 3) := by decide +kernel
theorem dX5_state_36 : decode cX5_state 36 = .ok (.iload_n 1, 1) := by decide +kernel
theorem dX5_state_37 : decode cX5_state 37 = .ok (.baload, 1) := by decide +kernel
theorem dX5_state_38 : decode cX5_state 38 = .ok (.ifCond .eq 7, 3) := by decide +kernel
theorem dX5_state_41 : decode cX5_state 41 = .ok (.iconst 1, 1) := by decide +kernel
theorem dX5_state_42 : decode cX5_state 42 = .ok (.goto 4, 3) := by decide +kernel
theorem dX5_state_45 : decode cX5_state 45 = .ok (.iconst 0, 1) := by decide +kernel
theorem dX5_state_46 : decode cX5_state 46 = .ok (.aload_n 0, 1) := by decide +kernel
theorem dX5_state_47 : decode cX5_state 47 = .ok (.iload_n 1, 1) := by decide +kernel
theorem dX5_state_48 : decode cX5_state 48 = .ok (.invokevirtual 72, 3) := by decide +kernel
theorem dX5_state_51 : decode cX5_state 51 = .ok (.ifCond .eq 7, 3) := by decide +kernel
theorem dX5_state_54 : decode cX5_state 54 = .ok (.iconst 2, 1) := by decide +kernel
theorem dX5_state_55 : decode cX5_state 55 = .ok (.goto 4, 3) := by decide +kernel
theorem dX5_state_58 : decode cX5_state 58 = .ok (.iconst 0, 1) := by decide +kernel
theorem dX5_state_59 : decode cX5_state 59 = .ok (.iadd, 1) := by decide +kernel
theorem dX5_state_60 : decode cX5_state 60 = .ok (.ireturn, 1) := by decide +kernel
theorem dX5_out_0 : decode cX5_out 0 = .ok (.aload_n 0, 1) := by decide +kernel
theorem dX5_out_1 : decode cX5_out 1 = .ok (.aload_n 0, 1) := by decide +kernel
theorem dX5_out_2 : decode cX5_out 2 = .ok (.getfield 52, 3) := by decide +kernel
theorem dX5_out_5 : decode cX5_out 5 = .ok (.ifCond .eq 15, 3) := by decide +kernel
theorem dX5_out_8 : decode cX5_out 8 = .ok (.iload_n 1, 1) := by decide +kernel
theorem dX5_out_9 : decode cX5_out 9 = .ok (.ifCond .lt 11, 3) := by decide +kernel
theorem dX5_out_12 : decode cX5_out 12 = .ok (.iload_n 1, 1) := by decide +kernel
theorem dX5_out_13 : decode cX5_out 13 = .ok (.aload_n 0, 1) := by decide +kernel
theorem dX5_out_14 : decode cX5_out 14 = .ok (.getfield 97, 3) := by decide +kernel
theorem dX5_out_17 : decode cX5_out 17 = .ok (.if_icmp .lt 7, 3) := by decide +kernel
theorem dX5_out_20 : decode cX5_out 20 = .ok (.iconst 1, 1) := by decide +kernel
theorem dX5_out_21 : decode cX5_out 21 = .ok (.goto 4, 3) := by decide +kernel
theorem dX5_out_24 : decode cX5_out 24 = .ok (.iconst 0, 1) := by decide +kernel
theorem dX5_out_25 : decode cX5_out 25 = .ok (.putfield 44, 3) := by decide +kernel
theorem dX5_out_28 : decode cX5_out 28 = .ok (.aload_n 0, 1) := by decide +kernel
theorem dX5_out_29 : decode cX5_out 29 = .ok (.getfield 44, 3) := by decide +kernel
theorem dX5_out_32 : decode cX5_out 32 = .ok (.ifCond .le 7, 3) := by decide +kernel
theorem dX5_out_35 : decode cX5_out 35 = .ok (.iconst 0, 1) := by decide +kernel
theorem dX5_out_36 : decode cX5_out 36 = .ok (.goto 9, 3) := by decide +kernel
theorem dX5_out_39 : decode cX5_out 39 = .ok (.aload_n 0, 1) := by decide +kernel
theorem dX5_out_40 : decode cX5_out 40 = .ok (.getfield 41, 3) := by decide +kernel
theorem dX5_out_43 : decode cX5_out 43 = .ok (.iload_n 1, 1) := by decide +kernel
theorem dX5_out_44 : decode cX5_out 44 = .ok (.iaload, 1) := by decide +kernel
theorem dX5_out_45 : decode cX5_out 45 = .ok (.ireturn, 1) := by decide +kernel
theorem dX5_local_0 : decode cX5_local 0 = .ok (.aload_n 0, 1) := by decide +kernel
theorem dX5_local_1 : decode cX5_local 1 = .ok (.iconst 0, 1) := by decide +kernel
theorem dX5_local_2 : decode cX5_local 2 = .ok (.putfield 44, 3) := by decide +kernel
theorem dX5_local_5 : decode cX5_local 5 = .ok (.aload_n 0, 1) := by decide +kernel
theorem dX5_local_6 : decode cX5_local 6 = .ok (.getfield 52, 3) := by decide +kernel
theorem dX5_local_9 : decode cX5_local 9 = .ok (.ifCond .eq 29, 3) := by decide +kernel
theorem dX5_local_12 : decode cX5_local 12 = .ok (.iload_n 1, 1) := by decide +kernel
theorem dX5_local_13 : decode cX5_local 13 = .ok (.ifCond .lt 25, 3) := by decide +kernel
theorem dX5_local_16 : decode cX5_local 16 = .ok (.iload_n 1, 1) := by decide +kernel
theorem dX5_local_17 : decode cX5_local 17 = .ok (.aload_n 0, 1) := by decide +kernel
theorem dX5_local_18 : decode cX5_local 18 = .ok (.getfield 62, 3) := by decide +kernel
theorem dX5_local_21 : decode cX5_local 21 = .ok (.if_icmp .ge 17, 3) := by decide +kernel
theorem dX5_local_24 : decode cX5_local 24 = .ok (.iload_n 2, 1) := by decide +kernel
theorem dX5_local_25 : decode cX5_local 25 = .ok (.ifCond .lt 13, 3) := by decide +kernel
theorem dX5_local_28 : decode cX5_local 28 = .ok (.iload_n 2, 1) := by decide +kernel
theorem dX5_local_29 : decode cX5_local 29 = .ok (.aload_n 0, 1) := by decide +kernel
theorem dX5_local_30 : decode cX5_local 30 = .ok (.getfield 29, 3) := by decide +kernel
theorem dX5_local_33 : decode cX5_local 33 = .ok (.iload_n 1, 1) := by decide +kernel
theorem dX5_local_34 : decode cX5_local 34 = .ok (.iaload, 1) := by decide +kernel
theorem dX5_local_35 : decode cX5_local 35 = .ok (.if_icmp .lt 7, 3) := by decide +kernel
theorem dX5_local_38 : decode cX5_local 38 = .ok (.iconst 0, 1) := by decide +kernel
theorem dX5_local_39 : decode cX5_local 39 = .ok (.goto 14, 3) := by decide +kernel
theorem dX5_local_42 : decode cX5_local 42 = .ok (.aload_n 0, 1) := by decide +kernel
theorem dX5_local_43 : decode cX5_local 43 = .ok (.getfield 32, 3) := by decide +kernel
theorem dX5_local_46 : decode cX5_local 46 = .ok (.bipush 6, 2) := by decide +kernel
theorem dX5_local_48 : decode cX5_local 48 = .ok (.iload_n 1, 1) := by decide +kernel
theorem dX5_local_49 : decode cX5_local 49 = .ok (.imul, 1) := by decide +kernel
theorem dX5_local_50 : decode cX5_local 50 = .ok (.iload_n 2, 1) := by decide +kernel
theorem dX5_local_51 : decode cX5_local 51 = .ok (.iadd, 1) := by decide +kernel
theorem dX5_local_52 : decode cX5_local 52 = .ok (.iaload, 1) := by decide +kernel
theorem dX5_local_53 : decode cX5_local 53 = .ok (.ireturn, 1) := by decide +kernel
theorem dL_code_0 : decode cL_code 0 = .ok (.aload_n 3, 1) := by decide +kernel
theorem dL_code_1 : decode cL_code 1 = .ok (.iconst 0, 1) := by decide +kernel
theorem dL_code_2 : decode cL_code 2 = .ok (.aload_n 0, 1) := by decide +kernel
theorem dL_code_3 : decode cL_code 3 = .ok (.iload_n 1, 1) := by decide +kernel
theorem dL_code_4 : decode cL_code 4 = .ok (.iload_n 2, 1) := by decide +kernel
theorem dL_code_5 : decode cL_code 5 = .ok (.invokevirtual 7, 3) := by decide +kernel
theorem dL_code_8 : decode cL_code 8 = .ok (.i2l, 1) := by decide +kernel
theorem dL_code_9 : decode cL_code 9 = .ok (.lastore, 1) := by decide +kernel
theorem dL_code_10 : decode cL_code 10 = .ok (.goto 11, 3) := by decide +kernel
theorem dL_code_13 : decode cL_code 13 = .ok (.astore 4, 2) := by decide +kernel
theorem dL_code_15 : decode cL_code 15 = .ok (.iconst 1, 1) := by decide +kernel
theorem dL_code_16 : decode cL_code 16 = .ok (.ireturn, 1) := by decide +kernel
theorem dL_code_17 : decode cL_code 17 = .ok (.astore 4, 2) := by decide +kernel
theorem dL_code_19 : decode cL_code 19 = .ok (.iconst 2, 1) := by decide +kernel
theorem dL_code_20 : decode cL_code 20 = .ok (.ireturn, 1) := by decide +kernel
theorem dL_code_21 : decode cL_code 21 = .ok (.iconst 0, 1) := by decide +kernel
theorem dL_code_22 : decode cL_code 22 = .ok (.ireturn, 1) := by decide +kernel
theorem dL_clear_0 : decode cL_clear 0 = .ok (.aload_n 0, 1) := by decide +kernel
theorem dL_clear_1 : decode cL_clear 1 = .ok (.iload_n 1, 1) := by decide +kernel
theorem dL_clear_2 : decode cL_clear 2 = .ok (.invokevirtual 17, 3) := by decide +kernel
theorem dL_clear_5 : decode cL_clear 5 = .ok (.goto 6, 3) := by decide +kernel
theorem dL_clear_8 : decode cL_clear 8 = .ok (.astore_n 2, 1) := by decide +kernel
theorem dL_clear_9 : decode cL_clear 9 = .ok (.iconst 1, 1) := by decide +kernel
theorem dL_clear_10 : decode cL_clear 10 = .ok (.ireturn, 1) := by decide +kernel
theorem dL_clear_11 : decode cL_clear 11 = .ok (.iconst 0, 1) := by decide +kernel
theorem dL_clear_12 : decode cL_clear 12 = .ok (.ireturn, 1) := by decide +kernel
theorem dL_good_0 : decode cL_good 0 = .ok (.aload_n 2, 1) := by decide +kernel
theorem dL_good_1 : decode cL_good 1 = .ok (.iconst 0, 1) := by decide +kernel
theorem dL_good_2 : decode cL_good 2 = .ok (.aload_n 0, 1) := by decide +kernel
theorem dL_good_3 : decode cL_good 3 = .ok (.iload_n 1, 1) := by decide +kernel
theorem dL_good_4 : decode cL_good 4 = .ok (.invokevirtual 21, 3) := by decide +kernel
theorem dL_good_7 : decode cL_good 7 = .ok (.i2l, 1) := by decide +kernel
theorem dL_good_8 : decode cL_good 8 = .ok (.lastore, 1) := by decide +kernel
theorem dL_good_9 : decode cL_good 9 = .ok (.goto 6, 3) := by decide +kernel
theorem dL_good_12 : decode cL_good 12 = .ok (.astore_n 3, 1) := by decide +kernel
theorem dL_good_13 : decode cL_good 13 = .ok (.iconst 1, 1) := by decide +kernel
theorem dL_good_14 : decode cL_good 14 = .ok (.ireturn, 1) := by decide +kernel
theorem dL_good_15 : decode cL_good 15 = .ok (.iconst 0, 1) := by decide +kernel
theorem dL_good_16 : decode cL_good 16 = .ok (.ireturn, 1) := by decide +kernel
theorem dL_start_0 : decode cL_start 0 = .ok (.aload_n 0, 1) := by decide +kernel
theorem dL_start_1 : decode cL_start 1 = .ok (.iload_n 1, 1) := by decide +kernel
theorem dL_start_2 : decode cL_start 2 = .ok (.iload_n 2, 1) := by decide +kernel
theorem dL_start_3 : decode cL_start 3 = .ok (.iload_n 3, 1) := by decide +kernel
theorem dL_start_4 : decode cL_start 4 = .ok (.invokevirtual 25, 3) := by decide +kernel
theorem dL_start_7 : decode cL_start 7 = .ok (.goto 11, 3) := by decide +kernel
theorem dL_start_10 : decode cL_start 10 = .ok (.astore 4, 2) := by decide +kernel
theorem dL_start_12 : decode cL_start 12 = .ok (.iconst 1, 1) := by decide +kernel
theorem dL_start_13 : decode cL_start 13 = .ok (.ireturn, 1) := by decide +kernel
theorem dL_start_14 : decode cL_start 14 = .ok (.astore 4, 2) := by decide +kernel
theorem dL_start_16 : decode cL_start 16 = .ok (.iconst 2, 1) := by decide +kernel
theorem dL_start_17 : decode cL_start 17 = .ok (.ireturn, 1) := by decide +kernel
theorem dL_start_18 : decode cL_start 18 = .ok (.iconst 0, 1) := by decide +kernel
theorem dL_start_19 : decode cL_start 19 = .ok (.ireturn, 1) := by decide +kernel
theorem dL_step_0 : decode cL_step 0 = .ok (.aload_n 2, 1) := by decide +kernel
theorem dL_step_1 : decode cL_step 1 = .ok (.iconst 0, 1) := by decide +kernel
theorem dL_step_2 : decode cL_step 2 = .ok (.aload_n 0, 1) := by decide +kernel
theorem dL_step_3 : decode cL_step 3 = .ok (.iload_n 1, 1) := by decide +kernel
theorem dL_step_4 : decode cL_step 4 = .ok (.invokevirtual 31, 3) := by decide +kernel
theorem dL_step_7 : decode cL_step 7 = .ok (.i2l, 1) := by decide +kernel
theorem dL_step_8 : decode cL_step 8 = .ok (.lastore, 1) := by decide +kernel
theorem dL_step_9 : decode cL_step 9 = .ok (.goto 9, 3) := by decide +kernel
theorem dL_step_12 : decode cL_step 12 = .ok (.astore_n 3, 1) := by decide +kernel
theorem dL_step_13 : decode cL_step 13 = .ok (.iconst 1, 1) := by decide +kernel
theorem dL_step_14 : decode cL_step 14 = .ok (.ireturn, 1) := by decide +kernel
theorem dL_step_15 : decode cL_step 15 = .ok (.astore_n 3, 1) := by decide +kernel
theorem dL_step_16 : decode cL_step 16 = .ok (.iconst 2, 1) := by decide +kernel
theorem dL_step_17 : decode cL_step 17 = .ok (.ireturn, 1) := by decide +kernel
theorem dL_step_18 : decode cL_step 18 = .ok (.iconst 0, 1) := by decide +kernel
theorem dL_step_19 : decode cL_step 19 = .ok (.ireturn, 1) := by decide +kernel
theorem dL_look_0 : decode cL_look 0 = .ok (.aload_n 2, 1) := by decide +kernel
theorem dL_look_1 : decode cL_look 1 = .ok (.iconst 0, 1) := by decide +kernel
theorem dL_look_2 : decode cL_look 2 = .ok (.aload_n 0, 1) := by decide +kernel
theorem dL_look_3 : decode cL_look 3 = .ok (.iload_n 1, 1) := by decide +kernel
theorem dL_look_4 : decode cL_look 4 = .ok (.invokevirtual 34, 3) := by decide +kernel
theorem dL_look_7 : decode cL_look 7 = .ok (.i2l, 1) := by decide +kernel
theorem dL_look_8 : decode cL_look 8 = .ok (.lastore, 1) := by decide +kernel
theorem dL_look_9 : decode cL_look 9 = .ok (.goto 6, 3) := by decide +kernel
theorem dL_look_12 : decode cL_look 12 = .ok (.astore_n 3, 1) := by decide +kernel
theorem dL_look_13 : decode cL_look 13 = .ok (.iconst 1, 1) := by decide +kernel
theorem dL_look_14 : decode cL_look 14 = .ok (.ireturn, 1) := by decide +kernel
theorem dL_look_15 : decode cL_look 15 = .ok (.iconst 0, 1) := by decide +kernel
theorem dL_look_16 : decode cL_look 16 = .ok (.ireturn, 1) := by decide +kernel
theorem dL_state_0 : decode cL_state 0 = .ok (.aload_n 2, 1) := by decide +kernel
theorem dL_state_1 : decode cL_state 1 = .ok (.iconst 0, 1) := by decide +kernel
theorem dL_state_2 : decode cL_state 2 = .ok (.aload_n 0, 1) := by decide +kernel
theorem dL_state_3 : decode cL_state 3 = .ok (.iload_n 1, 1) := by decide +kernel
theorem dL_state_4 : decode cL_state 4 = .ok (.invokevirtual 37, 3) := by decide +kernel
theorem dL_state_7 : decode cL_state 7 = .ok (.i2l, 1) := by decide +kernel
theorem dL_state_8 : decode cL_state 8 = .ok (.lastore, 1) := by decide +kernel
theorem dL_state_9 : decode cL_state 9 = .ok (.goto 6, 3) := by decide +kernel
theorem dL_state_12 : decode cL_state 12 = .ok (.astore_n 3, 1) := by decide +kernel
theorem dL_state_13 : decode cL_state 13 = .ok (.iconst 1, 1) := by decide +kernel
theorem dL_state_14 : decode cL_state 14 = .ok (.ireturn, 1) := by decide +kernel
theorem dL_state_15 : decode cL_state 15 = .ok (.iconst 0, 1) := by decide +kernel
theorem dL_state_16 : decode cL_state 16 = .ok (.ireturn, 1) := by decide +kernel
theorem dL_out_0 : decode cL_out 0 = .ok (.aload_n 2, 1) := by decide +kernel
theorem dL_out_1 : decode cL_out 1 = .ok (.iconst 0, 1) := by decide +kernel
theorem dL_out_2 : decode cL_out 2 = .ok (.aload_n 0, 1) := by decide +kernel
theorem dL_out_3 : decode cL_out 3 = .ok (.iload_n 1, 1) := by decide +kernel
theorem dL_out_4 : decode cL_out 4 = .ok (.invokevirtual 40, 3) := by decide +kernel
theorem dL_out_7 : decode cL_out 7 = .ok (.i2l, 1) := by decide +kernel
theorem dL_out_8 : decode cL_out 8 = .ok (.lastore, 1) := by decide +kernel
theorem dL_out_9 : decode cL_out 9 = .ok (.goto 6, 3) := by decide +kernel
theorem dL_out_12 : decode cL_out 12 = .ok (.astore_n 3, 1) := by decide +kernel
theorem dL_out_13 : decode cL_out 13 = .ok (.iconst 1, 1) := by decide +kernel
theorem dL_out_14 : decode cL_out 14 = .ok (.ireturn, 1) := by decide +kernel
theorem dL_out_15 : decode cL_out 15 = .ok (.iconst 0, 1) := by decide +kernel
theorem dL_out_16 : decode cL_out 16 = .ok (.ireturn, 1) := by decide +kernel
theorem dL_law_0 : decode cL_law 0 = .ok (.new 8, 3) := by decide +kernel
theorem dL_law_3 : decode cL_law 3 = .ok (.dup, 1) := by decide +kernel
theorem dL_law_4 : decode cL_law 4 = .ok (.invokespecial 43, 3) := by decide +kernel
theorem dL_law_7 : decode cL_law 7 = .ok (.astore_n 1, 1) := by decide +kernel
theorem dL_law_8 : decode cL_law 8 = .ok (.new 44, 3) := by decide +kernel
theorem dL_law_11 : decode cL_law 11 = .ok (.dup, 1) := by decide +kernel
theorem dL_law_12 : decode cL_law 12 = .ok (.invokespecial 46, 3) := by decide +kernel
theorem dL_law_15 : decode cL_law 15 = .ok (.astore_n 2, 1) := by decide +kernel
theorem dL_law_16 : decode cL_law 16 = .ok (.iconst 1, 1) := by decide +kernel
theorem dL_law_17 : decode cL_law 17 = .ok (.newarray .long, 2) := by decide +kernel
theorem dL_law_19 : decode cL_law 19 = .ok (.astore_n 3, 1) := by decide +kernel
theorem dL_law_20 : decode cL_law 20 = .ok (.iconst 0, 1) := by decide +kernel
theorem dL_law_21 : decode cL_law 21 = .ok (.istore 4, 2) := by decide +kernel
theorem dL_law_23 : decode cL_law 23 = .ok (.iload 4, 2) := by decide +kernel
theorem dL_law_25 : decode cL_law 25 = .ok (.aload_n 0, 1) := by decide +kernel
theorem dL_law_26 : decode cL_law 26 = .ok (.arraylength, 1) := by decide +kernel
theorem dL_law_27 : decode cL_law 27 = .ok (.iconst 4, 1) := by decide +kernel
theorem dL_law_28 : decode cL_law 28 = .ok (.isub, 1) := by decide +kernel
theorem dL_law_29 : decode cL_law 29 = .ok (.if_icmp .gt 548, 3) := by decide +kernel
theorem dL_law_32 : decode cL_law 32 = .ok (.aload_n 0, 1) := by decide +kernel
theorem dL_law_33 : decode cL_law 33 = .ok (.iload 4, 2) := by decide +kernel
theorem dL_law_35 : decode cL_law 35 = .ok (.iaload, 1) := by decide +kernel
theorem dL_law_36 : decode cL_law 36 = .ok (.bipush 15, 2) := by decide +kernel
theorem dL_law_38 : decode cL_law 38 = .ok (.iand, 1) := by decide +kernel
theorem dL_law_39 : decode cL_law 39 = .ok (.tableswitch 532 0 8 #[49, 119, 155, 211, 271, 327, 383, 439, 495], 49) := by decide +kernel
theorem dL_law_88 : decode cL_law 88 = .ok (.aload_n 1, 1) := by decide +kernel
theorem dL_law_89 : decode cL_law 89 = .ok (.aload_n 0, 1) := by decide +kernel
theorem dL_law_90 : decode cL_law 90 = .ok (.iload 4, 2) := by decide +kernel
theorem dL_law_92 : decode cL_law 92 = .ok (.iconst 1, 1) := by decide +kernel
theorem dL_law_93 : decode cL_law 93 = .ok (.iadd, 1) := by decide +kernel
theorem dL_law_94 : decode cL_law 94 = .ok (.iaload, 1) := by decide +kernel
theorem dL_law_95 : decode cL_law 95 = .ok (.aload_n 0, 1) := by decide +kernel
theorem dL_law_96 : decode cL_law 96 = .ok (.iload 4, 2) := by decide +kernel
theorem dL_law_98 : decode cL_law 98 = .ok (.iconst 2, 1) := by decide +kernel
theorem dL_law_99 : decode cL_law 99 = .ok (.iadd, 1) := by decide +kernel
theorem dL_law_100 : decode cL_law 100 = .ok (.iaload, 1) := by decide +kernel
theorem dL_law_101 : decode cL_law 101 = .ok (.i2b, 1) := by decide +kernel
theorem dL_law_102 : decode cL_law 102 = .ok (.aload_n 3, 1) := by decide +kernel
theorem dL_law_103 : decode cL_law 103 = .ok (.invokestatic 47, 3) := by decide +kernel
theorem dL_law_106 : decode cL_law 106 = .ok (.istore 5, 2) := by decide +kernel
theorem dL_law_108 : decode cL_law 108 = .ok (.aload_n 2, 1) := by decide +kernel
theorem dL_law_109 : decode cL_law 109 = .ok (.aload_n 0, 1) := by decide +kernel
theorem dL_law_110 : decode cL_law 110 = .ok (.iload 4, 2) := by decide +kernel
theorem dL_law_112 : decode cL_law 112 = .ok (.iconst 1, 1) := by decide +kernel
theorem dL_law_113 : decode cL_law 113 = .ok (.iadd, 1) := by decide +kernel
theorem dL_law_114 : decode cL_law 114 = .ok (.iaload, 1) := by decide +kernel
theorem dL_law_115 : decode cL_law 115 = .ok (.aload_n 0, 1) := by decide +kernel
theorem dL_law_116 : decode cL_law 116 = .ok (.iload 4, 2) := by decide +kernel
theorem dL_law_118 : decode cL_law 118 = .ok (.iconst 2, 1) := by decide +kernel
theorem dL_law_119 : decode cL_law 119 = .ok (.iadd, 1) := by decide +kernel
theorem dL_law_120 : decode cL_law 120 = .ok (.iaload, 1) := by decide +kernel
theorem dL_law_121 : decode cL_law 121 = .ok (.i2b, 1) := by decide +kernel
theorem dL_law_122 : decode cL_law 122 = .ok (.invokevirtual 52, 3) := by decide +kernel
theorem dL_law_125 : decode cL_law 125 = .ok (.istore 6, 2) := by decide +kernel
theorem dL_law_127 : decode cL_law 127 = .ok (.aload_n 2, 1) := by decide +kernel
theorem dL_law_128 : decode cL_law 128 = .ok (.invokevirtual 53, 3) := by decide +kernel
theorem dL_law_131 : decode cL_law 131 = .ok (.iload 5, 2) := by decide +kernel
theorem dL_law_133 : decode cL_law 133 = .ok (.if_icmp .eq 5, 3) := by decide +kernel
theorem dL_law_136 : decode cL_law 136 = .ok (.iconst 0, 1) := by decide +kernel
theorem dL_law_137 : decode cL_law 137 = .ok (.ireturn, 1) := by decide +kernel
theorem dL_law_138 : decode cL_law 138 = .ok (.iload 5, 2) := by decide +kernel
theorem dL_law_140 : decode cL_law 140 = .ok (.ifCond .ne 15, 3) := by decide +kernel
theorem dL_law_143 : decode cL_law 143 = .ok (.aload_n 3, 1) := by decide +kernel
theorem dL_law_144 : decode cL_law 144 = .ok (.iconst 0, 1) := by decide +kernel
theorem dL_law_145 : decode cL_law 145 = .ok (.laload, 1) := by decide +kernel
theorem dL_law_146 : decode cL_law 146 = .ok (.iload 6, 2) := by decide +kernel
theorem dL_law_148 : decode cL_law 148 = .ok (.i2l, 1) := by decide +kernel
theorem dL_law_149 : decode cL_law 149 = .ok (.lcmp, 1) := by decide +kernel
theorem dL_law_150 : decode cL_law 150 = .ok (.ifCond .eq 5, 3) := by decide +kernel
theorem dL_law_153 : decode cL_law 153 = .ok (.iconst 0, 1) := by decide +kernel
theorem dL_law_154 : decode cL_law 154 = .ok (.ireturn, 1) := by decide +kernel
theorem dL_law_155 : decode cL_law 155 = .ok (.goto 416, 3) := by decide +kernel
theorem dL_law_158 : decode cL_law 158 = .ok (.aload_n 1, 1) := by decide +kernel
theorem dL_law_159 : decode cL_law 159 = .ok (.aload_n 0, 1) := by decide +kernel
theorem dL_law_160 : decode cL_law 160 = .ok (.iload 4, 2) := by decide +kernel
theorem dL_law_162 : decode cL_law 162 = .ok (.iconst 1, 1) := by decide +kernel
theorem dL_law_163 : decode cL_law 163 = .ok (.iadd, 1) := by decide +kernel
theorem dL_law_164 : decode cL_law 164 = .ok (.iaload, 1) := by decide +kernel
theorem dL_law_165 : decode cL_law 165 = .ok (.invokestatic 57, 3) := by decide +kernel
theorem dL_law_168 : decode cL_law 168 = .ok (.istore 5, 2) := by decide +kernel
theorem dL_law_170 : decode cL_law 170 = .ok (.aload_n 2, 1) := by decide +kernel
theorem dL_law_171 : decode cL_law 171 = .ok (.aload_n 0, 1) := by decide +kernel
theorem dL_law_172 : decode cL_law 172 = .ok (.iload 4, 2) := by decide +kernel
theorem dL_law_174 : decode cL_law 174 = .ok (.iconst 1, 1) := by decide +kernel
theorem dL_law_175 : decode cL_law 175 = .ok (.iadd, 1) := by decide +kernel
theorem dL_law_176 : decode cL_law 176 = .ok (.iaload, 1) := by decide +kernel
theorem dL_law_177 : decode cL_law 177 = .ok (.invokevirtual 60, 3) := by decide +kernel
theorem dL_law_180 : decode cL_law 180 = .ok (.aload_n 2, 1) := by decide +kernel
theorem dL_law_181 : decode cL_law 181 = .ok (.invokevirtual 53, 3) := by decide +kernel
theorem dL_law_184 : decode cL_law 184 = .ok (.iload 5, 2) := by decide +kernel
theorem dL_law_186 : decode cL_law 186 = .ok (.if_icmp .eq 5, 3) := by decide +kernel
theorem dL_law_189 : decode cL_law 189 = .ok (.iconst 0, 1) := by decide +kernel
theorem dL_law_190 : decode cL_law 190 = .ok (.ireturn, 1) := by decide +kernel
theorem dL_law_191 : decode cL_law 191 = .ok (.goto 380, 3) := by decide +kernel
theorem dL_law_194 : decode cL_law 194 = .ok (.aload_n 1, 1) := by decide +kernel
theorem dL_law_195 : decode cL_law 195 = .ok (.aload_n 0, 1) := by decide +kernel
theorem dL_law_196 : decode cL_law 196 = .ok (.iload 4, 2) := by decide +kernel
theorem dL_law_198 : decode cL_law 198 = .ok (.iconst 1, 1) := by decide +kernel
theorem dL_law_199 : decode cL_law 199 = .ok (.iadd, 1) := by decide +kernel
theorem dL_law_200 : decode cL_law 200 = .ok (.iaload, 1) := by decide +kernel
theorem dL_law_201 : decode cL_law 201 = .ok (.aload_n 3, 1) := by decide +kernel
theorem dL_law_202 : decode cL_law 202 = .ok (.invokestatic 61, 3) := by decide +kernel
theorem dL_law_205 : decode cL_law 205 = .ok (.istore 5, 2) := by decide +kernel
theorem dL_law_207 : decode cL_law 207 = .ok (.aload_n 2, 1) := by decide +kernel
theorem dL_law_208 : decode cL_law 208 = .ok (.aload_n 0, 1) := by decide +kernel
theorem dL_law_209 : decode cL_law 209 = .ok (.iload 4, 2) := by decide +kernel
theorem dL_law_211 : decode cL_law 211 = .ok (.iconst 1, 1) := by decide +kernel
theorem dL_law_212 : decode cL_law 212 = .ok (.iadd, 1) := by decide +kernel
theorem dL_law_213 : decode cL_law 213 = .ok (.iaload, 1) := by decide +kernel
theorem dL_law_214 : decode cL_law 214 = .ok (.invokevirtual 64, 3) := by decide +kernel
theorem dL_law_217 : decode cL_law 217 = .ok (.istore 6, 2) := by decide +kernel
theorem dL_law_219 : decode cL_law 219 = .ok (.aload_n 2, 1) := by decide +kernel
theorem dL_law_220 : decode cL_law 220 = .ok (.invokevirtual 53, 3) := by decide +kernel
theorem dL_law_223 : decode cL_law 223 = .ok (.iload 5, 2) := by decide +kernel
theorem dL_law_225 : decode cL_law 225 = .ok (.if_icmp .eq 5, 3) := by decide +kernel
theorem dL_law_228 : decode cL_law 228 = .ok (.iconst 0, 1) := by decide +kernel
theorem dL_law_229 : decode cL_law 229 = .ok (.ireturn, 1) := by decide +kernel
theorem dL_law_230 : decode cL_law 230 = .ok (.iload 5, 2) := by decide +kernel
theorem dL_law_232 : decode cL_law 232 = .ok (.ifCond .ne 15, 3) := by decide +kernel
theorem dL_law_235 : decode cL_law 235 = .ok (.aload_n 3, 1) := by decide +kernel
theorem dL_law_236 : decode cL_law 236 = .ok (.iconst 0, 1) := by decide +kernel
theorem dL_law_237 : decode cL_law 237 = .ok (.laload, 1) := by decide +kernel
theorem dL_law_238 : decode cL_law 238 = .ok (.iload 6, 2) := by decide +kernel
theorem dL_law_240 : decode cL_law 240 = .ok (.i2l, 1) := by decide +kernel
theorem dL_law_241 : decode cL_law 241 = .ok (.lcmp, 1) := by decide +kernel
theorem dL_law_242 : decode cL_law 242 = .ok (.ifCond .eq 5, 3) := by decide +kernel
theorem dL_law_245 : decode cL_law 245 = .ok (.iconst 0, 1) := by decide +kernel
theorem dL_law_246 : decode cL_law 246 = .ok (.ireturn, 1) := by decide +kernel
theorem dL_law_247 : decode cL_law 247 = .ok (.goto 324, 3) := by decide +kernel
theorem dL_law_250 : decode cL_law 250 = .ok (.aload_n 1, 1) := by decide +kernel
theorem dL_law_251 : decode cL_law 251 = .ok (.aload_n 0, 1) := by decide +kernel
theorem dL_law_252 : decode cL_law 252 = .ok (.iload 4, 2) := by decide +kernel
theorem dL_law_254 : decode cL_law 254 = .ok (.iconst 1, 1) := by decide +kernel
theorem dL_law_255 : decode cL_law 255 = .ok (.iadd, 1) := by decide +kernel
theorem dL_law_256 : decode cL_law 256 = .ok (.iaload, 1) := by decide +kernel
theorem dL_law_257 : decode cL_law 257 = .ok (.aload_n 0, 1) := by decide +kernel
theorem dL_law_258 : decode cL_law 258 = .ok (.iload 4, 2) := by decide +kernel
theorem dL_law_260 : decode cL_law 260 = .ok (.iconst 2, 1) := by decide +kernel
theorem dL_law_261 : decode cL_law 261 = .ok (.iadd, 1) := by decide +kernel
theorem dL_law_262 : decode cL_law 262 = .ok (.iaload, 1) := by decide +kernel
theorem dL_law_263 : decode cL_law 263 = .ok (.aload_n 0, 1) := by decide +kernel
theorem dL_law_264 : decode cL_law 264 = .ok (.iload 4, 2) := by decide +kernel
theorem dL_law_266 : decode cL_law 266 = .ok (.iconst 3, 1) := by decide +kernel
theorem dL_law_267 : decode cL_law 267 = .ok (.iadd, 1) := by decide +kernel
theorem dL_law_268 : decode cL_law 268 = .ok (.iaload, 1) := by decide +kernel
theorem dL_law_269 : decode cL_law 269 = .ok (.invokestatic 65, 3) := by decide +kernel
theorem dL_law_272 : decode cL_law 272 = .ok (.istore 5, 2) := by decide +kernel
theorem dL_law_274 : decode cL_law 274 = .ok (.aload_n 2, 1) := by decide +kernel
theorem dL_law_275 : decode cL_law 275 = .ok (.aload_n 0, 1) := by decide +kernel
theorem dL_law_276 : decode cL_law 276 = .ok (.iload 4, 2) := by decide +kernel
theorem dL_law_278 : decode cL_law 278 = .ok (.iconst 1, 1) := by decide +kernel
end
section
theorem dL_law_279 : decode cL_law 279 = .ok (.iadd, 1) := by decide +kernel
theorem dL_law_280 : decode cL_law 280 = .ok (.iaload, 1) := by decide +kernel
theorem dL_law_281 : decode cL_law 281 = .ok (.aload_n 0, 1) := by decide +kernel
theorem dL_law_282 : decode cL_law 282 = .ok (.iload 4, 2) := by decide +kernel
theorem dL_law_284 : decode cL_law 284 = .ok (.iconst 2, 1) := by decide +kernel
theorem dL_law_285 : decode cL_law 285 = .ok (.iadd, 1) := by decide +kernel
theorem dL_law_286 : decode cL_law 286 = .ok (.iaload, 1) := by decide +kernel
theorem dL_law_287 : decode cL_law 287 = .ok (.aload_n 0, 1) := by decide +kernel
theorem dL_law_288 : decode cL_law 288 = .ok (.iload 4, 2) := by decide +kernel
theorem dL_law_290 : decode cL_law 290 = .ok (.iconst 3, 1) := by decide +kernel
theorem dL_law_291 : decode cL_law 291 = .ok (.iadd, 1) := by decide +kernel
theorem dL_law_292 : decode cL_law 292 = .ok (.iaload, 1) := by decide +kernel
theorem dL_law_293 : decode cL_law 293 = .ok (.invokevirtual 68, 3) := by decide +kernel
theorem dL_law_296 : decode cL_law 296 = .ok (.aload_n 2, 1) := by decide +kernel
theorem dL_law_297 : decode cL_law 297 = .ok (.invokevirtual 53, 3) := by decide +kernel
theorem dL_law_300 : decode cL_law 300 = .ok (.iload 5, 2) := by decide +kernel
theorem dL_law_302 : decode cL_law 302 = .ok (.if_icmp .eq 5, 3) := by decide +kernel
theorem dL_law_305 : decode cL_law 305 = .ok (.iconst 0, 1) := by decide +kernel
theorem dL_law_306 : decode cL_law 306 = .ok (.ireturn, 1) := by decide +kernel
theorem dL_law_307 : decode cL_law 307 = .ok (.goto 264, 3) := by decide +kernel
theorem dL_law_310 : decode cL_law 310 = .ok (.aload_n 1, 1) := by decide +kernel
theorem dL_law_311 : decode cL_law 311 = .ok (.aload_n 0, 1) := by decide +kernel
theorem dL_law_312 : decode cL_law 312 = .ok (.iload 4, 2) := by decide +kernel
theorem dL_law_314 : decode cL_law 314 = .ok (.iconst 1, 1) := by decide +kernel
theorem dL_law_315 : decode cL_law 315 = .ok (.iadd, 1) := by decide +kernel
theorem dL_law_316 : decode cL_law 316 = .ok (.iaload, 1) := by decide +kernel
theorem dL_law_317 : decode cL_law 317 = .ok (.aload_n 3, 1) := by decide +kernel
theorem dL_law_318 : decode cL_law 318 = .ok (.invokestatic 69, 3) := by decide +kernel
theorem dL_law_321 : decode cL_law 321 = .ok (.istore 5, 2) := by decide +kernel
theorem dL_law_323 : decode cL_law 323 = .ok (.aload_n 2, 1) := by decide +kernel
theorem dL_law_324 : decode cL_law 324 = .ok (.aload_n 0, 1) := by decide +kernel
theorem dL_law_325 : decode cL_law 325 = .ok (.iload 4, 2) := by decide +kernel
theorem dL_law_327 : decode cL_law 327 = .ok (.iconst 1, 1) := by decide +kernel
theorem dL_law_328 : decode cL_law 328 = .ok (.iadd, 1) := by decide +kernel
theorem dL_law_329 : decode cL_law 329 = .ok (.iaload, 1) := by decide +kernel
theorem dL_law_330 : decode cL_law 330 = .ok (.invokevirtual 71, 3) := by decide +kernel
theorem dL_law_333 : decode cL_law 333 = .ok (.istore 6, 2) := by decide +kernel
theorem dL_law_335 : decode cL_law 335 = .ok (.aload_n 2, 1) := by decide +kernel
theorem dL_law_336 : decode cL_law 336 = .ok (.invokevirtual 53, 3) := by decide +kernel
theorem dL_law_339 : decode cL_law 339 = .ok (.iload 5, 2) := by decide +kernel
theorem dL_law_341 : decode cL_law 341 = .ok (.if_icmp .eq 5, 3) := by decide +kernel
theorem dL_law_344 : decode cL_law 344 = .ok (.iconst 0, 1) := by decide +kernel
theorem dL_law_345 : decode cL_law 345 = .ok (.ireturn, 1) := by decide +kernel
theorem dL_law_346 : decode cL_law 346 = .ok (.iload 5, 2) := by decide +kernel
theorem dL_law_348 : decode cL_law 348 = .ok (.ifCond .ne 15, 3) := by decide +kernel
theorem dL_law_351 : decode cL_law 351 = .ok (.aload_n 3, 1) := by decide +kernel
theorem dL_law_352 : decode cL_law 352 = .ok (.iconst 0, 1) := by decide +kernel
theorem dL_law_353 : decode cL_law 353 = .ok (.laload, 1) := by decide +kernel
theorem dL_law_354 : decode cL_law 354 = .ok (.iload 6, 2) := by decide +kernel
theorem dL_law_356 : decode cL_law 356 = .ok (.i2l, 1) := by decide +kernel
theorem dL_law_357 : decode cL_law 357 = .ok (.lcmp, 1) := by decide +kernel
theorem dL_law_358 : decode cL_law 358 = .ok (.ifCond .eq 5, 3) := by decide +kernel
theorem dL_law_361 : decode cL_law 361 = .ok (.iconst 0, 1) := by decide +kernel
theorem dL_law_362 : decode cL_law 362 = .ok (.ireturn, 1) := by decide +kernel
theorem dL_law_363 : decode cL_law 363 = .ok (.goto 208, 3) := by decide +kernel
theorem dL_law_366 : decode cL_law 366 = .ok (.aload_n 1, 1) := by decide +kernel
theorem dL_law_367 : decode cL_law 367 = .ok (.aload_n 0, 1) := by decide +kernel
theorem dL_law_368 : decode cL_law 368 = .ok (.iload 4, 2) := by decide +kernel
theorem dL_law_370 : decode cL_law 370 = .ok (.iconst 1, 1) := by decide +kernel
theorem dL_law_371 : decode cL_law 371 = .ok (.iadd, 1) := by decide +kernel
theorem dL_law_372 : decode cL_law 372 = .ok (.iaload, 1) := by decide +kernel
theorem dL_law_373 : decode cL_law 373 = .ok (.aload_n 3, 1) := by decide +kernel
theorem dL_law_374 : decode cL_law 374 = .ok (.invokestatic 72, 3) := by decide +kernel
theorem dL_law_377 : decode cL_law 377 = .ok (.istore 5, 2) := by decide +kernel
theorem dL_law_379 : decode cL_law 379 = .ok (.aload_n 2, 1) := by decide +kernel
theorem dL_law_380 : decode cL_law 380 = .ok (.aload_n 0, 1) := by decide +kernel
theorem dL_law_381 : decode cL_law 381 = .ok (.iload 4, 2) := by decide +kernel
theorem dL_law_383 : decode cL_law 383 = .ok (.iconst 1, 1) := by decide +kernel
theorem dL_law_384 : decode cL_law 384 = .ok (.iadd, 1) := by decide +kernel
theorem dL_law_385 : decode cL_law 385 = .ok (.iaload, 1) := by decide +kernel
theorem dL_law_386 : decode cL_law 386 = .ok (.invokevirtual 74, 3) := by decide +kernel
theorem dL_law_389 : decode cL_law 389 = .ok (.istore 6, 2) := by decide +kernel
theorem dL_law_391 : decode cL_law 391 = .ok (.aload_n 2, 1) := by decide +kernel
theorem dL_law_392 : decode cL_law 392 = .ok (.invokevirtual 53, 3) := by decide +kernel
theorem dL_law_395 : decode cL_law 395 = .ok (.iload 5, 2) := by decide +kernel
theorem dL_law_397 : decode cL_law 397 = .ok (.if_icmp .eq 5, 3) := by decide +kernel
theorem dL_law_400 : decode cL_law 400 = .ok (.iconst 0, 1) := by decide +kernel
theorem dL_law_401 : decode cL_law 401 = .ok (.ireturn, 1) := by decide +kernel
theorem dL_law_402 : decode cL_law 402 = .ok (.iload 5, 2) := by decide +kernel
theorem dL_law_404 : decode cL_law 404 = .ok (.ifCond .ne 15, 3) := by decide +kernel
theorem dL_law_407 : decode cL_law 407 = .ok (.aload_n 3, 1) := by decide +kernel
theorem dL_law_408 : decode cL_law 408 = .ok (.iconst 0, 1) := by decide +kernel
theorem dL_law_409 : decode cL_law 409 = .ok (.laload, 1) := by decide +kernel
theorem dL_law_410 : decode cL_law 410 = .ok (.iload 6, 2) := by decide +kernel
theorem dL_law_412 : decode cL_law 412 = .ok (.i2l, 1) := by decide +kernel
theorem dL_law_413 : decode cL_law 413 = .ok (.lcmp, 1) := by decide +kernel
theorem dL_law_414 : decode cL_law 414 = .ok (.ifCond .eq 5, 3) := by decide +kernel
theorem dL_law_417 : decode cL_law 417 = .ok (.iconst 0, 1) := by decide +kernel
theorem dL_law_418 : decode cL_law 418 = .ok (.ireturn, 1) := by decide +kernel
theorem dL_law_419 : decode cL_law 419 = .ok (.goto 152, 3) := by decide +kernel
theorem dL_law_422 : decode cL_law 422 = .ok (.aload_n 1, 1) := by decide +kernel
theorem dL_law_423 : decode cL_law 423 = .ok (.aload_n 0, 1) := by decide +kernel
theorem dL_law_424 : decode cL_law 424 = .ok (.iload 4, 2) := by decide +kernel
theorem dL_law_426 : decode cL_law 426 = .ok (.iconst 1, 1) := by decide +kernel
theorem dL_law_427 : decode cL_law 427 = .ok (.iadd, 1) := by decide +kernel
theorem dL_law_428 : decode cL_law 428 = .ok (.iaload, 1) := by decide +kernel
theorem dL_law_429 : decode cL_law 429 = .ok (.aload_n 3, 1) := by decide +kernel
theorem dL_law_430 : decode cL_law 430 = .ok (.invokestatic 75, 3) := by decide +kernel
theorem dL_law_433 : decode cL_law 433 = .ok (.istore 5, 2) := by decide +kernel
theorem dL_law_435 : decode cL_law 435 = .ok (.aload_n 2, 1) := by decide +kernel
theorem dL_law_436 : decode cL_law 436 = .ok (.aload_n 0, 1) := by decide +kernel
theorem dL_law_437 : decode cL_law 437 = .ok (.iload 4, 2) := by decide +kernel
theorem dL_law_439 : decode cL_law 439 = .ok (.iconst 1, 1) := by decide +kernel
theorem dL_law_440 : decode cL_law 440 = .ok (.iadd, 1) := by decide +kernel
theorem dL_law_441 : decode cL_law 441 = .ok (.iaload, 1) := by decide +kernel
theorem dL_law_442 : decode cL_law 442 = .ok (.invokevirtual 77, 3) := by decide +kernel
theorem dL_law_445 : decode cL_law 445 = .ok (.istore 6, 2) := by decide +kernel
theorem dL_law_447 : decode cL_law 447 = .ok (.aload_n 2, 1) := by decide +kernel
theorem dL_law_448 : decode cL_law 448 = .ok (.invokevirtual 53, 3) := by decide +kernel
theorem dL_law_451 : decode cL_law 451 = .ok (.iload 5, 2) := by decide +kernel
theorem dL_law_453 : decode cL_law 453 = .ok (.if_icmp .eq 5, 3) := by decide +kernel
theorem dL_law_456 : decode cL_law 456 = .ok (.iconst 0, 1) := by decide +kernel
theorem dL_law_457 : decode cL_law 457 = .ok (.ireturn, 1) := by decide +kernel
theorem dL_law_458 : decode cL_law 458 = .ok (.iload 5, 2) := by decide +kernel
theorem dL_law_460 : decode cL_law 460 = .ok (.ifCond .ne 15, 3) := by decide +kernel
theorem dL_law_463 : decode cL_law 463 = .ok (.aload_n 3, 1) := by decide +kernel
theorem dL_law_464 : decode cL_law 464 = .ok (.iconst 0, 1) := by decide +kernel
theorem dL_law_465 : decode cL_law 465 = .ok (.laload, 1) := by decide +kernel
theorem dL_law_466 : decode cL_law 466 = .ok (.iload 6, 2) := by decide +kernel
theorem dL_law_468 : decode cL_law 468 = .ok (.i2l, 1) := by decide +kernel
theorem dL_law_469 : decode cL_law 469 = .ok (.lcmp, 1) := by decide +kernel
theorem dL_law_470 : decode cL_law 470 = .ok (.ifCond .eq 5, 3) := by decide +kernel
theorem dL_law_473 : decode cL_law 473 = .ok (.iconst 0, 1) := by decide +kernel
theorem dL_law_474 : decode cL_law 474 = .ok (.ireturn, 1) := by decide +kernel
theorem dL_law_475 : decode cL_law 475 = .ok (.goto 96, 3) := by decide +kernel
theorem dL_law_478 : decode cL_law 478 = .ok (.aload_n 1, 1) := by decide +kernel
theorem dL_law_479 : decode cL_law 479 = .ok (.aload_n 0, 1) := by decide +kernel
theorem dL_law_480 : decode cL_law 480 = .ok (.iload 4, 2) := by decide +kernel
theorem dL_law_482 : decode cL_law 482 = .ok (.iconst 1, 1) := by decide +kernel
theorem dL_law_483 : decode cL_law 483 = .ok (.iadd, 1) := by decide +kernel
theorem dL_law_484 : decode cL_law 484 = .ok (.iaload, 1) := by decide +kernel
theorem dL_law_485 : decode cL_law 485 = .ok (.aload_n 3, 1) := by decide +kernel
theorem dL_law_486 : decode cL_law 486 = .ok (.invokestatic 78, 3) := by decide +kernel
theorem dL_law_489 : decode cL_law 489 = .ok (.istore 5, 2) := by decide +kernel
theorem dL_law_491 : decode cL_law 491 = .ok (.aload_n 2, 1) := by decide +kernel
theorem dL_law_492 : decode cL_law 492 = .ok (.aload_n 0, 1) := by decide +kernel
theorem dL_law_493 : decode cL_law 493 = .ok (.iload 4, 2) := by decide +kernel
theorem dL_law_495 : decode cL_law 495 = .ok (.iconst 1, 1) := by decide +kernel
theorem dL_law_496 : decode cL_law 496 = .ok (.iadd, 1) := by decide +kernel
theorem dL_law_497 : decode cL_law 497 = .ok (.iaload, 1) := by decide +kernel
theorem dL_law_498 : decode cL_law 498 = .ok (.invokevirtual 80, 3) := by decide +kernel
theorem dL_law_501 : decode cL_law 501 = .ok (.istore 6, 2) := by decide +kernel
theorem dL_law_503 : decode cL_law 503 = .ok (.aload_n 2, 1) := by decide +kernel
theorem dL_law_504 : decode cL_law 504 = .ok (.invokevirtual 53, 3) := by decide +kernel
theorem dL_law_507 : decode cL_law 507 = .ok (.iload 5, 2) := by decide +kernel
theorem dL_law_509 : decode cL_law 509 = .ok (.if_icmp .eq 5, 3) := by decide +kernel
theorem dL_law_512 : decode cL_law 512 = .ok (.iconst 0, 1) := by decide +kernel
theorem dL_law_513 : decode cL_law 513 = .ok (.ireturn, 1) := by decide +kernel
theorem dL_law_514 : decode cL_law 514 = .ok (.iload 5, 2) := by decide +kernel
theorem dL_law_516 : decode cL_law 516 = .ok (.ifCond .ne 15, 3) := by decide +kernel
theorem dL_law_519 : decode cL_law 519 = .ok (.aload_n 3, 1) := by decide +kernel
theorem dL_law_520 : decode cL_law 520 = .ok (.iconst 0, 1) := by decide +kernel
theorem dL_law_521 : decode cL_law 521 = .ok (.laload, 1) := by decide +kernel
theorem dL_law_522 : decode cL_law 522 = .ok (.iload 6, 2) := by decide +kernel
theorem dL_law_524 : decode cL_law 524 = .ok (.i2l, 1) := by decide +kernel
theorem dL_law_525 : decode cL_law 525 = .ok (.lcmp, 1) := by decide +kernel
theorem dL_law_526 : decode cL_law 526 = .ok (.ifCond .eq 5, 3) := by decide +kernel
theorem dL_law_529 : decode cL_law 529 = .ok (.iconst 0, 1) := by decide +kernel
theorem dL_law_530 : decode cL_law 530 = .ok (.ireturn, 1) := by decide +kernel
theorem dL_law_531 : decode cL_law 531 = .ok (.goto 40, 3) := by decide +kernel
theorem dL_law_534 : decode cL_law 534 = .ok (.aload_n 1, 1) := by decide +kernel
theorem dL_law_535 : decode cL_law 535 = .ok (.aload_n 0, 1) := by decide +kernel
theorem dL_law_536 : decode cL_law 536 = .ok (.iload 4, 2) := by decide +kernel
theorem dL_law_538 : decode cL_law 538 = .ok (.iconst 1, 1) := by decide +kernel
theorem dL_law_539 : decode cL_law 539 = .ok (.iadd, 1) := by decide +kernel
theorem dL_law_540 : decode cL_law 540 = .ok (.iaload, 1) := by decide +kernel
theorem dL_law_541 : decode cL_law 541 = .ok (.aload_n 0, 1) := by decide +kernel
theorem dL_law_542 : decode cL_law 542 = .ok (.iload 4, 2) := by decide +kernel
theorem dL_law_544 : decode cL_law 544 = .ok (.iconst 2, 1) := by decide +kernel
theorem dL_law_545 : decode cL_law 545 = .ok (.iadd, 1) := by decide +kernel
theorem dL_law_546 : decode cL_law 546 = .ok (.iaload, 1) := by decide +kernel
theorem dL_law_547 : decode cL_law 547 = .ok (.invokevirtual 81, 3) := by decide +kernel
theorem dL_law_550 : decode cL_law 550 = .ok (.aload_n 2, 1) := by decide +kernel
theorem dL_law_551 : decode cL_law 551 = .ok (.aload_n 0, 1) := by decide +kernel
theorem dL_law_552 : decode cL_law 552 = .ok (.iload 4, 2) := by decide +kernel
theorem dL_law_554 : decode cL_law 554 = .ok (.iconst 1, 1) := by decide +kernel
theorem dL_law_555 : decode cL_law 555 = .ok (.iadd, 1) := by decide +kernel
theorem dL_law_556 : decode cL_law 556 = .ok (.iaload, 1) := by decide +kernel
theorem dL_law_557 : decode cL_law 557 = .ok (.aload_n 0, 1) := by decide +kernel
theorem dL_law_558 : decode cL_law 558 = .ok (.iload 4, 2) := by decide +kernel
theorem dL_law_560 : decode cL_law 560 = .ok (.iconst 2, 1) := by decide +kernel
theorem dL_law_561 : decode cL_law 561 = .ok (.iadd, 1) := by decide +kernel
theorem dL_law_562 : decode cL_law 562 = .ok (.iaload, 1) := by decide +kernel
theorem dL_law_563 : decode cL_law 563 = .ok (.invokevirtual 85, 3) := by decide +kernel
theorem dL_law_566 : decode cL_law 566 = .ok (.if_icmp .eq 5, 3) := by decide +kernel
theorem dL_law_569 : decode cL_law 569 = .ok (.iconst 0, 1) := by decide +kernel
theorem dL_law_570 : decode cL_law 570 = .ok (.ireturn, 1) := by decide +kernel
theorem dL_law_571 : decode cL_law 571 = .ok (.iinc 4 4, 3) := by decide +kernel
theorem dL_law_574 : decode cL_law 574 = .ok (.goto (-551), 3) := by decide +kernel
theorem dL_law_577 : decode cL_law 577 = .ok (.iconst 1, 1) := by decide +kernel
theorem dL_law_578 : decode cL_law 578 = .ok (.ireturn, 1) := by decide +kernel
end
section
/-! the words that ride: the good ones of the whole table -/
def tb : List Cond := lw_tbl.filter goodWord
theorem tb_in {w : Cond} (h : w ∈ lw_tbl) (hg : goodWord w = true) : w ∈ tb := List.mem_filter.mpr ⟨h, hg⟩
theorem tb_lw {w : Cond} (h : w ∈ tb) : w ∈ lw_tbl := (List.mem_filter.mp h).1
theorem tb_good {w : Cond} (h : w ∈ tb) : (w.onTables && w.keeps) = true ∨ ∃ ty, w = .arrayClass ty := good_of_word (List.mem_filter.mp h).2
theorem tb_ride {args : Array Value} {s : State} (hts : ∀ w ∈ tb, w.before args s = true) {w : Cond} (h : w ∈ tb) (a' : Array Value) (U : State) (hW : s.WarmedH U.vm) : w.before a' U = true := word_at hW (tb_good h) (hts w h)
def wsy (y : MethodName) (cc : ByteArray) (n : Nat) (ret : Option FieldType) : List Cond := Cond.code y cc n ret :: tb
theorem wsy_ride {args : Array Value} {s : State} (hts : ∀ w ∈ tb, w.before args s = true) {y : MethodName} {cc : ByteArray} {n : Nat} {ret : Option FieldType} (hc : Cond.code y cc n ret ∈ tb) : ∀ w ∈ wsy y cc n ret, ∀ (a' : Array Value) (U : State), s.WarmedH U.vm → w.before a' U = true := by
  intro w hw a' U hW
  rcases List.mem_cons.mp hw with rfl | h
  · exact tb_ride hts hc a' U hW
  · exact tb_ride hts h a' U hW
/-! a state: its numbers and its rows -/
abbrev St : Type := (Nat → Int32) × (Nat → Nat → Int32)
def gI (σ : St) (k : Nat) : Int32 := σ.1 k
def gA (σ : St) (k : Nat) (i : Int32) : Int32 := σ.2 k i.toNatClampNeg
def sI (σ : St) (k : Nat) (v : Int32) : St := (fun j => if j = k then v else σ.1 j, σ.2)
def sA (σ : St) (k : Nat) (i : Int32) (v : Int32) : St := (σ.1, fun j => if j = k then upd (σ.2 k) i.toNatClampNeg v else σ.2 j)
def inB (i : Int32) (n : Nat) : Bool := decide (¬ (i < 0 ∨ n ≤ i.toNatClampNeg))
theorem inB_in {i : Int32} {n : Nat} (h : inB i n = true) : vp_in i n := by
  have h1 : ¬ (i < 0 ∨ n ≤ i.toNatClampNeg) := of_decide_eq_true h
  exact h1
theorem in_inB {i : Int32} {n : Nat} (h : vp_in i n) : inB i n = true := by
  have h1 : ¬ (i < 0 ∨ n ≤ i.toNatClampNeg) := h
  exact decide_eq_true h1
theorem fb_pos {α : Type} {c : Prop} [Decidable c] {a b r : α} (h : c) (hF : (if c then a else b) = r) : a = r := (if_pos h).symm.trans hF
theorem fb_neg {α : Type} {c : Prop} [Decidable c] {a b r : α} (h : ¬ c) (hF : (if c then a else b) = r) : b = r := (if_neg h).symm.trans hF
theorem fb_chk {α : Type} {i : Int32} {n : Nat} {a : Option α} {r : α} (hF : (if inB i n = true then a else none) = some r) : vp_in i n ∧ a = some r := by
  by_cases h : inB i n = true
  · exact ⟨inB_in h, (if_pos h).symm.trans hF⟩
  · rw [if_neg h] at hF
    cases hF
theorem fb_bnd {α β : Type} {o : Option α} {f : α → Option β} {r : β} (hF : o.bind f = some r) : ∃ x, o = some x ∧ f x = some r := by
  cases o with
  | none => cases hF
  | some x => exact ⟨x, rfl, hF⟩
/-! the array classes in use: int, byte, byte of two dimensions, boolean -/
def tyL (ty : Nat → ClassId) : List (ClassId × FieldType) := [(ty 0, .int), (ty 1, .byte), (ty 2, .array .byte), (ty 3, .boolean)]
/-- facts of the start that no method of ours changes -/
def FxOk (Fx : (Nat → Prop) → State → Heap → Prop) : Prop := ∀ (A B : Nat → Prop) (u U : State) (H H1 : Heap), u.WarmedH U.vm → Fx A u H → (∀ a : Nat, a < H.size → ¬ A a → H1[a]? = H[a]?) → (∀ q, B q → A q) → Fx B U H1
def Inw (D : va_G) (ty : Nat → ClassId) (Fx : (Nat → Prop) → State → Heap → Prop) (w : va_W) (A : Nat → Prop) (s : State) (H : Heap) (locs : List Loc) : Prop :=
  va_K D vwCl (tyL ty) s ∧ va_P D vwCl w H ∧ va_D A w ∧ va_S A s.heap H locs ∧ (∀ q : Nat, s.heap.size ≤ q → A q) ∧ Fx A s s.heap
def Atw (D : va_G) (ty : Nat → ClassId) (w : St → va_W) (A : Nat → Prop) (u : St) (t : State) : Prop := va_P D vwCl (w u) t.heap ∧ va_K D vwCl (tyL ty) t ∧ va_D A (w u)
def Pcw (D : va_G) (ty : Nat → ClassId) (Fx : (Nat → Prop) → State → Heap → Prop) (w : va_W) (sz : Nat) (av : List Value) : Array Value → State → Prop :=
  va_Pc av (fun U => U.heap.size = sz ∧ va_P D vwCl w U.heap ∧ va_K D vwCl (tyL ty) U ∧ va_D (fun _ => True) w ∧ Fx (va_A w sz) U U.heap)
def Qiw (D : va_G) (ty : Nat → ClassId) (w : St → va_W) (A : Nat → Prop) (res : Int32 × St) : Array Value → State → Outcome → State → Prop := va_Qi (fun r (u : St) => (r, u) = res) (Atw D ty w A) A
def Qvw (D : va_G) (ty : Nat → ClassId) (w : St → va_W) (A : Nat → Prop) (res : Int32 × St) : Array Value → State → Outcome → State → Prop := va_Qv (fun (u : St) => u = res.2) (Atw D ty w A) A
theorem warm_moves {s U : State} (hW : s.WarmedH U.vm) : s.vm.Alike U.vm := hW.alike
section Bs
variable {p : Program} {l : Launch} {e : Env} {R : Room} {s : State} {m : MethodId} {args : Array Value} {below : List Frame} {meth : Method} {c : Code} {H : Heap} {locs : List Loc} {cells slots : Nat} {Q : State → Prop}
variable {cc : ByteArray} {pc nL : Nat} {ls : Array Slot} {rest : List Value} {D : va_G} {ty : Nat → ClassId} {Fx : (Nat → Prop) → State → Heap → Prop} {w : St → va_W} {A : Nat → Prop} {own : String} {σ : St} {res : Int32 × St} {ret : Option FieldType}
/-- the end of a method that answers an int -/
theorem rt_i (X : CallFix p m c cc nL s args tb own) (hlk : meth.locks = false) (hr : meth.sig.returnType = some .int) (hI : Inw D ty Fx (w σ) A s H locs) {r : Int32} (hres : some (r, σ) = some res) (hd : decode cc pc = .ok (.ireturn, 1)) :
    W p l e R s m args below meth c H locs cells slots (MQ below (Qiw D ty w A res) args s cells slots A) (F0 m pc ls [.int r]) := by
  obtain ⟨hK, hP, hD, hS, -, -⟩ := hI
  exact W.iret (v := r) X.1 X.2.1 hr (fun t ht hW => ⟨⟨r, σ, rfl, Option.some.inj hres, by rw [ht]; exact hP, va_K.moved hW.alike hK, hD⟩, hS.F ht⟩) hS.2.2 hd hlk
/-- of one that answers a boolean, byte .. -/
theorem rt_z (X : CallFix p m c cc nL s args tb own) (hlk : meth.locks = false) {rt : FieldType} (hr : meth.sig.returnType = some rt) (hI : Inw D ty Fx (w σ) A s H locs) {r : Int32} (hn : narrow rt (.int r) = .int r) (hres : some (r, σ) = some res) (hd : decode cc pc = .ok (.ireturn, 1)) :
    W p l e R s m args below meth c H locs cells slots (MQ below (Qiw D ty w A res) args s cells slots A) (F0 m pc ls [.int r]) := by
  obtain ⟨hK, hP, hD, hS, -, -⟩ := hI
  exact W.zret (v := r) X.1 X.2.1 hr hn (fun t ht hW => ⟨⟨r, σ, rfl, Option.some.inj hres, by rw [ht]; exact hP, va_K.moved hW.alike hK, hD⟩, hS.F ht⟩) hS.2.2 hd hlk
/-- of a void one -/
theorem rt_v (X : CallFix p m c cc nL s args tb own) (hlk : meth.locks = false) (hr : meth.sig.returnType = none) (hI : Inw D ty Fx (w σ) A s H locs) {r : Int32} (hres : some (r, σ) = some res) (hd : decode cc pc = .ok (.return_, 1)) :
    W p l e R s m args below meth c H locs cells slots (MQ below (Qvw D ty w A res) args s cells slots A) (F0 m pc ls []) := by
  obtain ⟨hK, hP, hD, hS, -, -⟩ := hI
  have hu : σ = res.2 := congrArg Prod.snd (Option.some.inj hres)
  exact W.vret X.1 X.2.1 hr (fun t ht hW => ⟨⟨σ, rfl, hu, by rw [ht]; exact hP, va_K.moved hW.alike hK, hD⟩, hS.F ht⟩) hS.2.2 hd hlk
theorem wz_ret {v v' : Int32} {rt : FieldType} {Qc : Array Value → State → Outcome → State → Prop} {free : Addr → Prop} (hexec : p.tables.exec = Jvm.exec) (hb : c.code = cc) (hr : meth.sig.returnType = some rt) (hn : narrow rt (.int v) = .int v')
    (hq : ∀ t : State, t.heap = H → s.WarmedH t.vm → Qc args s (.returned (some (.int v'))) t) (hf : ∀ q ∈ locs, free q.base) (hdg : decode cc pc = .ok (.ireturn, 1)) (hlocks : meth.locks = false) : W p l e R s m args below meth c H locs cells slots (MQ below Qc args s cells slots free) (F0 m pc ls [.int v]) := by
  intro T hT X
  obtain ⟨fs, hret, hrun, hended, hW, hframe⟩ := X.leave (v := some (.int v')) (fun h => by rw [hr] at h; cases h)
  have hmeth' : T.vm.method? m = some meth := X.method'
  refine ⟨T.setFrames fs, ?_, .returned (some (.int v')), hrun, hended, hq _ hT hW, locs, ⟨⟨_, rfl⟩, hW, hframe⟩, hf⟩
  jvm_step X.here [X.here.top, hexec, hb, hdg, hmeth', hr, hn]
  (try refine ⟨rfl, ?_⟩); (try refine ⟨rfl, ?_⟩)
  first | (intro acts; rw [hret _ acts rfl rfl rfl]) | rw [hret _ _ rfl rfl rfl]
  exact Steps.refl _
theorem rt_b (X : CallFix p m c cc nL s args tb own) (hlk : meth.locks = false) (hr : meth.sig.returnType = some .boolean) (hI : Inw D ty Fx (w σ) A s H locs) {r : Int32} (hres : some (vp_nar .boolean r, σ) = some res) (hd : decode cc pc = .ok (.ireturn, 1)) :
    W p l e R s m args below meth c H locs cells slots (MQ below (Qiw D ty w A res) args s cells slots A) (F0 m pc ls [.int r]) := by
  obtain ⟨hK, hP, hD, hS, -, -⟩ := hI
  exact wz_ret (v := r) (v' := vp_nar .boolean r) X.1 X.2.1 hr rfl (fun t ht hW => ⟨⟨vp_nar .boolean r, σ, rfl, Option.some.inj hres, by rw [ht]; exact hP, va_K.moved hW.alike hK, hD⟩, hS.F ht⟩) hS.2.2 hd hlk
/-- a method's beginning -/
theorem en_w {y : MethodName} {rm : Room} {w0 : va_W} {sz : Nat} {av : List Value} {Qc : (Nat → Prop) → Array Value → State → Outcome → State → Prop} {mc ms : Nat} (hy : plainName y.cls = true) (hav : (lg_sl av).length ≤ nL)
    (body : ∀ (p : Program) (e : Env) (s : State) (m : MethodId) (args : Array Value) (below : List Frame) (meth : Method) (c : Code) (A : Nat → Prop), CallFix p m c cc nL s args tb y.cls → meth.locks = false → meth.sig.returnType = ret → (y.name = "<init>" → meth.name = "<init>") →
      ∀ (H : Heap) (locs : List Loc), Inw D ty Fx w0 A s H locs → ∀ ls : Array Slot, lv_has ls nL (lv_args 0 av) → W p l e rm s m args below meth c H locs 0 0 (MQ below (Qc A) args s mc ms A) (F0 m 0 ls [])) :
    Met l y (wsy y cc nL ret) rm (Pcw D ty Fx w0 sz av) (Qc (va_A w0 sz)) mc ms (va_A w0 sz) := by
  refine Met.ofW (cc := cc) (maxL := nL) (ret := ret) hy rfl ?_
  intro p e s m args below meth c s₁ B hml hv
  obtain ⟨rfl, hsz, hP, hK, hD0, hFx⟩ := hv
  subst hsz
  have hts := atoms_spec (ws := wsy y cc nL ret) B.pre
  have hown : s.vm.findClass y.cls = some m.cls := findClass_of_methodNamed B.named
  have hD := hD0.self (sz := s.heap.size)
  generalize hAe : va_A w0 s.heap.size = A at hD hFx ⊢
  have hA : ∀ q : Nat, s.heap.size ≤ q → A q := fun q h => by rw [← hAe]; exact Or.inr h
  have hl := lv_entry av (n := nL) hav
  rw [lg_entry_eq]
  generalize (lg_sl av ++ List.replicate (nL - (lg_sl av).length) Slot.unset).toArray = ls at hl ⊢
  exact body p e s m av.toArray below meth c A ⟨B.exec, B.bytes, hml, hown, fun w hw => hts w (List.mem_cons_of_mem _ hw)⟩ B.notSynchronized B.returns (fun hn => by rw [← hn]; exact (name_of_methodNamed B.named B.method).1) s.heap [] ⟨hK, hP, hD, va_S.rf, hA, hFx⟩ ls hl
end Bs
end
section
/-- what a callee's own words say: an instance method, a static one -/
def OkV (y : MethodName) (C : String) (bytes : ByteArray) (maxL : Nat) (ret : Option FieldType) (n : Nat) : Prop :=
  Cond.code y bytes maxL ret ∈ tb ∧ Cond.initialized y.cls ∈ tb ∧ (y.cls ≠ "java/lang/invoke/MethodHandle" ∧ y.cls ≠ "java/lang/invoke/VarHandle") ∧ (parseMethodDescriptor y.desc).map (fun d => d.parameters.length) = some n ∧ Cond.instanceMethod y ∈ tb ∧ Cond.selects C y y ∈ tb
def OkS (y : MethodName) (bytes : ByteArray) (maxL : Nat) (ret : Option FieldType) (n : Nat) : Prop :=
  Cond.code y bytes maxL ret ∈ tb ∧ Cond.initialized y.cls ∈ tb ∧ (y.cls ≠ "java/lang/invoke/MethodHandle" ∧ y.cls ≠ "java/lang/invoke/VarHandle") ∧ (parseMethodDescriptor y.desc).map (fun d => d.parameters.length) = some n ∧ Cond.static y ∈ tb
abbrev RmOk (rm R : Room) (maxL : Nat) : Prop := rm.cells = 0 ∧ rm.slots = 0 ∧ rm.frames + 1 ≤ R.frames ∧ 8 + (maxL + 11) + rm.locals ≤ R.locals
section Rw
variable {p : Program} {l : Launch} {e : Env} {R : Room} {s : State} {m : MethodId} {args : Array Value} {below : List Frame} {meth : Method} {c : Code} {H : Heap} {locs : List Loc} {cells slots : Nat} {Q : State → Prop}
variable {cc : ByteArray} {pc nL : Nat} {ls : Array Slot} {rest st : List Value} {D : va_G} {ty : Nat → ClassId} {Fx : (Nat → Prop) → State → Heap → Prop} {w : St → va_W} {w0 : va_W} {A : Nat → Prop} {own : String} {σ : St} {res : Int32 × St} {ret : Option FieldType}
theorem gt_f (X : CallFix p m c cc nL s args tb own) (hI : Inw D ty Fx w0 A s H locs) (i : Nat) {ci a N idx : Nat} {C : String} {T : u_T} {fs : List Value} (he : w0[i]? = some (a, .inr (ci, fs))) (hc : vwCl[ci]? = some (C, T, N)) (hu : ∀ w ∈ u_ws C T N, w ∈ tb) (k : Nat) (hk : k < N)
    (hl : Cond.fieldLink own idx C (T k).2.1 (T k).2.2.1 ∈ tb) (h1 : (T k).1 = C) {v : Value} (hv : fs[k]? = some v) (hd : decode cc pc = .ok (.getfield idx, 3))
    (kk : W p l e R s m args below meth c H locs cells slots Q (F0 m (pc + 3) ls (v :: rest))) : W p l e R s m args below meth c H locs cells slots Q (F0 m pc ls (.ref a :: rest)) := by
  obtain ⟨hK, hP, -⟩ := hI
  obtain ⟨hx, hb, hml, ho, hts⟩ := X
  exact va_get hx hb hts hu ho hK hP i he hc k hk (hts _ hl) (fun x h => by rw [h1] at h; exact h) hv hd kk
theorem pt_f (X : CallFix p m c cc nL s args tb own) (hI : Inw D ty Fx w0 A s H locs) (i : Nat) {ci a N idx : Nat} {C : String} {T : u_T} {fs : List Value} (he : w0[i]? = some (a, .inr (ci, fs))) (hc : vwCl[ci]? = some (C, T, N)) (hu : ∀ w ∈ u_ws C T N, w ∈ tb) (t0 : Nat → FieldType) (ht0 : ∀ k, k < N → parseFieldDescriptor (T k).2.2.1 = some (t0 k)) (hnm : ∀ a, a < N → ∀ b, b < N → a ≠ b → (T a).2.1 ≠ (T b).2.1) (k : Nat) (hk : k < N)
    (hl : Cond.fieldLink own idx C (T k).2.1 (T k).2.2.1 ∈ tb) (h1 : (T k).1 = C) (hfin : (T k).2.2.2 = false) (hpd : parseFieldDescriptor (T k).2.2.1 = some .int) {v : Int32} (hlen : k < fs.length) {w1 : va_W} (hw : w0.set i (a, .inr (ci, fs.set k (.int v))) = w1) (hd : decode cc pc = .ok (.putfield idx, 3))
    (kk : ∀ (H : Heap) (locs : List Loc), Inw D ty Fx w1 A s H locs → W p l e R s m args below meth c H locs cells slots Q (F0 m (pc + 3) ls rest)) : W p l e R s m args below meth c H locs cells slots Q (F0 m pc ls (.int v :: .ref a :: rest)) := by
  obtain ⟨hK, hP, hD, hS, hA, hF⟩ := hI
  obtain ⟨hx, hb, hml, ho, hts⟩ := X
  subst hw
  exact va_put hx hb hts hu t0 ht0 hnm ho hK hP hD hS i he hc k hk (hts _ hl) (fun x h => by rw [h1] at h; exact h) hfin hpd rfl rfl hlen hd (fun H1 locs1 a1 a2 a3 => kk H1 locs1 ⟨hK, a1, a2, a3, hA, hF⟩)
theorem ra_i (X : CallFix p m c cc nL s args tb own) (hI : Inw D ty Fx w0 A s H locs) (i : Nat) {a n : Nat} {f : Nat → Int32} (he : w0[i]? = some (a, .inl (ty 0, n, .inl f))) {j : Int32} (hin : vp_in j n) (hd : decode cc pc = .ok (.iaload, 1))
    (kk : W p l e R s m args below meth c H locs cells slots Q (F0 m (pc + 1) ls (.int (f j.toNatClampNeg) :: rest))) : W p l e R s m args below meth c H locs cells slots Q (F0 m pc ls (.int j :: .ref a :: rest)) :=
  va_iald X.1 X.2.1 hI.1 hI.2.1 i 0 he rfl hin hd kk
theorem ra_b (X : CallFix p m c cc nL s args tb own) (hI : Inw D ty Fx w0 A s H locs) (i : Nat) {a n : Nat} {f : Nat → Int32} (he : w0[i]? = some (a, .inl (ty 1, n, .inl f))) {j : Int32} (hin : vp_in j n) (hd : decode cc pc = .ok (.baload, 1))
    (kk : W p l e R s m args below meth c H locs cells slots Q (F0 m (pc + 1) ls (.int (f j.toNatClampNeg) :: rest))) : W p l e R s m args below meth c H locs cells slots Q (F0 m pc ls (.int j :: .ref a :: rest)) :=
  va_bald X.1 X.2.1 hI.1 hI.2.1 i 1 he rfl hin hd kk
theorem ra_z (X : CallFix p m c cc nL s args tb own) (hI : Inw D ty Fx w0 A s H locs) (i : Nat) {a n : Nat} {f : Nat → Int32} (he : w0[i]? = some (a, .inl (ty 3, n, .inl f))) {j : Int32} (hin : vp_in j n) (hd : decode cc pc = .ok (.baload, 1))
    (kk : W p l e R s m args below meth c H locs cells slots Q (F0 m (pc + 1) ls (.int (f j.toNatClampNeg) :: rest))) : W p l e R s m args below meth c H locs cells slots Q (F0 m pc ls (.int j :: .ref a :: rest)) :=
  va_zald X.1 X.2.1 hI.1 hI.2.1 i 3 he rfl hin hd kk
theorem ra_q (X : CallFix p m c cc nL s args tb own) (hI : Inw D ty Fx w0 A s H locs) (i : Nat) {a n : Nat} {f : Nat → Option Nat} (he : w0[i]? = some (a, .inl (ty 2, n, .inr (.inr (.inr (.inr f)))))) {j : Int32} (hin : vp_in j n) {a2 : Nat} (h2 : f j.toNatClampNeg = some a2) (hd : decode cc pc = .ok (.aaload, 1))
    (kk : W p l e R s m args below meth c H locs cells slots Q (F0 m (pc + 1) ls (.ref a2 :: rest))) : W p l e R s m args below meth c H locs cells slots Q (F0 m pc ls (.int j :: .ref a :: rest)) := by
  have hlt : j.toNatClampNeg < n := Nat.not_le.mp fun q => hin (Or.inr q)
  have kk : W p l e R s m args below meth c H locs cells slots Q (F0 m (pc + 1) ls (va_rf (f j.toNatClampNeg) :: rest)) := by rw [h2]; exact kk
  exact W.aald (v := va_rf (f j.toNatClampNeg)) (ty := .array .byte) X.1 X.2.1 (hI.2.1 i _ he) ((hI.1.2 2 _ rfl).1 n (fun j => va_rf (f j))) rfl (fun q => by cases q) (by show ¬ (j < 0 ∨ (arrV _ _ _).slots.size ≤ _); rw [arrV_size]; exact hin) (by show (arrV _ _ _).slots[_]? = _; rw [arrV_read _ _ hlt]) rfl rfl hd kk
theorem wa_i (X : CallFix p m c cc nL s args tb own) (hI : Inw D ty Fx w0 A s H locs) (i : Nat) {a n : Nat} {f : Nat → Int32} (he : w0[i]? = some (a, .inl (ty 0, n, .inl f))) {j v : Int32} (hin : vp_in j n) {w1 : va_W} (hw : w0.set i (a, .inl (ty 0, n, .inl (upd f j.toNatClampNeg v))) = w1) (hd : decode cc pc = .ok (.iastore, 1))
    (kk : ∀ (H : Heap) (locs : List Loc), Inw D ty Fx w1 A s H locs → W p l e R s m args below meth c H locs cells slots Q (F0 m (pc + 1) ls rest)) : W p l e R s m args below meth c H locs cells slots Q (F0 m pc ls (.int v :: .int j :: .ref a :: rest)) := by
  obtain ⟨hK, hP, hD, hS, hA, hF⟩ := hI
  subst hw
  exact va_iast X.1 X.2.1 hK hP hD hS i 0 he rfl hin hd (fun H1 locs1 a1 a2 a3 => kk H1 locs1 ⟨hK, a1, a2, a3, hA, hF⟩)
theorem wa_b (X : CallFix p m c cc nL s args tb own) (hI : Inw D ty Fx w0 A s H locs) (i : Nat) {a n : Nat} {f : Nat → Int32} (he : w0[i]? = some (a, .inl (ty 1, n, .inl f))) {j v : Int32} (hin : vp_in j n) {w1 : va_W} (hw : w0.set i (a, .inl (ty 1, n, .inl (upd f j.toNatClampNeg (vp_nar .byte v)))) = w1) (hd : decode cc pc = .ok (.bastore, 1))
    (kk : ∀ (H : Heap) (locs : List Loc), Inw D ty Fx w1 A s H locs → W p l e R s m args below meth c H locs cells slots Q (F0 m (pc + 1) ls rest)) : W p l e R s m args below meth c H locs cells slots Q (F0 m pc ls (.int v :: .int j :: .ref a :: rest)) := by
  obtain ⟨hK, hP, hD, hS, hA, hF⟩ := hI
  subst hw
  exact va_bast X.1 X.2.1 hK hP hD hS i 1 he rfl hin hd (fun H1 locs1 a1 a2 a3 => kk H1 locs1 ⟨hK, a1, a2, a3, hA, hF⟩)
theorem wa_z (X : CallFix p m c cc nL s args tb own) (hI : Inw D ty Fx w0 A s H locs) (i : Nat) {a n : Nat} {f : Nat → Int32} (he : w0[i]? = some (a, .inl (ty 3, n, .inl f))) {j v : Int32} (hin : vp_in j n) {w1 : va_W} (hw : w0.set i (a, .inl (ty 3, n, .inl (upd f j.toNatClampNeg (vp_nar .boolean v)))) = w1) (hd : decode cc pc = .ok (.bastore, 1))
    (kk : ∀ (H : Heap) (locs : List Loc), Inw D ty Fx w1 A s H locs → W p l e R s m args below meth c H locs cells slots Q (F0 m (pc + 1) ls rest)) : W p l e R s m args below meth c H locs cells slots Q (F0 m pc ls (.int v :: .int j :: .ref a :: rest)) := by
  obtain ⟨hK, hP, hD, hS, hA, hF⟩ := hI
  subst hw
  exact va_zast X.1 X.2.1 hK hP hD hS i 3 he rfl hin hd (fun H1 locs1 a1 a2 a3 => kk H1 locs1 ⟨hK, a1, a2, a3, hA, hF⟩)
/-! calls: the callee's world is the caller's -/
theorem in_free (hI : Inw D ty Fx w0 A s H locs) : ∀ q, va_A w0 H.size q → A q := by
  obtain ⟨hK, hP, hD, hS, hA, hF⟩ := hI
  intro q h
  rcases h with ⟨k, e, h⟩ | h
  · exact hD.2 k _ h
  · exact hA q (Nat.le_trans hS.1 h)
theorem in_pre (hFx : FxOk Fx) (hI : Inw D ty Fx w0 A s H locs) (av : List Value) : ∀ U : State, U.heap = H → s.WarmedH U.vm → Pcw D ty Fx w0 H.size av av.toArray U := by
  have hfr := in_free hI
  obtain ⟨hK, hP, hD, hS, hA, hF⟩ := hI
  intro U hU hW
  exact ⟨rfl, by rw [hU], by rw [hU]; exact hP, va_K.moved hW.alike hK, hD.weaken (fun _ _ _ _ => trivial), by rw [hU]; exact hFx A _ s U s.heap H hW hF hS.2.1 hfr⟩
theorem pc_blind (hFx : FxOk Fx) (w0 : va_W) (sz : Nat) (av : List Value) : FrameBlind (Pcw D ty Fx w0 sz av) := by
  intro a U g mk h
  obtain ⟨h1, h2, h3, h4, h5, h6⟩ := h
  exact ⟨h1, h2, h3, va_K.moved (u := U) (U := U.calling g mk a) (Vm.Alike.refl U.vm) h4, h5, hFx _ _ U (U.calling g mk a) U.heap U.heap (State.WarmedH.refl U) h6 (fun _ _ _ => rfl) (fun _ h => h)⟩
theorem cb_of {y : MethodName} {bytes : ByteArray} {maxL n idx : Nat} {rt : Option FieldType} {rm : Room} (X : CallFix p m c cc nL s args tb own) (h1 : Cond.code y bytes maxL rt ∈ tb) (h2 : Cond.initialized y.cls ∈ tb) (h3 : y.cls ≠ "java/lang/invoke/MethodHandle" ∧ y.cls ≠ "java/lang/invoke/VarHandle") (h4 : (parseMethodDescriptor y.desc).map (fun d => d.parameters.length) = some n) (hl : Cond.methodLink own idx y ∈ tb) (hrm : RmOk rm R maxL) :
    CallB R s args own idx y bytes maxL rt (wsy y bytes maxL rt) rm 0 0 n := by
  obtain ⟨hx, hb, hml, ho, hts⟩ := X
  exact ⟨hrm.1, hrm.2.1, hrm.2.2.1, hrm.2.2.2, wsy_ride hts h1, List.mem_cons_self, hts _ h1, hts _ h2, h3, fun sig h => by rw [h] at h4; exact (Option.some.inj h4).symm, hts _ hl⟩
theorem cl_i (X : CallFix p m c cc nL s args tb own) (hFx : FxOk Fx) (hI : Inw D ty Fx (w σ) A s H locs) {y : MethodName} {C : String} {bytes : ByteArray} {maxL n idx b : Nat} {rt : Option FieldType} {rm : Room} {As : List Value}
    (hM : Met l y (wsy y bytes maxL rt) rm (Pcw D ty Fx (w σ) H.size (.ref b :: As)) (Qiw D ty w (va_A (w σ) H.size) res) 0 0 (va_A (w σ) H.size)) (hO : OkV y C bytes maxL rt n) (hl : Cond.methodLink own idx y ∈ tb) (hrm : RmOk rm R maxL)
    (i : Nat) {ci N : Nat} {T : u_T} {fs : List Value} (he : (w σ)[i]? = some (b, .inr (ci, fs))) (hc : vwCl[ci]? = some (C, T, N)) (hn : As.length = n) (hsz : ls.size = nL) (hst : st = As.reverse ++ .ref b :: rest) (hW : (rest.map fun v => v.category).sum ≤ 8) (hcs : cells ≤ R.cells ∧ slots ≤ R.slots) (hd : decode cc pc = .ok (.invokevirtual idx, 3))
    (kk : ∀ (H : Heap) (locs : List Loc), Inw D ty Fx (w res.2) A s H locs → W p l e R s m args below meth c H locs cells slots Q (F0 m (pc + 3) ls (.int res.1 :: rest))) : W p l e R s m args below meth c H locs cells slots Q (F0 m pc ls st) := by
  have hfr := in_free hI
  have hpre := in_pre hFx hI (.ref b :: As)
  obtain ⟨hK, hP, hD, hS, hA, hF⟩ := hI
  subst hst
  obtain ⟨o1, o2, o3, o4, o5, o6⟩ := hO
  refine va_calli (mc := 0) (ms := 0) (va_runV (As := As) (rest := rest) X hM ⟨cb_of X o1 o2 o3 o4 hl hrm, X.2.2.2.2 _ o5, X.2.2.2.2 _ o6⟩ ⟨pc_blind hFx _ _ _, va_recv hK hP (ci := ci) (q0 := i) hc he, hpre⟩ rfl hn hsz rfl (lv_room hW) hd hcs) hS (fun q _ h => hfr q h) hfr (fun r u t H1 locs1 ht hvm hw hB hz1 hk1 hS1 => ?_)
  obtain ⟨hP1, hK1, hD1⟩ := hB
  rw [ht] at hP1
  subst hw
  exact kk H1 locs1 ⟨hK, hP1, hD1.weaken (fun _ q _ h => hfr q.1 h), hS1, hA, hF⟩
theorem cl_v (X : CallFix p m c cc nL s args tb own) (hFx : FxOk Fx) (hI : Inw D ty Fx (w σ) A s H locs) {y : MethodName} {C : String} {bytes : ByteArray} {maxL n idx b : Nat} {rt : Option FieldType} {rm : Room} {As : List Value}
    (hM : Met l y (wsy y bytes maxL rt) rm (Pcw D ty Fx (w σ) H.size (.ref b :: As)) (Qvw D ty w (va_A (w σ) H.size) res) 0 0 (va_A (w σ) H.size)) (hO : OkV y C bytes maxL rt n) (hl : Cond.methodLink own idx y ∈ tb) (hrm : RmOk rm R maxL)
    (i : Nat) {ci N : Nat} {T : u_T} {fs : List Value} (he : (w σ)[i]? = some (b, .inr (ci, fs))) (hc : vwCl[ci]? = some (C, T, N)) (hn : As.length = n) (hsz : ls.size = nL) (hst : st = As.reverse ++ .ref b :: rest) (hW : (rest.map fun v => v.category).sum ≤ 8) (hcs : cells ≤ R.cells ∧ slots ≤ R.slots) (hd : decode cc pc = .ok (.invokevirtual idx, 3))
    (kk : ∀ (H : Heap) (locs : List Loc), Inw D ty Fx (w res.2) A s H locs → W p l e R s m args below meth c H locs cells slots Q (F0 m (pc + 3) ls rest)) : W p l e R s m args below meth c H locs cells slots Q (F0 m pc ls st) := by
  have hfr := in_free hI
  have hpre := in_pre hFx hI (.ref b :: As)
  obtain ⟨hK, hP, hD, hS, hA, hF⟩ := hI
  subst hst
  obtain ⟨o1, o2, o3, o4, o5, o6⟩ := hO
  refine va_callv (mc := 0) (ms := 0) (va_runV (As := As) (rest := rest) X hM ⟨cb_of X o1 o2 o3 o4 hl hrm, X.2.2.2.2 _ o5, X.2.2.2.2 _ o6⟩ ⟨pc_blind hFx _ _ _, va_recv hK hP (ci := ci) (q0 := i) hc he, hpre⟩ rfl hn hsz rfl (lv_room hW) hd hcs) hS (fun q _ h => hfr q h) hfr (fun u t H1 locs1 ht hvm hw hB hz1 hk1 hS1 => ?_)
  obtain ⟨hP1, hK1, hD1⟩ := hB
  rw [ht] at hP1
  subst hw
  exact kk H1 locs1 ⟨hK, hP1, hD1.weaken (fun _ q _ h => hfr q.1 h), hS1, hA, hF⟩
theorem cs_i (X : CallFix p m c cc nL s args tb own) (hFx : FxOk Fx) (hI : Inw D ty Fx (w σ) A s H locs) {y : MethodName} {bytes : ByteArray} {maxL n idx : Nat} {rt : Option FieldType} {rm : Room} {As : List Value}
    (hM : Met l y (wsy y bytes maxL rt) rm (Pcw D ty Fx (w σ) H.size As) (Qiw D ty w (va_A (w σ) H.size) res) 0 0 (va_A (w σ) H.size)) (hO : OkS y bytes maxL rt n) (hl : Cond.methodLink own idx y ∈ tb) (hrm : RmOk rm R maxL)
    (hn : As.length = n) (hsz : ls.size = nL) (hst : st = As.reverse ++ rest) (hW : (rest.map fun v => v.category).sum ≤ 8) (hcs : cells ≤ R.cells ∧ slots ≤ R.slots) (hd : decode cc pc = .ok (.invokestatic idx, 3))
    (kk : ∀ (H : Heap) (locs : List Loc), Inw D ty Fx (w res.2) A s H locs → W p l e R s m args below meth c H locs cells slots Q (F0 m (pc + 3) ls (.int res.1 :: rest))) : W p l e R s m args below meth c H locs cells slots Q (F0 m pc ls st) := by
  have hfr := in_free hI
  have hpre := in_pre hFx hI As
  obtain ⟨hK, hP, hD, hS, hA, hF⟩ := hI
  subst hst
  obtain ⟨o1, o2, o3, o4, o5⟩ := hO
  refine va_calli (mc := 0) (ms := 0) (va_runS (As := As) (rest := rest) X hM ⟨cb_of X o1 o2 o3 o4 hl hrm, X.2.2.2.2 _ o5⟩ ⟨pc_blind hFx _ _ _, hpre⟩ rfl hn hsz rfl (lv_room hW) hd hcs) hS (fun q _ h => hfr q h) hfr (fun r u t H1 locs1 ht hvm hw hB hz1 hk1 hS1 => ?_)
  obtain ⟨hP1, hK1, hD1⟩ := hB
  rw [ht] at hP1
  subst hw
  exact kk H1 locs1 ⟨hK, hP1, hD1.weaken (fun _ q _ h => hfr q.1 h), hS1, hA, hF⟩
theorem cn_i (X : CallFix p m c cc nL s args tb own) (hFx : FxOk Fx) (hI : Inw D ty Fx (w σ) A s H locs) {y : MethodName} {host : String} {bytes : ByteArray} {maxL n idx : Nat} {rt : Option FieldType} {rm : Room} {As : List Value}
    (hM : Met l y (wsy y bytes maxL rt) rm (Pcw D ty Fx (w σ) H.size As) (Qiw D ty w (va_A (w σ) H.size) res) 0 0 (va_A (w σ) H.size)) (hO : OkS y bytes maxL rt n) (hl : va_Nw (.methodLinkNest own idx y host) s) (hrm : RmOk rm R maxL)
    (hn : As.length = n) (hsz : ls.size = nL) (hst : st = As.reverse ++ rest) (hW : (rest.map fun v => v.category).sum ≤ 8) (hcs : cells ≤ R.cells ∧ slots ≤ R.slots) (hd : decode cc pc = .ok (.invokestatic idx, 3))
    (kk : ∀ (H : Heap) (locs : List Loc), Inw D ty Fx (w res.2) A s H locs → W p l e R s m args below meth c H locs cells slots Q (F0 m (pc + 3) ls (.int res.1 :: rest))) : W p l e R s m args below meth c H locs cells slots Q (F0 m pc ls st) := by
  have hfr := in_free hI
  have hpre := in_pre hFx hI As
  obtain ⟨hK, hP, hD, hS, hA, hF⟩ := hI
  subst hst
  obtain ⟨o1, o2, o3, o4, o5⟩ := hO
  have hts := X.2.2.2.2
  refine va_calli (mc := 0) (ms := 0) (va_runSN (host := host) (As := As) (rest := rest) X hM ⟨⟨⟨hrm.1, hrm.2.1, hrm.2.2.1, hrm.2.2.2, wsy_ride hts o1, List.mem_cons_self⟩, hts _ o1, hts _ o2, o3, fun sig h => by rw [h] at o4; exact (Option.some.inj o4).symm, va_Nw.use rfl hl⟩, hts _ o5, trivial⟩ ⟨pc_blind hFx _ _ _, hpre⟩ rfl hn hsz rfl (lv_room hW) hd hcs) hS (fun q _ h => hfr q h) hfr (fun r u t H1 locs1 ht hvm hw hB hz1 hk1 hS1 => ?_)
  obtain ⟨hP1, hK1, hD1⟩ := hB
  rw [ht] at hP1
  subst hw
  exact kk H1 locs1 ⟨hK, hP1, hD1.weaken (fun _ q _ h => hfr q.1 h), hS1, hA, hF⟩
theorem mx_i (X : CallFix p m c cc nL s args tb own) {idx : Nat} (hsz : ls.size = nL) (hl : Cond.methodLink own idx Lib.Math.max.name ∈ tb) (h1 : Cond.static Lib.Math.max.name ∈ tb) (h2 : Cond.initialized "java/lang/Math" ∈ tb) (h3 : Cond.code Lib.Math.max.name Lib.Math.max.code 2 (some .int) ∈ tb) (hR : 1 ≤ R.frames ∧ (rest.map fun v => v.category).sum + 13 ≤ R.locals) (hcs : cells ≤ R.cells ∧ slots ≤ R.slots) {x y : Int32} (hd : decode cc pc = .ok (.invokestatic idx, 3))
    (kk : W p l e R s m args below meth c H locs cells slots Q (F0 m (pc + 3) ls (.int (if x < y then y else x) :: rest))) : W p l e R s m args below meth c H locs cells slots Q (F0 m pc ls (.int y :: .int x :: rest)) :=
  va_mmax X.1 X.2.1 (X.2.2.1.trans hsz.symm) X.2.2.2.1 (X.2.2.2.2 _ hl) (X.2.2.2.2 _ h1) (X.2.2.2.2 _ h2) (X.2.2.2.2 _ h3) hR.1 hR.2 hcs.1 hcs.2 hd kk
end Rw
end
section
/-! the two worlds: the cells by their addresses q, the numbers and rows by σ -/
def wC (ty : Nat → ClassId) (q : Nat → Nat) (σ : St) : va_W := [
  (q 0, .inr (4, [.ref (q 1), .ref (q 2)])),
  (q 1, .inr (0, [.ref (q 5), .ref (q 6)])),
  (q 2, .inr (3, [.ref (q 1), .ref (q 3), .ref (q 4), .ref (q 7), .int (σ.1 0), .int (σ.1 1), .int (σ.1 2)])),
  (q 3, .inr (2, [.ref (q 8), .ref (q 9), .ref (q 10), .int (σ.1 3), .int (σ.1 4), .int (σ.1 5), .int (σ.1 6), .int (σ.1 7), .int (σ.1 8)])),
  (q 4, .inr (1, [.ref (q 11), .ref (q 12), .ref (q 13), .ref (q 14), .ref (q 15), .int (σ.1 9), .int (σ.1 10)])),
  (q 5, .inl (ty 2, 5, .inr (.inr (.inr (.inr (fun i => if i < 5 then some (q (16 + i)) else none)))))),
  (q 6, .inl (ty 0, 5, .inl (σ.2 0))),
  (q 7, .inl (ty 0, 40, .inl (σ.2 1))),
  (q 8, .inl (ty 0, 5, .inl (σ.2 2))),
  (q 9, .inl (ty 0, 5, .inl (σ.2 3))),
  (q 10, .inl (ty 0, 5, .inl (σ.2 4))),
  (q 11, .inl (ty 0, 500, .inl (σ.2 5))),
  (q 12, .inl (ty 0, 500, .inl (σ.2 6))),
  (q 13, .inl (ty 0, 500, .inl (σ.2 7))),
  (q 14, .inl (ty 0, 500, .inl (σ.2 8))),
  (q 15, .inl (ty 0, 1000, .inl (σ.2 9))),
  (q 16, .inl (ty 1, 80, .inl (σ.2 10))),
  (q 17, .inl (ty 1, 80, .inl (σ.2 11))),
  (q 18, .inl (ty 1, 80, .inl (σ.2 12))),
  (q 19, .inl (ty 1, 80, .inl (σ.2 13))),
  (q 20, .inl (ty 1, 80, .inl (σ.2 14)))]
def wM (ty : Nat → ClassId) (q : Nat → Nat) (σ : St) : va_W := [
  (q 0, .inr (5, [.int (σ.1 0), .ref (q 1), .ref (q 2), .int (σ.1 1), .int (σ.1 2), .ref (q 3), .ref (q 4), .int (σ.1 3), .int (σ.1 4), .int (σ.1 5), .int (σ.1 6), .int (σ.1 7), .ref (q 5), .ref (q 6), .ref (q 7), .ref (q 8), .ref (q 9), .int (σ.1 8), .ref (q 10), .int (σ.1 9), .int (σ.1 10), .ref (q 11)])),
  (q 1, .inl (ty 0, 400, .inl (σ.2 0))),
  (q 2, .inl (ty 0, 5, .inl (σ.2 1))),
  (q 3, .inl (ty 3, 5, .inl (σ.2 2))),
  (q 4, .inl (ty 0, 5, .inl (σ.2 3))),
  (q 5, .inl (ty 0, 520, .inl (σ.2 4))),
  (q 6, .inl (ty 0, 520, .inl (σ.2 5))),
  (q 7, .inl (ty 0, 520, .inl (σ.2 6))),
  (q 8, .inl (ty 0, 3120, .inl (σ.2 7))),
  (q 9, .inl (ty 0, 520, .inl (σ.2 8))),
  (q 10, .inl (ty 0, 1010, .inl (σ.2 9))),
  (q 11, .inl (ty 0, 40, .inl (σ.2 10)))]
def tLen (j : Nat) : Int32 := ([1, 2, 2, 2, 1, 1, 1, 1, 2, 2, 3, 1, 1] : List Int32).getD j 0
def tTak (j : Nat) : Int32 := ([0, 0, 0, 1, 2, 2, 2, 2, 1, 0, 1, 1, 1] : List Int32).getD j 0
def FxC (q : Nat → Nat) (A : Nat → Prop) (U : State) (H : Heap) : Prop := va_Z RX3 "LENGTHS" "[I" (.ref (q 21)) A U H ∧ va_T .int (q 21) 13 (fun j => .int (tLen j)) A U H ∧ va_Z RX3 "TAKES" "[I" (.ref (q 22)) A U H ∧ va_T .int (q 22) 13 (fun j => .int (tTak j)) A U H ∧ va_Nw (.methodLinkNest RX0 24 yX4_isSegment RX4) U ∧ va_Nw (.methodLinkNest RX2 40 yX4_isSegment RX4) U
theorem fxC (q : Nat → Nat) : FxOk (FxC q) := by
  intro A B u U H H1 hW h hq hAB
  obtain ⟨h1, h2, h3, h4, h5, h6⟩ := h
  exact ⟨((h1.moved hW.alike).kept hq).narrow hAB, ((h2.moved hW.alike).kept hq).narrow hAB, ((h3.moved hW.alike).kept hq).narrow hAB, ((h4.moved hW.alike).kept hq).narrow hAB, h5.warmM hW, h6.warmM hW⟩
def FxM (_ : Nat → Prop) (_ : State) (_ : Heap) : Prop := True
theorem fxM : FxOk FxM := fun _ _ _ _ _ _ _ _ _ _ => trivial
theorem utX0 : ∀ w ∈ u_ws RX0 TX0 2, w ∈ tb := fun w h => by
  have h1 : ∀ w ∈ u_ws RX0 TX0 2, w ∈ lw_tbl ∧ goodWord w = true := by decide +kernel
  exact tb_in (h1 w h).1 (h1 w h).2
theorem utX1 : ∀ w ∈ u_ws RX1 TX1 7, w ∈ tb := fun w h => by
  have h1 : ∀ w ∈ u_ws RX1 TX1 7, w ∈ lw_tbl ∧ goodWord w = true := by decide +kernel
  exact tb_in (h1 w h).1 (h1 w h).2
theorem utX2 : ∀ w ∈ u_ws RX2 TX2 9, w ∈ tb := fun w h => by
  have h1 : ∀ w ∈ u_ws RX2 TX2 9, w ∈ lw_tbl ∧ goodWord w = true := by decide +kernel
  exact tb_in (h1 w h).1 (h1 w h).2
theorem utX3 : ∀ w ∈ u_ws RX3 TX3 7, w ∈ tb := fun w h => by
  have h1 : ∀ w ∈ u_ws RX3 TX3 7, w ∈ lw_tbl ∧ goodWord w = true := by decide +kernel
  exact tb_in (h1 w h).1 (h1 w h).2
theorem utX4 : ∀ w ∈ u_ws RX4 TX4 2, w ∈ tb := fun w h => by
  have h1 : ∀ w ∈ u_ws RX4 TX4 2, w ∈ lw_tbl ∧ goodWord w = true := by decide +kernel
  exact tb_in (h1 w h).1 (h1 w h).2
theorem utX5 : ∀ w ∈ u_ws RX5 TX5 22, w ∈ tb := fun w h => by
  have h1 : ∀ w ∈ u_ws RX5 TX5 22, w ∈ lw_tbl ∧ goodWord w = true := by decide +kernel
  exact tb_in (h1 w h).1 (h1 w h).2
end
section
section Fr
variable {p : Program} {l : Launch} {e : Env} {R : Room} {s : State} {m : MethodId} {args : Array Value} {below : List Frame} {meth : Method} {c : Code} {H : Heap} {locs : List Loc} {cells slots : Nat} {Q : State → Prop}
variable {cc : ByteArray} {pc nL : Nat} {ls : Array Slot} {rest : List Value} {D : va_G} {ty : Nat → ClassId} {q : Nat → Nat} {Fx : (Nat → Prop) → State → Heap → Prop} {A : Nat → Prop} {own : String} {σ : St}
theorem lk_X4_disk : Cond.fieldLink RX4 10 RX4 (TX4 0).2.1 (TX4 0).2.2.1 ∈ tb := tb_in (List.mem_of_getElem? (i := 153) (by decide +kernel)) (by decide +kernel)
theorem g_X4_disk (X : CallFix p m c cc nL s args tb RX4) (hI : Inw D ty Fx (wC ty q σ) A s H locs) (hd : decode cc pc = .ok (.getfield 10, 3)) (kk : W p l e R s m args below meth c H locs cells slots Q (F0 m (pc + 3) ls (.ref (q 1) :: rest))) : W p l e R s m args below meth c H locs cells slots Q (F0 m pc ls (.ref (q 0) :: rest)) :=
  gt_f X hI 0 rfl rfl utX4 0 (by decide) lk_X4_disk rfl rfl hd kk
theorem lk_X4_run : Cond.fieldLink RX4 21 RX4 (TX4 1).2.1 (TX4 1).2.2.1 ∈ tb := tb_in (List.mem_of_getElem? (i := 154) (by decide +kernel)) (by decide +kernel)
theorem g_X4_run (X : CallFix p m c cc nL s args tb RX4) (hI : Inw D ty Fx (wC ty q σ) A s H locs) (hd : decode cc pc = .ok (.getfield 21, 3)) (kk : W p l e R s m args below meth c H locs cells slots Q (F0 m (pc + 3) ls (.ref (q 2) :: rest))) : W p l e R s m args below meth c H locs cells slots Q (F0 m pc ls (.ref (q 0) :: rest)) :=
  gt_f X hI 0 rfl rfl utX4 1 (by decide) lk_X4_run rfl rfl hd kk
theorem lk_X0_bytes : Cond.fieldLink RX0 11 RX0 (TX0 0).2.1 (TX0 0).2.2.1 ∈ tb := tb_in (List.mem_of_getElem? (i := 54) (by decide +kernel)) (by decide +kernel)
theorem g_X0_bytes (X : CallFix p m c cc nL s args tb RX0) (hI : Inw D ty Fx (wC ty q σ) A s H locs) (hd : decode cc pc = .ok (.getfield 11, 3)) (kk : W p l e R s m args below meth c H locs cells slots Q (F0 m (pc + 3) ls (.ref (q 5) :: rest))) : W p l e R s m args below meth c H locs cells slots Q (F0 m pc ls (.ref (q 1) :: rest)) :=
  gt_f X hI 1 rfl rfl utX0 0 (by decide) lk_X0_bytes rfl rfl hd kk
theorem lk_X0_lengths : Cond.fieldLink RX0 16 RX0 (TX0 1).2.1 (TX0 1).2.2.1 ∈ tb := tb_in (List.mem_of_getElem? (i := 55) (by decide +kernel)) (by decide +kernel)
theorem g_X0_lengths (X : CallFix p m c cc nL s args tb RX0) (hI : Inw D ty Fx (wC ty q σ) A s H locs) (hd : decode cc pc = .ok (.getfield 16, 3)) (kk : W p l e R s m args below meth c H locs cells slots Q (F0 m (pc + 3) ls (.ref (q 6) :: rest))) : W p l e R s m args below meth c H locs cells slots Q (F0 m pc ls (.ref (q 1) :: rest)) :=
  gt_f X hI 1 rfl rfl utX0 1 (by decide) lk_X0_lengths rfl rfl hd kk
theorem lk_X3_disk : Cond.fieldLink RX3 29 RX3 (TX3 0).2.1 (TX3 0).2.2.1 ∈ tb := tb_in (List.mem_of_getElem? (i := 131) (by decide +kernel)) (by decide +kernel)
theorem g_X3_disk (X : CallFix p m c cc nL s args tb RX3) (hI : Inw D ty Fx (wC ty q σ) A s H locs) (hd : decode cc pc = .ok (.getfield 29, 3)) (kk : W p l e R s m args below meth c H locs cells slots Q (F0 m (pc + 3) ls (.ref (q 1) :: rest))) : W p l e R s m args below meth c H locs cells slots Q (F0 m pc ls (.ref (q 2) :: rest)) :=
  gt_f X hI 2 rfl rfl utX3 0 (by decide) lk_X3_disk rfl rfl hd kk
theorem lk_X3_memory : Cond.fieldLink RX3 12 RX3 (TX3 1).2.1 (TX3 1).2.2.1 ∈ tb := tb_in (List.mem_of_getElem? (i := 132) (by decide +kernel)) (by decide +kernel)
theorem g_X3_memory (X : CallFix p m c cc nL s args tb RX3) (hI : Inw D ty Fx (wC ty q σ) A s H locs) (hd : decode cc pc = .ok (.getfield 12, 3)) (kk : W p l e R s m args below meth c H locs cells slots Q (F0 m (pc + 3) ls (.ref (q 3) :: rest))) : W p l e R s m args below meth c H locs cells slots Q (F0 m pc ls (.ref (q 2) :: rest)) :=
  gt_f X hI 2 rfl rfl utX3 1 (by decide) lk_X3_memory rfl rfl hd kk
theorem lk_X3_frames : Cond.fieldLink RX3 21 RX3 (TX3 2).2.1 (TX3 2).2.2.1 ∈ tb := tb_in (List.mem_of_getElem? (i := 133) (by decide +kernel)) (by decide +kernel)
theorem g_X3_frames (X : CallFix p m c cc nL s args tb RX3) (hI : Inw D ty Fx (wC ty q σ) A s H locs) (hd : decode cc pc = .ok (.getfield 21, 3)) (kk : W p l e R s m args below meth c H locs cells slots Q (F0 m (pc + 3) ls (.ref (q 4) :: rest))) : W p l e R s m args below meth c H locs cells slots Q (F0 m pc ls (.ref (q 2) :: rest)) :=
  gt_f X hI 2 rfl rfl utX3 2 (by decide) lk_X3_frames rfl rfl hd kk
theorem lk_X3_outs : Cond.fieldLink RX3 25 RX3 (TX3 3).2.1 (TX3 3).2.2.1 ∈ tb := tb_in (List.mem_of_getElem? (i := 134) (by decide +kernel)) (by decide +kernel)
theorem g_X3_outs (X : CallFix p m c cc nL s args tb RX3) (hI : Inw D ty Fx (wC ty q σ) A s H locs) (hd : decode cc pc = .ok (.getfield 25, 3)) (kk : W p l e R s m args below meth c H locs cells slots Q (F0 m (pc + 3) ls (.ref (q 7) :: rest))) : W p l e R s m args below meth c H locs cells slots Q (F0 m pc ls (.ref (q 2) :: rest)) :=
  gt_f X hI 2 rfl rfl utX3 3 (by decide) lk_X3_outs rfl rfl hd kk
theorem lk_X3_outCount : Cond.fieldLink RX3 47 RX3 (TX3 4).2.1 (TX3 4).2.2.1 ∈ tb := tb_in (List.mem_of_getElem? (i := 135) (by decide +kernel)) (by decide +kernel)
theorem g_X3_outCount (X : CallFix p m c cc nL s args tb RX3) (hI : Inw D ty Fx (wC ty q σ) A s H locs) {v : Int32} (hv : gI σ 0 = v) (hd : decode cc pc = .ok (.getfield 47, 3)) (kk : W p l e R s m args below meth c H locs cells slots Q (F0 m (pc + 3) ls (.int v :: rest))) : W p l e R s m args below meth c H locs cells slots Q (F0 m pc ls (.ref (q 2) :: rest)) := by
  subst hv
  exact gt_f X hI 2 rfl rfl utX3 4 (by decide) lk_X3_outCount rfl rfl hd kk
theorem p_X3_outCount (X : CallFix p m c cc nL s args tb RX3) (hI : Inw D ty Fx (wC ty q σ) A s H locs) {v : Int32} (hd : decode cc pc = .ok (.putfield 47, 3)) (kk : ∀ (H : Heap) (locs : List Loc), Inw D ty Fx (wC ty q (sI σ 0 v)) A s H locs → W p l e R s m args below meth c H locs cells slots Q (F0 m (pc + 3) ls rest)) : W p l e R s m args below meth c H locs cells slots Q (F0 m pc ls (.int v :: .ref (q 2) :: rest)) :=
  pt_f X hI 2 rfl rfl utX3 tyX3 tyX3_ok nmX3 4 (by decide) lk_X3_outCount rfl rfl rfl (Nat.le_of_ble_eq_true rfl) rfl hd kk
theorem lk_X3_result : Cond.fieldLink RX3 51 RX3 (TX3 5).2.1 (TX3 5).2.2.1 ∈ tb := tb_in (List.mem_of_getElem? (i := 136) (by decide +kernel)) (by decide +kernel)
theorem g_X3_result (X : CallFix p m c cc nL s args tb RX3) (hI : Inw D ty Fx (wC ty q σ) A s H locs) {v : Int32} (hv : gI σ 1 = v) (hd : decode cc pc = .ok (.getfield 51, 3)) (kk : W p l e R s m args below meth c H locs cells slots Q (F0 m (pc + 3) ls (.int v :: rest))) : W p l e R s m args below meth c H locs cells slots Q (F0 m pc ls (.ref (q 2) :: rest)) := by
  subst hv
  exact gt_f X hI 2 rfl rfl utX3 5 (by decide) lk_X3_result rfl rfl hd kk
theorem p_X3_result (X : CallFix p m c cc nL s args tb RX3) (hI : Inw D ty Fx (wC ty q σ) A s H locs) {v : Int32} (hd : decode cc pc = .ok (.putfield 51, 3)) (kk : ∀ (H : Heap) (locs : List Loc), Inw D ty Fx (wC ty q (sI σ 1 v)) A s H locs → W p l e R s m args below meth c H locs cells slots Q (F0 m (pc + 3) ls rest)) : W p l e R s m args below meth c H locs cells slots Q (F0 m pc ls (.int v :: .ref (q 2) :: rest)) :=
  pt_f X hI 2 rfl rfl utX3 tyX3 tyX3_ok nmX3 5 (by decide) lk_X3_result rfl rfl rfl (Nat.le_of_ble_eq_true rfl) rfl hd kk
theorem lk_X3_status : Cond.fieldLink RX3 54 RX3 (TX3 6).2.1 (TX3 6).2.2.1 ∈ tb := tb_in (List.mem_of_getElem? (i := 137) (by decide +kernel)) (by decide +kernel)
theorem g_X3_status (X : CallFix p m c cc nL s args tb RX3) (hI : Inw D ty Fx (wC ty q σ) A s H locs) {v : Int32} (hv : gI σ 2 = v) (hd : decode cc pc = .ok (.getfield 54, 3)) (kk : W p l e R s m args below meth c H locs cells slots Q (F0 m (pc + 3) ls (.int v :: rest))) : W p l e R s m args below meth c H locs cells slots Q (F0 m pc ls (.ref (q 2) :: rest)) := by
  subst hv
  exact gt_f X hI 2 rfl rfl utX3 6 (by decide) lk_X3_status rfl rfl hd kk
theorem p_X3_status (X : CallFix p m c cc nL s args tb RX3) (hI : Inw D ty Fx (wC ty q σ) A s H locs) {v : Int32} (hd : decode cc pc = .ok (.putfield 54, 3)) (kk : ∀ (H : Heap) (locs : List Loc), Inw D ty Fx (wC ty q (sI σ 2 v)) A s H locs → W p l e R s m args below meth c H locs cells slots Q (F0 m (pc + 3) ls rest)) : W p l e R s m args below meth c H locs cells slots Q (F0 m pc ls (.int v :: .ref (q 2) :: rest)) :=
  pt_f X hI 2 rfl rfl utX3 tyX3 tyX3_ok nmX3 6 (by decide) lk_X3_status rfl rfl rfl (Nat.le_of_ble_eq_true rfl) rfl hd kk
theorem lk_X2_residentBytes : Cond.fieldLink RX2 9 RX2 (TX2 0).2.1 (TX2 0).2.2.1 ∈ tb := tb_in (List.mem_of_getElem? (i := 75) (by decide +kernel)) (by decide +kernel)
theorem g_X2_residentBytes (X : CallFix p m c cc nL s args tb RX2) (hI : Inw D ty Fx (wC ty q σ) A s H locs) (hd : decode cc pc = .ok (.getfield 9, 3)) (kk : W p l e R s m args below meth c H locs cells slots Q (F0 m (pc + 3) ls (.ref (q 8) :: rest))) : W p l e R s m args below meth c H locs cells slots Q (F0 m pc ls (.ref (q 3) :: rest)) :=
  gt_f X hI 3 rfl rfl utX2 0 (by decide) lk_X2_residentBytes rfl rfl hd kk
theorem lk_X2_frameCounts : Cond.fieldLink RX2 15 RX2 (TX2 1).2.1 (TX2 1).2.2.1 ∈ tb := tb_in (List.mem_of_getElem? (i := 76) (by decide +kernel)) (by decide +kernel)
theorem g_X2_frameCounts (X : CallFix p m c cc nL s args tb RX2) (hI : Inw D ty Fx (wC ty q σ) A s H locs) (hd : decode cc pc = .ok (.getfield 15, 3)) (kk : W p l e R s m args below meth c H locs cells slots Q (F0 m (pc + 3) ls (.ref (q 9) :: rest))) : W p l e R s m args below meth c H locs cells slots Q (F0 m pc ls (.ref (q 3) :: rest)) :=
  gt_f X hI 3 rfl rfl utX2 1 (by decide) lk_X2_frameCounts rfl rfl hd kk
theorem lk_X2_latestCalls : Cond.fieldLink RX2 18 RX2 (TX2 2).2.1 (TX2 2).2.2.1 ∈ tb := tb_in (List.mem_of_getElem? (i := 77) (by decide +kernel)) (by decide +kernel)
theorem g_X2_latestCalls (X : CallFix p m c cc nL s args tb RX2) (hI : Inw D ty Fx (wC ty q σ) A s H locs) (hd : decode cc pc = .ok (.getfield 18, 3)) (kk : W p l e R s m args below meth c H locs cells slots Q (F0 m (pc + 3) ls (.ref (q 10) :: rest))) : W p l e R s m args below meth c H locs cells slots Q (F0 m pc ls (.ref (q 3) :: rest)) :=
  gt_f X hI 3 rfl rfl utX2 2 (by decide) lk_X2_latestCalls rfl rfl hd kk
theorem lk_X2_calls : Cond.fieldLink RX2 21 RX2 (TX2 3).2.1 (TX2 3).2.2.1 ∈ tb := tb_in (List.mem_of_getElem? (i := 78) (by decide +kernel)) (by decide +kernel)
theorem g_X2_calls (X : CallFix p m c cc nL s args tb RX2) (hI : Inw D ty Fx (wC ty q σ) A s H locs) {v : Int32} (hv : gI σ 3 = v) (hd : decode cc pc = .ok (.getfield 21, 3)) (kk : W p l e R s m args below meth c H locs cells slots Q (F0 m (pc + 3) ls (.int v :: rest))) : W p l e R s m args below meth c H locs cells slots Q (F0 m pc ls (.ref (q 3) :: rest)) := by
  subst hv
  exact gt_f X hI 3 rfl rfl utX2 3 (by decide) lk_X2_calls rfl rfl hd kk
theorem p_X2_calls (X : CallFix p m c cc nL s args tb RX2) (hI : Inw D ty Fx (wC ty q σ) A s H locs) {v : Int32} (hd : decode cc pc = .ok (.putfield 21, 3)) (kk : ∀ (H : Heap) (locs : List Loc), Inw D ty Fx (wC ty q (sI σ 3 v)) A s H locs → W p l e R s m args below meth c H locs cells slots Q (F0 m (pc + 3) ls rest)) : W p l e R s m args below meth c H locs cells slots Q (F0 m pc ls (.int v :: .ref (q 3) :: rest)) :=
  pt_f X hI 3 rfl rfl utX2 tyX2 tyX2_ok nmX2 3 (by decide) lk_X2_calls rfl rfl rfl (Nat.le_of_ble_eq_true rfl) rfl hd kk
theorem lk_X2_limit : Cond.fieldLink RX2 25 RX2 (TX2 4).2.1 (TX2 4).2.2.1 ∈ tb := tb_in (List.mem_of_getElem? (i := 79) (by decide +kernel)) (by decide +kernel)
theorem g_X2_limit (X : CallFix p m c cc nL s args tb RX2) (hI : Inw D ty Fx (wC ty q σ) A s H locs) {v : Int32} (hv : gI σ 4 = v) (hd : decode cc pc = .ok (.getfield 25, 3)) (kk : W p l e R s m args below meth c H locs cells slots Q (F0 m (pc + 3) ls (.int v :: rest))) : W p l e R s m args below meth c H locs cells slots Q (F0 m pc ls (.ref (q 3) :: rest)) := by
  subst hv
  exact gt_f X hI 3 rfl rfl utX2 4 (by decide) lk_X2_limit rfl rfl hd kk
theorem p_X2_limit (X : CallFix p m c cc nL s args tb RX2) (hI : Inw D ty Fx (wC ty q σ) A s H locs) {v : Int32} (hd : decode cc pc = .ok (.putfield 25, 3)) (kk : ∀ (H : Heap) (locs : List Loc), Inw D ty Fx (wC ty q (sI σ 4 v)) A s H locs → W p l e R s m args below meth c H locs cells slots Q (F0 m (pc + 3) ls rest)) : W p l e R s m args below meth c H locs cells slots Q (F0 m pc ls (.int v :: .ref (q 3) :: rest)) :=
  pt_f X hI 3 rfl rfl utX2 tyX2 tyX2_ok nmX2 4 (by decide) lk_X2_limit rfl rfl rfl (Nat.le_of_ble_eq_true rfl) rfl hd kk
theorem lk_X2_held : Cond.fieldLink RX2 28 RX2 (TX2 5).2.1 (TX2 5).2.2.1 ∈ tb := tb_in (List.mem_of_getElem? (i := 80) (by decide +kernel)) (by decide +kernel)
theorem g_X2_held (X : CallFix p m c cc nL s args tb RX2) (hI : Inw D ty Fx (wC ty q σ) A s H locs) {v : Int32} (hv : gI σ 5 = v) (hd : decode cc pc = .ok (.getfield 28, 3)) (kk : W p l e R s m args below meth c H locs cells slots Q (F0 m (pc + 3) ls (.int v :: rest))) : W p l e R s m args below meth c H locs cells slots Q (F0 m pc ls (.ref (q 3) :: rest)) := by
  subst hv
  exact gt_f X hI 3 rfl rfl utX2 5 (by decide) lk_X2_held rfl rfl hd kk
theorem p_X2_held (X : CallFix p m c cc nL s args tb RX2) (hI : Inw D ty Fx (wC ty q σ) A s H locs) {v : Int32} (hd : decode cc pc = .ok (.putfield 28, 3)) (kk : ∀ (H : Heap) (locs : List Loc), Inw D ty Fx (wC ty q (sI σ 5 v)) A s H locs → W p l e R s m args below meth c H locs cells slots Q (F0 m (pc + 3) ls rest)) : W p l e R s m args below meth c H locs cells slots Q (F0 m pc ls (.int v :: .ref (q 3) :: rest)) :=
  pt_f X hI 3 rfl rfl utX2 tyX2 tyX2_ok nmX2 5 (by decide) lk_X2_held rfl rfl rfl (Nat.le_of_ble_eq_true rfl) rfl hd kk
theorem lk_X2_most : Cond.fieldLink RX2 31 RX2 (TX2 6).2.1 (TX2 6).2.2.1 ∈ tb := tb_in (List.mem_of_getElem? (i := 81) (by decide +kernel)) (by decide +kernel)
theorem g_X2_most (X : CallFix p m c cc nL s args tb RX2) (hI : Inw D ty Fx (wC ty q σ) A s H locs) {v : Int32} (hv : gI σ 6 = v) (hd : decode cc pc = .ok (.getfield 31, 3)) (kk : W p l e R s m args below meth c H locs cells slots Q (F0 m (pc + 3) ls (.int v :: rest))) : W p l e R s m args below meth c H locs cells slots Q (F0 m pc ls (.ref (q 3) :: rest)) := by
  subst hv
  exact gt_f X hI 3 rfl rfl utX2 6 (by decide) lk_X2_most rfl rfl hd kk
theorem p_X2_most (X : CallFix p m c cc nL s args tb RX2) (hI : Inw D ty Fx (wC ty q σ) A s H locs) {v : Int32} (hd : decode cc pc = .ok (.putfield 31, 3)) (kk : ∀ (H : Heap) (locs : List Loc), Inw D ty Fx (wC ty q (sI σ 6 v)) A s H locs → W p l e R s m args below meth c H locs cells slots Q (F0 m (pc + 3) ls rest)) : W p l e R s m args below meth c H locs cells slots Q (F0 m pc ls (.int v :: .ref (q 3) :: rest)) :=
  pt_f X hI 3 rfl rfl utX2 tyX2 tyX2_ok nmX2 6 (by decide) lk_X2_most rfl rfl rfl (Nat.le_of_ble_eq_true rfl) rfl hd kk
theorem lk_X2_loads : Cond.fieldLink RX2 34 RX2 (TX2 7).2.1 (TX2 7).2.2.1 ∈ tb := tb_in (List.mem_of_getElem? (i := 82) (by decide +kernel)) (by decide +kernel)
theorem g_X2_loads (X : CallFix p m c cc nL s args tb RX2) (hI : Inw D ty Fx (wC ty q σ) A s H locs) {v : Int32} (hv : gI σ 7 = v) (hd : decode cc pc = .ok (.getfield 34, 3)) (kk : W p l e R s m args below meth c H locs cells slots Q (F0 m (pc + 3) ls (.int v :: rest))) : W p l e R s m args below meth c H locs cells slots Q (F0 m pc ls (.ref (q 3) :: rest)) := by
  subst hv
  exact gt_f X hI 3 rfl rfl utX2 7 (by decide) lk_X2_loads rfl rfl hd kk
theorem p_X2_loads (X : CallFix p m c cc nL s args tb RX2) (hI : Inw D ty Fx (wC ty q σ) A s H locs) {v : Int32} (hd : decode cc pc = .ok (.putfield 34, 3)) (kk : ∀ (H : Heap) (locs : List Loc), Inw D ty Fx (wC ty q (sI σ 7 v)) A s H locs → W p l e R s m args below meth c H locs cells slots Q (F0 m (pc + 3) ls rest)) : W p l e R s m args below meth c H locs cells slots Q (F0 m pc ls (.int v :: .ref (q 3) :: rest)) :=
  pt_f X hI 3 rfl rfl utX2 tyX2 tyX2_ok nmX2 7 (by decide) lk_X2_loads rfl rfl rfl (Nat.le_of_ble_eq_true rfl) rfl hd kk
theorem lk_X2_gone : Cond.fieldLink RX2 37 RX2 (TX2 8).2.1 (TX2 8).2.2.1 ∈ tb := tb_in (List.mem_of_getElem? (i := 83) (by decide +kernel)) (by decide +kernel)
theorem g_X2_gone (X : CallFix p m c cc nL s args tb RX2) (hI : Inw D ty Fx (wC ty q σ) A s H locs) {v : Int32} (hv : gI σ 8 = v) (hd : decode cc pc = .ok (.getfield 37, 3)) (kk : W p l e R s m args below meth c H locs cells slots Q (F0 m (pc + 3) ls (.int v :: rest))) : W p l e R s m args below meth c H locs cells slots Q (F0 m pc ls (.ref (q 3) :: rest)) := by
  subst hv
  exact gt_f X hI 3 rfl rfl utX2 8 (by decide) lk_X2_gone rfl rfl hd kk
theorem p_X2_gone (X : CallFix p m c cc nL s args tb RX2) (hI : Inw D ty Fx (wC ty q σ) A s H locs) {v : Int32} (hd : decode cc pc = .ok (.putfield 37, 3)) (kk : ∀ (H : Heap) (locs : List Loc), Inw D ty Fx (wC ty q (sI σ 8 v)) A s H locs → W p l e R s m args below meth c H locs cells slots Q (F0 m (pc + 3) ls rest)) : W p l e R s m args below meth c H locs cells slots Q (F0 m pc ls (.int v :: .ref (q 3) :: rest)) :=
  pt_f X hI 3 rfl rfl utX2 tyX2 tyX2_ok nmX2 8 (by decide) lk_X2_gone rfl rfl rfl (Nat.le_of_ble_eq_true rfl) rfl hd kk
theorem lk_X1_segments : Cond.fieldLink RX1 11 RX1 (TX1 0).2.1 (TX1 0).2.2.1 ∈ tb := tb_in (List.mem_of_getElem? (i := 109) (by decide +kernel)) (by decide +kernel)
theorem g_X1_segments (X : CallFix p m c cc nL s args tb RX1) (hI : Inw D ty Fx (wC ty q σ) A s H locs) (hd : decode cc pc = .ok (.getfield 11, 3)) (kk : W p l e R s m args below meth c H locs cells slots Q (F0 m (pc + 3) ls (.ref (q 11) :: rest))) : W p l e R s m args below meth c H locs cells slots Q (F0 m pc ls (.ref (q 4) :: rest)) :=
  gt_f X hI 4 rfl rfl utX1 0 (by decide) lk_X1_segments rfl rfl hd kk
theorem lk_X1_places : Cond.fieldLink RX1 15 RX1 (TX1 1).2.1 (TX1 1).2.2.1 ∈ tb := tb_in (List.mem_of_getElem? (i := 110) (by decide +kernel)) (by decide +kernel)
theorem g_X1_places (X : CallFix p m c cc nL s args tb RX1) (hI : Inw D ty Fx (wC ty q σ) A s H locs) (hd : decode cc pc = .ok (.getfield 15, 3)) (kk : W p l e R s m args below meth c H locs cells slots Q (F0 m (pc + 3) ls (.ref (q 12) :: rest))) : W p l e R s m args below meth c H locs cells slots Q (F0 m pc ls (.ref (q 4) :: rest)) :=
  gt_f X hI 4 rfl rfl utX1 1 (by decide) lk_X1_places rfl rfl hd kk
theorem lk_X1_localCounts : Cond.fieldLink RX1 18 RX1 (TX1 2).2.1 (TX1 2).2.2.1 ∈ tb := tb_in (List.mem_of_getElem? (i := 111) (by decide +kernel)) (by decide +kernel)
theorem g_X1_localCounts (X : CallFix p m c cc nL s args tb RX1) (hI : Inw D ty Fx (wC ty q σ) A s H locs) (hd : decode cc pc = .ok (.getfield 18, 3)) (kk : W p l e R s m args below meth c H locs cells slots Q (F0 m (pc + 3) ls (.ref (q 13) :: rest))) : W p l e R s m args below meth c H locs cells slots Q (F0 m pc ls (.ref (q 4) :: rest)) :=
  gt_f X hI 4 rfl rfl utX1 2 (by decide) lk_X1_localCounts rfl rfl hd kk
theorem lk_X1_firstWords : Cond.fieldLink RX1 21 RX1 (TX1 3).2.1 (TX1 3).2.2.1 ∈ tb := tb_in (List.mem_of_getElem? (i := 112) (by decide +kernel)) (by decide +kernel)
theorem g_X1_firstWords (X : CallFix p m c cc nL s args tb RX1) (hI : Inw D ty Fx (wC ty q σ) A s H locs) (hd : decode cc pc = .ok (.getfield 21, 3)) (kk : W p l e R s m args below meth c H locs cells slots Q (F0 m (pc + 3) ls (.ref (q 14) :: rest))) : W p l e R s m args below meth c H locs cells slots Q (F0 m pc ls (.ref (q 4) :: rest)) :=
  gt_f X hI 4 rfl rfl utX1 3 (by decide) lk_X1_firstWords rfl rfl hd kk
theorem lk_X1_words : Cond.fieldLink RX1 24 RX1 (TX1 4).2.1 (TX1 4).2.2.1 ∈ tb := tb_in (List.mem_of_getElem? (i := 113) (by decide +kernel)) (by decide +kernel)
theorem g_X1_words (X : CallFix p m c cc nL s args tb RX1) (hI : Inw D ty Fx (wC ty q σ) A s H locs) (hd : decode cc pc = .ok (.getfield 24, 3)) (kk : W p l e R s m args below meth c H locs cells slots Q (F0 m (pc + 3) ls (.ref (q 15) :: rest))) : W p l e R s m args below meth c H locs cells slots Q (F0 m pc ls (.ref (q 4) :: rest)) :=
  gt_f X hI 4 rfl rfl utX1 4 (by decide) lk_X1_words rfl rfl hd kk
theorem lk_X1_count : Cond.fieldLink RX1 27 RX1 (TX1 5).2.1 (TX1 5).2.2.1 ∈ tb := tb_in (List.mem_of_getElem? (i := 114) (by decide +kernel)) (by decide +kernel)
theorem g_X1_count (X : CallFix p m c cc nL s args tb RX1) (hI : Inw D ty Fx (wC ty q σ) A s H locs) {v : Int32} (hv : gI σ 9 = v) (hd : decode cc pc = .ok (.getfield 27, 3)) (kk : W p l e R s m args below meth c H locs cells slots Q (F0 m (pc + 3) ls (.int v :: rest))) : W p l e R s m args below meth c H locs cells slots Q (F0 m pc ls (.ref (q 4) :: rest)) := by
  subst hv
  exact gt_f X hI 4 rfl rfl utX1 5 (by decide) lk_X1_count rfl rfl hd kk
theorem p_X1_count (X : CallFix p m c cc nL s args tb RX1) (hI : Inw D ty Fx (wC ty q σ) A s H locs) {v : Int32} (hd : decode cc pc = .ok (.putfield 27, 3)) (kk : ∀ (H : Heap) (locs : List Loc), Inw D ty Fx (wC ty q (sI σ 9 v)) A s H locs → W p l e R s m args below meth c H locs cells slots Q (F0 m (pc + 3) ls rest)) : W p l e R s m args below meth c H locs cells slots Q (F0 m pc ls (.int v :: .ref (q 4) :: rest)) :=
  pt_f X hI 4 rfl rfl utX1 tyX1 tyX1_ok nmX1 5 (by decide) lk_X1_count rfl rfl rfl (Nat.le_of_ble_eq_true rfl) rfl hd kk
theorem lk_X1_usedWords : Cond.fieldLink RX1 31 RX1 (TX1 6).2.1 (TX1 6).2.2.1 ∈ tb := tb_in (List.mem_of_getElem? (i := 115) (by decide +kernel)) (by decide +kernel)
theorem g_X1_usedWords (X : CallFix p m c cc nL s args tb RX1) (hI : Inw D ty Fx (wC ty q σ) A s H locs) {v : Int32} (hv : gI σ 10 = v) (hd : decode cc pc = .ok (.getfield 31, 3)) (kk : W p l e R s m args below meth c H locs cells slots Q (F0 m (pc + 3) ls (.int v :: rest))) : W p l e R s m args below meth c H locs cells slots Q (F0 m pc ls (.ref (q 4) :: rest)) := by
  subst hv
  exact gt_f X hI 4 rfl rfl utX1 6 (by decide) lk_X1_usedWords rfl rfl hd kk
theorem p_X1_usedWords (X : CallFix p m c cc nL s args tb RX1) (hI : Inw D ty Fx (wC ty q σ) A s H locs) {v : Int32} (hd : decode cc pc = .ok (.putfield 31, 3)) (kk : ∀ (H : Heap) (locs : List Loc), Inw D ty Fx (wC ty q (sI σ 10 v)) A s H locs → W p l e R s m args below meth c H locs cells slots Q (F0 m (pc + 3) ls rest)) : W p l e R s m args below meth c H locs cells slots Q (F0 m pc ls (.int v :: .ref (q 4) :: rest)) :=
  pt_f X hI 4 rfl rfl utX1 tyX1 tyX1_ok nmX1 6 (by decide) lk_X1_usedWords rfl rfl rfl (Nat.le_of_ble_eq_true rfl) rfl hd kk
theorem lk_X5_code : Cond.fieldLink RX5 44 RX5 (TX5 0).2.1 (TX5 0).2.2.1 ∈ tb := tb_in (List.mem_of_getElem? (i := 588) (by decide +kernel)) (by decide +kernel)
theorem g_X5_code (X : CallFix p m c cc nL s args tb RX5) (hI : Inw D ty Fx (wM ty q σ) A s H locs) {v : Int32} (hv : gI σ 0 = v) (hd : decode cc pc = .ok (.getfield 44, 3)) (kk : W p l e R s m args below meth c H locs cells slots Q (F0 m (pc + 3) ls (.int v :: rest))) : W p l e R s m args below meth c H locs cells slots Q (F0 m pc ls (.ref (q 0) :: rest)) := by
  subst hv
  exact gt_f X hI 0 rfl rfl utX5 0 (by decide) lk_X5_code rfl rfl hd kk
theorem p_X5_code (X : CallFix p m c cc nL s args tb RX5) (hI : Inw D ty Fx (wM ty q σ) A s H locs) {v : Int32} (hd : decode cc pc = .ok (.putfield 44, 3)) (kk : ∀ (H : Heap) (locs : List Loc), Inw D ty Fx (wM ty q (sI σ 0 v)) A s H locs → W p l e R s m args below meth c H locs cells slots Q (F0 m (pc + 3) ls rest)) : W p l e R s m args below meth c H locs cells slots Q (F0 m pc ls (.int v :: .ref (q 0) :: rest)) :=
  pt_f X hI 0 rfl rfl utX5 tyX5 tyX5_ok nmX5 0 (by decide) lk_X5_code rfl rfl rfl (Nat.le_of_ble_eq_true rfl) rfl hd kk
theorem lk_X5_disk : Cond.fieldLink RX5 7 RX5 (TX5 1).2.1 (TX5 1).2.2.1 ∈ tb := tb_in (List.mem_of_getElem? (i := 589) (by decide +kernel)) (by decide +kernel)
theorem g_X5_disk (X : CallFix p m c cc nL s args tb RX5) (hI : Inw D ty Fx (wM ty q σ) A s H locs) (hd : decode cc pc = .ok (.getfield 7, 3)) (kk : W p l e R s m args below meth c H locs cells slots Q (F0 m (pc + 3) ls (.ref (q 1) :: rest))) : W p l e R s m args below meth c H locs cells slots Q (F0 m pc ls (.ref (q 0) :: rest)) :=
  gt_f X hI 0 rfl rfl utX5 1 (by decide) lk_X5_disk rfl rfl hd kk
theorem lk_X5_length : Cond.fieldLink RX5 13 RX5 (TX5 2).2.1 (TX5 2).2.2.1 ∈ tb := tb_in (List.mem_of_getElem? (i := 590) (by decide +kernel)) (by decide +kernel)
theorem g_X5_length (X : CallFix p m c cc nL s args tb RX5) (hI : Inw D ty Fx (wM ty q σ) A s H locs) (hd : decode cc pc = .ok (.getfield 13, 3)) (kk : W p l e R s m args below meth c H locs cells slots Q (F0 m (pc + 3) ls (.ref (q 2) :: rest))) : W p l e R s m args below meth c H locs cells slots Q (F0 m pc ls (.ref (q 0) :: rest)) :=
  gt_f X hI 0 rfl rfl utX5 2 (by decide) lk_X5_length rfl rfl hd kk
theorem lk_X5_state : Cond.fieldLink RX5 52 RX5 (TX5 3).2.1 (TX5 3).2.2.1 ∈ tb := tb_in (List.mem_of_getElem? (i := 591) (by decide +kernel)) (by decide +kernel)
theorem g_X5_state (X : CallFix p m c cc nL s args tb RX5) (hI : Inw D ty Fx (wM ty q σ) A s H locs) {v : Int32} (hv : gI σ 1 = v) (hd : decode cc pc = .ok (.getfield 52, 3)) (kk : W p l e R s m args below meth c H locs cells slots Q (F0 m (pc + 3) ls (.int v :: rest))) : W p l e R s m args below meth c H locs cells slots Q (F0 m pc ls (.ref (q 0) :: rest)) := by
  subst hv
  exact gt_f X hI 0 rfl rfl utX5 3 (by decide) lk_X5_state rfl rfl hd kk
theorem p_X5_state (X : CallFix p m c cc nL s args tb RX5) (hI : Inw D ty Fx (wM ty q σ) A s H locs) {v : Int32} (hd : decode cc pc = .ok (.putfield 52, 3)) (kk : ∀ (H : Heap) (locs : List Loc), Inw D ty Fx (wM ty q (sI σ 1 v)) A s H locs → W p l e R s m args below meth c H locs cells slots Q (F0 m (pc + 3) ls rest)) : W p l e R s m args below meth c H locs cells slots Q (F0 m pc ls (.int v :: .ref (q 0) :: rest)) :=
  pt_f X hI 0 rfl rfl utX5 tyX5 tyX5_ok nmX5 3 (by decide) lk_X5_state rfl rfl rfl (Nat.le_of_ble_eq_true rfl) rfl hd kk
theorem lk_X5_limit : Cond.fieldLink RX5 69 RX5 (TX5 4).2.1 (TX5 4).2.2.1 ∈ tb := tb_in (List.mem_of_getElem? (i := 592) (by decide +kernel)) (by decide +kernel)
theorem g_X5_limit (X : CallFix p m c cc nL s args tb RX5) (hI : Inw D ty Fx (wM ty q σ) A s H locs) {v : Int32} (hv : gI σ 2 = v) (hd : decode cc pc = .ok (.getfield 69, 3)) (kk : W p l e R s m args below meth c H locs cells slots Q (F0 m (pc + 3) ls (.int v :: rest))) : W p l e R s m args below meth c H locs cells slots Q (F0 m pc ls (.ref (q 0) :: rest)) := by
  subst hv
  exact gt_f X hI 0 rfl rfl utX5 4 (by decide) lk_X5_limit rfl rfl hd kk
theorem p_X5_limit (X : CallFix p m c cc nL s args tb RX5) (hI : Inw D ty Fx (wM ty q σ) A s H locs) {v : Int32} (hd : decode cc pc = .ok (.putfield 69, 3)) (kk : ∀ (H : Heap) (locs : List Loc), Inw D ty Fx (wM ty q (sI σ 2 v)) A s H locs → W p l e R s m args below meth c H locs cells slots Q (F0 m (pc + 3) ls rest)) : W p l e R s m args below meth c H locs cells slots Q (F0 m pc ls (.int v :: .ref (q 0) :: rest)) :=
  pt_f X hI 0 rfl rfl utX5 tyX5 tyX5_ok nmX5 4 (by decide) lk_X5_limit rfl rfl rfl (Nat.le_of_ble_eq_true rfl) rfl hd kk
theorem lk_X5_resident : Cond.fieldLink RX5 16 RX5 (TX5 5).2.1 (TX5 5).2.2.1 ∈ tb := tb_in (List.mem_of_getElem? (i := 593) (by decide +kernel)) (by decide +kernel)
theorem g_X5_resident (X : CallFix p m c cc nL s args tb RX5) (hI : Inw D ty Fx (wM ty q σ) A s H locs) (hd : decode cc pc = .ok (.getfield 16, 3)) (kk : W p l e R s m args below meth c H locs cells slots Q (F0 m (pc + 3) ls (.ref (q 3) :: rest))) : W p l e R s m args below meth c H locs cells slots Q (F0 m pc ls (.ref (q 0) :: rest)) :=
  gt_f X hI 0 rfl rfl utX5 5 (by decide) lk_X5_resident rfl rfl hd kk
theorem lk_X5_called : Cond.fieldLink RX5 20 RX5 (TX5 6).2.1 (TX5 6).2.2.1 ∈ tb := tb_in (List.mem_of_getElem? (i := 594) (by decide +kernel)) (by decide +kernel)
theorem g_X5_called (X : CallFix p m c cc nL s args tb RX5) (hI : Inw D ty Fx (wM ty q σ) A s H locs) (hd : decode cc pc = .ok (.getfield 20, 3)) (kk : W p l e R s m args below meth c H locs cells slots Q (F0 m (pc + 3) ls (.ref (q 4) :: rest))) : W p l e R s m args below meth c H locs cells slots Q (F0 m pc ls (.ref (q 0) :: rest)) :=
  gt_f X hI 0 rfl rfl utX5 6 (by decide) lk_X5_called rfl rfl hd kk
theorem lk_X5_time : Cond.fieldLink RX5 88 RX5 (TX5 7).2.1 (TX5 7).2.2.1 ∈ tb := tb_in (List.mem_of_getElem? (i := 595) (by decide +kernel)) (by decide +kernel)
theorem g_X5_time (X : CallFix p m c cc nL s args tb RX5) (hI : Inw D ty Fx (wM ty q σ) A s H locs) {v : Int32} (hv : gI σ 3 = v) (hd : decode cc pc = .ok (.getfield 88, 3)) (kk : W p l e R s m args below meth c H locs cells slots Q (F0 m (pc + 3) ls (.int v :: rest))) : W p l e R s m args below meth c H locs cells slots Q (F0 m pc ls (.ref (q 0) :: rest)) := by
  subst hv
  exact gt_f X hI 0 rfl rfl utX5 7 (by decide) lk_X5_time rfl rfl hd kk
theorem p_X5_time (X : CallFix p m c cc nL s args tb RX5) (hI : Inw D ty Fx (wM ty q σ) A s H locs) {v : Int32} (hd : decode cc pc = .ok (.putfield 88, 3)) (kk : ∀ (H : Heap) (locs : List Loc), Inw D ty Fx (wM ty q (sI σ 3 v)) A s H locs → W p l e R s m args below meth c H locs cells slots Q (F0 m (pc + 3) ls rest)) : W p l e R s m args below meth c H locs cells slots Q (F0 m pc ls (.int v :: .ref (q 0) :: rest)) :=
  pt_f X hI 0 rfl rfl utX5 tyX5 tyX5_ok nmX5 7 (by decide) lk_X5_time rfl rfl rfl (Nat.le_of_ble_eq_true rfl) rfl hd kk
theorem lk_X5_most : Cond.fieldLink RX5 78 RX5 (TX5 8).2.1 (TX5 8).2.2.1 ∈ tb := tb_in (List.mem_of_getElem? (i := 596) (by decide +kernel)) (by decide +kernel)
theorem g_X5_most (X : CallFix p m c cc nL s args tb RX5) (hI : Inw D ty Fx (wM ty q σ) A s H locs) {v : Int32} (hv : gI σ 4 = v) (hd : decode cc pc = .ok (.getfield 78, 3)) (kk : W p l e R s m args below meth c H locs cells slots Q (F0 m (pc + 3) ls (.int v :: rest))) : W p l e R s m args below meth c H locs cells slots Q (F0 m pc ls (.ref (q 0) :: rest)) := by
  subst hv
  exact gt_f X hI 0 rfl rfl utX5 8 (by decide) lk_X5_most rfl rfl hd kk
theorem p_X5_most (X : CallFix p m c cc nL s args tb RX5) (hI : Inw D ty Fx (wM ty q σ) A s H locs) {v : Int32} (hd : decode cc pc = .ok (.putfield 78, 3)) (kk : ∀ (H : Heap) (locs : List Loc), Inw D ty Fx (wM ty q (sI σ 4 v)) A s H locs → W p l e R s m args below meth c H locs cells slots Q (F0 m (pc + 3) ls rest)) : W p l e R s m args below meth c H locs cells slots Q (F0 m pc ls (.int v :: .ref (q 0) :: rest)) :=
  pt_f X hI 0 rfl rfl utX5 tyX5 tyX5_ok nmX5 8 (by decide) lk_X5_most rfl rfl rfl (Nat.le_of_ble_eq_true rfl) rfl hd kk
theorem lk_X5_loads : Cond.fieldLink RX5 91 RX5 (TX5 9).2.1 (TX5 9).2.2.1 ∈ tb := tb_in (List.mem_of_getElem? (i := 597) (by decide +kernel)) (by decide +kernel)
theorem g_X5_loads (X : CallFix p m c cc nL s args tb RX5) (hI : Inw D ty Fx (wM ty q σ) A s H locs) {v : Int32} (hv : gI σ 5 = v) (hd : decode cc pc = .ok (.getfield 91, 3)) (kk : W p l e R s m args below meth c H locs cells slots Q (F0 m (pc + 3) ls (.int v :: rest))) : W p l e R s m args below meth c H locs cells slots Q (F0 m pc ls (.ref (q 0) :: rest)) := by
  subst hv
  exact gt_f X hI 0 rfl rfl utX5 9 (by decide) lk_X5_loads rfl rfl hd kk
theorem p_X5_loads (X : CallFix p m c cc nL s args tb RX5) (hI : Inw D ty Fx (wM ty q σ) A s H locs) {v : Int32} (hd : decode cc pc = .ok (.putfield 91, 3)) (kk : ∀ (H : Heap) (locs : List Loc), Inw D ty Fx (wM ty q (sI σ 5 v)) A s H locs → W p l e R s m args below meth c H locs cells slots Q (F0 m (pc + 3) ls rest)) : W p l e R s m args below meth c H locs cells slots Q (F0 m pc ls (.int v :: .ref (q 0) :: rest)) :=
  pt_f X hI 0 rfl rfl utX5 tyX5 tyX5_ok nmX5 9 (by decide) lk_X5_loads rfl rfl rfl (Nat.le_of_ble_eq_true rfl) rfl hd kk
theorem lk_X5_gone : Cond.fieldLink RX5 75 RX5 (TX5 10).2.1 (TX5 10).2.2.1 ∈ tb := tb_in (List.mem_of_getElem? (i := 598) (by decide +kernel)) (by decide +kernel)
theorem g_X5_gone (X : CallFix p m c cc nL s args tb RX5) (hI : Inw D ty Fx (wM ty q σ) A s H locs) {v : Int32} (hv : gI σ 6 = v) (hd : decode cc pc = .ok (.getfield 75, 3)) (kk : W p l e R s m args below meth c H locs cells slots Q (F0 m (pc + 3) ls (.int v :: rest))) : W p l e R s m args below meth c H locs cells slots Q (F0 m pc ls (.ref (q 0) :: rest)) := by
  subst hv
  exact gt_f X hI 0 rfl rfl utX5 10 (by decide) lk_X5_gone rfl rfl hd kk
theorem p_X5_gone (X : CallFix p m c cc nL s args tb RX5) (hI : Inw D ty Fx (wM ty q σ) A s H locs) {v : Int32} (hd : decode cc pc = .ok (.putfield 75, 3)) (kk : ∀ (H : Heap) (locs : List Loc), Inw D ty Fx (wM ty q (sI σ 6 v)) A s H locs → W p l e R s m args below meth c H locs cells slots Q (F0 m (pc + 3) ls rest)) : W p l e R s m args below meth c H locs cells slots Q (F0 m pc ls (.int v :: .ref (q 0) :: rest)) :=
  pt_f X hI 0 rfl rfl utX5 tyX5 tyX5_ok nmX5 10 (by decide) lk_X5_gone rfl rfl rfl (Nat.le_of_ble_eq_true rfl) rfl hd kk
theorem lk_X5_frames : Cond.fieldLink RX5 62 RX5 (TX5 11).2.1 (TX5 11).2.2.1 ∈ tb := tb_in (List.mem_of_getElem? (i := 599) (by decide +kernel)) (by decide +kernel)
theorem g_X5_frames (X : CallFix p m c cc nL s args tb RX5) (hI : Inw D ty Fx (wM ty q σ) A s H locs) {v : Int32} (hv : gI σ 7 = v) (hd : decode cc pc = .ok (.getfield 62, 3)) (kk : W p l e R s m args below meth c H locs cells slots Q (F0 m (pc + 3) ls (.int v :: rest))) : W p l e R s m args below meth c H locs cells slots Q (F0 m pc ls (.ref (q 0) :: rest)) := by
  subst hv
  exact gt_f X hI 0 rfl rfl utX5 11 (by decide) lk_X5_frames rfl rfl hd kk
theorem p_X5_frames (X : CallFix p m c cc nL s args tb RX5) (hI : Inw D ty Fx (wM ty q σ) A s H locs) {v : Int32} (hd : decode cc pc = .ok (.putfield 62, 3)) (kk : ∀ (H : Heap) (locs : List Loc), Inw D ty Fx (wM ty q (sI σ 7 v)) A s H locs → W p l e R s m args below meth c H locs cells slots Q (F0 m (pc + 3) ls rest)) : W p l e R s m args below meth c H locs cells slots Q (F0 m pc ls (.int v :: .ref (q 0) :: rest)) :=
  pt_f X hI 0 rfl rfl utX5 tyX5 tyX5_ok nmX5 11 (by decide) lk_X5_frames rfl rfl rfl (Nat.le_of_ble_eq_true rfl) rfl hd kk
theorem lk_X5_segment : Cond.fieldLink RX5 23 RX5 (TX5 12).2.1 (TX5 12).2.2.1 ∈ tb := tb_in (List.mem_of_getElem? (i := 600) (by decide +kernel)) (by decide +kernel)
theorem g_X5_segment (X : CallFix p m c cc nL s args tb RX5) (hI : Inw D ty Fx (wM ty q σ) A s H locs) (hd : decode cc pc = .ok (.getfield 23, 3)) (kk : W p l e R s m args below meth c H locs cells slots Q (F0 m (pc + 3) ls (.ref (q 5) :: rest))) : W p l e R s m args below meth c H locs cells slots Q (F0 m pc ls (.ref (q 0) :: rest)) :=
  gt_f X hI 0 rfl rfl utX5 12 (by decide) lk_X5_segment rfl rfl hd kk
theorem lk_X5_place : Cond.fieldLink RX5 26 RX5 (TX5 13).2.1 (TX5 13).2.2.1 ∈ tb := tb_in (List.mem_of_getElem? (i := 601) (by decide +kernel)) (by decide +kernel)
theorem g_X5_place (X : CallFix p m c cc nL s args tb RX5) (hI : Inw D ty Fx (wM ty q σ) A s H locs) (hd : decode cc pc = .ok (.getfield 26, 3)) (kk : W p l e R s m args below meth c H locs cells slots Q (F0 m (pc + 3) ls (.ref (q 6) :: rest))) : W p l e R s m args below meth c H locs cells slots Q (F0 m pc ls (.ref (q 0) :: rest)) :=
  gt_f X hI 0 rfl rfl utX5 13 (by decide) lk_X5_place rfl rfl hd kk
theorem lk_X5_locals : Cond.fieldLink RX5 29 RX5 (TX5 14).2.1 (TX5 14).2.2.1 ∈ tb := tb_in (List.mem_of_getElem? (i := 602) (by decide +kernel)) (by decide +kernel)
theorem g_X5_locals (X : CallFix p m c cc nL s args tb RX5) (hI : Inw D ty Fx (wM ty q σ) A s H locs) (hd : decode cc pc = .ok (.getfield 29, 3)) (kk : W p l e R s m args below meth c H locs cells slots Q (F0 m (pc + 3) ls (.ref (q 7) :: rest))) : W p l e R s m args below meth c H locs cells slots Q (F0 m pc ls (.ref (q 0) :: rest)) :=
  gt_f X hI 0 rfl rfl utX5 14 (by decide) lk_X5_locals rfl rfl hd kk
theorem lk_X5_local : Cond.fieldLink RX5 32 RX5 (TX5 15).2.1 (TX5 15).2.2.1 ∈ tb := tb_in (List.mem_of_getElem? (i := 603) (by decide +kernel)) (by decide +kernel)
theorem g_X5_local (X : CallFix p m c cc nL s args tb RX5) (hI : Inw D ty Fx (wM ty q σ) A s H locs) (hd : decode cc pc = .ok (.getfield 32, 3)) (kk : W p l e R s m args below meth c H locs cells slots Q (F0 m (pc + 3) ls (.ref (q 8) :: rest))) : W p l e R s m args below meth c H locs cells slots Q (F0 m pc ls (.ref (q 0) :: rest)) :=
  gt_f X hI 0 rfl rfl utX5 15 (by decide) lk_X5_local rfl rfl hd kk
theorem lk_X5_below : Cond.fieldLink RX5 35 RX5 (TX5 16).2.1 (TX5 16).2.2.1 ∈ tb := tb_in (List.mem_of_getElem? (i := 604) (by decide +kernel)) (by decide +kernel)
theorem g_X5_below (X : CallFix p m c cc nL s args tb RX5) (hI : Inw D ty Fx (wM ty q σ) A s H locs) (hd : decode cc pc = .ok (.getfield 35, 3)) (kk : W p l e R s m args below meth c H locs cells slots Q (F0 m (pc + 3) ls (.ref (q 9) :: rest))) : W p l e R s m args below meth c H locs cells slots Q (F0 m pc ls (.ref (q 0) :: rest)) :=
  gt_f X hI 0 rfl rfl utX5 16 (by decide) lk_X5_below rfl rfl hd kk
theorem lk_X5_numbers : Cond.fieldLink RX5 59 RX5 (TX5 17).2.1 (TX5 17).2.2.1 ∈ tb := tb_in (List.mem_of_getElem? (i := 605) (by decide +kernel)) (by decide +kernel)
theorem g_X5_numbers (X : CallFix p m c cc nL s args tb RX5) (hI : Inw D ty Fx (wM ty q σ) A s H locs) {v : Int32} (hv : gI σ 8 = v) (hd : decode cc pc = .ok (.getfield 59, 3)) (kk : W p l e R s m args below meth c H locs cells slots Q (F0 m (pc + 3) ls (.int v :: rest))) : W p l e R s m args below meth c H locs cells slots Q (F0 m pc ls (.ref (q 0) :: rest)) := by
  subst hv
  exact gt_f X hI 0 rfl rfl utX5 17 (by decide) lk_X5_numbers rfl rfl hd kk
theorem p_X5_numbers (X : CallFix p m c cc nL s args tb RX5) (hI : Inw D ty Fx (wM ty q σ) A s H locs) {v : Int32} (hd : decode cc pc = .ok (.putfield 59, 3)) (kk : ∀ (H : Heap) (locs : List Loc), Inw D ty Fx (wM ty q (sI σ 8 v)) A s H locs → W p l e R s m args below meth c H locs cells slots Q (F0 m (pc + 3) ls rest)) : W p l e R s m args below meth c H locs cells slots Q (F0 m pc ls (.int v :: .ref (q 0) :: rest)) :=
  pt_f X hI 0 rfl rfl utX5 tyX5 tyX5_ok nmX5 17 (by decide) lk_X5_numbers rfl rfl rfl (Nat.le_of_ble_eq_true rfl) rfl hd kk
theorem lk_X5_number : Cond.fieldLink RX5 38 RX5 (TX5 18).2.1 (TX5 18).2.2.1 ∈ tb := tb_in (List.mem_of_getElem? (i := 606) (by decide +kernel)) (by decide +kernel)
theorem g_X5_number (X : CallFix p m c cc nL s args tb RX5) (hI : Inw D ty Fx (wM ty q σ) A s H locs) (hd : decode cc pc = .ok (.getfield 38, 3)) (kk : W p l e R s m args below meth c H locs cells slots Q (F0 m (pc + 3) ls (.ref (q 10) :: rest))) : W p l e R s m args below meth c H locs cells slots Q (F0 m pc ls (.ref (q 0) :: rest)) :=
  gt_f X hI 0 rfl rfl utX5 18 (by decide) lk_X5_number rfl rfl hd kk
theorem lk_X5_result : Cond.fieldLink RX5 94 RX5 (TX5 19).2.1 (TX5 19).2.2.1 ∈ tb := tb_in (List.mem_of_getElem? (i := 607) (by decide +kernel)) (by decide +kernel)
theorem g_X5_result (X : CallFix p m c cc nL s args tb RX5) (hI : Inw D ty Fx (wM ty q σ) A s H locs) {v : Int32} (hv : gI σ 9 = v) (hd : decode cc pc = .ok (.getfield 94, 3)) (kk : W p l e R s m args below meth c H locs cells slots Q (F0 m (pc + 3) ls (.int v :: rest))) : W p l e R s m args below meth c H locs cells slots Q (F0 m pc ls (.ref (q 0) :: rest)) := by
  subst hv
  exact gt_f X hI 0 rfl rfl utX5 19 (by decide) lk_X5_result rfl rfl hd kk
theorem p_X5_result (X : CallFix p m c cc nL s args tb RX5) (hI : Inw D ty Fx (wM ty q σ) A s H locs) {v : Int32} (hd : decode cc pc = .ok (.putfield 94, 3)) (kk : ∀ (H : Heap) (locs : List Loc), Inw D ty Fx (wM ty q (sI σ 9 v)) A s H locs → W p l e R s m args below meth c H locs cells slots Q (F0 m (pc + 3) ls rest)) : W p l e R s m args below meth c H locs cells slots Q (F0 m pc ls (.int v :: .ref (q 0) :: rest)) :=
  pt_f X hI 0 rfl rfl utX5 tyX5 tyX5_ok nmX5 19 (by decide) lk_X5_result rfl rfl rfl (Nat.le_of_ble_eq_true rfl) rfl hd kk
theorem lk_X5_puts : Cond.fieldLink RX5 97 RX5 (TX5 20).2.1 (TX5 20).2.2.1 ∈ tb := tb_in (List.mem_of_getElem? (i := 608) (by decide +kernel)) (by decide +kernel)
theorem g_X5_puts (X : CallFix p m c cc nL s args tb RX5) (hI : Inw D ty Fx (wM ty q σ) A s H locs) {v : Int32} (hv : gI σ 10 = v) (hd : decode cc pc = .ok (.getfield 97, 3)) (kk : W p l e R s m args below meth c H locs cells slots Q (F0 m (pc + 3) ls (.int v :: rest))) : W p l e R s m args below meth c H locs cells slots Q (F0 m pc ls (.ref (q 0) :: rest)) := by
  subst hv
  exact gt_f X hI 0 rfl rfl utX5 20 (by decide) lk_X5_puts rfl rfl hd kk
theorem p_X5_puts (X : CallFix p m c cc nL s args tb RX5) (hI : Inw D ty Fx (wM ty q σ) A s H locs) {v : Int32} (hd : decode cc pc = .ok (.putfield 97, 3)) (kk : ∀ (H : Heap) (locs : List Loc), Inw D ty Fx (wM ty q (sI σ 10 v)) A s H locs → W p l e R s m args below meth c H locs cells slots Q (F0 m (pc + 3) ls rest)) : W p l e R s m args below meth c H locs cells slots Q (F0 m pc ls (.int v :: .ref (q 0) :: rest)) :=
  pt_f X hI 0 rfl rfl utX5 tyX5 tyX5_ok nmX5 20 (by decide) lk_X5_puts rfl rfl rfl (Nat.le_of_ble_eq_true rfl) rfl hd kk
theorem lk_X5_put : Cond.fieldLink RX5 41 RX5 (TX5 21).2.1 (TX5 21).2.2.1 ∈ tb := tb_in (List.mem_of_getElem? (i := 609) (by decide +kernel)) (by decide +kernel)
theorem g_X5_put (X : CallFix p m c cc nL s args tb RX5) (hI : Inw D ty Fx (wM ty q σ) A s H locs) (hd : decode cc pc = .ok (.getfield 41, 3)) (kk : W p l e R s m args below meth c H locs cells slots Q (F0 m (pc + 3) ls (.ref (q 11) :: rest))) : W p l e R s m args below meth c H locs cells slots Q (F0 m pc ls (.ref (q 0) :: rest)) :=
  gt_f X hI 0 rfl rfl utX5 21 (by decide) lk_X5_put rfl rfl hd kk
theorem aC_0 (X : CallFix p m c cc nL s args tb own) (hI : Inw D ty Fx (wC ty q σ) A s H locs) {j v : Int32} (hv : gA σ 0 j = v) (hin : vp_in j 5) (hd : decode cc pc = .ok (.iaload, 1)) (kk : W p l e R s m args below meth c H locs cells slots Q (F0 m (pc + 1) ls (.int v :: rest))) : W p l e R s m args below meth c H locs cells slots Q (F0 m pc ls (.int j :: .ref (q 6) :: rest)) := by
  subst hv
  exact ra_i X hI 6 rfl hin hd kk
theorem sC_0 (X : CallFix p m c cc nL s args tb own) (hI : Inw D ty Fx (wC ty q σ) A s H locs) {j v : Int32} (hin : vp_in j 5) (hd : decode cc pc = .ok (.iastore, 1)) (kk : ∀ (H : Heap) (locs : List Loc), Inw D ty Fx (wC ty q (sA σ 0 j v)) A s H locs → W p l e R s m args below meth c H locs cells slots Q (F0 m (pc + 1) ls rest)) : W p l e R s m args below meth c H locs cells slots Q (F0 m pc ls (.int v :: .int j :: .ref (q 6) :: rest)) :=
  wa_i X hI 6 rfl hin rfl hd kk
theorem aC_1 (X : CallFix p m c cc nL s args tb own) (hI : Inw D ty Fx (wC ty q σ) A s H locs) {j v : Int32} (hv : gA σ 1 j = v) (hin : vp_in j 40) (hd : decode cc pc = .ok (.iaload, 1)) (kk : W p l e R s m args below meth c H locs cells slots Q (F0 m (pc + 1) ls (.int v :: rest))) : W p l e R s m args below meth c H locs cells slots Q (F0 m pc ls (.int j :: .ref (q 7) :: rest)) := by
  subst hv
  exact ra_i X hI 7 rfl hin hd kk
theorem sC_1 (X : CallFix p m c cc nL s args tb own) (hI : Inw D ty Fx (wC ty q σ) A s H locs) {j v : Int32} (hin : vp_in j 40) (hd : decode cc pc = .ok (.iastore, 1)) (kk : ∀ (H : Heap) (locs : List Loc), Inw D ty Fx (wC ty q (sA σ 1 j v)) A s H locs → W p l e R s m args below meth c H locs cells slots Q (F0 m (pc + 1) ls rest)) : W p l e R s m args below meth c H locs cells slots Q (F0 m pc ls (.int v :: .int j :: .ref (q 7) :: rest)) :=
  wa_i X hI 7 rfl hin rfl hd kk
theorem aC_2 (X : CallFix p m c cc nL s args tb own) (hI : Inw D ty Fx (wC ty q σ) A s H locs) {j v : Int32} (hv : gA σ 2 j = v) (hin : vp_in j 5) (hd : decode cc pc = .ok (.iaload, 1)) (kk : W p l e R s m args below meth c H locs cells slots Q (F0 m (pc + 1) ls (.int v :: rest))) : W p l e R s m args below meth c H locs cells slots Q (F0 m pc ls (.int j :: .ref (q 8) :: rest)) := by
  subst hv
  exact ra_i X hI 8 rfl hin hd kk
theorem sC_2 (X : CallFix p m c cc nL s args tb own) (hI : Inw D ty Fx (wC ty q σ) A s H locs) {j v : Int32} (hin : vp_in j 5) (hd : decode cc pc = .ok (.iastore, 1)) (kk : ∀ (H : Heap) (locs : List Loc), Inw D ty Fx (wC ty q (sA σ 2 j v)) A s H locs → W p l e R s m args below meth c H locs cells slots Q (F0 m (pc + 1) ls rest)) : W p l e R s m args below meth c H locs cells slots Q (F0 m pc ls (.int v :: .int j :: .ref (q 8) :: rest)) :=
  wa_i X hI 8 rfl hin rfl hd kk
theorem aC_3 (X : CallFix p m c cc nL s args tb own) (hI : Inw D ty Fx (wC ty q σ) A s H locs) {j v : Int32} (hv : gA σ 3 j = v) (hin : vp_in j 5) (hd : decode cc pc = .ok (.iaload, 1)) (kk : W p l e R s m args below meth c H locs cells slots Q (F0 m (pc + 1) ls (.int v :: rest))) : W p l e R s m args below meth c H locs cells slots Q (F0 m pc ls (.int j :: .ref (q 9) :: rest)) := by
  subst hv
  exact ra_i X hI 9 rfl hin hd kk
theorem sC_3 (X : CallFix p m c cc nL s args tb own) (hI : Inw D ty Fx (wC ty q σ) A s H locs) {j v : Int32} (hin : vp_in j 5) (hd : decode cc pc = .ok (.iastore, 1)) (kk : ∀ (H : Heap) (locs : List Loc), Inw D ty Fx (wC ty q (sA σ 3 j v)) A s H locs → W p l e R s m args below meth c H locs cells slots Q (F0 m (pc + 1) ls rest)) : W p l e R s m args below meth c H locs cells slots Q (F0 m pc ls (.int v :: .int j :: .ref (q 9) :: rest)) :=
  wa_i X hI 9 rfl hin rfl hd kk
theorem aC_4 (X : CallFix p m c cc nL s args tb own) (hI : Inw D ty Fx (wC ty q σ) A s H locs) {j v : Int32} (hv : gA σ 4 j = v) (hin : vp_in j 5) (hd : decode cc pc = .ok (.iaload, 1)) (kk : W p l e R s m args below meth c H locs cells slots Q (F0 m (pc + 1) ls (.int v :: rest))) : W p l e R s m args below meth c H locs cells slots Q (F0 m pc ls (.int j :: .ref (q 10) :: rest)) := by
  subst hv
  exact ra_i X hI 10 rfl hin hd kk
theorem sC_4 (X : CallFix p m c cc nL s args tb own) (hI : Inw D ty Fx (wC ty q σ) A s H locs) {j v : Int32} (hin : vp_in j 5) (hd : decode cc pc = .ok (.iastore, 1)) (kk : ∀ (H : Heap) (locs : List Loc), Inw D ty Fx (wC ty q (sA σ 4 j v)) A s H locs → W p l e R s m args below meth c H locs cells slots Q (F0 m (pc + 1) ls rest)) : W p l e R s m args below meth c H locs cells slots Q (F0 m pc ls (.int v :: .int j :: .ref (q 10) :: rest)) :=
  wa_i X hI 10 rfl hin rfl hd kk
theorem aC_5 (X : CallFix p m c cc nL s args tb own) (hI : Inw D ty Fx (wC ty q σ) A s H locs) {j v : Int32} (hv : gA σ 5 j = v) (hin : vp_in j 500) (hd : decode cc pc = .ok (.iaload, 1)) (kk : W p l e R s m args below meth c H locs cells slots Q (F0 m (pc + 1) ls (.int v :: rest))) : W p l e R s m args below meth c H locs cells slots Q (F0 m pc ls (.int j :: .ref (q 11) :: rest)) := by
  subst hv
  exact ra_i X hI 11 rfl hin hd kk
theorem sC_5 (X : CallFix p m c cc nL s args tb own) (hI : Inw D ty Fx (wC ty q σ) A s H locs) {j v : Int32} (hin : vp_in j 500) (hd : decode cc pc = .ok (.iastore, 1)) (kk : ∀ (H : Heap) (locs : List Loc), Inw D ty Fx (wC ty q (sA σ 5 j v)) A s H locs → W p l e R s m args below meth c H locs cells slots Q (F0 m (pc + 1) ls rest)) : W p l e R s m args below meth c H locs cells slots Q (F0 m pc ls (.int v :: .int j :: .ref (q 11) :: rest)) :=
  wa_i X hI 11 rfl hin rfl hd kk
theorem aC_6 (X : CallFix p m c cc nL s args tb own) (hI : Inw D ty Fx (wC ty q σ) A s H locs) {j v : Int32} (hv : gA σ 6 j = v) (hin : vp_in j 500) (hd : decode cc pc = .ok (.iaload, 1)) (kk : W p l e R s m args below meth c H locs cells slots Q (F0 m (pc + 1) ls (.int v :: rest))) : W p l e R s m args below meth c H locs cells slots Q (F0 m pc ls (.int j :: .ref (q 12) :: rest)) := by
  subst hv
  exact ra_i X hI 12 rfl hin hd kk
theorem sC_6 (X : CallFix p m c cc nL s args tb own) (hI : Inw D ty Fx (wC ty q σ) A s H locs) {j v : Int32} (hin : vp_in j 500) (hd : decode cc pc = .ok (.iastore, 1)) (kk : ∀ (H : Heap) (locs : List Loc), Inw D ty Fx (wC ty q (sA σ 6 j v)) A s H locs → W p l e R s m args below meth c H locs cells slots Q (F0 m (pc + 1) ls rest)) : W p l e R s m args below meth c H locs cells slots Q (F0 m pc ls (.int v :: .int j :: .ref (q 12) :: rest)) :=
  wa_i X hI 12 rfl hin rfl hd kk
theorem aC_7 (X : CallFix p m c cc nL s args tb own) (hI : Inw D ty Fx (wC ty q σ) A s H locs) {j v : Int32} (hv : gA σ 7 j = v) (hin : vp_in j 500) (hd : decode cc pc = .ok (.iaload, 1)) (kk : W p l e R s m args below meth c H locs cells slots Q (F0 m (pc + 1) ls (.int v :: rest))) : W p l e R s m args below meth c H locs cells slots Q (F0 m pc ls (.int j :: .ref (q 13) :: rest)) := by
  subst hv
  exact ra_i X hI 13 rfl hin hd kk
theorem sC_7 (X : CallFix p m c cc nL s args tb own) (hI : Inw D ty Fx (wC ty q σ) A s H locs) {j v : Int32} (hin : vp_in j 500) (hd : decode cc pc = .ok (.iastore, 1)) (kk : ∀ (H : Heap) (locs : List Loc), Inw D ty Fx (wC ty q (sA σ 7 j v)) A s H locs → W p l e R s m args below meth c H locs cells slots Q (F0 m (pc + 1) ls rest)) : W p l e R s m args below meth c H locs cells slots Q (F0 m pc ls (.int v :: .int j :: .ref (q 13) :: rest)) :=
  wa_i X hI 13 rfl hin rfl hd kk
theorem aC_8 (X : CallFix p m c cc nL s args tb own) (hI : Inw D ty Fx (wC ty q σ) A s H locs) {j v : Int32} (hv : gA σ 8 j = v) (hin : vp_in j 500) (hd : decode cc pc = .ok (.iaload, 1)) (kk : W p l e R s m args below meth c H locs cells slots Q (F0 m (pc + 1) ls (.int v :: rest))) : W p l e R s m args below meth c H locs cells slots Q (F0 m pc ls (.int j :: .ref (q 14) :: rest)) := by
  subst hv
  exact ra_i X hI 14 rfl hin hd kk
theorem sC_8 (X : CallFix p m c cc nL s args tb own) (hI : Inw D ty Fx (wC ty q σ) A s H locs) {j v : Int32} (hin : vp_in j 500) (hd : decode cc pc = .ok (.iastore, 1)) (kk : ∀ (H : Heap) (locs : List Loc), Inw D ty Fx (wC ty q (sA σ 8 j v)) A s H locs → W p l e R s m args below meth c H locs cells slots Q (F0 m (pc + 1) ls rest)) : W p l e R s m args below meth c H locs cells slots Q (F0 m pc ls (.int v :: .int j :: .ref (q 14) :: rest)) :=
  wa_i X hI 14 rfl hin rfl hd kk
theorem aC_9 (X : CallFix p m c cc nL s args tb own) (hI : Inw D ty Fx (wC ty q σ) A s H locs) {j v : Int32} (hv : gA σ 9 j = v) (hin : vp_in j 1000) (hd : decode cc pc = .ok (.iaload, 1)) (kk : W p l e R s m args below meth c H locs cells slots Q (F0 m (pc + 1) ls (.int v :: rest))) : W p l e R s m args below meth c H locs cells slots Q (F0 m pc ls (.int j :: .ref (q 15) :: rest)) := by
  subst hv
  exact ra_i X hI 15 rfl hin hd kk
theorem sC_9 (X : CallFix p m c cc nL s args tb own) (hI : Inw D ty Fx (wC ty q σ) A s H locs) {j v : Int32} (hin : vp_in j 1000) (hd : decode cc pc = .ok (.iastore, 1)) (kk : ∀ (H : Heap) (locs : List Loc), Inw D ty Fx (wC ty q (sA σ 9 j v)) A s H locs → W p l e R s m args below meth c H locs cells slots Q (F0 m (pc + 1) ls rest)) : W p l e R s m args below meth c H locs cells slots Q (F0 m pc ls (.int v :: .int j :: .ref (q 15) :: rest)) :=
  wa_i X hI 15 rfl hin rfl hd kk
theorem aM_0 (X : CallFix p m c cc nL s args tb own) (hI : Inw D ty Fx (wM ty q σ) A s H locs) {j v : Int32} (hv : gA σ 0 j = v) (hin : vp_in j 400) (hd : decode cc pc = .ok (.iaload, 1)) (kk : W p l e R s m args below meth c H locs cells slots Q (F0 m (pc + 1) ls (.int v :: rest))) : W p l e R s m args below meth c H locs cells slots Q (F0 m pc ls (.int j :: .ref (q 1) :: rest)) := by
  subst hv
  exact ra_i X hI 1 rfl hin hd kk
theorem sM_0 (X : CallFix p m c cc nL s args tb own) (hI : Inw D ty Fx (wM ty q σ) A s H locs) {j v : Int32} (hin : vp_in j 400) (hd : decode cc pc = .ok (.iastore, 1)) (kk : ∀ (H : Heap) (locs : List Loc), Inw D ty Fx (wM ty q (sA σ 0 j v)) A s H locs → W p l e R s m args below meth c H locs cells slots Q (F0 m (pc + 1) ls rest)) : W p l e R s m args below meth c H locs cells slots Q (F0 m pc ls (.int v :: .int j :: .ref (q 1) :: rest)) :=
  wa_i X hI 1 rfl hin rfl hd kk
theorem aM_1 (X : CallFix p m c cc nL s args tb own) (hI : Inw D ty Fx (wM ty q σ) A s H locs) {j v : Int32} (hv : gA σ 1 j = v) (hin : vp_in j 5) (hd : decode cc pc = .ok (.iaload, 1)) (kk : W p l e R s m args below meth c H locs cells slots Q (F0 m (pc + 1) ls (.int v :: rest))) : W p l e R s m args below meth c H locs cells slots Q (F0 m pc ls (.int j :: .ref (q 2) :: rest)) := by
  subst hv
  exact ra_i X hI 2 rfl hin hd kk
theorem sM_1 (X : CallFix p m c cc nL s args tb own) (hI : Inw D ty Fx (wM ty q σ) A s H locs) {j v : Int32} (hin : vp_in j 5) (hd : decode cc pc = .ok (.iastore, 1)) (kk : ∀ (H : Heap) (locs : List Loc), Inw D ty Fx (wM ty q (sA σ 1 j v)) A s H locs → W p l e R s m args below meth c H locs cells slots Q (F0 m (pc + 1) ls rest)) : W p l e R s m args below meth c H locs cells slots Q (F0 m pc ls (.int v :: .int j :: .ref (q 2) :: rest)) :=
  wa_i X hI 2 rfl hin rfl hd kk
theorem aM_2 (X : CallFix p m c cc nL s args tb own) (hI : Inw D ty Fx (wM ty q σ) A s H locs) {j v : Int32} (hv : gA σ 2 j = v) (hin : vp_in j 5) (hd : decode cc pc = .ok (.baload, 1)) (kk : W p l e R s m args below meth c H locs cells slots Q (F0 m (pc + 1) ls (.int v :: rest))) : W p l e R s m args below meth c H locs cells slots Q (F0 m pc ls (.int j :: .ref (q 3) :: rest)) := by
  subst hv
  exact ra_z X hI 3 rfl hin hd kk
theorem sM_2 (X : CallFix p m c cc nL s args tb own) (hI : Inw D ty Fx (wM ty q σ) A s H locs) {j v : Int32} (hin : vp_in j 5) (hd : decode cc pc = .ok (.bastore, 1)) (kk : ∀ (H : Heap) (locs : List Loc), Inw D ty Fx (wM ty q (sA σ 2 j (vp_nar .boolean v))) A s H locs → W p l e R s m args below meth c H locs cells slots Q (F0 m (pc + 1) ls rest)) : W p l e R s m args below meth c H locs cells slots Q (F0 m pc ls (.int v :: .int j :: .ref (q 3) :: rest)) :=
  wa_z X hI 3 rfl hin rfl hd kk
theorem aM_3 (X : CallFix p m c cc nL s args tb own) (hI : Inw D ty Fx (wM ty q σ) A s H locs) {j v : Int32} (hv : gA σ 3 j = v) (hin : vp_in j 5) (hd : decode cc pc = .ok (.iaload, 1)) (kk : W p l e R s m args below meth c H locs cells slots Q (F0 m (pc + 1) ls (.int v :: rest))) : W p l e R s m args below meth c H locs cells slots Q (F0 m pc ls (.int j :: .ref (q 4) :: rest)) := by
  subst hv
  exact ra_i X hI 4 rfl hin hd kk
theorem sM_3 (X : CallFix p m c cc nL s args tb own) (hI : Inw D ty Fx (wM ty q σ) A s H locs) {j v : Int32} (hin : vp_in j 5) (hd : decode cc pc = .ok (.iastore, 1)) (kk : ∀ (H : Heap) (locs : List Loc), Inw D ty Fx (wM ty q (sA σ 3 j v)) A s H locs → W p l e R s m args below meth c H locs cells slots Q (F0 m (pc + 1) ls rest)) : W p l e R s m args below meth c H locs cells slots Q (F0 m pc ls (.int v :: .int j :: .ref (q 4) :: rest)) :=
  wa_i X hI 4 rfl hin rfl hd kk
theorem aM_4 (X : CallFix p m c cc nL s args tb own) (hI : Inw D ty Fx (wM ty q σ) A s H locs) {j v : Int32} (hv : gA σ 4 j = v) (hin : vp_in j 520) (hd : decode cc pc = .ok (.iaload, 1)) (kk : W p l e R s m args below meth c H locs cells slots Q (F0 m (pc + 1) ls (.int v :: rest))) : W p l e R s m args below meth c H locs cells slots Q (F0 m pc ls (.int j :: .ref (q 5) :: rest)) := by
  subst hv
  exact ra_i X hI 5 rfl hin hd kk
theorem sM_4 (X : CallFix p m c cc nL s args tb own) (hI : Inw D ty Fx (wM ty q σ) A s H locs) {j v : Int32} (hin : vp_in j 520) (hd : decode cc pc = .ok (.iastore, 1)) (kk : ∀ (H : Heap) (locs : List Loc), Inw D ty Fx (wM ty q (sA σ 4 j v)) A s H locs → W p l e R s m args below meth c H locs cells slots Q (F0 m (pc + 1) ls rest)) : W p l e R s m args below meth c H locs cells slots Q (F0 m pc ls (.int v :: .int j :: .ref (q 5) :: rest)) :=
  wa_i X hI 5 rfl hin rfl hd kk
theorem aM_5 (X : CallFix p m c cc nL s args tb own) (hI : Inw D ty Fx (wM ty q σ) A s H locs) {j v : Int32} (hv : gA σ 5 j = v) (hin : vp_in j 520) (hd : decode cc pc = .ok (.iaload, 1)) (kk : W p l e R s m args below meth c H locs cells slots Q (F0 m (pc + 1) ls (.int v :: rest))) : W p l e R s m args below meth c H locs cells slots Q (F0 m pc ls (.int j :: .ref (q 6) :: rest)) := by
  subst hv
  exact ra_i X hI 6 rfl hin hd kk
theorem sM_5 (X : CallFix p m c cc nL s args tb own) (hI : Inw D ty Fx (wM ty q σ) A s H locs) {j v : Int32} (hin : vp_in j 520) (hd : decode cc pc = .ok (.iastore, 1)) (kk : ∀ (H : Heap) (locs : List Loc), Inw D ty Fx (wM ty q (sA σ 5 j v)) A s H locs → W p l e R s m args below meth c H locs cells slots Q (F0 m (pc + 1) ls rest)) : W p l e R s m args below meth c H locs cells slots Q (F0 m pc ls (.int v :: .int j :: .ref (q 6) :: rest)) :=
  wa_i X hI 6 rfl hin rfl hd kk
theorem aM_6 (X : CallFix p m c cc nL s args tb own) (hI : Inw D ty Fx (wM ty q σ) A s H locs) {j v : Int32} (hv : gA σ 6 j = v) (hin : vp_in j 520) (hd : decode cc pc = .ok (.iaload, 1)) (kk : W p l e R s m args below meth c H locs cells slots Q (F0 m (pc + 1) ls (.int v :: rest))) : W p l e R s m args below meth c H locs cells slots Q (F0 m pc ls (.int j :: .ref (q 7) :: rest)) := by
  subst hv
  exact ra_i X hI 7 rfl hin hd kk
theorem sM_6 (X : CallFix p m c cc nL s args tb own) (hI : Inw D ty Fx (wM ty q σ) A s H locs) {j v : Int32} (hin : vp_in j 520) (hd : decode cc pc = .ok (.iastore, 1)) (kk : ∀ (H : Heap) (locs : List Loc), Inw D ty Fx (wM ty q (sA σ 6 j v)) A s H locs → W p l e R s m args below meth c H locs cells slots Q (F0 m (pc + 1) ls rest)) : W p l e R s m args below meth c H locs cells slots Q (F0 m pc ls (.int v :: .int j :: .ref (q 7) :: rest)) :=
  wa_i X hI 7 rfl hin rfl hd kk
theorem aM_7 (X : CallFix p m c cc nL s args tb own) (hI : Inw D ty Fx (wM ty q σ) A s H locs) {j v : Int32} (hv : gA σ 7 j = v) (hin : vp_in j 3120) (hd : decode cc pc = .ok (.iaload, 1)) (kk : W p l e R s m args below meth c H locs cells slots Q (F0 m (pc + 1) ls (.int v :: rest))) : W p l e R s m args below meth c H locs cells slots Q (F0 m pc ls (.int j :: .ref (q 8) :: rest)) := by
  subst hv
  exact ra_i X hI 8 rfl hin hd kk
theorem sM_7 (X : CallFix p m c cc nL s args tb own) (hI : Inw D ty Fx (wM ty q σ) A s H locs) {j v : Int32} (hin : vp_in j 3120) (hd : decode cc pc = .ok (.iastore, 1)) (kk : ∀ (H : Heap) (locs : List Loc), Inw D ty Fx (wM ty q (sA σ 7 j v)) A s H locs → W p l e R s m args below meth c H locs cells slots Q (F0 m (pc + 1) ls rest)) : W p l e R s m args below meth c H locs cells slots Q (F0 m pc ls (.int v :: .int j :: .ref (q 8) :: rest)) :=
  wa_i X hI 8 rfl hin rfl hd kk
theorem aM_8 (X : CallFix p m c cc nL s args tb own) (hI : Inw D ty Fx (wM ty q σ) A s H locs) {j v : Int32} (hv : gA σ 8 j = v) (hin : vp_in j 520) (hd : decode cc pc = .ok (.iaload, 1)) (kk : W p l e R s m args below meth c H locs cells slots Q (F0 m (pc + 1) ls (.int v :: rest))) : W p l e R s m args below meth c H locs cells slots Q (F0 m pc ls (.int j :: .ref (q 9) :: rest)) := by
  subst hv
  exact ra_i X hI 9 rfl hin hd kk
theorem sM_8 (X : CallFix p m c cc nL s args tb own) (hI : Inw D ty Fx (wM ty q σ) A s H locs) {j v : Int32} (hin : vp_in j 520) (hd : decode cc pc = .ok (.iastore, 1)) (kk : ∀ (H : Heap) (locs : List Loc), Inw D ty Fx (wM ty q (sA σ 8 j v)) A s H locs → W p l e R s m args below meth c H locs cells slots Q (F0 m (pc + 1) ls rest)) : W p l e R s m args below meth c H locs cells slots Q (F0 m pc ls (.int v :: .int j :: .ref (q 9) :: rest)) :=
  wa_i X hI 9 rfl hin rfl hd kk
theorem aM_9 (X : CallFix p m c cc nL s args tb own) (hI : Inw D ty Fx (wM ty q σ) A s H locs) {j v : Int32} (hv : gA σ 9 j = v) (hin : vp_in j 1010) (hd : decode cc pc = .ok (.iaload, 1)) (kk : W p l e R s m args below meth c H locs cells slots Q (F0 m (pc + 1) ls (.int v :: rest))) : W p l e R s m args below meth c H locs cells slots Q (F0 m pc ls (.int j :: .ref (q 10) :: rest)) := by
  subst hv
  exact ra_i X hI 10 rfl hin hd kk
theorem sM_9 (X : CallFix p m c cc nL s args tb own) (hI : Inw D ty Fx (wM ty q σ) A s H locs) {j v : Int32} (hin : vp_in j 1010) (hd : decode cc pc = .ok (.iastore, 1)) (kk : ∀ (H : Heap) (locs : List Loc), Inw D ty Fx (wM ty q (sA σ 9 j v)) A s H locs → W p l e R s m args below meth c H locs cells slots Q (F0 m (pc + 1) ls rest)) : W p l e R s m args below meth c H locs cells slots Q (F0 m pc ls (.int v :: .int j :: .ref (q 10) :: rest)) :=
  wa_i X hI 10 rfl hin rfl hd kk
theorem aM_10 (X : CallFix p m c cc nL s args tb own) (hI : Inw D ty Fx (wM ty q σ) A s H locs) {j v : Int32} (hv : gA σ 10 j = v) (hin : vp_in j 40) (hd : decode cc pc = .ok (.iaload, 1)) (kk : W p l e R s m args below meth c H locs cells slots Q (F0 m (pc + 1) ls (.int v :: rest))) : W p l e R s m args below meth c H locs cells slots Q (F0 m pc ls (.int j :: .ref (q 11) :: rest)) := by
  subst hv
  exact ra_i X hI 11 rfl hin hd kk
theorem sM_10 (X : CallFix p m c cc nL s args tb own) (hI : Inw D ty Fx (wM ty q σ) A s H locs) {j v : Int32} (hin : vp_in j 40) (hd : decode cc pc = .ok (.iastore, 1)) (kk : ∀ (H : Heap) (locs : List Loc), Inw D ty Fx (wM ty q (sA σ 10 j v)) A s H locs → W p l e R s m args below meth c H locs cells slots Q (F0 m (pc + 1) ls rest)) : W p l e R s m args below meth c H locs cells slots Q (F0 m pc ls (.int v :: .int j :: .ref (q 11) :: rest)) :=
  wa_i X hI 11 rfl hin rfl hd kk
theorem wC_row {k : Nat} (hk : k < 5) : (wC ty q σ)[16 + k]? = some (q (16 + k), .inl (ty 1, 80, .inl (σ.2 (10 + k)))) := by
  match k, hk with
  | 0, _ => rfl
  | 1, _ => rfl
  | 2, _ => rfl
  | 3, _ => rfl
  | 4, _ => rfl
theorem wC_rowS {k : Nat} (hk : k < 5) (i : Nat) (v : Int32) (j : Int32) (hj : j.toNatClampNeg = i) : (wC ty q σ).set (16 + k) (q (16 + k), .inl (ty 1, 80, .inl (upd (σ.2 (10 + k)) i v))) = wC ty q (sA σ (10 + k) j v) := by
  subst hj
  match k, hk with
  | 0, _ => rfl
  | 1, _ => rfl
  | 2, _ => rfl
  | 3, _ => rfl
  | 4, _ => rfl
theorem aC_row (X : CallFix p m c cc nL s args tb own) (hI : Inw D ty Fx (wC ty q σ) A s H locs) {j : Int32} (hin : vp_in j 5) (hd : decode cc pc = .ok (.aaload, 1)) (kk : W p l e R s m args below meth c H locs cells slots Q (F0 m (pc + 1) ls (.ref (q (16 + j.toNatClampNeg)) :: rest))) : W p l e R s m args below meth c H locs cells slots Q (F0 m pc ls (.int j :: .ref (q 5) :: rest)) := by
  have hlt : j.toNatClampNeg < 5 := Nat.not_le.mp fun q => hin (Or.inr q)
  exact ra_q X hI 5 rfl hin (a2 := q (16 + j.toNatClampNeg)) (if_pos hlt) hd kk
theorem aC_byte (X : CallFix p m c cc nL s args tb own) (hI : Inw D ty Fx (wC ty q σ) A s H locs) {i j v : Int32} (hr : vp_in i 5) (hv : gA σ (10 + i.toNatClampNeg) j = v) (hin : vp_in j 80) (hd : decode cc pc = .ok (.baload, 1)) (kk : W p l e R s m args below meth c H locs cells slots Q (F0 m (pc + 1) ls (.int v :: rest))) : W p l e R s m args below meth c H locs cells slots Q (F0 m pc ls (.int j :: .ref (q (16 + i.toNatClampNeg)) :: rest)) := by
  subst hv
  have hlt : i.toNatClampNeg < 5 := Nat.not_le.mp fun q => hr (Or.inr q)
  exact ra_b X hI _ (wC_row hlt) hin hd kk
theorem sC_byte (X : CallFix p m c cc nL s args tb own) (hI : Inw D ty Fx (wC ty q σ) A s H locs) {i j v : Int32} (hr : vp_in i 5) (hin : vp_in j 80) (hd : decode cc pc = .ok (.bastore, 1)) (kk : ∀ (H : Heap) (locs : List Loc), Inw D ty Fx (wC ty q (sA σ (10 + i.toNatClampNeg) j (vp_nar .byte v))) A s H locs → W p l e R s m args below meth c H locs cells slots Q (F0 m (pc + 1) ls rest)) : W p l e R s m args below meth c H locs cells slots Q (F0 m pc ls (.int v :: .int j :: .ref (q (16 + i.toNatClampNeg)) :: rest)) := by
  have hlt : i.toNatClampNeg < 5 := Nat.not_le.mp fun q => hr (Or.inr q)
  exact wa_b X hI _ (wC_row hlt) hin (wC_rowS hlt _ _ j rfl) hd kk
theorem lk_X3_LENGTHS : Cond.fieldLink RX3 104 RX3 "LENGTHS" "[I" ∈ tb := tb_in (List.mem_of_getElem? (i := 431) (by decide +kernel)) (by decide +kernel)
theorem g_X3_LENGTHS (X : CallFix p m c cc nL s args tb RX3) (hI : Inw D ty (FxC q) (wC ty q σ) A s H locs) (hd : decode cc pc = .ok (.getstatic 104, 3)) (kk : W p l e R s m args below meth c H locs cells slots Q (F0 m (pc + 3) ls (.ref (q 21) :: rest))) : W p l e R s m args below meth c H locs cells slots Q (F0 m pc ls rest) :=
  va_gets X.1 X.2.1 hI.2.2.2.2.2.1 hI.2.2.2.1 X.2.2.2.1 (X.2.2.2.2 _ lk_X3_LENGTHS) (fun _ h => h) hd kk
theorem aS_21 (X : CallFix p m c cc nL s args tb own) (hI : Inw D ty (FxC q) (wC ty q σ) A s H locs) {j v : Int32} (hv : tLen j.toNatClampNeg = v) (hin : vp_in j 13) (hd : decode cc pc = .ok (.iaload, 1)) (kk : W p l e R s m args below meth c H locs cells slots Q (F0 m (pc + 1) ls (.int v :: rest))) : W p l e R s m args below meth c H locs cells slots Q (F0 m pc ls (.int j :: .ref (q 21) :: rest)) :=
  va_ti X.1 X.2.1 hI.2.2.2.2.2.2.1 hI.2.2.2.1 hin (v := .int v) (by rw [← hv]) hd kk
theorem nS_21 (X : CallFix p m c cc nL s args tb own) (hI : Inw D ty (FxC q) (wC ty q σ) A s H locs) (hd : decode cc pc = .ok (.arraylength, 1)) (kk : W p l e R s m args below meth c H locs cells slots Q (F0 m (pc + 1) ls (.int 13 :: rest))) : W p l e R s m args below meth c H locs cells slots Q (F0 m pc ls (.ref (q 21) :: rest)) :=
  va_tlen X.1 X.2.1 hI.2.2.2.2.2.2.1 hI.2.2.2.1 (v := 13) (by decide) hd kk
theorem lk_X3_TAKES : Cond.fieldLink RX3 96 RX3 "TAKES" "[I" ∈ tb := tb_in (List.mem_of_getElem? (i := 437) (by decide +kernel)) (by decide +kernel)
theorem g_X3_TAKES (X : CallFix p m c cc nL s args tb RX3) (hI : Inw D ty (FxC q) (wC ty q σ) A s H locs) (hd : decode cc pc = .ok (.getstatic 96, 3)) (kk : W p l e R s m args below meth c H locs cells slots Q (F0 m (pc + 3) ls (.ref (q 22) :: rest))) : W p l e R s m args below meth c H locs cells slots Q (F0 m pc ls rest) :=
  va_gets X.1 X.2.1 hI.2.2.2.2.2.2.2.1 hI.2.2.2.1 X.2.2.2.1 (X.2.2.2.2 _ lk_X3_TAKES) (fun _ h => h) hd kk
theorem aS_22 (X : CallFix p m c cc nL s args tb own) (hI : Inw D ty (FxC q) (wC ty q σ) A s H locs) {j v : Int32} (hv : tTak j.toNatClampNeg = v) (hin : vp_in j 13) (hd : decode cc pc = .ok (.iaload, 1)) (kk : W p l e R s m args below meth c H locs cells slots Q (F0 m (pc + 1) ls (.int v :: rest))) : W p l e R s m args below meth c H locs cells slots Q (F0 m pc ls (.int j :: .ref (q 22) :: rest)) :=
  va_ti X.1 X.2.1 hI.2.2.2.2.2.2.2.2.1 hI.2.2.2.1 hin (v := .int v) (by rw [← hv]) hd kk
theorem nS_22 (X : CallFix p m c cc nL s args tb own) (hI : Inw D ty (FxC q) (wC ty q σ) A s H locs) (hd : decode cc pc = .ok (.arraylength, 1)) (kk : W p l e R s m args below meth c H locs cells slots Q (F0 m (pc + 1) ls (.int 13 :: rest))) : W p l e R s m args below meth c H locs cells slots Q (F0 m pc ls (.ref (q 22) :: rest)) :=
  va_tlen X.1 X.2.1 hI.2.2.2.2.2.2.2.2.1 hI.2.2.2.1 (v := 13) (by decide) hd kk
theorem rc_X4 : (wC ty q σ)[0]? = some (q 0, .inr (4, [.ref (q 1), .ref (q 2)])) := rfl
theorem rc_X0 : (wC ty q σ)[1]? = some (q 1, .inr (0, [.ref (q 5), .ref (q 6)])) := rfl
theorem rc_X3 : (wC ty q σ)[2]? = some (q 2, .inr (3, [.ref (q 1), .ref (q 3), .ref (q 4), .ref (q 7), .int (σ.1 0), .int (σ.1 1), .int (σ.1 2)])) := rfl
theorem rc_X2 : (wC ty q σ)[3]? = some (q 3, .inr (2, [.ref (q 8), .ref (q 9), .ref (q 10), .int (σ.1 3), .int (σ.1 4), .int (σ.1 5), .int (σ.1 6), .int (σ.1 7), .int (σ.1 8)])) := rfl
theorem rc_X1 : (wC ty q σ)[4]? = some (q 4, .inr (1, [.ref (q 11), .ref (q 12), .ref (q 13), .ref (q 14), .ref (q 15), .int (σ.1 9), .int (σ.1 10)])) := rfl
theorem rc_X5 : (wM ty q σ)[0]? = some (q 0, .inr (5, [.int (σ.1 0), .ref (q 1), .ref (q 2), .int (σ.1 1), .int (σ.1 2), .ref (q 3), .ref (q 4), .int (σ.1 3), .int (σ.1 4), .int (σ.1 5), .int (σ.1 6), .int (σ.1 7), .ref (q 5), .ref (q 6), .ref (q 7), .ref (q 8), .ref (q 9), .int (σ.1 8), .ref (q 10), .int (σ.1 9), .int (σ.1 10), .ref (q 11)])) := rfl
end Fr
end
section
theorem fb_pr {a b : Int32} {σ : St} (h : some a = some b) : some (a, σ) = some (b, σ) := by rw [Option.some.inj h]
theorem kw_ms : Cond.static Lib.Math.max.name ∈ tb := tb_in (List.mem_of_getElem? (i := 387) (by decide +kernel)) (by decide +kernel)
theorem kw_mi : Cond.initialized "java/lang/Math" ∈ tb := tb_in (List.mem_of_getElem? (i := 37) (by decide +kernel)) (by decide +kernel)
theorem kw_mc : Cond.code Lib.Math.max.name Lib.Math.max.code 2 (some .int) ∈ tb := tb_in (List.mem_of_getElem? (i := 388) (by decide +kernel)) (by decide +kernel)
theorem ok_X5_isSegment : OkS yX5_isSegment cX5_isSegment 1 (some .boolean) 1 := ⟨tb_in (List.mem_of_getElem? (i := 666) (by decide +kernel)) (by decide +kernel), tb_in (List.mem_of_getElem? (i := 30) (by decide +kernel)) (by decide +kernel), ⟨by decide +kernel, by decide +kernel⟩, by decide +kernel, tb_in (List.mem_of_getElem? (i := 665) (by decide +kernel)) (by decide +kernel)⟩
theorem ok_X5_procedures : OkV yX5_procedures RX5 cX5_procedures 6 (some .int) 1 := ⟨tb_in (List.mem_of_getElem? (i := 678) (by decide +kernel)) (by decide +kernel), tb_in (List.mem_of_getElem? (i := 30) (by decide +kernel)) (by decide +kernel), ⟨by decide +kernel, by decide +kernel⟩, by decide +kernel, tb_in (List.mem_of_getElem? (i := 677) (by decide +kernel)) (by decide +kernel), tb_in (List.mem_of_getElem? (i := 14) (by decide +kernel)) (by decide +kernel)⟩
theorem ok_X5_held : OkV yX5_held RX5 cX5_held 3 (some .int) 0 := ⟨tb_in (List.mem_of_getElem? (i := 694) (by decide +kernel)) (by decide +kernel), tb_in (List.mem_of_getElem? (i := 30) (by decide +kernel)) (by decide +kernel), ⟨by decide +kernel, by decide +kernel⟩, by decide +kernel, tb_in (List.mem_of_getElem? (i := 693) (by decide +kernel)) (by decide +kernel), tb_in (List.mem_of_getElem? (i := 17) (by decide +kernel)) (by decide +kernel)⟩
theorem ok_X5_isActive : OkV yX5_isActive RX5 cX5_isActive 4 (some .boolean) 1 := ⟨tb_in (List.mem_of_getElem? (i := 698) (by decide +kernel)) (by decide +kernel), tb_in (List.mem_of_getElem? (i := 30) (by decide +kernel)) (by decide +kernel), ⟨by decide +kernel, by decide +kernel⟩, by decide +kernel, tb_in (List.mem_of_getElem? (i := 697) (by decide +kernel)) (by decide +kernel), tb_in (List.mem_of_getElem? (i := 18) (by decide +kernel)) (by decide +kernel)⟩
theorem ok_X5_room : OkV yX5_room RX5 cX5_room 6 (some .boolean) 2 := ⟨tb_in (List.mem_of_getElem? (i := 690) (by decide +kernel)) (by decide +kernel), tb_in (List.mem_of_getElem? (i := 30) (by decide +kernel)) (by decide +kernel), ⟨by decide +kernel, by decide +kernel⟩, by decide +kernel, tb_in (List.mem_of_getElem? (i := 689) (by decide +kernel)) (by decide +kernel), tb_in (List.mem_of_getElem? (i := 16) (by decide +kernel)) (by decide +kernel)⟩
theorem ok_X5_grown : OkV yX5_grown RX5 cX5_grown 2 none 0 := ⟨tb_in (List.mem_of_getElem? (i := 702) (by decide +kernel)) (by decide +kernel), tb_in (List.mem_of_getElem? (i := 30) (by decide +kernel)) (by decide +kernel), ⟨by decide +kernel, by decide +kernel⟩, by decide +kernel, tb_in (List.mem_of_getElem? (i := 701) (by decide +kernel)) (by decide +kernel), tb_in (List.mem_of_getElem? (i := 19) (by decide +kernel)) (by decide +kernel)⟩
theorem ok_X5_push : OkV yX5_push RX5 cX5_push 2 (some .boolean) 1 := ⟨tb_in (List.mem_of_getElem? (i := 724) (by decide +kernel)) (by decide +kernel), tb_in (List.mem_of_getElem? (i := 30) (by decide +kernel)) (by decide +kernel), ⟨by decide +kernel, by decide +kernel⟩, by decide +kernel, tb_in (List.mem_of_getElem? (i := 723) (by decide +kernel)) (by decide +kernel), tb_in (List.mem_of_getElem? (i := 22) (by decide +kernel)) (by decide +kernel)⟩
theorem ok_X5_call : OkV yX5_call RX5 cX5_call 7 none 3 := ⟨tb_in (List.mem_of_getElem? (i := 686) (by decide +kernel)) (by decide +kernel), tb_in (List.mem_of_getElem? (i := 30) (by decide +kernel)) (by decide +kernel), ⟨by decide +kernel, by decide +kernel⟩, by decide +kernel, tb_in (List.mem_of_getElem? (i := 685) (by decide +kernel)) (by decide +kernel), tb_in (List.mem_of_getElem? (i := 15) (by decide +kernel)) (by decide +kernel)⟩
theorem ok_X5_size : OkS yX5_size cX5_size 1 (some .int) 1 := ⟨tb_in (List.mem_of_getElem? (i := 713) (by decide +kernel)) (by decide +kernel), tb_in (List.mem_of_getElem? (i := 30) (by decide +kernel)) (by decide +kernel), ⟨by decide +kernel, by decide +kernel⟩, by decide +kernel, tb_in (List.mem_of_getElem? (i := 712) (by decide +kernel)) (by decide +kernel)⟩
theorem ok_X5_takes : OkS yX5_takes cX5_takes 1 (some .int) 1 := ⟨tb_in (List.mem_of_getElem? (i := 716) (by decide +kernel)) (by decide +kernel), tb_in (List.mem_of_getElem? (i := 30) (by decide +kernel)) (by decide +kernel), ⟨by decide +kernel, by decide +kernel⟩, by decide +kernel, tb_in (List.mem_of_getElem? (i := 715) (by decide +kernel)) (by decide +kernel)⟩
theorem ok_X5_pop : OkV yX5_pop RX5 cX5_pop 1 (some .int) 0 := ⟨tb_in (List.mem_of_getElem? (i := 720) (by decide +kernel)) (by decide +kernel), tb_in (List.mem_of_getElem? (i := 30) (by decide +kernel)) (by decide +kernel), ⟨by decide +kernel, by decide +kernel⟩, by decide +kernel, tb_in (List.mem_of_getElem? (i := 719) (by decide +kernel)) (by decide +kernel), tb_in (List.mem_of_getElem? (i := 21) (by decide +kernel)) (by decide +kernel)⟩
theorem ok_X5_back : OkV yX5_back RX5 cX5_back 3 none 1 := ⟨tb_in (List.mem_of_getElem? (i := 728) (by decide +kernel)) (by decide +kernel), tb_in (List.mem_of_getElem? (i := 30) (by decide +kernel)) (by decide +kernel), ⟨by decide +kernel, by decide +kernel⟩, by decide +kernel, tb_in (List.mem_of_getElem? (i := 727) (by decide +kernel)) (by decide +kernel), tb_in (List.mem_of_getElem? (i := 23) (by decide +kernel)) (by decide +kernel)⟩
theorem ok_X5_one : OkV yX5_one RX5 cX5_one 10 none 0 := ⟨tb_in (List.mem_of_getElem? (i := 710) (by decide +kernel)) (by decide +kernel), tb_in (List.mem_of_getElem? (i := 30) (by decide +kernel)) (by decide +kernel), ⟨by decide +kernel, by decide +kernel⟩, by decide +kernel, tb_in (List.mem_of_getElem? (i := 709) (by decide +kernel)) (by decide +kernel), tb_in (List.mem_of_getElem? (i := 20) (by decide +kernel)) (by decide +kernel)⟩
theorem ok_X0_lengthOf : OkV yX0_lengthOf RX0 cX0_lengthOf 2 (some .int) 1 := ⟨tb_in (List.mem_of_getElem? (i := 261) (by decide +kernel)) (by decide +kernel), tb_in (List.mem_of_getElem? (i := 26) (by decide +kernel)) (by decide +kernel), ⟨by decide +kernel, by decide +kernel⟩, by decide +kernel, tb_in (List.mem_of_getElem? (i := 259) (by decide +kernel)) (by decide +kernel), tb_in (List.mem_of_getElem? (i := 260) (by decide +kernel)) (by decide +kernel)⟩
theorem ok_X4_isSegment : OkS yX4_isSegment cX4_isSegment 1 (some .boolean) 1 := ⟨tb_in (List.mem_of_getElem? (i := 190) (by decide +kernel)) (by decide +kernel), tb_in (List.mem_of_getElem? (i := 25) (by decide +kernel)) (by decide +kernel), ⟨by decide +kernel, by decide +kernel⟩, by decide +kernel, tb_in (List.mem_of_getElem? (i := 189) (by decide +kernel)) (by decide +kernel)⟩
theorem ok_X0_byteAt : OkV yX0_byteAt RX0 cX0_byteAt 4 (some .int) 2 := ⟨tb_in (List.mem_of_getElem? (i := 325) (by decide +kernel)) (by decide +kernel), tb_in (List.mem_of_getElem? (i := 26) (by decide +kernel)) (by decide +kernel), ⟨by decide +kernel, by decide +kernel⟩, by decide +kernel, tb_in (List.mem_of_getElem? (i := 323) (by decide +kernel)) (by decide +kernel), tb_in (List.mem_of_getElem? (i := 324) (by decide +kernel)) (by decide +kernel)⟩
theorem ok_X0_proceduresOf : OkV yX0_proceduresOf RX0 cX0_proceduresOf 5 (some .int) 1 := ⟨tb_in (List.mem_of_getElem? (i := 321) (by decide +kernel)) (by decide +kernel), tb_in (List.mem_of_getElem? (i := 26) (by decide +kernel)) (by decide +kernel), ⟨by decide +kernel, by decide +kernel⟩, by decide +kernel, tb_in (List.mem_of_getElem? (i := 319) (by decide +kernel)) (by decide +kernel), tb_in (List.mem_of_getElem? (i := 320) (by decide +kernel)) (by decide +kernel)⟩
theorem ok_X0_beginOf : OkV yX0_beginOf RX0 cX0_beginOf 3 (some .int) 2 := ⟨tb_in (List.mem_of_getElem? (i := 367) (by decide +kernel)) (by decide +kernel), tb_in (List.mem_of_getElem? (i := 26) (by decide +kernel)) (by decide +kernel), ⟨by decide +kernel, by decide +kernel⟩, by decide +kernel, tb_in (List.mem_of_getElem? (i := 365) (by decide +kernel)) (by decide +kernel), tb_in (List.mem_of_getElem? (i := 366) (by decide +kernel)) (by decide +kernel)⟩
theorem ok_X0_localsOf : OkV yX0_localsOf RX0 cX0_localsOf 4 (some .int) 2 := ⟨tb_in (List.mem_of_getElem? (i := 362) (by decide +kernel)) (by decide +kernel), tb_in (List.mem_of_getElem? (i := 26) (by decide +kernel)) (by decide +kernel), ⟨by decide +kernel, by decide +kernel⟩, by decide +kernel, tb_in (List.mem_of_getElem? (i := 360) (by decide +kernel)) (by decide +kernel), tb_in (List.mem_of_getElem? (i := 361) (by decide +kernel)) (by decide +kernel)⟩
theorem ok_X1_empty : OkV yX1_empty RX1 cX1_empty 1 none 0 := ⟨tb_in (List.mem_of_getElem? (i := 293) (by decide +kernel)) (by decide +kernel), tb_in (List.mem_of_getElem? (i := 29) (by decide +kernel)) (by decide +kernel), ⟨by decide +kernel, by decide +kernel⟩, by decide +kernel, tb_in (List.mem_of_getElem? (i := 291) (by decide +kernel)) (by decide +kernel), tb_in (List.mem_of_getElem? (i := 292) (by decide +kernel)) (by decide +kernel)⟩
theorem ok_X1_count : OkV yX1_count RX1 cX1_count 1 (some .int) 0 := ⟨tb_in (List.mem_of_getElem? (i := 463) (by decide +kernel)) (by decide +kernel), tb_in (List.mem_of_getElem? (i := 29) (by decide +kernel)) (by decide +kernel), ⟨by decide +kernel, by decide +kernel⟩, by decide +kernel, tb_in (List.mem_of_getElem? (i := 461) (by decide +kernel)) (by decide +kernel), tb_in (List.mem_of_getElem? (i := 462) (by decide +kernel)) (by decide +kernel)⟩
theorem ok_X1_latestSegment : OkV yX1_latestSegment RX1 cX1_latestSegment 1 (some .int) 0 := ⟨tb_in (List.mem_of_getElem? (i := 421) (by decide +kernel)) (by decide +kernel), tb_in (List.mem_of_getElem? (i := 29) (by decide +kernel)) (by decide +kernel), ⟨by decide +kernel, by decide +kernel⟩, by decide +kernel, tb_in (List.mem_of_getElem? (i := 419) (by decide +kernel)) (by decide +kernel), tb_in (List.mem_of_getElem? (i := 420) (by decide +kernel)) (by decide +kernel)⟩
theorem ok_X1_latestPlace : OkV yX1_latestPlace RX1 cX1_latestPlace 1 (some .int) 0 := ⟨tb_in (List.mem_of_getElem? (i := 425) (by decide +kernel)) (by decide +kernel), tb_in (List.mem_of_getElem? (i := 29) (by decide +kernel)) (by decide +kernel), ⟨by decide +kernel, by decide +kernel⟩, by decide +kernel, tb_in (List.mem_of_getElem? (i := 423) (by decide +kernel)) (by decide +kernel), tb_in (List.mem_of_getElem? (i := 424) (by decide +kernel)) (by decide +kernel)⟩
theorem ok_X1_latestLocals : OkV yX1_latestLocals RX1 cX1_latestLocals 1 (some .int) 0 := ⟨tb_in (List.mem_of_getElem? (i := 501) (by decide +kernel)) (by decide +kernel), tb_in (List.mem_of_getElem? (i := 29) (by decide +kernel)) (by decide +kernel), ⟨by decide +kernel, by decide +kernel⟩, by decide +kernel, tb_in (List.mem_of_getElem? (i := 499) (by decide +kernel)) (by decide +kernel), tb_in (List.mem_of_getElem? (i := 500) (by decide +kernel)) (by decide +kernel)⟩
theorem ok_X1_depth : OkV yX1_depth RX1 cX1_depth 1 (some .int) 0 := ⟨tb_in (List.mem_of_getElem? (i := 436) (by decide +kernel)) (by decide +kernel), tb_in (List.mem_of_getElem? (i := 29) (by decide +kernel)) (by decide +kernel), ⟨by decide +kernel, by decide +kernel⟩, by decide +kernel, tb_in (List.mem_of_getElem? (i := 434) (by decide +kernel)) (by decide +kernel), tb_in (List.mem_of_getElem? (i := 435) (by decide +kernel)) (by decide +kernel)⟩
theorem ok_X1_open : OkV yX1_open RX1 cX1_open 6 none 4 := ⟨tb_in (List.mem_of_getElem? (i := 400) (by decide +kernel)) (by decide +kernel), tb_in (List.mem_of_getElem? (i := 29) (by decide +kernel)) (by decide +kernel), ⟨by decide +kernel, by decide +kernel⟩, by decide +kernel, tb_in (List.mem_of_getElem? (i := 398) (by decide +kernel)) (by decide +kernel), tb_in (List.mem_of_getElem? (i := 399) (by decide +kernel)) (by decide +kernel)⟩
theorem ok_X1_close : OkV yX1_close RX1 cX1_close 1 none 0 := ⟨tb_in (List.mem_of_getElem? (i := 513) (by decide +kernel)) (by decide +kernel), tb_in (List.mem_of_getElem? (i := 29) (by decide +kernel)) (by decide +kernel), ⟨by decide +kernel, by decide +kernel⟩, by decide +kernel, tb_in (List.mem_of_getElem? (i := 511) (by decide +kernel)) (by decide +kernel), tb_in (List.mem_of_getElem? (i := 512) (by decide +kernel)) (by decide +kernel)⟩
theorem ok_X1_moveTo : OkV yX1_moveTo RX1 cX1_moveTo 2 none 1 := ⟨tb_in (List.mem_of_getElem? (i := 455) (by decide +kernel)) (by decide +kernel), tb_in (List.mem_of_getElem? (i := 29) (by decide +kernel)) (by decide +kernel), ⟨by decide +kernel, by decide +kernel⟩, by decide +kernel, tb_in (List.mem_of_getElem? (i := 453) (by decide +kernel)) (by decide +kernel), tb_in (List.mem_of_getElem? (i := 454) (by decide +kernel)) (by decide +kernel)⟩
theorem ok_X1_moveCallerTo : OkV yX1_moveCallerTo RX1 cX1_moveCallerTo 2 none 1 := ⟨tb_in (List.mem_of_getElem? (i := 493) (by decide +kernel)) (by decide +kernel), tb_in (List.mem_of_getElem? (i := 29) (by decide +kernel)) (by decide +kernel), ⟨by decide +kernel, by decide +kernel⟩, by decide +kernel, tb_in (List.mem_of_getElem? (i := 491) (by decide +kernel)) (by decide +kernel), tb_in (List.mem_of_getElem? (i := 492) (by decide +kernel)) (by decide +kernel)⟩
theorem ok_X1_push : OkV yX1_push RX1 cX1_push 2 none 1 := ⟨tb_in (List.mem_of_getElem? (i := 451) (by decide +kernel)) (by decide +kernel), tb_in (List.mem_of_getElem? (i := 29) (by decide +kernel)) (by decide +kernel), ⟨by decide +kernel, by decide +kernel⟩, by decide +kernel, tb_in (List.mem_of_getElem? (i := 449) (by decide +kernel)) (by decide +kernel), tb_in (List.mem_of_getElem? (i := 450) (by decide +kernel)) (by decide +kernel)⟩
theorem ok_X1_pop : OkV yX1_pop RX1 cX1_pop 1 (some .int) 0 := ⟨tb_in (List.mem_of_getElem? (i := 480) (by decide +kernel)) (by decide +kernel), tb_in (List.mem_of_getElem? (i := 29) (by decide +kernel)) (by decide +kernel), ⟨by decide +kernel, by decide +kernel⟩, by decide +kernel, tb_in (List.mem_of_getElem? (i := 478) (by decide +kernel)) (by decide +kernel), tb_in (List.mem_of_getElem? (i := 479) (by decide +kernel)) (by decide +kernel)⟩
theorem ok_X1_hasLocal : OkV yX1_hasLocal RX1 cX1_hasLocal 3 (some .boolean) 2 := ⟨tb_in (List.mem_of_getElem? (i := 175) (by decide +kernel)) (by decide +kernel), tb_in (List.mem_of_getElem? (i := 29) (by decide +kernel)) (by decide +kernel), ⟨by decide +kernel, by decide +kernel⟩, by decide +kernel, tb_in (List.mem_of_getElem? (i := 173) (by decide +kernel)) (by decide +kernel), tb_in (List.mem_of_getElem? (i := 174) (by decide +kernel)) (by decide +kernel)⟩
theorem ok_X1_localAt : OkV yX1_localAt RX1 cX1_localAt 3 (some .int) 2 := ⟨tb_in (List.mem_of_getElem? (i := 171) (by decide +kernel)) (by decide +kernel), tb_in (List.mem_of_getElem? (i := 29) (by decide +kernel)) (by decide +kernel), ⟨by decide +kernel, by decide +kernel⟩, by decide +kernel, tb_in (List.mem_of_getElem? (i := 169) (by decide +kernel)) (by decide +kernel), tb_in (List.mem_of_getElem? (i := 170) (by decide +kernel)) (by decide +kernel)⟩
theorem ok_X1_setLocal : OkV yX1_setLocal RX1 cX1_setLocal 4 none 3 := ⟨tb_in (List.mem_of_getElem? (i := 485) (by decide +kernel)) (by decide +kernel), tb_in (List.mem_of_getElem? (i := 29) (by decide +kernel)) (by decide +kernel), ⟨by decide +kernel, by decide +kernel⟩, by decide +kernel, tb_in (List.mem_of_getElem? (i := 483) (by decide +kernel)) (by decide +kernel), tb_in (List.mem_of_getElem? (i := 484) (by decide +kernel)) (by decide +kernel)⟩
theorem ok_X2_empty : OkV yX2_empty RX2 cX2_empty 3 none 1 := ⟨tb_in (List.mem_of_getElem? (i := 289) (by decide +kernel)) (by decide +kernel), tb_in (List.mem_of_getElem? (i := 28) (by decide +kernel)) (by decide +kernel), ⟨by decide +kernel, by decide +kernel⟩, by decide +kernel, tb_in (List.mem_of_getElem? (i := 287) (by decide +kernel)) (by decide +kernel), tb_in (List.mem_of_getElem? (i := 288) (by decide +kernel)) (by decide +kernel)⟩
theorem ok_X2_held : OkV yX2_held RX2 cX2_held 1 (some .int) 0 := ⟨tb_in (List.mem_of_getElem? (i := 540) (by decide +kernel)) (by decide +kernel), tb_in (List.mem_of_getElem? (i := 28) (by decide +kernel)) (by decide +kernel), ⟨by decide +kernel, by decide +kernel⟩, by decide +kernel, tb_in (List.mem_of_getElem? (i := 538) (by decide +kernel)) (by decide +kernel), tb_in (List.mem_of_getElem? (i := 539) (by decide +kernel)) (by decide +kernel)⟩
theorem ok_X2_most : OkV yX2_most RX2 cX2_most 1 (some .int) 0 := ⟨tb_in (List.mem_of_getElem? (i := 544) (by decide +kernel)) (by decide +kernel), tb_in (List.mem_of_getElem? (i := 28) (by decide +kernel)) (by decide +kernel), ⟨by decide +kernel, by decide +kernel⟩, by decide +kernel, tb_in (List.mem_of_getElem? (i := 542) (by decide +kernel)) (by decide +kernel), tb_in (List.mem_of_getElem? (i := 543) (by decide +kernel)) (by decide +kernel)⟩
theorem ok_X2_loads : OkV yX2_loads RX2 cX2_loads 1 (some .int) 0 := ⟨tb_in (List.mem_of_getElem? (i := 548) (by decide +kernel)) (by decide +kernel), tb_in (List.mem_of_getElem? (i := 28) (by decide +kernel)) (by decide +kernel), ⟨by decide +kernel, by decide +kernel⟩, by decide +kernel, tb_in (List.mem_of_getElem? (i := 546) (by decide +kernel)) (by decide +kernel), tb_in (List.mem_of_getElem? (i := 547) (by decide +kernel)) (by decide +kernel)⟩
theorem ok_X2_gone : OkV yX2_gone RX2 cX2_gone 1 (some .int) 0 := ⟨tb_in (List.mem_of_getElem? (i := 552) (by decide +kernel)) (by decide +kernel), tb_in (List.mem_of_getElem? (i := 28) (by decide +kernel)) (by decide +kernel), ⟨by decide +kernel, by decide +kernel⟩, by decide +kernel, tb_in (List.mem_of_getElem? (i := 550) (by decide +kernel)) (by decide +kernel), tb_in (List.mem_of_getElem? (i := 551) (by decide +kernel)) (by decide +kernel)⟩
theorem ok_X2_isResident : OkV yX2_isResident RX2 cX2_isResident 2 (some .boolean) 1 := ⟨tb_in (List.mem_of_getElem? (i := 377) (by decide +kernel)) (by decide +kernel), tb_in (List.mem_of_getElem? (i := 28) (by decide +kernel)) (by decide +kernel), ⟨by decide +kernel, by decide +kernel⟩, by decide +kernel, tb_in (List.mem_of_getElem? (i := 375) (by decide +kernel)) (by decide +kernel), tb_in (List.mem_of_getElem? (i := 376) (by decide +kernel)) (by decide +kernel)⟩
theorem ok_X2_isActive : OkV yX2_isActive RX2 cX2_isActive 2 (some .boolean) 1 := ⟨tb_in (List.mem_of_getElem? (i := 509) (by decide +kernel)) (by decide +kernel), tb_in (List.mem_of_getElem? (i := 28) (by decide +kernel)) (by decide +kernel), ⟨by decide +kernel, by decide +kernel⟩, by decide +kernel, tb_in (List.mem_of_getElem? (i := 507) (by decide +kernel)) (by decide +kernel), tb_in (List.mem_of_getElem? (i := 508) (by decide +kernel)) (by decide +kernel)⟩
theorem ok_X2_leastLatelyCalled : OkV yX2_leastLatelyCalled RX2 cX2_leastLatelyCalled 5 (some .int) 1 := ⟨tb_in (List.mem_of_getElem? (i := 385) (by decide +kernel)) (by decide +kernel), tb_in (List.mem_of_getElem? (i := 28) (by decide +kernel)) (by decide +kernel), ⟨by decide +kernel, by decide +kernel⟩, by decide +kernel, tb_in (List.mem_of_getElem? (i := 384) (by decide +kernel)) (by decide +kernel), tb_in (List.mem_of_getElem? (i := 3) (by decide +kernel)) (by decide +kernel)⟩
theorem ok_X2_hold : OkV yX2_hold RX2 cX2_hold 5 (some .boolean) 2 := ⟨tb_in (List.mem_of_getElem? (i := 381) (by decide +kernel)) (by decide +kernel), tb_in (List.mem_of_getElem? (i := 28) (by decide +kernel)) (by decide +kernel), ⟨by decide +kernel, by decide +kernel⟩, by decide +kernel, tb_in (List.mem_of_getElem? (i := 379) (by decide +kernel)) (by decide +kernel), tb_in (List.mem_of_getElem? (i := 380) (by decide +kernel)) (by decide +kernel)⟩
theorem ok_X2_bringIn : OkV yX2_bringIn RX2 cX2_bringIn 3 (some .boolean) 2 := ⟨tb_in (List.mem_of_getElem? (i := 372) (by decide +kernel)) (by decide +kernel), tb_in (List.mem_of_getElem? (i := 28) (by decide +kernel)) (by decide +kernel), ⟨by decide +kernel, by decide +kernel⟩, by decide +kernel, tb_in (List.mem_of_getElem? (i := 370) (by decide +kernel)) (by decide +kernel), tb_in (List.mem_of_getElem? (i := 371) (by decide +kernel)) (by decide +kernel)⟩
theorem ok_X2_addFrame : OkV yX2_addFrame RX2 cX2_addFrame 3 (some .boolean) 2 := ⟨tb_in (List.mem_of_getElem? (i := 395) (by decide +kernel)) (by decide +kernel), tb_in (List.mem_of_getElem? (i := 28) (by decide +kernel)) (by decide +kernel), ⟨by decide +kernel, by decide +kernel⟩, by decide +kernel, tb_in (List.mem_of_getElem? (i := 393) (by decide +kernel)) (by decide +kernel), tb_in (List.mem_of_getElem? (i := 394) (by decide +kernel)) (by decide +kernel)⟩
theorem ok_X2_dropFrame : OkV yX2_dropFrame RX2 cX2_dropFrame 3 none 2 := ⟨tb_in (List.mem_of_getElem? (i := 505) (by decide +kernel)) (by decide +kernel), tb_in (List.mem_of_getElem? (i := 28) (by decide +kernel)) (by decide +kernel), ⟨by decide +kernel, by decide +kernel⟩, by decide +kernel, tb_in (List.mem_of_getElem? (i := 503) (by decide +kernel)) (by decide +kernel), tb_in (List.mem_of_getElem? (i := 504) (by decide +kernel)) (by decide +kernel)⟩
theorem ok_X2_dropNumber : OkV yX2_dropNumber RX2 cX2_dropNumber 1 none 0 := ⟨tb_in (List.mem_of_getElem? (i := 476) (by decide +kernel)) (by decide +kernel), tb_in (List.mem_of_getElem? (i := 28) (by decide +kernel)) (by decide +kernel), ⟨by decide +kernel, by decide +kernel⟩, by decide +kernel, tb_in (List.mem_of_getElem? (i := 474) (by decide +kernel)) (by decide +kernel), tb_in (List.mem_of_getElem? (i := 475) (by decide +kernel)) (by decide +kernel)⟩
theorem ok_X3_makeFresh : OkV yX3_makeFresh RX3 cX3_makeFresh 3 none 2 := ⟨tb_in (List.mem_of_getElem? (i := 285) (by decide +kernel)) (by decide +kernel), tb_in (List.mem_of_getElem? (i := 27) (by decide +kernel)) (by decide +kernel), ⟨by decide +kernel, by decide +kernel⟩, by decide +kernel, tb_in (List.mem_of_getElem? (i := 284) (by decide +kernel)) (by decide +kernel), tb_in (List.mem_of_getElem? (i := 1) (by decide +kernel)) (by decide +kernel)⟩
theorem ok_X3_frameBytes : OkS yX3_frameBytes cX3_frameBytes 1 (some .int) 1 := ⟨tb_in (List.mem_of_getElem? (i := 391) (by decide +kernel)) (by decide +kernel), tb_in (List.mem_of_getElem? (i := 27) (by decide +kernel)) (by decide +kernel), ⟨by decide +kernel, by decide +kernel⟩, by decide +kernel, tb_in (List.mem_of_getElem? (i := 390) (by decide +kernel)) (by decide +kernel)⟩
theorem ok_X3_enter : OkV yX3_enter RX3 cX3_enter 6 (some .boolean) 3 := ⟨tb_in (List.mem_of_getElem? (i := 358) (by decide +kernel)) (by decide +kernel), tb_in (List.mem_of_getElem? (i := 27) (by decide +kernel)) (by decide +kernel), ⟨by decide +kernel, by decide +kernel⟩, by decide +kernel, tb_in (List.mem_of_getElem? (i := 357) (by decide +kernel)) (by decide +kernel), tb_in (List.mem_of_getElem? (i := 2) (by decide +kernel)) (by decide +kernel)⟩
theorem ok_X3_kindAt : OkV yX3_kindAt RX3 cX3_kindAt 5 (some .int) 2 := ⟨tb_in (List.mem_of_getElem? (i := 429) (by decide +kernel)) (by decide +kernel), tb_in (List.mem_of_getElem? (i := 27) (by decide +kernel)) (by decide +kernel), ⟨by decide +kernel, by decide +kernel⟩, by decide +kernel, tb_in (List.mem_of_getElem? (i := 428) (by decide +kernel)) (by decide +kernel), tb_in (List.mem_of_getElem? (i := 4) (by decide +kernel)) (by decide +kernel)⟩
theorem ok_X3_push : OkV yX3_push RX3 cX3_push 2 (some .boolean) 1 := ⟨tb_in (List.mem_of_getElem? (i := 446) (by decide +kernel)) (by decide +kernel), tb_in (List.mem_of_getElem? (i := 27) (by decide +kernel)) (by decide +kernel), ⟨by decide +kernel, by decide +kernel⟩, by decide +kernel, tb_in (List.mem_of_getElem? (i := 445) (by decide +kernel)) (by decide +kernel), tb_in (List.mem_of_getElem? (i := 6) (by decide +kernel)) (by decide +kernel)⟩
theorem ok_X3_pushAndMove : OkV yX3_pushAndMove RX3 cX3_pushAndMove 3 none 2 := ⟨tb_in (List.mem_of_getElem? (i := 442) (by decide +kernel)) (by decide +kernel), tb_in (List.mem_of_getElem? (i := 27) (by decide +kernel)) (by decide +kernel), ⟨by decide +kernel, by decide +kernel⟩, by decide +kernel, tb_in (List.mem_of_getElem? (i := 441) (by decide +kernel)) (by decide +kernel), tb_in (List.mem_of_getElem? (i := 5) (by decide +kernel)) (by decide +kernel)⟩
theorem ok_X3_getLocal : OkV yX3_getLocal RX3 cX3_getLocal 4 none 2 := ⟨tb_in (List.mem_of_getElem? (i := 459) (by decide +kernel)) (by decide +kernel), tb_in (List.mem_of_getElem? (i := 27) (by decide +kernel)) (by decide +kernel), ⟨by decide +kernel, by decide +kernel⟩, by decide +kernel, tb_in (List.mem_of_getElem? (i := 458) (by decide +kernel)) (by decide +kernel), tb_in (List.mem_of_getElem? (i := 7) (by decide +kernel)) (by decide +kernel)⟩
theorem ok_X3_take : OkV yX3_take RX3 cX3_take 1 (some .int) 0 := ⟨tb_in (List.mem_of_getElem? (i := 472) (by decide +kernel)) (by decide +kernel), tb_in (List.mem_of_getElem? (i := 27) (by decide +kernel)) (by decide +kernel), ⟨by decide +kernel, by decide +kernel⟩, by decide +kernel, tb_in (List.mem_of_getElem? (i := 471) (by decide +kernel)) (by decide +kernel), tb_in (List.mem_of_getElem? (i := 9) (by decide +kernel)) (by decide +kernel)⟩
theorem ok_X3_setLocal : OkV yX3_setLocal RX3 cX3_setLocal 4 none 2 := ⟨tb_in (List.mem_of_getElem? (i := 468) (by decide +kernel)) (by decide +kernel), tb_in (List.mem_of_getElem? (i := 27) (by decide +kernel)) (by decide +kernel), ⟨by decide +kernel, by decide +kernel⟩, by decide +kernel, tb_in (List.mem_of_getElem? (i := 467) (by decide +kernel)) (by decide +kernel), tb_in (List.mem_of_getElem? (i := 8) (by decide +kernel)) (by decide +kernel)⟩
theorem ok_X3_callFrom : OkV yX3_callFrom RX3 cX3_callFrom 4 none 3 := ⟨tb_in (List.mem_of_getElem? (i := 489) (by decide +kernel)) (by decide +kernel), tb_in (List.mem_of_getElem? (i := 27) (by decide +kernel)) (by decide +kernel), ⟨by decide +kernel, by decide +kernel⟩, by decide +kernel, tb_in (List.mem_of_getElem? (i := 488) (by decide +kernel)) (by decide +kernel), tb_in (List.mem_of_getElem? (i := 10) (by decide +kernel)) (by decide +kernel)⟩
theorem ok_X3_giveBack : OkV yX3_giveBack RX3 cX3_giveBack 3 none 0 := ⟨tb_in (List.mem_of_getElem? (i := 497) (by decide +kernel)) (by decide +kernel), tb_in (List.mem_of_getElem? (i := 27) (by decide +kernel)) (by decide +kernel), ⟨by decide +kernel, by decide +kernel⟩, by decide +kernel, tb_in (List.mem_of_getElem? (i := 496) (by decide +kernel)) (by decide +kernel), tb_in (List.mem_of_getElem? (i := 11) (by decide +kernel)) (by decide +kernel)⟩
theorem ok_X3_putOut : OkV yX3_putOut RX3 cX3_putOut 2 none 1 := ⟨tb_in (List.mem_of_getElem? (i := 517) (by decide +kernel)) (by decide +kernel), tb_in (List.mem_of_getElem? (i := 27) (by decide +kernel)) (by decide +kernel), ⟨by decide +kernel, by decide +kernel⟩, by decide +kernel, tb_in (List.mem_of_getElem? (i := 516) (by decide +kernel)) (by decide +kernel), tb_in (List.mem_of_getElem? (i := 12) (by decide +kernel)) (by decide +kernel)⟩
theorem ok_X3_valueOf : OkS yX3_valueOf cX3_valueOf 3 (some .int) 3 := ⟨tb_in (List.mem_of_getElem? (i := 524) (by decide +kernel)) (by decide +kernel), tb_in (List.mem_of_getElem? (i := 27) (by decide +kernel)) (by decide +kernel), ⟨by decide +kernel, by decide +kernel⟩, by decide +kernel, tb_in (List.mem_of_getElem? (i := 523) (by decide +kernel)) (by decide +kernel)⟩
theorem ok_X3_calculate : OkV yX3_calculate RX3 cX3_calculate 5 none 2 := ⟨tb_in (List.mem_of_getElem? (i := 521) (by decide +kernel)) (by decide +kernel), tb_in (List.mem_of_getElem? (i := 27) (by decide +kernel)) (by decide +kernel), ⟨by decide +kernel, by decide +kernel⟩, by decide +kernel, tb_in (List.mem_of_getElem? (i := 520) (by decide +kernel)) (by decide +kernel), tb_in (List.mem_of_getElem? (i := 13) (by decide +kernel)) (by decide +kernel)⟩
theorem ml_X0_20 : Cond.methodLink RX0 20 yX0_lengthOf ∈ tb := tb_in (List.mem_of_getElem? (i := 298) (by decide +kernel)) (by decide +kernel)
theorem ml_X0_28 : Cond.methodLink RX0 28 yX0_byteAt ∈ tb := tb_in (List.mem_of_getElem? (i := 322) (by decide +kernel)) (by decide +kernel)
theorem ml_X0_32 : Cond.methodLink RX0 32 yX0_proceduresOf ∈ tb := tb_in (List.mem_of_getElem? (i := 363) (by decide +kernel)) (by decide +kernel)
theorem ml_X0_35 : Cond.methodLink RX0 35 yX0_beginOf ∈ tb := tb_in (List.mem_of_getElem? (i := 364) (by decide +kernel)) (by decide +kernel)
theorem ml_X1_34 : Cond.methodLink RX1 34 yX1_depth ∈ tb := tb_in (List.mem_of_getElem? (i := 481) (by decide +kernel)) (by decide +kernel)
theorem ml_X1_38 : Cond.methodLink RX1 38 yX1_hasLocal ∈ tb := tb_in (List.mem_of_getElem? (i := 172) (by decide +kernel)) (by decide +kernel)
theorem ml_X2_44 : Cond.methodLink RX2 44 yX2_isResident ∈ tb := tb_in (List.mem_of_getElem? (i := 374) (by decide +kernel)) (by decide +kernel)
theorem ml_X2_47 : Cond.methodLink RX2 47 yX2_hold ∈ tb := tb_in (List.mem_of_getElem? (i := 378) (by decide +kernel)) (by decide +kernel)
theorem ml_X2_51 : Cond.methodLink RX2 51 yX2_isActive ∈ tb := tb_in (List.mem_of_getElem? (i := 506) (by decide +kernel)) (by decide +kernel)
theorem ml_X2_54 : Cond.methodLink RX2 54 yX2_leastLatelyCalled ∈ tb := tb_in (List.mem_of_getElem? (i := 382) (by decide +kernel)) (by decide +kernel)
theorem ml_X2_58 : Cond.methodLink RX2 58 Lib.Math.max.name ∈ tb := tb_in (List.mem_of_getElem? (i := 386) (by decide +kernel)) (by decide +kernel)
theorem ml_X3_107 : Cond.methodLink RX3 107 yX3_pushAndMove ∈ tb := tb_in (List.mem_of_getElem? (i := 439) (by decide +kernel)) (by decide +kernel)
theorem ml_X3_110 : Cond.methodLink RX3 110 yX3_getLocal ∈ tb := tb_in (List.mem_of_getElem? (i := 456) (by decide +kernel)) (by decide +kernel)
theorem ml_X3_113 : Cond.methodLink RX3 113 yX3_setLocal ∈ tb := tb_in (List.mem_of_getElem? (i := 465) (by decide +kernel)) (by decide +kernel)
theorem ml_X3_116 : Cond.methodLink RX3 116 yX3_take ∈ tb := tb_in (List.mem_of_getElem? (i := 469) (by decide +kernel)) (by decide +kernel)
theorem ml_X3_119 : Cond.methodLink RX3 119 yX1_moveTo ∈ tb := tb_in (List.mem_of_getElem? (i := 452) (by decide +kernel)) (by decide +kernel)
theorem ml_X3_122 : Cond.methodLink RX3 122 yX3_callFrom ∈ tb := tb_in (List.mem_of_getElem? (i := 486) (by decide +kernel)) (by decide +kernel)
theorem ml_X3_126 : Cond.methodLink RX3 126 yX3_giveBack ∈ tb := tb_in (List.mem_of_getElem? (i := 494) (by decide +kernel)) (by decide +kernel)
theorem ml_X3_129 : Cond.methodLink RX3 129 yX3_putOut ∈ tb := tb_in (List.mem_of_getElem? (i := 514) (by decide +kernel)) (by decide +kernel)
theorem ml_X3_132 : Cond.methodLink RX3 132 yX3_calculate ∈ tb := tb_in (List.mem_of_getElem? (i := 518) (by decide +kernel)) (by decide +kernel)
theorem ml_X3_135 : Cond.methodLink RX3 135 yX0_lengthOf ∈ tb := tb_in (List.mem_of_getElem? (i := 368) (by decide +kernel)) (by decide +kernel)
theorem ml_X3_139 : Cond.methodLink RX3 139 yX2_dropNumber ∈ tb := tb_in (List.mem_of_getElem? (i := 473) (by decide +kernel)) (by decide +kernel)
theorem ml_X3_142 : Cond.methodLink RX3 142 yX1_pop ∈ tb := tb_in (List.mem_of_getElem? (i := 477) (by decide +kernel)) (by decide +kernel)
theorem ml_X3_145 : Cond.methodLink RX3 145 yX2_hold ∈ tb := tb_in (List.mem_of_getElem? (i := 447) (by decide +kernel)) (by decide +kernel)
theorem ml_X3_149 : Cond.methodLink RX3 149 yX1_push ∈ tb := tb_in (List.mem_of_getElem? (i := 448) (by decide +kernel)) (by decide +kernel)
theorem ml_X3_152 : Cond.methodLink RX3 152 yX3_push ∈ tb := tb_in (List.mem_of_getElem? (i := 443) (by decide +kernel)) (by decide +kernel)
theorem ml_X3_154 : Cond.methodLink RX3 154 yX1_hasLocal ∈ tb := tb_in (List.mem_of_getElem? (i := 464) (by decide +kernel)) (by decide +kernel)
theorem ml_X3_157 : Cond.methodLink RX3 157 yX1_setLocal ∈ tb := tb_in (List.mem_of_getElem? (i := 482) (by decide +kernel)) (by decide +kernel)
theorem ml_X3_159 : Cond.methodLink RX3 159 yX3_valueOf ∈ tb := tb_in (List.mem_of_getElem? (i := 522) (by decide +kernel)) (by decide +kernel)
theorem ml_X3_163 : Cond.methodLink RX3 163 yX1_moveCallerTo ∈ tb := tb_in (List.mem_of_getElem? (i := 490) (by decide +kernel)) (by decide +kernel)
theorem ml_X3_166 : Cond.methodLink RX3 166 yX0_localsOf ∈ tb := tb_in (List.mem_of_getElem? (i := 359) (by decide +kernel)) (by decide +kernel)
theorem ml_X3_169 : Cond.methodLink RX3 169 yX2_bringIn ∈ tb := tb_in (List.mem_of_getElem? (i := 369) (by decide +kernel)) (by decide +kernel)
theorem ml_X3_172 : Cond.methodLink RX3 172 yX3_frameBytes ∈ tb := tb_in (List.mem_of_getElem? (i := 389) (by decide +kernel)) (by decide +kernel)
theorem ml_X3_175 : Cond.methodLink RX3 175 yX2_addFrame ∈ tb := tb_in (List.mem_of_getElem? (i := 392) (by decide +kernel)) (by decide +kernel)
theorem ml_X3_178 : Cond.methodLink RX3 178 yX0_beginOf ∈ tb := tb_in (List.mem_of_getElem? (i := 396) (by decide +kernel)) (by decide +kernel)
theorem ml_X3_181 : Cond.methodLink RX3 181 yX1_open ∈ tb := tb_in (List.mem_of_getElem? (i := 397) (by decide +kernel)) (by decide +kernel)
theorem ml_X3_185 : Cond.methodLink RX3 185 yX1_latestLocals ∈ tb := tb_in (List.mem_of_getElem? (i := 498) (by decide +kernel)) (by decide +kernel)
theorem ml_X3_188 : Cond.methodLink RX3 188 yX2_dropFrame ∈ tb := tb_in (List.mem_of_getElem? (i := 502) (by decide +kernel)) (by decide +kernel)
theorem ml_X3_191 : Cond.methodLink RX3 191 yX1_close ∈ tb := tb_in (List.mem_of_getElem? (i := 510) (by decide +kernel)) (by decide +kernel)
theorem ml_X3_33 : Cond.methodLink RX3 33 yX3_makeFresh ∈ tb := tb_in (List.mem_of_getElem? (i := 282) (by decide +kernel)) (by decide +kernel)
theorem ml_X3_37 : Cond.methodLink RX3 37 yX3_enter ∈ tb := tb_in (List.mem_of_getElem? (i := 355) (by decide +kernel)) (by decide +kernel)
theorem ml_X3_41 : Cond.methodLink RX3 41 yX2_empty ∈ tb := tb_in (List.mem_of_getElem? (i := 286) (by decide +kernel)) (by decide +kernel)
theorem ml_X3_45 : Cond.methodLink RX3 45 yX1_empty ∈ tb := tb_in (List.mem_of_getElem? (i := 290) (by decide +kernel)) (by decide +kernel)
theorem ml_X3_57 : Cond.methodLink RX3 57 yX1_localAt ∈ tb := tb_in (List.mem_of_getElem? (i := 168) (by decide +kernel)) (by decide +kernel)
theorem ml_X3_61 : Cond.methodLink RX3 61 yX2_isResident ∈ tb := tb_in (List.mem_of_getElem? (i := 564) (by decide +kernel)) (by decide +kernel)
theorem ml_X3_65 : Cond.methodLink RX3 65 yX2_isActive ∈ tb := tb_in (List.mem_of_getElem? (i := 565) (by decide +kernel)) (by decide +kernel)
theorem ml_X3_68 : Cond.methodLink RX3 68 yX2_held ∈ tb := tb_in (List.mem_of_getElem? (i := 537) (by decide +kernel)) (by decide +kernel)
theorem ml_X3_72 : Cond.methodLink RX3 72 yX2_most ∈ tb := tb_in (List.mem_of_getElem? (i := 541) (by decide +kernel)) (by decide +kernel)
theorem ml_X3_75 : Cond.methodLink RX3 75 yX2_loads ∈ tb := tb_in (List.mem_of_getElem? (i := 545) (by decide +kernel)) (by decide +kernel)
theorem ml_X3_78 : Cond.methodLink RX3 78 yX2_gone ∈ tb := tb_in (List.mem_of_getElem? (i := 549) (by decide +kernel)) (by decide +kernel)
theorem ml_X3_81 : Cond.methodLink RX3 81 yX1_count ∈ tb := tb_in (List.mem_of_getElem? (i := 460) (by decide +kernel)) (by decide +kernel)
theorem ml_X3_84 : Cond.methodLink RX3 84 yX1_latestSegment ∈ tb := tb_in (List.mem_of_getElem? (i := 418) (by decide +kernel)) (by decide +kernel)
theorem ml_X3_87 : Cond.methodLink RX3 87 yX1_latestPlace ∈ tb := tb_in (List.mem_of_getElem? (i := 422) (by decide +kernel)) (by decide +kernel)
theorem ml_X3_90 : Cond.methodLink RX3 90 yX1_depth ∈ tb := tb_in (List.mem_of_getElem? (i := 433) (by decide +kernel)) (by decide +kernel)
theorem ml_X3_93 : Cond.methodLink RX3 93 yX3_kindAt ∈ tb := tb_in (List.mem_of_getElem? (i := 426) (by decide +kernel)) (by decide +kernel)
theorem ml_X3_99 : Cond.methodLink RX3 99 yX0_byteAt ∈ tb := tb_in (List.mem_of_getElem? (i := 430) (by decide +kernel)) (by decide +kernel)
theorem ml_X5_100 : Cond.methodLink RX5 100 yX5_call ∈ tb := tb_in (List.mem_of_getElem? (i := 683) (by decide +kernel)) (by decide +kernel)
theorem ml_X5_104 : Cond.methodLink RX5 104 yX5_size ∈ tb := tb_in (List.mem_of_getElem? (i := 711) (by decide +kernel)) (by decide +kernel)
theorem ml_X5_107 : Cond.methodLink RX5 107 yX5_takes ∈ tb := tb_in (List.mem_of_getElem? (i := 714) (by decide +kernel)) (by decide +kernel)
theorem ml_X5_110 : Cond.methodLink RX5 110 yX5_pop ∈ tb := tb_in (List.mem_of_getElem? (i := 717) (by decide +kernel)) (by decide +kernel)
theorem ml_X5_113 : Cond.methodLink RX5 113 yX5_push ∈ tb := tb_in (List.mem_of_getElem? (i := 721) (by decide +kernel)) (by decide +kernel)
theorem ml_X5_116 : Cond.methodLink RX5 116 yX5_back ∈ tb := tb_in (List.mem_of_getElem? (i := 725) (by decide +kernel)) (by decide +kernel)
theorem ml_X5_120 : Cond.methodLink RX5 120 yX5_one ∈ tb := tb_in (List.mem_of_getElem? (i := 707) (by decide +kernel)) (by decide +kernel)
theorem ml_X5_48 : Cond.methodLink RX5 48 yX5_isSegment ∈ tb := tb_in (List.mem_of_getElem? (i := 664) (by decide +kernel)) (by decide +kernel)
theorem ml_X5_55 : Cond.methodLink RX5 55 yX5_procedures ∈ tb := tb_in (List.mem_of_getElem? (i := 675) (by decide +kernel)) (by decide +kernel)
theorem ml_X5_65 : Cond.methodLink RX5 65 yX5_held ∈ tb := tb_in (List.mem_of_getElem? (i := 691) (by decide +kernel)) (by decide +kernel)
theorem ml_X5_72 : Cond.methodLink RX5 72 yX5_isActive ∈ tb := tb_in (List.mem_of_getElem? (i := 695) (by decide +kernel)) (by decide +kernel)
theorem ml_X5_81 : Cond.methodLink RX5 81 yX5_room ∈ tb := tb_in (List.mem_of_getElem? (i := 687) (by decide +kernel)) (by decide +kernel)
theorem ml_X5_85 : Cond.methodLink RX5 85 yX5_grown ∈ tb := tb_in (List.mem_of_getElem? (i := 699) (by decide +kernel)) (by decide +kernel)
end
section
abbrev rm_X0_lengthOf : Room := { frames := 0, cells := 0, slots := 0, locals := 0 }
def f_X0_lengthOf (x1 : Int32) (σ : St) : Option Int32 :=
  if x1 < 0 then
    some 0
  else
    if 5 ≤ x1 then
      some 0
    else
      if inB x1 5 = true then
        some (gA σ 0 x1)
      else none
set_option maxHeartbeats 4000000 in
set_option maxRecDepth 100000 in
theorem m_X0_lengthOf (l : Launch) (D : va_G) (ty : Nat → ClassId) (q : Nat → Nat) (σ : St) (sz : Nat) (x1 : Int32) {rr : Int32} (hF : f_X0_lengthOf x1 σ = some rr) : Met l yX0_lengthOf (wsy yX0_lengthOf cX0_lengthOf 2 (some .int)) rm_X0_lengthOf (Pcw D ty (FxC q) (wC ty q σ) sz [.ref (q 1), .int x1]) (Qiw D ty (wC ty q) (va_A (wC ty q σ) sz) (rr, σ)) 0 0 (va_A (wC ty q σ) sz) := by
  refine en_w (Qc := fun A => Qiw D ty (wC ty q) A (rr, σ)) (by decide) (Nat.le_of_ble_eq_true rfl) ?_
  intro p e s m args below meth c A X hlk hr _ H locs hI ls hl
  have X : CallFix p m c cX0_lengthOf 2 s args tb RX0 := X
  have hl : lv_has ls 2 [(0, .ref (q 1)), (1, .int x1)] := hl
  unfold f_X0_lengthOf at hF
  refine lv_iload_n X.1 X.2.1 dX0_lengthOf_0 rfl (lv_at hl 1 rfl) ?_
  refine lv_if_lt (tgt := 18) X.1 X.2.1 dX0_lengthOf_1 (by decide) (fun c1 => ?_) (fun c1 => ?_)
  · replace hF := fb_pos c1 hF
    refine lv_iconst (v := 0) X.1 X.2.1 dX0_lengthOf_18 (by decide) ?_
    exact rt_i X hlk hr hI (fb_pr hF) dX0_lengthOf_19
  · replace hF := fb_neg c1 hF
    refine lv_iload_n X.1 X.2.1 dX0_lengthOf_4 rfl (lv_at hl 1 rfl) ?_
    refine lv_iconst (v := 5) X.1 X.2.1 dX0_lengthOf_5 (by decide) ?_
    refine lv_icmp_ge (tgt := 18) X.1 X.2.1 dX0_lengthOf_6 (by decide) (fun c2 => ?_) (fun c2 => ?_)
    · replace hF := fb_pos c2 hF
      refine lv_iconst (v := 0) X.1 X.2.1 dX0_lengthOf_18 (by decide) ?_
      exact rt_i X hlk hr hI (fb_pr hF) dX0_lengthOf_19
    · replace hF := fb_neg c2 hF
      refine lv_aload_n X.1 X.2.1 dX0_lengthOf_9 rfl (lv_at hl 0 rfl) ?_
      refine g_X0_lengths X hI dX0_lengthOf_10 ?_
      refine lv_iload_n X.1 X.2.1 dX0_lengthOf_13 rfl (lv_at hl 1 rfl) ?_
      obtain ⟨h3, hF⟩ := fb_chk hF
      refine aC_0 (v := gA σ 0 x1) X hI rfl h3 dX0_lengthOf_14 ?_
      refine lv_goto (tgt := 19) X.1 X.2.1 dX0_lengthOf_15 (by decide) ?_
      exact rt_i X hlk hr hI (fb_pr hF) dX0_lengthOf_19
abbrev rm_X4_isSegment : Room := { frames := 0, cells := 0, slots := 0, locals := 0 }
def f_X4_isSegment (x0 : Int32) (σ : St) : Option Int32 :=
  if x0 < 0 then
    some 0
  else
    if 5 ≤ x0 then
      some 0
    else
      some 1
set_option maxHeartbeats 4000000 in
set_option maxRecDepth 100000 in
theorem m_X4_isSegment (l : Launch) (D : va_G) (ty : Nat → ClassId) (q : Nat → Nat) (σ : St) (sz : Nat) (x0 : Int32) {rr : Int32} (hF : f_X4_isSegment x0 σ = some rr) : Met l yX4_isSegment (wsy yX4_isSegment cX4_isSegment 1 (some .boolean)) rm_X4_isSegment (Pcw D ty (FxC q) (wC ty q σ) sz [.int x0]) (Qiw D ty (wC ty q) (va_A (wC ty q σ) sz) (rr, σ)) 0 0 (va_A (wC ty q σ) sz) := by
  refine en_w (Qc := fun A => Qiw D ty (wC ty q) A (rr, σ)) (by decide) (Nat.le_of_ble_eq_true rfl) ?_
  intro p e s m args below meth c A X hlk hr _ H locs hI ls hl
  have X : CallFix p m c cX4_isSegment 1 s args tb RX4 := X
  have hl : lv_has ls 1 [(0, .int x0)] := hl
  unfold f_X4_isSegment at hF
  refine lv_iload_n X.1 X.2.1 dX4_isSegment_0 rfl (lv_at hl 0 rfl) ?_
  refine lv_if_lt (tgt := 13) X.1 X.2.1 dX4_isSegment_1 (by decide) (fun c1 => ?_) (fun c1 => ?_)
  · replace hF := fb_pos c1 hF
    refine lv_iconst (v := 0) X.1 X.2.1 dX4_isSegment_13 (by decide) ?_
    exact rt_z X hlk hr hI rfl (fb_pr hF) dX4_isSegment_14
  · replace hF := fb_neg c1 hF
    refine lv_iload_n X.1 X.2.1 dX4_isSegment_4 rfl (lv_at hl 0 rfl) ?_
    refine lv_iconst (v := 5) X.1 X.2.1 dX4_isSegment_5 (by decide) ?_
    refine lv_icmp_ge (tgt := 13) X.1 X.2.1 dX4_isSegment_6 (by decide) (fun c2 => ?_) (fun c2 => ?_)
    · replace hF := fb_pos c2 hF
      refine lv_iconst (v := 0) X.1 X.2.1 dX4_isSegment_13 (by decide) ?_
      exact rt_z X hlk hr hI rfl (fb_pr hF) dX4_isSegment_14
    · replace hF := fb_neg c2 hF
      refine lv_iconst (v := 1) X.1 X.2.1 dX4_isSegment_9 (by decide) ?_
      refine lv_goto (tgt := 14) X.1 X.2.1 dX4_isSegment_10 (by decide) ?_
      exact rt_z X hlk hr hI rfl (fb_pr hF) dX4_isSegment_14
abbrev rm_X0_append : Room := { frames := 1, cells := 0, slots := 0, locals := 21 }
def f_X0_append (x1 x2 : Int32) (σ : St) : Option (Int32 × St) :=
  (f_X0_lengthOf x1 σ).bind fun u1 =>
  (f_X4_isSegment x1 σ).bind fun u3 =>
  if u3 = 0 then
    some (0, σ)
  else
    if 80 ≤ u1 then
      some (0, σ)
    else
      if inB x1 5 = true then
        if inB u1 80 = true then
          if inB x1 5 = true then
            some (0, sA (sA σ (10 + x1.toNatClampNeg) u1 (vp_nar .byte x2)) 0 x1 (u1 + 1))
          else none
        else none
      else none
set_option maxHeartbeats 4000000 in
set_option maxRecDepth 100000 in
theorem m_X0_append (l : Launch) (D : va_G) (ty : Nat → ClassId) (q : Nat → Nat) (σ : St) (sz : Nat) (x1 x2 : Int32) {res : Int32 × St} (hF : f_X0_append x1 x2 σ = some res) : Met l yX0_append (wsy yX0_append cX0_append 4 none) rm_X0_append (Pcw D ty (FxC q) (wC ty q σ) sz [.ref (q 1), .int x1, .int x2]) (Qvw D ty (wC ty q) (va_A (wC ty q σ) sz) res) 0 0 (va_A (wC ty q σ) sz) := by
  refine en_w (Qc := fun A => Qvw D ty (wC ty q) A res) (by decide) (Nat.le_of_ble_eq_true rfl) ?_
  intro p e s m args below meth c A X hlk hr _ H locs hI ls hl
  have X : CallFix p m c cX0_append 4 s args tb RX0 := X
  have hl : lv_has ls 4 [(0, .ref (q 1)), (1, .int x1), (2, .int x2)] := hl
  unfold f_X0_append at hF
  refine lv_aload_n X.1 X.2.1 dX0_append_0 rfl (lv_at hl 0 rfl) ?_
  refine lv_iload_n X.1 X.2.1 dX0_append_1 rfl (lv_at hl 1 rfl) ?_
  obtain ⟨u1, h2, hF⟩ := fb_bnd hF
  refine cl_i (w := wC ty q) (σ := σ) (rest := []) X (fxC q) hI (m_X0_lengthOf l D ty q σ _ x1 h2) ok_X0_lengthOf ml_X0_20 ⟨rfl, rfl, Nat.le_of_ble_eq_true rfl, Nat.le_of_ble_eq_true rfl⟩ 1 rc_X0 rfl rfl hl.1 rfl (Nat.le_of_ble_eq_true rfl) ⟨Nat.zero_le _, Nat.zero_le _⟩ dX0_append_2 (fun H locs hI => ?_)
  refine lv_istore_n (lv' := [(3, .int u1), (0, .ref (q 1)), (1, .int x1), (2, .int x2)]) X.1 X.2.1 dX0_append_5 rfl hl (by decide) rfl (fun ls hl => ?_)
  refine lv_iload_n X.1 X.2.1 dX0_append_6 rfl (lv_at hl 2 rfl) ?_
  obtain ⟨u3, h4, hF⟩ := fb_bnd hF
  refine cn_i (w := wC ty q) (σ := σ) (rest := []) X (fxC q) hI (m_X4_isSegment l D ty q σ _ x1 h4) ok_X4_isSegment hI.2.2.2.2.2.2.2.2.2.1 ⟨rfl, rfl, Nat.le_of_ble_eq_true rfl, Nat.le_of_ble_eq_true rfl⟩ rfl hl.1 rfl (Nat.le_of_ble_eq_true rfl) ⟨Nat.zero_le _, Nat.zero_le _⟩ dX0_append_7 (fun H locs hI => ?_)
  refine lv_if_eq (tgt := 37) X.1 X.2.1 dX0_append_10 (by decide) (fun c5 => ?_) (fun c5 => ?_)
  · replace hF := fb_pos c5 hF
    exact rt_v X hlk hr hI hF dX0_append_37
  · replace hF := fb_neg c5 hF
    refine lv_iload_n X.1 X.2.1 dX0_append_13 rfl (lv_at hl 0 rfl) ?_
    refine lv_bipush (v := 80) X.1 X.2.1 dX0_append_14 (by decide) ?_
    refine lv_icmp_ge (tgt := 37) X.1 X.2.1 dX0_append_16 (by decide) (fun c6 => ?_) (fun c6 => ?_)
    · replace hF := fb_pos c6 hF
      exact rt_v X hlk hr hI hF dX0_append_37
    · replace hF := fb_neg c6 hF
      refine lv_aload_n X.1 X.2.1 dX0_append_19 rfl (lv_at hl 1 rfl) ?_
      refine g_X0_bytes X hI dX0_append_20 ?_
      refine lv_iload_n X.1 X.2.1 dX0_append_23 rfl (lv_at hl 2 rfl) ?_
      obtain ⟨h7, hF⟩ := fb_chk hF
      refine aC_row X hI h7 dX0_append_24 ?_
      refine lv_iload_n X.1 X.2.1 dX0_append_25 rfl (lv_at hl 0 rfl) ?_
      refine lv_iload_n X.1 X.2.1 dX0_append_26 rfl (lv_at hl 3 rfl) ?_
      obtain ⟨h8, hF⟩ := fb_chk hF
      refine sC_byte X hI h7 h8 dX0_append_27 (fun H locs hI => ?_)
      refine lv_aload_n X.1 X.2.1 dX0_append_28 rfl (lv_at hl 1 rfl) ?_
      refine g_X0_lengths X hI dX0_append_29 ?_
      refine lv_iload_n X.1 X.2.1 dX0_append_32 rfl (lv_at hl 2 rfl) ?_
      refine lv_iload_n X.1 X.2.1 dX0_append_33 rfl (lv_at hl 0 rfl) ?_
      refine lv_iconst (v := 1) X.1 X.2.1 dX0_append_34 (by decide) ?_
      refine lv_iadd X.1 X.2.1 dX0_append_35 ?_
      obtain ⟨h9, hF⟩ := fb_chk hF
      refine sC_0 X hI h9 dX0_append_36 (fun H locs hI => ?_)
      exact rt_v X hlk hr hI hF dX0_append_37
abbrev rm_X0_wipe : Room := { frames := 1, cells := 0, slots := 0, locals := 20 }
def f_X0_wipe (x1 : Int32) (σ : St) : Option (Int32 × St) :=
  (f_X4_isSegment x1 σ).bind fun u1 =>
  if u1 = 0 then
    some (0, σ)
  else
    if inB x1 5 = true then
      some (0, sA σ 0 x1 0)
    else none
set_option maxHeartbeats 4000000 in
set_option maxRecDepth 100000 in
theorem m_X0_wipe (l : Launch) (D : va_G) (ty : Nat → ClassId) (q : Nat → Nat) (σ : St) (sz : Nat) (x1 : Int32) {res : Int32 × St} (hF : f_X0_wipe x1 σ = some res) : Met l yX0_wipe (wsy yX0_wipe cX0_wipe 2 none) rm_X0_wipe (Pcw D ty (FxC q) (wC ty q σ) sz [.ref (q 1), .int x1]) (Qvw D ty (wC ty q) (va_A (wC ty q σ) sz) res) 0 0 (va_A (wC ty q σ) sz) := by
  refine en_w (Qc := fun A => Qvw D ty (wC ty q) A res) (by decide) (Nat.le_of_ble_eq_true rfl) ?_
  intro p e s m args below meth c A X hlk hr _ H locs hI ls hl
  have X : CallFix p m c cX0_wipe 2 s args tb RX0 := X
  have hl : lv_has ls 2 [(0, .ref (q 1)), (1, .int x1)] := hl
  unfold f_X0_wipe at hF
  refine lv_iload_n X.1 X.2.1 dX0_wipe_0 rfl (lv_at hl 1 rfl) ?_
  obtain ⟨u1, h2, hF⟩ := fb_bnd hF
  refine cn_i (w := wC ty q) (σ := σ) (rest := []) X (fxC q) hI (m_X4_isSegment l D ty q σ _ x1 h2) ok_X4_isSegment hI.2.2.2.2.2.2.2.2.2.1 ⟨rfl, rfl, Nat.le_of_ble_eq_true rfl, Nat.le_of_ble_eq_true rfl⟩ rfl hl.1 rfl (Nat.le_of_ble_eq_true rfl) ⟨Nat.zero_le _, Nat.zero_le _⟩ dX0_wipe_1 (fun H locs hI => ?_)
  refine lv_if_eq (tgt := 14) X.1 X.2.1 dX0_wipe_4 (by decide) (fun c3 => ?_) (fun c3 => ?_)
  · replace hF := fb_pos c3 hF
    exact rt_v X hlk hr hI hF dX0_wipe_14
  · replace hF := fb_neg c3 hF
    refine lv_aload_n X.1 X.2.1 dX0_wipe_7 rfl (lv_at hl 0 rfl) ?_
    refine g_X0_lengths X hI dX0_wipe_8 ?_
    refine lv_iload_n X.1 X.2.1 dX0_wipe_11 rfl (lv_at hl 1 rfl) ?_
    refine lv_iconst (v := 0) X.1 X.2.1 dX0_wipe_12 (by decide) ?_
    obtain ⟨h4, hF⟩ := fb_chk hF
    refine sC_0 X hI h4 dX0_wipe_13 (fun H locs hI => ?_)
    exact rt_v X hlk hr hI hF dX0_wipe_14
abbrev rm_X0_byteAt : Room := { frames := 0, cells := 0, slots := 0, locals := 0 }
def f_X0_byteAt (x1 x2 : Int32) (σ : St) : Option Int32 :=
  if x1 < 0 then
    some 0
  else
    if 5 ≤ x1 then
      some 0
    else
      if x2 < 0 then
        some 0
      else
        if inB x1 5 = true then
          if (gA σ 0 x1) ≤ x2 then
            some 0
          else
            if inB x1 5 = true then
              if inB x2 80 = true then
                some (gA σ (10 + x1.toNatClampNeg) x2)
              else none
            else none
        else none
set_option maxHeartbeats 4000000 in
set_option maxRecDepth 100000 in
theorem m_X0_byteAt (l : Launch) (D : va_G) (ty : Nat → ClassId) (q : Nat → Nat) (σ : St) (sz : Nat) (x1 x2 : Int32) {rr : Int32} (hF : f_X0_byteAt x1 x2 σ = some rr) : Met l yX0_byteAt (wsy yX0_byteAt cX0_byteAt 4 (some .int)) rm_X0_byteAt (Pcw D ty (FxC q) (wC ty q σ) sz [.ref (q 1), .int x1, .int x2]) (Qiw D ty (wC ty q) (va_A (wC ty q σ) sz) (rr, σ)) 0 0 (va_A (wC ty q σ) sz) := by
  refine en_w (Qc := fun A => Qiw D ty (wC ty q) A (rr, σ)) (by decide) (Nat.le_of_ble_eq_true rfl) ?_
  intro p e s m args below meth c A X hlk hr _ H locs hI ls hl
  have X : CallFix p m c cX0_byteAt 4 s args tb RX0 := X
  have hl : lv_has ls 4 [(0, .ref (q 1)), (1, .int x1), (2, .int x2)] := hl
  unfold f_X0_byteAt at hF
  refine lv_iload_n X.1 X.2.1 dX0_byteAt_0 rfl (lv_at hl 1 rfl) ?_
  refine lv_if_lt (tgt := 27) X.1 X.2.1 dX0_byteAt_1 (by decide) (fun c1 => ?_) (fun c1 => ?_)
  · replace hF := fb_pos c1 hF
    refine lv_iconst (v := 0) X.1 X.2.1 dX0_byteAt_27 (by decide) ?_
    refine lv_istore_n (lv' := [(3, .int 0), (0, .ref (q 1)), (1, .int x1), (2, .int x2)]) X.1 X.2.1 dX0_byteAt_28 rfl hl (by decide) rfl (fun ls hl => ?_)
    refine lv_iload_n X.1 X.2.1 dX0_byteAt_29 rfl (lv_at hl 0 rfl) ?_
    refine lv_if_eq (tgt := 44) X.1 X.2.1 dX0_byteAt_30 (by decide) (fun _ => ?_) (fun c => absurd (by decide) c)
    refine lv_iconst (v := 0) X.1 X.2.1 dX0_byteAt_44 (by decide) ?_
    exact rt_i X hlk hr hI (fb_pr hF) dX0_byteAt_45
  · replace hF := fb_neg c1 hF
    refine lv_iload_n X.1 X.2.1 dX0_byteAt_4 rfl (lv_at hl 1 rfl) ?_
    refine lv_iconst (v := 5) X.1 X.2.1 dX0_byteAt_5 (by decide) ?_
    refine lv_icmp_ge (tgt := 27) X.1 X.2.1 dX0_byteAt_6 (by decide) (fun c2 => ?_) (fun c2 => ?_)
    · replace hF := fb_pos c2 hF
      refine lv_iconst (v := 0) X.1 X.2.1 dX0_byteAt_27 (by decide) ?_
      refine lv_istore_n (lv' := [(3, .int 0), (0, .ref (q 1)), (1, .int x1), (2, .int x2)]) X.1 X.2.1 dX0_byteAt_28 rfl hl (by decide) rfl (fun ls hl => ?_)
      refine lv_iload_n X.1 X.2.1 dX0_byteAt_29 rfl (lv_at hl 0 rfl) ?_
      refine lv_if_eq (tgt := 44) X.1 X.2.1 dX0_byteAt_30 (by decide) (fun _ => ?_) (fun c => absurd (by decide) c)
      refine lv_iconst (v := 0) X.1 X.2.1 dX0_byteAt_44 (by decide) ?_
      exact rt_i X hlk hr hI (fb_pr hF) dX0_byteAt_45
    · replace hF := fb_neg c2 hF
      refine lv_iload_n X.1 X.2.1 dX0_byteAt_9 rfl (lv_at hl 2 rfl) ?_
      refine lv_if_lt (tgt := 27) X.1 X.2.1 dX0_byteAt_10 (by decide) (fun c3 => ?_) (fun c3 => ?_)
      · replace hF := fb_pos c3 hF
        refine lv_iconst (v := 0) X.1 X.2.1 dX0_byteAt_27 (by decide) ?_
        refine lv_istore_n (lv' := [(3, .int 0), (0, .ref (q 1)), (1, .int x1), (2, .int x2)]) X.1 X.2.1 dX0_byteAt_28 rfl hl (by decide) rfl (fun ls hl => ?_)
        refine lv_iload_n X.1 X.2.1 dX0_byteAt_29 rfl (lv_at hl 0 rfl) ?_
        refine lv_if_eq (tgt := 44) X.1 X.2.1 dX0_byteAt_30 (by decide) (fun _ => ?_) (fun c => absurd (by decide) c)
        refine lv_iconst (v := 0) X.1 X.2.1 dX0_byteAt_44 (by decide) ?_
        exact rt_i X hlk hr hI (fb_pr hF) dX0_byteAt_45
      · replace hF := fb_neg c3 hF
        refine lv_iload_n X.1 X.2.1 dX0_byteAt_13 rfl (lv_at hl 2 rfl) ?_
        refine lv_aload_n X.1 X.2.1 dX0_byteAt_14 rfl (lv_at hl 0 rfl) ?_
        refine g_X0_lengths X hI dX0_byteAt_15 ?_
        refine lv_iload_n X.1 X.2.1 dX0_byteAt_18 rfl (lv_at hl 1 rfl) ?_
        obtain ⟨h4, hF⟩ := fb_chk hF
        refine aC_0 (v := gA σ 0 x1) X hI rfl h4 dX0_byteAt_19 ?_
        refine lv_icmp_ge (tgt := 27) X.1 X.2.1 dX0_byteAt_20 (by decide) (fun c5 => ?_) (fun c5 => ?_)
        · replace hF := fb_pos c5 hF
          refine lv_iconst (v := 0) X.1 X.2.1 dX0_byteAt_27 (by decide) ?_
          refine lv_istore_n (lv' := [(3, .int 0), (0, .ref (q 1)), (1, .int x1), (2, .int x2)]) X.1 X.2.1 dX0_byteAt_28 rfl hl (by decide) rfl (fun ls hl => ?_)
          refine lv_iload_n X.1 X.2.1 dX0_byteAt_29 rfl (lv_at hl 0 rfl) ?_
          refine lv_if_eq (tgt := 44) X.1 X.2.1 dX0_byteAt_30 (by decide) (fun _ => ?_) (fun c => absurd (by decide) c)
          refine lv_iconst (v := 0) X.1 X.2.1 dX0_byteAt_44 (by decide) ?_
          exact rt_i X hlk hr hI (fb_pr hF) dX0_byteAt_45
        · replace hF := fb_neg c5 hF
          refine lv_iconst (v := 1) X.1 X.2.1 dX0_byteAt_23 (by decide) ?_
          refine lv_goto (tgt := 28) X.1 X.2.1 dX0_byteAt_24 (by decide) ?_
          refine lv_istore_n (lv' := [(3, .int 1), (0, .ref (q 1)), (1, .int x1), (2, .int x2)]) X.1 X.2.1 dX0_byteAt_28 rfl hl (by decide) rfl (fun ls hl => ?_)
          refine lv_iload_n X.1 X.2.1 dX0_byteAt_29 rfl (lv_at hl 0 rfl) ?_
          refine lv_if_eq (tgt := 44) X.1 X.2.1 dX0_byteAt_30 (by decide) (fun c => absurd c (by decide)) (fun _ => ?_)
          refine lv_aload_n X.1 X.2.1 dX0_byteAt_33 rfl (lv_at hl 1 rfl) ?_
          refine g_X0_bytes X hI dX0_byteAt_34 ?_
          refine lv_iload_n X.1 X.2.1 dX0_byteAt_37 rfl (lv_at hl 2 rfl) ?_
          obtain ⟨h6, hF⟩ := fb_chk hF
          refine aC_row X hI h6 dX0_byteAt_38 ?_
          refine lv_iload_n X.1 X.2.1 dX0_byteAt_39 rfl (lv_at hl 3 rfl) ?_
          obtain ⟨h7, hF⟩ := fb_chk hF
          refine aC_byte (v := gA σ (10 + x1.toNatClampNeg) x2) X hI h6 rfl h7 dX0_byteAt_40 ?_
          refine lv_goto (tgt := 45) X.1 X.2.1 dX0_byteAt_41 (by decide) ?_
          exact rt_i X hlk hr hI (fb_pr hF) dX0_byteAt_45
abbrev rm_X0_proceduresOf : Room := { frames := 1, cells := 0, slots := 0, locals := 23 }
def b_X0_proceduresOf_21 : Nat → Int32 → Int32 → Int32 → St → Option Int32
  | 0, _, _, _, _ => none
  | n + 1, x1, x2, x3, σ =>
    if x2 < x3 then
      some x2
    else
      (f_X0_byteAt x1 x3 σ).bind fun u6 =>
      if (u6 &&& 255) ≤ x2 then
        some 0
      else
        (f_X0_lengthOf x1 σ).bind fun u9 =>
        if (u6 &&& 255) < u9 then
          b_X0_proceduresOf_21 n x1 x2 (x3 + 1) σ
        else
          some 0
set_option maxHeartbeats 4000000 in
set_option maxRecDepth 100000 in
theorem w_b_X0_proceduresOf_21 {l : Launch} {p : Program} {e : Env} {s : State} {m : MethodId} {args : Array Value} {below : List Frame} {meth : Method} {c : Code} {A : Nat → Prop} {D : va_G} {ty : Nat → ClassId} {q : Nat → Nat} {rr : Int32} (X : CallFix p m c cX0_proceduresOf 5 s args tb RX0) (hlk : meth.locks = false) (hr : meth.sig.returnType = (some .int)) : ∀ (n : Nat) (x1 x2 x3 : Int32) (σ : St) (H : Heap) (locs : List Loc) (ls : Array Slot), b_X0_proceduresOf_21 n x1 x2 x3 σ = some rr → Inw D ty (FxC q) (wC ty q σ) A s H locs → lv_has ls 5 [(0, .ref (q 1)), (1, .int x1), (2, .int x2), (3, .int x3)] → W p l e rm_X0_proceduresOf s m args below meth c H locs 0 0 (MQ below (Qiw D ty (wC ty q) A (rr, σ)) args s 0 0 A) (F0 m 21 ls []) := by
  intro n
  induction n with
  | zero =>
    intro x1 x2 x3 σ H locs ls hF
    cases hF
  | succ n ih =>
    intro x1 x2 x3 σ H locs ls hF hI hl
    rw [b_X0_proceduresOf_21] at hF
    refine lv_iload_n X.1 X.2.1 dX0_proceduresOf_21 rfl (lv_at hl 3 rfl) ?_
    refine lv_iload_n X.1 X.2.1 dX0_proceduresOf_22 rfl (lv_at hl 2 rfl) ?_
    refine lv_icmp_gt (tgt := 62) X.1 X.2.1 dX0_proceduresOf_23 (by decide) (fun c5 => ?_) (fun c5 => ?_)
    · replace hF := fb_pos c5 hF
      refine lv_iload_n X.1 X.2.1 dX0_proceduresOf_62 rfl (lv_at hl 2 rfl) ?_
      exact rt_i X hlk hr hI (fb_pr hF) dX0_proceduresOf_63
    · replace hF := fb_neg c5 hF
      refine lv_aload_n X.1 X.2.1 dX0_proceduresOf_26 rfl (lv_at hl 0 rfl) ?_
      refine lv_iload_n X.1 X.2.1 dX0_proceduresOf_27 rfl (lv_at hl 1 rfl) ?_
      refine lv_iload_n X.1 X.2.1 dX0_proceduresOf_28 rfl (lv_at hl 3 rfl) ?_
      obtain ⟨u6, h7, hF⟩ := fb_bnd hF
      refine cl_i (w := wC ty q) (σ := σ) (rest := []) X (fxC q) hI (m_X0_byteAt l D ty q σ _ x1 x3 h7) ok_X0_byteAt ml_X0_28 ⟨rfl, rfl, Nat.le_of_ble_eq_true rfl, Nat.le_of_ble_eq_true rfl⟩ 1 rc_X0 rfl rfl hl.1 rfl (Nat.le_of_ble_eq_true rfl) ⟨Nat.zero_le _, Nat.zero_le _⟩ dX0_proceduresOf_29 (fun H locs hI => ?_)
      refine lv_sipush (v := 255) X.1 X.2.1 dX0_proceduresOf_32 (by decide) ?_
      refine lv_iand X.1 X.2.1 dX0_proceduresOf_35 ?_
      refine lv_istore (lv' := [(4, .int (u6 &&& 255)), (0, .ref (q 1)), (1, .int x1), (2, .int x2), (3, .int x3)]) X.1 X.2.1 dX0_proceduresOf_36 hl (by decide) rfl (fun ls hl => ?_)
      refine lv_iload X.1 X.2.1 dX0_proceduresOf_38 (lv_at hl 0 rfl) ?_
      refine lv_iload_n X.1 X.2.1 dX0_proceduresOf_40 rfl (lv_at hl 3 rfl) ?_
      refine lv_icmp_le (tgt := 54) X.1 X.2.1 dX0_proceduresOf_41 (by decide) (fun c8 => ?_) (fun c8 => ?_)
      · replace hF := fb_pos c8 hF
        refine lv_iconst (v := 0) X.1 X.2.1 dX0_proceduresOf_54 (by decide) ?_
        exact rt_i X hlk hr hI (fb_pr hF) dX0_proceduresOf_55
      · replace hF := fb_neg c8 hF
        refine lv_iload X.1 X.2.1 dX0_proceduresOf_44 (lv_at hl 0 rfl) ?_
        refine lv_aload_n X.1 X.2.1 dX0_proceduresOf_46 rfl (lv_at hl 1 rfl) ?_
        refine lv_iload_n X.1 X.2.1 dX0_proceduresOf_47 rfl (lv_at hl 2 rfl) ?_
        obtain ⟨u9, h10, hF⟩ := fb_bnd hF
        refine cl_i (w := wC ty q) (σ := σ) (rest := [.int (u6 &&& 255)]) X (fxC q) hI (m_X0_lengthOf l D ty q σ _ x1 h10) ok_X0_lengthOf ml_X0_20 ⟨rfl, rfl, Nat.le_of_ble_eq_true rfl, Nat.le_of_ble_eq_true rfl⟩ 1 rc_X0 rfl rfl hl.1 rfl (Nat.le_of_ble_eq_true rfl) ⟨Nat.zero_le _, Nat.zero_le _⟩ dX0_proceduresOf_48 (fun H locs hI => ?_)
        refine lv_icmp_lt (tgt := 56) X.1 X.2.1 dX0_proceduresOf_51 (by decide) (fun c11 => ?_) (fun c11 => ?_)
        · replace hF := fb_pos c11 hF
          refine lv_iinc (v := x3 + 1) (lv' := [(3, .int (x3 + 1)), (4, .int (u6 &&& 255)), (0, .ref (q 1)), (1, .int x1), (2, .int x2)]) X.1 X.2.1 dX0_proceduresOf_56 hl (k := 4) rfl rfl (by decide) rfl (fun ls hl => ?_)
          refine lv_goto (tgt := 21) X.1 X.2.1 dX0_proceduresOf_59 (by decide) ?_
          exact ih x1 x2 (x3 + 1) _ _ _ ls hF hI (lv_sub hl [2, 3, 4, 0] rfl)
        · replace hF := fb_neg c11 hF
          refine lv_iconst (v := 0) X.1 X.2.1 dX0_proceduresOf_54 (by decide) ?_
          exact rt_i X hlk hr hI (fb_pr hF) dX0_proceduresOf_55
def f_X0_proceduresOf (x1 : Int32) (σ : St) : Option Int32 :=
  (f_X0_byteAt x1 0 σ).bind fun u1 =>
  if u1 < 1 then
    some 0
  else
    if u1 ≤ 4 then
      b_X0_proceduresOf_21 6 x1 u1 1 σ
    else
      some 0
set_option maxHeartbeats 4000000 in
set_option maxRecDepth 100000 in
theorem m_X0_proceduresOf (l : Launch) (D : va_G) (ty : Nat → ClassId) (q : Nat → Nat) (σ : St) (sz : Nat) (x1 : Int32) {rr : Int32} (hF : f_X0_proceduresOf x1 σ = some rr) : Met l yX0_proceduresOf (wsy yX0_proceduresOf cX0_proceduresOf 5 (some .int)) rm_X0_proceduresOf (Pcw D ty (FxC q) (wC ty q σ) sz [.ref (q 1), .int x1]) (Qiw D ty (wC ty q) (va_A (wC ty q σ) sz) (rr, σ)) 0 0 (va_A (wC ty q σ) sz) := by
  refine en_w (Qc := fun A => Qiw D ty (wC ty q) A (rr, σ)) (by decide) (Nat.le_of_ble_eq_true rfl) ?_
  intro p e s m args below meth c A X hlk hr _ H locs hI ls hl
  have X : CallFix p m c cX0_proceduresOf 5 s args tb RX0 := X
  have hl : lv_has ls 5 [(0, .ref (q 1)), (1, .int x1)] := hl
  unfold f_X0_proceduresOf at hF
  refine lv_aload_n X.1 X.2.1 dX0_proceduresOf_0 rfl (lv_at hl 0 rfl) ?_
  refine lv_iload_n X.1 X.2.1 dX0_proceduresOf_1 rfl (lv_at hl 1 rfl) ?_
  refine lv_iconst (v := 0) X.1 X.2.1 dX0_proceduresOf_2 (by decide) ?_
  obtain ⟨u1, h2, hF⟩ := fb_bnd hF
  refine cl_i (w := wC ty q) (σ := σ) (rest := []) X (fxC q) hI (m_X0_byteAt l D ty q σ _ x1 0 h2) ok_X0_byteAt ml_X0_28 ⟨rfl, rfl, Nat.le_of_ble_eq_true rfl, Nat.le_of_ble_eq_true rfl⟩ 1 rc_X0 rfl rfl hl.1 rfl (Nat.le_of_ble_eq_true rfl) ⟨Nat.zero_le _, Nat.zero_le _⟩ dX0_proceduresOf_3 (fun H locs hI => ?_)
  refine lv_istore_n (lv' := [(2, .int u1), (0, .ref (q 1)), (1, .int x1)]) X.1 X.2.1 dX0_proceduresOf_6 rfl hl (by decide) rfl (fun ls hl => ?_)
  refine lv_iload_n X.1 X.2.1 dX0_proceduresOf_7 rfl (lv_at hl 0 rfl) ?_
  refine lv_iconst (v := 1) X.1 X.2.1 dX0_proceduresOf_8 (by decide) ?_
  refine lv_icmp_lt (tgt := 17) X.1 X.2.1 dX0_proceduresOf_9 (by decide) (fun c3 => ?_) (fun c3 => ?_)
  · replace hF := fb_pos c3 hF
    refine lv_iconst (v := 0) X.1 X.2.1 dX0_proceduresOf_17 (by decide) ?_
    exact rt_i X hlk hr hI (fb_pr hF) dX0_proceduresOf_18
  · replace hF := fb_neg c3 hF
    refine lv_iload_n X.1 X.2.1 dX0_proceduresOf_12 rfl (lv_at hl 0 rfl) ?_
    refine lv_iconst (v := 4) X.1 X.2.1 dX0_proceduresOf_13 (by decide) ?_
    refine lv_icmp_le (tgt := 19) X.1 X.2.1 dX0_proceduresOf_14 (by decide) (fun c4 => ?_) (fun c4 => ?_)
    · replace hF := fb_pos c4 hF
      refine lv_iconst (v := 1) X.1 X.2.1 dX0_proceduresOf_19 (by decide) ?_
      refine lv_istore_n (lv' := [(3, .int 1), (2, .int u1), (0, .ref (q 1)), (1, .int x1)]) X.1 X.2.1 dX0_proceduresOf_20 rfl hl (by decide) rfl (fun ls hl => ?_)
      exact w_b_X0_proceduresOf_21 X hlk hr 6 x1 u1 1 _ _ _ ls hF hI (lv_sub hl [2, 3, 1, 0] rfl)
    · replace hF := fb_neg c4 hF
      refine lv_iconst (v := 0) X.1 X.2.1 dX0_proceduresOf_17 (by decide) ?_
      exact rt_i X hlk hr hI (fb_pr hF) dX0_proceduresOf_18
abbrev rm_X0_beginOf : Room := { frames := 1, cells := 0, slots := 0, locals := 23 }
def f_X0_beginOf (x1 x2 : Int32) (σ : St) : Option Int32 :=
  (f_X0_byteAt x1 (x2 + 1) σ).bind fun u1 =>
  some (u1 &&& 255)
set_option maxHeartbeats 4000000 in
set_option maxRecDepth 100000 in
theorem m_X0_beginOf (l : Launch) (D : va_G) (ty : Nat → ClassId) (q : Nat → Nat) (σ : St) (sz : Nat) (x1 x2 : Int32) {rr : Int32} (hF : f_X0_beginOf x1 x2 σ = some rr) : Met l yX0_beginOf (wsy yX0_beginOf cX0_beginOf 3 (some .int)) rm_X0_beginOf (Pcw D ty (FxC q) (wC ty q σ) sz [.ref (q 1), .int x1, .int x2]) (Qiw D ty (wC ty q) (va_A (wC ty q σ) sz) (rr, σ)) 0 0 (va_A (wC ty q σ) sz) := by
  refine en_w (Qc := fun A => Qiw D ty (wC ty q) A (rr, σ)) (by decide) (Nat.le_of_ble_eq_true rfl) ?_
  intro p e s m args below meth c A X hlk hr _ H locs hI ls hl
  have X : CallFix p m c cX0_beginOf 3 s args tb RX0 := X
  have hl : lv_has ls 3 [(0, .ref (q 1)), (1, .int x1), (2, .int x2)] := hl
  unfold f_X0_beginOf at hF
  refine lv_aload_n X.1 X.2.1 dX0_beginOf_0 rfl (lv_at hl 0 rfl) ?_
  refine lv_iload_n X.1 X.2.1 dX0_beginOf_1 rfl (lv_at hl 1 rfl) ?_
  refine lv_iload_n X.1 X.2.1 dX0_beginOf_2 rfl (lv_at hl 2 rfl) ?_
  refine lv_iconst (v := 1) X.1 X.2.1 dX0_beginOf_3 (by decide) ?_
  refine lv_iadd X.1 X.2.1 dX0_beginOf_4 ?_
  obtain ⟨u1, h2, hF⟩ := fb_bnd hF
  refine cl_i (w := wC ty q) (σ := σ) (rest := []) X (fxC q) hI (m_X0_byteAt l D ty q σ _ x1 (x2 + 1) h2) ok_X0_byteAt ml_X0_28 ⟨rfl, rfl, Nat.le_of_ble_eq_true rfl, Nat.le_of_ble_eq_true rfl⟩ 1 rc_X0 rfl rfl hl.1 rfl (Nat.le_of_ble_eq_true rfl) ⟨Nat.zero_le _, Nat.zero_le _⟩ dX0_beginOf_5 (fun H locs hI => ?_)
  refine lv_sipush (v := 255) X.1 X.2.1 dX0_beginOf_8 (by decide) ?_
  refine lv_iand X.1 X.2.1 dX0_beginOf_11 ?_
  exact rt_i X hlk hr hI (fb_pr hF) dX0_beginOf_12
abbrev rm_X0_localsOf : Room := { frames := 2, cells := 0, slots := 0, locals := 47 }
def f_X0_localsOf (x1 x2 : Int32) (σ : St) : Option Int32 :=
  if x2 < 0 then
    some (-1)
  else
    (f_X0_proceduresOf x1 σ).bind fun u2 =>
    if x2 < u2 then
      (f_X0_beginOf x1 x2 σ).bind fun u5 =>
      (f_X0_byteAt x1 u5 σ).bind fun u7 =>
      if u7 < 0 then
        some (-1)
      else
        if 6 < u7 then
          some (-1)
        else
          some u7
    else
      some (-1)
set_option maxHeartbeats 4000000 in
set_option maxRecDepth 100000 in
theorem m_X0_localsOf (l : Launch) (D : va_G) (ty : Nat → ClassId) (q : Nat → Nat) (σ : St) (sz : Nat) (x1 x2 : Int32) {rr : Int32} (hF : f_X0_localsOf x1 x2 σ = some rr) : Met l yX0_localsOf (wsy yX0_localsOf cX0_localsOf 4 (some .int)) rm_X0_localsOf (Pcw D ty (FxC q) (wC ty q σ) sz [.ref (q 1), .int x1, .int x2]) (Qiw D ty (wC ty q) (va_A (wC ty q σ) sz) (rr, σ)) 0 0 (va_A (wC ty q σ) sz) := by
  refine en_w (Qc := fun A => Qiw D ty (wC ty q) A (rr, σ)) (by decide) (Nat.le_of_ble_eq_true rfl) ?_
  intro p e s m args below meth c A X hlk hr _ H locs hI ls hl
  have X : CallFix p m c cX0_localsOf 4 s args tb RX0 := X
  have hl : lv_has ls 4 [(0, .ref (q 1)), (1, .int x1), (2, .int x2)] := hl
  unfold f_X0_localsOf at hF
  refine lv_iload_n X.1 X.2.1 dX0_localsOf_0 rfl (lv_at hl 2 rfl) ?_
  refine lv_if_lt (tgt := 13) X.1 X.2.1 dX0_localsOf_1 (by decide) (fun c1 => ?_) (fun c1 => ?_)
  · replace hF := fb_pos c1 hF
    refine lv_iconst (v := (-1)) X.1 X.2.1 dX0_localsOf_13 (by decide) ?_
    exact rt_i X hlk hr hI (fb_pr hF) dX0_localsOf_14
  · replace hF := fb_neg c1 hF
    refine lv_iload_n X.1 X.2.1 dX0_localsOf_4 rfl (lv_at hl 2 rfl) ?_
    refine lv_aload_n X.1 X.2.1 dX0_localsOf_5 rfl (lv_at hl 0 rfl) ?_
    refine lv_iload_n X.1 X.2.1 dX0_localsOf_6 rfl (lv_at hl 1 rfl) ?_
    obtain ⟨u2, h3, hF⟩ := fb_bnd hF
    refine cl_i (w := wC ty q) (σ := σ) (rest := [.int x2]) X (fxC q) hI (m_X0_proceduresOf l D ty q σ _ x1 h3) ok_X0_proceduresOf ml_X0_32 ⟨rfl, rfl, Nat.le_of_ble_eq_true rfl, Nat.le_of_ble_eq_true rfl⟩ 1 rc_X0 rfl rfl hl.1 rfl (Nat.le_of_ble_eq_true rfl) ⟨Nat.zero_le _, Nat.zero_le _⟩ dX0_localsOf_7 (fun H locs hI => ?_)
    refine lv_icmp_lt (tgt := 15) X.1 X.2.1 dX0_localsOf_10 (by decide) (fun c4 => ?_) (fun c4 => ?_)
    · replace hF := fb_pos c4 hF
      refine lv_aload_n X.1 X.2.1 dX0_localsOf_15 rfl (lv_at hl 0 rfl) ?_
      refine lv_iload_n X.1 X.2.1 dX0_localsOf_16 rfl (lv_at hl 1 rfl) ?_
      refine lv_aload_n X.1 X.2.1 dX0_localsOf_17 rfl (lv_at hl 0 rfl) ?_
      refine lv_iload_n X.1 X.2.1 dX0_localsOf_18 rfl (lv_at hl 1 rfl) ?_
      refine lv_iload_n X.1 X.2.1 dX0_localsOf_19 rfl (lv_at hl 2 rfl) ?_
      obtain ⟨u5, h6, hF⟩ := fb_bnd hF
      refine cl_i (w := wC ty q) (σ := σ) (rest := [.int x1, .ref (q 1)]) X (fxC q) hI (m_X0_beginOf l D ty q σ _ x1 x2 h6) ok_X0_beginOf ml_X0_35 ⟨rfl, rfl, Nat.le_of_ble_eq_true rfl, Nat.le_of_ble_eq_true rfl⟩ 1 rc_X0 rfl rfl hl.1 rfl (Nat.le_of_ble_eq_true rfl) ⟨Nat.zero_le _, Nat.zero_le _⟩ dX0_localsOf_20 (fun H locs hI => ?_)
      obtain ⟨u7, h8, hF⟩ := fb_bnd hF
      refine cl_i (w := wC ty q) (σ := σ) (rest := []) X (fxC q) hI (m_X0_byteAt l D ty q σ _ x1 u5 h8) ok_X0_byteAt ml_X0_28 ⟨rfl, rfl, Nat.le_of_ble_eq_true rfl, Nat.le_of_ble_eq_true rfl⟩ 1 rc_X0 rfl rfl hl.1 rfl (Nat.le_of_ble_eq_true rfl) ⟨Nat.zero_le _, Nat.zero_le _⟩ dX0_localsOf_23 (fun H locs hI => ?_)
      refine lv_istore_n (lv' := [(3, .int u7), (0, .ref (q 1)), (1, .int x1), (2, .int x2)]) X.1 X.2.1 dX0_localsOf_26 rfl hl (by decide) rfl (fun ls hl => ?_)
      refine lv_iload_n X.1 X.2.1 dX0_localsOf_27 rfl (lv_at hl 0 rfl) ?_
      refine lv_if_lt (tgt := 41) X.1 X.2.1 dX0_localsOf_28 (by decide) (fun c9 => ?_) (fun c9 => ?_)
      · replace hF := fb_pos c9 hF
        refine lv_iconst (v := (-1)) X.1 X.2.1 dX0_localsOf_41 (by decide) ?_
        exact rt_i X hlk hr hI (fb_pr hF) dX0_localsOf_42
      · replace hF := fb_neg c9 hF
        refine lv_iload_n X.1 X.2.1 dX0_localsOf_31 rfl (lv_at hl 0 rfl) ?_
        refine lv_bipush (v := 6) X.1 X.2.1 dX0_localsOf_32 (by decide) ?_
        refine lv_icmp_gt (tgt := 41) X.1 X.2.1 dX0_localsOf_34 (by decide) (fun c10 => ?_) (fun c10 => ?_)
        · replace hF := fb_pos c10 hF
          refine lv_iconst (v := (-1)) X.1 X.2.1 dX0_localsOf_41 (by decide) ?_
          exact rt_i X hlk hr hI (fb_pr hF) dX0_localsOf_42
        · replace hF := fb_neg c10 hF
          refine lv_iload_n X.1 X.2.1 dX0_localsOf_37 rfl (lv_at hl 0 rfl) ?_
          refine lv_goto (tgt := 42) X.1 X.2.1 dX0_localsOf_38 (by decide) ?_
          exact rt_i X hlk hr hI (fb_pr hF) dX0_localsOf_42
    · replace hF := fb_neg c4 hF
      refine lv_iconst (v := (-1)) X.1 X.2.1 dX0_localsOf_13 (by decide) ?_
      exact rt_i X hlk hr hI (fb_pr hF) dX0_localsOf_14
end
section
abbrev rm_X1_empty : Room := { frames := 0, cells := 0, slots := 0, locals := 0 }
def f_X1_empty (σ : St) : Option (Int32 × St) :=
  some (0, sI (sI σ 9 0) 10 0)
set_option maxHeartbeats 4000000 in
set_option maxRecDepth 100000 in
theorem m_X1_empty (l : Launch) (D : va_G) (ty : Nat → ClassId) (q : Nat → Nat) (σ : St) (sz : Nat) {res : Int32 × St} (hF : f_X1_empty  σ = some res) : Met l yX1_empty (wsy yX1_empty cX1_empty 1 none) rm_X1_empty (Pcw D ty (FxC q) (wC ty q σ) sz [.ref (q 4)]) (Qvw D ty (wC ty q) (va_A (wC ty q σ) sz) res) 0 0 (va_A (wC ty q σ) sz) := by
  refine en_w (Qc := fun A => Qvw D ty (wC ty q) A res) (by decide) (Nat.le_of_ble_eq_true rfl) ?_
  intro p e s m args below meth c A X hlk hr _ H locs hI ls hl
  have X : CallFix p m c cX1_empty 1 s args tb RX1 := X
  have hl : lv_has ls 1 [(0, .ref (q 4))] := hl
  unfold f_X1_empty at hF
  refine lv_aload_n X.1 X.2.1 dX1_empty_0 rfl (lv_at hl 0 rfl) ?_
  refine lv_iconst (v := 0) X.1 X.2.1 dX1_empty_1 (by decide) ?_
  refine p_X1_count X hI dX1_empty_2 (fun H locs hI => ?_)
  refine lv_aload_n X.1 X.2.1 dX1_empty_5 rfl (lv_at hl 0 rfl) ?_
  refine lv_iconst (v := 0) X.1 X.2.1 dX1_empty_6 (by decide) ?_
  refine p_X1_usedWords X hI dX1_empty_7 (fun H locs hI => ?_)
  exact rt_v X hlk hr hI hF dX1_empty_10
abbrev rm_X1_count : Room := { frames := 0, cells := 0, slots := 0, locals := 0 }
def f_X1_count (σ : St) : Option Int32 :=
  some (gI σ 9)
set_option maxHeartbeats 4000000 in
set_option maxRecDepth 100000 in
theorem m_X1_count (l : Launch) (D : va_G) (ty : Nat → ClassId) (q : Nat → Nat) (σ : St) (sz : Nat) {rr : Int32} (hF : f_X1_count  σ = some rr) : Met l yX1_count (wsy yX1_count cX1_count 1 (some .int)) rm_X1_count (Pcw D ty (FxC q) (wC ty q σ) sz [.ref (q 4)]) (Qiw D ty (wC ty q) (va_A (wC ty q σ) sz) (rr, σ)) 0 0 (va_A (wC ty q σ) sz) := by
  refine en_w (Qc := fun A => Qiw D ty (wC ty q) A (rr, σ)) (by decide) (Nat.le_of_ble_eq_true rfl) ?_
  intro p e s m args below meth c A X hlk hr _ H locs hI ls hl
  have X : CallFix p m c cX1_count 1 s args tb RX1 := X
  have hl : lv_has ls 1 [(0, .ref (q 4))] := hl
  unfold f_X1_count at hF
  refine lv_aload_n X.1 X.2.1 dX1_count_0 rfl (lv_at hl 0 rfl) ?_
  refine g_X1_count (v := gI σ 9) X hI rfl dX1_count_1 ?_
  exact rt_i X hlk hr hI (fb_pr hF) dX1_count_4
abbrev rm_X1_latestSegment : Room := { frames := 0, cells := 0, slots := 0, locals := 0 }
def f_X1_latestSegment (σ : St) : Option Int32 :=
  if (gI σ 9) ≤ 0 then
    some (-1)
  else
    if inB ((gI σ 9) - 1) 500 = true then
      some (gA σ 5 ((gI σ 9) - 1))
    else none
set_option maxHeartbeats 4000000 in
set_option maxRecDepth 100000 in
theorem m_X1_latestSegment (l : Launch) (D : va_G) (ty : Nat → ClassId) (q : Nat → Nat) (σ : St) (sz : Nat) {rr : Int32} (hF : f_X1_latestSegment  σ = some rr) : Met l yX1_latestSegment (wsy yX1_latestSegment cX1_latestSegment 1 (some .int)) rm_X1_latestSegment (Pcw D ty (FxC q) (wC ty q σ) sz [.ref (q 4)]) (Qiw D ty (wC ty q) (va_A (wC ty q σ) sz) (rr, σ)) 0 0 (va_A (wC ty q σ) sz) := by
  refine en_w (Qc := fun A => Qiw D ty (wC ty q) A (rr, σ)) (by decide) (Nat.le_of_ble_eq_true rfl) ?_
  intro p e s m args below meth c A X hlk hr _ H locs hI ls hl
  have X : CallFix p m c cX1_latestSegment 1 s args tb RX1 := X
  have hl : lv_has ls 1 [(0, .ref (q 4))] := hl
  unfold f_X1_latestSegment at hF
  refine lv_aload_n X.1 X.2.1 dX1_latestSegment_0 rfl (lv_at hl 0 rfl) ?_
  refine g_X1_count (v := gI σ 9) X hI rfl dX1_latestSegment_1 ?_
  refine lv_if_le (tgt := 21) X.1 X.2.1 dX1_latestSegment_4 (by decide) (fun c1 => ?_) (fun c1 => ?_)
  · replace hF := fb_pos c1 hF
    refine lv_iconst (v := (-1)) X.1 X.2.1 dX1_latestSegment_21 (by decide) ?_
    exact rt_i X hlk hr hI (fb_pr hF) dX1_latestSegment_22
  · replace hF := fb_neg c1 hF
    refine lv_aload_n X.1 X.2.1 dX1_latestSegment_7 rfl (lv_at hl 0 rfl) ?_
    refine g_X1_segments X hI dX1_latestSegment_8 ?_
    refine lv_aload_n X.1 X.2.1 dX1_latestSegment_11 rfl (lv_at hl 0 rfl) ?_
    refine g_X1_count (v := gI σ 9) X hI rfl dX1_latestSegment_12 ?_
    refine lv_iconst (v := 1) X.1 X.2.1 dX1_latestSegment_15 (by decide) ?_
    refine lv_isub X.1 X.2.1 dX1_latestSegment_16 ?_
    obtain ⟨h2, hF⟩ := fb_chk hF
    refine aC_5 (v := gA σ 5 ((gI σ 9) - 1)) X hI rfl h2 dX1_latestSegment_17 ?_
    refine lv_goto (tgt := 22) X.1 X.2.1 dX1_latestSegment_18 (by decide) ?_
    exact rt_i X hlk hr hI (fb_pr hF) dX1_latestSegment_22
abbrev rm_X1_latestPlace : Room := { frames := 0, cells := 0, slots := 0, locals := 0 }
def f_X1_latestPlace (σ : St) : Option Int32 :=
  if (gI σ 9) ≤ 0 then
    some (-1)
  else
    if inB ((gI σ 9) - 1) 500 = true then
      some (gA σ 6 ((gI σ 9) - 1))
    else none
set_option maxHeartbeats 4000000 in
set_option maxRecDepth 100000 in
theorem m_X1_latestPlace (l : Launch) (D : va_G) (ty : Nat → ClassId) (q : Nat → Nat) (σ : St) (sz : Nat) {rr : Int32} (hF : f_X1_latestPlace  σ = some rr) : Met l yX1_latestPlace (wsy yX1_latestPlace cX1_latestPlace 1 (some .int)) rm_X1_latestPlace (Pcw D ty (FxC q) (wC ty q σ) sz [.ref (q 4)]) (Qiw D ty (wC ty q) (va_A (wC ty q σ) sz) (rr, σ)) 0 0 (va_A (wC ty q σ) sz) := by
  refine en_w (Qc := fun A => Qiw D ty (wC ty q) A (rr, σ)) (by decide) (Nat.le_of_ble_eq_true rfl) ?_
  intro p e s m args below meth c A X hlk hr _ H locs hI ls hl
  have X : CallFix p m c cX1_latestPlace 1 s args tb RX1 := X
  have hl : lv_has ls 1 [(0, .ref (q 4))] := hl
  unfold f_X1_latestPlace at hF
  refine lv_aload_n X.1 X.2.1 dX1_latestPlace_0 rfl (lv_at hl 0 rfl) ?_
  refine g_X1_count (v := gI σ 9) X hI rfl dX1_latestPlace_1 ?_
  refine lv_if_le (tgt := 21) X.1 X.2.1 dX1_latestPlace_4 (by decide) (fun c1 => ?_) (fun c1 => ?_)
  · replace hF := fb_pos c1 hF
    refine lv_iconst (v := (-1)) X.1 X.2.1 dX1_latestPlace_21 (by decide) ?_
    exact rt_i X hlk hr hI (fb_pr hF) dX1_latestPlace_22
  · replace hF := fb_neg c1 hF
    refine lv_aload_n X.1 X.2.1 dX1_latestPlace_7 rfl (lv_at hl 0 rfl) ?_
    refine g_X1_places X hI dX1_latestPlace_8 ?_
    refine lv_aload_n X.1 X.2.1 dX1_latestPlace_11 rfl (lv_at hl 0 rfl) ?_
    refine g_X1_count (v := gI σ 9) X hI rfl dX1_latestPlace_12 ?_
    refine lv_iconst (v := 1) X.1 X.2.1 dX1_latestPlace_15 (by decide) ?_
    refine lv_isub X.1 X.2.1 dX1_latestPlace_16 ?_
    obtain ⟨h2, hF⟩ := fb_chk hF
    refine aC_6 (v := gA σ 6 ((gI σ 9) - 1)) X hI rfl h2 dX1_latestPlace_17 ?_
    refine lv_goto (tgt := 22) X.1 X.2.1 dX1_latestPlace_18 (by decide) ?_
    exact rt_i X hlk hr hI (fb_pr hF) dX1_latestPlace_22
abbrev rm_X1_latestLocals : Room := { frames := 0, cells := 0, slots := 0, locals := 0 }
def f_X1_latestLocals (σ : St) : Option Int32 :=
  if (gI σ 9) ≤ 0 then
    some 0
  else
    if inB ((gI σ 9) - 1) 500 = true then
      some (gA σ 7 ((gI σ 9) - 1))
    else none
set_option maxHeartbeats 4000000 in
set_option maxRecDepth 100000 in
theorem m_X1_latestLocals (l : Launch) (D : va_G) (ty : Nat → ClassId) (q : Nat → Nat) (σ : St) (sz : Nat) {rr : Int32} (hF : f_X1_latestLocals  σ = some rr) : Met l yX1_latestLocals (wsy yX1_latestLocals cX1_latestLocals 1 (some .int)) rm_X1_latestLocals (Pcw D ty (FxC q) (wC ty q σ) sz [.ref (q 4)]) (Qiw D ty (wC ty q) (va_A (wC ty q σ) sz) (rr, σ)) 0 0 (va_A (wC ty q σ) sz) := by
  refine en_w (Qc := fun A => Qiw D ty (wC ty q) A (rr, σ)) (by decide) (Nat.le_of_ble_eq_true rfl) ?_
  intro p e s m args below meth c A X hlk hr _ H locs hI ls hl
  have X : CallFix p m c cX1_latestLocals 1 s args tb RX1 := X
  have hl : lv_has ls 1 [(0, .ref (q 4))] := hl
  unfold f_X1_latestLocals at hF
  refine lv_aload_n X.1 X.2.1 dX1_latestLocals_0 rfl (lv_at hl 0 rfl) ?_
  refine g_X1_count (v := gI σ 9) X hI rfl dX1_latestLocals_1 ?_
  refine lv_if_le (tgt := 21) X.1 X.2.1 dX1_latestLocals_4 (by decide) (fun c1 => ?_) (fun c1 => ?_)
  · replace hF := fb_pos c1 hF
    refine lv_iconst (v := 0) X.1 X.2.1 dX1_latestLocals_21 (by decide) ?_
    exact rt_i X hlk hr hI (fb_pr hF) dX1_latestLocals_22
  · replace hF := fb_neg c1 hF
    refine lv_aload_n X.1 X.2.1 dX1_latestLocals_7 rfl (lv_at hl 0 rfl) ?_
    refine g_X1_localCounts X hI dX1_latestLocals_8 ?_
    refine lv_aload_n X.1 X.2.1 dX1_latestLocals_11 rfl (lv_at hl 0 rfl) ?_
    refine g_X1_count (v := gI σ 9) X hI rfl dX1_latestLocals_12 ?_
    refine lv_iconst (v := 1) X.1 X.2.1 dX1_latestLocals_15 (by decide) ?_
    refine lv_isub X.1 X.2.1 dX1_latestLocals_16 ?_
    obtain ⟨h2, hF⟩ := fb_chk hF
    refine aC_7 (v := gA σ 7 ((gI σ 9) - 1)) X hI rfl h2 dX1_latestLocals_17 ?_
    refine lv_goto (tgt := 22) X.1 X.2.1 dX1_latestLocals_18 (by decide) ?_
    exact rt_i X hlk hr hI (fb_pr hF) dX1_latestLocals_22
abbrev rm_X1_depth : Room := { frames := 0, cells := 0, slots := 0, locals := 0 }
def f_X1_depth (σ : St) : Option Int32 :=
  if (gI σ 9) ≤ 0 then
    some 0
  else
    if inB ((gI σ 9) - 1) 500 = true then
      if inB ((gI σ 9) - 1) 500 = true then
        some (((gI σ 10) - (gA σ 8 ((gI σ 9) - 1))) - (gA σ 7 ((gI σ 9) - 1)))
      else none
    else none
set_option maxHeartbeats 4000000 in
set_option maxRecDepth 100000 in
theorem m_X1_depth (l : Launch) (D : va_G) (ty : Nat → ClassId) (q : Nat → Nat) (σ : St) (sz : Nat) {rr : Int32} (hF : f_X1_depth  σ = some rr) : Met l yX1_depth (wsy yX1_depth cX1_depth 1 (some .int)) rm_X1_depth (Pcw D ty (FxC q) (wC ty q σ) sz [.ref (q 4)]) (Qiw D ty (wC ty q) (va_A (wC ty q σ) sz) (rr, σ)) 0 0 (va_A (wC ty q σ) sz) := by
  refine en_w (Qc := fun A => Qiw D ty (wC ty q) A (rr, σ)) (by decide) (Nat.le_of_ble_eq_true rfl) ?_
  intro p e s m args below meth c A X hlk hr _ H locs hI ls hl
  have X : CallFix p m c cX1_depth 1 s args tb RX1 := X
  have hl : lv_has ls 1 [(0, .ref (q 4))] := hl
  unfold f_X1_depth at hF
  refine lv_aload_n X.1 X.2.1 dX1_depth_0 rfl (lv_at hl 0 rfl) ?_
  refine g_X1_count (v := gI σ 9) X hI rfl dX1_depth_1 ?_
  refine lv_if_le (tgt := 38) X.1 X.2.1 dX1_depth_4 (by decide) (fun c1 => ?_) (fun c1 => ?_)
  · replace hF := fb_pos c1 hF
    refine lv_iconst (v := 0) X.1 X.2.1 dX1_depth_38 (by decide) ?_
    exact rt_i X hlk hr hI (fb_pr hF) dX1_depth_39
  · replace hF := fb_neg c1 hF
    refine lv_aload_n X.1 X.2.1 dX1_depth_7 rfl (lv_at hl 0 rfl) ?_
    refine g_X1_usedWords (v := gI σ 10) X hI rfl dX1_depth_8 ?_
    refine lv_aload_n X.1 X.2.1 dX1_depth_11 rfl (lv_at hl 0 rfl) ?_
    refine g_X1_firstWords X hI dX1_depth_12 ?_
    refine lv_aload_n X.1 X.2.1 dX1_depth_15 rfl (lv_at hl 0 rfl) ?_
    refine g_X1_count (v := gI σ 9) X hI rfl dX1_depth_16 ?_
    refine lv_iconst (v := 1) X.1 X.2.1 dX1_depth_19 (by decide) ?_
    refine lv_isub X.1 X.2.1 dX1_depth_20 ?_
    obtain ⟨h2, hF⟩ := fb_chk hF
    refine aC_8 (v := gA σ 8 ((gI σ 9) - 1)) X hI rfl h2 dX1_depth_21 ?_
    refine lv_isub X.1 X.2.1 dX1_depth_22 ?_
    refine lv_aload_n X.1 X.2.1 dX1_depth_23 rfl (lv_at hl 0 rfl) ?_
    refine g_X1_localCounts X hI dX1_depth_24 ?_
    refine lv_aload_n X.1 X.2.1 dX1_depth_27 rfl (lv_at hl 0 rfl) ?_
    refine g_X1_count (v := gI σ 9) X hI rfl dX1_depth_28 ?_
    refine lv_iconst (v := 1) X.1 X.2.1 dX1_depth_31 (by decide) ?_
    refine lv_isub X.1 X.2.1 dX1_depth_32 ?_
    obtain ⟨h3, hF⟩ := fb_chk hF
    refine aC_7 (v := gA σ 7 ((gI σ 9) - 1)) X hI rfl h3 dX1_depth_33 ?_
    refine lv_isub X.1 X.2.1 dX1_depth_34 ?_
    refine lv_goto (tgt := 39) X.1 X.2.1 dX1_depth_35 (by decide) ?_
    exact rt_i X hlk hr hI (fb_pr hF) dX1_depth_39
abbrev rm_X1_open : Room := { frames := 0, cells := 0, slots := 0, locals := 0 }
def b_X1_open_73 : Nat → Int32 → Int32 → Int32 → St → Option (Int32 × St)
  | 0, _, _, _, _ => none
  | n + 1, x3, x4, x5, σ =>
    if x3 ≤ x5 then
      some (0, sI (sI σ 10 ((gI σ 10) + x3)) 9 ((gI σ 9) + 1))
    else
      if x5 = 0 then
        if inB ((gI σ 10) + x5) 1000 = true then
          b_X1_open_73 n x3 x4 (x5 + 1) (sA σ 9 ((gI σ 10) + x5) x4)
        else none
      else
        if inB ((gI σ 10) + x5) 1000 = true then
          b_X1_open_73 n x3 x4 (x5 + 1) (sA σ 9 ((gI σ 10) + x5) 0)
        else none
set_option maxHeartbeats 4000000 in
set_option maxRecDepth 100000 in
theorem w_b_X1_open_73 {l : Launch} {p : Program} {e : Env} {s : State} {m : MethodId} {args : Array Value} {below : List Frame} {meth : Method} {c : Code} {A : Nat → Prop} {D : va_G} {ty : Nat → ClassId} {q : Nat → Nat} {res : Int32 × St} (X : CallFix p m c cX1_open 6 s args tb RX1) (hlk : meth.locks = false) (hr : meth.sig.returnType = none) : ∀ (n : Nat) (x3 x4 x5 : Int32) (σ : St) (H : Heap) (locs : List Loc) (ls : Array Slot), b_X1_open_73 n x3 x4 x5 σ = some res → Inw D ty (FxC q) (wC ty q σ) A s H locs → lv_has ls 6 [(0, .ref (q 4)), (3, .int x3), (4, .int x4), (5, .int x5)] → W p l e rm_X1_open s m args below meth c H locs 0 0 (MQ below (Qvw D ty (wC ty q) A res) args s 0 0 A) (F0 m 73 ls []) := by
  intro n
  induction n with
  | zero =>
    intro x3 x4 x5 σ H locs ls hF
    cases hF
  | succ n ih =>
    intro x3 x4 x5 σ H locs ls hF hI hl
    rw [b_X1_open_73] at hF
    refine lv_iload X.1 X.2.1 dX1_open_73 (lv_at hl 3 rfl) ?_
    refine lv_iload_n X.1 X.2.1 dX1_open_75 rfl (lv_at hl 1 rfl) ?_
    refine lv_icmp_ge (tgt := 108) X.1 X.2.1 dX1_open_76 (by decide) (fun c8 => ?_) (fun c8 => ?_)
    · replace hF := fb_pos c8 hF
      refine lv_aload_n X.1 X.2.1 dX1_open_108 rfl (lv_at hl 0 rfl) ?_
      refine lv_dup X.1 X.2.1 dX1_open_109 rfl ?_
      refine g_X1_usedWords (v := gI σ 10) X hI rfl dX1_open_110 ?_
      refine lv_iload_n X.1 X.2.1 dX1_open_113 rfl (lv_at hl 1 rfl) ?_
      refine lv_iadd X.1 X.2.1 dX1_open_114 ?_
      refine p_X1_usedWords X hI dX1_open_115 (fun H locs hI => ?_)
      refine lv_aload_n X.1 X.2.1 dX1_open_118 rfl (lv_at hl 0 rfl) ?_
      refine lv_dup X.1 X.2.1 dX1_open_119 rfl ?_
      refine g_X1_count (v := gI σ 9) X hI rfl dX1_open_120 ?_
      refine lv_iconst (v := 1) X.1 X.2.1 dX1_open_123 (by decide) ?_
      refine lv_iadd X.1 X.2.1 dX1_open_124 ?_
      refine p_X1_count X hI dX1_open_125 (fun H locs hI => ?_)
      exact rt_v X hlk hr hI hF dX1_open_128
    · replace hF := fb_neg c8 hF
      refine lv_aload_n X.1 X.2.1 dX1_open_79 rfl (lv_at hl 0 rfl) ?_
      refine g_X1_words X hI dX1_open_80 ?_
      refine lv_aload_n X.1 X.2.1 dX1_open_83 rfl (lv_at hl 0 rfl) ?_
      refine g_X1_usedWords (v := gI σ 10) X hI rfl dX1_open_84 ?_
      refine lv_iload X.1 X.2.1 dX1_open_87 (lv_at hl 3 rfl) ?_
      refine lv_iadd X.1 X.2.1 dX1_open_89 ?_
      refine lv_iload X.1 X.2.1 dX1_open_90 (lv_at hl 3 rfl) ?_
      refine lv_if_ne (tgt := 100) X.1 X.2.1 dX1_open_92 (by decide) (fun c9 => ?_) (fun c9 => ?_)
      · replace hF := fb_neg c9 hF
        refine lv_iconst (v := 0) X.1 X.2.1 dX1_open_100 (by decide) ?_
        obtain ⟨h10, hF⟩ := fb_chk hF
        refine sC_9 X hI h10 dX1_open_101 (fun H locs hI => ?_)
        refine lv_iinc (v := x5 + 1) (lv' := [(5, .int (x5 + 1)), (0, .ref (q 4)), (3, .int x3), (4, .int x4)]) X.1 X.2.1 dX1_open_102 hl (k := 3) rfl rfl (by decide) rfl (fun ls hl => ?_)
        refine lv_goto (tgt := 73) X.1 X.2.1 dX1_open_105 (by decide) ?_
        exact ih x3 x4 (x5 + 1) _ _ _ ls hF hI (lv_sub hl [1, 2, 3, 0] rfl)
      · replace hF := fb_pos c9 hF
        refine lv_iload X.1 X.2.1 dX1_open_95 (lv_at hl 2 rfl) ?_
        refine lv_goto (tgt := 101) X.1 X.2.1 dX1_open_97 (by decide) ?_
        obtain ⟨h11, hF⟩ := fb_chk hF
        refine sC_9 X hI h11 dX1_open_101 (fun H locs hI => ?_)
        refine lv_iinc (v := x5 + 1) (lv' := [(5, .int (x5 + 1)), (0, .ref (q 4)), (3, .int x3), (4, .int x4)]) X.1 X.2.1 dX1_open_102 hl (k := 3) rfl rfl (by decide) rfl (fun ls hl => ?_)
        refine lv_goto (tgt := 73) X.1 X.2.1 dX1_open_105 (by decide) ?_
        exact ih x3 x4 (x5 + 1) _ _ _ ls hF hI (lv_sub hl [1, 2, 3, 0] rfl)
def f_X1_open (x1 x2 x3 x4 : Int32) (σ : St) : Option (Int32 × St) :=
  if 500 ≤ (gI σ 9) then
    some (0, σ)
  else
    if x3 < 0 then
      some (0, σ)
    else
      if x3 ≤ (1000 - (gI σ 10)) then
        if inB (gI σ 9) 500 = true then
          if inB (gI σ 9) 500 = true then
            if inB (gI σ 9) 500 = true then
              if inB (gI σ 9) 500 = true then
                b_X1_open_73 8 x3 x4 0 (sA (sA (sA (sA σ 5 (gI σ 9) x1) 6 (gI σ 9) x2) 7 (gI σ 9) x3) 8 (gI σ 9) (gI σ 10))
              else none
            else none
          else none
        else none
      else
        some (0, σ)
set_option maxHeartbeats 4000000 in
set_option maxRecDepth 100000 in
theorem m_X1_open (l : Launch) (D : va_G) (ty : Nat → ClassId) (q : Nat → Nat) (σ : St) (sz : Nat) (x1 x2 x3 x4 : Int32) {res : Int32 × St} (hF : f_X1_open x1 x2 x3 x4 σ = some res) : Met l yX1_open (wsy yX1_open cX1_open 6 none) rm_X1_open (Pcw D ty (FxC q) (wC ty q σ) sz [.ref (q 4), .int x1, .int x2, .int x3, .int x4]) (Qvw D ty (wC ty q) (va_A (wC ty q σ) sz) res) 0 0 (va_A (wC ty q σ) sz) := by
  refine en_w (Qc := fun A => Qvw D ty (wC ty q) A res) (by decide) (Nat.le_of_ble_eq_true rfl) ?_
  intro p e s m args below meth c A X hlk hr _ H locs hI ls hl
  have X : CallFix p m c cX1_open 6 s args tb RX1 := X
  have hl : lv_has ls 6 [(0, .ref (q 4)), (1, .int x1), (2, .int x2), (3, .int x3), (4, .int x4)] := hl
  unfold f_X1_open at hF
  refine lv_aload_n X.1 X.2.1 dX1_open_0 rfl (lv_at hl 0 rfl) ?_
  refine g_X1_count (v := gI σ 9) X hI rfl dX1_open_1 ?_
  refine lv_sipush (v := 500) X.1 X.2.1 dX1_open_4 (by decide) ?_
  refine lv_icmp_ge (tgt := 26) X.1 X.2.1 dX1_open_7 (by decide) (fun c1 => ?_) (fun c1 => ?_)
  · replace hF := fb_pos c1 hF
    exact rt_v X hlk hr hI hF dX1_open_26
  · replace hF := fb_neg c1 hF
    refine lv_iload_n X.1 X.2.1 dX1_open_10 rfl (lv_at hl 3 rfl) ?_
    refine lv_if_lt (tgt := 26) X.1 X.2.1 dX1_open_11 (by decide) (fun c2 => ?_) (fun c2 => ?_)
    · replace hF := fb_pos c2 hF
      exact rt_v X hlk hr hI hF dX1_open_26
    · replace hF := fb_neg c2 hF
      refine lv_iload_n X.1 X.2.1 dX1_open_14 rfl (lv_at hl 3 rfl) ?_
      refine lv_sipush (v := 1000) X.1 X.2.1 dX1_open_15 (by decide) ?_
      refine lv_aload_n X.1 X.2.1 dX1_open_18 rfl (lv_at hl 0 rfl) ?_
      refine g_X1_usedWords (v := gI σ 10) X hI rfl dX1_open_19 ?_
      refine lv_isub X.1 X.2.1 dX1_open_22 ?_
      refine lv_icmp_le (tgt := 27) X.1 X.2.1 dX1_open_23 (by decide) (fun c3 => ?_) (fun c3 => ?_)
      · replace hF := fb_pos c3 hF
        refine lv_aload_n X.1 X.2.1 dX1_open_27 rfl (lv_at hl 0 rfl) ?_
        refine g_X1_segments X hI dX1_open_28 ?_
        refine lv_aload_n X.1 X.2.1 dX1_open_31 rfl (lv_at hl 0 rfl) ?_
        refine g_X1_count (v := gI σ 9) X hI rfl dX1_open_32 ?_
        refine lv_iload_n X.1 X.2.1 dX1_open_35 rfl (lv_at hl 1 rfl) ?_
        obtain ⟨h4, hF⟩ := fb_chk hF
        refine sC_5 X hI h4 dX1_open_36 (fun H locs hI => ?_)
        refine lv_aload_n X.1 X.2.1 dX1_open_37 rfl (lv_at hl 0 rfl) ?_
        refine g_X1_places X hI dX1_open_38 ?_
        refine lv_aload_n X.1 X.2.1 dX1_open_41 rfl (lv_at hl 0 rfl) ?_
        refine g_X1_count (v := gI σ 9) X hI rfl dX1_open_42 ?_
        refine lv_iload_n X.1 X.2.1 dX1_open_45 rfl (lv_at hl 2 rfl) ?_
        obtain ⟨h5, hF⟩ := fb_chk hF
        refine sC_6 X hI h5 dX1_open_46 (fun H locs hI => ?_)
        refine lv_aload_n X.1 X.2.1 dX1_open_47 rfl (lv_at hl 0 rfl) ?_
        refine g_X1_localCounts X hI dX1_open_48 ?_
        refine lv_aload_n X.1 X.2.1 dX1_open_51 rfl (lv_at hl 0 rfl) ?_
        refine g_X1_count (v := gI σ 9) X hI rfl dX1_open_52 ?_
        refine lv_iload_n X.1 X.2.1 dX1_open_55 rfl (lv_at hl 3 rfl) ?_
        obtain ⟨h6, hF⟩ := fb_chk hF
        refine sC_7 X hI h6 dX1_open_56 (fun H locs hI => ?_)
        refine lv_aload_n X.1 X.2.1 dX1_open_57 rfl (lv_at hl 0 rfl) ?_
        refine g_X1_firstWords X hI dX1_open_58 ?_
        refine lv_aload_n X.1 X.2.1 dX1_open_61 rfl (lv_at hl 0 rfl) ?_
        refine g_X1_count (v := gI σ 9) X hI rfl dX1_open_62 ?_
        refine lv_aload_n X.1 X.2.1 dX1_open_65 rfl (lv_at hl 0 rfl) ?_
        refine g_X1_usedWords (v := gI σ 10) X hI rfl dX1_open_66 ?_
        obtain ⟨h7, hF⟩ := fb_chk hF
        refine sC_8 X hI h7 dX1_open_69 (fun H locs hI => ?_)
        refine lv_iconst (v := 0) X.1 X.2.1 dX1_open_70 (by decide) ?_
        refine lv_istore (lv' := [(5, .int 0), (0, .ref (q 4)), (1, .int x1), (2, .int x2), (3, .int x3), (4, .int x4)]) X.1 X.2.1 dX1_open_71 hl (by decide) rfl (fun ls hl => ?_)
        exact w_b_X1_open_73 X hlk hr 8 x3 x4 0 _ _ _ ls hF hI (lv_sub hl [1, 4, 5, 0] rfl)
      · replace hF := fb_neg c3 hF
        exact rt_v X hlk hr hI hF dX1_open_26
abbrev rm_X1_close : Room := { frames := 0, cells := 0, slots := 0, locals := 0 }
def f_X1_close (σ : St) : Option (Int32 × St) :=
  if (gI σ 9) ≤ 0 then
    some (0, σ)
  else
    if inB ((gI σ 9) - 1) 500 = true then
      some (0, sI (sI σ 9 ((gI σ 9) - 1)) 10 (gA σ 8 ((gI σ 9) - 1)))
    else none
set_option maxHeartbeats 4000000 in
set_option maxRecDepth 100000 in
theorem m_X1_close (l : Launch) (D : va_G) (ty : Nat → ClassId) (q : Nat → Nat) (σ : St) (sz : Nat) {res : Int32 × St} (hF : f_X1_close  σ = some res) : Met l yX1_close (wsy yX1_close cX1_close 1 none) rm_X1_close (Pcw D ty (FxC q) (wC ty q σ) sz [.ref (q 4)]) (Qvw D ty (wC ty q) (va_A (wC ty q σ) sz) res) 0 0 (va_A (wC ty q σ) sz) := by
  refine en_w (Qc := fun A => Qvw D ty (wC ty q) A res) (by decide) (Nat.le_of_ble_eq_true rfl) ?_
  intro p e s m args below meth c A X hlk hr _ H locs hI ls hl
  have X : CallFix p m c cX1_close 1 s args tb RX1 := X
  have hl : lv_has ls 1 [(0, .ref (q 4))] := hl
  unfold f_X1_close at hF
  refine lv_aload_n X.1 X.2.1 dX1_close_0 rfl (lv_at hl 0 rfl) ?_
  refine g_X1_count (v := gI σ 9) X hI rfl dX1_close_1 ?_
  refine lv_if_le (tgt := 30) X.1 X.2.1 dX1_close_4 (by decide) (fun c1 => ?_) (fun c1 => ?_)
  · replace hF := fb_pos c1 hF
    exact rt_v X hlk hr hI hF dX1_close_30
  · replace hF := fb_neg c1 hF
    refine lv_aload_n X.1 X.2.1 dX1_close_7 rfl (lv_at hl 0 rfl) ?_
    refine lv_dup X.1 X.2.1 dX1_close_8 rfl ?_
    refine g_X1_count (v := gI σ 9) X hI rfl dX1_close_9 ?_
    refine lv_iconst (v := 1) X.1 X.2.1 dX1_close_12 (by decide) ?_
    refine lv_isub X.1 X.2.1 dX1_close_13 ?_
    refine p_X1_count X hI dX1_close_14 (fun H locs hI => ?_)
    refine lv_aload_n X.1 X.2.1 dX1_close_17 rfl (lv_at hl 0 rfl) ?_
    refine lv_aload_n X.1 X.2.1 dX1_close_18 rfl (lv_at hl 0 rfl) ?_
    refine g_X1_firstWords X hI dX1_close_19 ?_
    refine lv_aload_n X.1 X.2.1 dX1_close_22 rfl (lv_at hl 0 rfl) ?_
    refine g_X1_count (v := ((gI σ 9) - 1)) X hI rfl dX1_close_23 ?_
    obtain ⟨h2, hF⟩ := fb_chk hF
    refine aC_8 (v := gA σ 8 ((gI σ 9) - 1)) X hI rfl h2 dX1_close_26 ?_
    refine p_X1_usedWords X hI dX1_close_27 (fun H locs hI => ?_)
    exact rt_v X hlk hr hI hF dX1_close_30
abbrev rm_X1_moveTo : Room := { frames := 0, cells := 0, slots := 0, locals := 0 }
def f_X1_moveTo (x1 : Int32) (σ : St) : Option (Int32 × St) :=
  if (gI σ 9) ≤ 0 then
    some (0, σ)
  else
    if inB ((gI σ 9) - 1) 500 = true then
      some (0, sA σ 6 ((gI σ 9) - 1) x1)
    else none
set_option maxHeartbeats 4000000 in
set_option maxRecDepth 100000 in
theorem m_X1_moveTo (l : Launch) (D : va_G) (ty : Nat → ClassId) (q : Nat → Nat) (σ : St) (sz : Nat) (x1 : Int32) {res : Int32 × St} (hF : f_X1_moveTo x1 σ = some res) : Met l yX1_moveTo (wsy yX1_moveTo cX1_moveTo 2 none) rm_X1_moveTo (Pcw D ty (FxC q) (wC ty q σ) sz [.ref (q 4), .int x1]) (Qvw D ty (wC ty q) (va_A (wC ty q σ) sz) res) 0 0 (va_A (wC ty q σ) sz) := by
  refine en_w (Qc := fun A => Qvw D ty (wC ty q) A res) (by decide) (Nat.le_of_ble_eq_true rfl) ?_
  intro p e s m args below meth c A X hlk hr _ H locs hI ls hl
  have X : CallFix p m c cX1_moveTo 2 s args tb RX1 := X
  have hl : lv_has ls 2 [(0, .ref (q 4)), (1, .int x1)] := hl
  unfold f_X1_moveTo at hF
  refine lv_aload_n X.1 X.2.1 dX1_moveTo_0 rfl (lv_at hl 0 rfl) ?_
  refine g_X1_count (v := gI σ 9) X hI rfl dX1_moveTo_1 ?_
  refine lv_if_le (tgt := 19) X.1 X.2.1 dX1_moveTo_4 (by decide) (fun c1 => ?_) (fun c1 => ?_)
  · replace hF := fb_pos c1 hF
    exact rt_v X hlk hr hI hF dX1_moveTo_19
  · replace hF := fb_neg c1 hF
    refine lv_aload_n X.1 X.2.1 dX1_moveTo_7 rfl (lv_at hl 0 rfl) ?_
    refine g_X1_places X hI dX1_moveTo_8 ?_
    refine lv_aload_n X.1 X.2.1 dX1_moveTo_11 rfl (lv_at hl 0 rfl) ?_
    refine g_X1_count (v := gI σ 9) X hI rfl dX1_moveTo_12 ?_
    refine lv_iconst (v := 1) X.1 X.2.1 dX1_moveTo_15 (by decide) ?_
    refine lv_isub X.1 X.2.1 dX1_moveTo_16 ?_
    refine lv_iload_n X.1 X.2.1 dX1_moveTo_17 rfl (lv_at hl 1 rfl) ?_
    obtain ⟨h2, hF⟩ := fb_chk hF
    refine sC_6 X hI h2 dX1_moveTo_18 (fun H locs hI => ?_)
    exact rt_v X hlk hr hI hF dX1_moveTo_19
abbrev rm_X1_moveCallerTo : Room := { frames := 0, cells := 0, slots := 0, locals := 0 }
def f_X1_moveCallerTo (x1 : Int32) (σ : St) : Option (Int32 × St) :=
  if (gI σ 9) ≤ 1 then
    some (0, σ)
  else
    if inB ((gI σ 9) - 2) 500 = true then
      some (0, sA σ 6 ((gI σ 9) - 2) x1)
    else none
set_option maxHeartbeats 4000000 in
set_option maxRecDepth 100000 in
theorem m_X1_moveCallerTo (l : Launch) (D : va_G) (ty : Nat → ClassId) (q : Nat → Nat) (σ : St) (sz : Nat) (x1 : Int32) {res : Int32 × St} (hF : f_X1_moveCallerTo x1 σ = some res) : Met l yX1_moveCallerTo (wsy yX1_moveCallerTo cX1_moveCallerTo 2 none) rm_X1_moveCallerTo (Pcw D ty (FxC q) (wC ty q σ) sz [.ref (q 4), .int x1]) (Qvw D ty (wC ty q) (va_A (wC ty q σ) sz) res) 0 0 (va_A (wC ty q σ) sz) := by
  refine en_w (Qc := fun A => Qvw D ty (wC ty q) A res) (by decide) (Nat.le_of_ble_eq_true rfl) ?_
  intro p e s m args below meth c A X hlk hr _ H locs hI ls hl
  have X : CallFix p m c cX1_moveCallerTo 2 s args tb RX1 := X
  have hl : lv_has ls 2 [(0, .ref (q 4)), (1, .int x1)] := hl
  unfold f_X1_moveCallerTo at hF
  refine lv_aload_n X.1 X.2.1 dX1_moveCallerTo_0 rfl (lv_at hl 0 rfl) ?_
  refine g_X1_count (v := gI σ 9) X hI rfl dX1_moveCallerTo_1 ?_
  refine lv_iconst (v := 1) X.1 X.2.1 dX1_moveCallerTo_4 (by decide) ?_
  refine lv_icmp_le (tgt := 20) X.1 X.2.1 dX1_moveCallerTo_5 (by decide) (fun c1 => ?_) (fun c1 => ?_)
  · replace hF := fb_pos c1 hF
    exact rt_v X hlk hr hI hF dX1_moveCallerTo_20
  · replace hF := fb_neg c1 hF
    refine lv_aload_n X.1 X.2.1 dX1_moveCallerTo_8 rfl (lv_at hl 0 rfl) ?_
    refine g_X1_places X hI dX1_moveCallerTo_9 ?_
    refine lv_aload_n X.1 X.2.1 dX1_moveCallerTo_12 rfl (lv_at hl 0 rfl) ?_
    refine g_X1_count (v := gI σ 9) X hI rfl dX1_moveCallerTo_13 ?_
    refine lv_iconst (v := 2) X.1 X.2.1 dX1_moveCallerTo_16 (by decide) ?_
    refine lv_isub X.1 X.2.1 dX1_moveCallerTo_17 ?_
    refine lv_iload_n X.1 X.2.1 dX1_moveCallerTo_18 rfl (lv_at hl 1 rfl) ?_
    obtain ⟨h2, hF⟩ := fb_chk hF
    refine sC_6 X hI h2 dX1_moveCallerTo_19 (fun H locs hI => ?_)
    exact rt_v X hlk hr hI hF dX1_moveCallerTo_20
abbrev rm_X1_push : Room := { frames := 0, cells := 0, slots := 0, locals := 0 }
def f_X1_push (x1 : Int32) (σ : St) : Option (Int32 × St) :=
  if 1000 ≤ (gI σ 10) then
    some (0, σ)
  else
    if inB (gI σ 10) 1000 = true then
      some (0, sI (sA σ 9 (gI σ 10) x1) 10 ((gI σ 10) + 1))
    else none
set_option maxHeartbeats 4000000 in
set_option maxRecDepth 100000 in
theorem m_X1_push (l : Launch) (D : va_G) (ty : Nat → ClassId) (q : Nat → Nat) (σ : St) (sz : Nat) (x1 : Int32) {res : Int32 × St} (hF : f_X1_push x1 σ = some res) : Met l yX1_push (wsy yX1_push cX1_push 2 none) rm_X1_push (Pcw D ty (FxC q) (wC ty q σ) sz [.ref (q 4), .int x1]) (Qvw D ty (wC ty q) (va_A (wC ty q σ) sz) res) 0 0 (va_A (wC ty q σ) sz) := by
  refine en_w (Qc := fun A => Qvw D ty (wC ty q) A res) (by decide) (Nat.le_of_ble_eq_true rfl) ?_
  intro p e s m args below meth c A X hlk hr _ H locs hI ls hl
  have X : CallFix p m c cX1_push 2 s args tb RX1 := X
  have hl : lv_has ls 2 [(0, .ref (q 4)), (1, .int x1)] := hl
  unfold f_X1_push at hF
  refine lv_aload_n X.1 X.2.1 dX1_push_0 rfl (lv_at hl 0 rfl) ?_
  refine g_X1_usedWords (v := gI σ 10) X hI rfl dX1_push_1 ?_
  refine lv_sipush (v := 1000) X.1 X.2.1 dX1_push_4 (by decide) ?_
  refine lv_icmp_ge (tgt := 30) X.1 X.2.1 dX1_push_7 (by decide) (fun c1 => ?_) (fun c1 => ?_)
  · replace hF := fb_pos c1 hF
    exact rt_v X hlk hr hI hF dX1_push_30
  · replace hF := fb_neg c1 hF
    refine lv_aload_n X.1 X.2.1 dX1_push_10 rfl (lv_at hl 0 rfl) ?_
    refine g_X1_words X hI dX1_push_11 ?_
    refine lv_aload_n X.1 X.2.1 dX1_push_14 rfl (lv_at hl 0 rfl) ?_
    refine g_X1_usedWords (v := gI σ 10) X hI rfl dX1_push_15 ?_
    refine lv_iload_n X.1 X.2.1 dX1_push_18 rfl (lv_at hl 1 rfl) ?_
    obtain ⟨h2, hF⟩ := fb_chk hF
    refine sC_9 X hI h2 dX1_push_19 (fun H locs hI => ?_)
    refine lv_aload_n X.1 X.2.1 dX1_push_20 rfl (lv_at hl 0 rfl) ?_
    refine lv_dup X.1 X.2.1 dX1_push_21 rfl ?_
    refine g_X1_usedWords (v := gI σ 10) X hI rfl dX1_push_22 ?_
    refine lv_iconst (v := 1) X.1 X.2.1 dX1_push_25 (by decide) ?_
    refine lv_iadd X.1 X.2.1 dX1_push_26 ?_
    refine p_X1_usedWords X hI dX1_push_27 (fun H locs hI => ?_)
    exact rt_v X hlk hr hI hF dX1_push_30
abbrev rm_X1_pop : Room := { frames := 1, cells := 0, slots := 0, locals := 20 }
def f_X1_pop (σ : St) : Option (Int32 × St) :=
  (f_X1_depth σ).bind fun u1 =>
  if 0 < u1 then
    if inB ((gI σ 10) - 1) 1000 = true then
      some (gA σ 9 ((gI σ 10) - 1), sI σ 10 ((gI σ 10) - 1))
    else none
  else
    some (0, σ)
set_option maxHeartbeats 4000000 in
set_option maxRecDepth 100000 in
theorem m_X1_pop (l : Launch) (D : va_G) (ty : Nat → ClassId) (q : Nat → Nat) (σ : St) (sz : Nat) {res : Int32 × St} (hF : f_X1_pop  σ = some res) : Met l yX1_pop (wsy yX1_pop cX1_pop 1 (some .int)) rm_X1_pop (Pcw D ty (FxC q) (wC ty q σ) sz [.ref (q 4)]) (Qiw D ty (wC ty q) (va_A (wC ty q σ) sz) res) 0 0 (va_A (wC ty q σ) sz) := by
  refine en_w (Qc := fun A => Qiw D ty (wC ty q) A res) (by decide) (Nat.le_of_ble_eq_true rfl) ?_
  intro p e s m args below meth c A X hlk hr _ H locs hI ls hl
  have X : CallFix p m c cX1_pop 1 s args tb RX1 := X
  have hl : lv_has ls 1 [(0, .ref (q 4))] := hl
  unfold f_X1_pop at hF
  refine lv_aload_n X.1 X.2.1 dX1_pop_0 rfl (lv_at hl 0 rfl) ?_
  obtain ⟨u1, h2, hF⟩ := fb_bnd hF
  refine cl_i (w := wC ty q) (σ := σ) (rest := []) X (fxC q) hI (m_X1_depth l D ty q σ _  h2) ok_X1_depth ml_X1_34 ⟨rfl, rfl, Nat.le_of_ble_eq_true rfl, Nat.le_of_ble_eq_true rfl⟩ 4 rc_X1 rfl rfl hl.1 rfl (Nat.le_of_ble_eq_true rfl) ⟨Nat.zero_le _, Nat.zero_le _⟩ dX1_pop_1 (fun H locs hI => ?_)
  refine lv_if_gt (tgt := 9) X.1 X.2.1 dX1_pop_4 (by decide) (fun c3 => ?_) (fun c3 => ?_)
  · replace hF := fb_pos c3 hF
    refine lv_aload_n X.1 X.2.1 dX1_pop_9 rfl (lv_at hl 0 rfl) ?_
    refine lv_dup X.1 X.2.1 dX1_pop_10 rfl ?_
    refine g_X1_usedWords (v := gI σ 10) X hI rfl dX1_pop_11 ?_
    refine lv_iconst (v := 1) X.1 X.2.1 dX1_pop_14 (by decide) ?_
    refine lv_isub X.1 X.2.1 dX1_pop_15 ?_
    refine p_X1_usedWords X hI dX1_pop_16 (fun H locs hI => ?_)
    refine lv_aload_n X.1 X.2.1 dX1_pop_19 rfl (lv_at hl 0 rfl) ?_
    refine g_X1_words X hI dX1_pop_20 ?_
    refine lv_aload_n X.1 X.2.1 dX1_pop_23 rfl (lv_at hl 0 rfl) ?_
    refine g_X1_usedWords (v := ((gI σ 10) - 1)) X hI rfl dX1_pop_24 ?_
    obtain ⟨h4, hF⟩ := fb_chk hF
    refine aC_9 (v := gA σ 9 ((gI σ 10) - 1)) X hI rfl h4 dX1_pop_27 ?_
    exact rt_i X hlk hr hI hF dX1_pop_28
  · replace hF := fb_neg c3 hF
    refine lv_iconst (v := 0) X.1 X.2.1 dX1_pop_7 (by decide) ?_
    exact rt_i X hlk hr hI hF dX1_pop_8
abbrev rm_X1_hasLocal : Room := { frames := 0, cells := 0, slots := 0, locals := 0 }
def f_X1_hasLocal (x1 x2 : Int32) (σ : St) : Option Int32 :=
  if x1 < 0 then
    some 0
  else
    if (gI σ 9) ≤ x1 then
      some 0
    else
      if x2 < 0 then
        some 0
      else
        if inB x1 500 = true then
          if (gA σ 7 x1) ≤ x2 then
            some 0
          else
            some 1
        else none
set_option maxHeartbeats 4000000 in
set_option maxRecDepth 100000 in
theorem m_X1_hasLocal (l : Launch) (D : va_G) (ty : Nat → ClassId) (q : Nat → Nat) (σ : St) (sz : Nat) (x1 x2 : Int32) {rr : Int32} (hF : f_X1_hasLocal x1 x2 σ = some rr) : Met l yX1_hasLocal (wsy yX1_hasLocal cX1_hasLocal 3 (some .boolean)) rm_X1_hasLocal (Pcw D ty (FxC q) (wC ty q σ) sz [.ref (q 4), .int x1, .int x2]) (Qiw D ty (wC ty q) (va_A (wC ty q σ) sz) (rr, σ)) 0 0 (va_A (wC ty q σ) sz) := by
  refine en_w (Qc := fun A => Qiw D ty (wC ty q) A (rr, σ)) (by decide) (Nat.le_of_ble_eq_true rfl) ?_
  intro p e s m args below meth c A X hlk hr _ H locs hI ls hl
  have X : CallFix p m c cX1_hasLocal 3 s args tb RX1 := X
  have hl : lv_has ls 3 [(0, .ref (q 4)), (1, .int x1), (2, .int x2)] := hl
  unfold f_X1_hasLocal at hF
  refine lv_iload_n X.1 X.2.1 dX1_hasLocal_0 rfl (lv_at hl 1 rfl) ?_
  refine lv_if_lt (tgt := 30) X.1 X.2.1 dX1_hasLocal_1 (by decide) (fun c1 => ?_) (fun c1 => ?_)
  · replace hF := fb_pos c1 hF
    refine lv_iconst (v := 0) X.1 X.2.1 dX1_hasLocal_30 (by decide) ?_
    exact rt_z X hlk hr hI rfl (fb_pr hF) dX1_hasLocal_31
  · replace hF := fb_neg c1 hF
    refine lv_iload_n X.1 X.2.1 dX1_hasLocal_4 rfl (lv_at hl 1 rfl) ?_
    refine lv_aload_n X.1 X.2.1 dX1_hasLocal_5 rfl (lv_at hl 0 rfl) ?_
    refine g_X1_count (v := gI σ 9) X hI rfl dX1_hasLocal_6 ?_
    refine lv_icmp_ge (tgt := 30) X.1 X.2.1 dX1_hasLocal_9 (by decide) (fun c2 => ?_) (fun c2 => ?_)
    · replace hF := fb_pos c2 hF
      refine lv_iconst (v := 0) X.1 X.2.1 dX1_hasLocal_30 (by decide) ?_
      exact rt_z X hlk hr hI rfl (fb_pr hF) dX1_hasLocal_31
    · replace hF := fb_neg c2 hF
      refine lv_iload_n X.1 X.2.1 dX1_hasLocal_12 rfl (lv_at hl 2 rfl) ?_
      refine lv_if_lt (tgt := 30) X.1 X.2.1 dX1_hasLocal_13 (by decide) (fun c3 => ?_) (fun c3 => ?_)
      · replace hF := fb_pos c3 hF
        refine lv_iconst (v := 0) X.1 X.2.1 dX1_hasLocal_30 (by decide) ?_
        exact rt_z X hlk hr hI rfl (fb_pr hF) dX1_hasLocal_31
      · replace hF := fb_neg c3 hF
        refine lv_iload_n X.1 X.2.1 dX1_hasLocal_16 rfl (lv_at hl 2 rfl) ?_
        refine lv_aload_n X.1 X.2.1 dX1_hasLocal_17 rfl (lv_at hl 0 rfl) ?_
        refine g_X1_localCounts X hI dX1_hasLocal_18 ?_
        refine lv_iload_n X.1 X.2.1 dX1_hasLocal_21 rfl (lv_at hl 1 rfl) ?_
        obtain ⟨h4, hF⟩ := fb_chk hF
        refine aC_7 (v := gA σ 7 x1) X hI rfl h4 dX1_hasLocal_22 ?_
        refine lv_icmp_ge (tgt := 30) X.1 X.2.1 dX1_hasLocal_23 (by decide) (fun c5 => ?_) (fun c5 => ?_)
        · replace hF := fb_pos c5 hF
          refine lv_iconst (v := 0) X.1 X.2.1 dX1_hasLocal_30 (by decide) ?_
          exact rt_z X hlk hr hI rfl (fb_pr hF) dX1_hasLocal_31
        · replace hF := fb_neg c5 hF
          refine lv_iconst (v := 1) X.1 X.2.1 dX1_hasLocal_26 (by decide) ?_
          refine lv_goto (tgt := 31) X.1 X.2.1 dX1_hasLocal_27 (by decide) ?_
          exact rt_z X hlk hr hI rfl (fb_pr hF) dX1_hasLocal_31
abbrev rm_X1_localAt : Room := { frames := 1, cells := 0, slots := 0, locals := 22 }
def f_X1_localAt (x1 x2 : Int32) (σ : St) : Option Int32 :=
  (f_X1_hasLocal x1 x2 σ).bind fun u1 =>
  if u1 = 0 then
    some 0
  else
    if inB x1 500 = true then
      if inB ((gA σ 8 x1) + x2) 1000 = true then
        some (gA σ 9 ((gA σ 8 x1) + x2))
      else none
    else none
set_option maxHeartbeats 4000000 in
set_option maxRecDepth 100000 in
theorem m_X1_localAt (l : Launch) (D : va_G) (ty : Nat → ClassId) (q : Nat → Nat) (σ : St) (sz : Nat) (x1 x2 : Int32) {rr : Int32} (hF : f_X1_localAt x1 x2 σ = some rr) : Met l yX1_localAt (wsy yX1_localAt cX1_localAt 3 (some .int)) rm_X1_localAt (Pcw D ty (FxC q) (wC ty q σ) sz [.ref (q 4), .int x1, .int x2]) (Qiw D ty (wC ty q) (va_A (wC ty q σ) sz) (rr, σ)) 0 0 (va_A (wC ty q σ) sz) := by
  refine en_w (Qc := fun A => Qiw D ty (wC ty q) A (rr, σ)) (by decide) (Nat.le_of_ble_eq_true rfl) ?_
  intro p e s m args below meth c A X hlk hr _ H locs hI ls hl
  have X : CallFix p m c cX1_localAt 3 s args tb RX1 := X
  have hl : lv_has ls 3 [(0, .ref (q 4)), (1, .int x1), (2, .int x2)] := hl
  unfold f_X1_localAt at hF
  refine lv_aload_n X.1 X.2.1 dX1_localAt_0 rfl (lv_at hl 0 rfl) ?_
  refine lv_iload_n X.1 X.2.1 dX1_localAt_1 rfl (lv_at hl 1 rfl) ?_
  refine lv_iload_n X.1 X.2.1 dX1_localAt_2 rfl (lv_at hl 2 rfl) ?_
  obtain ⟨u1, h2, hF⟩ := fb_bnd hF
  refine cl_i (w := wC ty q) (σ := σ) (rest := []) X (fxC q) hI (m_X1_hasLocal l D ty q σ _ x1 x2 h2) ok_X1_hasLocal ml_X1_38 ⟨rfl, rfl, Nat.le_of_ble_eq_true rfl, Nat.le_of_ble_eq_true rfl⟩ 4 rc_X1 rfl rfl hl.1 rfl (Nat.le_of_ble_eq_true rfl) ⟨Nat.zero_le _, Nat.zero_le _⟩ dX1_localAt_3 (fun H locs hI => ?_)
  refine lv_if_eq (tgt := 25) X.1 X.2.1 dX1_localAt_6 (by decide) (fun c3 => ?_) (fun c3 => ?_)
  · replace hF := fb_pos c3 hF
    refine lv_iconst (v := 0) X.1 X.2.1 dX1_localAt_25 (by decide) ?_
    exact rt_i X hlk hr hI (fb_pr hF) dX1_localAt_26
  · replace hF := fb_neg c3 hF
    refine lv_aload_n X.1 X.2.1 dX1_localAt_9 rfl (lv_at hl 0 rfl) ?_
    refine g_X1_words X hI dX1_localAt_10 ?_
    refine lv_aload_n X.1 X.2.1 dX1_localAt_13 rfl (lv_at hl 0 rfl) ?_
    refine g_X1_firstWords X hI dX1_localAt_14 ?_
    refine lv_iload_n X.1 X.2.1 dX1_localAt_17 rfl (lv_at hl 1 rfl) ?_
    obtain ⟨h4, hF⟩ := fb_chk hF
    refine aC_8 (v := gA σ 8 x1) X hI rfl h4 dX1_localAt_18 ?_
    refine lv_iload_n X.1 X.2.1 dX1_localAt_19 rfl (lv_at hl 2 rfl) ?_
    refine lv_iadd X.1 X.2.1 dX1_localAt_20 ?_
    obtain ⟨h5, hF⟩ := fb_chk hF
    refine aC_9 (v := gA σ 9 ((gA σ 8 x1) + x2)) X hI rfl h5 dX1_localAt_21 ?_
    refine lv_goto (tgt := 26) X.1 X.2.1 dX1_localAt_22 (by decide) ?_
    exact rt_i X hlk hr hI (fb_pr hF) dX1_localAt_26
abbrev rm_X1_setLocal : Room := { frames := 1, cells := 0, slots := 0, locals := 22 }
def f_X1_setLocal (x1 x2 x3 : Int32) (σ : St) : Option (Int32 × St) :=
  (f_X1_hasLocal x1 x2 σ).bind fun u1 =>
  if u1 = 0 then
    some (0, σ)
  else
    if inB x1 500 = true then
      if inB ((gA σ 8 x1) + x2) 1000 = true then
        some (0, sA σ 9 ((gA σ 8 x1) + x2) x3)
      else none
    else none
set_option maxHeartbeats 4000000 in
set_option maxRecDepth 100000 in
theorem m_X1_setLocal (l : Launch) (D : va_G) (ty : Nat → ClassId) (q : Nat → Nat) (σ : St) (sz : Nat) (x1 x2 x3 : Int32) {res : Int32 × St} (hF : f_X1_setLocal x1 x2 x3 σ = some res) : Met l yX1_setLocal (wsy yX1_setLocal cX1_setLocal 4 none) rm_X1_setLocal (Pcw D ty (FxC q) (wC ty q σ) sz [.ref (q 4), .int x1, .int x2, .int x3]) (Qvw D ty (wC ty q) (va_A (wC ty q σ) sz) res) 0 0 (va_A (wC ty q σ) sz) := by
  refine en_w (Qc := fun A => Qvw D ty (wC ty q) A res) (by decide) (Nat.le_of_ble_eq_true rfl) ?_
  intro p e s m args below meth c A X hlk hr _ H locs hI ls hl
  have X : CallFix p m c cX1_setLocal 4 s args tb RX1 := X
  have hl : lv_has ls 4 [(0, .ref (q 4)), (1, .int x1), (2, .int x2), (3, .int x3)] := hl
  unfold f_X1_setLocal at hF
  refine lv_aload_n X.1 X.2.1 dX1_setLocal_0 rfl (lv_at hl 0 rfl) ?_
  refine lv_iload_n X.1 X.2.1 dX1_setLocal_1 rfl (lv_at hl 1 rfl) ?_
  refine lv_iload_n X.1 X.2.1 dX1_setLocal_2 rfl (lv_at hl 2 rfl) ?_
  obtain ⟨u1, h2, hF⟩ := fb_bnd hF
  refine cl_i (w := wC ty q) (σ := σ) (rest := []) X (fxC q) hI (m_X1_hasLocal l D ty q σ _ x1 x2 h2) ok_X1_hasLocal ml_X1_38 ⟨rfl, rfl, Nat.le_of_ble_eq_true rfl, Nat.le_of_ble_eq_true rfl⟩ 4 rc_X1 rfl rfl hl.1 rfl (Nat.le_of_ble_eq_true rfl) ⟨Nat.zero_le _, Nat.zero_le _⟩ dX1_setLocal_3 (fun H locs hI => ?_)
  refine lv_if_eq (tgt := 23) X.1 X.2.1 dX1_setLocal_6 (by decide) (fun c3 => ?_) (fun c3 => ?_)
  · replace hF := fb_pos c3 hF
    exact rt_v X hlk hr hI hF dX1_setLocal_23
  · replace hF := fb_neg c3 hF
    refine lv_aload_n X.1 X.2.1 dX1_setLocal_9 rfl (lv_at hl 0 rfl) ?_
    refine g_X1_words X hI dX1_setLocal_10 ?_
    refine lv_aload_n X.1 X.2.1 dX1_setLocal_13 rfl (lv_at hl 0 rfl) ?_
    refine g_X1_firstWords X hI dX1_setLocal_14 ?_
    refine lv_iload_n X.1 X.2.1 dX1_setLocal_17 rfl (lv_at hl 1 rfl) ?_
    obtain ⟨h4, hF⟩ := fb_chk hF
    refine aC_8 (v := gA σ 8 x1) X hI rfl h4 dX1_setLocal_18 ?_
    refine lv_iload_n X.1 X.2.1 dX1_setLocal_19 rfl (lv_at hl 2 rfl) ?_
    refine lv_iadd X.1 X.2.1 dX1_setLocal_20 ?_
    refine lv_iload_n X.1 X.2.1 dX1_setLocal_21 rfl (lv_at hl 3 rfl) ?_
    obtain ⟨h5, hF⟩ := fb_chk hF
    refine sC_9 X hI h5 dX1_setLocal_22 (fun H locs hI => ?_)
    exact rt_v X hlk hr hI hF dX1_setLocal_23
end
section
abbrev rm_X2_empty : Room := { frames := 0, cells := 0, slots := 0, locals := 0 }
def b_X2_empty_2 : Nat → Int32 → Int32 → St → Option (Int32 × St)
  | 0, _, _, _ => none
  | n + 1, x1, x2, σ =>
    if 5 ≤ x2 then
      some (0, sI (sI (sI (sI (sI (sI σ 3 0) 4 x1) 5 0) 6 0) 7 0) 8 0)
    else
      if inB x2 5 = true then
        if inB x2 5 = true then
          if inB x2 5 = true then
            b_X2_empty_2 n x1 (x2 + 1) (sA (sA (sA σ 2 x2 0) 3 x2 0) 4 x2 0)
          else none
        else none
      else none
set_option maxHeartbeats 4000000 in
set_option maxRecDepth 100000 in
theorem w_b_X2_empty_2 {l : Launch} {p : Program} {e : Env} {s : State} {m : MethodId} {args : Array Value} {below : List Frame} {meth : Method} {c : Code} {A : Nat → Prop} {D : va_G} {ty : Nat → ClassId} {q : Nat → Nat} {res : Int32 × St} (X : CallFix p m c cX2_empty 3 s args tb RX2) (hlk : meth.locks = false) (hr : meth.sig.returnType = none) : ∀ (n : Nat) (x1 x2 : Int32) (σ : St) (H : Heap) (locs : List Loc) (ls : Array Slot), b_X2_empty_2 n x1 x2 σ = some res → Inw D ty (FxC q) (wC ty q σ) A s H locs → lv_has ls 3 [(0, .ref (q 3)), (1, .int x1), (2, .int x2)] → W p l e rm_X2_empty s m args below meth c H locs 0 0 (MQ below (Qvw D ty (wC ty q) A res) args s 0 0 A) (F0 m 2 ls []) := by
  intro n
  induction n with
  | zero =>
    intro x1 x2 σ H locs ls hF
    cases hF
  | succ n ih =>
    intro x1 x2 σ H locs ls hF hI hl
    rw [b_X2_empty_2] at hF
    refine lv_iload_n X.1 X.2.1 dX2_empty_2 rfl (lv_at hl 2 rfl) ?_
    refine lv_iconst (v := 5) X.1 X.2.1 dX2_empty_3 (by decide) ?_
    refine lv_icmp_ge (tgt := 34) X.1 X.2.1 dX2_empty_4 (by decide) (fun c1 => ?_) (fun c1 => ?_)
    · replace hF := fb_pos c1 hF
      refine lv_aload_n X.1 X.2.1 dX2_empty_34 rfl (lv_at hl 0 rfl) ?_
      refine lv_iconst (v := 0) X.1 X.2.1 dX2_empty_35 (by decide) ?_
      refine p_X2_calls X hI dX2_empty_36 (fun H locs hI => ?_)
      refine lv_aload_n X.1 X.2.1 dX2_empty_39 rfl (lv_at hl 0 rfl) ?_
      refine lv_iload_n X.1 X.2.1 dX2_empty_40 rfl (lv_at hl 1 rfl) ?_
      refine p_X2_limit X hI dX2_empty_41 (fun H locs hI => ?_)
      refine lv_aload_n X.1 X.2.1 dX2_empty_44 rfl (lv_at hl 0 rfl) ?_
      refine lv_iconst (v := 0) X.1 X.2.1 dX2_empty_45 (by decide) ?_
      refine p_X2_held X hI dX2_empty_46 (fun H locs hI => ?_)
      refine lv_aload_n X.1 X.2.1 dX2_empty_49 rfl (lv_at hl 0 rfl) ?_
      refine lv_iconst (v := 0) X.1 X.2.1 dX2_empty_50 (by decide) ?_
      refine p_X2_most X hI dX2_empty_51 (fun H locs hI => ?_)
      refine lv_aload_n X.1 X.2.1 dX2_empty_54 rfl (lv_at hl 0 rfl) ?_
      refine lv_iconst (v := 0) X.1 X.2.1 dX2_empty_55 (by decide) ?_
      refine p_X2_loads X hI dX2_empty_56 (fun H locs hI => ?_)
      refine lv_aload_n X.1 X.2.1 dX2_empty_59 rfl (lv_at hl 0 rfl) ?_
      refine lv_iconst (v := 0) X.1 X.2.1 dX2_empty_60 (by decide) ?_
      refine p_X2_gone X hI dX2_empty_61 (fun H locs hI => ?_)
      exact rt_v X hlk hr hI hF dX2_empty_64
    · replace hF := fb_neg c1 hF
      refine lv_aload_n X.1 X.2.1 dX2_empty_7 rfl (lv_at hl 0 rfl) ?_
      refine g_X2_residentBytes X hI dX2_empty_8 ?_
      refine lv_iload_n X.1 X.2.1 dX2_empty_11 rfl (lv_at hl 2 rfl) ?_
      refine lv_iconst (v := 0) X.1 X.2.1 dX2_empty_12 (by decide) ?_
      obtain ⟨h2, hF⟩ := fb_chk hF
      refine sC_2 X hI h2 dX2_empty_13 (fun H locs hI => ?_)
      refine lv_aload_n X.1 X.2.1 dX2_empty_14 rfl (lv_at hl 0 rfl) ?_
      refine g_X2_frameCounts X hI dX2_empty_15 ?_
      refine lv_iload_n X.1 X.2.1 dX2_empty_18 rfl (lv_at hl 2 rfl) ?_
      refine lv_iconst (v := 0) X.1 X.2.1 dX2_empty_19 (by decide) ?_
      obtain ⟨h3, hF⟩ := fb_chk hF
      refine sC_3 X hI h3 dX2_empty_20 (fun H locs hI => ?_)
      refine lv_aload_n X.1 X.2.1 dX2_empty_21 rfl (lv_at hl 0 rfl) ?_
      refine g_X2_latestCalls X hI dX2_empty_22 ?_
      refine lv_iload_n X.1 X.2.1 dX2_empty_25 rfl (lv_at hl 2 rfl) ?_
      refine lv_iconst (v := 0) X.1 X.2.1 dX2_empty_26 (by decide) ?_
      obtain ⟨h4, hF⟩ := fb_chk hF
      refine sC_4 X hI h4 dX2_empty_27 (fun H locs hI => ?_)
      refine lv_iinc (v := x2 + 1) (lv' := [(2, .int (x2 + 1)), (0, .ref (q 3)), (1, .int x1)]) X.1 X.2.1 dX2_empty_28 hl (k := 2) rfl rfl (by decide) rfl (fun ls hl => ?_)
      refine lv_goto (tgt := 2) X.1 X.2.1 dX2_empty_31 (by decide) ?_
      exact ih x1 (x2 + 1) _ _ _ ls hF hI (lv_sub hl [1, 2, 0] rfl)
def f_X2_empty (x1 : Int32) (σ : St) : Option (Int32 × St) :=
  b_X2_empty_2 6 x1 0 σ
set_option maxHeartbeats 4000000 in
set_option maxRecDepth 100000 in
theorem m_X2_empty (l : Launch) (D : va_G) (ty : Nat → ClassId) (q : Nat → Nat) (σ : St) (sz : Nat) (x1 : Int32) {res : Int32 × St} (hF : f_X2_empty x1 σ = some res) : Met l yX2_empty (wsy yX2_empty cX2_empty 3 none) rm_X2_empty (Pcw D ty (FxC q) (wC ty q σ) sz [.ref (q 3), .int x1]) (Qvw D ty (wC ty q) (va_A (wC ty q σ) sz) res) 0 0 (va_A (wC ty q σ) sz) := by
  refine en_w (Qc := fun A => Qvw D ty (wC ty q) A res) (by decide) (Nat.le_of_ble_eq_true rfl) ?_
  intro p e s m args below meth c A X hlk hr _ H locs hI ls hl
  have X : CallFix p m c cX2_empty 3 s args tb RX2 := X
  have hl : lv_has ls 3 [(0, .ref (q 3)), (1, .int x1)] := hl
  unfold f_X2_empty at hF
  refine lv_iconst (v := 0) X.1 X.2.1 dX2_empty_0 (by decide) ?_
  refine lv_istore_n (lv' := [(2, .int 0), (0, .ref (q 3)), (1, .int x1)]) X.1 X.2.1 dX2_empty_1 rfl hl (by decide) rfl (fun ls hl => ?_)
  exact w_b_X2_empty_2 X hlk hr 6 x1 0 _ _ _ ls hF hI (lv_sub hl [1, 2, 0] rfl)
abbrev rm_X2_held : Room := { frames := 0, cells := 0, slots := 0, locals := 0 }
def f_X2_held (σ : St) : Option Int32 :=
  some (gI σ 5)
set_option maxHeartbeats 4000000 in
set_option maxRecDepth 100000 in
theorem m_X2_held (l : Launch) (D : va_G) (ty : Nat → ClassId) (q : Nat → Nat) (σ : St) (sz : Nat) {rr : Int32} (hF : f_X2_held  σ = some rr) : Met l yX2_held (wsy yX2_held cX2_held 1 (some .int)) rm_X2_held (Pcw D ty (FxC q) (wC ty q σ) sz [.ref (q 3)]) (Qiw D ty (wC ty q) (va_A (wC ty q σ) sz) (rr, σ)) 0 0 (va_A (wC ty q σ) sz) := by
  refine en_w (Qc := fun A => Qiw D ty (wC ty q) A (rr, σ)) (by decide) (Nat.le_of_ble_eq_true rfl) ?_
  intro p e s m args below meth c A X hlk hr _ H locs hI ls hl
  have X : CallFix p m c cX2_held 1 s args tb RX2 := X
  have hl : lv_has ls 1 [(0, .ref (q 3))] := hl
  unfold f_X2_held at hF
  refine lv_aload_n X.1 X.2.1 dX2_held_0 rfl (lv_at hl 0 rfl) ?_
  refine g_X2_held (v := gI σ 5) X hI rfl dX2_held_1 ?_
  exact rt_i X hlk hr hI (fb_pr hF) dX2_held_4
abbrev rm_X2_most : Room := { frames := 0, cells := 0, slots := 0, locals := 0 }
def f_X2_most (σ : St) : Option Int32 :=
  some (gI σ 6)
set_option maxHeartbeats 4000000 in
set_option maxRecDepth 100000 in
theorem m_X2_most (l : Launch) (D : va_G) (ty : Nat → ClassId) (q : Nat → Nat) (σ : St) (sz : Nat) {rr : Int32} (hF : f_X2_most  σ = some rr) : Met l yX2_most (wsy yX2_most cX2_most 1 (some .int)) rm_X2_most (Pcw D ty (FxC q) (wC ty q σ) sz [.ref (q 3)]) (Qiw D ty (wC ty q) (va_A (wC ty q σ) sz) (rr, σ)) 0 0 (va_A (wC ty q σ) sz) := by
  refine en_w (Qc := fun A => Qiw D ty (wC ty q) A (rr, σ)) (by decide) (Nat.le_of_ble_eq_true rfl) ?_
  intro p e s m args below meth c A X hlk hr _ H locs hI ls hl
  have X : CallFix p m c cX2_most 1 s args tb RX2 := X
  have hl : lv_has ls 1 [(0, .ref (q 3))] := hl
  unfold f_X2_most at hF
  refine lv_aload_n X.1 X.2.1 dX2_most_0 rfl (lv_at hl 0 rfl) ?_
  refine g_X2_most (v := gI σ 6) X hI rfl dX2_most_1 ?_
  exact rt_i X hlk hr hI (fb_pr hF) dX2_most_4
abbrev rm_X2_loads : Room := { frames := 0, cells := 0, slots := 0, locals := 0 }
def f_X2_loads (σ : St) : Option Int32 :=
  some (gI σ 7)
set_option maxHeartbeats 4000000 in
set_option maxRecDepth 100000 in
theorem m_X2_loads (l : Launch) (D : va_G) (ty : Nat → ClassId) (q : Nat → Nat) (σ : St) (sz : Nat) {rr : Int32} (hF : f_X2_loads  σ = some rr) : Met l yX2_loads (wsy yX2_loads cX2_loads 1 (some .int)) rm_X2_loads (Pcw D ty (FxC q) (wC ty q σ) sz [.ref (q 3)]) (Qiw D ty (wC ty q) (va_A (wC ty q σ) sz) (rr, σ)) 0 0 (va_A (wC ty q σ) sz) := by
  refine en_w (Qc := fun A => Qiw D ty (wC ty q) A (rr, σ)) (by decide) (Nat.le_of_ble_eq_true rfl) ?_
  intro p e s m args below meth c A X hlk hr _ H locs hI ls hl
  have X : CallFix p m c cX2_loads 1 s args tb RX2 := X
  have hl : lv_has ls 1 [(0, .ref (q 3))] := hl
  unfold f_X2_loads at hF
  refine lv_aload_n X.1 X.2.1 dX2_loads_0 rfl (lv_at hl 0 rfl) ?_
  refine g_X2_loads (v := gI σ 7) X hI rfl dX2_loads_1 ?_
  exact rt_i X hlk hr hI (fb_pr hF) dX2_loads_4
abbrev rm_X2_gone : Room := { frames := 0, cells := 0, slots := 0, locals := 0 }
def f_X2_gone (σ : St) : Option Int32 :=
  some (gI σ 8)
set_option maxHeartbeats 4000000 in
set_option maxRecDepth 100000 in
theorem m_X2_gone (l : Launch) (D : va_G) (ty : Nat → ClassId) (q : Nat → Nat) (σ : St) (sz : Nat) {rr : Int32} (hF : f_X2_gone  σ = some rr) : Met l yX2_gone (wsy yX2_gone cX2_gone 1 (some .int)) rm_X2_gone (Pcw D ty (FxC q) (wC ty q σ) sz [.ref (q 3)]) (Qiw D ty (wC ty q) (va_A (wC ty q σ) sz) (rr, σ)) 0 0 (va_A (wC ty q σ) sz) := by
  refine en_w (Qc := fun A => Qiw D ty (wC ty q) A (rr, σ)) (by decide) (Nat.le_of_ble_eq_true rfl) ?_
  intro p e s m args below meth c A X hlk hr _ H locs hI ls hl
  have X : CallFix p m c cX2_gone 1 s args tb RX2 := X
  have hl : lv_has ls 1 [(0, .ref (q 3))] := hl
  unfold f_X2_gone at hF
  refine lv_aload_n X.1 X.2.1 dX2_gone_0 rfl (lv_at hl 0 rfl) ?_
  refine g_X2_gone (v := gI σ 8) X hI rfl dX2_gone_1 ?_
  exact rt_i X hlk hr hI (fb_pr hF) dX2_gone_4
abbrev rm_X2_isResident : Room := { frames := 1, cells := 0, slots := 0, locals := 20 }
def f_X2_isResident (x1 : Int32) (σ : St) : Option Int32 :=
  (f_X4_isSegment x1 σ).bind fun u1 =>
  if u1 = 0 then
    some 0
  else
    if inB x1 5 = true then
      if (gA σ 2 x1) ≤ 0 then
        some 0
      else
        some 1
    else none
set_option maxHeartbeats 4000000 in
set_option maxRecDepth 100000 in
theorem m_X2_isResident (l : Launch) (D : va_G) (ty : Nat → ClassId) (q : Nat → Nat) (σ : St) (sz : Nat) (x1 : Int32) {rr : Int32} (hF : f_X2_isResident x1 σ = some rr) : Met l yX2_isResident (wsy yX2_isResident cX2_isResident 2 (some .boolean)) rm_X2_isResident (Pcw D ty (FxC q) (wC ty q σ) sz [.ref (q 3), .int x1]) (Qiw D ty (wC ty q) (va_A (wC ty q σ) sz) (rr, σ)) 0 0 (va_A (wC ty q σ) sz) := by
  refine en_w (Qc := fun A => Qiw D ty (wC ty q) A (rr, σ)) (by decide) (Nat.le_of_ble_eq_true rfl) ?_
  intro p e s m args below meth c A X hlk hr _ H locs hI ls hl
  have X : CallFix p m c cX2_isResident 2 s args tb RX2 := X
  have hl : lv_has ls 2 [(0, .ref (q 3)), (1, .int x1)] := hl
  unfold f_X2_isResident at hF
  refine lv_iload_n X.1 X.2.1 dX2_isResident_0 rfl (lv_at hl 1 rfl) ?_
  obtain ⟨u1, h2, hF⟩ := fb_bnd hF
  refine cn_i (w := wC ty q) (σ := σ) (rest := []) X (fxC q) hI (m_X4_isSegment l D ty q σ _ x1 h2) ok_X4_isSegment hI.2.2.2.2.2.2.2.2.2.2 ⟨rfl, rfl, Nat.le_of_ble_eq_true rfl, Nat.le_of_ble_eq_true rfl⟩ rfl hl.1 rfl (Nat.le_of_ble_eq_true rfl) ⟨Nat.zero_le _, Nat.zero_le _⟩ dX2_isResident_1 (fun H locs hI => ?_)
  refine lv_if_eq (tgt := 20) X.1 X.2.1 dX2_isResident_4 (by decide) (fun c3 => ?_) (fun c3 => ?_)
  · replace hF := fb_pos c3 hF
    refine lv_iconst (v := 0) X.1 X.2.1 dX2_isResident_20 (by decide) ?_
    exact rt_z X hlk hr hI rfl (fb_pr hF) dX2_isResident_21
  · replace hF := fb_neg c3 hF
    refine lv_aload_n X.1 X.2.1 dX2_isResident_7 rfl (lv_at hl 0 rfl) ?_
    refine g_X2_residentBytes X hI dX2_isResident_8 ?_
    refine lv_iload_n X.1 X.2.1 dX2_isResident_11 rfl (lv_at hl 1 rfl) ?_
    obtain ⟨h4, hF⟩ := fb_chk hF
    refine aC_2 (v := gA σ 2 x1) X hI rfl h4 dX2_isResident_12 ?_
    refine lv_if_le (tgt := 20) X.1 X.2.1 dX2_isResident_13 (by decide) (fun c5 => ?_) (fun c5 => ?_)
    · replace hF := fb_pos c5 hF
      refine lv_iconst (v := 0) X.1 X.2.1 dX2_isResident_20 (by decide) ?_
      exact rt_z X hlk hr hI rfl (fb_pr hF) dX2_isResident_21
    · replace hF := fb_neg c5 hF
      refine lv_iconst (v := 1) X.1 X.2.1 dX2_isResident_16 (by decide) ?_
      refine lv_goto (tgt := 21) X.1 X.2.1 dX2_isResident_17 (by decide) ?_
      exact rt_z X hlk hr hI rfl (fb_pr hF) dX2_isResident_21
abbrev rm_X2_isActive : Room := { frames := 1, cells := 0, slots := 0, locals := 20 }
def f_X2_isActive (x1 : Int32) (σ : St) : Option Int32 :=
  (f_X4_isSegment x1 σ).bind fun u1 =>
  if u1 = 0 then
    some 0
  else
    if inB x1 5 = true then
      if (gA σ 3 x1) ≤ 0 then
        some 0
      else
        some 1
    else none
set_option maxHeartbeats 4000000 in
set_option maxRecDepth 100000 in
theorem m_X2_isActive (l : Launch) (D : va_G) (ty : Nat → ClassId) (q : Nat → Nat) (σ : St) (sz : Nat) (x1 : Int32) {rr : Int32} (hF : f_X2_isActive x1 σ = some rr) : Met l yX2_isActive (wsy yX2_isActive cX2_isActive 2 (some .boolean)) rm_X2_isActive (Pcw D ty (FxC q) (wC ty q σ) sz [.ref (q 3), .int x1]) (Qiw D ty (wC ty q) (va_A (wC ty q σ) sz) (rr, σ)) 0 0 (va_A (wC ty q σ) sz) := by
  refine en_w (Qc := fun A => Qiw D ty (wC ty q) A (rr, σ)) (by decide) (Nat.le_of_ble_eq_true rfl) ?_
  intro p e s m args below meth c A X hlk hr _ H locs hI ls hl
  have X : CallFix p m c cX2_isActive 2 s args tb RX2 := X
  have hl : lv_has ls 2 [(0, .ref (q 3)), (1, .int x1)] := hl
  unfold f_X2_isActive at hF
  refine lv_iload_n X.1 X.2.1 dX2_isActive_0 rfl (lv_at hl 1 rfl) ?_
  obtain ⟨u1, h2, hF⟩ := fb_bnd hF
  refine cn_i (w := wC ty q) (σ := σ) (rest := []) X (fxC q) hI (m_X4_isSegment l D ty q σ _ x1 h2) ok_X4_isSegment hI.2.2.2.2.2.2.2.2.2.2 ⟨rfl, rfl, Nat.le_of_ble_eq_true rfl, Nat.le_of_ble_eq_true rfl⟩ rfl hl.1 rfl (Nat.le_of_ble_eq_true rfl) ⟨Nat.zero_le _, Nat.zero_le _⟩ dX2_isActive_1 (fun H locs hI => ?_)
  refine lv_if_eq (tgt := 20) X.1 X.2.1 dX2_isActive_4 (by decide) (fun c3 => ?_) (fun c3 => ?_)
  · replace hF := fb_pos c3 hF
    refine lv_iconst (v := 0) X.1 X.2.1 dX2_isActive_20 (by decide) ?_
    exact rt_z X hlk hr hI rfl (fb_pr hF) dX2_isActive_21
  · replace hF := fb_neg c3 hF
    refine lv_aload_n X.1 X.2.1 dX2_isActive_7 rfl (lv_at hl 0 rfl) ?_
    refine g_X2_frameCounts X hI dX2_isActive_8 ?_
    refine lv_iload_n X.1 X.2.1 dX2_isActive_11 rfl (lv_at hl 1 rfl) ?_
    obtain ⟨h4, hF⟩ := fb_chk hF
    refine aC_3 (v := gA σ 3 x1) X hI rfl h4 dX2_isActive_12 ?_
    refine lv_if_le (tgt := 20) X.1 X.2.1 dX2_isActive_13 (by decide) (fun c5 => ?_) (fun c5 => ?_)
    · replace hF := fb_pos c5 hF
      refine lv_iconst (v := 0) X.1 X.2.1 dX2_isActive_20 (by decide) ?_
      exact rt_z X hlk hr hI rfl (fb_pr hF) dX2_isActive_21
    · replace hF := fb_neg c5 hF
      refine lv_iconst (v := 1) X.1 X.2.1 dX2_isActive_16 (by decide) ?_
      refine lv_goto (tgt := 21) X.1 X.2.1 dX2_isActive_17 (by decide) ?_
      exact rt_z X hlk hr hI rfl (fb_pr hF) dX2_isActive_21
abbrev rm_X2_leastLatelyCalled : Room := { frames := 0, cells := 0, slots := 0, locals := 0 }
def b_X2_leastLatelyCalled_4 : Nat → Int32 → Int32 → Int32 → St → Option Int32
  | 0, _, _, _, _ => none
  | n + 1, x1, x2, x3, σ =>
    if 5 ≤ x3 then
      some x2
    else
      if x3 = x1 then
        b_X2_leastLatelyCalled_4 n x1 x2 (x3 + 1) σ
      else
        if inB x3 5 = true then
          if (gA σ 2 x3) ≤ 0 then
            b_X2_leastLatelyCalled_4 n x1 x2 (x3 + 1) σ
          else
            if inB x3 5 = true then
              if (gA σ 3 x3) = 0 then
                if x2 = (-1) then
                  b_X2_leastLatelyCalled_4 n x1 x3 (x3 + 1) σ
                else
                  if inB x3 5 = true then
                    if inB x2 5 = true then
                      if (gA σ 4 x2) ≤ (gA σ 4 x3) then
                        b_X2_leastLatelyCalled_4 n x1 x2 (x3 + 1) σ
                      else
                        b_X2_leastLatelyCalled_4 n x1 x3 (x3 + 1) σ
                    else none
                  else none
              else
                b_X2_leastLatelyCalled_4 n x1 x2 (x3 + 1) σ
            else none
        else none
set_option maxHeartbeats 4000000 in
set_option maxRecDepth 100000 in
theorem w_b_X2_leastLatelyCalled_4 {l : Launch} {p : Program} {e : Env} {s : State} {m : MethodId} {args : Array Value} {below : List Frame} {meth : Method} {c : Code} {A : Nat → Prop} {D : va_G} {ty : Nat → ClassId} {q : Nat → Nat} {rr : Int32} (X : CallFix p m c cX2_leastLatelyCalled 5 s args tb RX2) (hlk : meth.locks = false) (hr : meth.sig.returnType = (some .int)) : ∀ (n : Nat) (x1 x2 x3 : Int32) (σ : St) (H : Heap) (locs : List Loc) (ls : Array Slot), b_X2_leastLatelyCalled_4 n x1 x2 x3 σ = some rr → Inw D ty (FxC q) (wC ty q σ) A s H locs → lv_has ls 5 [(0, .ref (q 3)), (1, .int x1), (2, .int x2), (3, .int x3)] → W p l e rm_X2_leastLatelyCalled s m args below meth c H locs 0 0 (MQ below (Qiw D ty (wC ty q) A (rr, σ)) args s 0 0 A) (F0 m 4 ls []) := by
  intro n
  induction n with
  | zero =>
    intro x1 x2 x3 σ H locs ls hF
    cases hF
  | succ n ih =>
    intro x1 x2 x3 σ H locs ls hF hI hl
    rw [b_X2_leastLatelyCalled_4] at hF
    refine lv_iload_n X.1 X.2.1 dX2_leastLatelyCalled_4 rfl (lv_at hl 3 rfl) ?_
    refine lv_iconst (v := 5) X.1 X.2.1 dX2_leastLatelyCalled_5 (by decide) ?_
    refine lv_icmp_ge (tgt := 72) X.1 X.2.1 dX2_leastLatelyCalled_6 (by decide) (fun c1 => ?_) (fun c1 => ?_)
    · replace hF := fb_pos c1 hF
      refine lv_iload_n X.1 X.2.1 dX2_leastLatelyCalled_72 rfl (lv_at hl 2 rfl) ?_
      exact rt_i X hlk hr hI (fb_pr hF) dX2_leastLatelyCalled_73
    · replace hF := fb_neg c1 hF
      refine lv_iload_n X.1 X.2.1 dX2_leastLatelyCalled_9 rfl (lv_at hl 3 rfl) ?_
      refine lv_iload_n X.1 X.2.1 dX2_leastLatelyCalled_10 rfl (lv_at hl 1 rfl) ?_
      refine lv_icmp_eq (tgt := 36) X.1 X.2.1 dX2_leastLatelyCalled_11 (by decide) (fun c2 => ?_) (fun c2 => ?_)
      · replace hF := fb_pos c2 hF
        refine lv_iconst (v := 0) X.1 X.2.1 dX2_leastLatelyCalled_36 (by decide) ?_
        refine lv_istore (lv' := [(4, .int 0), (0, .ref (q 3)), (1, .int x1), (2, .int x2), (3, .int x3)]) X.1 X.2.1 dX2_leastLatelyCalled_37 hl (by decide) rfl (fun ls hl => ?_)
        refine lv_iload X.1 X.2.1 dX2_leastLatelyCalled_39 (lv_at hl 0 rfl) ?_
        refine lv_if_eq (tgt := 66) X.1 X.2.1 dX2_leastLatelyCalled_41 (by decide) (fun _ => ?_) (fun c => absurd (by decide) c)
        refine lv_iinc (v := x3 + 1) (lv' := [(3, .int (x3 + 1)), (4, .int 0), (0, .ref (q 3)), (1, .int x1), (2, .int x2)]) X.1 X.2.1 dX2_leastLatelyCalled_66 hl (k := 4) rfl rfl (by decide) rfl (fun ls hl => ?_)
        refine lv_goto (tgt := 4) X.1 X.2.1 dX2_leastLatelyCalled_69 (by decide) ?_
        exact ih x1 x2 (x3 + 1) _ _ _ ls hF hI (lv_sub hl [2, 3, 4, 0] rfl)
      · replace hF := fb_neg c2 hF
        refine lv_aload_n X.1 X.2.1 dX2_leastLatelyCalled_14 rfl (lv_at hl 0 rfl) ?_
        refine g_X2_residentBytes X hI dX2_leastLatelyCalled_15 ?_
        refine lv_iload_n X.1 X.2.1 dX2_leastLatelyCalled_18 rfl (lv_at hl 3 rfl) ?_
        obtain ⟨h3, hF⟩ := fb_chk hF
        refine aC_2 (v := gA σ 2 x3) X hI rfl h3 dX2_leastLatelyCalled_19 ?_
        refine lv_if_le (tgt := 36) X.1 X.2.1 dX2_leastLatelyCalled_20 (by decide) (fun c4 => ?_) (fun c4 => ?_)
        · replace hF := fb_pos c4 hF
          refine lv_iconst (v := 0) X.1 X.2.1 dX2_leastLatelyCalled_36 (by decide) ?_
          refine lv_istore (lv' := [(4, .int 0), (0, .ref (q 3)), (1, .int x1), (2, .int x2), (3, .int x3)]) X.1 X.2.1 dX2_leastLatelyCalled_37 hl (by decide) rfl (fun ls hl => ?_)
          refine lv_iload X.1 X.2.1 dX2_leastLatelyCalled_39 (lv_at hl 0 rfl) ?_
          refine lv_if_eq (tgt := 66) X.1 X.2.1 dX2_leastLatelyCalled_41 (by decide) (fun _ => ?_) (fun c => absurd (by decide) c)
          refine lv_iinc (v := x3 + 1) (lv' := [(3, .int (x3 + 1)), (4, .int 0), (0, .ref (q 3)), (1, .int x1), (2, .int x2)]) X.1 X.2.1 dX2_leastLatelyCalled_66 hl (k := 4) rfl rfl (by decide) rfl (fun ls hl => ?_)
          refine lv_goto (tgt := 4) X.1 X.2.1 dX2_leastLatelyCalled_69 (by decide) ?_
          exact ih x1 x2 (x3 + 1) _ _ _ ls hF hI (lv_sub hl [2, 3, 4, 0] rfl)
        · replace hF := fb_neg c4 hF
          refine lv_aload_n X.1 X.2.1 dX2_leastLatelyCalled_23 rfl (lv_at hl 0 rfl) ?_
          refine g_X2_frameCounts X hI dX2_leastLatelyCalled_24 ?_
          refine lv_iload_n X.1 X.2.1 dX2_leastLatelyCalled_27 rfl (lv_at hl 3 rfl) ?_
          obtain ⟨h5, hF⟩ := fb_chk hF
          refine aC_3 (v := gA σ 3 x3) X hI rfl h5 dX2_leastLatelyCalled_28 ?_
          refine lv_if_ne (tgt := 36) X.1 X.2.1 dX2_leastLatelyCalled_29 (by decide) (fun c6 => ?_) (fun c6 => ?_)
          · replace hF := fb_neg c6 hF
            refine lv_iconst (v := 0) X.1 X.2.1 dX2_leastLatelyCalled_36 (by decide) ?_
            refine lv_istore (lv' := [(4, .int 0), (0, .ref (q 3)), (1, .int x1), (2, .int x2), (3, .int x3)]) X.1 X.2.1 dX2_leastLatelyCalled_37 hl (by decide) rfl (fun ls hl => ?_)
            refine lv_iload X.1 X.2.1 dX2_leastLatelyCalled_39 (lv_at hl 0 rfl) ?_
            refine lv_if_eq (tgt := 66) X.1 X.2.1 dX2_leastLatelyCalled_41 (by decide) (fun _ => ?_) (fun c => absurd (by decide) c)
            refine lv_iinc (v := x3 + 1) (lv' := [(3, .int (x3 + 1)), (4, .int 0), (0, .ref (q 3)), (1, .int x1), (2, .int x2)]) X.1 X.2.1 dX2_leastLatelyCalled_66 hl (k := 4) rfl rfl (by decide) rfl (fun ls hl => ?_)
            refine lv_goto (tgt := 4) X.1 X.2.1 dX2_leastLatelyCalled_69 (by decide) ?_
            exact ih x1 x2 (x3 + 1) _ _ _ ls hF hI (lv_sub hl [2, 3, 4, 0] rfl)
          · replace hF := fb_pos c6 hF
            refine lv_iconst (v := 1) X.1 X.2.1 dX2_leastLatelyCalled_32 (by decide) ?_
            refine lv_goto (tgt := 37) X.1 X.2.1 dX2_leastLatelyCalled_33 (by decide) ?_
            refine lv_istore (lv' := [(4, .int 1), (0, .ref (q 3)), (1, .int x1), (2, .int x2), (3, .int x3)]) X.1 X.2.1 dX2_leastLatelyCalled_37 hl (by decide) rfl (fun ls hl => ?_)
            refine lv_iload X.1 X.2.1 dX2_leastLatelyCalled_39 (lv_at hl 0 rfl) ?_
            refine lv_if_eq (tgt := 66) X.1 X.2.1 dX2_leastLatelyCalled_41 (by decide) (fun c => absurd c (by decide)) (fun _ => ?_)
            refine lv_iload_n X.1 X.2.1 dX2_leastLatelyCalled_44 rfl (lv_at hl 3 rfl) ?_
            refine lv_iconst (v := (-1)) X.1 X.2.1 dX2_leastLatelyCalled_45 (by decide) ?_
            refine lv_icmp_eq (tgt := 64) X.1 X.2.1 dX2_leastLatelyCalled_46 (by decide) (fun c7 => ?_) (fun c7 => ?_)
            · replace hF := fb_pos c7 hF
              refine lv_iload_n X.1 X.2.1 dX2_leastLatelyCalled_64 rfl (lv_at hl 4 rfl) ?_
              refine lv_istore_n (lv' := [(2, .int x3), (4, .int 1), (0, .ref (q 3)), (1, .int x1), (3, .int x3)]) X.1 X.2.1 dX2_leastLatelyCalled_65 rfl hl (by decide) rfl (fun ls hl => ?_)
              refine lv_iinc (v := x3 + 1) (lv' := [(3, .int (x3 + 1)), (2, .int x3), (4, .int 1), (0, .ref (q 3)), (1, .int x1)]) X.1 X.2.1 dX2_leastLatelyCalled_66 hl (k := 4) rfl rfl (by decide) rfl (fun ls hl => ?_)
              refine lv_goto (tgt := 4) X.1 X.2.1 dX2_leastLatelyCalled_69 (by decide) ?_
              exact ih x1 x3 (x3 + 1) _ _ _ ls hF hI (lv_sub hl [3, 4, 1, 0] rfl)
            · replace hF := fb_neg c7 hF
              refine lv_aload_n X.1 X.2.1 dX2_leastLatelyCalled_49 rfl (lv_at hl 1 rfl) ?_
              refine g_X2_latestCalls X hI dX2_leastLatelyCalled_50 ?_
              refine lv_iload_n X.1 X.2.1 dX2_leastLatelyCalled_53 rfl (lv_at hl 4 rfl) ?_
              obtain ⟨h8, hF⟩ := fb_chk hF
              refine aC_4 (v := gA σ 4 x3) X hI rfl h8 dX2_leastLatelyCalled_54 ?_
              refine lv_aload_n X.1 X.2.1 dX2_leastLatelyCalled_55 rfl (lv_at hl 1 rfl) ?_
              refine g_X2_latestCalls X hI dX2_leastLatelyCalled_56 ?_
              refine lv_iload_n X.1 X.2.1 dX2_leastLatelyCalled_59 rfl (lv_at hl 3 rfl) ?_
              obtain ⟨h9, hF⟩ := fb_chk hF
              refine aC_4 (v := gA σ 4 x2) X hI rfl h9 dX2_leastLatelyCalled_60 ?_
              refine lv_icmp_ge (tgt := 66) X.1 X.2.1 dX2_leastLatelyCalled_61 (by decide) (fun c10 => ?_) (fun c10 => ?_)
              · replace hF := fb_pos c10 hF
                refine lv_iinc (v := x3 + 1) (lv' := [(3, .int (x3 + 1)), (4, .int 1), (0, .ref (q 3)), (1, .int x1), (2, .int x2)]) X.1 X.2.1 dX2_leastLatelyCalled_66 hl (k := 4) rfl rfl (by decide) rfl (fun ls hl => ?_)
                refine lv_goto (tgt := 4) X.1 X.2.1 dX2_leastLatelyCalled_69 (by decide) ?_
                exact ih x1 x2 (x3 + 1) _ _ _ ls hF hI (lv_sub hl [2, 3, 4, 0] rfl)
              · replace hF := fb_neg c10 hF
                refine lv_iload_n X.1 X.2.1 dX2_leastLatelyCalled_64 rfl (lv_at hl 4 rfl) ?_
                refine lv_istore_n (lv' := [(2, .int x3), (4, .int 1), (0, .ref (q 3)), (1, .int x1), (3, .int x3)]) X.1 X.2.1 dX2_leastLatelyCalled_65 rfl hl (by decide) rfl (fun ls hl => ?_)
                refine lv_iinc (v := x3 + 1) (lv' := [(3, .int (x3 + 1)), (2, .int x3), (4, .int 1), (0, .ref (q 3)), (1, .int x1)]) X.1 X.2.1 dX2_leastLatelyCalled_66 hl (k := 4) rfl rfl (by decide) rfl (fun ls hl => ?_)
                refine lv_goto (tgt := 4) X.1 X.2.1 dX2_leastLatelyCalled_69 (by decide) ?_
                exact ih x1 x3 (x3 + 1) _ _ _ ls hF hI (lv_sub hl [3, 4, 1, 0] rfl)
def f_X2_leastLatelyCalled (x1 : Int32) (σ : St) : Option Int32 :=
  b_X2_leastLatelyCalled_4 6 x1 (-1) 0 σ
set_option maxHeartbeats 4000000 in
set_option maxRecDepth 100000 in
theorem m_X2_leastLatelyCalled (l : Launch) (D : va_G) (ty : Nat → ClassId) (q : Nat → Nat) (σ : St) (sz : Nat) (x1 : Int32) {rr : Int32} (hF : f_X2_leastLatelyCalled x1 σ = some rr) : Met l yX2_leastLatelyCalled (wsy yX2_leastLatelyCalled cX2_leastLatelyCalled 5 (some .int)) rm_X2_leastLatelyCalled (Pcw D ty (FxC q) (wC ty q σ) sz [.ref (q 3), .int x1]) (Qiw D ty (wC ty q) (va_A (wC ty q σ) sz) (rr, σ)) 0 0 (va_A (wC ty q σ) sz) := by
  refine en_w (Qc := fun A => Qiw D ty (wC ty q) A (rr, σ)) (by decide) (Nat.le_of_ble_eq_true rfl) ?_
  intro p e s m args below meth c A X hlk hr _ H locs hI ls hl
  have X : CallFix p m c cX2_leastLatelyCalled 5 s args tb RX2 := X
  have hl : lv_has ls 5 [(0, .ref (q 3)), (1, .int x1)] := hl
  unfold f_X2_leastLatelyCalled at hF
  refine lv_iconst (v := (-1)) X.1 X.2.1 dX2_leastLatelyCalled_0 (by decide) ?_
  refine lv_istore_n (lv' := [(2, .int (-1)), (0, .ref (q 3)), (1, .int x1)]) X.1 X.2.1 dX2_leastLatelyCalled_1 rfl hl (by decide) rfl (fun ls hl => ?_)
  refine lv_iconst (v := 0) X.1 X.2.1 dX2_leastLatelyCalled_2 (by decide) ?_
  refine lv_istore_n (lv' := [(3, .int 0), (2, .int (-1)), (0, .ref (q 3)), (1, .int x1)]) X.1 X.2.1 dX2_leastLatelyCalled_3 rfl hl (by decide) rfl (fun ls hl => ?_)
  exact w_b_X2_leastLatelyCalled_4 X hlk hr 6 x1 (-1) 0 _ _ _ ls hF hI (lv_sub hl [2, 3, 1, 0] rfl)
abbrev rm_X2_hold : Room := { frames := 1, cells := 0, slots := 0, locals := 29 }
def b_X2_hold_75 (x1 : Int32) (σ : St) : Option (Int32 × St) :=
  if ((gI σ 5) + x1) ≤ (gI σ 4) then
    some (1, sI (sI σ 5 ((gI σ 5) + x1)) 6 (if (gI σ 6) < ((gI σ 5) + x1) then ((gI σ 5) + x1) else (gI σ 6)))
  else
    some (0, σ)
set_option maxHeartbeats 4000000 in
set_option maxRecDepth 100000 in
theorem w_b_X2_hold_75 {l : Launch} {p : Program} {e : Env} {s : State} {m : MethodId} {args : Array Value} {below : List Frame} {meth : Method} {c : Code} {A : Nat → Prop} {D : va_G} {ty : Nat → ClassId} {q : Nat → Nat} {res : Int32 × St} (X : CallFix p m c cX2_hold 5 s args tb RX2) (hlk : meth.locks = false) (hr : meth.sig.returnType = (some .boolean)) {σ : St} {H : Heap} {locs : List Loc} (hI : Inw D ty (FxC q) (wC ty q σ) A s H locs) (x1 : Int32) (hF : b_X2_hold_75 x1 σ = some res) (ls : Array Slot) (hl : lv_has ls 5 [(0, .ref (q 3)), (1, .int x1)]) : W p l e rm_X2_hold s m args below meth c H locs 0 0 (MQ below (Qiw D ty (wC ty q) A res) args s 0 0 A) (F0 m 75 ls []) := by
  unfold b_X2_hold_75 at hF
  refine lv_aload_n X.1 X.2.1 dX2_hold_75 rfl (lv_at hl 0 rfl) ?_
  refine g_X2_held (v := gI σ 5) X hI rfl dX2_hold_76 ?_
  refine lv_iload_n X.1 X.2.1 dX2_hold_79 rfl (lv_at hl 1 rfl) ?_
  refine lv_iadd X.1 X.2.1 dX2_hold_80 ?_
  refine lv_aload_n X.1 X.2.1 dX2_hold_81 rfl (lv_at hl 0 rfl) ?_
  refine g_X2_limit (v := gI σ 4) X hI rfl dX2_hold_82 ?_
  refine lv_icmp_le (tgt := 90) X.1 X.2.1 dX2_hold_85 (by decide) (fun c2 => ?_) (fun c2 => ?_)
  · replace hF := fb_pos c2 hF
    refine lv_aload_n X.1 X.2.1 dX2_hold_90 rfl (lv_at hl 0 rfl) ?_
    refine lv_dup X.1 X.2.1 dX2_hold_91 rfl ?_
    refine g_X2_held (v := gI σ 5) X hI rfl dX2_hold_92 ?_
    refine lv_iload_n X.1 X.2.1 dX2_hold_95 rfl (lv_at hl 1 rfl) ?_
    refine lv_iadd X.1 X.2.1 dX2_hold_96 ?_
    refine p_X2_held X hI dX2_hold_97 (fun H locs hI => ?_)
    refine lv_aload_n X.1 X.2.1 dX2_hold_100 rfl (lv_at hl 0 rfl) ?_
    refine lv_aload_n X.1 X.2.1 dX2_hold_101 rfl (lv_at hl 0 rfl) ?_
    refine g_X2_most (v := gI σ 6) X hI rfl dX2_hold_102 ?_
    refine lv_aload_n X.1 X.2.1 dX2_hold_105 rfl (lv_at hl 0 rfl) ?_
    refine g_X2_held (v := ((gI σ 5) + x1)) X hI rfl dX2_hold_106 ?_
    refine mx_i X hl.1 ml_X2_58 kw_ms kw_mi kw_mc ⟨Nat.le_of_ble_eq_true rfl, Nat.le_of_ble_eq_true rfl⟩ ⟨Nat.zero_le _, Nat.zero_le _⟩ dX2_hold_109 ?_
    refine p_X2_most X hI dX2_hold_112 (fun H locs hI => ?_)
    refine lv_iconst (v := 1) X.1 X.2.1 dX2_hold_115 (by decide) ?_
    exact rt_z X hlk hr hI rfl hF dX2_hold_116
  · replace hF := fb_neg c2 hF
    refine lv_iconst (v := 0) X.1 X.2.1 dX2_hold_88 (by decide) ?_
    exact rt_z X hlk hr hI rfl hF dX2_hold_89
def b_X2_hold_2 : Nat → Int32 → Int32 → Int32 → St → Option (Int32 × St)
  | 0, _, _, _, _ => none
  | n + 1, x1, x2, x3, σ =>
    if ((gI σ 5) + x1) ≤ (gI σ 4) then
      b_X2_hold_75 x1 σ
    else
      if 5 ≤ x3 then
        b_X2_hold_75 x1 σ
      else
        (f_X2_leastLatelyCalled x2 σ).bind fun u4 =>
        if u4 = (-1) then
          some (0, σ)
        else
          if inB u4 5 = true then
            if inB u4 5 = true then
              b_X2_hold_2 n x1 x2 (x3 + 1) (sI (sA (sI σ 5 ((gI σ 5) - (gA σ 2 u4))) 2 u4 0) 8 ((gI σ 8) + 1))
            else none
          else none
set_option maxHeartbeats 4000000 in
set_option maxRecDepth 100000 in
theorem w_b_X2_hold_2 {l : Launch} {p : Program} {e : Env} {s : State} {m : MethodId} {args : Array Value} {below : List Frame} {meth : Method} {c : Code} {A : Nat → Prop} {D : va_G} {ty : Nat → ClassId} {q : Nat → Nat} {res : Int32 × St} (X : CallFix p m c cX2_hold 5 s args tb RX2) (hlk : meth.locks = false) (hr : meth.sig.returnType = (some .boolean)) : ∀ (n : Nat) (x1 x2 x3 : Int32) (σ : St) (H : Heap) (locs : List Loc) (ls : Array Slot), b_X2_hold_2 n x1 x2 x3 σ = some res → Inw D ty (FxC q) (wC ty q σ) A s H locs → lv_has ls 5 [(0, .ref (q 3)), (1, .int x1), (2, .int x2), (3, .int x3)] → W p l e rm_X2_hold s m args below meth c H locs 0 0 (MQ below (Qiw D ty (wC ty q) A res) args s 0 0 A) (F0 m 2 ls []) := by
  intro n
  induction n with
  | zero =>
    intro x1 x2 x3 σ H locs ls hF
    cases hF
  | succ n ih =>
    intro x1 x2 x3 σ H locs ls hF hI hl
    rw [b_X2_hold_2] at hF
    refine lv_aload_n X.1 X.2.1 dX2_hold_2 rfl (lv_at hl 0 rfl) ?_
    refine g_X2_held (v := gI σ 5) X hI rfl dX2_hold_3 ?_
    refine lv_iload_n X.1 X.2.1 dX2_hold_6 rfl (lv_at hl 1 rfl) ?_
    refine lv_iadd X.1 X.2.1 dX2_hold_7 ?_
    refine lv_aload_n X.1 X.2.1 dX2_hold_8 rfl (lv_at hl 0 rfl) ?_
    refine g_X2_limit (v := gI σ 4) X hI rfl dX2_hold_9 ?_
    refine lv_icmp_le (tgt := 75) X.1 X.2.1 dX2_hold_12 (by decide) (fun c1 => ?_) (fun c1 => ?_)
    · replace hF := fb_pos c1 hF
      exact w_b_X2_hold_75 X hlk hr hI x1 hF ls (lv_sub hl [0, 1] rfl)
    · replace hF := fb_neg c1 hF
      refine lv_iload_n X.1 X.2.1 dX2_hold_15 rfl (lv_at hl 3 rfl) ?_
      refine lv_iconst (v := 5) X.1 X.2.1 dX2_hold_16 (by decide) ?_
      refine lv_icmp_ge (tgt := 75) X.1 X.2.1 dX2_hold_17 (by decide) (fun c3 => ?_) (fun c3 => ?_)
      · replace hF := fb_pos c3 hF
        exact w_b_X2_hold_75 X hlk hr hI x1 hF ls (lv_sub hl [0, 1] rfl)
      · replace hF := fb_neg c3 hF
        refine lv_aload_n X.1 X.2.1 dX2_hold_20 rfl (lv_at hl 0 rfl) ?_
        refine lv_iload_n X.1 X.2.1 dX2_hold_21 rfl (lv_at hl 2 rfl) ?_
        obtain ⟨u4, h5, hF⟩ := fb_bnd hF
        refine cl_i (w := wC ty q) (σ := σ) (rest := []) X (fxC q) hI (m_X2_leastLatelyCalled l D ty q σ _ x2 h5) ok_X2_leastLatelyCalled ml_X2_54 ⟨rfl, rfl, Nat.le_of_ble_eq_true rfl, Nat.le_of_ble_eq_true rfl⟩ 3 rc_X2 rfl rfl hl.1 rfl (Nat.le_of_ble_eq_true rfl) ⟨Nat.zero_le _, Nat.zero_le _⟩ dX2_hold_22 (fun H locs hI => ?_)
        refine lv_istore (lv' := [(4, .int u4), (0, .ref (q 3)), (1, .int x1), (2, .int x2), (3, .int x3)]) X.1 X.2.1 dX2_hold_25 hl (by decide) rfl (fun ls hl => ?_)
        refine lv_iload X.1 X.2.1 dX2_hold_27 (lv_at hl 0 rfl) ?_
        refine lv_iconst (v := (-1)) X.1 X.2.1 dX2_hold_29 (by decide) ?_
        refine lv_icmp_ne (tgt := 35) X.1 X.2.1 dX2_hold_30 (by decide) (fun c6 => ?_) (fun c6 => ?_)
        · replace hF := fb_neg c6 hF
          refine lv_aload_n X.1 X.2.1 dX2_hold_35 rfl (lv_at hl 1 rfl) ?_
          refine lv_dup X.1 X.2.1 dX2_hold_36 rfl ?_
          refine g_X2_held (v := gI σ 5) X hI rfl dX2_hold_37 ?_
          refine lv_aload_n X.1 X.2.1 dX2_hold_40 rfl (lv_at hl 1 rfl) ?_
          refine g_X2_residentBytes X hI dX2_hold_41 ?_
          refine lv_iload X.1 X.2.1 dX2_hold_44 (lv_at hl 0 rfl) ?_
          obtain ⟨h7, hF⟩ := fb_chk hF
          refine aC_2 (v := gA σ 2 u4) X hI rfl h7 dX2_hold_46 ?_
          refine lv_isub X.1 X.2.1 dX2_hold_47 ?_
          refine p_X2_held X hI dX2_hold_48 (fun H locs hI => ?_)
          refine lv_aload_n X.1 X.2.1 dX2_hold_51 rfl (lv_at hl 1 rfl) ?_
          refine g_X2_residentBytes X hI dX2_hold_52 ?_
          refine lv_iload X.1 X.2.1 dX2_hold_55 (lv_at hl 0 rfl) ?_
          refine lv_iconst (v := 0) X.1 X.2.1 dX2_hold_57 (by decide) ?_
          obtain ⟨h8, hF⟩ := fb_chk hF
          refine sC_2 X hI h8 dX2_hold_58 (fun H locs hI => ?_)
          refine lv_aload_n X.1 X.2.1 dX2_hold_59 rfl (lv_at hl 1 rfl) ?_
          refine lv_dup X.1 X.2.1 dX2_hold_60 rfl ?_
          refine g_X2_gone (v := gI σ 8) X hI rfl dX2_hold_61 ?_
          refine lv_iconst (v := 1) X.1 X.2.1 dX2_hold_64 (by decide) ?_
          refine lv_iadd X.1 X.2.1 dX2_hold_65 ?_
          refine p_X2_gone X hI dX2_hold_66 (fun H locs hI => ?_)
          refine lv_iinc (v := x3 + 1) (lv' := [(3, .int (x3 + 1)), (4, .int u4), (0, .ref (q 3)), (1, .int x1), (2, .int x2)]) X.1 X.2.1 dX2_hold_69 hl (k := 4) rfl rfl (by decide) rfl (fun ls hl => ?_)
          refine lv_goto (tgt := 2) X.1 X.2.1 dX2_hold_72 (by decide) ?_
          exact ih x1 x2 (x3 + 1) _ _ _ ls hF hI (lv_sub hl [2, 3, 4, 0] rfl)
        · replace hF := fb_pos c6 hF
          refine lv_iconst (v := 0) X.1 X.2.1 dX2_hold_33 (by decide) ?_
          exact rt_z X hlk hr hI rfl hF dX2_hold_34
def f_X2_hold (x1 x2 : Int32) (σ : St) : Option (Int32 × St) :=
  b_X2_hold_2 6 x1 x2 0 σ
set_option maxHeartbeats 4000000 in
set_option maxRecDepth 100000 in
theorem m_X2_hold (l : Launch) (D : va_G) (ty : Nat → ClassId) (q : Nat → Nat) (σ : St) (sz : Nat) (x1 x2 : Int32) {res : Int32 × St} (hF : f_X2_hold x1 x2 σ = some res) : Met l yX2_hold (wsy yX2_hold cX2_hold 5 (some .boolean)) rm_X2_hold (Pcw D ty (FxC q) (wC ty q σ) sz [.ref (q 3), .int x1, .int x2]) (Qiw D ty (wC ty q) (va_A (wC ty q σ) sz) res) 0 0 (va_A (wC ty q σ) sz) := by
  refine en_w (Qc := fun A => Qiw D ty (wC ty q) A res) (by decide) (Nat.le_of_ble_eq_true rfl) ?_
  intro p e s m args below meth c A X hlk hr _ H locs hI ls hl
  have X : CallFix p m c cX2_hold 5 s args tb RX2 := X
  have hl : lv_has ls 5 [(0, .ref (q 3)), (1, .int x1), (2, .int x2)] := hl
  unfold f_X2_hold at hF
  refine lv_iconst (v := 0) X.1 X.2.1 dX2_hold_0 (by decide) ?_
  refine lv_istore_n (lv' := [(3, .int 0), (0, .ref (q 3)), (1, .int x1), (2, .int x2)]) X.1 X.2.1 dX2_hold_1 rfl hl (by decide) rfl (fun ls hl => ?_)
  exact w_b_X2_hold_2 X hlk hr 6 x1 x2 0 _ _ _ ls hF hI (lv_sub hl [1, 2, 3, 0] rfl)
abbrev rm_X2_bringIn : Room := { frames := 2, cells := 0, slots := 0, locals := 53 }
def f_X2_bringIn (x1 x2 : Int32) (σ : St) : Option (Int32 × St) :=
  (f_X4_isSegment x1 σ).bind fun u1 =>
  if u1 = 0 then
    (f_X4_isSegment x1 σ).bind fun u4 =>
    some (vp_nar .boolean u4, σ)
  else
    (f_X2_isResident x1 σ).bind fun u6 =>
    if u6 = 0 then
      (f_X2_hold x2 x1 σ).bind fun u9 =>
      if u9.1 = 0 then
        some (0, u9.2)
      else
        if inB x1 5 = true then
          some (1, sI (sA u9.2 2 x1 x2) 7 ((gI u9.2 7) + 1))
        else none
    else
      (f_X4_isSegment x1 σ).bind fun u13 =>
      some (vp_nar .boolean u13, σ)
set_option maxHeartbeats 4000000 in
set_option maxRecDepth 100000 in
theorem m_X2_bringIn (l : Launch) (D : va_G) (ty : Nat → ClassId) (q : Nat → Nat) (σ : St) (sz : Nat) (x1 x2 : Int32) {res : Int32 × St} (hF : f_X2_bringIn x1 x2 σ = some res) : Met l yX2_bringIn (wsy yX2_bringIn cX2_bringIn 3 (some .boolean)) rm_X2_bringIn (Pcw D ty (FxC q) (wC ty q σ) sz [.ref (q 3), .int x1, .int x2]) (Qiw D ty (wC ty q) (va_A (wC ty q σ) sz) res) 0 0 (va_A (wC ty q σ) sz) := by
  refine en_w (Qc := fun A => Qiw D ty (wC ty q) A res) (by decide) (Nat.le_of_ble_eq_true rfl) ?_
  intro p e s m args below meth c A X hlk hr _ H locs hI ls hl
  have X : CallFix p m c cX2_bringIn 3 s args tb RX2 := X
  have hl : lv_has ls 3 [(0, .ref (q 3)), (1, .int x1), (2, .int x2)] := hl
  unfold f_X2_bringIn at hF
  refine lv_iload_n X.1 X.2.1 dX2_bringIn_0 rfl (lv_at hl 1 rfl) ?_
  obtain ⟨u1, h2, hF⟩ := fb_bnd hF
  refine cn_i (w := wC ty q) (σ := σ) (rest := []) X (fxC q) hI (m_X4_isSegment l D ty q σ _ x1 h2) ok_X4_isSegment hI.2.2.2.2.2.2.2.2.2.2 ⟨rfl, rfl, Nat.le_of_ble_eq_true rfl, Nat.le_of_ble_eq_true rfl⟩ rfl hl.1 rfl (Nat.le_of_ble_eq_true rfl) ⟨Nat.zero_le _, Nat.zero_le _⟩ dX2_bringIn_1 (fun H locs hI => ?_)
  refine lv_if_eq (tgt := 15) X.1 X.2.1 dX2_bringIn_4 (by decide) (fun c3 => ?_) (fun c3 => ?_)
  · replace hF := fb_pos c3 hF
    refine lv_iload_n X.1 X.2.1 dX2_bringIn_15 rfl (lv_at hl 1 rfl) ?_
    obtain ⟨u4, h5, hF⟩ := fb_bnd hF
    refine cn_i (w := wC ty q) (σ := σ) (rest := []) X (fxC q) hI (m_X4_isSegment l D ty q σ _ x1 h5) ok_X4_isSegment hI.2.2.2.2.2.2.2.2.2.2 ⟨rfl, rfl, Nat.le_of_ble_eq_true rfl, Nat.le_of_ble_eq_true rfl⟩ rfl hl.1 rfl (Nat.le_of_ble_eq_true rfl) ⟨Nat.zero_le _, Nat.zero_le _⟩ dX2_bringIn_16 (fun H locs hI => ?_)
    exact rt_b X hlk hr hI hF dX2_bringIn_19
  · replace hF := fb_neg c3 hF
    refine lv_aload_n X.1 X.2.1 dX2_bringIn_7 rfl (lv_at hl 0 rfl) ?_
    refine lv_iload_n X.1 X.2.1 dX2_bringIn_8 rfl (lv_at hl 1 rfl) ?_
    obtain ⟨u6, h7, hF⟩ := fb_bnd hF
    refine cl_i (w := wC ty q) (σ := σ) (rest := []) X (fxC q) hI (m_X2_isResident l D ty q σ _ x1 h7) ok_X2_isResident ml_X2_44 ⟨rfl, rfl, Nat.le_of_ble_eq_true rfl, Nat.le_of_ble_eq_true rfl⟩ 3 rc_X2 rfl rfl hl.1 rfl (Nat.le_of_ble_eq_true rfl) ⟨Nat.zero_le _, Nat.zero_le _⟩ dX2_bringIn_9 (fun H locs hI => ?_)
    refine lv_if_eq (tgt := 20) X.1 X.2.1 dX2_bringIn_12 (by decide) (fun c8 => ?_) (fun c8 => ?_)
    · replace hF := fb_pos c8 hF
      refine lv_aload_n X.1 X.2.1 dX2_bringIn_20 rfl (lv_at hl 0 rfl) ?_
      refine lv_iload_n X.1 X.2.1 dX2_bringIn_21 rfl (lv_at hl 2 rfl) ?_
      refine lv_iload_n X.1 X.2.1 dX2_bringIn_22 rfl (lv_at hl 1 rfl) ?_
      obtain ⟨u9, h10, hF⟩ := fb_bnd hF
      refine cl_i (w := wC ty q) (σ := σ) (rest := []) X (fxC q) hI (m_X2_hold l D ty q σ _ x2 x1 h10) ok_X2_hold ml_X2_47 ⟨rfl, rfl, Nat.le_of_ble_eq_true rfl, Nat.le_of_ble_eq_true rfl⟩ 3 rc_X2 rfl rfl hl.1 rfl (Nat.le_of_ble_eq_true rfl) ⟨Nat.zero_le _, Nat.zero_le _⟩ dX2_bringIn_23 (fun H locs hI => ?_)
      refine lv_if_ne (tgt := 31) X.1 X.2.1 dX2_bringIn_26 (by decide) (fun c11 => ?_) (fun c11 => ?_)
      · replace hF := fb_neg c11 hF
        refine lv_aload_n X.1 X.2.1 dX2_bringIn_31 rfl (lv_at hl 0 rfl) ?_
        refine g_X2_residentBytes X hI dX2_bringIn_32 ?_
        refine lv_iload_n X.1 X.2.1 dX2_bringIn_35 rfl (lv_at hl 1 rfl) ?_
        refine lv_iload_n X.1 X.2.1 dX2_bringIn_36 rfl (lv_at hl 2 rfl) ?_
        obtain ⟨h12, hF⟩ := fb_chk hF
        refine sC_2 X hI h12 dX2_bringIn_37 (fun H locs hI => ?_)
        refine lv_aload_n X.1 X.2.1 dX2_bringIn_38 rfl (lv_at hl 0 rfl) ?_
        refine lv_dup X.1 X.2.1 dX2_bringIn_39 rfl ?_
        refine g_X2_loads (v := gI u9.2 7) X hI rfl dX2_bringIn_40 ?_
        refine lv_iconst (v := 1) X.1 X.2.1 dX2_bringIn_43 (by decide) ?_
        refine lv_iadd X.1 X.2.1 dX2_bringIn_44 ?_
        refine p_X2_loads X hI dX2_bringIn_45 (fun H locs hI => ?_)
        refine lv_iconst (v := 1) X.1 X.2.1 dX2_bringIn_48 (by decide) ?_
        exact rt_z X hlk hr hI rfl hF dX2_bringIn_49
      · replace hF := fb_pos c11 hF
        refine lv_iconst (v := 0) X.1 X.2.1 dX2_bringIn_29 (by decide) ?_
        exact rt_z X hlk hr hI rfl hF dX2_bringIn_30
    · replace hF := fb_neg c8 hF
      refine lv_iload_n X.1 X.2.1 dX2_bringIn_15 rfl (lv_at hl 1 rfl) ?_
      obtain ⟨u13, h14, hF⟩ := fb_bnd hF
      refine cn_i (w := wC ty q) (σ := σ) (rest := []) X (fxC q) hI (m_X4_isSegment l D ty q σ _ x1 h14) ok_X4_isSegment hI.2.2.2.2.2.2.2.2.2.2 ⟨rfl, rfl, Nat.le_of_ble_eq_true rfl, Nat.le_of_ble_eq_true rfl⟩ rfl hl.1 rfl (Nat.le_of_ble_eq_true rfl) ⟨Nat.zero_le _, Nat.zero_le _⟩ dX2_bringIn_16 (fun H locs hI => ?_)
      exact rt_b X hlk hr hI hF dX2_bringIn_19
abbrev rm_X2_addFrame : Room := { frames := 2, cells := 0, slots := 0, locals := 53 }
def f_X2_addFrame (x1 x2 : Int32) (σ : St) : Option (Int32 × St) :=
  (f_X4_isSegment x1 σ).bind fun u1 =>
  if u1 = 0 then
    some (0, σ)
  else
    (f_X2_hold x2 x1 σ).bind fun u4 =>
    if u4.1 = 0 then
      some (0, u4.2)
    else
      if inB x1 5 = true then
        if inB x1 5 = true then
          if inB x1 5 = true then
            some (1, sA (sI (sA u4.2 3 x1 ((gA u4.2 3 x1) + 1)) 3 ((gI u4.2 3) + 1)) 4 x1 ((gI u4.2 3) + 1))
          else none
        else none
      else none
set_option maxHeartbeats 4000000 in
set_option maxRecDepth 100000 in
theorem m_X2_addFrame (l : Launch) (D : va_G) (ty : Nat → ClassId) (q : Nat → Nat) (σ : St) (sz : Nat) (x1 x2 : Int32) {res : Int32 × St} (hF : f_X2_addFrame x1 x2 σ = some res) : Met l yX2_addFrame (wsy yX2_addFrame cX2_addFrame 3 (some .boolean)) rm_X2_addFrame (Pcw D ty (FxC q) (wC ty q σ) sz [.ref (q 3), .int x1, .int x2]) (Qiw D ty (wC ty q) (va_A (wC ty q σ) sz) res) 0 0 (va_A (wC ty q σ) sz) := by
  refine en_w (Qc := fun A => Qiw D ty (wC ty q) A res) (by decide) (Nat.le_of_ble_eq_true rfl) ?_
  intro p e s m args below meth c A X hlk hr _ H locs hI ls hl
  have X : CallFix p m c cX2_addFrame 3 s args tb RX2 := X
  have hl : lv_has ls 3 [(0, .ref (q 3)), (1, .int x1), (2, .int x2)] := hl
  unfold f_X2_addFrame at hF
  refine lv_iload_n X.1 X.2.1 dX2_addFrame_0 rfl (lv_at hl 1 rfl) ?_
  obtain ⟨u1, h2, hF⟩ := fb_bnd hF
  refine cn_i (w := wC ty q) (σ := σ) (rest := []) X (fxC q) hI (m_X4_isSegment l D ty q σ _ x1 h2) ok_X4_isSegment hI.2.2.2.2.2.2.2.2.2.2 ⟨rfl, rfl, Nat.le_of_ble_eq_true rfl, Nat.le_of_ble_eq_true rfl⟩ rfl hl.1 rfl (Nat.le_of_ble_eq_true rfl) ⟨Nat.zero_le _, Nat.zero_le _⟩ dX2_addFrame_1 (fun H locs hI => ?_)
  refine lv_if_eq (tgt := 16) X.1 X.2.1 dX2_addFrame_4 (by decide) (fun c3 => ?_) (fun c3 => ?_)
  · replace hF := fb_pos c3 hF
    refine lv_iconst (v := 0) X.1 X.2.1 dX2_addFrame_16 (by decide) ?_
    exact rt_z X hlk hr hI rfl hF dX2_addFrame_17
  · replace hF := fb_neg c3 hF
    refine lv_aload_n X.1 X.2.1 dX2_addFrame_7 rfl (lv_at hl 0 rfl) ?_
    refine lv_iload_n X.1 X.2.1 dX2_addFrame_8 rfl (lv_at hl 2 rfl) ?_
    refine lv_iload_n X.1 X.2.1 dX2_addFrame_9 rfl (lv_at hl 1 rfl) ?_
    obtain ⟨u4, h5, hF⟩ := fb_bnd hF
    refine cl_i (w := wC ty q) (σ := σ) (rest := []) X (fxC q) hI (m_X2_hold l D ty q σ _ x2 x1 h5) ok_X2_hold ml_X2_47 ⟨rfl, rfl, Nat.le_of_ble_eq_true rfl, Nat.le_of_ble_eq_true rfl⟩ 3 rc_X2 rfl rfl hl.1 rfl (Nat.le_of_ble_eq_true rfl) ⟨Nat.zero_le _, Nat.zero_le _⟩ dX2_addFrame_10 (fun H locs hI => ?_)
    refine lv_if_ne (tgt := 18) X.1 X.2.1 dX2_addFrame_13 (by decide) (fun c6 => ?_) (fun c6 => ?_)
    · replace hF := fb_neg c6 hF
      refine lv_aload_n X.1 X.2.1 dX2_addFrame_18 rfl (lv_at hl 0 rfl) ?_
      refine g_X2_frameCounts X hI dX2_addFrame_19 ?_
      refine lv_iload_n X.1 X.2.1 dX2_addFrame_22 rfl (lv_at hl 1 rfl) ?_
      refine lv_dup2_11 X.1 X.2.1 dX2_addFrame_23 rfl rfl ?_
      obtain ⟨h7, hF⟩ := fb_chk hF
      refine aC_3 (v := gA u4.2 3 x1) X hI rfl h7 dX2_addFrame_24 ?_
      refine lv_iconst (v := 1) X.1 X.2.1 dX2_addFrame_25 (by decide) ?_
      refine lv_iadd X.1 X.2.1 dX2_addFrame_26 ?_
      obtain ⟨h8, hF⟩ := fb_chk hF
      refine sC_3 X hI h8 dX2_addFrame_27 (fun H locs hI => ?_)
      refine lv_aload_n X.1 X.2.1 dX2_addFrame_28 rfl (lv_at hl 0 rfl) ?_
      refine lv_dup X.1 X.2.1 dX2_addFrame_29 rfl ?_
      refine g_X2_calls (v := gI u4.2 3) X hI rfl dX2_addFrame_30 ?_
      refine lv_iconst (v := 1) X.1 X.2.1 dX2_addFrame_33 (by decide) ?_
      refine lv_iadd X.1 X.2.1 dX2_addFrame_34 ?_
      refine p_X2_calls X hI dX2_addFrame_35 (fun H locs hI => ?_)
      refine lv_aload_n X.1 X.2.1 dX2_addFrame_38 rfl (lv_at hl 0 rfl) ?_
      refine g_X2_latestCalls X hI dX2_addFrame_39 ?_
      refine lv_iload_n X.1 X.2.1 dX2_addFrame_42 rfl (lv_at hl 1 rfl) ?_
      refine lv_aload_n X.1 X.2.1 dX2_addFrame_43 rfl (lv_at hl 0 rfl) ?_
      refine g_X2_calls (v := ((gI u4.2 3) + 1)) X hI rfl dX2_addFrame_44 ?_
      obtain ⟨h9, hF⟩ := fb_chk hF
      refine sC_4 X hI h9 dX2_addFrame_47 (fun H locs hI => ?_)
      refine lv_iconst (v := 1) X.1 X.2.1 dX2_addFrame_48 (by decide) ?_
      exact rt_z X hlk hr hI rfl hF dX2_addFrame_49
    · replace hF := fb_pos c6 hF
      refine lv_iconst (v := 0) X.1 X.2.1 dX2_addFrame_16 (by decide) ?_
      exact rt_z X hlk hr hI rfl hF dX2_addFrame_17
abbrev rm_X2_dropFrame : Room := { frames := 2, cells := 0, slots := 0, locals := 41 }
def f_X2_dropFrame (x1 x2 : Int32) (σ : St) : Option (Int32 × St) :=
  (f_X2_isActive x1 σ).bind fun u1 =>
  if u1 = 0 then
    some (0, σ)
  else
    if inB x1 5 = true then
      if inB x1 5 = true then
        some (0, sI (sA σ 3 x1 ((gA σ 3 x1) - 1)) 5 ((gI σ 5) - x2))
      else none
    else none
set_option maxHeartbeats 4000000 in
set_option maxRecDepth 100000 in
theorem m_X2_dropFrame (l : Launch) (D : va_G) (ty : Nat → ClassId) (q : Nat → Nat) (σ : St) (sz : Nat) (x1 x2 : Int32) {res : Int32 × St} (hF : f_X2_dropFrame x1 x2 σ = some res) : Met l yX2_dropFrame (wsy yX2_dropFrame cX2_dropFrame 3 none) rm_X2_dropFrame (Pcw D ty (FxC q) (wC ty q σ) sz [.ref (q 3), .int x1, .int x2]) (Qvw D ty (wC ty q) (va_A (wC ty q σ) sz) res) 0 0 (va_A (wC ty q σ) sz) := by
  refine en_w (Qc := fun A => Qvw D ty (wC ty q) A res) (by decide) (Nat.le_of_ble_eq_true rfl) ?_
  intro p e s m args below meth c A X hlk hr _ H locs hI ls hl
  have X : CallFix p m c cX2_dropFrame 3 s args tb RX2 := X
  have hl : lv_has ls 3 [(0, .ref (q 3)), (1, .int x1), (2, .int x2)] := hl
  unfold f_X2_dropFrame at hF
  refine lv_aload_n X.1 X.2.1 dX2_dropFrame_0 rfl (lv_at hl 0 rfl) ?_
  refine lv_iload_n X.1 X.2.1 dX2_dropFrame_1 rfl (lv_at hl 1 rfl) ?_
  obtain ⟨u1, h2, hF⟩ := fb_bnd hF
  refine cl_i (w := wC ty q) (σ := σ) (rest := []) X (fxC q) hI (m_X2_isActive l D ty q σ _ x1 h2) ok_X2_isActive ml_X2_51 ⟨rfl, rfl, Nat.le_of_ble_eq_true rfl, Nat.le_of_ble_eq_true rfl⟩ 3 rc_X2 rfl rfl hl.1 rfl (Nat.le_of_ble_eq_true rfl) ⟨Nat.zero_le _, Nat.zero_le _⟩ dX2_dropFrame_2 (fun H locs hI => ?_)
  refine lv_if_eq (tgt := 28) X.1 X.2.1 dX2_dropFrame_5 (by decide) (fun c3 => ?_) (fun c3 => ?_)
  · replace hF := fb_pos c3 hF
    exact rt_v X hlk hr hI hF dX2_dropFrame_28
  · replace hF := fb_neg c3 hF
    refine lv_aload_n X.1 X.2.1 dX2_dropFrame_8 rfl (lv_at hl 0 rfl) ?_
    refine g_X2_frameCounts X hI dX2_dropFrame_9 ?_
    refine lv_iload_n X.1 X.2.1 dX2_dropFrame_12 rfl (lv_at hl 1 rfl) ?_
    refine lv_dup2_11 X.1 X.2.1 dX2_dropFrame_13 rfl rfl ?_
    obtain ⟨h4, hF⟩ := fb_chk hF
    refine aC_3 (v := gA σ 3 x1) X hI rfl h4 dX2_dropFrame_14 ?_
    refine lv_iconst (v := 1) X.1 X.2.1 dX2_dropFrame_15 (by decide) ?_
    refine lv_isub X.1 X.2.1 dX2_dropFrame_16 ?_
    obtain ⟨h5, hF⟩ := fb_chk hF
    refine sC_3 X hI h5 dX2_dropFrame_17 (fun H locs hI => ?_)
    refine lv_aload_n X.1 X.2.1 dX2_dropFrame_18 rfl (lv_at hl 0 rfl) ?_
    refine lv_dup X.1 X.2.1 dX2_dropFrame_19 rfl ?_
    refine g_X2_held (v := gI σ 5) X hI rfl dX2_dropFrame_20 ?_
    refine lv_iload_n X.1 X.2.1 dX2_dropFrame_23 rfl (lv_at hl 2 rfl) ?_
    refine lv_isub X.1 X.2.1 dX2_dropFrame_24 ?_
    refine p_X2_held X hI dX2_dropFrame_25 (fun H locs hI => ?_)
    exact rt_v X hlk hr hI hF dX2_dropFrame_28
abbrev rm_X2_dropNumber : Room := { frames := 0, cells := 0, slots := 0, locals := 0 }
def f_X2_dropNumber (σ : St) : Option (Int32 × St) :=
  some (0, sI σ 5 ((gI σ 5) - 4))
set_option maxHeartbeats 4000000 in
set_option maxRecDepth 100000 in
theorem m_X2_dropNumber (l : Launch) (D : va_G) (ty : Nat → ClassId) (q : Nat → Nat) (σ : St) (sz : Nat) {res : Int32 × St} (hF : f_X2_dropNumber  σ = some res) : Met l yX2_dropNumber (wsy yX2_dropNumber cX2_dropNumber 1 none) rm_X2_dropNumber (Pcw D ty (FxC q) (wC ty q σ) sz [.ref (q 3)]) (Qvw D ty (wC ty q) (va_A (wC ty q σ) sz) res) 0 0 (va_A (wC ty q σ) sz) := by
  refine en_w (Qc := fun A => Qvw D ty (wC ty q) A res) (by decide) (Nat.le_of_ble_eq_true rfl) ?_
  intro p e s m args below meth c A X hlk hr _ H locs hI ls hl
  have X : CallFix p m c cX2_dropNumber 1 s args tb RX2 := X
  have hl : lv_has ls 1 [(0, .ref (q 3))] := hl
  unfold f_X2_dropNumber at hF
  refine lv_aload_n X.1 X.2.1 dX2_dropNumber_0 rfl (lv_at hl 0 rfl) ?_
  refine lv_dup X.1 X.2.1 dX2_dropNumber_1 rfl ?_
  refine g_X2_held (v := gI σ 5) X hI rfl dX2_dropNumber_2 ?_
  refine lv_iconst (v := 4) X.1 X.2.1 dX2_dropNumber_5 (by decide) ?_
  refine lv_isub X.1 X.2.1 dX2_dropNumber_6 ?_
  refine p_X2_held X hI dX2_dropNumber_7 (fun H locs hI => ?_)
  exact rt_v X hlk hr hI hF dX2_dropNumber_10
end
section
abbrev rm_X3_makeFresh : Room := { frames := 1, cells := 0, slots := 0, locals := 22 }
def f_X3_makeFresh (x1 x2 : Int32) (σ : St) : Option (Int32 × St) :=
  (f_X2_empty x1 σ).bind fun u1 =>
  (f_X1_empty u1.2).bind fun u3 =>
  some (0, sI (sI (sI u3.2 0 0) 1 0) 2 x2)
set_option maxHeartbeats 4000000 in
set_option maxRecDepth 100000 in
theorem m_X3_makeFresh (l : Launch) (D : va_G) (ty : Nat → ClassId) (q : Nat → Nat) (σ : St) (sz : Nat) (x1 x2 : Int32) {res : Int32 × St} (hF : f_X3_makeFresh x1 x2 σ = some res) : Met l yX3_makeFresh (wsy yX3_makeFresh cX3_makeFresh 3 none) rm_X3_makeFresh (Pcw D ty (FxC q) (wC ty q σ) sz [.ref (q 2), .int x1, .int x2]) (Qvw D ty (wC ty q) (va_A (wC ty q σ) sz) res) 0 0 (va_A (wC ty q σ) sz) := by
  refine en_w (Qc := fun A => Qvw D ty (wC ty q) A res) (by decide) (Nat.le_of_ble_eq_true rfl) ?_
  intro p e s m args below meth c A X hlk hr _ H locs hI ls hl
  have X : CallFix p m c cX3_makeFresh 3 s args tb RX3 := X
  have hl : lv_has ls 3 [(0, .ref (q 2)), (1, .int x1), (2, .int x2)] := hl
  unfold f_X3_makeFresh at hF
  refine lv_aload_n X.1 X.2.1 dX3_makeFresh_0 rfl (lv_at hl 0 rfl) ?_
  refine g_X3_memory X hI dX3_makeFresh_1 ?_
  refine lv_iload_n X.1 X.2.1 dX3_makeFresh_4 rfl (lv_at hl 1 rfl) ?_
  obtain ⟨u1, h2, hF⟩ := fb_bnd hF
  refine cl_v (w := wC ty q) (σ := σ) (rest := []) X (fxC q) hI (m_X2_empty l D ty q σ _ x1 h2) ok_X2_empty ml_X3_41 ⟨rfl, rfl, Nat.le_of_ble_eq_true rfl, Nat.le_of_ble_eq_true rfl⟩ 3 rc_X2 rfl rfl hl.1 rfl (Nat.le_of_ble_eq_true rfl) ⟨Nat.zero_le _, Nat.zero_le _⟩ dX3_makeFresh_5 (fun H locs hI => ?_)
  refine lv_aload_n X.1 X.2.1 dX3_makeFresh_8 rfl (lv_at hl 0 rfl) ?_
  refine g_X3_frames X hI dX3_makeFresh_9 ?_
  obtain ⟨u3, h4, hF⟩ := fb_bnd hF
  refine cl_v (w := wC ty q) (σ := u1.2) (rest := []) X (fxC q) hI (m_X1_empty l D ty q u1.2 _  h4) ok_X1_empty ml_X3_45 ⟨rfl, rfl, Nat.le_of_ble_eq_true rfl, Nat.le_of_ble_eq_true rfl⟩ 4 rc_X1 rfl rfl hl.1 rfl (Nat.le_of_ble_eq_true rfl) ⟨Nat.zero_le _, Nat.zero_le _⟩ dX3_makeFresh_12 (fun H locs hI => ?_)
  refine lv_aload_n X.1 X.2.1 dX3_makeFresh_15 rfl (lv_at hl 0 rfl) ?_
  refine lv_iconst (v := 0) X.1 X.2.1 dX3_makeFresh_16 (by decide) ?_
  refine p_X3_outCount X hI dX3_makeFresh_17 (fun H locs hI => ?_)
  refine lv_aload_n X.1 X.2.1 dX3_makeFresh_20 rfl (lv_at hl 0 rfl) ?_
  refine lv_iconst (v := 0) X.1 X.2.1 dX3_makeFresh_21 (by decide) ?_
  refine p_X3_result X hI dX3_makeFresh_22 (fun H locs hI => ?_)
  refine lv_aload_n X.1 X.2.1 dX3_makeFresh_25 rfl (lv_at hl 0 rfl) ?_
  refine lv_iload_n X.1 X.2.1 dX3_makeFresh_26 rfl (lv_at hl 2 rfl) ?_
  refine p_X3_status X hI dX3_makeFresh_27 (fun H locs hI => ?_)
  exact rt_v X hlk hr hI hF dX3_makeFresh_30
abbrev rm_X3_forget : Room := { frames := 2, cells := 0, slots := 0, locals := 44 }
def f_X3_forget (σ : St) : Option (Int32 × St) :=
  (f_X3_makeFresh 0 0 σ).bind fun u1 =>
  some (0, u1.2)
set_option maxHeartbeats 4000000 in
set_option maxRecDepth 100000 in
theorem m_X3_forget (l : Launch) (D : va_G) (ty : Nat → ClassId) (q : Nat → Nat) (σ : St) (sz : Nat) {res : Int32 × St} (hF : f_X3_forget  σ = some res) : Met l yX3_forget (wsy yX3_forget cX3_forget 1 none) rm_X3_forget (Pcw D ty (FxC q) (wC ty q σ) sz [.ref (q 2)]) (Qvw D ty (wC ty q) (va_A (wC ty q σ) sz) res) 0 0 (va_A (wC ty q σ) sz) := by
  refine en_w (Qc := fun A => Qvw D ty (wC ty q) A res) (by decide) (Nat.le_of_ble_eq_true rfl) ?_
  intro p e s m args below meth c A X hlk hr _ H locs hI ls hl
  have X : CallFix p m c cX3_forget 1 s args tb RX3 := X
  have hl : lv_has ls 1 [(0, .ref (q 2))] := hl
  unfold f_X3_forget at hF
  refine lv_aload_n X.1 X.2.1 dX3_forget_0 rfl (lv_at hl 0 rfl) ?_
  refine lv_iconst (v := 0) X.1 X.2.1 dX3_forget_1 (by decide) ?_
  refine lv_iconst (v := 0) X.1 X.2.1 dX3_forget_2 (by decide) ?_
  obtain ⟨u1, h2, hF⟩ := fb_bnd hF
  refine cl_v (w := wC ty q) (σ := σ) (rest := []) X (fxC q) hI (m_X3_makeFresh l D ty q σ _ 0 0 h2) ok_X3_makeFresh ml_X3_33 ⟨rfl, rfl, Nat.le_of_ble_eq_true rfl, Nat.le_of_ble_eq_true rfl⟩ 2 rc_X3 rfl rfl hl.1 rfl (Nat.le_of_ble_eq_true rfl) ⟨Nat.zero_le _, Nat.zero_le _⟩ dX3_forget_3 (fun H locs hI => ?_)
  exact rt_v X hlk hr hI hF dX3_forget_6
abbrev rm_X3_frameBytes : Room := { frames := 0, cells := 0, slots := 0, locals := 0 }
def f_X3_frameBytes (x0 : Int32) (σ : St) : Option Int32 :=
  some (8 + (4 * x0))
set_option maxHeartbeats 4000000 in
set_option maxRecDepth 100000 in
theorem m_X3_frameBytes (l : Launch) (D : va_G) (ty : Nat → ClassId) (q : Nat → Nat) (σ : St) (sz : Nat) (x0 : Int32) {rr : Int32} (hF : f_X3_frameBytes x0 σ = some rr) : Met l yX3_frameBytes (wsy yX3_frameBytes cX3_frameBytes 1 (some .int)) rm_X3_frameBytes (Pcw D ty (FxC q) (wC ty q σ) sz [.int x0]) (Qiw D ty (wC ty q) (va_A (wC ty q σ) sz) (rr, σ)) 0 0 (va_A (wC ty q σ) sz) := by
  refine en_w (Qc := fun A => Qiw D ty (wC ty q) A (rr, σ)) (by decide) (Nat.le_of_ble_eq_true rfl) ?_
  intro p e s m args below meth c A X hlk hr _ H locs hI ls hl
  have X : CallFix p m c cX3_frameBytes 1 s args tb RX3 := X
  have hl : lv_has ls 1 [(0, .int x0)] := hl
  unfold f_X3_frameBytes at hF
  refine lv_bipush (v := 8) X.1 X.2.1 dX3_frameBytes_0 (by decide) ?_
  refine lv_iconst (v := 4) X.1 X.2.1 dX3_frameBytes_2 (by decide) ?_
  refine lv_iload_n X.1 X.2.1 dX3_frameBytes_3 rfl (lv_at hl 0 rfl) ?_
  refine lv_imul X.1 X.2.1 dX3_frameBytes_4 ?_
  refine lv_iadd X.1 X.2.1 dX3_frameBytes_5 ?_
  exact rt_i X hlk hr hI (fb_pr hF) dX3_frameBytes_6
abbrev rm_X3_enter : Room := { frames := 3, cells := 0, slots := 0, locals := 75 }
def b_X3_enter_64 (x1 x2 x3 x4 z0 : Int32) (σ : St) : Option (Int32 × St) :=
  if z0 = 0 then
    some (0, sI σ 2 4)
  else
    (f_X0_beginOf x1 x2 σ).bind fun u10 =>
    (f_X1_open x1 (u10 + 1) x4 x3 σ).bind fun u12 =>
    some (1, u12.2)
set_option maxHeartbeats 4000000 in
set_option maxRecDepth 100000 in
theorem w_b_X3_enter_64 {l : Launch} {p : Program} {e : Env} {s : State} {m : MethodId} {args : Array Value} {below : List Frame} {meth : Method} {c : Code} {A : Nat → Prop} {D : va_G} {ty : Nat → ClassId} {q : Nat → Nat} {res : Int32 × St} (X : CallFix p m c cX3_enter 6 s args tb RX3) (hlk : meth.locks = false) (hr : meth.sig.returnType = (some .boolean)) {σ : St} {H : Heap} {locs : List Loc} (hI : Inw D ty (FxC q) (wC ty q σ) A s H locs) (x1 x2 x3 x4 z0 : Int32) (hF : b_X3_enter_64 x1 x2 x3 x4 z0 σ = some res) (ls : Array Slot) (hl : lv_has ls 6 [(0, .ref (q 2)), (1, .int x1), (2, .int x2), (3, .int x3), (4, .int x4)]) : W p l e rm_X3_enter s m args below meth c H locs 0 0 (MQ below (Qiw D ty (wC ty q) A res) args s 0 0 A) (F0 m 64 ls [.int z0]) := by
  unfold b_X3_enter_64 at hF
  refine lv_istore (lv' := [(5, .int z0), (0, .ref (q 2)), (1, .int x1), (2, .int x2), (3, .int x3), (4, .int x4)]) X.1 X.2.1 dX3_enter_64 hl (by decide) rfl (fun ls hl => ?_)
  refine lv_iload X.1 X.2.1 dX3_enter_66 (lv_at hl 0 rfl) ?_
  refine lv_if_ne (tgt := 78) X.1 X.2.1 dX3_enter_68 (by decide) (fun c9 => ?_) (fun c9 => ?_)
  · replace hF := fb_neg c9 hF
    refine lv_aload_n X.1 X.2.1 dX3_enter_78 rfl (lv_at hl 1 rfl) ?_
    refine g_X3_frames X hI dX3_enter_79 ?_
    refine lv_iload_n X.1 X.2.1 dX3_enter_82 rfl (lv_at hl 2 rfl) ?_
    refine lv_aload_n X.1 X.2.1 dX3_enter_83 rfl (lv_at hl 1 rfl) ?_
    refine g_X3_disk X hI dX3_enter_84 ?_
    refine lv_iload_n X.1 X.2.1 dX3_enter_87 rfl (lv_at hl 2 rfl) ?_
    refine lv_iload_n X.1 X.2.1 dX3_enter_88 rfl (lv_at hl 3 rfl) ?_
    obtain ⟨u10, h11, hF⟩ := fb_bnd hF
    refine cl_i (w := wC ty q) (σ := σ) (rest := [.int x1, .ref (q 4)]) X (fxC q) hI (m_X0_beginOf l D ty q σ _ x1 x2 h11) ok_X0_beginOf ml_X3_178 ⟨rfl, rfl, Nat.le_of_ble_eq_true rfl, Nat.le_of_ble_eq_true rfl⟩ 1 rc_X0 rfl rfl hl.1 rfl (Nat.le_of_ble_eq_true rfl) ⟨Nat.zero_le _, Nat.zero_le _⟩ dX3_enter_89 (fun H locs hI => ?_)
    refine lv_iconst (v := 1) X.1 X.2.1 dX3_enter_92 (by decide) ?_
    refine lv_iadd X.1 X.2.1 dX3_enter_93 ?_
    refine lv_iload X.1 X.2.1 dX3_enter_94 (lv_at hl 5 rfl) ?_
    refine lv_iload_n X.1 X.2.1 dX3_enter_96 rfl (lv_at hl 4 rfl) ?_
    obtain ⟨u12, h13, hF⟩ := fb_bnd hF
    refine cl_v (w := wC ty q) (σ := σ) (rest := []) X (fxC q) hI (m_X1_open l D ty q σ _ x1 (u10 + 1) x4 x3 h13) ok_X1_open ml_X3_181 ⟨rfl, rfl, Nat.le_of_ble_eq_true rfl, Nat.le_of_ble_eq_true rfl⟩ 4 rc_X1 rfl rfl hl.1 rfl (Nat.le_of_ble_eq_true rfl) ⟨Nat.zero_le _, Nat.zero_le _⟩ dX3_enter_97 (fun H locs hI => ?_)
    refine lv_iconst (v := 1) X.1 X.2.1 dX3_enter_100 (by decide) ?_
    exact rt_z X hlk hr hI rfl hF dX3_enter_101
  · replace hF := fb_pos c9 hF
    refine lv_aload_n X.1 X.2.1 dX3_enter_71 rfl (lv_at hl 1 rfl) ?_
    refine lv_iconst (v := 4) X.1 X.2.1 dX3_enter_72 (by decide) ?_
    refine p_X3_status X hI dX3_enter_73 (fun H locs hI => ?_)
    refine lv_iconst (v := 0) X.1 X.2.1 dX3_enter_76 (by decide) ?_
    exact rt_z X hlk hr hI rfl hF dX3_enter_77
def b_X3_enter_63 (x1 x2 x3 x4 : Int32) (σ : St) : Option (Int32 × St) :=
  b_X3_enter_64 x1 x2 x3 x4 0 σ
set_option maxHeartbeats 4000000 in
set_option maxRecDepth 100000 in
theorem w_b_X3_enter_63 {l : Launch} {p : Program} {e : Env} {s : State} {m : MethodId} {args : Array Value} {below : List Frame} {meth : Method} {c : Code} {A : Nat → Prop} {D : va_G} {ty : Nat → ClassId} {q : Nat → Nat} {res : Int32 × St} (X : CallFix p m c cX3_enter 6 s args tb RX3) (hlk : meth.locks = false) (hr : meth.sig.returnType = (some .boolean)) {σ : St} {H : Heap} {locs : List Loc} (hI : Inw D ty (FxC q) (wC ty q σ) A s H locs) (x1 x2 x3 x4 : Int32) (hF : b_X3_enter_63 x1 x2 x3 x4 σ = some res) (ls : Array Slot) (hl : lv_has ls 6 [(0, .ref (q 2)), (1, .int x1), (2, .int x2), (3, .int x3), (4, .int x4)]) : W p l e rm_X3_enter s m args below meth c H locs 0 0 (MQ below (Qiw D ty (wC ty q) A res) args s 0 0 A) (F0 m 63 ls []) := by
  unfold b_X3_enter_63 at hF
  refine lv_iconst (v := 0) X.1 X.2.1 dX3_enter_63 (by decide) ?_
  exact w_b_X3_enter_64 X hlk hr hI x1 x2 x3 x4 0 hF ls (lv_sub hl [0, 1, 2, 3, 4] rfl)
def f_X3_enter (x1 x2 x3 : Int32) (σ : St) : Option (Int32 × St) :=
  (f_X0_localsOf x1 x2 σ).bind fun u1 =>
  if u1 = (-1) then
    some (0, sI σ 2 3)
  else
    (f_X0_lengthOf x1 σ).bind fun u4 =>
    (f_X2_bringIn x1 u4 σ).bind fun u6 =>
    if u6.1 = 0 then
      b_X3_enter_63 x1 x2 x3 u1 u6.2
    else
      (f_X3_frameBytes u1 u6.2).bind fun u14 =>
      (f_X2_addFrame x1 u14 u6.2).bind fun u16 =>
      if u16.1 = 0 then
        b_X3_enter_63 x1 x2 x3 u1 u16.2
      else
        b_X3_enter_64 x1 x2 x3 u1 1 u16.2
set_option maxHeartbeats 4000000 in
set_option maxRecDepth 100000 in
theorem m_X3_enter (l : Launch) (D : va_G) (ty : Nat → ClassId) (q : Nat → Nat) (σ : St) (sz : Nat) (x1 x2 x3 : Int32) {res : Int32 × St} (hF : f_X3_enter x1 x2 x3 σ = some res) : Met l yX3_enter (wsy yX3_enter cX3_enter 6 (some .boolean)) rm_X3_enter (Pcw D ty (FxC q) (wC ty q σ) sz [.ref (q 2), .int x1, .int x2, .int x3]) (Qiw D ty (wC ty q) (va_A (wC ty q σ) sz) res) 0 0 (va_A (wC ty q σ) sz) := by
  refine en_w (Qc := fun A => Qiw D ty (wC ty q) A res) (by decide) (Nat.le_of_ble_eq_true rfl) ?_
  intro p e s m args below meth c A X hlk hr _ H locs hI ls hl
  have X : CallFix p m c cX3_enter 6 s args tb RX3 := X
  have hl : lv_has ls 6 [(0, .ref (q 2)), (1, .int x1), (2, .int x2), (3, .int x3)] := hl
  unfold f_X3_enter at hF
  refine lv_aload_n X.1 X.2.1 dX3_enter_0 rfl (lv_at hl 0 rfl) ?_
  refine g_X3_disk X hI dX3_enter_1 ?_
  refine lv_iload_n X.1 X.2.1 dX3_enter_4 rfl (lv_at hl 1 rfl) ?_
  refine lv_iload_n X.1 X.2.1 dX3_enter_5 rfl (lv_at hl 2 rfl) ?_
  obtain ⟨u1, h2, hF⟩ := fb_bnd hF
  refine cl_i (w := wC ty q) (σ := σ) (rest := []) X (fxC q) hI (m_X0_localsOf l D ty q σ _ x1 x2 h2) ok_X0_localsOf ml_X3_166 ⟨rfl, rfl, Nat.le_of_ble_eq_true rfl, Nat.le_of_ble_eq_true rfl⟩ 1 rc_X0 rfl rfl hl.1 rfl (Nat.le_of_ble_eq_true rfl) ⟨Nat.zero_le _, Nat.zero_le _⟩ dX3_enter_6 (fun H locs hI => ?_)
  refine lv_istore (lv' := [(4, .int u1), (0, .ref (q 2)), (1, .int x1), (2, .int x2), (3, .int x3)]) X.1 X.2.1 dX3_enter_9 hl (by decide) rfl (fun ls hl => ?_)
  refine lv_iload X.1 X.2.1 dX3_enter_11 (lv_at hl 0 rfl) ?_
  refine lv_iconst (v := (-1)) X.1 X.2.1 dX3_enter_13 (by decide) ?_
  refine lv_icmp_ne (tgt := 24) X.1 X.2.1 dX3_enter_14 (by decide) (fun c3 => ?_) (fun c3 => ?_)
  · replace hF := fb_neg c3 hF
    refine lv_aload_n X.1 X.2.1 dX3_enter_24 rfl (lv_at hl 1 rfl) ?_
    refine g_X3_memory X hI dX3_enter_25 ?_
    refine lv_iload_n X.1 X.2.1 dX3_enter_28 rfl (lv_at hl 2 rfl) ?_
    refine lv_aload_n X.1 X.2.1 dX3_enter_29 rfl (lv_at hl 1 rfl) ?_
    refine g_X3_disk X hI dX3_enter_30 ?_
    refine lv_iload_n X.1 X.2.1 dX3_enter_33 rfl (lv_at hl 2 rfl) ?_
    obtain ⟨u4, h5, hF⟩ := fb_bnd hF
    refine cl_i (w := wC ty q) (σ := σ) (rest := [.int x1, .ref (q 3)]) X (fxC q) hI (m_X0_lengthOf l D ty q σ _ x1 h5) ok_X0_lengthOf ml_X3_135 ⟨rfl, rfl, Nat.le_of_ble_eq_true rfl, Nat.le_of_ble_eq_true rfl⟩ 1 rc_X0 rfl rfl hl.1 rfl (Nat.le_of_ble_eq_true rfl) ⟨Nat.zero_le _, Nat.zero_le _⟩ dX3_enter_34 (fun H locs hI => ?_)
    obtain ⟨u6, h7, hF⟩ := fb_bnd hF
    refine cl_i (w := wC ty q) (σ := σ) (rest := []) X (fxC q) hI (m_X2_bringIn l D ty q σ _ x1 u4 h7) ok_X2_bringIn ml_X3_169 ⟨rfl, rfl, Nat.le_of_ble_eq_true rfl, Nat.le_of_ble_eq_true rfl⟩ 3 rc_X2 rfl rfl hl.1 rfl (Nat.le_of_ble_eq_true rfl) ⟨Nat.zero_le _, Nat.zero_le _⟩ dX3_enter_37 (fun H locs hI => ?_)
    refine lv_if_eq (tgt := 63) X.1 X.2.1 dX3_enter_40 (by decide) (fun c8 => ?_) (fun c8 => ?_)
    · replace hF := fb_pos c8 hF
      exact w_b_X3_enter_63 X hlk hr hI x1 x2 x3 u1 hF ls (lv_sub hl [1, 2, 3, 4, 0] rfl)
    · replace hF := fb_neg c8 hF
      refine lv_aload_n X.1 X.2.1 dX3_enter_43 rfl (lv_at hl 1 rfl) ?_
      refine g_X3_memory X hI dX3_enter_44 ?_
      refine lv_iload_n X.1 X.2.1 dX3_enter_47 rfl (lv_at hl 2 rfl) ?_
      refine lv_iload X.1 X.2.1 dX3_enter_48 (lv_at hl 0 rfl) ?_
      obtain ⟨u14, h15, hF⟩ := fb_bnd hF
      refine cs_i (w := wC ty q) (σ := u6.2) (rest := [.int x1, .ref (q 3)]) X (fxC q) hI (m_X3_frameBytes l D ty q u6.2 _ u1 h15) ok_X3_frameBytes ml_X3_172 ⟨rfl, rfl, Nat.le_of_ble_eq_true rfl, Nat.le_of_ble_eq_true rfl⟩ rfl hl.1 rfl (Nat.le_of_ble_eq_true rfl) ⟨Nat.zero_le _, Nat.zero_le _⟩ dX3_enter_50 (fun H locs hI => ?_)
      obtain ⟨u16, h17, hF⟩ := fb_bnd hF
      refine cl_i (w := wC ty q) (σ := u6.2) (rest := []) X (fxC q) hI (m_X2_addFrame l D ty q u6.2 _ x1 u14 h17) ok_X2_addFrame ml_X3_175 ⟨rfl, rfl, Nat.le_of_ble_eq_true rfl, Nat.le_of_ble_eq_true rfl⟩ 3 rc_X2 rfl rfl hl.1 rfl (Nat.le_of_ble_eq_true rfl) ⟨Nat.zero_le _, Nat.zero_le _⟩ dX3_enter_53 (fun H locs hI => ?_)
      refine lv_if_eq (tgt := 63) X.1 X.2.1 dX3_enter_56 (by decide) (fun c18 => ?_) (fun c18 => ?_)
      · replace hF := fb_pos c18 hF
        exact w_b_X3_enter_63 X hlk hr hI x1 x2 x3 u1 hF ls (lv_sub hl [1, 2, 3, 4, 0] rfl)
      · replace hF := fb_neg c18 hF
        refine lv_iconst (v := 1) X.1 X.2.1 dX3_enter_59 (by decide) ?_
        refine lv_goto (tgt := 64) X.1 X.2.1 dX3_enter_60 (by decide) ?_
        exact w_b_X3_enter_64 X hlk hr hI x1 x2 x3 u1 1 hF ls (lv_sub hl [1, 2, 3, 4, 0] rfl)
  · replace hF := fb_pos c3 hF
    refine lv_aload_n X.1 X.2.1 dX3_enter_17 rfl (lv_at hl 1 rfl) ?_
    refine lv_iconst (v := 3) X.1 X.2.1 dX3_enter_18 (by decide) ?_
    refine p_X3_status X hI dX3_enter_19 (fun H locs hI => ?_)
    refine lv_iconst (v := 0) X.1 X.2.1 dX3_enter_22 (by decide) ?_
    exact rt_z X hlk hr hI rfl hF dX3_enter_23
abbrev rm_X3_begin : Room := { frames := 4, cells := 0, slots := 0, locals := 100 }
def f_X3_begin (x1 x2 x3 : Int32) (σ : St) : Option (Int32 × St) :=
  (f_X3_makeFresh x3 1 σ).bind fun u1 =>
  (f_X3_enter x1 0 x2 u1.2).bind fun u3 =>
  some (0, u3.2)
set_option maxHeartbeats 4000000 in
set_option maxRecDepth 100000 in
theorem m_X3_begin (l : Launch) (D : va_G) (ty : Nat → ClassId) (q : Nat → Nat) (σ : St) (sz : Nat) (x1 x2 x3 : Int32) {res : Int32 × St} (hF : f_X3_begin x1 x2 x3 σ = some res) : Met l yX3_begin (wsy yX3_begin cX3_begin 4 none) rm_X3_begin (Pcw D ty (FxC q) (wC ty q σ) sz [.ref (q 2), .int x1, .int x2, .int x3]) (Qvw D ty (wC ty q) (va_A (wC ty q σ) sz) res) 0 0 (va_A (wC ty q σ) sz) := by
  refine en_w (Qc := fun A => Qvw D ty (wC ty q) A res) (by decide) (Nat.le_of_ble_eq_true rfl) ?_
  intro p e s m args below meth c A X hlk hr _ H locs hI ls hl
  have X : CallFix p m c cX3_begin 4 s args tb RX3 := X
  have hl : lv_has ls 4 [(0, .ref (q 2)), (1, .int x1), (2, .int x2), (3, .int x3)] := hl
  unfold f_X3_begin at hF
  refine lv_aload_n X.1 X.2.1 dX3_begin_0 rfl (lv_at hl 0 rfl) ?_
  refine lv_iload_n X.1 X.2.1 dX3_begin_1 rfl (lv_at hl 3 rfl) ?_
  refine lv_iconst (v := 1) X.1 X.2.1 dX3_begin_2 (by decide) ?_
  obtain ⟨u1, h2, hF⟩ := fb_bnd hF
  refine cl_v (w := wC ty q) (σ := σ) (rest := []) X (fxC q) hI (m_X3_makeFresh l D ty q σ _ x3 1 h2) ok_X3_makeFresh ml_X3_33 ⟨rfl, rfl, Nat.le_of_ble_eq_true rfl, Nat.le_of_ble_eq_true rfl⟩ 2 rc_X3 rfl rfl hl.1 rfl (Nat.le_of_ble_eq_true rfl) ⟨Nat.zero_le _, Nat.zero_le _⟩ dX3_begin_3 (fun H locs hI => ?_)
  refine lv_aload_n X.1 X.2.1 dX3_begin_6 rfl (lv_at hl 0 rfl) ?_
  refine lv_iload_n X.1 X.2.1 dX3_begin_7 rfl (lv_at hl 1 rfl) ?_
  refine lv_iconst (v := 0) X.1 X.2.1 dX3_begin_8 (by decide) ?_
  refine lv_iload_n X.1 X.2.1 dX3_begin_9 rfl (lv_at hl 2 rfl) ?_
  obtain ⟨u3, h4, hF⟩ := fb_bnd hF
  refine cl_i (w := wC ty q) (σ := u1.2) (rest := []) X (fxC q) hI (m_X3_enter l D ty q u1.2 _ x1 0 x2 h4) ok_X3_enter ml_X3_37 ⟨rfl, rfl, Nat.le_of_ble_eq_true rfl, Nat.le_of_ble_eq_true rfl⟩ 2 rc_X3 rfl rfl hl.1 rfl (Nat.le_of_ble_eq_true rfl) ⟨Nat.zero_le _, Nat.zero_le _⟩ dX3_begin_10 (fun H locs hI => ?_)
  refine lv_pop X.1 X.2.1 dX3_begin_13 rfl ?_
  exact rt_v X hlk hr hI hF dX3_begin_14
abbrev rm_X3_status : Room := { frames := 0, cells := 0, slots := 0, locals := 0 }
def f_X3_status (σ : St) : Option Int32 :=
  some (gI σ 2)
set_option maxHeartbeats 4000000 in
set_option maxRecDepth 100000 in
theorem m_X3_status (l : Launch) (D : va_G) (ty : Nat → ClassId) (q : Nat → Nat) (σ : St) (sz : Nat) {rr : Int32} (hF : f_X3_status  σ = some rr) : Met l yX3_status (wsy yX3_status cX3_status 1 (some .int)) rm_X3_status (Pcw D ty (FxC q) (wC ty q σ) sz [.ref (q 2)]) (Qiw D ty (wC ty q) (va_A (wC ty q σ) sz) (rr, σ)) 0 0 (va_A (wC ty q σ) sz) := by
  refine en_w (Qc := fun A => Qiw D ty (wC ty q) A (rr, σ)) (by decide) (Nat.le_of_ble_eq_true rfl) ?_
  intro p e s m args below meth c A X hlk hr _ H locs hI ls hl
  have X : CallFix p m c cX3_status 1 s args tb RX3 := X
  have hl : lv_has ls 1 [(0, .ref (q 2))] := hl
  unfold f_X3_status at hF
  refine lv_aload_n X.1 X.2.1 dX3_status_0 rfl (lv_at hl 0 rfl) ?_
  refine g_X3_status (v := gI σ 2) X hI rfl dX3_status_1 ?_
  exact rt_i X hlk hr hI (fb_pr hF) dX3_status_4
abbrev rm_X3_outCount : Room := { frames := 0, cells := 0, slots := 0, locals := 0 }
def f_X3_outCount (σ : St) : Option Int32 :=
  some (gI σ 0)
set_option maxHeartbeats 4000000 in
set_option maxRecDepth 100000 in
theorem m_X3_outCount (l : Launch) (D : va_G) (ty : Nat → ClassId) (q : Nat → Nat) (σ : St) (sz : Nat) {rr : Int32} (hF : f_X3_outCount  σ = some rr) : Met l yX3_outCount (wsy yX3_outCount cX3_outCount 1 (some .int)) rm_X3_outCount (Pcw D ty (FxC q) (wC ty q σ) sz [.ref (q 2)]) (Qiw D ty (wC ty q) (va_A (wC ty q σ) sz) (rr, σ)) 0 0 (va_A (wC ty q σ) sz) := by
  refine en_w (Qc := fun A => Qiw D ty (wC ty q) A (rr, σ)) (by decide) (Nat.le_of_ble_eq_true rfl) ?_
  intro p e s m args below meth c A X hlk hr _ H locs hI ls hl
  have X : CallFix p m c cX3_outCount 1 s args tb RX3 := X
  have hl : lv_has ls 1 [(0, .ref (q 2))] := hl
  unfold f_X3_outCount at hF
  refine lv_aload_n X.1 X.2.1 dX3_outCount_0 rfl (lv_at hl 0 rfl) ?_
  refine g_X3_outCount (v := gI σ 0) X hI rfl dX3_outCount_1 ?_
  exact rt_i X hlk hr hI (fb_pr hF) dX3_outCount_4
abbrev rm_X3_outAt : Room := { frames := 0, cells := 0, slots := 0, locals := 0 }
def f_X3_outAt (x1 : Int32) (σ : St) : Option Int32 :=
  if x1 < 0 then
    some 0
  else
    if (gI σ 0) ≤ x1 then
      some 0
    else
      if inB x1 40 = true then
        some (gA σ 1 x1)
      else none
set_option maxHeartbeats 4000000 in
set_option maxRecDepth 100000 in
theorem m_X3_outAt (l : Launch) (D : va_G) (ty : Nat → ClassId) (q : Nat → Nat) (σ : St) (sz : Nat) (x1 : Int32) {rr : Int32} (hF : f_X3_outAt x1 σ = some rr) : Met l yX3_outAt (wsy yX3_outAt cX3_outAt 2 (some .int)) rm_X3_outAt (Pcw D ty (FxC q) (wC ty q σ) sz [.ref (q 2), .int x1]) (Qiw D ty (wC ty q) (va_A (wC ty q σ) sz) (rr, σ)) 0 0 (va_A (wC ty q σ) sz) := by
  refine en_w (Qc := fun A => Qiw D ty (wC ty q) A (rr, σ)) (by decide) (Nat.le_of_ble_eq_true rfl) ?_
  intro p e s m args below meth c A X hlk hr _ H locs hI ls hl
  have X : CallFix p m c cX3_outAt 2 s args tb RX3 := X
  have hl : lv_has ls 2 [(0, .ref (q 2)), (1, .int x1)] := hl
  unfold f_X3_outAt at hF
  refine lv_iload_n X.1 X.2.1 dX3_outAt_0 rfl (lv_at hl 1 rfl) ?_
  refine lv_if_lt (tgt := 21) X.1 X.2.1 dX3_outAt_1 (by decide) (fun c1 => ?_) (fun c1 => ?_)
  · replace hF := fb_pos c1 hF
    refine lv_iconst (v := 0) X.1 X.2.1 dX3_outAt_21 (by decide) ?_
    exact rt_i X hlk hr hI (fb_pr hF) dX3_outAt_22
  · replace hF := fb_neg c1 hF
    refine lv_iload_n X.1 X.2.1 dX3_outAt_4 rfl (lv_at hl 1 rfl) ?_
    refine lv_aload_n X.1 X.2.1 dX3_outAt_5 rfl (lv_at hl 0 rfl) ?_
    refine g_X3_outCount (v := gI σ 0) X hI rfl dX3_outAt_6 ?_
    refine lv_icmp_ge (tgt := 21) X.1 X.2.1 dX3_outAt_9 (by decide) (fun c2 => ?_) (fun c2 => ?_)
    · replace hF := fb_pos c2 hF
      refine lv_iconst (v := 0) X.1 X.2.1 dX3_outAt_21 (by decide) ?_
      exact rt_i X hlk hr hI (fb_pr hF) dX3_outAt_22
    · replace hF := fb_neg c2 hF
      refine lv_aload_n X.1 X.2.1 dX3_outAt_12 rfl (lv_at hl 0 rfl) ?_
      refine g_X3_outs X hI dX3_outAt_13 ?_
      refine lv_iload_n X.1 X.2.1 dX3_outAt_16 rfl (lv_at hl 1 rfl) ?_
      obtain ⟨h3, hF⟩ := fb_chk hF
      refine aC_1 (v := gA σ 1 x1) X hI rfl h3 dX3_outAt_17 ?_
      refine lv_goto (tgt := 22) X.1 X.2.1 dX3_outAt_18 (by decide) ?_
      exact rt_i X hlk hr hI (fb_pr hF) dX3_outAt_22
abbrev rm_X3_localAt : Room := { frames := 2, cells := 0, slots := 0, locals := 44 }
def f_X3_localAt (x1 x2 : Int32) (σ : St) : Option Int32 :=
  (f_X1_localAt x1 x2 σ).bind fun u1 =>
  some u1
set_option maxHeartbeats 4000000 in
set_option maxRecDepth 100000 in
theorem m_X3_localAt (l : Launch) (D : va_G) (ty : Nat → ClassId) (q : Nat → Nat) (σ : St) (sz : Nat) (x1 x2 : Int32) {rr : Int32} (hF : f_X3_localAt x1 x2 σ = some rr) : Met l yX3_localAt (wsy yX3_localAt cX3_localAt 3 (some .int)) rm_X3_localAt (Pcw D ty (FxC q) (wC ty q σ) sz [.ref (q 2), .int x1, .int x2]) (Qiw D ty (wC ty q) (va_A (wC ty q σ) sz) (rr, σ)) 0 0 (va_A (wC ty q σ) sz) := by
  refine en_w (Qc := fun A => Qiw D ty (wC ty q) A (rr, σ)) (by decide) (Nat.le_of_ble_eq_true rfl) ?_
  intro p e s m args below meth c A X hlk hr _ H locs hI ls hl
  have X : CallFix p m c cX3_localAt 3 s args tb RX3 := X
  have hl : lv_has ls 3 [(0, .ref (q 2)), (1, .int x1), (2, .int x2)] := hl
  unfold f_X3_localAt at hF
  refine lv_aload_n X.1 X.2.1 dX3_localAt_0 rfl (lv_at hl 0 rfl) ?_
  refine g_X3_frames X hI dX3_localAt_1 ?_
  refine lv_iload_n X.1 X.2.1 dX3_localAt_4 rfl (lv_at hl 1 rfl) ?_
  refine lv_iload_n X.1 X.2.1 dX3_localAt_5 rfl (lv_at hl 2 rfl) ?_
  obtain ⟨u1, h2, hF⟩ := fb_bnd hF
  refine cl_i (w := wC ty q) (σ := σ) (rest := []) X (fxC q) hI (m_X1_localAt l D ty q σ _ x1 x2 h2) ok_X1_localAt ml_X3_57 ⟨rfl, rfl, Nat.le_of_ble_eq_true rfl, Nat.le_of_ble_eq_true rfl⟩ 4 rc_X1 rfl rfl hl.1 rfl (Nat.le_of_ble_eq_true rfl) ⟨Nat.zero_le _, Nat.zero_le _⟩ dX3_localAt_6 (fun H locs hI => ?_)
  exact rt_i X hlk hr hI (fb_pr hF) dX3_localAt_9
abbrev rm_X3_stateOf : Room := { frames := 2, cells := 0, slots := 0, locals := 41 }
def b_X3_stateOf_16 (x1 z0 : Int32) (σ : St) : Option Int32 :=
  (f_X2_isActive x1 σ).bind fun u4 =>
  if u4 = 0 then
    some (z0 + 0)
  else
    some (z0 + 2)
set_option maxHeartbeats 4000000 in
set_option maxRecDepth 100000 in
theorem w_b_X3_stateOf_16 {l : Launch} {p : Program} {e : Env} {s : State} {m : MethodId} {args : Array Value} {below : List Frame} {meth : Method} {c : Code} {A : Nat → Prop} {D : va_G} {ty : Nat → ClassId} {q : Nat → Nat} {rr : Int32} (X : CallFix p m c cX3_stateOf 2 s args tb RX3) (hlk : meth.locks = false) (hr : meth.sig.returnType = (some .int)) {σ : St} {H : Heap} {locs : List Loc} (hI : Inw D ty (FxC q) (wC ty q σ) A s H locs) (x1 z0 : Int32) (hF : b_X3_stateOf_16 x1 z0 σ = some rr) (ls : Array Slot) (hl : lv_has ls 2 [(0, .ref (q 2)), (1, .int x1)]) : W p l e rm_X3_stateOf s m args below meth c H locs 0 0 (MQ below (Qiw D ty (wC ty q) A (rr, σ)) args s 0 0 A) (F0 m 16 ls [.int z0]) := by
  unfold b_X3_stateOf_16 at hF
  refine lv_aload_n X.1 X.2.1 dX3_stateOf_16 rfl (lv_at hl 0 rfl) ?_
  refine g_X3_memory X hI dX3_stateOf_17 ?_
  refine lv_iload_n X.1 X.2.1 dX3_stateOf_20 rfl (lv_at hl 1 rfl) ?_
  obtain ⟨u4, h5, hF⟩ := fb_bnd hF
  refine cl_i (w := wC ty q) (σ := σ) (rest := [.int z0]) X (fxC q) hI (m_X2_isActive l D ty q σ _ x1 h5) ok_X2_isActive ml_X3_65 ⟨rfl, rfl, Nat.le_of_ble_eq_true rfl, Nat.le_of_ble_eq_true rfl⟩ 3 rc_X2 rfl rfl hl.1 rfl (Nat.le_of_ble_eq_true rfl) ⟨Nat.zero_le _, Nat.zero_le _⟩ dX3_stateOf_21 (fun H locs hI => ?_)
  refine lv_if_eq (tgt := 31) X.1 X.2.1 dX3_stateOf_24 (by decide) (fun c6 => ?_) (fun c6 => ?_)
  · replace hF := fb_pos c6 hF
    refine lv_iconst (v := 0) X.1 X.2.1 dX3_stateOf_31 (by decide) ?_
    refine lv_iadd X.1 X.2.1 dX3_stateOf_32 ?_
    exact rt_i X hlk hr hI (fb_pr hF) dX3_stateOf_33
  · replace hF := fb_neg c6 hF
    refine lv_iconst (v := 2) X.1 X.2.1 dX3_stateOf_27 (by decide) ?_
    refine lv_goto (tgt := 32) X.1 X.2.1 dX3_stateOf_28 (by decide) ?_
    refine lv_iadd X.1 X.2.1 dX3_stateOf_32 ?_
    exact rt_i X hlk hr hI (fb_pr hF) dX3_stateOf_33
def f_X3_stateOf (x1 : Int32) (σ : St) : Option Int32 :=
  (f_X2_isResident x1 σ).bind fun u1 =>
  if u1 = 0 then
    b_X3_stateOf_16 x1 0 σ
  else
    b_X3_stateOf_16 x1 1 σ
set_option maxHeartbeats 4000000 in
set_option maxRecDepth 100000 in
theorem m_X3_stateOf (l : Launch) (D : va_G) (ty : Nat → ClassId) (q : Nat → Nat) (σ : St) (sz : Nat) (x1 : Int32) {rr : Int32} (hF : f_X3_stateOf x1 σ = some rr) : Met l yX3_stateOf (wsy yX3_stateOf cX3_stateOf 2 (some .int)) rm_X3_stateOf (Pcw D ty (FxC q) (wC ty q σ) sz [.ref (q 2), .int x1]) (Qiw D ty (wC ty q) (va_A (wC ty q σ) sz) (rr, σ)) 0 0 (va_A (wC ty q σ) sz) := by
  refine en_w (Qc := fun A => Qiw D ty (wC ty q) A (rr, σ)) (by decide) (Nat.le_of_ble_eq_true rfl) ?_
  intro p e s m args below meth c A X hlk hr _ H locs hI ls hl
  have X : CallFix p m c cX3_stateOf 2 s args tb RX3 := X
  have hl : lv_has ls 2 [(0, .ref (q 2)), (1, .int x1)] := hl
  unfold f_X3_stateOf at hF
  refine lv_aload_n X.1 X.2.1 dX3_stateOf_0 rfl (lv_at hl 0 rfl) ?_
  refine g_X3_memory X hI dX3_stateOf_1 ?_
  refine lv_iload_n X.1 X.2.1 dX3_stateOf_4 rfl (lv_at hl 1 rfl) ?_
  obtain ⟨u1, h2, hF⟩ := fb_bnd hF
  refine cl_i (w := wC ty q) (σ := σ) (rest := []) X (fxC q) hI (m_X2_isResident l D ty q σ _ x1 h2) ok_X2_isResident ml_X3_61 ⟨rfl, rfl, Nat.le_of_ble_eq_true rfl, Nat.le_of_ble_eq_true rfl⟩ 3 rc_X2 rfl rfl hl.1 rfl (Nat.le_of_ble_eq_true rfl) ⟨Nat.zero_le _, Nat.zero_le _⟩ dX3_stateOf_5 (fun H locs hI => ?_)
  refine lv_if_eq (tgt := 15) X.1 X.2.1 dX3_stateOf_8 (by decide) (fun c3 => ?_) (fun c3 => ?_)
  · replace hF := fb_pos c3 hF
    refine lv_iconst (v := 0) X.1 X.2.1 dX3_stateOf_15 (by decide) ?_
    exact w_b_X3_stateOf_16 X hlk hr hI x1 0 hF ls (lv_sub hl [0, 1] rfl)
  · replace hF := fb_neg c3 hF
    refine lv_iconst (v := 1) X.1 X.2.1 dX3_stateOf_11 (by decide) ?_
    refine lv_goto (tgt := 16) X.1 X.2.1 dX3_stateOf_12 (by decide) ?_
    exact w_b_X3_stateOf_16 X hlk hr hI x1 1 hF ls (lv_sub hl [0, 1] rfl)
abbrev rm_X3_fact : Room := { frames := 1, cells := 0, slots := 0, locals := 20 }
def f_X3_fact (x1 : Int32) (σ : St) : Option Int32 :=
  if x1 = 0 then
    some (gI σ 2)
  else
  if x1 = 1 then
    (f_X2_held σ).bind fun u3 =>
    some u3
  else
  if x1 = 2 then
    (f_X2_most σ).bind fun u6 =>
    some u6
  else
  if x1 = 3 then
    (f_X2_loads σ).bind fun u9 =>
    some u9
  else
  if x1 = 4 then
    (f_X2_gone σ).bind fun u12 =>
    some u12
  else
  if x1 = 5 then
    (f_X1_count σ).bind fun u15 =>
    some u15
  else
  if x1 = 6 then
    (f_X1_latestSegment σ).bind fun u18 =>
    some u18
  else
  if x1 = 7 then
    (f_X1_latestPlace σ).bind fun u21 =>
    some u21
  else
  if x1 = 8 then
    (f_X1_depth σ).bind fun u24 =>
    some u24
  else
  if x1 = 9 then
    some (gI σ 1)
  else
  some (gI σ 0)
set_option maxHeartbeats 4000000 in
set_option maxRecDepth 100000 in
theorem m_X3_fact (l : Launch) (D : va_G) (ty : Nat → ClassId) (q : Nat → Nat) (σ : St) (sz : Nat) (x1 : Int32) {rr : Int32} (hF : f_X3_fact x1 σ = some rr) : Met l yX3_fact (wsy yX3_fact cX3_fact 2 (some .int)) rm_X3_fact (Pcw D ty (FxC q) (wC ty q σ) sz [.ref (q 2), .int x1]) (Qiw D ty (wC ty q) (va_A (wC ty q σ) sz) (rr, σ)) 0 0 (va_A (wC ty q σ) sz) := by
  refine en_w (Qc := fun A => Qiw D ty (wC ty q) A (rr, σ)) (by decide) (Nat.le_of_ble_eq_true rfl) ?_
  intro p e s m args below meth c A X hlk hr _ H locs hI ls hl
  have X : CallFix p m c cX3_fact 2 s args tb RX3 := X
  have hl : lv_has ls 2 [(0, .ref (q 2)), (1, .int x1)] := hl
  unfold f_X3_fact at hF
  refine lv_iload_n X.1 X.2.1 dX3_fact_0 rfl (lv_at hl 1 rfl) ?_
  by_cases c1 : x1 = 0
  · replace hF := fb_pos c1 hF
    refine lv_tableIn (tgt := 56) X.1 X.2.1 dX3_fact_1 (by rw [c1]; decide) (by rw [c1]; decide) (by rw [c1]; rfl) (by decide) ?_
    refine lv_aload_n X.1 X.2.1 dX3_fact_56 rfl (lv_at hl 0 rfl) ?_
    refine g_X3_status (v := gI σ 2) X hI rfl dX3_fact_57 ?_
    exact rt_i X hlk hr hI (fb_pr hF) dX3_fact_60
  replace hF := fb_neg c1 hF
  by_cases c2 : x1 = 1
  · replace hF := fb_pos c2 hF
    refine lv_tableIn (tgt := 61) X.1 X.2.1 dX3_fact_1 (by rw [c2]; decide) (by rw [c2]; decide) (by rw [c2]; rfl) (by decide) ?_
    refine lv_aload_n X.1 X.2.1 dX3_fact_61 rfl (lv_at hl 0 rfl) ?_
    refine g_X3_memory X hI dX3_fact_62 ?_
    obtain ⟨u3, h4, hF⟩ := fb_bnd hF
    refine cl_i (w := wC ty q) (σ := σ) (rest := []) X (fxC q) hI (m_X2_held l D ty q σ _  h4) ok_X2_held ml_X3_68 ⟨rfl, rfl, Nat.le_of_ble_eq_true rfl, Nat.le_of_ble_eq_true rfl⟩ 3 rc_X2 rfl rfl hl.1 rfl (Nat.le_of_ble_eq_true rfl) ⟨Nat.zero_le _, Nat.zero_le _⟩ dX3_fact_65 (fun H locs hI => ?_)
    exact rt_i X hlk hr hI (fb_pr hF) dX3_fact_68
  replace hF := fb_neg c2 hF
  by_cases c5 : x1 = 2
  · replace hF := fb_pos c5 hF
    refine lv_tableIn (tgt := 69) X.1 X.2.1 dX3_fact_1 (by rw [c5]; decide) (by rw [c5]; decide) (by rw [c5]; rfl) (by decide) ?_
    refine lv_aload_n X.1 X.2.1 dX3_fact_69 rfl (lv_at hl 0 rfl) ?_
    refine g_X3_memory X hI dX3_fact_70 ?_
    obtain ⟨u6, h7, hF⟩ := fb_bnd hF
    refine cl_i (w := wC ty q) (σ := σ) (rest := []) X (fxC q) hI (m_X2_most l D ty q σ _  h7) ok_X2_most ml_X3_72 ⟨rfl, rfl, Nat.le_of_ble_eq_true rfl, Nat.le_of_ble_eq_true rfl⟩ 3 rc_X2 rfl rfl hl.1 rfl (Nat.le_of_ble_eq_true rfl) ⟨Nat.zero_le _, Nat.zero_le _⟩ dX3_fact_73 (fun H locs hI => ?_)
    exact rt_i X hlk hr hI (fb_pr hF) dX3_fact_76
  replace hF := fb_neg c5 hF
  by_cases c8 : x1 = 3
  · replace hF := fb_pos c8 hF
    refine lv_tableIn (tgt := 77) X.1 X.2.1 dX3_fact_1 (by rw [c8]; decide) (by rw [c8]; decide) (by rw [c8]; rfl) (by decide) ?_
    refine lv_aload_n X.1 X.2.1 dX3_fact_77 rfl (lv_at hl 0 rfl) ?_
    refine g_X3_memory X hI dX3_fact_78 ?_
    obtain ⟨u9, h10, hF⟩ := fb_bnd hF
    refine cl_i (w := wC ty q) (σ := σ) (rest := []) X (fxC q) hI (m_X2_loads l D ty q σ _  h10) ok_X2_loads ml_X3_75 ⟨rfl, rfl, Nat.le_of_ble_eq_true rfl, Nat.le_of_ble_eq_true rfl⟩ 3 rc_X2 rfl rfl hl.1 rfl (Nat.le_of_ble_eq_true rfl) ⟨Nat.zero_le _, Nat.zero_le _⟩ dX3_fact_81 (fun H locs hI => ?_)
    exact rt_i X hlk hr hI (fb_pr hF) dX3_fact_84
  replace hF := fb_neg c8 hF
  by_cases c11 : x1 = 4
  · replace hF := fb_pos c11 hF
    refine lv_tableIn (tgt := 85) X.1 X.2.1 dX3_fact_1 (by rw [c11]; decide) (by rw [c11]; decide) (by rw [c11]; rfl) (by decide) ?_
    refine lv_aload_n X.1 X.2.1 dX3_fact_85 rfl (lv_at hl 0 rfl) ?_
    refine g_X3_memory X hI dX3_fact_86 ?_
    obtain ⟨u12, h13, hF⟩ := fb_bnd hF
    refine cl_i (w := wC ty q) (σ := σ) (rest := []) X (fxC q) hI (m_X2_gone l D ty q σ _  h13) ok_X2_gone ml_X3_78 ⟨rfl, rfl, Nat.le_of_ble_eq_true rfl, Nat.le_of_ble_eq_true rfl⟩ 3 rc_X2 rfl rfl hl.1 rfl (Nat.le_of_ble_eq_true rfl) ⟨Nat.zero_le _, Nat.zero_le _⟩ dX3_fact_89 (fun H locs hI => ?_)
    exact rt_i X hlk hr hI (fb_pr hF) dX3_fact_92
  replace hF := fb_neg c11 hF
  by_cases c14 : x1 = 5
  · replace hF := fb_pos c14 hF
    refine lv_tableIn (tgt := 93) X.1 X.2.1 dX3_fact_1 (by rw [c14]; decide) (by rw [c14]; decide) (by rw [c14]; rfl) (by decide) ?_
    refine lv_aload_n X.1 X.2.1 dX3_fact_93 rfl (lv_at hl 0 rfl) ?_
    refine g_X3_frames X hI dX3_fact_94 ?_
    obtain ⟨u15, h16, hF⟩ := fb_bnd hF
    refine cl_i (w := wC ty q) (σ := σ) (rest := []) X (fxC q) hI (m_X1_count l D ty q σ _  h16) ok_X1_count ml_X3_81 ⟨rfl, rfl, Nat.le_of_ble_eq_true rfl, Nat.le_of_ble_eq_true rfl⟩ 4 rc_X1 rfl rfl hl.1 rfl (Nat.le_of_ble_eq_true rfl) ⟨Nat.zero_le _, Nat.zero_le _⟩ dX3_fact_97 (fun H locs hI => ?_)
    exact rt_i X hlk hr hI (fb_pr hF) dX3_fact_100
  replace hF := fb_neg c14 hF
  by_cases c17 : x1 = 6
  · replace hF := fb_pos c17 hF
    refine lv_tableIn (tgt := 101) X.1 X.2.1 dX3_fact_1 (by rw [c17]; decide) (by rw [c17]; decide) (by rw [c17]; rfl) (by decide) ?_
    refine lv_aload_n X.1 X.2.1 dX3_fact_101 rfl (lv_at hl 0 rfl) ?_
    refine g_X3_frames X hI dX3_fact_102 ?_
    obtain ⟨u18, h19, hF⟩ := fb_bnd hF
    refine cl_i (w := wC ty q) (σ := σ) (rest := []) X (fxC q) hI (m_X1_latestSegment l D ty q σ _  h19) ok_X1_latestSegment ml_X3_84 ⟨rfl, rfl, Nat.le_of_ble_eq_true rfl, Nat.le_of_ble_eq_true rfl⟩ 4 rc_X1 rfl rfl hl.1 rfl (Nat.le_of_ble_eq_true rfl) ⟨Nat.zero_le _, Nat.zero_le _⟩ dX3_fact_105 (fun H locs hI => ?_)
    exact rt_i X hlk hr hI (fb_pr hF) dX3_fact_108
  replace hF := fb_neg c17 hF
  by_cases c20 : x1 = 7
  · replace hF := fb_pos c20 hF
    refine lv_tableIn (tgt := 109) X.1 X.2.1 dX3_fact_1 (by rw [c20]; decide) (by rw [c20]; decide) (by rw [c20]; rfl) (by decide) ?_
    refine lv_aload_n X.1 X.2.1 dX3_fact_109 rfl (lv_at hl 0 rfl) ?_
    refine g_X3_frames X hI dX3_fact_110 ?_
    obtain ⟨u21, h22, hF⟩ := fb_bnd hF
    refine cl_i (w := wC ty q) (σ := σ) (rest := []) X (fxC q) hI (m_X1_latestPlace l D ty q σ _  h22) ok_X1_latestPlace ml_X3_87 ⟨rfl, rfl, Nat.le_of_ble_eq_true rfl, Nat.le_of_ble_eq_true rfl⟩ 4 rc_X1 rfl rfl hl.1 rfl (Nat.le_of_ble_eq_true rfl) ⟨Nat.zero_le _, Nat.zero_le _⟩ dX3_fact_113 (fun H locs hI => ?_)
    exact rt_i X hlk hr hI (fb_pr hF) dX3_fact_116
  replace hF := fb_neg c20 hF
  by_cases c23 : x1 = 8
  · replace hF := fb_pos c23 hF
    refine lv_tableIn (tgt := 117) X.1 X.2.1 dX3_fact_1 (by rw [c23]; decide) (by rw [c23]; decide) (by rw [c23]; rfl) (by decide) ?_
    refine lv_aload_n X.1 X.2.1 dX3_fact_117 rfl (lv_at hl 0 rfl) ?_
    refine g_X3_frames X hI dX3_fact_118 ?_
    obtain ⟨u24, h25, hF⟩ := fb_bnd hF
    refine cl_i (w := wC ty q) (σ := σ) (rest := []) X (fxC q) hI (m_X1_depth l D ty q σ _  h25) ok_X1_depth ml_X3_90 ⟨rfl, rfl, Nat.le_of_ble_eq_true rfl, Nat.le_of_ble_eq_true rfl⟩ 4 rc_X1 rfl rfl hl.1 rfl (Nat.le_of_ble_eq_true rfl) ⟨Nat.zero_le _, Nat.zero_le _⟩ dX3_fact_121 (fun H locs hI => ?_)
    exact rt_i X hlk hr hI (fb_pr hF) dX3_fact_124
  replace hF := fb_neg c23 hF
  by_cases c26 : x1 = 9
  · replace hF := fb_pos c26 hF
    refine lv_tableIn (tgt := 125) X.1 X.2.1 dX3_fact_1 (by rw [c26]; decide) (by rw [c26]; decide) (by rw [c26]; rfl) (by decide) ?_
    refine lv_aload_n X.1 X.2.1 dX3_fact_125 rfl (lv_at hl 0 rfl) ?_
    refine g_X3_result (v := gI σ 1) X hI rfl dX3_fact_126 ?_
    exact rt_i X hlk hr hI (fb_pr hF) dX3_fact_129
  replace hF := fb_neg c26 hF
  have hDf : W p l e rm_X3_fact s m args below meth c H locs 0 0 (MQ below (Qiw D ty (wC ty q) A (rr, σ)) args s 0 0 A) (F0 m 130 ls []) := by
    refine lv_aload_n X.1 X.2.1 dX3_fact_130 rfl (lv_at hl 0 rfl) ?_
    refine g_X3_outCount (v := gI σ 0) X hI rfl dX3_fact_131 ?_
    exact rt_i X hlk hr hI (fb_pr hF) dX3_fact_134
  refine lv_tableOut (tgt := 130) X.1 X.2.1 dX3_fact_1 ?_ (by decide) hDf
  by_cases g27 : (x1).toInt < 0
  · exact Or.inl g27
  · refine Or.inr ?_
    have n0 : ¬ (x1).toInt = 0 := fun h => c1 (Int32.toInt_inj.mp (h.trans (by decide)))
    have n1 : ¬ (x1).toInt = 1 := fun h => c2 (Int32.toInt_inj.mp (h.trans (by decide)))
    have n2 : ¬ (x1).toInt = 2 := fun h => c5 (Int32.toInt_inj.mp (h.trans (by decide)))
    have n3 : ¬ (x1).toInt = 3 := fun h => c8 (Int32.toInt_inj.mp (h.trans (by decide)))
    have n4 : ¬ (x1).toInt = 4 := fun h => c11 (Int32.toInt_inj.mp (h.trans (by decide)))
    have n5 : ¬ (x1).toInt = 5 := fun h => c14 (Int32.toInt_inj.mp (h.trans (by decide)))
    have n6 : ¬ (x1).toInt = 6 := fun h => c17 (Int32.toInt_inj.mp (h.trans (by decide)))
    have n7 : ¬ (x1).toInt = 7 := fun h => c20 (Int32.toInt_inj.mp (h.trans (by decide)))
    have n8 : ¬ (x1).toInt = 8 := fun h => c23 (Int32.toInt_inj.mp (h.trans (by decide)))
    have n9 : ¬ (x1).toInt = 9 := fun h => c26 (Int32.toInt_inj.mp (h.trans (by decide)))
    omega
abbrev rm_X3_kindAt : Room := { frames := 1, cells := 0, slots := 0, locals := 23 }
def f_X3_kindAt (x1 x2 : Int32) (σ : St) : Option Int32 :=
  (f_X0_lengthOf x1 σ).bind fun u1 =>
  if x2 < 0 then
    some (-1)
  else
    if x2 < u1 then
      (f_X0_byteAt x1 x2 σ).bind fun u5 =>
      if u5 < 0 then
        some (-1)
      else
        if 13 ≤ u5 then
          some (-1)
        else
          if inB u5 13 = true then
            if (x2 + (tLen u5.toNatClampNeg)) ≤ u1 then
              some u5
            else
              some (-1)
          else none
    else
      some (-1)
set_option maxHeartbeats 4000000 in
set_option maxRecDepth 100000 in
theorem m_X3_kindAt (l : Launch) (D : va_G) (ty : Nat → ClassId) (q : Nat → Nat) (σ : St) (sz : Nat) (x1 x2 : Int32) {rr : Int32} (hF : f_X3_kindAt x1 x2 σ = some rr) : Met l yX3_kindAt (wsy yX3_kindAt cX3_kindAt 5 (some .int)) rm_X3_kindAt (Pcw D ty (FxC q) (wC ty q σ) sz [.ref (q 2), .int x1, .int x2]) (Qiw D ty (wC ty q) (va_A (wC ty q σ) sz) (rr, σ)) 0 0 (va_A (wC ty q σ) sz) := by
  refine en_w (Qc := fun A => Qiw D ty (wC ty q) A (rr, σ)) (by decide) (Nat.le_of_ble_eq_true rfl) ?_
  intro p e s m args below meth c A X hlk hr _ H locs hI ls hl
  have X : CallFix p m c cX3_kindAt 5 s args tb RX3 := X
  have hl : lv_has ls 5 [(0, .ref (q 2)), (1, .int x1), (2, .int x2)] := hl
  unfold f_X3_kindAt at hF
  refine lv_aload_n X.1 X.2.1 dX3_kindAt_0 rfl (lv_at hl 0 rfl) ?_
  refine g_X3_disk X hI dX3_kindAt_1 ?_
  refine lv_iload_n X.1 X.2.1 dX3_kindAt_4 rfl (lv_at hl 1 rfl) ?_
  obtain ⟨u1, h2, hF⟩ := fb_bnd hF
  refine cl_i (w := wC ty q) (σ := σ) (rest := []) X (fxC q) hI (m_X0_lengthOf l D ty q σ _ x1 h2) ok_X0_lengthOf ml_X3_135 ⟨rfl, rfl, Nat.le_of_ble_eq_true rfl, Nat.le_of_ble_eq_true rfl⟩ 1 rc_X0 rfl rfl hl.1 rfl (Nat.le_of_ble_eq_true rfl) ⟨Nat.zero_le _, Nat.zero_le _⟩ dX3_kindAt_5 (fun H locs hI => ?_)
  refine lv_istore_n (lv' := [(3, .int u1), (0, .ref (q 2)), (1, .int x1), (2, .int x2)]) X.1 X.2.1 dX3_kindAt_8 rfl hl (by decide) rfl (fun ls hl => ?_)
  refine lv_iload_n X.1 X.2.1 dX3_kindAt_9 rfl (lv_at hl 3 rfl) ?_
  refine lv_if_lt (tgt := 18) X.1 X.2.1 dX3_kindAt_10 (by decide) (fun c3 => ?_) (fun c3 => ?_)
  · replace hF := fb_pos c3 hF
    refine lv_iconst (v := (-1)) X.1 X.2.1 dX3_kindAt_18 (by decide) ?_
    exact rt_i X hlk hr hI (fb_pr hF) dX3_kindAt_19
  · replace hF := fb_neg c3 hF
    refine lv_iload_n X.1 X.2.1 dX3_kindAt_13 rfl (lv_at hl 3 rfl) ?_
    refine lv_iload_n X.1 X.2.1 dX3_kindAt_14 rfl (lv_at hl 0 rfl) ?_
    refine lv_icmp_lt (tgt := 20) X.1 X.2.1 dX3_kindAt_15 (by decide) (fun c4 => ?_) (fun c4 => ?_)
    · replace hF := fb_pos c4 hF
      refine lv_aload_n X.1 X.2.1 dX3_kindAt_20 rfl (lv_at hl 1 rfl) ?_
      refine g_X3_disk X hI dX3_kindAt_21 ?_
      refine lv_iload_n X.1 X.2.1 dX3_kindAt_24 rfl (lv_at hl 2 rfl) ?_
      refine lv_iload_n X.1 X.2.1 dX3_kindAt_25 rfl (lv_at hl 3 rfl) ?_
      obtain ⟨u5, h6, hF⟩ := fb_bnd hF
      refine cl_i (w := wC ty q) (σ := σ) (rest := []) X (fxC q) hI (m_X0_byteAt l D ty q σ _ x1 x2 h6) ok_X0_byteAt ml_X3_99 ⟨rfl, rfl, Nat.le_of_ble_eq_true rfl, Nat.le_of_ble_eq_true rfl⟩ 1 rc_X0 rfl rfl hl.1 rfl (Nat.le_of_ble_eq_true rfl) ⟨Nat.zero_le _, Nat.zero_le _⟩ dX3_kindAt_26 (fun H locs hI => ?_)
      refine lv_istore (lv' := [(4, .int u5), (3, .int u1), (0, .ref (q 2)), (1, .int x1), (2, .int x2)]) X.1 X.2.1 dX3_kindAt_29 hl (by decide) rfl (fun ls hl => ?_)
      refine lv_iload X.1 X.2.1 dX3_kindAt_31 (lv_at hl 0 rfl) ?_
      refine lv_if_lt (tgt := 57) X.1 X.2.1 dX3_kindAt_33 (by decide) (fun c7 => ?_) (fun c7 => ?_)
      · replace hF := fb_pos c7 hF
        refine lv_iconst (v := (-1)) X.1 X.2.1 dX3_kindAt_57 (by decide) ?_
        exact rt_i X hlk hr hI (fb_pr hF) dX3_kindAt_58
      · replace hF := fb_neg c7 hF
        refine lv_iload X.1 X.2.1 dX3_kindAt_36 (lv_at hl 0 rfl) ?_
        refine g_X3_LENGTHS X hI dX3_kindAt_38 ?_
        refine nS_21 X hI dX3_kindAt_41 ?_
        refine lv_icmp_ge (tgt := 57) X.1 X.2.1 dX3_kindAt_42 (by decide) (fun c8 => ?_) (fun c8 => ?_)
        · replace hF := fb_pos c8 hF
          refine lv_iconst (v := (-1)) X.1 X.2.1 dX3_kindAt_57 (by decide) ?_
          exact rt_i X hlk hr hI (fb_pr hF) dX3_kindAt_58
        · replace hF := fb_neg c8 hF
          refine lv_iload_n X.1 X.2.1 dX3_kindAt_45 rfl (lv_at hl 4 rfl) ?_
          refine g_X3_LENGTHS X hI dX3_kindAt_46 ?_
          refine lv_iload X.1 X.2.1 dX3_kindAt_49 (lv_at hl 0 rfl) ?_
          obtain ⟨h9, hF⟩ := fb_chk hF
          refine aS_21 (v := tLen u5.toNatClampNeg) X hI rfl h9 dX3_kindAt_51 ?_
          refine lv_iadd X.1 X.2.1 dX3_kindAt_52 ?_
          refine lv_iload_n X.1 X.2.1 dX3_kindAt_53 rfl (lv_at hl 1 rfl) ?_
          refine lv_icmp_le (tgt := 59) X.1 X.2.1 dX3_kindAt_54 (by decide) (fun c10 => ?_) (fun c10 => ?_)
          · replace hF := fb_pos c10 hF
            refine lv_iload X.1 X.2.1 dX3_kindAt_59 (lv_at hl 0 rfl) ?_
            exact rt_i X hlk hr hI (fb_pr hF) dX3_kindAt_61
          · replace hF := fb_neg c10 hF
            refine lv_iconst (v := (-1)) X.1 X.2.1 dX3_kindAt_57 (by decide) ?_
            exact rt_i X hlk hr hI (fb_pr hF) dX3_kindAt_58
    · replace hF := fb_neg c4 hF
      refine lv_iconst (v := (-1)) X.1 X.2.1 dX3_kindAt_18 (by decide) ?_
      exact rt_i X hlk hr hI (fb_pr hF) dX3_kindAt_19
abbrev rm_X3_push : Room := { frames := 2, cells := 0, slots := 0, locals := 53 }
def f_X3_push (x1 : Int32) (σ : St) : Option (Int32 × St) :=
  (f_X2_hold 4 (-1) σ).bind fun u1 =>
  if u1.1 = 0 then
    some (0, sI u1.2 2 4)
  else
    (f_X1_push x1 u1.2).bind fun u4 =>
    some (1, u4.2)
set_option maxHeartbeats 4000000 in
set_option maxRecDepth 100000 in
theorem m_X3_push (l : Launch) (D : va_G) (ty : Nat → ClassId) (q : Nat → Nat) (σ : St) (sz : Nat) (x1 : Int32) {res : Int32 × St} (hF : f_X3_push x1 σ = some res) : Met l yX3_push (wsy yX3_push cX3_push 2 (some .boolean)) rm_X3_push (Pcw D ty (FxC q) (wC ty q σ) sz [.ref (q 2), .int x1]) (Qiw D ty (wC ty q) (va_A (wC ty q σ) sz) res) 0 0 (va_A (wC ty q σ) sz) := by
  refine en_w (Qc := fun A => Qiw D ty (wC ty q) A res) (by decide) (Nat.le_of_ble_eq_true rfl) ?_
  intro p e s m args below meth c A X hlk hr _ H locs hI ls hl
  have X : CallFix p m c cX3_push 2 s args tb RX3 := X
  have hl : lv_has ls 2 [(0, .ref (q 2)), (1, .int x1)] := hl
  unfold f_X3_push at hF
  refine lv_aload_n X.1 X.2.1 dX3_push_0 rfl (lv_at hl 0 rfl) ?_
  refine g_X3_memory X hI dX3_push_1 ?_
  refine lv_iconst (v := 4) X.1 X.2.1 dX3_push_4 (by decide) ?_
  refine lv_iconst (v := (-1)) X.1 X.2.1 dX3_push_5 (by decide) ?_
  obtain ⟨u1, h2, hF⟩ := fb_bnd hF
  refine cl_i (w := wC ty q) (σ := σ) (rest := []) X (fxC q) hI (m_X2_hold l D ty q σ _ 4 (-1) h2) ok_X2_hold ml_X3_145 ⟨rfl, rfl, Nat.le_of_ble_eq_true rfl, Nat.le_of_ble_eq_true rfl⟩ 3 rc_X2 rfl rfl hl.1 rfl (Nat.le_of_ble_eq_true rfl) ⟨Nat.zero_le _, Nat.zero_le _⟩ dX3_push_6 (fun H locs hI => ?_)
  refine lv_if_ne (tgt := 19) X.1 X.2.1 dX3_push_9 (by decide) (fun c3 => ?_) (fun c3 => ?_)
  · replace hF := fb_neg c3 hF
    refine lv_aload_n X.1 X.2.1 dX3_push_19 rfl (lv_at hl 0 rfl) ?_
    refine g_X3_frames X hI dX3_push_20 ?_
    refine lv_iload_n X.1 X.2.1 dX3_push_23 rfl (lv_at hl 1 rfl) ?_
    obtain ⟨u4, h5, hF⟩ := fb_bnd hF
    refine cl_v (w := wC ty q) (σ := u1.2) (rest := []) X (fxC q) hI (m_X1_push l D ty q u1.2 _ x1 h5) ok_X1_push ml_X3_149 ⟨rfl, rfl, Nat.le_of_ble_eq_true rfl, Nat.le_of_ble_eq_true rfl⟩ 4 rc_X1 rfl rfl hl.1 rfl (Nat.le_of_ble_eq_true rfl) ⟨Nat.zero_le _, Nat.zero_le _⟩ dX3_push_24 (fun H locs hI => ?_)
    refine lv_iconst (v := 1) X.1 X.2.1 dX3_push_27 (by decide) ?_
    exact rt_z X hlk hr hI rfl hF dX3_push_28
  · replace hF := fb_pos c3 hF
    refine lv_aload_n X.1 X.2.1 dX3_push_12 rfl (lv_at hl 0 rfl) ?_
    refine lv_iconst (v := 4) X.1 X.2.1 dX3_push_13 (by decide) ?_
    refine p_X3_status X hI dX3_push_14 (fun H locs hI => ?_)
    refine lv_iconst (v := 0) X.1 X.2.1 dX3_push_17 (by decide) ?_
    exact rt_z X hlk hr hI rfl hF dX3_push_18
abbrev rm_X3_pushAndMove : Room := { frames := 3, cells := 0, slots := 0, locals := 74 }
def f_X3_pushAndMove (x1 x2 : Int32) (σ : St) : Option (Int32 × St) :=
  (f_X3_push x1 σ).bind fun u1 =>
  if u1.1 = 0 then
    some (0, u1.2)
  else
    (f_X1_moveTo x2 u1.2).bind fun u4 =>
    some (0, u4.2)
set_option maxHeartbeats 4000000 in
set_option maxRecDepth 100000 in
theorem m_X3_pushAndMove (l : Launch) (D : va_G) (ty : Nat → ClassId) (q : Nat → Nat) (σ : St) (sz : Nat) (x1 x2 : Int32) {res : Int32 × St} (hF : f_X3_pushAndMove x1 x2 σ = some res) : Met l yX3_pushAndMove (wsy yX3_pushAndMove cX3_pushAndMove 3 none) rm_X3_pushAndMove (Pcw D ty (FxC q) (wC ty q σ) sz [.ref (q 2), .int x1, .int x2]) (Qvw D ty (wC ty q) (va_A (wC ty q σ) sz) res) 0 0 (va_A (wC ty q σ) sz) := by
  refine en_w (Qc := fun A => Qvw D ty (wC ty q) A res) (by decide) (Nat.le_of_ble_eq_true rfl) ?_
  intro p e s m args below meth c A X hlk hr _ H locs hI ls hl
  have X : CallFix p m c cX3_pushAndMove 3 s args tb RX3 := X
  have hl : lv_has ls 3 [(0, .ref (q 2)), (1, .int x1), (2, .int x2)] := hl
  unfold f_X3_pushAndMove at hF
  refine lv_aload_n X.1 X.2.1 dX3_pushAndMove_0 rfl (lv_at hl 0 rfl) ?_
  refine lv_iload_n X.1 X.2.1 dX3_pushAndMove_1 rfl (lv_at hl 1 rfl) ?_
  obtain ⟨u1, h2, hF⟩ := fb_bnd hF
  refine cl_i (w := wC ty q) (σ := σ) (rest := []) X (fxC q) hI (m_X3_push l D ty q σ _ x1 h2) ok_X3_push ml_X3_152 ⟨rfl, rfl, Nat.le_of_ble_eq_true rfl, Nat.le_of_ble_eq_true rfl⟩ 2 rc_X3 rfl rfl hl.1 rfl (Nat.le_of_ble_eq_true rfl) ⟨Nat.zero_le _, Nat.zero_le _⟩ dX3_pushAndMove_2 (fun H locs hI => ?_)
  refine lv_if_eq (tgt := 16) X.1 X.2.1 dX3_pushAndMove_5 (by decide) (fun c3 => ?_) (fun c3 => ?_)
  · replace hF := fb_pos c3 hF
    exact rt_v X hlk hr hI hF dX3_pushAndMove_16
  · replace hF := fb_neg c3 hF
    refine lv_aload_n X.1 X.2.1 dX3_pushAndMove_8 rfl (lv_at hl 0 rfl) ?_
    refine g_X3_frames X hI dX3_pushAndMove_9 ?_
    refine lv_iload_n X.1 X.2.1 dX3_pushAndMove_12 rfl (lv_at hl 2 rfl) ?_
    obtain ⟨u4, h5, hF⟩ := fb_bnd hF
    refine cl_v (w := wC ty q) (σ := u1.2) (rest := []) X (fxC q) hI (m_X1_moveTo l D ty q u1.2 _ x2 h5) ok_X1_moveTo ml_X3_119 ⟨rfl, rfl, Nat.le_of_ble_eq_true rfl, Nat.le_of_ble_eq_true rfl⟩ 4 rc_X1 rfl rfl hl.1 rfl (Nat.le_of_ble_eq_true rfl) ⟨Nat.zero_le _, Nat.zero_le _⟩ dX3_pushAndMove_13 (fun H locs hI => ?_)
    exact rt_v X hlk hr hI hF dX3_pushAndMove_16
abbrev rm_X3_getLocal : Room := { frames := 4, cells := 0, slots := 0, locals := 96 }
def f_X3_getLocal (x1 x2 : Int32) (σ : St) : Option (Int32 × St) :=
  (f_X1_count σ).bind fun u1 =>
  (f_X1_hasLocal (u1 - 1) x1 σ).bind fun u3 =>
  if u3 = 0 then
    some (0, sI σ 2 3)
  else
    (f_X1_localAt (u1 - 1) x1 σ).bind fun u6 =>
    (f_X3_pushAndMove u6 x2 σ).bind fun u8 =>
    some (0, u8.2)
set_option maxHeartbeats 4000000 in
set_option maxRecDepth 100000 in
theorem m_X3_getLocal (l : Launch) (D : va_G) (ty : Nat → ClassId) (q : Nat → Nat) (σ : St) (sz : Nat) (x1 x2 : Int32) {res : Int32 × St} (hF : f_X3_getLocal x1 x2 σ = some res) : Met l yX3_getLocal (wsy yX3_getLocal cX3_getLocal 4 none) rm_X3_getLocal (Pcw D ty (FxC q) (wC ty q σ) sz [.ref (q 2), .int x1, .int x2]) (Qvw D ty (wC ty q) (va_A (wC ty q σ) sz) res) 0 0 (va_A (wC ty q σ) sz) := by
  refine en_w (Qc := fun A => Qvw D ty (wC ty q) A res) (by decide) (Nat.le_of_ble_eq_true rfl) ?_
  intro p e s m args below meth c A X hlk hr _ H locs hI ls hl
  have X : CallFix p m c cX3_getLocal 4 s args tb RX3 := X
  have hl : lv_has ls 4 [(0, .ref (q 2)), (1, .int x1), (2, .int x2)] := hl
  unfold f_X3_getLocal at hF
  refine lv_aload_n X.1 X.2.1 dX3_getLocal_0 rfl (lv_at hl 0 rfl) ?_
  refine g_X3_frames X hI dX3_getLocal_1 ?_
  obtain ⟨u1, h2, hF⟩ := fb_bnd hF
  refine cl_i (w := wC ty q) (σ := σ) (rest := []) X (fxC q) hI (m_X1_count l D ty q σ _  h2) ok_X1_count ml_X3_81 ⟨rfl, rfl, Nat.le_of_ble_eq_true rfl, Nat.le_of_ble_eq_true rfl⟩ 4 rc_X1 rfl rfl hl.1 rfl (Nat.le_of_ble_eq_true rfl) ⟨Nat.zero_le _, Nat.zero_le _⟩ dX3_getLocal_4 (fun H locs hI => ?_)
  refine lv_iconst (v := 1) X.1 X.2.1 dX3_getLocal_7 (by decide) ?_
  refine lv_isub X.1 X.2.1 dX3_getLocal_8 ?_
  refine lv_istore_n (lv' := [(3, .int (u1 - 1)), (0, .ref (q 2)), (1, .int x1), (2, .int x2)]) X.1 X.2.1 dX3_getLocal_9 rfl hl (by decide) rfl (fun ls hl => ?_)
  refine lv_aload_n X.1 X.2.1 dX3_getLocal_10 rfl (lv_at hl 1 rfl) ?_
  refine g_X3_frames X hI dX3_getLocal_11 ?_
  refine lv_iload_n X.1 X.2.1 dX3_getLocal_14 rfl (lv_at hl 0 rfl) ?_
  refine lv_iload_n X.1 X.2.1 dX3_getLocal_15 rfl (lv_at hl 2 rfl) ?_
  obtain ⟨u3, h4, hF⟩ := fb_bnd hF
  refine cl_i (w := wC ty q) (σ := σ) (rest := []) X (fxC q) hI (m_X1_hasLocal l D ty q σ _ (u1 - 1) x1 h4) ok_X1_hasLocal ml_X3_154 ⟨rfl, rfl, Nat.le_of_ble_eq_true rfl, Nat.le_of_ble_eq_true rfl⟩ 4 rc_X1 rfl rfl hl.1 rfl (Nat.le_of_ble_eq_true rfl) ⟨Nat.zero_le _, Nat.zero_le _⟩ dX3_getLocal_16 (fun H locs hI => ?_)
  refine lv_if_ne (tgt := 28) X.1 X.2.1 dX3_getLocal_19 (by decide) (fun c5 => ?_) (fun c5 => ?_)
  · replace hF := fb_neg c5 hF
    refine lv_aload_n X.1 X.2.1 dX3_getLocal_28 rfl (lv_at hl 1 rfl) ?_
    refine lv_aload_n X.1 X.2.1 dX3_getLocal_29 rfl (lv_at hl 1 rfl) ?_
    refine g_X3_frames X hI dX3_getLocal_30 ?_
    refine lv_iload_n X.1 X.2.1 dX3_getLocal_33 rfl (lv_at hl 0 rfl) ?_
    refine lv_iload_n X.1 X.2.1 dX3_getLocal_34 rfl (lv_at hl 2 rfl) ?_
    obtain ⟨u6, h7, hF⟩ := fb_bnd hF
    refine cl_i (w := wC ty q) (σ := σ) (rest := [.ref (q 2)]) X (fxC q) hI (m_X1_localAt l D ty q σ _ (u1 - 1) x1 h7) ok_X1_localAt ml_X3_57 ⟨rfl, rfl, Nat.le_of_ble_eq_true rfl, Nat.le_of_ble_eq_true rfl⟩ 4 rc_X1 rfl rfl hl.1 rfl (Nat.le_of_ble_eq_true rfl) ⟨Nat.zero_le _, Nat.zero_le _⟩ dX3_getLocal_35 (fun H locs hI => ?_)
    refine lv_iload_n X.1 X.2.1 dX3_getLocal_38 rfl (lv_at hl 3 rfl) ?_
    obtain ⟨u8, h9, hF⟩ := fb_bnd hF
    refine cl_v (w := wC ty q) (σ := σ) (rest := []) X (fxC q) hI (m_X3_pushAndMove l D ty q σ _ u6 x2 h9) ok_X3_pushAndMove ml_X3_107 ⟨rfl, rfl, Nat.le_of_ble_eq_true rfl, Nat.le_of_ble_eq_true rfl⟩ 2 rc_X3 rfl rfl hl.1 rfl (Nat.le_of_ble_eq_true rfl) ⟨Nat.zero_le _, Nat.zero_le _⟩ dX3_getLocal_39 (fun H locs hI => ?_)
    exact rt_v X hlk hr hI hF dX3_getLocal_42
  · replace hF := fb_pos c5 hF
    refine lv_aload_n X.1 X.2.1 dX3_getLocal_22 rfl (lv_at hl 1 rfl) ?_
    refine lv_iconst (v := 3) X.1 X.2.1 dX3_getLocal_23 (by decide) ?_
    refine p_X3_status X hI dX3_getLocal_24 (fun H locs hI => ?_)
    exact rt_v X hlk hr hI hF dX3_getLocal_27
abbrev rm_X3_take : Room := { frames := 2, cells := 0, slots := 0, locals := 40 }
def f_X3_take (σ : St) : Option (Int32 × St) :=
  (f_X2_dropNumber σ).bind fun u1 =>
  (f_X1_pop u1.2).bind fun u3 =>
  some (u3.1, u3.2)
set_option maxHeartbeats 4000000 in
set_option maxRecDepth 100000 in
theorem m_X3_take (l : Launch) (D : va_G) (ty : Nat → ClassId) (q : Nat → Nat) (σ : St) (sz : Nat) {res : Int32 × St} (hF : f_X3_take  σ = some res) : Met l yX3_take (wsy yX3_take cX3_take 1 (some .int)) rm_X3_take (Pcw D ty (FxC q) (wC ty q σ) sz [.ref (q 2)]) (Qiw D ty (wC ty q) (va_A (wC ty q σ) sz) res) 0 0 (va_A (wC ty q σ) sz) := by
  refine en_w (Qc := fun A => Qiw D ty (wC ty q) A res) (by decide) (Nat.le_of_ble_eq_true rfl) ?_
  intro p e s m args below meth c A X hlk hr _ H locs hI ls hl
  have X : CallFix p m c cX3_take 1 s args tb RX3 := X
  have hl : lv_has ls 1 [(0, .ref (q 2))] := hl
  unfold f_X3_take at hF
  refine lv_aload_n X.1 X.2.1 dX3_take_0 rfl (lv_at hl 0 rfl) ?_
  refine g_X3_memory X hI dX3_take_1 ?_
  obtain ⟨u1, h2, hF⟩ := fb_bnd hF
  refine cl_v (w := wC ty q) (σ := σ) (rest := []) X (fxC q) hI (m_X2_dropNumber l D ty q σ _  h2) ok_X2_dropNumber ml_X3_139 ⟨rfl, rfl, Nat.le_of_ble_eq_true rfl, Nat.le_of_ble_eq_true rfl⟩ 3 rc_X2 rfl rfl hl.1 rfl (Nat.le_of_ble_eq_true rfl) ⟨Nat.zero_le _, Nat.zero_le _⟩ dX3_take_4 (fun H locs hI => ?_)
  refine lv_aload_n X.1 X.2.1 dX3_take_7 rfl (lv_at hl 0 rfl) ?_
  refine g_X3_frames X hI dX3_take_8 ?_
  obtain ⟨u3, h4, hF⟩ := fb_bnd hF
  refine cl_i (w := wC ty q) (σ := u1.2) (rest := []) X (fxC q) hI (m_X1_pop l D ty q u1.2 _  h4) ok_X1_pop ml_X3_142 ⟨rfl, rfl, Nat.le_of_ble_eq_true rfl, Nat.le_of_ble_eq_true rfl⟩ 4 rc_X1 rfl rfl hl.1 rfl (Nat.le_of_ble_eq_true rfl) ⟨Nat.zero_le _, Nat.zero_le _⟩ dX3_take_11 (fun H locs hI => ?_)
  exact rt_i X hlk hr hI hF dX3_take_14
abbrev rm_X3_setLocal : Room := { frames := 3, cells := 0, slots := 0, locals := 60 }
def f_X3_setLocal (x1 x2 : Int32) (σ : St) : Option (Int32 × St) :=
  (f_X1_count σ).bind fun u1 =>
  (f_X1_hasLocal (u1 - 1) x1 σ).bind fun u3 =>
  if u3 = 0 then
    some (0, sI σ 2 3)
  else
    (f_X3_take σ).bind fun u6 =>
    (f_X1_setLocal (u1 - 1) x1 u6.1 u6.2).bind fun u8 =>
    (f_X1_moveTo x2 u8.2).bind fun u10 =>
    some (0, u10.2)
set_option maxHeartbeats 4000000 in
set_option maxRecDepth 100000 in
theorem m_X3_setLocal (l : Launch) (D : va_G) (ty : Nat → ClassId) (q : Nat → Nat) (σ : St) (sz : Nat) (x1 x2 : Int32) {res : Int32 × St} (hF : f_X3_setLocal x1 x2 σ = some res) : Met l yX3_setLocal (wsy yX3_setLocal cX3_setLocal 4 none) rm_X3_setLocal (Pcw D ty (FxC q) (wC ty q σ) sz [.ref (q 2), .int x1, .int x2]) (Qvw D ty (wC ty q) (va_A (wC ty q σ) sz) res) 0 0 (va_A (wC ty q σ) sz) := by
  refine en_w (Qc := fun A => Qvw D ty (wC ty q) A res) (by decide) (Nat.le_of_ble_eq_true rfl) ?_
  intro p e s m args below meth c A X hlk hr _ H locs hI ls hl
  have X : CallFix p m c cX3_setLocal 4 s args tb RX3 := X
  have hl : lv_has ls 4 [(0, .ref (q 2)), (1, .int x1), (2, .int x2)] := hl
  unfold f_X3_setLocal at hF
  refine lv_aload_n X.1 X.2.1 dX3_setLocal_0 rfl (lv_at hl 0 rfl) ?_
  refine g_X3_frames X hI dX3_setLocal_1 ?_
  obtain ⟨u1, h2, hF⟩ := fb_bnd hF
  refine cl_i (w := wC ty q) (σ := σ) (rest := []) X (fxC q) hI (m_X1_count l D ty q σ _  h2) ok_X1_count ml_X3_81 ⟨rfl, rfl, Nat.le_of_ble_eq_true rfl, Nat.le_of_ble_eq_true rfl⟩ 4 rc_X1 rfl rfl hl.1 rfl (Nat.le_of_ble_eq_true rfl) ⟨Nat.zero_le _, Nat.zero_le _⟩ dX3_setLocal_4 (fun H locs hI => ?_)
  refine lv_iconst (v := 1) X.1 X.2.1 dX3_setLocal_7 (by decide) ?_
  refine lv_isub X.1 X.2.1 dX3_setLocal_8 ?_
  refine lv_istore_n (lv' := [(3, .int (u1 - 1)), (0, .ref (q 2)), (1, .int x1), (2, .int x2)]) X.1 X.2.1 dX3_setLocal_9 rfl hl (by decide) rfl (fun ls hl => ?_)
  refine lv_aload_n X.1 X.2.1 dX3_setLocal_10 rfl (lv_at hl 1 rfl) ?_
  refine g_X3_frames X hI dX3_setLocal_11 ?_
  refine lv_iload_n X.1 X.2.1 dX3_setLocal_14 rfl (lv_at hl 0 rfl) ?_
  refine lv_iload_n X.1 X.2.1 dX3_setLocal_15 rfl (lv_at hl 2 rfl) ?_
  obtain ⟨u3, h4, hF⟩ := fb_bnd hF
  refine cl_i (w := wC ty q) (σ := σ) (rest := []) X (fxC q) hI (m_X1_hasLocal l D ty q σ _ (u1 - 1) x1 h4) ok_X1_hasLocal ml_X3_154 ⟨rfl, rfl, Nat.le_of_ble_eq_true rfl, Nat.le_of_ble_eq_true rfl⟩ 4 rc_X1 rfl rfl hl.1 rfl (Nat.le_of_ble_eq_true rfl) ⟨Nat.zero_le _, Nat.zero_le _⟩ dX3_setLocal_16 (fun H locs hI => ?_)
  refine lv_if_ne (tgt := 28) X.1 X.2.1 dX3_setLocal_19 (by decide) (fun c5 => ?_) (fun c5 => ?_)
  · replace hF := fb_neg c5 hF
    refine lv_aload_n X.1 X.2.1 dX3_setLocal_28 rfl (lv_at hl 1 rfl) ?_
    refine g_X3_frames X hI dX3_setLocal_29 ?_
    refine lv_iload_n X.1 X.2.1 dX3_setLocal_32 rfl (lv_at hl 0 rfl) ?_
    refine lv_iload_n X.1 X.2.1 dX3_setLocal_33 rfl (lv_at hl 2 rfl) ?_
    refine lv_aload_n X.1 X.2.1 dX3_setLocal_34 rfl (lv_at hl 1 rfl) ?_
    obtain ⟨u6, h7, hF⟩ := fb_bnd hF
    refine cl_i (w := wC ty q) (σ := σ) (rest := [.int x1, .int (u1 - 1), .ref (q 4)]) X (fxC q) hI (m_X3_take l D ty q σ _  h7) ok_X3_take ml_X3_116 ⟨rfl, rfl, Nat.le_of_ble_eq_true rfl, Nat.le_of_ble_eq_true rfl⟩ 2 rc_X3 rfl rfl hl.1 rfl (Nat.le_of_ble_eq_true rfl) ⟨Nat.zero_le _, Nat.zero_le _⟩ dX3_setLocal_35 (fun H locs hI => ?_)
    obtain ⟨u8, h9, hF⟩ := fb_bnd hF
    refine cl_v (w := wC ty q) (σ := u6.2) (rest := []) X (fxC q) hI (m_X1_setLocal l D ty q u6.2 _ (u1 - 1) x1 u6.1 h9) ok_X1_setLocal ml_X3_157 ⟨rfl, rfl, Nat.le_of_ble_eq_true rfl, Nat.le_of_ble_eq_true rfl⟩ 4 rc_X1 rfl rfl hl.1 rfl (Nat.le_of_ble_eq_true rfl) ⟨Nat.zero_le _, Nat.zero_le _⟩ dX3_setLocal_38 (fun H locs hI => ?_)
    refine lv_aload_n X.1 X.2.1 dX3_setLocal_41 rfl (lv_at hl 1 rfl) ?_
    refine g_X3_frames X hI dX3_setLocal_42 ?_
    refine lv_iload_n X.1 X.2.1 dX3_setLocal_45 rfl (lv_at hl 3 rfl) ?_
    obtain ⟨u10, h11, hF⟩ := fb_bnd hF
    refine cl_v (w := wC ty q) (σ := u8.2) (rest := []) X (fxC q) hI (m_X1_moveTo l D ty q u8.2 _ x2 h11) ok_X1_moveTo ml_X3_119 ⟨rfl, rfl, Nat.le_of_ble_eq_true rfl, Nat.le_of_ble_eq_true rfl⟩ 4 rc_X1 rfl rfl hl.1 rfl (Nat.le_of_ble_eq_true rfl) ⟨Nat.zero_le _, Nat.zero_le _⟩ dX3_setLocal_46 (fun H locs hI => ?_)
    exact rt_v X hlk hr hI hF dX3_setLocal_49
  · replace hF := fb_pos c5 hF
    refine lv_aload_n X.1 X.2.1 dX3_setLocal_22 rfl (lv_at hl 1 rfl) ?_
    refine lv_iconst (v := 3) X.1 X.2.1 dX3_setLocal_23 (by decide) ?_
    refine p_X3_status X hI dX3_setLocal_24 (fun H locs hI => ?_)
    exact rt_v X hlk hr hI hF dX3_setLocal_27
abbrev rm_X3_callFrom : Room := { frames := 4, cells := 0, slots := 0, locals := 100 }
def f_X3_callFrom (x1 x2 x3 : Int32) (σ : St) : Option (Int32 × St) :=
  (f_X3_take σ).bind fun u1 =>
  (f_X3_enter x2 x3 u1.1 u1.2).bind fun u3 =>
  if u3.1 = 0 then
    some (0, u3.2)
  else
    (f_X1_moveCallerTo x1 u3.2).bind fun u6 =>
    some (0, u6.2)
set_option maxHeartbeats 4000000 in
set_option maxRecDepth 100000 in
theorem m_X3_callFrom (l : Launch) (D : va_G) (ty : Nat → ClassId) (q : Nat → Nat) (σ : St) (sz : Nat) (x1 x2 x3 : Int32) {res : Int32 × St} (hF : f_X3_callFrom x1 x2 x3 σ = some res) : Met l yX3_callFrom (wsy yX3_callFrom cX3_callFrom 4 none) rm_X3_callFrom (Pcw D ty (FxC q) (wC ty q σ) sz [.ref (q 2), .int x1, .int x2, .int x3]) (Qvw D ty (wC ty q) (va_A (wC ty q σ) sz) res) 0 0 (va_A (wC ty q σ) sz) := by
  refine en_w (Qc := fun A => Qvw D ty (wC ty q) A res) (by decide) (Nat.le_of_ble_eq_true rfl) ?_
  intro p e s m args below meth c A X hlk hr _ H locs hI ls hl
  have X : CallFix p m c cX3_callFrom 4 s args tb RX3 := X
  have hl : lv_has ls 4 [(0, .ref (q 2)), (1, .int x1), (2, .int x2), (3, .int x3)] := hl
  unfold f_X3_callFrom at hF
  refine lv_aload_n X.1 X.2.1 dX3_callFrom_0 rfl (lv_at hl 0 rfl) ?_
  refine lv_iload_n X.1 X.2.1 dX3_callFrom_1 rfl (lv_at hl 2 rfl) ?_
  refine lv_iload_n X.1 X.2.1 dX3_callFrom_2 rfl (lv_at hl 3 rfl) ?_
  refine lv_aload_n X.1 X.2.1 dX3_callFrom_3 rfl (lv_at hl 0 rfl) ?_
  obtain ⟨u1, h2, hF⟩ := fb_bnd hF
  refine cl_i (w := wC ty q) (σ := σ) (rest := [.int x3, .int x2, .ref (q 2)]) X (fxC q) hI (m_X3_take l D ty q σ _  h2) ok_X3_take ml_X3_116 ⟨rfl, rfl, Nat.le_of_ble_eq_true rfl, Nat.le_of_ble_eq_true rfl⟩ 2 rc_X3 rfl rfl hl.1 rfl (Nat.le_of_ble_eq_true rfl) ⟨Nat.zero_le _, Nat.zero_le _⟩ dX3_callFrom_4 (fun H locs hI => ?_)
  obtain ⟨u3, h4, hF⟩ := fb_bnd hF
  refine cl_i (w := wC ty q) (σ := u1.2) (rest := []) X (fxC q) hI (m_X3_enter l D ty q u1.2 _ x2 x3 u1.1 h4) ok_X3_enter ml_X3_37 ⟨rfl, rfl, Nat.le_of_ble_eq_true rfl, Nat.le_of_ble_eq_true rfl⟩ 2 rc_X3 rfl rfl hl.1 rfl (Nat.le_of_ble_eq_true rfl) ⟨Nat.zero_le _, Nat.zero_le _⟩ dX3_callFrom_7 (fun H locs hI => ?_)
  refine lv_if_eq (tgt := 21) X.1 X.2.1 dX3_callFrom_10 (by decide) (fun c5 => ?_) (fun c5 => ?_)
  · replace hF := fb_pos c5 hF
    exact rt_v X hlk hr hI hF dX3_callFrom_21
  · replace hF := fb_neg c5 hF
    refine lv_aload_n X.1 X.2.1 dX3_callFrom_13 rfl (lv_at hl 0 rfl) ?_
    refine g_X3_frames X hI dX3_callFrom_14 ?_
    refine lv_iload_n X.1 X.2.1 dX3_callFrom_17 rfl (lv_at hl 1 rfl) ?_
    obtain ⟨u6, h7, hF⟩ := fb_bnd hF
    refine cl_v (w := wC ty q) (σ := u3.2) (rest := []) X (fxC q) hI (m_X1_moveCallerTo l D ty q u3.2 _ x1 h7) ok_X1_moveCallerTo ml_X3_163 ⟨rfl, rfl, Nat.le_of_ble_eq_true rfl, Nat.le_of_ble_eq_true rfl⟩ 4 rc_X1 rfl rfl hl.1 rfl (Nat.le_of_ble_eq_true rfl) ⟨Nat.zero_le _, Nat.zero_le _⟩ dX3_callFrom_18 (fun H locs hI => ?_)
    exact rt_v X hlk hr hI hF dX3_callFrom_21
abbrev rm_X3_giveBack : Room := { frames := 3, cells := 0, slots := 0, locals := 74 }
def f_X3_giveBack (σ : St) : Option (Int32 × St) :=
  (f_X3_take σ).bind fun u1 =>
  (f_X1_count u1.2).bind fun u3 =>
  if u3 = 1 then
    some (0, sI (sI u1.2 1 u1.1) 2 2)
  else
    (f_X1_latestLocals u1.2).bind fun u6 =>
    (f_X3_frameBytes u6 u1.2).bind fun u8 =>
    (f_X1_depth u1.2).bind fun u10 =>
    (f_X1_latestSegment u1.2).bind fun u12 =>
    (f_X2_dropFrame u12 (u8 + (4 * u10)) u1.2).bind fun u14 =>
    (f_X1_close u14.2).bind fun u16 =>
    (f_X3_push u1.1 u16.2).bind fun u18 =>
    some (0, u18.2)
set_option maxHeartbeats 4000000 in
set_option maxRecDepth 100000 in
theorem m_X3_giveBack (l : Launch) (D : va_G) (ty : Nat → ClassId) (q : Nat → Nat) (σ : St) (sz : Nat) {res : Int32 × St} (hF : f_X3_giveBack  σ = some res) : Met l yX3_giveBack (wsy yX3_giveBack cX3_giveBack 3 none) rm_X3_giveBack (Pcw D ty (FxC q) (wC ty q σ) sz [.ref (q 2)]) (Qvw D ty (wC ty q) (va_A (wC ty q σ) sz) res) 0 0 (va_A (wC ty q σ) sz) := by
  refine en_w (Qc := fun A => Qvw D ty (wC ty q) A res) (by decide) (Nat.le_of_ble_eq_true rfl) ?_
  intro p e s m args below meth c A X hlk hr _ H locs hI ls hl
  have X : CallFix p m c cX3_giveBack 3 s args tb RX3 := X
  have hl : lv_has ls 3 [(0, .ref (q 2))] := hl
  unfold f_X3_giveBack at hF
  refine lv_aload_n X.1 X.2.1 dX3_giveBack_0 rfl (lv_at hl 0 rfl) ?_
  obtain ⟨u1, h2, hF⟩ := fb_bnd hF
  refine cl_i (w := wC ty q) (σ := σ) (rest := []) X (fxC q) hI (m_X3_take l D ty q σ _  h2) ok_X3_take ml_X3_116 ⟨rfl, rfl, Nat.le_of_ble_eq_true rfl, Nat.le_of_ble_eq_true rfl⟩ 2 rc_X3 rfl rfl hl.1 rfl (Nat.le_of_ble_eq_true rfl) ⟨Nat.zero_le _, Nat.zero_le _⟩ dX3_giveBack_1 (fun H locs hI => ?_)
  refine lv_istore_n (lv' := [(1, .int u1.1), (0, .ref (q 2))]) X.1 X.2.1 dX3_giveBack_4 rfl hl (by decide) rfl (fun ls hl => ?_)
  refine lv_aload_n X.1 X.2.1 dX3_giveBack_5 rfl (lv_at hl 1 rfl) ?_
  refine g_X3_frames X hI dX3_giveBack_6 ?_
  obtain ⟨u3, h4, hF⟩ := fb_bnd hF
  refine cl_i (w := wC ty q) (σ := u1.2) (rest := []) X (fxC q) hI (m_X1_count l D ty q u1.2 _  h4) ok_X1_count ml_X3_81 ⟨rfl, rfl, Nat.le_of_ble_eq_true rfl, Nat.le_of_ble_eq_true rfl⟩ 4 rc_X1 rfl rfl hl.1 rfl (Nat.le_of_ble_eq_true rfl) ⟨Nat.zero_le _, Nat.zero_le _⟩ dX3_giveBack_9 (fun H locs hI => ?_)
  refine lv_iconst (v := 1) X.1 X.2.1 dX3_giveBack_12 (by decide) ?_
  refine lv_icmp_ne (tgt := 27) X.1 X.2.1 dX3_giveBack_13 (by decide) (fun c5 => ?_) (fun c5 => ?_)
  · replace hF := fb_neg c5 hF
    refine lv_aload_n X.1 X.2.1 dX3_giveBack_27 rfl (lv_at hl 1 rfl) ?_
    refine g_X3_frames X hI dX3_giveBack_28 ?_
    obtain ⟨u6, h7, hF⟩ := fb_bnd hF
    refine cl_i (w := wC ty q) (σ := u1.2) (rest := []) X (fxC q) hI (m_X1_latestLocals l D ty q u1.2 _  h7) ok_X1_latestLocals ml_X3_185 ⟨rfl, rfl, Nat.le_of_ble_eq_true rfl, Nat.le_of_ble_eq_true rfl⟩ 4 rc_X1 rfl rfl hl.1 rfl (Nat.le_of_ble_eq_true rfl) ⟨Nat.zero_le _, Nat.zero_le _⟩ dX3_giveBack_31 (fun H locs hI => ?_)
    obtain ⟨u8, h9, hF⟩ := fb_bnd hF
    refine cs_i (w := wC ty q) (σ := u1.2) (rest := []) X (fxC q) hI (m_X3_frameBytes l D ty q u1.2 _ u6 h9) ok_X3_frameBytes ml_X3_172 ⟨rfl, rfl, Nat.le_of_ble_eq_true rfl, Nat.le_of_ble_eq_true rfl⟩ rfl hl.1 rfl (Nat.le_of_ble_eq_true rfl) ⟨Nat.zero_le _, Nat.zero_le _⟩ dX3_giveBack_34 (fun H locs hI => ?_)
    refine lv_iconst (v := 4) X.1 X.2.1 dX3_giveBack_37 (by decide) ?_
    refine lv_aload_n X.1 X.2.1 dX3_giveBack_38 rfl (lv_at hl 1 rfl) ?_
    refine g_X3_frames X hI dX3_giveBack_39 ?_
    obtain ⟨u10, h11, hF⟩ := fb_bnd hF
    refine cl_i (w := wC ty q) (σ := u1.2) (rest := [.int 4, .int u8]) X (fxC q) hI (m_X1_depth l D ty q u1.2 _  h11) ok_X1_depth ml_X3_90 ⟨rfl, rfl, Nat.le_of_ble_eq_true rfl, Nat.le_of_ble_eq_true rfl⟩ 4 rc_X1 rfl rfl hl.1 rfl (Nat.le_of_ble_eq_true rfl) ⟨Nat.zero_le _, Nat.zero_le _⟩ dX3_giveBack_42 (fun H locs hI => ?_)
    refine lv_imul X.1 X.2.1 dX3_giveBack_45 ?_
    refine lv_iadd X.1 X.2.1 dX3_giveBack_46 ?_
    refine lv_istore_n (lv' := [(2, .int (u8 + (4 * u10))), (1, .int u1.1), (0, .ref (q 2))]) X.1 X.2.1 dX3_giveBack_47 rfl hl (by decide) rfl (fun ls hl => ?_)
    refine lv_aload_n X.1 X.2.1 dX3_giveBack_48 rfl (lv_at hl 2 rfl) ?_
    refine g_X3_memory X hI dX3_giveBack_49 ?_
    refine lv_aload_n X.1 X.2.1 dX3_giveBack_52 rfl (lv_at hl 2 rfl) ?_
    refine g_X3_frames X hI dX3_giveBack_53 ?_
    obtain ⟨u12, h13, hF⟩ := fb_bnd hF
    refine cl_i (w := wC ty q) (σ := u1.2) (rest := [.ref (q 3)]) X (fxC q) hI (m_X1_latestSegment l D ty q u1.2 _  h13) ok_X1_latestSegment ml_X3_84 ⟨rfl, rfl, Nat.le_of_ble_eq_true rfl, Nat.le_of_ble_eq_true rfl⟩ 4 rc_X1 rfl rfl hl.1 rfl (Nat.le_of_ble_eq_true rfl) ⟨Nat.zero_le _, Nat.zero_le _⟩ dX3_giveBack_56 (fun H locs hI => ?_)
    refine lv_iload_n X.1 X.2.1 dX3_giveBack_59 rfl (lv_at hl 0 rfl) ?_
    obtain ⟨u14, h15, hF⟩ := fb_bnd hF
    refine cl_v (w := wC ty q) (σ := u1.2) (rest := []) X (fxC q) hI (m_X2_dropFrame l D ty q u1.2 _ u12 (u8 + (4 * u10)) h15) ok_X2_dropFrame ml_X3_188 ⟨rfl, rfl, Nat.le_of_ble_eq_true rfl, Nat.le_of_ble_eq_true rfl⟩ 3 rc_X2 rfl rfl hl.1 rfl (Nat.le_of_ble_eq_true rfl) ⟨Nat.zero_le _, Nat.zero_le _⟩ dX3_giveBack_60 (fun H locs hI => ?_)
    refine lv_aload_n X.1 X.2.1 dX3_giveBack_63 rfl (lv_at hl 2 rfl) ?_
    refine g_X3_frames X hI dX3_giveBack_64 ?_
    obtain ⟨u16, h17, hF⟩ := fb_bnd hF
    refine cl_v (w := wC ty q) (σ := u14.2) (rest := []) X (fxC q) hI (m_X1_close l D ty q u14.2 _  h17) ok_X1_close ml_X3_191 ⟨rfl, rfl, Nat.le_of_ble_eq_true rfl, Nat.le_of_ble_eq_true rfl⟩ 4 rc_X1 rfl rfl hl.1 rfl (Nat.le_of_ble_eq_true rfl) ⟨Nat.zero_le _, Nat.zero_le _⟩ dX3_giveBack_67 (fun H locs hI => ?_)
    refine lv_aload_n X.1 X.2.1 dX3_giveBack_70 rfl (lv_at hl 2 rfl) ?_
    refine lv_iload_n X.1 X.2.1 dX3_giveBack_71 rfl (lv_at hl 1 rfl) ?_
    obtain ⟨u18, h19, hF⟩ := fb_bnd hF
    refine cl_i (w := wC ty q) (σ := u16.2) (rest := []) X (fxC q) hI (m_X3_push l D ty q u16.2 _ u1.1 h19) ok_X3_push ml_X3_152 ⟨rfl, rfl, Nat.le_of_ble_eq_true rfl, Nat.le_of_ble_eq_true rfl⟩ 2 rc_X3 rfl rfl hl.1 rfl (Nat.le_of_ble_eq_true rfl) ⟨Nat.zero_le _, Nat.zero_le _⟩ dX3_giveBack_72 (fun H locs hI => ?_)
    refine lv_pop X.1 X.2.1 dX3_giveBack_75 rfl ?_
    exact rt_v X hlk hr hI hF dX3_giveBack_76
  · replace hF := fb_pos c5 hF
    refine lv_aload_n X.1 X.2.1 dX3_giveBack_16 rfl (lv_at hl 1 rfl) ?_
    refine lv_iload_n X.1 X.2.1 dX3_giveBack_17 rfl (lv_at hl 0 rfl) ?_
    refine p_X3_result X hI dX3_giveBack_18 (fun H locs hI => ?_)
    refine lv_aload_n X.1 X.2.1 dX3_giveBack_21 rfl (lv_at hl 1 rfl) ?_
    refine lv_iconst (v := 2) X.1 X.2.1 dX3_giveBack_22 (by decide) ?_
    refine p_X3_status X hI dX3_giveBack_23 (fun H locs hI => ?_)
    exact rt_v X hlk hr hI hF dX3_giveBack_26
abbrev rm_X3_putOut : Room := { frames := 3, cells := 0, slots := 0, locals := 60 }
def f_X3_putOut (x1 : Int32) (σ : St) : Option (Int32 × St) :=
  if (gI σ 0) < 40 then
    (f_X3_take σ).bind fun u2 =>
    if inB (gI σ 0) 40 = true then
      (f_X1_moveTo x1 (sI (sA u2.2 1 (gI σ 0) u2.1) 0 ((gI u2.2 0) + 1))).bind fun u5 =>
      some (0, u5.2)
    else none
  else
    some (0, sI σ 2 3)
set_option maxHeartbeats 4000000 in
set_option maxRecDepth 100000 in
theorem m_X3_putOut (l : Launch) (D : va_G) (ty : Nat → ClassId) (q : Nat → Nat) (σ : St) (sz : Nat) (x1 : Int32) {res : Int32 × St} (hF : f_X3_putOut x1 σ = some res) : Met l yX3_putOut (wsy yX3_putOut cX3_putOut 2 none) rm_X3_putOut (Pcw D ty (FxC q) (wC ty q σ) sz [.ref (q 2), .int x1]) (Qvw D ty (wC ty q) (va_A (wC ty q σ) sz) res) 0 0 (va_A (wC ty q σ) sz) := by
  refine en_w (Qc := fun A => Qvw D ty (wC ty q) A res) (by decide) (Nat.le_of_ble_eq_true rfl) ?_
  intro p e s m args below meth c A X hlk hr _ H locs hI ls hl
  have X : CallFix p m c cX3_putOut 2 s args tb RX3 := X
  have hl : lv_has ls 2 [(0, .ref (q 2)), (1, .int x1)] := hl
  unfold f_X3_putOut at hF
  refine lv_aload_n X.1 X.2.1 dX3_putOut_0 rfl (lv_at hl 0 rfl) ?_
  refine g_X3_outCount (v := gI σ 0) X hI rfl dX3_putOut_1 ?_
  refine lv_bipush (v := 40) X.1 X.2.1 dX3_putOut_4 (by decide) ?_
  refine lv_icmp_lt (tgt := 15) X.1 X.2.1 dX3_putOut_6 (by decide) (fun c1 => ?_) (fun c1 => ?_)
  · replace hF := fb_pos c1 hF
    refine lv_aload_n X.1 X.2.1 dX3_putOut_15 rfl (lv_at hl 0 rfl) ?_
    refine g_X3_outs X hI dX3_putOut_16 ?_
    refine lv_aload_n X.1 X.2.1 dX3_putOut_19 rfl (lv_at hl 0 rfl) ?_
    refine g_X3_outCount (v := gI σ 0) X hI rfl dX3_putOut_20 ?_
    refine lv_aload_n X.1 X.2.1 dX3_putOut_23 rfl (lv_at hl 0 rfl) ?_
    obtain ⟨u2, h3, hF⟩ := fb_bnd hF
    refine cl_i (w := wC ty q) (σ := σ) (rest := [.int (gI σ 0), .ref (q 7)]) X (fxC q) hI (m_X3_take l D ty q σ _  h3) ok_X3_take ml_X3_116 ⟨rfl, rfl, Nat.le_of_ble_eq_true rfl, Nat.le_of_ble_eq_true rfl⟩ 2 rc_X3 rfl rfl hl.1 rfl (Nat.le_of_ble_eq_true rfl) ⟨Nat.zero_le _, Nat.zero_le _⟩ dX3_putOut_24 (fun H locs hI => ?_)
    obtain ⟨h4, hF⟩ := fb_chk hF
    refine sC_1 X hI h4 dX3_putOut_27 (fun H locs hI => ?_)
    refine lv_aload_n X.1 X.2.1 dX3_putOut_28 rfl (lv_at hl 0 rfl) ?_
    refine lv_dup X.1 X.2.1 dX3_putOut_29 rfl ?_
    refine g_X3_outCount (v := gI u2.2 0) X hI rfl dX3_putOut_30 ?_
    refine lv_iconst (v := 1) X.1 X.2.1 dX3_putOut_33 (by decide) ?_
    refine lv_iadd X.1 X.2.1 dX3_putOut_34 ?_
    refine p_X3_outCount X hI dX3_putOut_35 (fun H locs hI => ?_)
    refine lv_aload_n X.1 X.2.1 dX3_putOut_38 rfl (lv_at hl 0 rfl) ?_
    refine g_X3_frames X hI dX3_putOut_39 ?_
    refine lv_iload_n X.1 X.2.1 dX3_putOut_42 rfl (lv_at hl 1 rfl) ?_
    obtain ⟨u5, h6, hF⟩ := fb_bnd hF
    refine cl_v (w := wC ty q) (σ := sI (sA u2.2 1 (gI σ 0) u2.1) 0 ((gI u2.2 0) + 1)) (rest := []) X (fxC q) hI (m_X1_moveTo l D ty q (sI (sA u2.2 1 (gI σ 0) u2.1) 0 ((gI u2.2 0) + 1)) _ x1 h6) ok_X1_moveTo ml_X3_119 ⟨rfl, rfl, Nat.le_of_ble_eq_true rfl, Nat.le_of_ble_eq_true rfl⟩ 4 rc_X1 rfl rfl hl.1 rfl (Nat.le_of_ble_eq_true rfl) ⟨Nat.zero_le _, Nat.zero_le _⟩ dX3_putOut_43 (fun H locs hI => ?_)
    exact rt_v X hlk hr hI hF dX3_putOut_46
  · replace hF := fb_neg c1 hF
    refine lv_aload_n X.1 X.2.1 dX3_putOut_9 rfl (lv_at hl 0 rfl) ?_
    refine lv_iconst (v := 3) X.1 X.2.1 dX3_putOut_10 (by decide) ?_
    refine p_X3_status X hI dX3_putOut_11 (fun H locs hI => ?_)
    exact rt_v X hlk hr hI hF dX3_putOut_14
abbrev rm_X3_valueOf : Room := { frames := 0, cells := 0, slots := 0, locals := 0 }
def f_X3_valueOf (x0 x1 x2 : Int32) (σ : St) : Option Int32 :=
  if x0 = 4 then
    some (x1 + x2)
  else
  if x0 = 5 then
    some (x1 - x2)
  else
  if x0 = 6 then
    if x2 ≤ x1 then
      some 0
    else
      some 1
  else
  if x0 = 7 then
    some (x1 * x2)
  else
  some 0
set_option maxHeartbeats 4000000 in
set_option maxRecDepth 100000 in
theorem m_X3_valueOf (l : Launch) (D : va_G) (ty : Nat → ClassId) (q : Nat → Nat) (σ : St) (sz : Nat) (x0 x1 x2 : Int32) {rr : Int32} (hF : f_X3_valueOf x0 x1 x2 σ = some rr) : Met l yX3_valueOf (wsy yX3_valueOf cX3_valueOf 3 (some .int)) rm_X3_valueOf (Pcw D ty (FxC q) (wC ty q σ) sz [.int x0, .int x1, .int x2]) (Qiw D ty (wC ty q) (va_A (wC ty q σ) sz) (rr, σ)) 0 0 (va_A (wC ty q σ) sz) := by
  refine en_w (Qc := fun A => Qiw D ty (wC ty q) A (rr, σ)) (by decide) (Nat.le_of_ble_eq_true rfl) ?_
  intro p e s m args below meth c A X hlk hr _ H locs hI ls hl
  have X : CallFix p m c cX3_valueOf 3 s args tb RX3 := X
  have hl : lv_has ls 3 [(0, .int x0), (1, .int x1), (2, .int x2)] := hl
  unfold f_X3_valueOf at hF
  refine lv_iload_n X.1 X.2.1 dX3_valueOf_0 rfl (lv_at hl 0 rfl) ?_
  by_cases c1 : x0 = 4
  · replace hF := fb_pos c1 hF
    refine lv_tableIn (tgt := 32) X.1 X.2.1 dX3_valueOf_1 (by rw [c1]; decide) (by rw [c1]; decide) (by rw [c1]; rfl) (by decide) ?_
    refine lv_iload_n X.1 X.2.1 dX3_valueOf_32 rfl (lv_at hl 1 rfl) ?_
    refine lv_iload_n X.1 X.2.1 dX3_valueOf_33 rfl (lv_at hl 2 rfl) ?_
    refine lv_iadd X.1 X.2.1 dX3_valueOf_34 ?_
    exact rt_i X hlk hr hI (fb_pr hF) dX3_valueOf_35
  replace hF := fb_neg c1 hF
  by_cases c2 : x0 = 5
  · replace hF := fb_pos c2 hF
    refine lv_tableIn (tgt := 36) X.1 X.2.1 dX3_valueOf_1 (by rw [c2]; decide) (by rw [c2]; decide) (by rw [c2]; rfl) (by decide) ?_
    refine lv_iload_n X.1 X.2.1 dX3_valueOf_36 rfl (lv_at hl 1 rfl) ?_
    refine lv_iload_n X.1 X.2.1 dX3_valueOf_37 rfl (lv_at hl 2 rfl) ?_
    refine lv_isub X.1 X.2.1 dX3_valueOf_38 ?_
    exact rt_i X hlk hr hI (fb_pr hF) dX3_valueOf_39
  replace hF := fb_neg c2 hF
  by_cases c3 : x0 = 6
  · replace hF := fb_pos c3 hF
    refine lv_tableIn (tgt := 40) X.1 X.2.1 dX3_valueOf_1 (by rw [c3]; decide) (by rw [c3]; decide) (by rw [c3]; rfl) (by decide) ?_
    refine lv_iload_n X.1 X.2.1 dX3_valueOf_40 rfl (lv_at hl 1 rfl) ?_
    refine lv_iload_n X.1 X.2.1 dX3_valueOf_41 rfl (lv_at hl 2 rfl) ?_
    refine lv_icmp_ge (tgt := 49) X.1 X.2.1 dX3_valueOf_42 (by decide) (fun c4 => ?_) (fun c4 => ?_)
    · replace hF := fb_pos c4 hF
      refine lv_iconst (v := 0) X.1 X.2.1 dX3_valueOf_49 (by decide) ?_
      exact rt_i X hlk hr hI (fb_pr hF) dX3_valueOf_50
    · replace hF := fb_neg c4 hF
      refine lv_iconst (v := 1) X.1 X.2.1 dX3_valueOf_45 (by decide) ?_
      refine lv_goto (tgt := 50) X.1 X.2.1 dX3_valueOf_46 (by decide) ?_
      exact rt_i X hlk hr hI (fb_pr hF) dX3_valueOf_50
  replace hF := fb_neg c3 hF
  by_cases c5 : x0 = 7
  · replace hF := fb_pos c5 hF
    refine lv_tableIn (tgt := 51) X.1 X.2.1 dX3_valueOf_1 (by rw [c5]; decide) (by rw [c5]; decide) (by rw [c5]; rfl) (by decide) ?_
    refine lv_iload_n X.1 X.2.1 dX3_valueOf_51 rfl (lv_at hl 1 rfl) ?_
    refine lv_iload_n X.1 X.2.1 dX3_valueOf_52 rfl (lv_at hl 2 rfl) ?_
    refine lv_imul X.1 X.2.1 dX3_valueOf_53 ?_
    exact rt_i X hlk hr hI (fb_pr hF) dX3_valueOf_54
  replace hF := fb_neg c5 hF
  have hDf : W p l e rm_X3_valueOf s m args below meth c H locs 0 0 (MQ below (Qiw D ty (wC ty q) A (rr, σ)) args s 0 0 A) (F0 m 55 ls []) := by
    refine lv_iconst (v := 0) X.1 X.2.1 dX3_valueOf_55 (by decide) ?_
    exact rt_i X hlk hr hI (fb_pr hF) dX3_valueOf_56
  refine lv_tableOut (tgt := 55) X.1 X.2.1 dX3_valueOf_1 ?_ (by decide) hDf
  by_cases g6 : (x0).toInt < 4
  · exact Or.inl g6
  · refine Or.inr ?_
    have n4 : ¬ (x0).toInt = 4 := fun h => c1 (Int32.toInt_inj.mp (h.trans (by decide)))
    have n5 : ¬ (x0).toInt = 5 := fun h => c2 (Int32.toInt_inj.mp (h.trans (by decide)))
    have n6 : ¬ (x0).toInt = 6 := fun h => c3 (Int32.toInt_inj.mp (h.trans (by decide)))
    have n7 : ¬ (x0).toInt = 7 := fun h => c5 (Int32.toInt_inj.mp (h.trans (by decide)))
    omega
abbrev rm_X3_calculate : Room := { frames := 4, cells := 0, slots := 0, locals := 96 }
def f_X3_calculate (x1 x2 : Int32) (σ : St) : Option (Int32 × St) :=
  (f_X3_take σ).bind fun u1 =>
  (f_X3_take u1.2).bind fun u3 =>
  (f_X3_valueOf x1 u3.1 u1.1 u3.2).bind fun u5 =>
  (f_X3_pushAndMove u5 x2 u3.2).bind fun u7 =>
  some (0, u7.2)
set_option maxHeartbeats 4000000 in
set_option maxRecDepth 100000 in
theorem m_X3_calculate (l : Launch) (D : va_G) (ty : Nat → ClassId) (q : Nat → Nat) (σ : St) (sz : Nat) (x1 x2 : Int32) {res : Int32 × St} (hF : f_X3_calculate x1 x2 σ = some res) : Met l yX3_calculate (wsy yX3_calculate cX3_calculate 5 none) rm_X3_calculate (Pcw D ty (FxC q) (wC ty q σ) sz [.ref (q 2), .int x1, .int x2]) (Qvw D ty (wC ty q) (va_A (wC ty q σ) sz) res) 0 0 (va_A (wC ty q σ) sz) := by
  refine en_w (Qc := fun A => Qvw D ty (wC ty q) A res) (by decide) (Nat.le_of_ble_eq_true rfl) ?_
  intro p e s m args below meth c A X hlk hr _ H locs hI ls hl
  have X : CallFix p m c cX3_calculate 5 s args tb RX3 := X
  have hl : lv_has ls 5 [(0, .ref (q 2)), (1, .int x1), (2, .int x2)] := hl
  unfold f_X3_calculate at hF
  refine lv_aload_n X.1 X.2.1 dX3_calculate_0 rfl (lv_at hl 0 rfl) ?_
  obtain ⟨u1, h2, hF⟩ := fb_bnd hF
  refine cl_i (w := wC ty q) (σ := σ) (rest := []) X (fxC q) hI (m_X3_take l D ty q σ _  h2) ok_X3_take ml_X3_116 ⟨rfl, rfl, Nat.le_of_ble_eq_true rfl, Nat.le_of_ble_eq_true rfl⟩ 2 rc_X3 rfl rfl hl.1 rfl (Nat.le_of_ble_eq_true rfl) ⟨Nat.zero_le _, Nat.zero_le _⟩ dX3_calculate_1 (fun H locs hI => ?_)
  refine lv_istore_n (lv' := [(3, .int u1.1), (0, .ref (q 2)), (1, .int x1), (2, .int x2)]) X.1 X.2.1 dX3_calculate_4 rfl hl (by decide) rfl (fun ls hl => ?_)
  refine lv_aload_n X.1 X.2.1 dX3_calculate_5 rfl (lv_at hl 1 rfl) ?_
  obtain ⟨u3, h4, hF⟩ := fb_bnd hF
  refine cl_i (w := wC ty q) (σ := u1.2) (rest := []) X (fxC q) hI (m_X3_take l D ty q u1.2 _  h4) ok_X3_take ml_X3_116 ⟨rfl, rfl, Nat.le_of_ble_eq_true rfl, Nat.le_of_ble_eq_true rfl⟩ 2 rc_X3 rfl rfl hl.1 rfl (Nat.le_of_ble_eq_true rfl) ⟨Nat.zero_le _, Nat.zero_le _⟩ dX3_calculate_6 (fun H locs hI => ?_)
  refine lv_istore (lv' := [(4, .int u3.1), (3, .int u1.1), (0, .ref (q 2)), (1, .int x1), (2, .int x2)]) X.1 X.2.1 dX3_calculate_9 hl (by decide) rfl (fun ls hl => ?_)
  refine lv_aload_n X.1 X.2.1 dX3_calculate_11 rfl (lv_at hl 2 rfl) ?_
  refine lv_iload_n X.1 X.2.1 dX3_calculate_12 rfl (lv_at hl 3 rfl) ?_
  refine lv_iload X.1 X.2.1 dX3_calculate_13 (lv_at hl 0 rfl) ?_
  refine lv_iload_n X.1 X.2.1 dX3_calculate_15 rfl (lv_at hl 1 rfl) ?_
  obtain ⟨u5, h6, hF⟩ := fb_bnd hF
  refine cs_i (w := wC ty q) (σ := u3.2) (rest := [.ref (q 2)]) X (fxC q) hI (m_X3_valueOf l D ty q u3.2 _ x1 u3.1 u1.1 h6) ok_X3_valueOf ml_X3_159 ⟨rfl, rfl, Nat.le_of_ble_eq_true rfl, Nat.le_of_ble_eq_true rfl⟩ rfl hl.1 rfl (Nat.le_of_ble_eq_true rfl) ⟨Nat.zero_le _, Nat.zero_le _⟩ dX3_calculate_16 (fun H locs hI => ?_)
  refine lv_iload_n X.1 X.2.1 dX3_calculate_19 rfl (lv_at hl 4 rfl) ?_
  obtain ⟨u7, h8, hF⟩ := fb_bnd hF
  refine cl_v (w := wC ty q) (σ := u3.2) (rest := []) X (fxC q) hI (m_X3_pushAndMove l D ty q u3.2 _ u5 x2 h8) ok_X3_pushAndMove ml_X3_107 ⟨rfl, rfl, Nat.le_of_ble_eq_true rfl, Nat.le_of_ble_eq_true rfl⟩ 2 rc_X3 rfl rfl hl.1 rfl (Nat.le_of_ble_eq_true rfl) ⟨Nat.zero_le _, Nat.zero_le _⟩ dX3_calculate_20 (fun H locs hI => ?_)
  exact rt_v X hlk hr hI hF dX3_calculate_23
abbrev rm_X3_doInstruction : Room := { frames := 5, cells := 0, slots := 0, locals := 123 }
def f_X3_doInstruction (σ : St) : Option (Int32 × St) :=
  (f_X1_latestSegment σ).bind fun u1 =>
  (f_X1_latestPlace σ).bind fun u3 =>
  (f_X3_kindAt u1 u3 σ).bind fun u5 =>
  if u5 = (-1) then
    some (0, sI σ 2 3)
  else
    (f_X1_depth σ).bind fun u8 =>
    if inB u5 13 = true then
      if (tTak u5.toNatClampNeg) ≤ u8 then
        (f_X0_byteAt u1 (u3 + 1) σ).bind fun u12 =>
        if inB u5 13 = true then
          if u5 = 0 then
            some (0, sI σ 2 2)
          else
          if u5 = 1 then
            (f_X3_pushAndMove u12 (u3 + (tLen u5.toNatClampNeg)) σ).bind fun u17 =>
            some (0, u17.2)
          else
          if u5 = 2 then
            (f_X3_getLocal u12 (u3 + (tLen u5.toNatClampNeg)) σ).bind fun u20 =>
            some (0, u20.2)
          else
          if u5 = 3 then
            (f_X3_setLocal u12 (u3 + (tLen u5.toNatClampNeg)) σ).bind fun u23 =>
            some (0, u23.2)
          else
          if u5 = 8 then
            (f_X3_take σ).bind fun u26 =>
            if u26.1 = 0 then
              (f_X1_moveTo ((u3 + (tLen u5.toNatClampNeg)) + u12) u26.2).bind fun u31 =>
              some (0, u31.2)
            else
              (f_X1_moveTo (u3 + (tLen u5.toNatClampNeg)) u26.2).bind fun u29 =>
              some (0, u29.2)
          else
          if u5 = 9 then
            (f_X1_moveTo ((u3 + (tLen u5.toNatClampNeg)) + u12) σ).bind fun u34 =>
            some (0, u34.2)
          else
          if u5 = 10 then
            (f_X0_byteAt u1 (u3 + 2) σ).bind fun u37 =>
            (f_X3_callFrom (u3 + (tLen u5.toNatClampNeg)) u12 u37 σ).bind fun u39 =>
            some (0, u39.2)
          else
          if u5 = 11 then
            (f_X3_giveBack σ).bind fun u42 =>
            some (0, u42.2)
          else
          if u5 = 12 then
            (f_X3_putOut (u3 + (tLen u5.toNatClampNeg)) σ).bind fun u45 =>
            some (0, u45.2)
          else
          (f_X3_calculate u5 (u3 + (tLen u5.toNatClampNeg)) σ).bind fun u47 =>
          some (0, u47.2)
        else none
      else
        some (0, sI σ 2 3)
    else none
set_option maxHeartbeats 4000000 in
set_option maxRecDepth 100000 in
theorem m_X3_doInstruction (l : Launch) (D : va_G) (ty : Nat → ClassId) (q : Nat → Nat) (σ : St) (sz : Nat) {res : Int32 × St} (hF : f_X3_doInstruction  σ = some res) : Met l yX3_doInstruction (wsy yX3_doInstruction cX3_doInstruction 6 none) rm_X3_doInstruction (Pcw D ty (FxC q) (wC ty q σ) sz [.ref (q 2)]) (Qvw D ty (wC ty q) (va_A (wC ty q σ) sz) res) 0 0 (va_A (wC ty q σ) sz) := by
  refine en_w (Qc := fun A => Qvw D ty (wC ty q) A res) (by decide) (Nat.le_of_ble_eq_true rfl) ?_
  intro p e s m args below meth c A X hlk hr _ H locs hI ls hl
  have X : CallFix p m c cX3_doInstruction 6 s args tb RX3 := X
  have hl : lv_has ls 6 [(0, .ref (q 2))] := hl
  unfold f_X3_doInstruction at hF
  refine lv_aload_n X.1 X.2.1 dX3_doInstruction_0 rfl (lv_at hl 0 rfl) ?_
  refine g_X3_frames X hI dX3_doInstruction_1 ?_
  obtain ⟨u1, h2, hF⟩ := fb_bnd hF
  refine cl_i (w := wC ty q) (σ := σ) (rest := []) X (fxC q) hI (m_X1_latestSegment l D ty q σ _  h2) ok_X1_latestSegment ml_X3_84 ⟨rfl, rfl, Nat.le_of_ble_eq_true rfl, Nat.le_of_ble_eq_true rfl⟩ 4 rc_X1 rfl rfl hl.1 rfl (Nat.le_of_ble_eq_true rfl) ⟨Nat.zero_le _, Nat.zero_le _⟩ dX3_doInstruction_4 (fun H locs hI => ?_)
  refine lv_istore_n (lv' := [(1, .int u1), (0, .ref (q 2))]) X.1 X.2.1 dX3_doInstruction_7 rfl hl (by decide) rfl (fun ls hl => ?_)
  refine lv_aload_n X.1 X.2.1 dX3_doInstruction_8 rfl (lv_at hl 1 rfl) ?_
  refine g_X3_frames X hI dX3_doInstruction_9 ?_
  obtain ⟨u3, h4, hF⟩ := fb_bnd hF
  refine cl_i (w := wC ty q) (σ := σ) (rest := []) X (fxC q) hI (m_X1_latestPlace l D ty q σ _  h4) ok_X1_latestPlace ml_X3_87 ⟨rfl, rfl, Nat.le_of_ble_eq_true rfl, Nat.le_of_ble_eq_true rfl⟩ 4 rc_X1 rfl rfl hl.1 rfl (Nat.le_of_ble_eq_true rfl) ⟨Nat.zero_le _, Nat.zero_le _⟩ dX3_doInstruction_12 (fun H locs hI => ?_)
  refine lv_istore_n (lv' := [(2, .int u3), (1, .int u1), (0, .ref (q 2))]) X.1 X.2.1 dX3_doInstruction_15 rfl hl (by decide) rfl (fun ls hl => ?_)
  refine lv_aload_n X.1 X.2.1 dX3_doInstruction_16 rfl (lv_at hl 2 rfl) ?_
  refine lv_iload_n X.1 X.2.1 dX3_doInstruction_17 rfl (lv_at hl 1 rfl) ?_
  refine lv_iload_n X.1 X.2.1 dX3_doInstruction_18 rfl (lv_at hl 0 rfl) ?_
  obtain ⟨u5, h6, hF⟩ := fb_bnd hF
  refine cl_i (w := wC ty q) (σ := σ) (rest := []) X (fxC q) hI (m_X3_kindAt l D ty q σ _ u1 u3 h6) ok_X3_kindAt ml_X3_93 ⟨rfl, rfl, Nat.le_of_ble_eq_true rfl, Nat.le_of_ble_eq_true rfl⟩ 2 rc_X3 rfl rfl hl.1 rfl (Nat.le_of_ble_eq_true rfl) ⟨Nat.zero_le _, Nat.zero_le _⟩ dX3_doInstruction_19 (fun H locs hI => ?_)
  refine lv_istore_n (lv' := [(3, .int u5), (2, .int u3), (1, .int u1), (0, .ref (q 2))]) X.1 X.2.1 dX3_doInstruction_22 rfl hl (by decide) rfl (fun ls hl => ?_)
  refine lv_iload_n X.1 X.2.1 dX3_doInstruction_23 rfl (lv_at hl 0 rfl) ?_
  refine lv_iconst (v := (-1)) X.1 X.2.1 dX3_doInstruction_24 (by decide) ?_
  refine lv_icmp_eq (tgt := 43) X.1 X.2.1 dX3_doInstruction_25 (by decide) (fun c7 => ?_) (fun c7 => ?_)
  · replace hF := fb_pos c7 hF
    refine lv_aload_n X.1 X.2.1 dX3_doInstruction_43 rfl (lv_at hl 3 rfl) ?_
    refine lv_iconst (v := 3) X.1 X.2.1 dX3_doInstruction_44 (by decide) ?_
    refine p_X3_status X hI dX3_doInstruction_45 (fun H locs hI => ?_)
    exact rt_v X hlk hr hI hF dX3_doInstruction_48
  · replace hF := fb_neg c7 hF
    refine lv_aload_n X.1 X.2.1 dX3_doInstruction_28 rfl (lv_at hl 3 rfl) ?_
    refine g_X3_frames X hI dX3_doInstruction_29 ?_
    obtain ⟨u8, h9, hF⟩ := fb_bnd hF
    refine cl_i (w := wC ty q) (σ := σ) (rest := []) X (fxC q) hI (m_X1_depth l D ty q σ _  h9) ok_X1_depth ml_X3_90 ⟨rfl, rfl, Nat.le_of_ble_eq_true rfl, Nat.le_of_ble_eq_true rfl⟩ 4 rc_X1 rfl rfl hl.1 rfl (Nat.le_of_ble_eq_true rfl) ⟨Nat.zero_le _, Nat.zero_le _⟩ dX3_doInstruction_32 (fun H locs hI => ?_)
    refine g_X3_TAKES X hI dX3_doInstruction_35 ?_
    refine lv_iload_n X.1 X.2.1 dX3_doInstruction_38 rfl (lv_at hl 0 rfl) ?_
    obtain ⟨h10, hF⟩ := fb_chk hF
    refine aS_22 (v := tTak u5.toNatClampNeg) X hI rfl h10 dX3_doInstruction_39 ?_
    refine lv_icmp_ge (tgt := 49) X.1 X.2.1 dX3_doInstruction_40 (by decide) (fun c11 => ?_) (fun c11 => ?_)
    · replace hF := fb_pos c11 hF
      refine lv_aload_n X.1 X.2.1 dX3_doInstruction_49 rfl (lv_at hl 3 rfl) ?_
      refine g_X3_disk X hI dX3_doInstruction_50 ?_
      refine lv_iload_n X.1 X.2.1 dX3_doInstruction_53 rfl (lv_at hl 2 rfl) ?_
      refine lv_iload_n X.1 X.2.1 dX3_doInstruction_54 rfl (lv_at hl 1 rfl) ?_
      refine lv_iconst (v := 1) X.1 X.2.1 dX3_doInstruction_55 (by decide) ?_
      refine lv_iadd X.1 X.2.1 dX3_doInstruction_56 ?_
      obtain ⟨u12, h13, hF⟩ := fb_bnd hF
      refine cl_i (w := wC ty q) (σ := σ) (rest := []) X (fxC q) hI (m_X0_byteAt l D ty q σ _ u1 (u3 + 1) h13) ok_X0_byteAt ml_X3_99 ⟨rfl, rfl, Nat.le_of_ble_eq_true rfl, Nat.le_of_ble_eq_true rfl⟩ 1 rc_X0 rfl rfl hl.1 rfl (Nat.le_of_ble_eq_true rfl) ⟨Nat.zero_le _, Nat.zero_le _⟩ dX3_doInstruction_57 (fun H locs hI => ?_)
      refine lv_istore (lv' := [(4, .int u12), (3, .int u5), (2, .int u3), (1, .int u1), (0, .ref (q 2))]) X.1 X.2.1 dX3_doInstruction_60 hl (by decide) rfl (fun ls hl => ?_)
      refine lv_iload_n X.1 X.2.1 dX3_doInstruction_62 rfl (lv_at hl 2 rfl) ?_
      refine g_X3_LENGTHS X hI dX3_doInstruction_63 ?_
      refine lv_iload_n X.1 X.2.1 dX3_doInstruction_66 rfl (lv_at hl 1 rfl) ?_
      obtain ⟨h14, hF⟩ := fb_chk hF
      refine aS_21 (v := tLen u5.toNatClampNeg) X hI rfl h14 dX3_doInstruction_67 ?_
      refine lv_iadd X.1 X.2.1 dX3_doInstruction_68 ?_
      refine lv_istore (lv' := [(5, .int (u3 + (tLen u5.toNatClampNeg))), (4, .int u12), (3, .int u5), (2, .int u3), (1, .int u1), (0, .ref (q 2))]) X.1 X.2.1 dX3_doInstruction_69 hl (by decide) rfl (fun ls hl => ?_)
      refine lv_iload_n X.1 X.2.1 dX3_doInstruction_71 rfl (lv_at hl 2 rfl) ?_
      by_cases c15 : u5 = 0
      · replace hF := fb_pos c15 hF
        refine lv_tableIn (tgt := 140) X.1 X.2.1 dX3_doInstruction_72 (by rw [c15]; decide) (by rw [c15]; decide) (by rw [c15]; rfl) (by decide) ?_
        refine lv_aload_n X.1 X.2.1 dX3_doInstruction_140 rfl (lv_at hl 5 rfl) ?_
        refine lv_iconst (v := 2) X.1 X.2.1 dX3_doInstruction_141 (by decide) ?_
        refine p_X3_status X hI dX3_doInstruction_142 (fun H locs hI => ?_)
        refine lv_goto (tgt := 268) X.1 X.2.1 dX3_doInstruction_145 (by decide) ?_
        exact rt_v X hlk hr hI hF dX3_doInstruction_268
      replace hF := fb_neg c15 hF
      by_cases c16 : u5 = 1
      · replace hF := fb_pos c16 hF
        refine lv_tableIn (tgt := 148) X.1 X.2.1 dX3_doInstruction_72 (by rw [c16]; decide) (by rw [c16]; decide) (by rw [c16]; rfl) (by decide) ?_
        refine lv_aload_n X.1 X.2.1 dX3_doInstruction_148 rfl (lv_at hl 5 rfl) ?_
        refine lv_iload X.1 X.2.1 dX3_doInstruction_149 (lv_at hl 1 rfl) ?_
        refine lv_iload X.1 X.2.1 dX3_doInstruction_151 (lv_at hl 0 rfl) ?_
        obtain ⟨u17, h18, hF⟩ := fb_bnd hF
        refine cl_v (w := wC ty q) (σ := σ) (rest := []) X (fxC q) hI (m_X3_pushAndMove l D ty q σ _ u12 (u3 + (tLen u5.toNatClampNeg)) h18) ok_X3_pushAndMove ml_X3_107 ⟨rfl, rfl, Nat.le_of_ble_eq_true rfl, Nat.le_of_ble_eq_true rfl⟩ 2 rc_X3 rfl rfl hl.1 rfl (Nat.le_of_ble_eq_true rfl) ⟨Nat.zero_le _, Nat.zero_le _⟩ dX3_doInstruction_153 (fun H locs hI => ?_)
        refine lv_goto (tgt := 268) X.1 X.2.1 dX3_doInstruction_156 (by decide) ?_
        exact rt_v X hlk hr hI hF dX3_doInstruction_268
      replace hF := fb_neg c16 hF
      by_cases c19 : u5 = 2
      · replace hF := fb_pos c19 hF
        refine lv_tableIn (tgt := 159) X.1 X.2.1 dX3_doInstruction_72 (by rw [c19]; decide) (by rw [c19]; decide) (by rw [c19]; rfl) (by decide) ?_
        refine lv_aload_n X.1 X.2.1 dX3_doInstruction_159 rfl (lv_at hl 5 rfl) ?_
        refine lv_iload X.1 X.2.1 dX3_doInstruction_160 (lv_at hl 1 rfl) ?_
        refine lv_iload X.1 X.2.1 dX3_doInstruction_162 (lv_at hl 0 rfl) ?_
        obtain ⟨u20, h21, hF⟩ := fb_bnd hF
        refine cl_v (w := wC ty q) (σ := σ) (rest := []) X (fxC q) hI (m_X3_getLocal l D ty q σ _ u12 (u3 + (tLen u5.toNatClampNeg)) h21) ok_X3_getLocal ml_X3_110 ⟨rfl, rfl, Nat.le_of_ble_eq_true rfl, Nat.le_of_ble_eq_true rfl⟩ 2 rc_X3 rfl rfl hl.1 rfl (Nat.le_of_ble_eq_true rfl) ⟨Nat.zero_le _, Nat.zero_le _⟩ dX3_doInstruction_164 (fun H locs hI => ?_)
        refine lv_goto (tgt := 268) X.1 X.2.1 dX3_doInstruction_167 (by decide) ?_
        exact rt_v X hlk hr hI hF dX3_doInstruction_268
      replace hF := fb_neg c19 hF
      by_cases c22 : u5 = 3
      · replace hF := fb_pos c22 hF
        refine lv_tableIn (tgt := 170) X.1 X.2.1 dX3_doInstruction_72 (by rw [c22]; decide) (by rw [c22]; decide) (by rw [c22]; rfl) (by decide) ?_
        refine lv_aload_n X.1 X.2.1 dX3_doInstruction_170 rfl (lv_at hl 5 rfl) ?_
        refine lv_iload X.1 X.2.1 dX3_doInstruction_171 (lv_at hl 1 rfl) ?_
        refine lv_iload X.1 X.2.1 dX3_doInstruction_173 (lv_at hl 0 rfl) ?_
        obtain ⟨u23, h24, hF⟩ := fb_bnd hF
        refine cl_v (w := wC ty q) (σ := σ) (rest := []) X (fxC q) hI (m_X3_setLocal l D ty q σ _ u12 (u3 + (tLen u5.toNatClampNeg)) h24) ok_X3_setLocal ml_X3_113 ⟨rfl, rfl, Nat.le_of_ble_eq_true rfl, Nat.le_of_ble_eq_true rfl⟩ 2 rc_X3 rfl rfl hl.1 rfl (Nat.le_of_ble_eq_true rfl) ⟨Nat.zero_le _, Nat.zero_le _⟩ dX3_doInstruction_175 (fun H locs hI => ?_)
        refine lv_goto (tgt := 268) X.1 X.2.1 dX3_doInstruction_178 (by decide) ?_
        exact rt_v X hlk hr hI hF dX3_doInstruction_268
      replace hF := fb_neg c22 hF
      by_cases c25 : u5 = 8
      · replace hF := fb_pos c25 hF
        refine lv_tableIn (tgt := 181) X.1 X.2.1 dX3_doInstruction_72 (by rw [c25]; decide) (by rw [c25]; decide) (by rw [c25]; rfl) (by decide) ?_
        refine lv_aload_n X.1 X.2.1 dX3_doInstruction_181 rfl (lv_at hl 5 rfl) ?_
        refine g_X3_frames X hI dX3_doInstruction_182 ?_
        refine lv_aload_n X.1 X.2.1 dX3_doInstruction_185 rfl (lv_at hl 5 rfl) ?_
        obtain ⟨u26, h27, hF⟩ := fb_bnd hF
        refine cl_i (w := wC ty q) (σ := σ) (rest := [.ref (q 4)]) X (fxC q) hI (m_X3_take l D ty q σ _  h27) ok_X3_take ml_X3_116 ⟨rfl, rfl, Nat.le_of_ble_eq_true rfl, Nat.le_of_ble_eq_true rfl⟩ 2 rc_X3 rfl rfl hl.1 rfl (Nat.le_of_ble_eq_true rfl) ⟨Nat.zero_le _, Nat.zero_le _⟩ dX3_doInstruction_186 (fun H locs hI => ?_)
        refine lv_if_ne (tgt := 200) X.1 X.2.1 dX3_doInstruction_189 (by decide) (fun c28 => ?_) (fun c28 => ?_)
        · replace hF := fb_neg c28 hF
          refine lv_iload X.1 X.2.1 dX3_doInstruction_200 (lv_at hl 0 rfl) ?_
          obtain ⟨u29, h30, hF⟩ := fb_bnd hF
          refine cl_v (w := wC ty q) (σ := u26.2) (rest := []) X (fxC q) hI (m_X1_moveTo l D ty q u26.2 _ (u3 + (tLen u5.toNatClampNeg)) h30) ok_X1_moveTo ml_X3_119 ⟨rfl, rfl, Nat.le_of_ble_eq_true rfl, Nat.le_of_ble_eq_true rfl⟩ 4 rc_X1 rfl rfl hl.1 rfl (Nat.le_of_ble_eq_true rfl) ⟨Nat.zero_le _, Nat.zero_le _⟩ dX3_doInstruction_202 (fun H locs hI => ?_)
          refine lv_goto (tgt := 268) X.1 X.2.1 dX3_doInstruction_205 (by decide) ?_
          exact rt_v X hlk hr hI hF dX3_doInstruction_268
        · replace hF := fb_pos c28 hF
          refine lv_iload X.1 X.2.1 dX3_doInstruction_192 (lv_at hl 0 rfl) ?_
          refine lv_iload X.1 X.2.1 dX3_doInstruction_194 (lv_at hl 1 rfl) ?_
          refine lv_iadd X.1 X.2.1 dX3_doInstruction_196 ?_
          refine lv_goto (tgt := 202) X.1 X.2.1 dX3_doInstruction_197 (by decide) ?_
          obtain ⟨u31, h32, hF⟩ := fb_bnd hF
          refine cl_v (w := wC ty q) (σ := u26.2) (rest := []) X (fxC q) hI (m_X1_moveTo l D ty q u26.2 _ ((u3 + (tLen u5.toNatClampNeg)) + u12) h32) ok_X1_moveTo ml_X3_119 ⟨rfl, rfl, Nat.le_of_ble_eq_true rfl, Nat.le_of_ble_eq_true rfl⟩ 4 rc_X1 rfl rfl hl.1 rfl (Nat.le_of_ble_eq_true rfl) ⟨Nat.zero_le _, Nat.zero_le _⟩ dX3_doInstruction_202 (fun H locs hI => ?_)
          refine lv_goto (tgt := 268) X.1 X.2.1 dX3_doInstruction_205 (by decide) ?_
          exact rt_v X hlk hr hI hF dX3_doInstruction_268
      replace hF := fb_neg c25 hF
      by_cases c33 : u5 = 9
      · replace hF := fb_pos c33 hF
        refine lv_tableIn (tgt := 208) X.1 X.2.1 dX3_doInstruction_72 (by rw [c33]; decide) (by rw [c33]; decide) (by rw [c33]; rfl) (by decide) ?_
        refine lv_aload_n X.1 X.2.1 dX3_doInstruction_208 rfl (lv_at hl 5 rfl) ?_
        refine g_X3_frames X hI dX3_doInstruction_209 ?_
        refine lv_iload X.1 X.2.1 dX3_doInstruction_212 (lv_at hl 0 rfl) ?_
        refine lv_iload X.1 X.2.1 dX3_doInstruction_214 (lv_at hl 1 rfl) ?_
        refine lv_iadd X.1 X.2.1 dX3_doInstruction_216 ?_
        obtain ⟨u34, h35, hF⟩ := fb_bnd hF
        refine cl_v (w := wC ty q) (σ := σ) (rest := []) X (fxC q) hI (m_X1_moveTo l D ty q σ _ ((u3 + (tLen u5.toNatClampNeg)) + u12) h35) ok_X1_moveTo ml_X3_119 ⟨rfl, rfl, Nat.le_of_ble_eq_true rfl, Nat.le_of_ble_eq_true rfl⟩ 4 rc_X1 rfl rfl hl.1 rfl (Nat.le_of_ble_eq_true rfl) ⟨Nat.zero_le _, Nat.zero_le _⟩ dX3_doInstruction_217 (fun H locs hI => ?_)
        refine lv_goto (tgt := 268) X.1 X.2.1 dX3_doInstruction_220 (by decide) ?_
        exact rt_v X hlk hr hI hF dX3_doInstruction_268
      replace hF := fb_neg c33 hF
      by_cases c36 : u5 = 10
      · replace hF := fb_pos c36 hF
        refine lv_tableIn (tgt := 223) X.1 X.2.1 dX3_doInstruction_72 (by rw [c36]; decide) (by rw [c36]; decide) (by rw [c36]; rfl) (by decide) ?_
        refine lv_aload_n X.1 X.2.1 dX3_doInstruction_223 rfl (lv_at hl 5 rfl) ?_
        refine lv_iload X.1 X.2.1 dX3_doInstruction_224 (lv_at hl 0 rfl) ?_
        refine lv_iload X.1 X.2.1 dX3_doInstruction_226 (lv_at hl 1 rfl) ?_
        refine lv_aload_n X.1 X.2.1 dX3_doInstruction_228 rfl (lv_at hl 5 rfl) ?_
        refine g_X3_disk X hI dX3_doInstruction_229 ?_
        refine lv_iload_n X.1 X.2.1 dX3_doInstruction_232 rfl (lv_at hl 4 rfl) ?_
        refine lv_iload_n X.1 X.2.1 dX3_doInstruction_233 rfl (lv_at hl 3 rfl) ?_
        refine lv_iconst (v := 2) X.1 X.2.1 dX3_doInstruction_234 (by decide) ?_
        refine lv_iadd X.1 X.2.1 dX3_doInstruction_235 ?_
        obtain ⟨u37, h38, hF⟩ := fb_bnd hF
        refine cl_i (w := wC ty q) (σ := σ) (rest := [.int u12, .int (u3 + (tLen u5.toNatClampNeg)), .ref (q 2)]) X (fxC q) hI (m_X0_byteAt l D ty q σ _ u1 (u3 + 2) h38) ok_X0_byteAt ml_X3_99 ⟨rfl, rfl, Nat.le_of_ble_eq_true rfl, Nat.le_of_ble_eq_true rfl⟩ 1 rc_X0 rfl rfl hl.1 rfl (Nat.le_of_ble_eq_true rfl) ⟨Nat.zero_le _, Nat.zero_le _⟩ dX3_doInstruction_236 (fun H locs hI => ?_)
        obtain ⟨u39, h40, hF⟩ := fb_bnd hF
        refine cl_v (w := wC ty q) (σ := σ) (rest := []) X (fxC q) hI (m_X3_callFrom l D ty q σ _ (u3 + (tLen u5.toNatClampNeg)) u12 u37 h40) ok_X3_callFrom ml_X3_122 ⟨rfl, rfl, Nat.le_of_ble_eq_true rfl, Nat.le_of_ble_eq_true rfl⟩ 2 rc_X3 rfl rfl hl.1 rfl (Nat.le_of_ble_eq_true rfl) ⟨Nat.zero_le _, Nat.zero_le _⟩ dX3_doInstruction_239 (fun H locs hI => ?_)
        refine lv_goto (tgt := 268) X.1 X.2.1 dX3_doInstruction_242 (by decide) ?_
        exact rt_v X hlk hr hI hF dX3_doInstruction_268
      replace hF := fb_neg c36 hF
      by_cases c41 : u5 = 11
      · replace hF := fb_pos c41 hF
        refine lv_tableIn (tgt := 245) X.1 X.2.1 dX3_doInstruction_72 (by rw [c41]; decide) (by rw [c41]; decide) (by rw [c41]; rfl) (by decide) ?_
        refine lv_aload_n X.1 X.2.1 dX3_doInstruction_245 rfl (lv_at hl 5 rfl) ?_
        obtain ⟨u42, h43, hF⟩ := fb_bnd hF
        refine cl_v (w := wC ty q) (σ := σ) (rest := []) X (fxC q) hI (m_X3_giveBack l D ty q σ _  h43) ok_X3_giveBack ml_X3_126 ⟨rfl, rfl, Nat.le_of_ble_eq_true rfl, Nat.le_of_ble_eq_true rfl⟩ 2 rc_X3 rfl rfl hl.1 rfl (Nat.le_of_ble_eq_true rfl) ⟨Nat.zero_le _, Nat.zero_le _⟩ dX3_doInstruction_246 (fun H locs hI => ?_)
        refine lv_goto (tgt := 268) X.1 X.2.1 dX3_doInstruction_249 (by decide) ?_
        exact rt_v X hlk hr hI hF dX3_doInstruction_268
      replace hF := fb_neg c41 hF
      by_cases c44 : u5 = 12
      · replace hF := fb_pos c44 hF
        refine lv_tableIn (tgt := 252) X.1 X.2.1 dX3_doInstruction_72 (by rw [c44]; decide) (by rw [c44]; decide) (by rw [c44]; rfl) (by decide) ?_
        refine lv_aload_n X.1 X.2.1 dX3_doInstruction_252 rfl (lv_at hl 5 rfl) ?_
        refine lv_iload X.1 X.2.1 dX3_doInstruction_253 (lv_at hl 0 rfl) ?_
        obtain ⟨u45, h46, hF⟩ := fb_bnd hF
        refine cl_v (w := wC ty q) (σ := σ) (rest := []) X (fxC q) hI (m_X3_putOut l D ty q σ _ (u3 + (tLen u5.toNatClampNeg)) h46) ok_X3_putOut ml_X3_129 ⟨rfl, rfl, Nat.le_of_ble_eq_true rfl, Nat.le_of_ble_eq_true rfl⟩ 2 rc_X3 rfl rfl hl.1 rfl (Nat.le_of_ble_eq_true rfl) ⟨Nat.zero_le _, Nat.zero_le _⟩ dX3_doInstruction_255 (fun H locs hI => ?_)
        refine lv_goto (tgt := 268) X.1 X.2.1 dX3_doInstruction_258 (by decide) ?_
        exact rt_v X hlk hr hI hF dX3_doInstruction_268
      replace hF := fb_neg c44 hF
      have hDf : W p l e rm_X3_doInstruction s m args below meth c H locs 0 0 (MQ below (Qvw D ty (wC ty q) A res) args s 0 0 A) (F0 m 261 ls []) := by
        refine lv_aload_n X.1 X.2.1 dX3_doInstruction_261 rfl (lv_at hl 5 rfl) ?_
        refine lv_iload_n X.1 X.2.1 dX3_doInstruction_262 rfl (lv_at hl 2 rfl) ?_
        refine lv_iload X.1 X.2.1 dX3_doInstruction_263 (lv_at hl 0 rfl) ?_
        obtain ⟨u47, h48, hF⟩ := fb_bnd hF
        refine cl_v (w := wC ty q) (σ := σ) (rest := []) X (fxC q) hI (m_X3_calculate l D ty q σ _ u5 (u3 + (tLen u5.toNatClampNeg)) h48) ok_X3_calculate ml_X3_132 ⟨rfl, rfl, Nat.le_of_ble_eq_true rfl, Nat.le_of_ble_eq_true rfl⟩ 2 rc_X3 rfl rfl hl.1 rfl (Nat.le_of_ble_eq_true rfl) ⟨Nat.zero_le _, Nat.zero_le _⟩ dX3_doInstruction_265 (fun H locs hI => ?_)
        exact rt_v X hlk hr hI hF dX3_doInstruction_268
      by_cases c49 : u5 = 4
      · exact lv_tableIn (tgt := 261) X.1 X.2.1 dX3_doInstruction_72 (by rw [c49]; decide) (by rw [c49]; decide) (by rw [c49]; rfl) (by decide) hDf
      by_cases c50 : u5 = 5
      · exact lv_tableIn (tgt := 261) X.1 X.2.1 dX3_doInstruction_72 (by rw [c50]; decide) (by rw [c50]; decide) (by rw [c50]; rfl) (by decide) hDf
      by_cases c51 : u5 = 6
      · exact lv_tableIn (tgt := 261) X.1 X.2.1 dX3_doInstruction_72 (by rw [c51]; decide) (by rw [c51]; decide) (by rw [c51]; rfl) (by decide) hDf
      by_cases c52 : u5 = 7
      · exact lv_tableIn (tgt := 261) X.1 X.2.1 dX3_doInstruction_72 (by rw [c52]; decide) (by rw [c52]; decide) (by rw [c52]; rfl) (by decide) hDf
      refine lv_tableOut (tgt := 261) X.1 X.2.1 dX3_doInstruction_72 ?_ (by decide) hDf
      by_cases g53 : (u5).toInt < 0
      · exact Or.inl g53
      · refine Or.inr ?_
        have n0 : ¬ (u5).toInt = 0 := fun h => c15 (Int32.toInt_inj.mp (h.trans (by decide)))
        have n1 : ¬ (u5).toInt = 1 := fun h => c16 (Int32.toInt_inj.mp (h.trans (by decide)))
        have n2 : ¬ (u5).toInt = 2 := fun h => c19 (Int32.toInt_inj.mp (h.trans (by decide)))
        have n3 : ¬ (u5).toInt = 3 := fun h => c22 (Int32.toInt_inj.mp (h.trans (by decide)))
        have n4 : ¬ (u5).toInt = 4 := fun h => c49 (Int32.toInt_inj.mp (h.trans (by decide)))
        have n5 : ¬ (u5).toInt = 5 := fun h => c50 (Int32.toInt_inj.mp (h.trans (by decide)))
        have n6 : ¬ (u5).toInt = 6 := fun h => c51 (Int32.toInt_inj.mp (h.trans (by decide)))
        have n7 : ¬ (u5).toInt = 7 := fun h => c52 (Int32.toInt_inj.mp (h.trans (by decide)))
        have n8 : ¬ (u5).toInt = 8 := fun h => c25 (Int32.toInt_inj.mp (h.trans (by decide)))
        have n9 : ¬ (u5).toInt = 9 := fun h => c33 (Int32.toInt_inj.mp (h.trans (by decide)))
        have n10 : ¬ (u5).toInt = 10 := fun h => c36 (Int32.toInt_inj.mp (h.trans (by decide)))
        have n11 : ¬ (u5).toInt = 11 := fun h => c41 (Int32.toInt_inj.mp (h.trans (by decide)))
        have n12 : ¬ (u5).toInt = 12 := fun h => c44 (Int32.toInt_inj.mp (h.trans (by decide)))
        omega
    · replace hF := fb_neg c11 hF
      refine lv_aload_n X.1 X.2.1 dX3_doInstruction_43 rfl (lv_at hl 3 rfl) ?_
      refine lv_iconst (v := 3) X.1 X.2.1 dX3_doInstruction_44 (by decide) ?_
      refine p_X3_status X hI dX3_doInstruction_45 (fun H locs hI => ?_)
      exact rt_v X hlk hr hI hF dX3_doInstruction_48
end
section
abbrev rm_X5_thrown : Room := { frames := 0, cells := 0, slots := 0, locals := 0 }
def f_X5_thrown (σ : St) : Option Int32 :=
  some (gI σ 0)
set_option maxHeartbeats 4000000 in
set_option maxRecDepth 100000 in
theorem m_X5_thrown (l : Launch) (D : va_G) (ty : Nat → ClassId) (q : Nat → Nat) (σ : St) (sz : Nat) {rr : Int32} (hF : f_X5_thrown  σ = some rr) : Met l yX5_thrown (wsy yX5_thrown cX5_thrown 1 (some .int)) rm_X5_thrown (Pcw D ty FxM (wM ty q σ) sz [.ref (q 0)]) (Qiw D ty (wM ty q) (va_A (wM ty q σ) sz) (rr, σ)) 0 0 (va_A (wM ty q σ) sz) := by
  refine en_w (Qc := fun A => Qiw D ty (wM ty q) A (rr, σ)) (by decide) (Nat.le_of_ble_eq_true rfl) ?_
  intro p e s m args below meth c A X hlk hr _ H locs hI ls hl
  have X : CallFix p m c cX5_thrown 1 s args tb RX5 := X
  have hl : lv_has ls 1 [(0, .ref (q 0))] := hl
  unfold f_X5_thrown at hF
  refine lv_aload_n X.1 X.2.1 dX5_thrown_0 rfl (lv_at hl 0 rfl) ?_
  refine g_X5_code (v := gI σ 0) X hI rfl dX5_thrown_1 ?_
  exact rt_i X hlk hr hI (fb_pr hF) dX5_thrown_4
abbrev rm_X5_isSegment : Room := { frames := 0, cells := 0, slots := 0, locals := 0 }
def f_X5_isSegment (x0 : Int32) (σ : St) : Option Int32 :=
  if x0 < 0 then
    some 0
  else
    if 5 ≤ x0 then
      some 0
    else
      some 1
set_option maxHeartbeats 4000000 in
set_option maxRecDepth 100000 in
theorem m_X5_isSegment (l : Launch) (D : va_G) (ty : Nat → ClassId) (q : Nat → Nat) (σ : St) (sz : Nat) (x0 : Int32) {rr : Int32} (hF : f_X5_isSegment x0 σ = some rr) : Met l yX5_isSegment (wsy yX5_isSegment cX5_isSegment 1 (some .boolean)) rm_X5_isSegment (Pcw D ty FxM (wM ty q σ) sz [.int x0]) (Qiw D ty (wM ty q) (va_A (wM ty q σ) sz) (rr, σ)) 0 0 (va_A (wM ty q σ) sz) := by
  refine en_w (Qc := fun A => Qiw D ty (wM ty q) A (rr, σ)) (by decide) (Nat.le_of_ble_eq_true rfl) ?_
  intro p e s m args below meth c A X hlk hr _ H locs hI ls hl
  have X : CallFix p m c cX5_isSegment 1 s args tb RX5 := X
  have hl : lv_has ls 1 [(0, .int x0)] := hl
  unfold f_X5_isSegment at hF
  refine lv_iload_n X.1 X.2.1 dX5_isSegment_0 rfl (lv_at hl 0 rfl) ?_
  refine lv_if_lt (tgt := 13) X.1 X.2.1 dX5_isSegment_1 (by decide) (fun c1 => ?_) (fun c1 => ?_)
  · replace hF := fb_pos c1 hF
    refine lv_iconst (v := 0) X.1 X.2.1 dX5_isSegment_13 (by decide) ?_
    exact rt_z X hlk hr hI rfl (fb_pr hF) dX5_isSegment_14
  · replace hF := fb_neg c1 hF
    refine lv_iload_n X.1 X.2.1 dX5_isSegment_4 rfl (lv_at hl 0 rfl) ?_
    refine lv_iconst (v := 5) X.1 X.2.1 dX5_isSegment_5 (by decide) ?_
    refine lv_icmp_ge (tgt := 13) X.1 X.2.1 dX5_isSegment_6 (by decide) (fun c2 => ?_) (fun c2 => ?_)
    · replace hF := fb_pos c2 hF
      refine lv_iconst (v := 0) X.1 X.2.1 dX5_isSegment_13 (by decide) ?_
      exact rt_z X hlk hr hI rfl (fb_pr hF) dX5_isSegment_14
    · replace hF := fb_neg c2 hF
      refine lv_iconst (v := 1) X.1 X.2.1 dX5_isSegment_9 (by decide) ?_
      refine lv_goto (tgt := 14) X.1 X.2.1 dX5_isSegment_10 (by decide) ?_
      exact rt_z X hlk hr hI rfl (fb_pr hF) dX5_isSegment_14
abbrev rm_X5_code : Room := { frames := 1, cells := 0, slots := 0, locals := 20 }
def b_X5_code_28 (x1 x2 z0 : Int32) (σ : St) : Option (Int32 × St) :=
  if z0 ≤ 0 then
    if inB x1 5 = true then
      if inB ((80 * x1) + (gA σ 1 x1)) 400 = true then
        if inB x1 5 = true then
          if inB x1 5 = true then
            if inB x1 5 = true then
              some (gA (sA (sA (sI σ 0 z0) 0 ((80 * x1) + (gA σ 1 x1)) x2) 1 x1 ((gA σ 1 x1) + 1)) 1 x1, sI (sA (sA (sI σ 0 z0) 0 ((80 * x1) + (gA σ 1 x1)) x2) 1 x1 ((gA σ 1 x1) + 1)) 1 0)
            else none
          else none
        else none
      else none
    else none
  else
    some (0, sI σ 0 z0)
set_option maxHeartbeats 4000000 in
set_option maxRecDepth 100000 in
theorem w_b_X5_code_28 {l : Launch} {p : Program} {e : Env} {s : State} {m : MethodId} {args : Array Value} {below : List Frame} {meth : Method} {c : Code} {A : Nat → Prop} {D : va_G} {ty : Nat → ClassId} {q : Nat → Nat} {res : Int32 × St} (X : CallFix p m c cX5_code 3 s args tb RX5) (hlk : meth.locks = false) (hr : meth.sig.returnType = (some .int)) {σ : St} {H : Heap} {locs : List Loc} (hI : Inw D ty FxM (wM ty q σ) A s H locs) (x1 x2 z0 : Int32) (hF : b_X5_code_28 x1 x2 z0 σ = some res) (ls : Array Slot) (hl : lv_has ls 3 [(0, .ref (q 0)), (1, .int x1), (2, .int x2)]) : W p l e rm_X5_code s m args below meth c H locs 0 0 (MQ below (Qiw D ty (wM ty q) A res) args s 0 0 A) (F0 m 28 ls [.int z0, .ref (q 0)]) := by
  unfold b_X5_code_28 at hF
  refine p_X5_code X hI dX5_code_28 (fun H locs hI => ?_)
  refine lv_aload_n X.1 X.2.1 dX5_code_31 rfl (lv_at hl 0 rfl) ?_
  refine g_X5_code (v := z0) X hI rfl dX5_code_32 ?_
  refine lv_if_le (tgt := 40) X.1 X.2.1 dX5_code_35 (by decide) (fun c6 => ?_) (fun c6 => ?_)
  · replace hF := fb_pos c6 hF
    refine lv_aload_n X.1 X.2.1 dX5_code_40 rfl (lv_at hl 0 rfl) ?_
    refine g_X5_disk X hI dX5_code_41 ?_
    refine lv_bipush (v := 80) X.1 X.2.1 dX5_code_44 (by decide) ?_
    refine lv_iload_n X.1 X.2.1 dX5_code_46 rfl (lv_at hl 1 rfl) ?_
    refine lv_imul X.1 X.2.1 dX5_code_47 ?_
    refine lv_aload_n X.1 X.2.1 dX5_code_48 rfl (lv_at hl 0 rfl) ?_
    refine g_X5_length X hI dX5_code_49 ?_
    refine lv_iload_n X.1 X.2.1 dX5_code_52 rfl (lv_at hl 1 rfl) ?_
    obtain ⟨h7, hF⟩ := fb_chk hF
    refine aM_1 (v := gA σ 1 x1) X hI rfl h7 dX5_code_53 ?_
    refine lv_iadd X.1 X.2.1 dX5_code_54 ?_
    refine lv_iload_n X.1 X.2.1 dX5_code_55 rfl (lv_at hl 2 rfl) ?_
    obtain ⟨h8, hF⟩ := fb_chk hF
    refine sM_0 X hI h8 dX5_code_56 (fun H locs hI => ?_)
    refine lv_aload_n X.1 X.2.1 dX5_code_57 rfl (lv_at hl 0 rfl) ?_
    refine g_X5_length X hI dX5_code_58 ?_
    refine lv_iload_n X.1 X.2.1 dX5_code_61 rfl (lv_at hl 1 rfl) ?_
    refine lv_dup2_11 X.1 X.2.1 dX5_code_62 rfl rfl ?_
    obtain ⟨h9, hF⟩ := fb_chk hF
    refine aM_1 (v := gA σ 1 x1) X hI rfl h9 dX5_code_63 ?_
    refine lv_iconst (v := 1) X.1 X.2.1 dX5_code_64 (by decide) ?_
    refine lv_iadd X.1 X.2.1 dX5_code_65 ?_
    obtain ⟨h10, hF⟩ := fb_chk hF
    refine sM_1 X hI h10 dX5_code_66 (fun H locs hI => ?_)
    refine lv_aload_n X.1 X.2.1 dX5_code_67 rfl (lv_at hl 0 rfl) ?_
    refine lv_iconst (v := 0) X.1 X.2.1 dX5_code_68 (by decide) ?_
    refine p_X5_state X hI dX5_code_69 (fun H locs hI => ?_)
    refine lv_aload_n X.1 X.2.1 dX5_code_72 rfl (lv_at hl 0 rfl) ?_
    refine g_X5_length X hI dX5_code_73 ?_
    refine lv_iload_n X.1 X.2.1 dX5_code_76 rfl (lv_at hl 1 rfl) ?_
    obtain ⟨h11, hF⟩ := fb_chk hF
    refine aM_1 (v := gA (sA (sA (sI σ 0 z0) 0 ((80 * x1) + (gA σ 1 x1)) x2) 1 x1 ((gA σ 1 x1) + 1)) 1 x1) X hI rfl h11 dX5_code_77 ?_
    exact rt_i X hlk hr hI hF dX5_code_78
  · replace hF := fb_neg c6 hF
    refine lv_iconst (v := 0) X.1 X.2.1 dX5_code_38 (by decide) ?_
    exact rt_i X hlk hr hI hF dX5_code_39
def f_X5_code (x1 x2 : Int32) (σ : St) : Option (Int32 × St) :=
  (f_X5_isSegment x1 σ).bind fun u1 =>
  if u1 = 0 then
    b_X5_code_28 x1 x2 1 σ
  else
    if inB x1 5 = true then
      if (gA σ 1 x1) = 80 then
        b_X5_code_28 x1 x2 2 σ
      else
        b_X5_code_28 x1 x2 0 σ
    else none
set_option maxHeartbeats 4000000 in
set_option maxRecDepth 100000 in
theorem m_X5_code (l : Launch) (D : va_G) (ty : Nat → ClassId) (q : Nat → Nat) (σ : St) (sz : Nat) (x1 x2 : Int32) {res : Int32 × St} (hF : f_X5_code x1 x2 σ = some res) : Met l yX5_code (wsy yX5_code cX5_code 3 (some .int)) rm_X5_code (Pcw D ty FxM (wM ty q σ) sz [.ref (q 0), .int x1, .int x2]) (Qiw D ty (wM ty q) (va_A (wM ty q σ) sz) res) 0 0 (va_A (wM ty q σ) sz) := by
  refine en_w (Qc := fun A => Qiw D ty (wM ty q) A res) (by decide) (Nat.le_of_ble_eq_true rfl) ?_
  intro p e s m args below meth c A X hlk hr _ H locs hI ls hl
  have X : CallFix p m c cX5_code 3 s args tb RX5 := X
  have hl : lv_has ls 3 [(0, .ref (q 0)), (1, .int x1), (2, .int x2)] := hl
  unfold f_X5_code at hF
  refine lv_aload_n X.1 X.2.1 dX5_code_0 rfl (lv_at hl 0 rfl) ?_
  refine lv_iload_n X.1 X.2.1 dX5_code_1 rfl (lv_at hl 1 rfl) ?_
  obtain ⟨u1, h2, hF⟩ := fb_bnd hF
  refine cs_i (w := wM ty q) (σ := σ) (rest := [.ref (q 0)]) X fxM hI (m_X5_isSegment l D ty q σ _ x1 h2) ok_X5_isSegment ml_X5_48 ⟨rfl, rfl, Nat.le_of_ble_eq_true rfl, Nat.le_of_ble_eq_true rfl⟩ rfl hl.1 rfl (Nat.le_of_ble_eq_true rfl) ⟨Nat.zero_le _, Nat.zero_le _⟩ dX5_code_2 (fun H locs hI => ?_)
  refine lv_if_ne (tgt := 12) X.1 X.2.1 dX5_code_5 (by decide) (fun c3 => ?_) (fun c3 => ?_)
  · replace hF := fb_neg c3 hF
    refine lv_aload_n X.1 X.2.1 dX5_code_12 rfl (lv_at hl 0 rfl) ?_
    refine g_X5_length X hI dX5_code_13 ?_
    refine lv_iload_n X.1 X.2.1 dX5_code_16 rfl (lv_at hl 1 rfl) ?_
    obtain ⟨h4, hF⟩ := fb_chk hF
    refine aM_1 (v := gA σ 1 x1) X hI rfl h4 dX5_code_17 ?_
    refine lv_bipush (v := 80) X.1 X.2.1 dX5_code_18 (by decide) ?_
    refine lv_icmp_ne (tgt := 27) X.1 X.2.1 dX5_code_20 (by decide) (fun c5 => ?_) (fun c5 => ?_)
    · replace hF := fb_neg c5 hF
      refine lv_iconst (v := 0) X.1 X.2.1 dX5_code_27 (by decide) ?_
      exact w_b_X5_code_28 X hlk hr hI x1 x2 0 hF ls (lv_sub hl [0, 1, 2] rfl)
    · replace hF := fb_pos c5 hF
      refine lv_iconst (v := 2) X.1 X.2.1 dX5_code_23 (by decide) ?_
      refine lv_goto (tgt := 28) X.1 X.2.1 dX5_code_24 (by decide) ?_
      exact w_b_X5_code_28 X hlk hr hI x1 x2 2 hF ls (lv_sub hl [0, 1, 2] rfl)
  · replace hF := fb_pos c3 hF
    refine lv_iconst (v := 1) X.1 X.2.1 dX5_code_8 (by decide) ?_
    refine lv_goto (tgt := 28) X.1 X.2.1 dX5_code_9 (by decide) ?_
    exact w_b_X5_code_28 X hlk hr hI x1 x2 1 hF ls (lv_sub hl [0, 1, 2] rfl)
abbrev rm_X5_clear : Room := { frames := 1, cells := 0, slots := 0, locals := 20 }
def f_X5_clear (x1 : Int32) (σ : St) : Option (Int32 × St) :=
  (f_X5_isSegment x1 σ).bind fun u1 =>
  if u1 = 0 then
    some (0, sI σ 0 1)
  else
    if inB x1 5 = true then
      some (0, sI (sA (sI σ 0 0) 1 x1 0) 1 0)
    else none
set_option maxHeartbeats 4000000 in
set_option maxRecDepth 100000 in
theorem m_X5_clear (l : Launch) (D : va_G) (ty : Nat → ClassId) (q : Nat → Nat) (σ : St) (sz : Nat) (x1 : Int32) {res : Int32 × St} (hF : f_X5_clear x1 σ = some res) : Met l yX5_clear (wsy yX5_clear cX5_clear 2 none) rm_X5_clear (Pcw D ty FxM (wM ty q σ) sz [.ref (q 0), .int x1]) (Qvw D ty (wM ty q) (va_A (wM ty q σ) sz) res) 0 0 (va_A (wM ty q σ) sz) := by
  refine en_w (Qc := fun A => Qvw D ty (wM ty q) A res) (by decide) (Nat.le_of_ble_eq_true rfl) ?_
  intro p e s m args below meth c A X hlk hr _ H locs hI ls hl
  have X : CallFix p m c cX5_clear 2 s args tb RX5 := X
  have hl : lv_has ls 2 [(0, .ref (q 0)), (1, .int x1)] := hl
  unfold f_X5_clear at hF
  refine lv_aload_n X.1 X.2.1 dX5_clear_0 rfl (lv_at hl 0 rfl) ?_
  refine lv_iload_n X.1 X.2.1 dX5_clear_1 rfl (lv_at hl 1 rfl) ?_
  obtain ⟨u1, h2, hF⟩ := fb_bnd hF
  refine cs_i (w := wM ty q) (σ := σ) (rest := [.ref (q 0)]) X fxM hI (m_X5_isSegment l D ty q σ _ x1 h2) ok_X5_isSegment ml_X5_48 ⟨rfl, rfl, Nat.le_of_ble_eq_true rfl, Nat.le_of_ble_eq_true rfl⟩ rfl hl.1 rfl (Nat.le_of_ble_eq_true rfl) ⟨Nat.zero_le _, Nat.zero_le _⟩ dX5_clear_2 (fun H locs hI => ?_)
  refine lv_if_eq (tgt := 12) X.1 X.2.1 dX5_clear_5 (by decide) (fun c3 => ?_) (fun c3 => ?_)
  · replace hF := fb_pos c3 hF
    refine lv_iconst (v := 1) X.1 X.2.1 dX5_clear_12 (by decide) ?_
    refine p_X5_code X hI dX5_clear_13 (fun H locs hI => ?_)
    refine lv_aload_n X.1 X.2.1 dX5_clear_16 rfl (lv_at hl 0 rfl) ?_
    refine g_X5_code (v := 1) X hI rfl dX5_clear_17 ?_
    refine lv_if_le (tgt := 24) X.1 X.2.1 dX5_clear_20 (by decide) (fun c => absurd c (by decide)) (fun _ => ?_)
    exact rt_v X hlk hr hI hF dX5_clear_23
  · replace hF := fb_neg c3 hF
    refine lv_iconst (v := 0) X.1 X.2.1 dX5_clear_8 (by decide) ?_
    refine lv_goto (tgt := 13) X.1 X.2.1 dX5_clear_9 (by decide) ?_
    refine p_X5_code X hI dX5_clear_13 (fun H locs hI => ?_)
    refine lv_aload_n X.1 X.2.1 dX5_clear_16 rfl (lv_at hl 0 rfl) ?_
    refine g_X5_code (v := 0) X hI rfl dX5_clear_17 ?_
    refine lv_if_le (tgt := 24) X.1 X.2.1 dX5_clear_20 (by decide) (fun _ => ?_) (fun c => absurd (by decide) c)
    refine lv_aload_n X.1 X.2.1 dX5_clear_24 rfl (lv_at hl 0 rfl) ?_
    refine g_X5_length X hI dX5_clear_25 ?_
    refine lv_iload_n X.1 X.2.1 dX5_clear_28 rfl (lv_at hl 1 rfl) ?_
    refine lv_iconst (v := 0) X.1 X.2.1 dX5_clear_29 (by decide) ?_
    obtain ⟨h4, hF⟩ := fb_chk hF
    refine sM_1 X hI h4 dX5_clear_30 (fun H locs hI => ?_)
    refine lv_aload_n X.1 X.2.1 dX5_clear_31 rfl (lv_at hl 0 rfl) ?_
    refine lv_iconst (v := 0) X.1 X.2.1 dX5_clear_32 (by decide) ?_
    refine p_X5_state X hI dX5_clear_33 (fun H locs hI => ?_)
    exact rt_v X hlk hr hI hF dX5_clear_36
abbrev rm_X5_procedures : Room := { frames := 1, cells := 0, slots := 0, locals := 20 }
def b_X5_procedures_57 : Nat → Int32 → Int32 → Int32 → Int32 → St → Option Int32
  | 0, _, _, _, _, _ => none
  | n + 1, x1, x2, x3, x4, σ =>
    if x2 < x4 then
      if x3 = 0 then
        some 0
      else
        some x2
    else
      if x3 = 0 then
        if x3 = 0 then
          some 0
        else
          some x2
      else
        if inB ((80 * x1) + x4) 400 = true then
          if ((gA σ 0 ((80 * x1) + x4)) &&& 255) ≤ x2 then
            b_X5_procedures_57 n x1 x2 0 (x4 + 1) σ
          else
            if inB x1 5 = true then
              if (gA σ 1 x1) ≤ ((gA σ 0 ((80 * x1) + x4)) &&& 255) then
                b_X5_procedures_57 n x1 x2 0 (x4 + 1) σ
              else
                b_X5_procedures_57 n x1 x2 1 (x4 + 1) σ
            else none
        else none
set_option maxHeartbeats 4000000 in
set_option maxRecDepth 100000 in
theorem w_b_X5_procedures_57 {l : Launch} {p : Program} {e : Env} {s : State} {m : MethodId} {args : Array Value} {below : List Frame} {meth : Method} {c : Code} {A : Nat → Prop} {D : va_G} {ty : Nat → ClassId} {q : Nat → Nat} {rr : Int32} (X : CallFix p m c cX5_procedures 6 s args tb RX5) (hlk : meth.locks = false) (hr : meth.sig.returnType = (some .int)) : ∀ (n : Nat) (x1 x2 x3 x4 : Int32) (σ : St) (H : Heap) (locs : List Loc) (ls : Array Slot), b_X5_procedures_57 n x1 x2 x3 x4 σ = some rr → Inw D ty FxM (wM ty q σ) A s H locs → lv_has ls 6 [(0, .ref (q 0)), (1, .int x1), (2, .int x2), (3, .int x3), (4, .int x4)] → W p l e rm_X5_procedures s m args below meth c H locs 0 0 (MQ below (Qiw D ty (wM ty q) A (rr, σ)) args s 0 0 A) (F0 m 57 ls []) := by
  intro n
  induction n with
  | zero =>
    intro x1 x2 x3 x4 σ H locs ls hF
    cases hF
  | succ n ih =>
    intro x1 x2 x3 x4 σ H locs ls hF hI hl
    rw [b_X5_procedures_57] at hF
    refine lv_iload X.1 X.2.1 dX5_procedures_57 (lv_at hl 4 rfl) ?_
    refine lv_iload_n X.1 X.2.1 dX5_procedures_59 rfl (lv_at hl 2 rfl) ?_
    refine lv_icmp_gt (tgt := 114) X.1 X.2.1 dX5_procedures_60 (by decide) (fun c8 => ?_) (fun c8 => ?_)
    · replace hF := fb_pos c8 hF
      refine lv_iload_n X.1 X.2.1 dX5_procedures_114 rfl (lv_at hl 3 rfl) ?_
      refine lv_if_eq (tgt := 122) X.1 X.2.1 dX5_procedures_115 (by decide) (fun c9 => ?_) (fun c9 => ?_)
      · replace hF := fb_pos c9 hF
        refine lv_iconst (v := 0) X.1 X.2.1 dX5_procedures_122 (by decide) ?_
        exact rt_i X hlk hr hI (fb_pr hF) dX5_procedures_123
      · replace hF := fb_neg c9 hF
        refine lv_iload_n X.1 X.2.1 dX5_procedures_118 rfl (lv_at hl 2 rfl) ?_
        refine lv_goto (tgt := 123) X.1 X.2.1 dX5_procedures_119 (by decide) ?_
        exact rt_i X hlk hr hI (fb_pr hF) dX5_procedures_123
    · replace hF := fb_neg c8 hF
      refine lv_iload_n X.1 X.2.1 dX5_procedures_63 rfl (lv_at hl 3 rfl) ?_
      refine lv_if_eq (tgt := 114) X.1 X.2.1 dX5_procedures_64 (by decide) (fun c10 => ?_) (fun c10 => ?_)
      · replace hF := fb_pos c10 hF
        refine lv_iload_n X.1 X.2.1 dX5_procedures_114 rfl (lv_at hl 3 rfl) ?_
        refine lv_if_eq (tgt := 122) X.1 X.2.1 dX5_procedures_115 (by decide) (fun c11 => ?_) (fun c11 => ?_)
        · replace hF := fb_pos c11 hF
          refine lv_iconst (v := 0) X.1 X.2.1 dX5_procedures_122 (by decide) ?_
          exact rt_i X hlk hr hI (fb_pr hF) dX5_procedures_123
        · replace hF := fb_neg c11 hF
          refine lv_iload_n X.1 X.2.1 dX5_procedures_118 rfl (lv_at hl 2 rfl) ?_
          refine lv_goto (tgt := 123) X.1 X.2.1 dX5_procedures_119 (by decide) ?_
          exact rt_i X hlk hr hI (fb_pr hF) dX5_procedures_123
      · replace hF := fb_neg c10 hF
        refine lv_aload_n X.1 X.2.1 dX5_procedures_67 rfl (lv_at hl 0 rfl) ?_
        refine g_X5_disk X hI dX5_procedures_68 ?_
        refine lv_bipush (v := 80) X.1 X.2.1 dX5_procedures_71 (by decide) ?_
        refine lv_iload_n X.1 X.2.1 dX5_procedures_73 rfl (lv_at hl 1 rfl) ?_
        refine lv_imul X.1 X.2.1 dX5_procedures_74 ?_
        refine lv_iload X.1 X.2.1 dX5_procedures_75 (lv_at hl 4 rfl) ?_
        refine lv_iadd X.1 X.2.1 dX5_procedures_77 ?_
        obtain ⟨h12, hF⟩ := fb_chk hF
        refine aM_0 (v := gA σ 0 ((80 * x1) + x4)) X hI rfl h12 dX5_procedures_78 ?_
        refine lv_sipush (v := 255) X.1 X.2.1 dX5_procedures_79 (by decide) ?_
        refine lv_iand X.1 X.2.1 dX5_procedures_82 ?_
        refine lv_istore (lv' := [(5, .int ((gA σ 0 ((80 * x1) + x4)) &&& 255)), (0, .ref (q 0)), (1, .int x1), (2, .int x2), (3, .int x3), (4, .int x4)]) X.1 X.2.1 dX5_procedures_83 hl (by decide) rfl (fun ls hl => ?_)
        refine lv_iload X.1 X.2.1 dX5_procedures_85 (lv_at hl 0 rfl) ?_
        refine lv_iload_n X.1 X.2.1 dX5_procedures_87 rfl (lv_at hl 3 rfl) ?_
        refine lv_icmp_le (tgt := 106) X.1 X.2.1 dX5_procedures_88 (by decide) (fun c13 => ?_) (fun c13 => ?_)
        · replace hF := fb_pos c13 hF
          refine lv_iconst (v := 0) X.1 X.2.1 dX5_procedures_106 (by decide) ?_
          refine lv_istore_n (lv' := [(3, .int 0), (5, .int ((gA σ 0 ((80 * x1) + x4)) &&& 255)), (0, .ref (q 0)), (1, .int x1), (2, .int x2), (4, .int x4)]) X.1 X.2.1 dX5_procedures_107 rfl hl (by decide) rfl (fun ls hl => ?_)
          refine lv_iinc (v := x4 + 1) (lv' := [(4, .int (x4 + 1)), (3, .int 0), (5, .int ((gA σ 0 ((80 * x1) + x4)) &&& 255)), (0, .ref (q 0)), (1, .int x1), (2, .int x2)]) X.1 X.2.1 dX5_procedures_108 hl (k := 5) rfl rfl (by decide) rfl (fun ls hl => ?_)
          refine lv_goto (tgt := 57) X.1 X.2.1 dX5_procedures_111 (by decide) ?_
          exact ih x1 x2 0 (x4 + 1) _ _ _ ls hF hI (lv_sub hl [3, 4, 5, 1, 0] rfl)
        · replace hF := fb_neg c13 hF
          refine lv_iload X.1 X.2.1 dX5_procedures_91 (lv_at hl 0 rfl) ?_
          refine lv_aload_n X.1 X.2.1 dX5_procedures_93 rfl (lv_at hl 1 rfl) ?_
          refine g_X5_length X hI dX5_procedures_94 ?_
          refine lv_iload_n X.1 X.2.1 dX5_procedures_97 rfl (lv_at hl 2 rfl) ?_
          obtain ⟨h14, hF⟩ := fb_chk hF
          refine aM_1 (v := gA σ 1 x1) X hI rfl h14 dX5_procedures_98 ?_
          refine lv_icmp_ge (tgt := 106) X.1 X.2.1 dX5_procedures_99 (by decide) (fun c15 => ?_) (fun c15 => ?_)
          · replace hF := fb_pos c15 hF
            refine lv_iconst (v := 0) X.1 X.2.1 dX5_procedures_106 (by decide) ?_
            refine lv_istore_n (lv' := [(3, .int 0), (5, .int ((gA σ 0 ((80 * x1) + x4)) &&& 255)), (0, .ref (q 0)), (1, .int x1), (2, .int x2), (4, .int x4)]) X.1 X.2.1 dX5_procedures_107 rfl hl (by decide) rfl (fun ls hl => ?_)
            refine lv_iinc (v := x4 + 1) (lv' := [(4, .int (x4 + 1)), (3, .int 0), (5, .int ((gA σ 0 ((80 * x1) + x4)) &&& 255)), (0, .ref (q 0)), (1, .int x1), (2, .int x2)]) X.1 X.2.1 dX5_procedures_108 hl (k := 5) rfl rfl (by decide) rfl (fun ls hl => ?_)
            refine lv_goto (tgt := 57) X.1 X.2.1 dX5_procedures_111 (by decide) ?_
            exact ih x1 x2 0 (x4 + 1) _ _ _ ls hF hI (lv_sub hl [3, 4, 5, 1, 0] rfl)
          · replace hF := fb_neg c15 hF
            refine lv_iconst (v := 1) X.1 X.2.1 dX5_procedures_102 (by decide) ?_
            refine lv_goto (tgt := 107) X.1 X.2.1 dX5_procedures_103 (by decide) ?_
            refine lv_istore_n (lv' := [(3, .int 1), (5, .int ((gA σ 0 ((80 * x1) + x4)) &&& 255)), (0, .ref (q 0)), (1, .int x1), (2, .int x2), (4, .int x4)]) X.1 X.2.1 dX5_procedures_107 rfl hl (by decide) rfl (fun ls hl => ?_)
            refine lv_iinc (v := x4 + 1) (lv' := [(4, .int (x4 + 1)), (3, .int 1), (5, .int ((gA σ 0 ((80 * x1) + x4)) &&& 255)), (0, .ref (q 0)), (1, .int x1), (2, .int x2)]) X.1 X.2.1 dX5_procedures_108 hl (k := 5) rfl rfl (by decide) rfl (fun ls hl => ?_)
            refine lv_goto (tgt := 57) X.1 X.2.1 dX5_procedures_111 (by decide) ?_
            exact ih x1 x2 1 (x4 + 1) _ _ _ ls hF hI (lv_sub hl [3, 4, 5, 1, 0] rfl)
def b_X5_procedures_53 (x1 x2 z0 : Int32) (σ : St) : Option Int32 :=
  b_X5_procedures_57 6 x1 x2 z0 1 σ
set_option maxHeartbeats 4000000 in
set_option maxRecDepth 100000 in
theorem w_b_X5_procedures_53 {l : Launch} {p : Program} {e : Env} {s : State} {m : MethodId} {args : Array Value} {below : List Frame} {meth : Method} {c : Code} {A : Nat → Prop} {D : va_G} {ty : Nat → ClassId} {q : Nat → Nat} {rr : Int32} (X : CallFix p m c cX5_procedures 6 s args tb RX5) (hlk : meth.locks = false) (hr : meth.sig.returnType = (some .int)) {σ : St} {H : Heap} {locs : List Loc} (hI : Inw D ty FxM (wM ty q σ) A s H locs) (x1 x2 z0 : Int32) (hF : b_X5_procedures_53 x1 x2 z0 σ = some rr) (ls : Array Slot) (hl : lv_has ls 6 [(0, .ref (q 0)), (1, .int x1), (2, .int x2)]) : W p l e rm_X5_procedures s m args below meth c H locs 0 0 (MQ below (Qiw D ty (wM ty q) A (rr, σ)) args s 0 0 A) (F0 m 53 ls [.int z0]) := by
  unfold b_X5_procedures_53 at hF
  refine lv_istore_n (lv' := [(3, .int z0), (0, .ref (q 0)), (1, .int x1), (2, .int x2)]) X.1 X.2.1 dX5_procedures_53 rfl hl (by decide) rfl (fun ls hl => ?_)
  refine lv_iconst (v := 1) X.1 X.2.1 dX5_procedures_54 (by decide) ?_
  refine lv_istore (lv' := [(4, .int 1), (3, .int z0), (0, .ref (q 0)), (1, .int x1), (2, .int x2)]) X.1 X.2.1 dX5_procedures_55 hl (by decide) rfl (fun ls hl => ?_)
  exact w_b_X5_procedures_57 X hlk hr 6 x1 x2 z0 1 _ _ _ ls hF hI (lv_sub hl [2, 3, 4, 1, 0] rfl)
def b_X5_procedures_52 (x1 x2 : Int32) (σ : St) : Option Int32 :=
  b_X5_procedures_53 x1 x2 0 σ
set_option maxHeartbeats 4000000 in
set_option maxRecDepth 100000 in
theorem w_b_X5_procedures_52 {l : Launch} {p : Program} {e : Env} {s : State} {m : MethodId} {args : Array Value} {below : List Frame} {meth : Method} {c : Code} {A : Nat → Prop} {D : va_G} {ty : Nat → ClassId} {q : Nat → Nat} {rr : Int32} (X : CallFix p m c cX5_procedures 6 s args tb RX5) (hlk : meth.locks = false) (hr : meth.sig.returnType = (some .int)) {σ : St} {H : Heap} {locs : List Loc} (hI : Inw D ty FxM (wM ty q σ) A s H locs) (x1 x2 : Int32) (hF : b_X5_procedures_52 x1 x2 σ = some rr) (ls : Array Slot) (hl : lv_has ls 6 [(0, .ref (q 0)), (1, .int x1), (2, .int x2)]) : W p l e rm_X5_procedures s m args below meth c H locs 0 0 (MQ below (Qiw D ty (wM ty q) A (rr, σ)) args s 0 0 A) (F0 m 52 ls []) := by
  unfold b_X5_procedures_52 at hF
  refine lv_iconst (v := 0) X.1 X.2.1 dX5_procedures_52 (by decide) ?_
  exact w_b_X5_procedures_53 X hlk hr hI x1 x2 0 hF ls (lv_sub hl [0, 1, 2] rfl)
def f_X5_procedures (x1 : Int32) (σ : St) : Option Int32 :=
  (f_X5_isSegment x1 σ).bind fun u1 =>
  if u1 = 0 then
    some 0
  else
    if inB x1 5 = true then
      if (gA σ 1 x1) = 0 then
        some 0
      else
        if inB (80 * x1) 400 = true then
          if (gA σ 0 (80 * x1)) < 1 then
            b_X5_procedures_52 x1 (gA σ 0 (80 * x1)) σ
          else
            if 4 < (gA σ 0 (80 * x1)) then
              b_X5_procedures_52 x1 (gA σ 0 (80 * x1)) σ
            else
              if inB x1 5 = true then
                if (gA σ 1 x1) ≤ (gA σ 0 (80 * x1)) then
                  b_X5_procedures_52 x1 (gA σ 0 (80 * x1)) σ
                else
                  b_X5_procedures_53 x1 (gA σ 0 (80 * x1)) 1 σ
              else none
        else none
    else none
set_option maxHeartbeats 4000000 in
set_option maxRecDepth 100000 in
theorem m_X5_procedures (l : Launch) (D : va_G) (ty : Nat → ClassId) (q : Nat → Nat) (σ : St) (sz : Nat) (x1 : Int32) {rr : Int32} (hF : f_X5_procedures x1 σ = some rr) : Met l yX5_procedures (wsy yX5_procedures cX5_procedures 6 (some .int)) rm_X5_procedures (Pcw D ty FxM (wM ty q σ) sz [.ref (q 0), .int x1]) (Qiw D ty (wM ty q) (va_A (wM ty q σ) sz) (rr, σ)) 0 0 (va_A (wM ty q σ) sz) := by
  refine en_w (Qc := fun A => Qiw D ty (wM ty q) A (rr, σ)) (by decide) (Nat.le_of_ble_eq_true rfl) ?_
  intro p e s m args below meth c A X hlk hr _ H locs hI ls hl
  have X : CallFix p m c cX5_procedures 6 s args tb RX5 := X
  have hl : lv_has ls 6 [(0, .ref (q 0)), (1, .int x1)] := hl
  unfold f_X5_procedures at hF
  refine lv_iload_n X.1 X.2.1 dX5_procedures_0 rfl (lv_at hl 1 rfl) ?_
  obtain ⟨u1, h2, hF⟩ := fb_bnd hF
  refine cs_i (w := wM ty q) (σ := σ) (rest := []) X fxM hI (m_X5_isSegment l D ty q σ _ x1 h2) ok_X5_isSegment ml_X5_48 ⟨rfl, rfl, Nat.le_of_ble_eq_true rfl, Nat.le_of_ble_eq_true rfl⟩ rfl hl.1 rfl (Nat.le_of_ble_eq_true rfl) ⟨Nat.zero_le _, Nat.zero_le _⟩ dX5_procedures_1 (fun H locs hI => ?_)
  refine lv_if_eq (tgt := 16) X.1 X.2.1 dX5_procedures_4 (by decide) (fun c3 => ?_) (fun c3 => ?_)
  · replace hF := fb_pos c3 hF
    refine lv_iconst (v := 0) X.1 X.2.1 dX5_procedures_16 (by decide) ?_
    exact rt_i X hlk hr hI (fb_pr hF) dX5_procedures_17
  · replace hF := fb_neg c3 hF
    refine lv_aload_n X.1 X.2.1 dX5_procedures_7 rfl (lv_at hl 0 rfl) ?_
    refine g_X5_length X hI dX5_procedures_8 ?_
    refine lv_iload_n X.1 X.2.1 dX5_procedures_11 rfl (lv_at hl 1 rfl) ?_
    obtain ⟨h4, hF⟩ := fb_chk hF
    refine aM_1 (v := gA σ 1 x1) X hI rfl h4 dX5_procedures_12 ?_
    refine lv_if_ne (tgt := 18) X.1 X.2.1 dX5_procedures_13 (by decide) (fun c5 => ?_) (fun c5 => ?_)
    · replace hF := fb_neg c5 hF
      refine lv_aload_n X.1 X.2.1 dX5_procedures_18 rfl (lv_at hl 0 rfl) ?_
      refine g_X5_disk X hI dX5_procedures_19 ?_
      refine lv_bipush (v := 80) X.1 X.2.1 dX5_procedures_22 (by decide) ?_
      refine lv_iload_n X.1 X.2.1 dX5_procedures_24 rfl (lv_at hl 1 rfl) ?_
      refine lv_imul X.1 X.2.1 dX5_procedures_25 ?_
      obtain ⟨h6, hF⟩ := fb_chk hF
      refine aM_0 (v := gA σ 0 (80 * x1)) X hI rfl h6 dX5_procedures_26 ?_
      refine lv_istore_n (lv' := [(2, .int (gA σ 0 (80 * x1))), (0, .ref (q 0)), (1, .int x1)]) X.1 X.2.1 dX5_procedures_27 rfl hl (by decide) rfl (fun ls hl => ?_)
      refine lv_iload_n X.1 X.2.1 dX5_procedures_28 rfl (lv_at hl 0 rfl) ?_
      refine lv_iconst (v := 1) X.1 X.2.1 dX5_procedures_29 (by decide) ?_
      refine lv_icmp_lt (tgt := 52) X.1 X.2.1 dX5_procedures_30 (by decide) (fun c7 => ?_) (fun c7 => ?_)
      · replace hF := fb_pos c7 hF
        exact w_b_X5_procedures_52 X hlk hr hI x1 (gA σ 0 (80 * x1)) hF ls (lv_sub hl [1, 2, 0] rfl)
      · replace hF := fb_neg c7 hF
        refine lv_iload_n X.1 X.2.1 dX5_procedures_33 rfl (lv_at hl 0 rfl) ?_
        refine lv_iconst (v := 4) X.1 X.2.1 dX5_procedures_34 (by decide) ?_
        refine lv_icmp_gt (tgt := 52) X.1 X.2.1 dX5_procedures_35 (by decide) (fun c16 => ?_) (fun c16 => ?_)
        · replace hF := fb_pos c16 hF
          exact w_b_X5_procedures_52 X hlk hr hI x1 (gA σ 0 (80 * x1)) hF ls (lv_sub hl [1, 2, 0] rfl)
        · replace hF := fb_neg c16 hF
          refine lv_iload_n X.1 X.2.1 dX5_procedures_38 rfl (lv_at hl 0 rfl) ?_
          refine lv_aload_n X.1 X.2.1 dX5_procedures_39 rfl (lv_at hl 1 rfl) ?_
          refine g_X5_length X hI dX5_procedures_40 ?_
          refine lv_iload_n X.1 X.2.1 dX5_procedures_43 rfl (lv_at hl 2 rfl) ?_
          obtain ⟨h17, hF⟩ := fb_chk hF
          refine aM_1 (v := gA σ 1 x1) X hI rfl h17 dX5_procedures_44 ?_
          refine lv_icmp_ge (tgt := 52) X.1 X.2.1 dX5_procedures_45 (by decide) (fun c18 => ?_) (fun c18 => ?_)
          · replace hF := fb_pos c18 hF
            exact w_b_X5_procedures_52 X hlk hr hI x1 (gA σ 0 (80 * x1)) hF ls (lv_sub hl [1, 2, 0] rfl)
          · replace hF := fb_neg c18 hF
            refine lv_iconst (v := 1) X.1 X.2.1 dX5_procedures_48 (by decide) ?_
            refine lv_goto (tgt := 53) X.1 X.2.1 dX5_procedures_49 (by decide) ?_
            exact w_b_X5_procedures_53 X hlk hr hI x1 (gA σ 0 (80 * x1)) 1 hF ls (lv_sub hl [1, 2, 0] rfl)
    · replace hF := fb_pos c5 hF
      refine lv_iconst (v := 0) X.1 X.2.1 dX5_procedures_16 (by decide) ?_
      exact rt_i X hlk hr hI (fb_pr hF) dX5_procedures_17
abbrev rm_X5_good : Room := { frames := 2, cells := 0, slots := 0, locals := 45 }
def b_X5_good_13 (x1 z0 : Int32) (σ : St) : Option (Int32 × St) :=
  if z0 ≤ 0 then
    (f_X5_procedures x1 (sI σ 0 z0)).bind fun u5 =>
    some (u5, sI σ 0 z0)
  else
    some (0, sI σ 0 z0)
set_option maxHeartbeats 4000000 in
set_option maxRecDepth 100000 in
theorem w_b_X5_good_13 {l : Launch} {p : Program} {e : Env} {s : State} {m : MethodId} {args : Array Value} {below : List Frame} {meth : Method} {c : Code} {A : Nat → Prop} {D : va_G} {ty : Nat → ClassId} {q : Nat → Nat} {res : Int32 × St} (X : CallFix p m c cX5_good 2 s args tb RX5) (hlk : meth.locks = false) (hr : meth.sig.returnType = (some .int)) {σ : St} {H : Heap} {locs : List Loc} (hI : Inw D ty FxM (wM ty q σ) A s H locs) (x1 z0 : Int32) (hF : b_X5_good_13 x1 z0 σ = some res) (ls : Array Slot) (hl : lv_has ls 2 [(0, .ref (q 0)), (1, .int x1)]) : W p l e rm_X5_good s m args below meth c H locs 0 0 (MQ below (Qiw D ty (wM ty q) A res) args s 0 0 A) (F0 m 13 ls [.int z0, .ref (q 0)]) := by
  unfold b_X5_good_13 at hF
  refine p_X5_code X hI dX5_good_13 (fun H locs hI => ?_)
  refine lv_aload_n X.1 X.2.1 dX5_good_16 rfl (lv_at hl 0 rfl) ?_
  refine g_X5_code (v := z0) X hI rfl dX5_good_17 ?_
  refine lv_if_le (tgt := 27) X.1 X.2.1 dX5_good_20 (by decide) (fun c4 => ?_) (fun c4 => ?_)
  · replace hF := fb_pos c4 hF
    refine lv_aload_n X.1 X.2.1 dX5_good_27 rfl (lv_at hl 0 rfl) ?_
    refine lv_iload_n X.1 X.2.1 dX5_good_28 rfl (lv_at hl 1 rfl) ?_
    obtain ⟨u5, h6, hF⟩ := fb_bnd hF
    refine cl_i (w := wM ty q) (σ := sI σ 0 z0) (rest := []) X fxM hI (m_X5_procedures l D ty q (sI σ 0 z0) _ x1 h6) ok_X5_procedures ml_X5_55 ⟨rfl, rfl, Nat.le_of_ble_eq_true rfl, Nat.le_of_ble_eq_true rfl⟩ 0 rc_X5 rfl rfl hl.1 rfl (Nat.le_of_ble_eq_true rfl) ⟨Nat.zero_le _, Nat.zero_le _⟩ dX5_good_29 (fun H locs hI => ?_)
    exact rt_i X hlk hr hI hF dX5_good_32
  · replace hF := fb_neg c4 hF
    refine lv_iconst (v := 0) X.1 X.2.1 dX5_good_23 (by decide) ?_
    refine lv_goto (tgt := 32) X.1 X.2.1 dX5_good_24 (by decide) ?_
    exact rt_i X hlk hr hI hF dX5_good_32
def f_X5_good (x1 : Int32) (σ : St) : Option (Int32 × St) :=
  (f_X5_isSegment x1 σ).bind fun u1 =>
  if u1 = 0 then
    b_X5_good_13 x1 1 σ
  else
    b_X5_good_13 x1 0 σ
set_option maxHeartbeats 4000000 in
set_option maxRecDepth 100000 in
theorem m_X5_good (l : Launch) (D : va_G) (ty : Nat → ClassId) (q : Nat → Nat) (σ : St) (sz : Nat) (x1 : Int32) {res : Int32 × St} (hF : f_X5_good x1 σ = some res) : Met l yX5_good (wsy yX5_good cX5_good 2 (some .int)) rm_X5_good (Pcw D ty FxM (wM ty q σ) sz [.ref (q 0), .int x1]) (Qiw D ty (wM ty q) (va_A (wM ty q σ) sz) res) 0 0 (va_A (wM ty q σ) sz) := by
  refine en_w (Qc := fun A => Qiw D ty (wM ty q) A res) (by decide) (Nat.le_of_ble_eq_true rfl) ?_
  intro p e s m args below meth c A X hlk hr _ H locs hI ls hl
  have X : CallFix p m c cX5_good 2 s args tb RX5 := X
  have hl : lv_has ls 2 [(0, .ref (q 0)), (1, .int x1)] := hl
  unfold f_X5_good at hF
  refine lv_aload_n X.1 X.2.1 dX5_good_0 rfl (lv_at hl 0 rfl) ?_
  refine lv_iload_n X.1 X.2.1 dX5_good_1 rfl (lv_at hl 1 rfl) ?_
  obtain ⟨u1, h2, hF⟩ := fb_bnd hF
  refine cs_i (w := wM ty q) (σ := σ) (rest := [.ref (q 0)]) X fxM hI (m_X5_isSegment l D ty q σ _ x1 h2) ok_X5_isSegment ml_X5_48 ⟨rfl, rfl, Nat.le_of_ble_eq_true rfl, Nat.le_of_ble_eq_true rfl⟩ rfl hl.1 rfl (Nat.le_of_ble_eq_true rfl) ⟨Nat.zero_le _, Nat.zero_le _⟩ dX5_good_2 (fun H locs hI => ?_)
  refine lv_if_eq (tgt := 12) X.1 X.2.1 dX5_good_5 (by decide) (fun c3 => ?_) (fun c3 => ?_)
  · replace hF := fb_pos c3 hF
    refine lv_iconst (v := 1) X.1 X.2.1 dX5_good_12 (by decide) ?_
    exact w_b_X5_good_13 X hlk hr hI x1 1 hF ls (lv_sub hl [0, 1] rfl)
  · replace hF := fb_neg c3 hF
    refine lv_iconst (v := 0) X.1 X.2.1 dX5_good_8 (by decide) ?_
    refine lv_goto (tgt := 13) X.1 X.2.1 dX5_good_9 (by decide) ?_
    exact w_b_X5_good_13 X hlk hr hI x1 0 hF ls (lv_sub hl [0, 1] rfl)
abbrev rm_X5_held : Room := { frames := 0, cells := 0, slots := 0, locals := 0 }
def b_X5_held_39 : Nat → Int32 → Int32 → St → Option Int32
  | 0, _, _, _ => none
  | n + 1, x1, x2, σ =>
    if 5 ≤ x2 then
      some x1
    else
      if inB x2 5 = true then
        if (gA σ 2 x2) = 0 then
          b_X5_held_39 n (x1 + 0) (x2 + 1) σ
        else
          if inB x2 5 = true then
            b_X5_held_39 n (x1 + (gA σ 1 x2)) (x2 + 1) σ
          else none
      else none
set_option maxHeartbeats 4000000 in
set_option maxRecDepth 100000 in
theorem w_b_X5_held_39 {l : Launch} {p : Program} {e : Env} {s : State} {m : MethodId} {args : Array Value} {below : List Frame} {meth : Method} {c : Code} {A : Nat → Prop} {D : va_G} {ty : Nat → ClassId} {q : Nat → Nat} {rr : Int32} (X : CallFix p m c cX5_held 3 s args tb RX5) (hlk : meth.locks = false) (hr : meth.sig.returnType = (some .int)) : ∀ (n : Nat) (x1 x2 : Int32) (σ : St) (H : Heap) (locs : List Loc) (ls : Array Slot), b_X5_held_39 n x1 x2 σ = some rr → Inw D ty FxM (wM ty q σ) A s H locs → lv_has ls 3 [(0, .ref (q 0)), (1, .int x1), (2, .int x2)] → W p l e rm_X5_held s m args below meth c H locs 0 0 (MQ below (Qiw D ty (wM ty q) A (rr, σ)) args s 0 0 A) (F0 m 39 ls []) := by
  intro n
  induction n with
  | zero =>
    intro x1 x2 σ H locs ls hF
    cases hF
  | succ n ih =>
    intro x1 x2 σ H locs ls hF hI hl
    rw [b_X5_held_39] at hF
    refine lv_iload_n X.1 X.2.1 dX5_held_39 rfl (lv_at hl 2 rfl) ?_
    refine lv_iconst (v := 5) X.1 X.2.1 dX5_held_40 (by decide) ?_
    refine lv_icmp_ge (tgt := 72) X.1 X.2.1 dX5_held_41 (by decide) (fun c2 => ?_) (fun c2 => ?_)
    · replace hF := fb_pos c2 hF
      refine lv_iload_n X.1 X.2.1 dX5_held_72 rfl (lv_at hl 1 rfl) ?_
      exact rt_i X hlk hr hI (fb_pr hF) dX5_held_73
    · replace hF := fb_neg c2 hF
      refine lv_iload_n X.1 X.2.1 dX5_held_44 rfl (lv_at hl 1 rfl) ?_
      refine lv_aload_n X.1 X.2.1 dX5_held_45 rfl (lv_at hl 0 rfl) ?_
      refine g_X5_resident X hI dX5_held_46 ?_
      refine lv_iload_n X.1 X.2.1 dX5_held_49 rfl (lv_at hl 2 rfl) ?_
      obtain ⟨h3, hF⟩ := fb_chk hF
      refine aM_2 (v := gA σ 2 x2) X hI rfl h3 dX5_held_50 ?_
      refine lv_if_eq (tgt := 63) X.1 X.2.1 dX5_held_51 (by decide) (fun c4 => ?_) (fun c4 => ?_)
      · replace hF := fb_pos c4 hF
        refine lv_iconst (v := 0) X.1 X.2.1 dX5_held_63 (by decide) ?_
        refine lv_iadd X.1 X.2.1 dX5_held_64 ?_
        refine lv_istore_n (lv' := [(1, .int (x1 + 0)), (0, .ref (q 0)), (2, .int x2)]) X.1 X.2.1 dX5_held_65 rfl hl (by decide) rfl (fun ls hl => ?_)
        refine lv_iinc (v := x2 + 1) (lv' := [(2, .int (x2 + 1)), (1, .int (x1 + 0)), (0, .ref (q 0))]) X.1 X.2.1 dX5_held_66 hl (k := 2) rfl rfl (by decide) rfl (fun ls hl => ?_)
        refine lv_goto (tgt := 39) X.1 X.2.1 dX5_held_69 (by decide) ?_
        exact ih (x1 + 0) (x2 + 1) _ _ _ ls hF hI (lv_sub hl [2, 1, 0] rfl)
      · replace hF := fb_neg c4 hF
        refine lv_aload_n X.1 X.2.1 dX5_held_54 rfl (lv_at hl 0 rfl) ?_
        refine g_X5_length X hI dX5_held_55 ?_
        refine lv_iload_n X.1 X.2.1 dX5_held_58 rfl (lv_at hl 2 rfl) ?_
        obtain ⟨h5, hF⟩ := fb_chk hF
        refine aM_1 (v := gA σ 1 x2) X hI rfl h5 dX5_held_59 ?_
        refine lv_goto (tgt := 64) X.1 X.2.1 dX5_held_60 (by decide) ?_
        refine lv_iadd X.1 X.2.1 dX5_held_64 ?_
        refine lv_istore_n (lv' := [(1, .int (x1 + (gA σ 1 x2))), (0, .ref (q 0)), (2, .int x2)]) X.1 X.2.1 dX5_held_65 rfl hl (by decide) rfl (fun ls hl => ?_)
        refine lv_iinc (v := x2 + 1) (lv' := [(2, .int (x2 + 1)), (1, .int (x1 + (gA σ 1 x2))), (0, .ref (q 0))]) X.1 X.2.1 dX5_held_66 hl (k := 2) rfl rfl (by decide) rfl (fun ls hl => ?_)
        refine lv_goto (tgt := 39) X.1 X.2.1 dX5_held_69 (by decide) ?_
        exact ih (x1 + (gA σ 1 x2)) (x2 + 1) _ _ _ ls hF hI (lv_sub hl [2, 1, 0] rfl)
def b_X5_held_9 : Nat → Int32 → Int32 → St → Option Int32
  | 0, _, _, _ => none
  | n + 1, x1, x2, σ =>
    if (gI σ 7) ≤ x2 then
      b_X5_held_39 600 x1 0 σ
    else
      if inB x2 520 = true then
        b_X5_held_9 n (x1 + (8 + (4 * (gA σ 6 x2)))) (x2 + 1) σ
      else none
set_option maxHeartbeats 4000000 in
set_option maxRecDepth 100000 in
theorem w_b_X5_held_9 {l : Launch} {p : Program} {e : Env} {s : State} {m : MethodId} {args : Array Value} {below : List Frame} {meth : Method} {c : Code} {A : Nat → Prop} {D : va_G} {ty : Nat → ClassId} {q : Nat → Nat} {rr : Int32} (X : CallFix p m c cX5_held 3 s args tb RX5) (hlk : meth.locks = false) (hr : meth.sig.returnType = (some .int)) : ∀ (n : Nat) (x1 x2 : Int32) (σ : St) (H : Heap) (locs : List Loc) (ls : Array Slot), b_X5_held_9 n x1 x2 σ = some rr → Inw D ty FxM (wM ty q σ) A s H locs → lv_has ls 3 [(0, .ref (q 0)), (1, .int x1), (2, .int x2)] → W p l e rm_X5_held s m args below meth c H locs 0 0 (MQ below (Qiw D ty (wM ty q) A (rr, σ)) args s 0 0 A) (F0 m 9 ls []) := by
  intro n
  induction n with
  | zero =>
    intro x1 x2 σ H locs ls hF
    cases hF
  | succ n ih =>
    intro x1 x2 σ H locs ls hF hI hl
    rw [b_X5_held_9] at hF
    refine lv_iload_n X.1 X.2.1 dX5_held_9 rfl (lv_at hl 2 rfl) ?_
    refine lv_aload_n X.1 X.2.1 dX5_held_10 rfl (lv_at hl 0 rfl) ?_
    refine g_X5_frames (v := gI σ 7) X hI rfl dX5_held_11 ?_
    refine lv_icmp_ge (tgt := 37) X.1 X.2.1 dX5_held_14 (by decide) (fun c1 => ?_) (fun c1 => ?_)
    · replace hF := fb_pos c1 hF
      refine lv_iconst (v := 0) X.1 X.2.1 dX5_held_37 (by decide) ?_
      refine lv_istore_n (lv' := [(2, .int 0), (0, .ref (q 0)), (1, .int x1)]) X.1 X.2.1 dX5_held_38 rfl hl (by decide) rfl (fun ls hl => ?_)
      exact w_b_X5_held_39 X hlk hr 600 x1 0 _ _ _ ls hF hI (lv_sub hl [1, 2, 0] rfl)
    · replace hF := fb_neg c1 hF
      refine lv_iload_n X.1 X.2.1 dX5_held_17 rfl (lv_at hl 1 rfl) ?_
      refine lv_bipush (v := 8) X.1 X.2.1 dX5_held_18 (by decide) ?_
      refine lv_iconst (v := 4) X.1 X.2.1 dX5_held_20 (by decide) ?_
      refine lv_aload_n X.1 X.2.1 dX5_held_21 rfl (lv_at hl 0 rfl) ?_
      refine g_X5_locals X hI dX5_held_22 ?_
      refine lv_iload_n X.1 X.2.1 dX5_held_25 rfl (lv_at hl 2 rfl) ?_
      obtain ⟨h6, hF⟩ := fb_chk hF
      refine aM_6 (v := gA σ 6 x2) X hI rfl h6 dX5_held_26 ?_
      refine lv_imul X.1 X.2.1 dX5_held_27 ?_
      refine lv_iadd X.1 X.2.1 dX5_held_28 ?_
      refine lv_iadd X.1 X.2.1 dX5_held_29 ?_
      refine lv_istore_n (lv' := [(1, .int (x1 + (8 + (4 * (gA σ 6 x2))))), (0, .ref (q 0)), (2, .int x2)]) X.1 X.2.1 dX5_held_30 rfl hl (by decide) rfl (fun ls hl => ?_)
      refine lv_iinc (v := x2 + 1) (lv' := [(2, .int (x2 + 1)), (1, .int (x1 + (8 + (4 * (gA σ 6 x2))))), (0, .ref (q 0))]) X.1 X.2.1 dX5_held_31 hl (k := 2) rfl rfl (by decide) rfl (fun ls hl => ?_)
      refine lv_goto (tgt := 9) X.1 X.2.1 dX5_held_34 (by decide) ?_
      exact ih (x1 + (8 + (4 * (gA σ 6 x2)))) (x2 + 1) _ _ _ ls hF hI (lv_sub hl [2, 1, 0] rfl)
def f_X5_held (σ : St) : Option Int32 :=
  b_X5_held_9 600 (4 * (gI σ 8)) 0 σ
set_option maxHeartbeats 4000000 in
set_option maxRecDepth 100000 in
theorem m_X5_held (l : Launch) (D : va_G) (ty : Nat → ClassId) (q : Nat → Nat) (σ : St) (sz : Nat) {rr : Int32} (hF : f_X5_held  σ = some rr) : Met l yX5_held (wsy yX5_held cX5_held 3 (some .int)) rm_X5_held (Pcw D ty FxM (wM ty q σ) sz [.ref (q 0)]) (Qiw D ty (wM ty q) (va_A (wM ty q σ) sz) (rr, σ)) 0 0 (va_A (wM ty q σ) sz) := by
  refine en_w (Qc := fun A => Qiw D ty (wM ty q) A (rr, σ)) (by decide) (Nat.le_of_ble_eq_true rfl) ?_
  intro p e s m args below meth c A X hlk hr _ H locs hI ls hl
  have X : CallFix p m c cX5_held 3 s args tb RX5 := X
  have hl : lv_has ls 3 [(0, .ref (q 0))] := hl
  unfold f_X5_held at hF
  refine lv_iconst (v := 4) X.1 X.2.1 dX5_held_0 (by decide) ?_
  refine lv_aload_n X.1 X.2.1 dX5_held_1 rfl (lv_at hl 0 rfl) ?_
  refine g_X5_numbers (v := gI σ 8) X hI rfl dX5_held_2 ?_
  refine lv_imul X.1 X.2.1 dX5_held_5 ?_
  refine lv_istore_n (lv' := [(1, .int (4 * (gI σ 8))), (0, .ref (q 0))]) X.1 X.2.1 dX5_held_6 rfl hl (by decide) rfl (fun ls hl => ?_)
  refine lv_iconst (v := 0) X.1 X.2.1 dX5_held_7 (by decide) ?_
  refine lv_istore_n (lv' := [(2, .int 0), (1, .int (4 * (gI σ 8))), (0, .ref (q 0))]) X.1 X.2.1 dX5_held_8 rfl hl (by decide) rfl (fun ls hl => ?_)
  exact w_b_X5_held_9 X hlk hr 600 (4 * (gI σ 8)) 0 _ _ _ ls hF hI (lv_sub hl [2, 1, 0] rfl)
abbrev rm_X5_isActive : Room := { frames := 0, cells := 0, slots := 0, locals := 0 }
def b_X5_isActive_4 : Nat → Int32 → Int32 → Int32 → St → Option Int32
  | 0, _, _, _, _ => none
  | n + 1, x1, x2, x3, σ =>
    if (gI σ 7) ≤ x3 then
      some (vp_nar .boolean x2)
    else
      if x2 = 0 then
        if inB x3 520 = true then
          if (gA σ 4 x3) = x1 then
            b_X5_isActive_4 n x1 1 (x3 + 1) σ
          else
            b_X5_isActive_4 n x1 0 (x3 + 1) σ
        else none
      else
        b_X5_isActive_4 n x1 1 (x3 + 1) σ
set_option maxHeartbeats 4000000 in
set_option maxRecDepth 100000 in
theorem w_b_X5_isActive_4 {l : Launch} {p : Program} {e : Env} {s : State} {m : MethodId} {args : Array Value} {below : List Frame} {meth : Method} {c : Code} {A : Nat → Prop} {D : va_G} {ty : Nat → ClassId} {q : Nat → Nat} {rr : Int32} (X : CallFix p m c cX5_isActive 4 s args tb RX5) (hlk : meth.locks = false) (hr : meth.sig.returnType = (some .boolean)) : ∀ (n : Nat) (x1 x2 x3 : Int32) (σ : St) (H : Heap) (locs : List Loc) (ls : Array Slot), b_X5_isActive_4 n x1 x2 x3 σ = some rr → Inw D ty FxM (wM ty q σ) A s H locs → lv_has ls 4 [(0, .ref (q 0)), (1, .int x1), (2, .int x2), (3, .int x3)] → W p l e rm_X5_isActive s m args below meth c H locs 0 0 (MQ below (Qiw D ty (wM ty q) A (rr, σ)) args s 0 0 A) (F0 m 4 ls []) := by
  intro n
  induction n with
  | zero =>
    intro x1 x2 x3 σ H locs ls hF
    cases hF
  | succ n ih =>
    intro x1 x2 x3 σ H locs ls hF hI hl
    rw [b_X5_isActive_4] at hF
    refine lv_iload_n X.1 X.2.1 dX5_isActive_4 rfl (lv_at hl 3 rfl) ?_
    refine lv_aload_n X.1 X.2.1 dX5_isActive_5 rfl (lv_at hl 0 rfl) ?_
    refine g_X5_frames (v := gI σ 7) X hI rfl dX5_isActive_6 ?_
    refine lv_icmp_ge (tgt := 38) X.1 X.2.1 dX5_isActive_9 (by decide) (fun c1 => ?_) (fun c1 => ?_)
    · replace hF := fb_pos c1 hF
      refine lv_iload_n X.1 X.2.1 dX5_isActive_38 rfl (lv_at hl 2 rfl) ?_
      exact rt_b X hlk hr hI (fb_pr hF) dX5_isActive_39
    · replace hF := fb_neg c1 hF
      refine lv_iload_n X.1 X.2.1 dX5_isActive_12 rfl (lv_at hl 2 rfl) ?_
      refine lv_if_ne (tgt := 26) X.1 X.2.1 dX5_isActive_13 (by decide) (fun c2 => ?_) (fun c2 => ?_)
      · replace hF := fb_neg c2 hF
        refine lv_iconst (v := 1) X.1 X.2.1 dX5_isActive_26 (by decide) ?_
        refine lv_goto (tgt := 31) X.1 X.2.1 dX5_isActive_27 (by decide) ?_
        refine lv_istore_n (lv' := [(2, .int 1), (0, .ref (q 0)), (1, .int x1), (3, .int x3)]) X.1 X.2.1 dX5_isActive_31 rfl hl (by decide) rfl (fun ls hl => ?_)
        refine lv_iinc (v := x3 + 1) (lv' := [(3, .int (x3 + 1)), (2, .int 1), (0, .ref (q 0)), (1, .int x1)]) X.1 X.2.1 dX5_isActive_32 hl (k := 3) rfl rfl (by decide) rfl (fun ls hl => ?_)
        refine lv_goto (tgt := 4) X.1 X.2.1 dX5_isActive_35 (by decide) ?_
        exact ih x1 1 (x3 + 1) _ _ _ ls hF hI (lv_sub hl [2, 3, 1, 0] rfl)
      · replace hF := fb_pos c2 hF
        refine lv_aload_n X.1 X.2.1 dX5_isActive_16 rfl (lv_at hl 0 rfl) ?_
        refine g_X5_segment X hI dX5_isActive_17 ?_
        refine lv_iload_n X.1 X.2.1 dX5_isActive_20 rfl (lv_at hl 3 rfl) ?_
        obtain ⟨h3, hF⟩ := fb_chk hF
        refine aM_4 (v := gA σ 4 x3) X hI rfl h3 dX5_isActive_21 ?_
        refine lv_iload_n X.1 X.2.1 dX5_isActive_22 rfl (lv_at hl 1 rfl) ?_
        refine lv_icmp_ne (tgt := 30) X.1 X.2.1 dX5_isActive_23 (by decide) (fun c4 => ?_) (fun c4 => ?_)
        · replace hF := fb_neg c4 hF
          refine lv_iconst (v := 0) X.1 X.2.1 dX5_isActive_30 (by decide) ?_
          refine lv_istore_n (lv' := [(2, .int 0), (0, .ref (q 0)), (1, .int x1), (3, .int x3)]) X.1 X.2.1 dX5_isActive_31 rfl hl (by decide) rfl (fun ls hl => ?_)
          refine lv_iinc (v := x3 + 1) (lv' := [(3, .int (x3 + 1)), (2, .int 0), (0, .ref (q 0)), (1, .int x1)]) X.1 X.2.1 dX5_isActive_32 hl (k := 3) rfl rfl (by decide) rfl (fun ls hl => ?_)
          refine lv_goto (tgt := 4) X.1 X.2.1 dX5_isActive_35 (by decide) ?_
          exact ih x1 0 (x3 + 1) _ _ _ ls hF hI (lv_sub hl [2, 3, 1, 0] rfl)
        · replace hF := fb_pos c4 hF
          refine lv_iconst (v := 1) X.1 X.2.1 dX5_isActive_26 (by decide) ?_
          refine lv_goto (tgt := 31) X.1 X.2.1 dX5_isActive_27 (by decide) ?_
          refine lv_istore_n (lv' := [(2, .int 1), (0, .ref (q 0)), (1, .int x1), (3, .int x3)]) X.1 X.2.1 dX5_isActive_31 rfl hl (by decide) rfl (fun ls hl => ?_)
          refine lv_iinc (v := x3 + 1) (lv' := [(3, .int (x3 + 1)), (2, .int 1), (0, .ref (q 0)), (1, .int x1)]) X.1 X.2.1 dX5_isActive_32 hl (k := 3) rfl rfl (by decide) rfl (fun ls hl => ?_)
          refine lv_goto (tgt := 4) X.1 X.2.1 dX5_isActive_35 (by decide) ?_
          exact ih x1 1 (x3 + 1) _ _ _ ls hF hI (lv_sub hl [2, 3, 1, 0] rfl)
def f_X5_isActive (x1 : Int32) (σ : St) : Option Int32 :=
  b_X5_isActive_4 600 x1 0 0 σ
set_option maxHeartbeats 4000000 in
set_option maxRecDepth 100000 in
theorem m_X5_isActive (l : Launch) (D : va_G) (ty : Nat → ClassId) (q : Nat → Nat) (σ : St) (sz : Nat) (x1 : Int32) {rr : Int32} (hF : f_X5_isActive x1 σ = some rr) : Met l yX5_isActive (wsy yX5_isActive cX5_isActive 4 (some .boolean)) rm_X5_isActive (Pcw D ty FxM (wM ty q σ) sz [.ref (q 0), .int x1]) (Qiw D ty (wM ty q) (va_A (wM ty q σ) sz) (rr, σ)) 0 0 (va_A (wM ty q σ) sz) := by
  refine en_w (Qc := fun A => Qiw D ty (wM ty q) A (rr, σ)) (by decide) (Nat.le_of_ble_eq_true rfl) ?_
  intro p e s m args below meth c A X hlk hr _ H locs hI ls hl
  have X : CallFix p m c cX5_isActive 4 s args tb RX5 := X
  have hl : lv_has ls 4 [(0, .ref (q 0)), (1, .int x1)] := hl
  unfold f_X5_isActive at hF
  refine lv_iconst (v := 0) X.1 X.2.1 dX5_isActive_0 (by decide) ?_
  refine lv_istore_n (lv' := [(2, .int 0), (0, .ref (q 0)), (1, .int x1)]) X.1 X.2.1 dX5_isActive_1 rfl hl (by decide) rfl (fun ls hl => ?_)
  refine lv_iconst (v := 0) X.1 X.2.1 dX5_isActive_2 (by decide) ?_
  refine lv_istore_n (lv' := [(3, .int 0), (2, .int 0), (0, .ref (q 0)), (1, .int x1)]) X.1 X.2.1 dX5_isActive_3 rfl hl (by decide) rfl (fun ls hl => ?_)
  exact w_b_X5_isActive_4 X hlk hr 600 x1 0 0 _ _ _ ls hF hI (lv_sub hl [2, 3, 1, 0] rfl)
abbrev rm_X5_room : Room := { frames := 1, cells := 0, slots := 0, locals := 23 }
def b_X5_room_18 (kk : Int32 → Int32 → Int32 → St → Option (Int32 × St)) : Nat → Int32 → Int32 → Int32 → Int32 → St → Option (Int32 × St)
  | 0, _, _, _, _, _ => none
  | n + 1, x1, x2, x3, x4, σ =>
    if 5 ≤ x4 then
      kk x1 x2 x3 σ
    else
      if inB x4 5 = true then
        if (gA σ 2 x4) = 0 then
          b_X5_room_18 kk n x1 x2 x3 (x4 + 1) σ
        else
          if x4 = x2 then
            b_X5_room_18 kk n x1 x2 x3 (x4 + 1) σ
          else
            (f_X5_isActive x4 σ).bind fun u8 =>
            if u8 = 0 then
              if x3 < 0 then
                b_X5_room_18 kk n x1 x2 x4 (x4 + 1) σ
              else
                if inB x4 5 = true then
                  if inB x3 5 = true then
                    if (gA σ 3 x3) ≤ (gA σ 3 x4) then
                      b_X5_room_18 kk n x1 x2 x3 (x4 + 1) σ
                    else
                      b_X5_room_18 kk n x1 x2 x4 (x4 + 1) σ
                  else none
                else none
            else
              b_X5_room_18 kk n x1 x2 x3 (x4 + 1) σ
      else none
set_option maxHeartbeats 4000000 in
set_option maxRecDepth 100000 in
theorem w_b_X5_room_18 {l : Launch} {p : Program} {e : Env} {s : State} {m : MethodId} {args : Array Value} {below : List Frame} {meth : Method} {c : Code} {A : Nat → Prop} {D : va_G} {ty : Nat → ClassId} {q : Nat → Nat} {res : Int32 × St} (X : CallFix p m c cX5_room 6 s args tb RX5) (hlk : meth.locks = false) (hr : meth.sig.returnType = (some .boolean)) {kk : Int32 → Int32 → Int32 → St → Option (Int32 × St)} (hk : ∀ (y1 y2 y3 : Int32) (σ : St) (H : Heap) (locs : List Loc) (ls : Array Slot), kk y1 y2 y3 σ = some res → Inw D ty FxM (wM ty q σ) A s H locs → lv_has ls 6 [(0, .ref (q 0)), (1, .int y1), (2, .int y2), (3, .int y3)] → W p l e rm_X5_room s m args below meth c H locs 0 0 (MQ below (Qiw D ty (wM ty q) A res) args s 0 0 A) (F0 m 90 ls [])) : ∀ (n : Nat) (x1 x2 x3 x4 : Int32) (σ : St) (H : Heap) (locs : List Loc) (ls : Array Slot), b_X5_room_18 kk n x1 x2 x3 x4 σ = some res → Inw D ty FxM (wM ty q σ) A s H locs → lv_has ls 6 [(0, .ref (q 0)), (1, .int x1), (2, .int x2), (3, .int x3), (4, .int x4)] → W p l e rm_X5_room s m args below meth c H locs 0 0 (MQ below (Qiw D ty (wM ty q) A res) args s 0 0 A) (F0 m 18 ls []) := by
  intro n
  induction n with
  | zero =>
    intro x1 x2 x3 x4 σ H locs ls hF
    cases hF
  | succ n ih =>
    intro x1 x2 x3 x4 σ H locs ls hF hI hl
    rw [b_X5_room_18] at hF
    refine lv_iload X.1 X.2.1 dX5_room_18 (lv_at hl 4 rfl) ?_
    refine lv_iconst (v := 5) X.1 X.2.1 dX5_room_20 (by decide) ?_
    refine lv_icmp_ge (tgt := 90) X.1 X.2.1 dX5_room_21 (by decide) (fun c4 => ?_) (fun c4 => ?_)
    · replace hF := fb_pos c4 hF
      exact hk x1 x2 x3 _ _ _ ls hF hI (lv_sub hl [0, 1, 2, 3] rfl)
    · replace hF := fb_neg c4 hF
      refine lv_aload_n X.1 X.2.1 dX5_room_24 rfl (lv_at hl 0 rfl) ?_
      refine g_X5_resident X hI dX5_room_25 ?_
      refine lv_iload X.1 X.2.1 dX5_room_28 (lv_at hl 4 rfl) ?_
      obtain ⟨h5, hF⟩ := fb_chk hF
      refine aM_2 (v := gA σ 2 x4) X hI rfl h5 dX5_room_30 ?_
      refine lv_if_eq (tgt := 53) X.1 X.2.1 dX5_room_31 (by decide) (fun c6 => ?_) (fun c6 => ?_)
      · replace hF := fb_pos c6 hF
        refine lv_iconst (v := 0) X.1 X.2.1 dX5_room_53 (by decide) ?_
        refine lv_istore (lv' := [(5, .int 0), (0, .ref (q 0)), (1, .int x1), (2, .int x2), (3, .int x3), (4, .int x4)]) X.1 X.2.1 dX5_room_54 hl (by decide) rfl (fun ls hl => ?_)
        refine lv_iload X.1 X.2.1 dX5_room_56 (lv_at hl 0 rfl) ?_
        refine lv_if_eq (tgt := 84) X.1 X.2.1 dX5_room_58 (by decide) (fun _ => ?_) (fun c => absurd (by decide) c)
        refine lv_iinc (v := x4 + 1) (lv' := [(4, .int (x4 + 1)), (5, .int 0), (0, .ref (q 0)), (1, .int x1), (2, .int x2), (3, .int x3)]) X.1 X.2.1 dX5_room_84 hl (k := 5) rfl rfl (by decide) rfl (fun ls hl => ?_)
        refine lv_goto (tgt := 18) X.1 X.2.1 dX5_room_87 (by decide) ?_
        exact ih x1 x2 x3 (x4 + 1) _ _ _ ls hF hI (lv_sub hl [2, 3, 4, 5, 0] rfl)
      · replace hF := fb_neg c6 hF
        refine lv_iload X.1 X.2.1 dX5_room_34 (lv_at hl 4 rfl) ?_
        refine lv_iload_n X.1 X.2.1 dX5_room_36 rfl (lv_at hl 2 rfl) ?_
        refine lv_icmp_eq (tgt := 53) X.1 X.2.1 dX5_room_37 (by decide) (fun c7 => ?_) (fun c7 => ?_)
        · replace hF := fb_pos c7 hF
          refine lv_iconst (v := 0) X.1 X.2.1 dX5_room_53 (by decide) ?_
          refine lv_istore (lv' := [(5, .int 0), (0, .ref (q 0)), (1, .int x1), (2, .int x2), (3, .int x3), (4, .int x4)]) X.1 X.2.1 dX5_room_54 hl (by decide) rfl (fun ls hl => ?_)
          refine lv_iload X.1 X.2.1 dX5_room_56 (lv_at hl 0 rfl) ?_
          refine lv_if_eq (tgt := 84) X.1 X.2.1 dX5_room_58 (by decide) (fun _ => ?_) (fun c => absurd (by decide) c)
          refine lv_iinc (v := x4 + 1) (lv' := [(4, .int (x4 + 1)), (5, .int 0), (0, .ref (q 0)), (1, .int x1), (2, .int x2), (3, .int x3)]) X.1 X.2.1 dX5_room_84 hl (k := 5) rfl rfl (by decide) rfl (fun ls hl => ?_)
          refine lv_goto (tgt := 18) X.1 X.2.1 dX5_room_87 (by decide) ?_
          exact ih x1 x2 x3 (x4 + 1) _ _ _ ls hF hI (lv_sub hl [2, 3, 4, 5, 0] rfl)
        · replace hF := fb_neg c7 hF
          refine lv_aload_n X.1 X.2.1 dX5_room_40 rfl (lv_at hl 0 rfl) ?_
          refine lv_iload X.1 X.2.1 dX5_room_41 (lv_at hl 4 rfl) ?_
          obtain ⟨u8, h9, hF⟩ := fb_bnd hF
          refine cl_i (w := wM ty q) (σ := σ) (rest := []) X fxM hI (m_X5_isActive l D ty q σ _ x4 h9) ok_X5_isActive ml_X5_72 ⟨rfl, rfl, Nat.le_of_ble_eq_true rfl, Nat.le_of_ble_eq_true rfl⟩ 0 rc_X5 rfl rfl hl.1 rfl (Nat.le_of_ble_eq_true rfl) ⟨Nat.zero_le _, Nat.zero_le _⟩ dX5_room_43 (fun H locs hI => ?_)
          refine lv_if_ne (tgt := 53) X.1 X.2.1 dX5_room_46 (by decide) (fun c10 => ?_) (fun c10 => ?_)
          · replace hF := fb_neg c10 hF
            refine lv_iconst (v := 0) X.1 X.2.1 dX5_room_53 (by decide) ?_
            refine lv_istore (lv' := [(5, .int 0), (0, .ref (q 0)), (1, .int x1), (2, .int x2), (3, .int x3), (4, .int x4)]) X.1 X.2.1 dX5_room_54 hl (by decide) rfl (fun ls hl => ?_)
            refine lv_iload X.1 X.2.1 dX5_room_56 (lv_at hl 0 rfl) ?_
            refine lv_if_eq (tgt := 84) X.1 X.2.1 dX5_room_58 (by decide) (fun _ => ?_) (fun c => absurd (by decide) c)
            refine lv_iinc (v := x4 + 1) (lv' := [(4, .int (x4 + 1)), (5, .int 0), (0, .ref (q 0)), (1, .int x1), (2, .int x2), (3, .int x3)]) X.1 X.2.1 dX5_room_84 hl (k := 5) rfl rfl (by decide) rfl (fun ls hl => ?_)
            refine lv_goto (tgt := 18) X.1 X.2.1 dX5_room_87 (by decide) ?_
            exact ih x1 x2 x3 (x4 + 1) _ _ _ ls hF hI (lv_sub hl [2, 3, 4, 5, 0] rfl)
          · replace hF := fb_pos c10 hF
            refine lv_iconst (v := 1) X.1 X.2.1 dX5_room_49 (by decide) ?_
            refine lv_goto (tgt := 54) X.1 X.2.1 dX5_room_50 (by decide) ?_
            refine lv_istore (lv' := [(5, .int 1), (0, .ref (q 0)), (1, .int x1), (2, .int x2), (3, .int x3), (4, .int x4)]) X.1 X.2.1 dX5_room_54 hl (by decide) rfl (fun ls hl => ?_)
            refine lv_iload X.1 X.2.1 dX5_room_56 (lv_at hl 0 rfl) ?_
            refine lv_if_eq (tgt := 84) X.1 X.2.1 dX5_room_58 (by decide) (fun c => absurd c (by decide)) (fun _ => ?_)
            refine lv_iload_n X.1 X.2.1 dX5_room_61 rfl (lv_at hl 4 rfl) ?_
            refine lv_if_lt (tgt := 81) X.1 X.2.1 dX5_room_62 (by decide) (fun c11 => ?_) (fun c11 => ?_)
            · replace hF := fb_pos c11 hF
              refine lv_iload X.1 X.2.1 dX5_room_81 (lv_at hl 5 rfl) ?_
              refine lv_istore_n (lv' := [(3, .int x4), (5, .int 1), (0, .ref (q 0)), (1, .int x1), (2, .int x2), (4, .int x4)]) X.1 X.2.1 dX5_room_83 rfl hl (by decide) rfl (fun ls hl => ?_)
              refine lv_iinc (v := x4 + 1) (lv' := [(4, .int (x4 + 1)), (3, .int x4), (5, .int 1), (0, .ref (q 0)), (1, .int x1), (2, .int x2)]) X.1 X.2.1 dX5_room_84 hl (k := 5) rfl rfl (by decide) rfl (fun ls hl => ?_)
              refine lv_goto (tgt := 18) X.1 X.2.1 dX5_room_87 (by decide) ?_
              exact ih x1 x2 x4 (x4 + 1) _ _ _ ls hF hI (lv_sub hl [3, 4, 5, 1, 0] rfl)
            · replace hF := fb_neg c11 hF
              refine lv_aload_n X.1 X.2.1 dX5_room_65 rfl (lv_at hl 1 rfl) ?_
              refine g_X5_called X hI dX5_room_66 ?_
              refine lv_iload X.1 X.2.1 dX5_room_69 (lv_at hl 5 rfl) ?_
              obtain ⟨h12, hF⟩ := fb_chk hF
              refine aM_3 (v := gA σ 3 x4) X hI rfl h12 dX5_room_71 ?_
              refine lv_aload_n X.1 X.2.1 dX5_room_72 rfl (lv_at hl 1 rfl) ?_
              refine g_X5_called X hI dX5_room_73 ?_
              refine lv_iload_n X.1 X.2.1 dX5_room_76 rfl (lv_at hl 4 rfl) ?_
              obtain ⟨h13, hF⟩ := fb_chk hF
              refine aM_3 (v := gA σ 3 x3) X hI rfl h13 dX5_room_77 ?_
              refine lv_icmp_ge (tgt := 84) X.1 X.2.1 dX5_room_78 (by decide) (fun c14 => ?_) (fun c14 => ?_)
              · replace hF := fb_pos c14 hF
                refine lv_iinc (v := x4 + 1) (lv' := [(4, .int (x4 + 1)), (5, .int 1), (0, .ref (q 0)), (1, .int x1), (2, .int x2), (3, .int x3)]) X.1 X.2.1 dX5_room_84 hl (k := 5) rfl rfl (by decide) rfl (fun ls hl => ?_)
                refine lv_goto (tgt := 18) X.1 X.2.1 dX5_room_87 (by decide) ?_
                exact ih x1 x2 x3 (x4 + 1) _ _ _ ls hF hI (lv_sub hl [2, 3, 4, 5, 0] rfl)
              · replace hF := fb_neg c14 hF
                refine lv_iload X.1 X.2.1 dX5_room_81 (lv_at hl 5 rfl) ?_
                refine lv_istore_n (lv' := [(3, .int x4), (5, .int 1), (0, .ref (q 0)), (1, .int x1), (2, .int x2), (4, .int x4)]) X.1 X.2.1 dX5_room_83 rfl hl (by decide) rfl (fun ls hl => ?_)
                refine lv_iinc (v := x4 + 1) (lv' := [(4, .int (x4 + 1)), (3, .int x4), (5, .int 1), (0, .ref (q 0)), (1, .int x1), (2, .int x2)]) X.1 X.2.1 dX5_room_84 hl (k := 5) rfl rfl (by decide) rfl (fun ls hl => ?_)
                refine lv_goto (tgt := 18) X.1 X.2.1 dX5_room_87 (by decide) ?_
                exact ih x1 x2 x4 (x4 + 1) _ _ _ ls hF hI (lv_sub hl [3, 4, 5, 1, 0] rfl)
def b_X5_room_0 : Nat → Int32 → Int32 → St → Option (Int32 × St)
  | 0, _, _, _ => none
  | n + 1, x1, x2, σ =>
    (f_X5_held σ).bind fun u1 =>
    if (u1 + x1) ≤ (gI σ 2) then
      some (1, σ)
    else
      b_X5_room_18 (fun (y1 y2 y3 : Int32) (σ : St) =>
          if 0 ≤ y3 then
            if inB y3 5 = true then
              b_X5_room_0 n y1 y2 (sI (sA σ 2 y3 (vp_nar .boolean 0)) 6 ((gI σ 6) + 1))
            else none
          else
            some (0, sI σ 1 4))
        7 x1 x2 (-1) 0 σ
set_option maxHeartbeats 4000000 in
set_option maxRecDepth 100000 in
theorem w_b_X5_room_0 {l : Launch} {p : Program} {e : Env} {s : State} {m : MethodId} {args : Array Value} {below : List Frame} {meth : Method} {c : Code} {A : Nat → Prop} {D : va_G} {ty : Nat → ClassId} {q : Nat → Nat} {res : Int32 × St} (X : CallFix p m c cX5_room 6 s args tb RX5) (hlk : meth.locks = false) (hr : meth.sig.returnType = (some .boolean)) : ∀ (n : Nat) (x1 x2 : Int32) (σ : St) (H : Heap) (locs : List Loc) (ls : Array Slot), b_X5_room_0 n x1 x2 σ = some res → Inw D ty FxM (wM ty q σ) A s H locs → lv_has ls 6 [(0, .ref (q 0)), (1, .int x1), (2, .int x2)] → W p l e rm_X5_room s m args below meth c H locs 0 0 (MQ below (Qiw D ty (wM ty q) A res) args s 0 0 A) (F0 m 0 ls []) := by
  intro n
  induction n with
  | zero =>
    intro x1 x2 σ H locs ls hF
    cases hF
  | succ n ih =>
    intro x1 x2 σ H locs ls hF hI hl
    rw [b_X5_room_0] at hF
    refine lv_aload_n X.1 X.2.1 dX5_room_0 rfl (lv_at hl 0 rfl) ?_
    obtain ⟨u1, h2, hF⟩ := fb_bnd hF
    refine cl_i (w := wM ty q) (σ := σ) (rest := []) X fxM hI (m_X5_held l D ty q σ _  h2) ok_X5_held ml_X5_65 ⟨rfl, rfl, Nat.le_of_ble_eq_true rfl, Nat.le_of_ble_eq_true rfl⟩ 0 rc_X5 rfl rfl hl.1 rfl (Nat.le_of_ble_eq_true rfl) ⟨Nat.zero_le _, Nat.zero_le _⟩ dX5_room_1 (fun H locs hI => ?_)
    refine lv_iload_n X.1 X.2.1 dX5_room_4 rfl (lv_at hl 1 rfl) ?_
    refine lv_iadd X.1 X.2.1 dX5_room_5 ?_
    refine lv_aload_n X.1 X.2.1 dX5_room_6 rfl (lv_at hl 0 rfl) ?_
    refine g_X5_limit (v := gI σ 2) X hI rfl dX5_room_7 ?_
    refine lv_icmp_le (tgt := 121) X.1 X.2.1 dX5_room_10 (by decide) (fun c3 => ?_) (fun c3 => ?_)
    · replace hF := fb_pos c3 hF
      refine lv_iconst (v := 1) X.1 X.2.1 dX5_room_121 (by decide) ?_
      exact rt_z X hlk hr hI rfl hF dX5_room_122
    · replace hF := fb_neg c3 hF
      refine lv_iconst (v := (-1)) X.1 X.2.1 dX5_room_13 (by decide) ?_
      refine lv_istore_n (lv' := [(3, .int (-1)), (0, .ref (q 0)), (1, .int x1), (2, .int x2)]) X.1 X.2.1 dX5_room_14 rfl hl (by decide) rfl (fun ls hl => ?_)
      refine lv_iconst (v := 0) X.1 X.2.1 dX5_room_15 (by decide) ?_
      refine lv_istore (lv' := [(4, .int 0), (3, .int (-1)), (0, .ref (q 0)), (1, .int x1), (2, .int x2)]) X.1 X.2.1 dX5_room_16 hl (by decide) rfl (fun ls hl => ?_)
      refine w_b_X5_room_18 X hlk hr (fun y1 y2 y3 σ H locs ls hF hI hl => ?_) 7 x1 x2 (-1) 0 _ _ _ ls hF hI (lv_sub hl [2, 3, 4, 1, 0] rfl)
      refine lv_iload_n X.1 X.2.1 dX5_room_90 rfl (lv_at hl 3 rfl) ?_
      refine lv_if_ge (tgt := 101) X.1 X.2.1 dX5_room_91 (by decide) (fun c15 => ?_) (fun c15 => ?_)
      · replace hF := fb_pos c15 hF
        refine lv_aload_n X.1 X.2.1 dX5_room_101 rfl (lv_at hl 0 rfl) ?_
        refine g_X5_resident X hI dX5_room_102 ?_
        refine lv_iload_n X.1 X.2.1 dX5_room_105 rfl (lv_at hl 3 rfl) ?_
        refine lv_iconst (v := 0) X.1 X.2.1 dX5_room_106 (by decide) ?_
        obtain ⟨h16, hF⟩ := fb_chk hF
        refine sM_2 X hI h16 dX5_room_107 (fun H locs hI => ?_)
        refine lv_aload_n X.1 X.2.1 dX5_room_108 rfl (lv_at hl 0 rfl) ?_
        refine lv_dup X.1 X.2.1 dX5_room_109 rfl ?_
        refine g_X5_gone (v := gI σ 6) X hI rfl dX5_room_110 ?_
        refine lv_iconst (v := 1) X.1 X.2.1 dX5_room_113 (by decide) ?_
        refine lv_iadd X.1 X.2.1 dX5_room_114 ?_
        refine p_X5_gone X hI dX5_room_115 (fun H locs hI => ?_)
        refine lv_goto (tgt := 0) X.1 X.2.1 dX5_room_118 (by decide) ?_
        exact ih y1 y2 _ _ _ ls hF hI (lv_sub hl [0, 1, 2] rfl)
      · replace hF := fb_neg c15 hF
        refine lv_aload_n X.1 X.2.1 dX5_room_94 rfl (lv_at hl 0 rfl) ?_
        refine lv_iconst (v := 4) X.1 X.2.1 dX5_room_95 (by decide) ?_
        refine p_X5_state X hI dX5_room_96 (fun H locs hI => ?_)
        refine lv_iconst (v := 0) X.1 X.2.1 dX5_room_99 (by decide) ?_
        exact rt_z X hlk hr hI rfl hF dX5_room_100
def f_X5_room (x1 x2 : Int32) (σ : St) : Option (Int32 × St) :=
  b_X5_room_0 7 x1 x2 σ
set_option maxHeartbeats 4000000 in
set_option maxRecDepth 100000 in
theorem m_X5_room (l : Launch) (D : va_G) (ty : Nat → ClassId) (q : Nat → Nat) (σ : St) (sz : Nat) (x1 x2 : Int32) {res : Int32 × St} (hF : f_X5_room x1 x2 σ = some res) : Met l yX5_room (wsy yX5_room cX5_room 6 (some .boolean)) rm_X5_room (Pcw D ty FxM (wM ty q σ) sz [.ref (q 0), .int x1, .int x2]) (Qiw D ty (wM ty q) (va_A (wM ty q σ) sz) res) 0 0 (va_A (wM ty q σ) sz) := by
  refine en_w (Qc := fun A => Qiw D ty (wM ty q) A res) (by decide) (Nat.le_of_ble_eq_true rfl) ?_
  intro p e s m args below meth c A X hlk hr _ H locs hI ls hl
  have X : CallFix p m c cX5_room 6 s args tb RX5 := X
  have hl : lv_has ls 6 [(0, .ref (q 0)), (1, .int x1), (2, .int x2)] := hl
  unfold f_X5_room at hF
  exact w_b_X5_room_0 X hlk hr 7 x1 x2 _ _ _ ls hF hI (lv_sub hl [0, 1, 2] rfl)
abbrev rm_X5_grown : Room := { frames := 1, cells := 0, slots := 0, locals := 22 }
def f_X5_grown (σ : St) : Option (Int32 × St) :=
  (f_X5_held σ).bind fun u1 =>
  if u1 ≤ (gI σ 4) then
    some (0, sI σ 4 (gI σ 4))
  else
    some (0, sI σ 4 u1)
set_option maxHeartbeats 4000000 in
set_option maxRecDepth 100000 in
theorem m_X5_grown (l : Launch) (D : va_G) (ty : Nat → ClassId) (q : Nat → Nat) (σ : St) (sz : Nat) {res : Int32 × St} (hF : f_X5_grown  σ = some res) : Met l yX5_grown (wsy yX5_grown cX5_grown 2 none) rm_X5_grown (Pcw D ty FxM (wM ty q σ) sz [.ref (q 0)]) (Qvw D ty (wM ty q) (va_A (wM ty q σ) sz) res) 0 0 (va_A (wM ty q σ) sz) := by
  refine en_w (Qc := fun A => Qvw D ty (wM ty q) A res) (by decide) (Nat.le_of_ble_eq_true rfl) ?_
  intro p e s m args below meth c A X hlk hr _ H locs hI ls hl
  have X : CallFix p m c cX5_grown 2 s args tb RX5 := X
  have hl : lv_has ls 2 [(0, .ref (q 0))] := hl
  unfold f_X5_grown at hF
  refine lv_aload_n X.1 X.2.1 dX5_grown_0 rfl (lv_at hl 0 rfl) ?_
  obtain ⟨u1, h2, hF⟩ := fb_bnd hF
  refine cl_i (w := wM ty q) (σ := σ) (rest := []) X fxM hI (m_X5_held l D ty q σ _  h2) ok_X5_held ml_X5_65 ⟨rfl, rfl, Nat.le_of_ble_eq_true rfl, Nat.le_of_ble_eq_true rfl⟩ 0 rc_X5 rfl rfl hl.1 rfl (Nat.le_of_ble_eq_true rfl) ⟨Nat.zero_le _, Nat.zero_le _⟩ dX5_grown_1 (fun H locs hI => ?_)
  refine lv_istore_n (lv' := [(1, .int u1), (0, .ref (q 0))]) X.1 X.2.1 dX5_grown_4 rfl hl (by decide) rfl (fun ls hl => ?_)
  refine lv_aload_n X.1 X.2.1 dX5_grown_5 rfl (lv_at hl 1 rfl) ?_
  refine lv_iload_n X.1 X.2.1 dX5_grown_6 rfl (lv_at hl 0 rfl) ?_
  refine lv_aload_n X.1 X.2.1 dX5_grown_7 rfl (lv_at hl 1 rfl) ?_
  refine g_X5_most (v := gI σ 4) X hI rfl dX5_grown_8 ?_
  refine lv_icmp_le (tgt := 18) X.1 X.2.1 dX5_grown_11 (by decide) (fun c3 => ?_) (fun c3 => ?_)
  · replace hF := fb_pos c3 hF
    refine lv_aload_n X.1 X.2.1 dX5_grown_18 rfl (lv_at hl 1 rfl) ?_
    refine g_X5_most (v := gI σ 4) X hI rfl dX5_grown_19 ?_
    refine p_X5_most X hI dX5_grown_22 (fun H locs hI => ?_)
    exact rt_v X hlk hr hI hF dX5_grown_25
  · replace hF := fb_neg c3 hF
    refine lv_iload_n X.1 X.2.1 dX5_grown_14 rfl (lv_at hl 0 rfl) ?_
    refine lv_goto (tgt := 22) X.1 X.2.1 dX5_grown_15 (by decide) ?_
    refine p_X5_most X hI dX5_grown_22 (fun H locs hI => ?_)
    exact rt_v X hlk hr hI hF dX5_grown_25
abbrev rm_X5_push : Room := { frames := 2, cells := 0, slots := 0, locals := 48 }
def f_X5_push (x1 : Int32) (σ : St) : Option (Int32 × St) :=
  (f_X5_room 4 (-1) σ).bind fun u1 =>
  if u1.1 = 0 then
    some (0, u1.2)
  else
    if inB (gI u1.2 8) 1010 = true then
      (f_X5_grown (sI (sA u1.2 9 (gI u1.2 8) x1) 8 ((gI u1.2 8) + 1))).bind fun u5 =>
      some (1, u5.2)
    else none
set_option maxHeartbeats 4000000 in
set_option maxRecDepth 100000 in
theorem m_X5_push (l : Launch) (D : va_G) (ty : Nat → ClassId) (q : Nat → Nat) (σ : St) (sz : Nat) (x1 : Int32) {res : Int32 × St} (hF : f_X5_push x1 σ = some res) : Met l yX5_push (wsy yX5_push cX5_push 2 (some .boolean)) rm_X5_push (Pcw D ty FxM (wM ty q σ) sz [.ref (q 0), .int x1]) (Qiw D ty (wM ty q) (va_A (wM ty q σ) sz) res) 0 0 (va_A (wM ty q σ) sz) := by
  refine en_w (Qc := fun A => Qiw D ty (wM ty q) A res) (by decide) (Nat.le_of_ble_eq_true rfl) ?_
  intro p e s m args below meth c A X hlk hr _ H locs hI ls hl
  have X : CallFix p m c cX5_push 2 s args tb RX5 := X
  have hl : lv_has ls 2 [(0, .ref (q 0)), (1, .int x1)] := hl
  unfold f_X5_push at hF
  refine lv_aload_n X.1 X.2.1 dX5_push_0 rfl (lv_at hl 0 rfl) ?_
  refine lv_iconst (v := 4) X.1 X.2.1 dX5_push_1 (by decide) ?_
  refine lv_iconst (v := (-1)) X.1 X.2.1 dX5_push_2 (by decide) ?_
  obtain ⟨u1, h2, hF⟩ := fb_bnd hF
  refine cl_i (w := wM ty q) (σ := σ) (rest := []) X fxM hI (m_X5_room l D ty q σ _ 4 (-1) h2) ok_X5_room ml_X5_81 ⟨rfl, rfl, Nat.le_of_ble_eq_true rfl, Nat.le_of_ble_eq_true rfl⟩ 0 rc_X5 rfl rfl hl.1 rfl (Nat.le_of_ble_eq_true rfl) ⟨Nat.zero_le _, Nat.zero_le _⟩ dX5_push_3 (fun H locs hI => ?_)
  refine lv_if_ne (tgt := 11) X.1 X.2.1 dX5_push_6 (by decide) (fun c3 => ?_) (fun c3 => ?_)
  · replace hF := fb_neg c3 hF
    refine lv_aload_n X.1 X.2.1 dX5_push_11 rfl (lv_at hl 0 rfl) ?_
    refine g_X5_number X hI dX5_push_12 ?_
    refine lv_aload_n X.1 X.2.1 dX5_push_15 rfl (lv_at hl 0 rfl) ?_
    refine g_X5_numbers (v := gI u1.2 8) X hI rfl dX5_push_16 ?_
    refine lv_iload_n X.1 X.2.1 dX5_push_19 rfl (lv_at hl 1 rfl) ?_
    obtain ⟨h4, hF⟩ := fb_chk hF
    refine sM_9 X hI h4 dX5_push_20 (fun H locs hI => ?_)
    refine lv_aload_n X.1 X.2.1 dX5_push_21 rfl (lv_at hl 0 rfl) ?_
    refine lv_dup X.1 X.2.1 dX5_push_22 rfl ?_
    refine g_X5_numbers (v := gI u1.2 8) X hI rfl dX5_push_23 ?_
    refine lv_iconst (v := 1) X.1 X.2.1 dX5_push_26 (by decide) ?_
    refine lv_iadd X.1 X.2.1 dX5_push_27 ?_
    refine p_X5_numbers X hI dX5_push_28 (fun H locs hI => ?_)
    refine lv_aload_n X.1 X.2.1 dX5_push_31 rfl (lv_at hl 0 rfl) ?_
    obtain ⟨u5, h6, hF⟩ := fb_bnd hF
    refine cl_v (w := wM ty q) (σ := sI (sA u1.2 9 (gI u1.2 8) x1) 8 ((gI u1.2 8) + 1)) (rest := []) X fxM hI (m_X5_grown l D ty q (sI (sA u1.2 9 (gI u1.2 8) x1) 8 ((gI u1.2 8) + 1)) _  h6) ok_X5_grown ml_X5_85 ⟨rfl, rfl, Nat.le_of_ble_eq_true rfl, Nat.le_of_ble_eq_true rfl⟩ 0 rc_X5 rfl rfl hl.1 rfl (Nat.le_of_ble_eq_true rfl) ⟨Nat.zero_le _, Nat.zero_le _⟩ dX5_push_32 (fun H locs hI => ?_)
    refine lv_iconst (v := 1) X.1 X.2.1 dX5_push_35 (by decide) ?_
    exact rt_z X hlk hr hI rfl hF dX5_push_36
  · replace hF := fb_pos c3 hF
    refine lv_iconst (v := 0) X.1 X.2.1 dX5_push_9 (by decide) ?_
    exact rt_z X hlk hr hI rfl hF dX5_push_10
abbrev rm_X5_call : Room := { frames := 2, cells := 0, slots := 0, locals := 48 }
def b_X5_call_208 : Nat → Int32 → Int32 → Int32 → St → Option (Int32 × St)
  | 0, _, _, _, _ => none
  | n + 1, x3, x5, x6, σ =>
    if 6 ≤ x6 then
      (f_X5_grown (sI σ 7 ((gI σ 7) + 1))).bind fun u16 =>
      some (0, u16.2)
    else
      if x6 = 0 then
        if x5 ≤ 0 then
          if inB ((6 * (gI σ 7)) + x6) 3120 = true then
            b_X5_call_208 n x3 x5 (x6 + 1) (sA σ 7 ((6 * (gI σ 7)) + x6) 0)
          else none
        else
          if inB ((6 * (gI σ 7)) + x6) 3120 = true then
            b_X5_call_208 n x3 x5 (x6 + 1) (sA σ 7 ((6 * (gI σ 7)) + x6) x3)
          else none
      else
        if inB ((6 * (gI σ 7)) + x6) 3120 = true then
          b_X5_call_208 n x3 x5 (x6 + 1) (sA σ 7 ((6 * (gI σ 7)) + x6) 0)
        else none
set_option maxHeartbeats 4000000 in
set_option maxRecDepth 100000 in
theorem w_b_X5_call_208 {l : Launch} {p : Program} {e : Env} {s : State} {m : MethodId} {args : Array Value} {below : List Frame} {meth : Method} {c : Code} {A : Nat → Prop} {D : va_G} {ty : Nat → ClassId} {q : Nat → Nat} {res : Int32 × St} (X : CallFix p m c cX5_call 7 s args tb RX5) (hlk : meth.locks = false) (hr : meth.sig.returnType = none) : ∀ (n : Nat) (x3 x5 x6 : Int32) (σ : St) (H : Heap) (locs : List Loc) (ls : Array Slot), b_X5_call_208 n x3 x5 x6 σ = some res → Inw D ty FxM (wM ty q σ) A s H locs → lv_has ls 7 [(0, .ref (q 0)), (3, .int x3), (5, .int x5), (6, .int x6)] → W p l e rm_X5_call s m args below meth c H locs 0 0 (MQ below (Qvw D ty (wM ty q) A res) args s 0 0 A) (F0 m 208 ls []) := by
  intro n
  induction n with
  | zero =>
    intro x3 x5 x6 σ H locs ls hF
    cases hF
  | succ n ih =>
    intro x3 x5 x6 σ H locs ls hF hI hl
    rw [b_X5_call_208] at hF
    refine lv_iload X.1 X.2.1 dX5_call_208 (lv_at hl 3 rfl) ?_
    refine lv_bipush (v := 6) X.1 X.2.1 dX5_call_210 (by decide) ?_
    refine lv_icmp_ge (tgt := 251) X.1 X.2.1 dX5_call_212 (by decide) (fun c15 => ?_) (fun c15 => ?_)
    · replace hF := fb_pos c15 hF
      refine lv_aload_n X.1 X.2.1 dX5_call_251 rfl (lv_at hl 0 rfl) ?_
      refine lv_dup X.1 X.2.1 dX5_call_252 rfl ?_
      refine g_X5_frames (v := gI σ 7) X hI rfl dX5_call_253 ?_
      refine lv_iconst (v := 1) X.1 X.2.1 dX5_call_256 (by decide) ?_
      refine lv_iadd X.1 X.2.1 dX5_call_257 ?_
      refine p_X5_frames X hI dX5_call_258 (fun H locs hI => ?_)
      refine lv_aload_n X.1 X.2.1 dX5_call_261 rfl (lv_at hl 0 rfl) ?_
      obtain ⟨u16, h17, hF⟩ := fb_bnd hF
      refine cl_v (w := wM ty q) (σ := sI σ 7 ((gI σ 7) + 1)) (rest := []) X fxM hI (m_X5_grown l D ty q (sI σ 7 ((gI σ 7) + 1)) _  h17) ok_X5_grown ml_X5_85 ⟨rfl, rfl, Nat.le_of_ble_eq_true rfl, Nat.le_of_ble_eq_true rfl⟩ 0 rc_X5 rfl rfl hl.1 rfl (Nat.le_of_ble_eq_true rfl) ⟨Nat.zero_le _, Nat.zero_le _⟩ dX5_call_262 (fun H locs hI => ?_)
      exact rt_v X hlk hr hI hF dX5_call_265
    · replace hF := fb_neg c15 hF
      refine lv_aload_n X.1 X.2.1 dX5_call_215 rfl (lv_at hl 0 rfl) ?_
      refine g_X5_local X hI dX5_call_216 ?_
      refine lv_bipush (v := 6) X.1 X.2.1 dX5_call_219 (by decide) ?_
      refine lv_aload_n X.1 X.2.1 dX5_call_221 rfl (lv_at hl 0 rfl) ?_
      refine g_X5_frames (v := gI σ 7) X hI rfl dX5_call_222 ?_
      refine lv_imul X.1 X.2.1 dX5_call_225 ?_
      refine lv_iload X.1 X.2.1 dX5_call_226 (lv_at hl 3 rfl) ?_
      refine lv_iadd X.1 X.2.1 dX5_call_228 ?_
      refine lv_iload X.1 X.2.1 dX5_call_229 (lv_at hl 3 rfl) ?_
      refine lv_if_ne (tgt := 243) X.1 X.2.1 dX5_call_231 (by decide) (fun c18 => ?_) (fun c18 => ?_)
      · replace hF := fb_neg c18 hF
        refine lv_iconst (v := 0) X.1 X.2.1 dX5_call_243 (by decide) ?_
        obtain ⟨h19, hF⟩ := fb_chk hF
        refine sM_7 X hI h19 dX5_call_244 (fun H locs hI => ?_)
        refine lv_iinc (v := x6 + 1) (lv' := [(6, .int (x6 + 1)), (0, .ref (q 0)), (3, .int x3), (5, .int x5)]) X.1 X.2.1 dX5_call_245 hl (k := 3) rfl rfl (by decide) rfl (fun ls hl => ?_)
        refine lv_goto (tgt := 208) X.1 X.2.1 dX5_call_248 (by decide) ?_
        exact ih x3 x5 (x6 + 1) _ _ _ ls hF hI (lv_sub hl [1, 2, 3, 0] rfl)
      · replace hF := fb_pos c18 hF
        refine lv_iload X.1 X.2.1 dX5_call_234 (lv_at hl 2 rfl) ?_
        refine lv_if_le (tgt := 243) X.1 X.2.1 dX5_call_236 (by decide) (fun c20 => ?_) (fun c20 => ?_)
        · replace hF := fb_pos c20 hF
          refine lv_iconst (v := 0) X.1 X.2.1 dX5_call_243 (by decide) ?_
          obtain ⟨h21, hF⟩ := fb_chk hF
          refine sM_7 X hI h21 dX5_call_244 (fun H locs hI => ?_)
          refine lv_iinc (v := x6 + 1) (lv' := [(6, .int (x6 + 1)), (0, .ref (q 0)), (3, .int x3), (5, .int x5)]) X.1 X.2.1 dX5_call_245 hl (k := 3) rfl rfl (by decide) rfl (fun ls hl => ?_)
          refine lv_goto (tgt := 208) X.1 X.2.1 dX5_call_248 (by decide) ?_
          exact ih x3 x5 (x6 + 1) _ _ _ ls hF hI (lv_sub hl [1, 2, 3, 0] rfl)
        · replace hF := fb_neg c20 hF
          refine lv_iload_n X.1 X.2.1 dX5_call_239 rfl (lv_at hl 1 rfl) ?_
          refine lv_goto (tgt := 244) X.1 X.2.1 dX5_call_240 (by decide) ?_
          obtain ⟨h22, hF⟩ := fb_chk hF
          refine sM_7 X hI h22 dX5_call_244 (fun H locs hI => ?_)
          refine lv_iinc (v := x6 + 1) (lv' := [(6, .int (x6 + 1)), (0, .ref (q 0)), (3, .int x3), (5, .int x5)]) X.1 X.2.1 dX5_call_245 hl (k := 3) rfl rfl (by decide) rfl (fun ls hl => ?_)
          refine lv_goto (tgt := 208) X.1 X.2.1 dX5_call_248 (by decide) ?_
          exact ih x3 x5 (x6 + 1) _ _ _ ls hF hI (lv_sub hl [1, 2, 3, 0] rfl)
def b_X5_call_132 (x1 x3 x4 x5 : Int32) (σ : St) : Option (Int32 × St) :=
  if inB x1 5 = true then
    (f_X5_room (8 + (4 * x5)) x1 (sA σ 3 x1 (gI σ 3))).bind fun u8 =>
    if u8.1 = 0 then
      some (0, u8.2)
    else
      if inB (gI u8.2 7) 520 = true then
        if inB (gI u8.2 7) 520 = true then
          if inB (gI u8.2 7) 520 = true then
            if inB (gI u8.2 7) 520 = true then
              b_X5_call_208 7 x3 x5 0 (sA (sA (sA (sA u8.2 4 (gI u8.2 7) x1) 5 (gI u8.2 7) (x4 + 1)) 6 (gI u8.2 7) x5) 8 (gI u8.2 7) (gI u8.2 8))
            else none
          else none
        else none
      else none
  else none
set_option maxHeartbeats 4000000 in
set_option maxRecDepth 100000 in
theorem w_b_X5_call_132 {l : Launch} {p : Program} {e : Env} {s : State} {m : MethodId} {args : Array Value} {below : List Frame} {meth : Method} {c : Code} {A : Nat → Prop} {D : va_G} {ty : Nat → ClassId} {q : Nat → Nat} {res : Int32 × St} (X : CallFix p m c cX5_call 7 s args tb RX5) (hlk : meth.locks = false) (hr : meth.sig.returnType = none) {σ : St} {H : Heap} {locs : List Loc} (hI : Inw D ty FxM (wM ty q σ) A s H locs) (x1 x3 x4 x5 : Int32) (hF : b_X5_call_132 x1 x3 x4 x5 σ = some res) (ls : Array Slot) (hl : lv_has ls 7 [(0, .ref (q 0)), (1, .int x1), (3, .int x3), (4, .int x4), (5, .int x5)]) : W p l e rm_X5_call s m args below meth c H locs 0 0 (MQ below (Qvw D ty (wM ty q) A res) args s 0 0 A) (F0 m 132 ls []) := by
  unfold b_X5_call_132 at hF
  refine lv_aload_n X.1 X.2.1 dX5_call_132 rfl (lv_at hl 0 rfl) ?_
  refine g_X5_called X hI dX5_call_133 ?_
  refine lv_iload_n X.1 X.2.1 dX5_call_136 rfl (lv_at hl 1 rfl) ?_
  refine lv_aload_n X.1 X.2.1 dX5_call_137 rfl (lv_at hl 0 rfl) ?_
  refine g_X5_time (v := gI σ 3) X hI rfl dX5_call_138 ?_
  obtain ⟨h7, hF⟩ := fb_chk hF
  refine sM_3 X hI h7 dX5_call_141 (fun H locs hI => ?_)
  refine lv_aload_n X.1 X.2.1 dX5_call_142 rfl (lv_at hl 0 rfl) ?_
  refine lv_bipush (v := 8) X.1 X.2.1 dX5_call_143 (by decide) ?_
  refine lv_iconst (v := 4) X.1 X.2.1 dX5_call_145 (by decide) ?_
  refine lv_iload X.1 X.2.1 dX5_call_146 (lv_at hl 4 rfl) ?_
  refine lv_imul X.1 X.2.1 dX5_call_148 ?_
  refine lv_iadd X.1 X.2.1 dX5_call_149 ?_
  refine lv_iload_n X.1 X.2.1 dX5_call_150 rfl (lv_at hl 1 rfl) ?_
  obtain ⟨u8, h9, hF⟩ := fb_bnd hF
  refine cl_i (w := wM ty q) (σ := sA σ 3 x1 (gI σ 3)) (rest := []) X fxM hI (m_X5_room l D ty q (sA σ 3 x1 (gI σ 3)) _ (8 + (4 * x5)) x1 h9) ok_X5_room ml_X5_81 ⟨rfl, rfl, Nat.le_of_ble_eq_true rfl, Nat.le_of_ble_eq_true rfl⟩ 0 rc_X5 rfl rfl hl.1 rfl (Nat.le_of_ble_eq_true rfl) ⟨Nat.zero_le _, Nat.zero_le _⟩ dX5_call_151 (fun H locs hI => ?_)
  refine lv_if_ne (tgt := 158) X.1 X.2.1 dX5_call_154 (by decide) (fun c10 => ?_) (fun c10 => ?_)
  · replace hF := fb_neg c10 hF
    refine lv_aload_n X.1 X.2.1 dX5_call_158 rfl (lv_at hl 0 rfl) ?_
    refine g_X5_segment X hI dX5_call_159 ?_
    refine lv_aload_n X.1 X.2.1 dX5_call_162 rfl (lv_at hl 0 rfl) ?_
    refine g_X5_frames (v := gI u8.2 7) X hI rfl dX5_call_163 ?_
    refine lv_iload_n X.1 X.2.1 dX5_call_166 rfl (lv_at hl 1 rfl) ?_
    obtain ⟨h11, hF⟩ := fb_chk hF
    refine sM_4 X hI h11 dX5_call_167 (fun H locs hI => ?_)
    refine lv_aload_n X.1 X.2.1 dX5_call_168 rfl (lv_at hl 0 rfl) ?_
    refine g_X5_place X hI dX5_call_169 ?_
    refine lv_aload_n X.1 X.2.1 dX5_call_172 rfl (lv_at hl 0 rfl) ?_
    refine g_X5_frames (v := gI u8.2 7) X hI rfl dX5_call_173 ?_
    refine lv_iload X.1 X.2.1 dX5_call_176 (lv_at hl 3 rfl) ?_
    refine lv_iconst (v := 1) X.1 X.2.1 dX5_call_178 (by decide) ?_
    refine lv_iadd X.1 X.2.1 dX5_call_179 ?_
    obtain ⟨h12, hF⟩ := fb_chk hF
    refine sM_5 X hI h12 dX5_call_180 (fun H locs hI => ?_)
    refine lv_aload_n X.1 X.2.1 dX5_call_181 rfl (lv_at hl 0 rfl) ?_
    refine g_X5_locals X hI dX5_call_182 ?_
    refine lv_aload_n X.1 X.2.1 dX5_call_185 rfl (lv_at hl 0 rfl) ?_
    refine g_X5_frames (v := gI u8.2 7) X hI rfl dX5_call_186 ?_
    refine lv_iload X.1 X.2.1 dX5_call_189 (lv_at hl 4 rfl) ?_
    obtain ⟨h13, hF⟩ := fb_chk hF
    refine sM_6 X hI h13 dX5_call_191 (fun H locs hI => ?_)
    refine lv_aload_n X.1 X.2.1 dX5_call_192 rfl (lv_at hl 0 rfl) ?_
    refine g_X5_below X hI dX5_call_193 ?_
    refine lv_aload_n X.1 X.2.1 dX5_call_196 rfl (lv_at hl 0 rfl) ?_
    refine g_X5_frames (v := gI u8.2 7) X hI rfl dX5_call_197 ?_
    refine lv_aload_n X.1 X.2.1 dX5_call_200 rfl (lv_at hl 0 rfl) ?_
    refine g_X5_numbers (v := gI u8.2 8) X hI rfl dX5_call_201 ?_
    obtain ⟨h14, hF⟩ := fb_chk hF
    refine sM_8 X hI h14 dX5_call_204 (fun H locs hI => ?_)
    refine lv_iconst (v := 0) X.1 X.2.1 dX5_call_205 (by decide) ?_
    refine lv_istore (lv' := [(6, .int 0), (0, .ref (q 0)), (1, .int x1), (3, .int x3), (4, .int x4), (5, .int x5)]) X.1 X.2.1 dX5_call_206 hl (by decide) rfl (fun ls hl => ?_)
    exact w_b_X5_call_208 X hlk hr 7 x3 x5 0 _ _ _ ls hF hI (lv_sub hl [1, 3, 5, 0] rfl)
  · replace hF := fb_pos c10 hF
    exact rt_v X hlk hr hI hF dX5_call_157
def b_X5_call_57 (x1 x3 x4 z0 : Int32) (σ : St) : Option (Int32 × St) :=
  if z0 < 0 then
    some (0, sI σ 1 3)
  else
    if z0 ≤ 6 then
      if inB x1 5 = true then
        if (gA σ 2 x1) = 0 then
          if inB x1 5 = true then
            (f_X5_room (gA σ 1 x1) x1 (sI σ 3 ((gI σ 3) + 1))).bind fun u24 =>
            if u24.1 = 0 then
              some (0, u24.2)
            else
              if inB x1 5 = true then
                (f_X5_grown (sI (sA u24.2 2 x1 (vp_nar .boolean 1)) 5 ((gI u24.2 5) + 1))).bind fun u28 =>
                if inB x1 5 = true then
                  (f_X5_room (8 + (4 * z0)) x1 (sA u28.2 3 x1 (gI u28.2 3))).bind fun u31 =>
                  if u31.1 = 0 then
                    some (0, u31.2)
                  else
                    if inB (gI u31.2 7) 520 = true then
                      if inB (gI u31.2 7) 520 = true then
                        if inB (gI u31.2 7) 520 = true then
                          if inB (gI u31.2 7) 520 = true then
                            b_X5_call_208 7 x3 z0 0 (sA (sA (sA (sA u31.2 4 (gI u31.2 7) x1) 5 (gI u31.2 7) (x4 + 1)) 6 (gI u31.2 7) z0) 8 (gI u31.2 7) (gI u31.2 8))
                          else none
                        else none
                      else none
                    else none
                else none
              else none
          else none
        else
          b_X5_call_132 x1 x3 x4 z0 (sI σ 3 ((gI σ 3) + 1))
      else none
    else
      some (0, sI σ 1 3)
set_option maxHeartbeats 4000000 in
set_option maxRecDepth 100000 in
theorem w_b_X5_call_57 {l : Launch} {p : Program} {e : Env} {s : State} {m : MethodId} {args : Array Value} {below : List Frame} {meth : Method} {c : Code} {A : Nat → Prop} {D : va_G} {ty : Nat → ClassId} {q : Nat → Nat} {res : Int32 × St} (X : CallFix p m c cX5_call 7 s args tb RX5) (hlk : meth.locks = false) (hr : meth.sig.returnType = none) {σ : St} {H : Heap} {locs : List Loc} (hI : Inw D ty FxM (wM ty q σ) A s H locs) (x1 x3 x4 z0 : Int32) (hF : b_X5_call_57 x1 x3 x4 z0 σ = some res) (ls : Array Slot) (hl : lv_has ls 7 [(0, .ref (q 0)), (1, .int x1), (3, .int x3), (4, .int x4)]) : W p l e rm_X5_call s m args below meth c H locs 0 0 (MQ below (Qvw D ty (wM ty q) A res) args s 0 0 A) (F0 m 57 ls [.int z0]) := by
  unfold b_X5_call_57 at hF
  refine lv_istore (lv' := [(5, .int z0), (0, .ref (q 0)), (1, .int x1), (3, .int x3), (4, .int x4)]) X.1 X.2.1 dX5_call_57 hl (by decide) rfl (fun ls hl => ?_)
  refine lv_iload X.1 X.2.1 dX5_call_59 (lv_at hl 0 rfl) ?_
  refine lv_if_lt (tgt := 71) X.1 X.2.1 dX5_call_61 (by decide) (fun c3 => ?_) (fun c3 => ?_)
  · replace hF := fb_pos c3 hF
    refine lv_aload_n X.1 X.2.1 dX5_call_71 rfl (lv_at hl 1 rfl) ?_
    refine lv_iconst (v := 3) X.1 X.2.1 dX5_call_72 (by decide) ?_
    refine p_X5_state X hI dX5_call_73 (fun H locs hI => ?_)
    exact rt_v X hlk hr hI hF dX5_call_76
  · replace hF := fb_neg c3 hF
    refine lv_iload X.1 X.2.1 dX5_call_64 (lv_at hl 0 rfl) ?_
    refine lv_bipush (v := 6) X.1 X.2.1 dX5_call_66 (by decide) ?_
    refine lv_icmp_le (tgt := 77) X.1 X.2.1 dX5_call_68 (by decide) (fun c4 => ?_) (fun c4 => ?_)
    · replace hF := fb_pos c4 hF
      refine lv_aload_n X.1 X.2.1 dX5_call_77 rfl (lv_at hl 1 rfl) ?_
      refine lv_dup X.1 X.2.1 dX5_call_78 rfl ?_
      refine g_X5_time (v := gI σ 3) X hI rfl dX5_call_79 ?_
      refine lv_iconst (v := 1) X.1 X.2.1 dX5_call_82 (by decide) ?_
      refine lv_iadd X.1 X.2.1 dX5_call_83 ?_
      refine p_X5_time X hI dX5_call_84 (fun H locs hI => ?_)
      refine lv_aload_n X.1 X.2.1 dX5_call_87 rfl (lv_at hl 1 rfl) ?_
      refine g_X5_resident X hI dX5_call_88 ?_
      refine lv_iload_n X.1 X.2.1 dX5_call_91 rfl (lv_at hl 2 rfl) ?_
      obtain ⟨h5, hF⟩ := fb_chk hF
      refine aM_2 (v := gA σ 2 x1) X hI rfl h5 dX5_call_92 ?_
      refine lv_if_ne (tgt := 132) X.1 X.2.1 dX5_call_93 (by decide) (fun c6 => ?_) (fun c6 => ?_)
      · replace hF := fb_neg c6 hF
        exact w_b_X5_call_132 X hlk hr hI x1 x3 x4 z0 hF ls (lv_sub hl [1, 2, 3, 4, 0] rfl)
      · replace hF := fb_pos c6 hF
        refine lv_aload_n X.1 X.2.1 dX5_call_96 rfl (lv_at hl 1 rfl) ?_
        refine lv_aload_n X.1 X.2.1 dX5_call_97 rfl (lv_at hl 1 rfl) ?_
        refine g_X5_length X hI dX5_call_98 ?_
        refine lv_iload_n X.1 X.2.1 dX5_call_101 rfl (lv_at hl 2 rfl) ?_
        obtain ⟨h23, hF⟩ := fb_chk hF
        refine aM_1 (v := gA σ 1 x1) X hI rfl h23 dX5_call_102 ?_
        refine lv_iload_n X.1 X.2.1 dX5_call_103 rfl (lv_at hl 2 rfl) ?_
        obtain ⟨u24, h25, hF⟩ := fb_bnd hF
        refine cl_i (w := wM ty q) (σ := sI σ 3 ((gI σ 3) + 1)) (rest := []) X fxM hI (m_X5_room l D ty q (sI σ 3 ((gI σ 3) + 1)) _ (gA σ 1 x1) x1 h25) ok_X5_room ml_X5_81 ⟨rfl, rfl, Nat.le_of_ble_eq_true rfl, Nat.le_of_ble_eq_true rfl⟩ 0 rc_X5 rfl rfl hl.1 rfl (Nat.le_of_ble_eq_true rfl) ⟨Nat.zero_le _, Nat.zero_le _⟩ dX5_call_104 (fun H locs hI => ?_)
        refine lv_if_ne (tgt := 111) X.1 X.2.1 dX5_call_107 (by decide) (fun c26 => ?_) (fun c26 => ?_)
        · replace hF := fb_neg c26 hF
          refine lv_aload_n X.1 X.2.1 dX5_call_111 rfl (lv_at hl 1 rfl) ?_
          refine g_X5_resident X hI dX5_call_112 ?_
          refine lv_iload_n X.1 X.2.1 dX5_call_115 rfl (lv_at hl 2 rfl) ?_
          refine lv_iconst (v := 1) X.1 X.2.1 dX5_call_116 (by decide) ?_
          obtain ⟨h27, hF⟩ := fb_chk hF
          refine sM_2 X hI h27 dX5_call_117 (fun H locs hI => ?_)
          refine lv_aload_n X.1 X.2.1 dX5_call_118 rfl (lv_at hl 1 rfl) ?_
          refine lv_dup X.1 X.2.1 dX5_call_119 rfl ?_
          refine g_X5_loads (v := gI u24.2 5) X hI rfl dX5_call_120 ?_
          refine lv_iconst (v := 1) X.1 X.2.1 dX5_call_123 (by decide) ?_
          refine lv_iadd X.1 X.2.1 dX5_call_124 ?_
          refine p_X5_loads X hI dX5_call_125 (fun H locs hI => ?_)
          refine lv_aload_n X.1 X.2.1 dX5_call_128 rfl (lv_at hl 1 rfl) ?_
          obtain ⟨u28, h29, hF⟩ := fb_bnd hF
          refine cl_v (w := wM ty q) (σ := sI (sA u24.2 2 x1 (vp_nar .boolean 1)) 5 ((gI u24.2 5) + 1)) (rest := []) X fxM hI (m_X5_grown l D ty q (sI (sA u24.2 2 x1 (vp_nar .boolean 1)) 5 ((gI u24.2 5) + 1)) _  h29) ok_X5_grown ml_X5_85 ⟨rfl, rfl, Nat.le_of_ble_eq_true rfl, Nat.le_of_ble_eq_true rfl⟩ 0 rc_X5 rfl rfl hl.1 rfl (Nat.le_of_ble_eq_true rfl) ⟨Nat.zero_le _, Nat.zero_le _⟩ dX5_call_129 (fun H locs hI => ?_)
          refine lv_aload_n X.1 X.2.1 dX5_call_132 rfl (lv_at hl 1 rfl) ?_
          refine g_X5_called X hI dX5_call_133 ?_
          refine lv_iload_n X.1 X.2.1 dX5_call_136 rfl (lv_at hl 2 rfl) ?_
          refine lv_aload_n X.1 X.2.1 dX5_call_137 rfl (lv_at hl 1 rfl) ?_
          refine g_X5_time (v := gI u28.2 3) X hI rfl dX5_call_138 ?_
          obtain ⟨h30, hF⟩ := fb_chk hF
          refine sM_3 X hI h30 dX5_call_141 (fun H locs hI => ?_)
          refine lv_aload_n X.1 X.2.1 dX5_call_142 rfl (lv_at hl 1 rfl) ?_
          refine lv_bipush (v := 8) X.1 X.2.1 dX5_call_143 (by decide) ?_
          refine lv_iconst (v := 4) X.1 X.2.1 dX5_call_145 (by decide) ?_
          refine lv_iload X.1 X.2.1 dX5_call_146 (lv_at hl 0 rfl) ?_
          refine lv_imul X.1 X.2.1 dX5_call_148 ?_
          refine lv_iadd X.1 X.2.1 dX5_call_149 ?_
          refine lv_iload_n X.1 X.2.1 dX5_call_150 rfl (lv_at hl 2 rfl) ?_
          obtain ⟨u31, h32, hF⟩ := fb_bnd hF
          refine cl_i (w := wM ty q) (σ := sA u28.2 3 x1 (gI u28.2 3)) (rest := []) X fxM hI (m_X5_room l D ty q (sA u28.2 3 x1 (gI u28.2 3)) _ (8 + (4 * z0)) x1 h32) ok_X5_room ml_X5_81 ⟨rfl, rfl, Nat.le_of_ble_eq_true rfl, Nat.le_of_ble_eq_true rfl⟩ 0 rc_X5 rfl rfl hl.1 rfl (Nat.le_of_ble_eq_true rfl) ⟨Nat.zero_le _, Nat.zero_le _⟩ dX5_call_151 (fun H locs hI => ?_)
          refine lv_if_ne (tgt := 158) X.1 X.2.1 dX5_call_154 (by decide) (fun c33 => ?_) (fun c33 => ?_)
          · replace hF := fb_neg c33 hF
            refine lv_aload_n X.1 X.2.1 dX5_call_158 rfl (lv_at hl 1 rfl) ?_
            refine g_X5_segment X hI dX5_call_159 ?_
            refine lv_aload_n X.1 X.2.1 dX5_call_162 rfl (lv_at hl 1 rfl) ?_
            refine g_X5_frames (v := gI u31.2 7) X hI rfl dX5_call_163 ?_
            refine lv_iload_n X.1 X.2.1 dX5_call_166 rfl (lv_at hl 2 rfl) ?_
            obtain ⟨h34, hF⟩ := fb_chk hF
            refine sM_4 X hI h34 dX5_call_167 (fun H locs hI => ?_)
            refine lv_aload_n X.1 X.2.1 dX5_call_168 rfl (lv_at hl 1 rfl) ?_
            refine g_X5_place X hI dX5_call_169 ?_
            refine lv_aload_n X.1 X.2.1 dX5_call_172 rfl (lv_at hl 1 rfl) ?_
            refine g_X5_frames (v := gI u31.2 7) X hI rfl dX5_call_173 ?_
            refine lv_iload X.1 X.2.1 dX5_call_176 (lv_at hl 4 rfl) ?_
            refine lv_iconst (v := 1) X.1 X.2.1 dX5_call_178 (by decide) ?_
            refine lv_iadd X.1 X.2.1 dX5_call_179 ?_
            obtain ⟨h35, hF⟩ := fb_chk hF
            refine sM_5 X hI h35 dX5_call_180 (fun H locs hI => ?_)
            refine lv_aload_n X.1 X.2.1 dX5_call_181 rfl (lv_at hl 1 rfl) ?_
            refine g_X5_locals X hI dX5_call_182 ?_
            refine lv_aload_n X.1 X.2.1 dX5_call_185 rfl (lv_at hl 1 rfl) ?_
            refine g_X5_frames (v := gI u31.2 7) X hI rfl dX5_call_186 ?_
            refine lv_iload X.1 X.2.1 dX5_call_189 (lv_at hl 0 rfl) ?_
            obtain ⟨h36, hF⟩ := fb_chk hF
            refine sM_6 X hI h36 dX5_call_191 (fun H locs hI => ?_)
            refine lv_aload_n X.1 X.2.1 dX5_call_192 rfl (lv_at hl 1 rfl) ?_
            refine g_X5_below X hI dX5_call_193 ?_
            refine lv_aload_n X.1 X.2.1 dX5_call_196 rfl (lv_at hl 1 rfl) ?_
            refine g_X5_frames (v := gI u31.2 7) X hI rfl dX5_call_197 ?_
            refine lv_aload_n X.1 X.2.1 dX5_call_200 rfl (lv_at hl 1 rfl) ?_
            refine g_X5_numbers (v := gI u31.2 8) X hI rfl dX5_call_201 ?_
            obtain ⟨h37, hF⟩ := fb_chk hF
            refine sM_8 X hI h37 dX5_call_204 (fun H locs hI => ?_)
            refine lv_iconst (v := 0) X.1 X.2.1 dX5_call_205 (by decide) ?_
            refine lv_istore (lv' := [(6, .int 0), (5, .int z0), (0, .ref (q 0)), (1, .int x1), (3, .int x3), (4, .int x4)]) X.1 X.2.1 dX5_call_206 hl (by decide) rfl (fun ls hl => ?_)
            exact w_b_X5_call_208 X hlk hr 7 x3 z0 0 _ _ _ ls hF hI (lv_sub hl [2, 4, 1, 0] rfl)
          · replace hF := fb_pos c33 hF
            exact rt_v X hlk hr hI hF dX5_call_157
        · replace hF := fb_pos c26 hF
          exact rt_v X hlk hr hI hF dX5_call_110
    · replace hF := fb_neg c4 hF
      refine lv_aload_n X.1 X.2.1 dX5_call_71 rfl (lv_at hl 1 rfl) ?_
      refine lv_iconst (v := 3) X.1 X.2.1 dX5_call_72 (by decide) ?_
      refine p_X5_state X hI dX5_call_73 (fun H locs hI => ?_)
      exact rt_v X hlk hr hI hF dX5_call_76
def b_X5_call_34 (x1 x3 z0 : Int32) (σ : St) : Option (Int32 × St) :=
  if z0 ≤ 0 then
    b_X5_call_57 x1 x3 z0 (-1) σ
  else
    if inB ((80 * x1) + z0) 400 = true then
      b_X5_call_57 x1 x3 z0 (gA σ 0 ((80 * x1) + z0)) σ
    else none
set_option maxHeartbeats 4000000 in
set_option maxRecDepth 100000 in
theorem w_b_X5_call_34 {l : Launch} {p : Program} {e : Env} {s : State} {m : MethodId} {args : Array Value} {below : List Frame} {meth : Method} {c : Code} {A : Nat → Prop} {D : va_G} {ty : Nat → ClassId} {q : Nat → Nat} {res : Int32 × St} (X : CallFix p m c cX5_call 7 s args tb RX5) (hlk : meth.locks = false) (hr : meth.sig.returnType = none) {σ : St} {H : Heap} {locs : List Loc} (hI : Inw D ty FxM (wM ty q σ) A s H locs) (x1 x3 z0 : Int32) (hF : b_X5_call_34 x1 x3 z0 σ = some res) (ls : Array Slot) (hl : lv_has ls 7 [(0, .ref (q 0)), (1, .int x1), (3, .int x3)]) : W p l e rm_X5_call s m args below meth c H locs 0 0 (MQ below (Qvw D ty (wM ty q) A res) args s 0 0 A) (F0 m 34 ls [.int z0]) := by
  unfold b_X5_call_34 at hF
  refine lv_istore (lv' := [(4, .int z0), (0, .ref (q 0)), (1, .int x1), (3, .int x3)]) X.1 X.2.1 dX5_call_34 hl (by decide) rfl (fun ls hl => ?_)
  refine lv_iload X.1 X.2.1 dX5_call_36 (lv_at hl 0 rfl) ?_
  refine lv_if_le (tgt := 56) X.1 X.2.1 dX5_call_38 (by decide) (fun c2 => ?_) (fun c2 => ?_)
  · replace hF := fb_pos c2 hF
    refine lv_iconst (v := (-1)) X.1 X.2.1 dX5_call_56 (by decide) ?_
    exact w_b_X5_call_57 X hlk hr hI x1 x3 z0 (-1) hF ls (lv_sub hl [1, 2, 3, 0] rfl)
  · replace hF := fb_neg c2 hF
    refine lv_aload_n X.1 X.2.1 dX5_call_41 rfl (lv_at hl 1 rfl) ?_
    refine g_X5_disk X hI dX5_call_42 ?_
    refine lv_bipush (v := 80) X.1 X.2.1 dX5_call_45 (by decide) ?_
    refine lv_iload_n X.1 X.2.1 dX5_call_47 rfl (lv_at hl 2 rfl) ?_
    refine lv_imul X.1 X.2.1 dX5_call_48 ?_
    refine lv_iload X.1 X.2.1 dX5_call_49 (lv_at hl 0 rfl) ?_
    refine lv_iadd X.1 X.2.1 dX5_call_51 ?_
    obtain ⟨h38, hF⟩ := fb_chk hF
    refine aM_0 (v := gA σ 0 ((80 * x1) + z0)) X hI rfl h38 dX5_call_52 ?_
    refine lv_goto (tgt := 57) X.1 X.2.1 dX5_call_53 (by decide) ?_
    exact w_b_X5_call_57 X hlk hr hI x1 x3 z0 (gA σ 0 ((80 * x1) + z0)) hF ls (lv_sub hl [1, 2, 3, 0] rfl)
def b_X5_call_33 (x1 x3 : Int32) (σ : St) : Option (Int32 × St) :=
  b_X5_call_34 x1 x3 0 σ
set_option maxHeartbeats 4000000 in
set_option maxRecDepth 100000 in
theorem w_b_X5_call_33 {l : Launch} {p : Program} {e : Env} {s : State} {m : MethodId} {args : Array Value} {below : List Frame} {meth : Method} {c : Code} {A : Nat → Prop} {D : va_G} {ty : Nat → ClassId} {q : Nat → Nat} {res : Int32 × St} (X : CallFix p m c cX5_call 7 s args tb RX5) (hlk : meth.locks = false) (hr : meth.sig.returnType = none) {σ : St} {H : Heap} {locs : List Loc} (hI : Inw D ty FxM (wM ty q σ) A s H locs) (x1 x3 : Int32) (hF : b_X5_call_33 x1 x3 σ = some res) (ls : Array Slot) (hl : lv_has ls 7 [(0, .ref (q 0)), (1, .int x1), (3, .int x3)]) : W p l e rm_X5_call s m args below meth c H locs 0 0 (MQ below (Qvw D ty (wM ty q) A res) args s 0 0 A) (F0 m 33 ls []) := by
  unfold b_X5_call_33 at hF
  refine lv_iconst (v := 0) X.1 X.2.1 dX5_call_33 (by decide) ?_
  exact w_b_X5_call_34 X hlk hr hI x1 x3 0 hF ls (lv_sub hl [0, 1, 2] rfl)
def f_X5_call (x1 x2 x3 : Int32) (σ : St) : Option (Int32 × St) :=
  if x2 < 0 then
    b_X5_call_33 x1 x3 σ
  else
    (f_X5_procedures x1 σ).bind fun u39 =>
    if u39 ≤ x2 then
      b_X5_call_33 x1 x3 σ
    else
      if inB (((80 * x1) + 1) + x2) 400 = true then
        b_X5_call_34 x1 x3 ((gA σ 0 (((80 * x1) + 1) + x2)) &&& 255) σ
      else none
set_option maxHeartbeats 4000000 in
set_option maxRecDepth 100000 in
theorem m_X5_call (l : Launch) (D : va_G) (ty : Nat → ClassId) (q : Nat → Nat) (σ : St) (sz : Nat) (x1 x2 x3 : Int32) {res : Int32 × St} (hF : f_X5_call x1 x2 x3 σ = some res) : Met l yX5_call (wsy yX5_call cX5_call 7 none) rm_X5_call (Pcw D ty FxM (wM ty q σ) sz [.ref (q 0), .int x1, .int x2, .int x3]) (Qvw D ty (wM ty q) (va_A (wM ty q σ) sz) res) 0 0 (va_A (wM ty q σ) sz) := by
  refine en_w (Qc := fun A => Qvw D ty (wM ty q) A res) (by decide) (Nat.le_of_ble_eq_true rfl) ?_
  intro p e s m args below meth c A X hlk hr _ H locs hI ls hl
  have X : CallFix p m c cX5_call 7 s args tb RX5 := X
  have hl : lv_has ls 7 [(0, .ref (q 0)), (1, .int x1), (2, .int x2), (3, .int x3)] := hl
  unfold f_X5_call at hF
  refine lv_iload_n X.1 X.2.1 dX5_call_0 rfl (lv_at hl 2 rfl) ?_
  refine lv_if_lt (tgt := 33) X.1 X.2.1 dX5_call_1 (by decide) (fun c1 => ?_) (fun c1 => ?_)
  · replace hF := fb_pos c1 hF
    exact w_b_X5_call_33 X hlk hr hI x1 x3 hF ls (lv_sub hl [0, 1, 3] rfl)
  · replace hF := fb_neg c1 hF
    refine lv_iload_n X.1 X.2.1 dX5_call_4 rfl (lv_at hl 2 rfl) ?_
    refine lv_aload_n X.1 X.2.1 dX5_call_5 rfl (lv_at hl 0 rfl) ?_
    refine lv_iload_n X.1 X.2.1 dX5_call_6 rfl (lv_at hl 1 rfl) ?_
    obtain ⟨u39, h40, hF⟩ := fb_bnd hF
    refine cl_i (w := wM ty q) (σ := σ) (rest := [.int x2]) X fxM hI (m_X5_procedures l D ty q σ _ x1 h40) ok_X5_procedures ml_X5_55 ⟨rfl, rfl, Nat.le_of_ble_eq_true rfl, Nat.le_of_ble_eq_true rfl⟩ 0 rc_X5 rfl rfl hl.1 rfl (Nat.le_of_ble_eq_true rfl) ⟨Nat.zero_le _, Nat.zero_le _⟩ dX5_call_7 (fun H locs hI => ?_)
    refine lv_icmp_ge (tgt := 33) X.1 X.2.1 dX5_call_10 (by decide) (fun c41 => ?_) (fun c41 => ?_)
    · replace hF := fb_pos c41 hF
      exact w_b_X5_call_33 X hlk hr hI x1 x3 hF ls (lv_sub hl [0, 1, 3] rfl)
    · replace hF := fb_neg c41 hF
      refine lv_aload_n X.1 X.2.1 dX5_call_13 rfl (lv_at hl 0 rfl) ?_
      refine g_X5_disk X hI dX5_call_14 ?_
      refine lv_bipush (v := 80) X.1 X.2.1 dX5_call_17 (by decide) ?_
      refine lv_iload_n X.1 X.2.1 dX5_call_19 rfl (lv_at hl 1 rfl) ?_
      refine lv_imul X.1 X.2.1 dX5_call_20 ?_
      refine lv_iconst (v := 1) X.1 X.2.1 dX5_call_21 (by decide) ?_
      refine lv_iadd X.1 X.2.1 dX5_call_22 ?_
      refine lv_iload_n X.1 X.2.1 dX5_call_23 rfl (lv_at hl 2 rfl) ?_
      refine lv_iadd X.1 X.2.1 dX5_call_24 ?_
      obtain ⟨h42, hF⟩ := fb_chk hF
      refine aM_0 (v := gA σ 0 (((80 * x1) + 1) + x2)) X hI rfl h42 dX5_call_25 ?_
      refine lv_sipush (v := 255) X.1 X.2.1 dX5_call_26 (by decide) ?_
      refine lv_iand X.1 X.2.1 dX5_call_29 ?_
      refine lv_goto (tgt := 34) X.1 X.2.1 dX5_call_30 (by decide) ?_
      exact w_b_X5_call_34 X hlk hr hI x1 x3 ((gA σ 0 (((80 * x1) + 1) + x2)) &&& 255) hF ls (lv_sub hl [0, 1, 3] rfl)
abbrev rm_X5_start : Room := { frames := 3, cells := 0, slots := 0, locals := 74 }
def b_X5_start_100 : Nat → Int32 → Int32 → Int32 → St → Option (Int32 × St)
  | 0, _, _, _, _ => none
  | n + 1, x1, x2, x4, σ =>
    if 5 ≤ x4 then
      (f_X5_call x1 0 x2 σ).bind fun u6 =>
      some (0, u6.2)
    else
      if inB x4 5 = true then
        if inB x4 5 = true then
          b_X5_start_100 n x1 x2 (x4 + 1) (sA (sA σ 2 x4 (vp_nar .boolean 0)) 3 x4 0)
        else none
      else none
set_option maxHeartbeats 4000000 in
set_option maxRecDepth 100000 in
theorem w_b_X5_start_100 {l : Launch} {p : Program} {e : Env} {s : State} {m : MethodId} {args : Array Value} {below : List Frame} {meth : Method} {c : Code} {A : Nat → Prop} {D : va_G} {ty : Nat → ClassId} {q : Nat → Nat} {res : Int32 × St} (X : CallFix p m c cX5_start 5 s args tb RX5) (hlk : meth.locks = false) (hr : meth.sig.returnType = none) : ∀ (n : Nat) (x1 x2 x4 : Int32) (σ : St) (H : Heap) (locs : List Loc) (ls : Array Slot), b_X5_start_100 n x1 x2 x4 σ = some res → Inw D ty FxM (wM ty q σ) A s H locs → lv_has ls 5 [(0, .ref (q 0)), (1, .int x1), (2, .int x2), (4, .int x4)] → W p l e rm_X5_start s m args below meth c H locs 0 0 (MQ below (Qvw D ty (wM ty q) A res) args s 0 0 A) (F0 m 100 ls []) := by
  intro n
  induction n with
  | zero =>
    intro x1 x2 x4 σ H locs ls hF
    cases hF
  | succ n ih =>
    intro x1 x2 x4 σ H locs ls hF hI hl
    rw [b_X5_start_100] at hF
    refine lv_iload X.1 X.2.1 dX5_start_100 (lv_at hl 3 rfl) ?_
    refine lv_iconst (v := 5) X.1 X.2.1 dX5_start_102 (by decide) ?_
    refine lv_icmp_ge (tgt := 128) X.1 X.2.1 dX5_start_103 (by decide) (fun c5 => ?_) (fun c5 => ?_)
    · replace hF := fb_pos c5 hF
      refine lv_aload_n X.1 X.2.1 dX5_start_128 rfl (lv_at hl 0 rfl) ?_
      refine lv_iload_n X.1 X.2.1 dX5_start_129 rfl (lv_at hl 1 rfl) ?_
      refine lv_iconst (v := 0) X.1 X.2.1 dX5_start_130 (by decide) ?_
      refine lv_iload_n X.1 X.2.1 dX5_start_131 rfl (lv_at hl 2 rfl) ?_
      obtain ⟨u6, h7, hF⟩ := fb_bnd hF
      refine cl_v (w := wM ty q) (σ := σ) (rest := []) X fxM hI (m_X5_call l D ty q σ _ x1 0 x2 h7) ok_X5_call ml_X5_100 ⟨rfl, rfl, Nat.le_of_ble_eq_true rfl, Nat.le_of_ble_eq_true rfl⟩ 0 rc_X5 rfl rfl hl.1 rfl (Nat.le_of_ble_eq_true rfl) ⟨Nat.zero_le _, Nat.zero_le _⟩ dX5_start_132 (fun H locs hI => ?_)
      exact rt_v X hlk hr hI hF dX5_start_135
    · replace hF := fb_neg c5 hF
      refine lv_aload_n X.1 X.2.1 dX5_start_106 rfl (lv_at hl 0 rfl) ?_
      refine g_X5_resident X hI dX5_start_107 ?_
      refine lv_iload X.1 X.2.1 dX5_start_110 (lv_at hl 3 rfl) ?_
      refine lv_iconst (v := 0) X.1 X.2.1 dX5_start_112 (by decide) ?_
      obtain ⟨h8, hF⟩ := fb_chk hF
      refine sM_2 X hI h8 dX5_start_113 (fun H locs hI => ?_)
      refine lv_aload_n X.1 X.2.1 dX5_start_114 rfl (lv_at hl 0 rfl) ?_
      refine g_X5_called X hI dX5_start_115 ?_
      refine lv_iload X.1 X.2.1 dX5_start_118 (lv_at hl 3 rfl) ?_
      refine lv_iconst (v := 0) X.1 X.2.1 dX5_start_120 (by decide) ?_
      obtain ⟨h9, hF⟩ := fb_chk hF
      refine sM_3 X hI h9 dX5_start_121 (fun H locs hI => ?_)
      refine lv_iinc (v := x4 + 1) (lv' := [(4, .int (x4 + 1)), (0, .ref (q 0)), (1, .int x1), (2, .int x2)]) X.1 X.2.1 dX5_start_122 hl (k := 3) rfl rfl (by decide) rfl (fun ls hl => ?_)
      refine lv_goto (tgt := 100) X.1 X.2.1 dX5_start_125 (by decide) ?_
      exact ih x1 x2 (x4 + 1) _ _ _ ls hF hI (lv_sub hl [1, 2, 3, 0] rfl)
def b_X5_start_36 (x1 x2 x3 z0 : Int32) (σ : St) : Option (Int32 × St) :=
  if z0 ≤ 0 then
    b_X5_start_100 6 x1 x2 0 (sI (sI (sI (sI (sI (sI (sI (sI (sI (sI (sI σ 0 z0) 1 1) 2 x3) 3 0) 4 0) 5 0) 6 0) 7 0) 8 0) 9 0) 10 0)
  else
    some (0, sI σ 0 z0)
set_option maxHeartbeats 4000000 in
set_option maxRecDepth 100000 in
theorem w_b_X5_start_36 {l : Launch} {p : Program} {e : Env} {s : State} {m : MethodId} {args : Array Value} {below : List Frame} {meth : Method} {c : Code} {A : Nat → Prop} {D : va_G} {ty : Nat → ClassId} {q : Nat → Nat} {res : Int32 × St} (X : CallFix p m c cX5_start 5 s args tb RX5) (hlk : meth.locks = false) (hr : meth.sig.returnType = none) {σ : St} {H : Heap} {locs : List Loc} (hI : Inw D ty FxM (wM ty q σ) A s H locs) (x1 x2 x3 z0 : Int32) (hF : b_X5_start_36 x1 x2 x3 z0 σ = some res) (ls : Array Slot) (hl : lv_has ls 5 [(0, .ref (q 0)), (1, .int x1), (2, .int x2), (3, .int x3)]) : W p l e rm_X5_start s m args below meth c H locs 0 0 (MQ below (Qvw D ty (wM ty q) A res) args s 0 0 A) (F0 m 36 ls [.int z0, .ref (q 0)]) := by
  unfold b_X5_start_36 at hF
  refine p_X5_code X hI dX5_start_36 (fun H locs hI => ?_)
  refine lv_aload_n X.1 X.2.1 dX5_start_39 rfl (lv_at hl 0 rfl) ?_
  refine g_X5_code (v := z0) X hI rfl dX5_start_40 ?_
  refine lv_if_le (tgt := 47) X.1 X.2.1 dX5_start_43 (by decide) (fun c4 => ?_) (fun c4 => ?_)
  · replace hF := fb_pos c4 hF
    refine lv_aload_n X.1 X.2.1 dX5_start_47 rfl (lv_at hl 0 rfl) ?_
    refine lv_iconst (v := 1) X.1 X.2.1 dX5_start_48 (by decide) ?_
    refine p_X5_state X hI dX5_start_49 (fun H locs hI => ?_)
    refine lv_aload_n X.1 X.2.1 dX5_start_52 rfl (lv_at hl 0 rfl) ?_
    refine lv_iload_n X.1 X.2.1 dX5_start_53 rfl (lv_at hl 3 rfl) ?_
    refine p_X5_limit X hI dX5_start_54 (fun H locs hI => ?_)
    refine lv_aload_n X.1 X.2.1 dX5_start_57 rfl (lv_at hl 0 rfl) ?_
    refine lv_iconst (v := 0) X.1 X.2.1 dX5_start_58 (by decide) ?_
    refine p_X5_time X hI dX5_start_59 (fun H locs hI => ?_)
    refine lv_aload_n X.1 X.2.1 dX5_start_62 rfl (lv_at hl 0 rfl) ?_
    refine lv_iconst (v := 0) X.1 X.2.1 dX5_start_63 (by decide) ?_
    refine p_X5_most X hI dX5_start_64 (fun H locs hI => ?_)
    refine lv_aload_n X.1 X.2.1 dX5_start_67 rfl (lv_at hl 0 rfl) ?_
    refine lv_iconst (v := 0) X.1 X.2.1 dX5_start_68 (by decide) ?_
    refine p_X5_loads X hI dX5_start_69 (fun H locs hI => ?_)
    refine lv_aload_n X.1 X.2.1 dX5_start_72 rfl (lv_at hl 0 rfl) ?_
    refine lv_iconst (v := 0) X.1 X.2.1 dX5_start_73 (by decide) ?_
    refine p_X5_gone X hI dX5_start_74 (fun H locs hI => ?_)
    refine lv_aload_n X.1 X.2.1 dX5_start_77 rfl (lv_at hl 0 rfl) ?_
    refine lv_iconst (v := 0) X.1 X.2.1 dX5_start_78 (by decide) ?_
    refine p_X5_frames X hI dX5_start_79 (fun H locs hI => ?_)
    refine lv_aload_n X.1 X.2.1 dX5_start_82 rfl (lv_at hl 0 rfl) ?_
    refine lv_iconst (v := 0) X.1 X.2.1 dX5_start_83 (by decide) ?_
    refine p_X5_numbers X hI dX5_start_84 (fun H locs hI => ?_)
    refine lv_aload_n X.1 X.2.1 dX5_start_87 rfl (lv_at hl 0 rfl) ?_
    refine lv_iconst (v := 0) X.1 X.2.1 dX5_start_88 (by decide) ?_
    refine p_X5_result X hI dX5_start_89 (fun H locs hI => ?_)
    refine lv_aload_n X.1 X.2.1 dX5_start_92 rfl (lv_at hl 0 rfl) ?_
    refine lv_iconst (v := 0) X.1 X.2.1 dX5_start_93 (by decide) ?_
    refine p_X5_puts X hI dX5_start_94 (fun H locs hI => ?_)
    refine lv_iconst (v := 0) X.1 X.2.1 dX5_start_97 (by decide) ?_
    refine lv_istore (lv' := [(4, .int 0), (0, .ref (q 0)), (1, .int x1), (2, .int x2), (3, .int x3)]) X.1 X.2.1 dX5_start_98 hl (by decide) rfl (fun ls hl => ?_)
    exact w_b_X5_start_100 X hlk hr 6 x1 x2 0 _ _ _ ls hF hI (lv_sub hl [1, 2, 3, 0] rfl)
  · replace hF := fb_neg c4 hF
    exact rt_v X hlk hr hI hF dX5_start_46
def b_X5_start_19 (x1 x2 x3 : Int32) (σ : St) : Option (Int32 × St) :=
  b_X5_start_36 x1 x2 x3 1 σ
set_option maxHeartbeats 4000000 in
set_option maxRecDepth 100000 in
theorem w_b_X5_start_19 {l : Launch} {p : Program} {e : Env} {s : State} {m : MethodId} {args : Array Value} {below : List Frame} {meth : Method} {c : Code} {A : Nat → Prop} {D : va_G} {ty : Nat → ClassId} {q : Nat → Nat} {res : Int32 × St} (X : CallFix p m c cX5_start 5 s args tb RX5) (hlk : meth.locks = false) (hr : meth.sig.returnType = none) {σ : St} {H : Heap} {locs : List Loc} (hI : Inw D ty FxM (wM ty q σ) A s H locs) (x1 x2 x3 : Int32) (hF : b_X5_start_19 x1 x2 x3 σ = some res) (ls : Array Slot) (hl : lv_has ls 5 [(0, .ref (q 0)), (1, .int x1), (2, .int x2), (3, .int x3)]) : W p l e rm_X5_start s m args below meth c H locs 0 0 (MQ below (Qvw D ty (wM ty q) A res) args s 0 0 A) (F0 m 19 ls [.ref (q 0)]) := by
  unfold b_X5_start_19 at hF
  refine lv_iconst (v := 1) X.1 X.2.1 dX5_start_19 (by decide) ?_
  refine lv_goto (tgt := 36) X.1 X.2.1 dX5_start_20 (by decide) ?_
  exact w_b_X5_start_36 X hlk hr hI x1 x2 x3 1 hF ls (lv_sub hl [0, 1, 2, 3] rfl)
def f_X5_start (x1 x2 x3 : Int32) (σ : St) : Option (Int32 × St) :=
  (f_X5_isSegment x1 σ).bind fun u1 =>
  if u1 = 0 then
    b_X5_start_19 x1 x2 x3 σ
  else
    if x3 < 0 then
      b_X5_start_19 x1 x2 x3 σ
    else
      if x3 ≤ 4000 then
        (f_X5_procedures x1 σ).bind fun u12 =>
        if u12 = 0 then
          b_X5_start_36 x1 x2 x3 2 σ
        else
          b_X5_start_36 x1 x2 x3 0 σ
      else
        b_X5_start_19 x1 x2 x3 σ
set_option maxHeartbeats 4000000 in
set_option maxRecDepth 100000 in
theorem m_X5_start (l : Launch) (D : va_G) (ty : Nat → ClassId) (q : Nat → Nat) (σ : St) (sz : Nat) (x1 x2 x3 : Int32) {res : Int32 × St} (hF : f_X5_start x1 x2 x3 σ = some res) : Met l yX5_start (wsy yX5_start cX5_start 5 none) rm_X5_start (Pcw D ty FxM (wM ty q σ) sz [.ref (q 0), .int x1, .int x2, .int x3]) (Qvw D ty (wM ty q) (va_A (wM ty q σ) sz) res) 0 0 (va_A (wM ty q σ) sz) := by
  refine en_w (Qc := fun A => Qvw D ty (wM ty q) A res) (by decide) (Nat.le_of_ble_eq_true rfl) ?_
  intro p e s m args below meth c A X hlk hr _ H locs hI ls hl
  have X : CallFix p m c cX5_start 5 s args tb RX5 := X
  have hl : lv_has ls 5 [(0, .ref (q 0)), (1, .int x1), (2, .int x2), (3, .int x3)] := hl
  unfold f_X5_start at hF
  refine lv_aload_n X.1 X.2.1 dX5_start_0 rfl (lv_at hl 0 rfl) ?_
  refine lv_iload_n X.1 X.2.1 dX5_start_1 rfl (lv_at hl 1 rfl) ?_
  obtain ⟨u1, h2, hF⟩ := fb_bnd hF
  refine cs_i (w := wM ty q) (σ := σ) (rest := [.ref (q 0)]) X fxM hI (m_X5_isSegment l D ty q σ _ x1 h2) ok_X5_isSegment ml_X5_48 ⟨rfl, rfl, Nat.le_of_ble_eq_true rfl, Nat.le_of_ble_eq_true rfl⟩ rfl hl.1 rfl (Nat.le_of_ble_eq_true rfl) ⟨Nat.zero_le _, Nat.zero_le _⟩ dX5_start_2 (fun H locs hI => ?_)
  refine lv_if_eq (tgt := 19) X.1 X.2.1 dX5_start_5 (by decide) (fun c3 => ?_) (fun c3 => ?_)
  · replace hF := fb_pos c3 hF
    exact w_b_X5_start_19 X hlk hr hI x1 x2 x3 hF ls (lv_sub hl [0, 1, 2, 3] rfl)
  · replace hF := fb_neg c3 hF
    refine lv_iload_n X.1 X.2.1 dX5_start_8 rfl (lv_at hl 3 rfl) ?_
    refine lv_if_lt (tgt := 19) X.1 X.2.1 dX5_start_9 (by decide) (fun c10 => ?_) (fun c10 => ?_)
    · replace hF := fb_pos c10 hF
      exact w_b_X5_start_19 X hlk hr hI x1 x2 x3 hF ls (lv_sub hl [0, 1, 2, 3] rfl)
    · replace hF := fb_neg c10 hF
      refine lv_iload_n X.1 X.2.1 dX5_start_12 rfl (lv_at hl 3 rfl) ?_
      refine lv_sipush (v := 4000) X.1 X.2.1 dX5_start_13 (by decide) ?_
      refine lv_icmp_le (tgt := 23) X.1 X.2.1 dX5_start_16 (by decide) (fun c11 => ?_) (fun c11 => ?_)
      · replace hF := fb_pos c11 hF
        refine lv_aload_n X.1 X.2.1 dX5_start_23 rfl (lv_at hl 0 rfl) ?_
        refine lv_iload_n X.1 X.2.1 dX5_start_24 rfl (lv_at hl 1 rfl) ?_
        obtain ⟨u12, h13, hF⟩ := fb_bnd hF
        refine cl_i (w := wM ty q) (σ := σ) (rest := [.ref (q 0)]) X fxM hI (m_X5_procedures l D ty q σ _ x1 h13) ok_X5_procedures ml_X5_55 ⟨rfl, rfl, Nat.le_of_ble_eq_true rfl, Nat.le_of_ble_eq_true rfl⟩ 0 rc_X5 rfl rfl hl.1 rfl (Nat.le_of_ble_eq_true rfl) ⟨Nat.zero_le _, Nat.zero_le _⟩ dX5_start_25 (fun H locs hI => ?_)
        refine lv_if_ne (tgt := 35) X.1 X.2.1 dX5_start_28 (by decide) (fun c14 => ?_) (fun c14 => ?_)
        · replace hF := fb_neg c14 hF
          refine lv_iconst (v := 0) X.1 X.2.1 dX5_start_35 (by decide) ?_
          exact w_b_X5_start_36 X hlk hr hI x1 x2 x3 0 hF ls (lv_sub hl [0, 1, 2, 3] rfl)
        · replace hF := fb_pos c14 hF
          refine lv_iconst (v := 2) X.1 X.2.1 dX5_start_31 (by decide) ?_
          refine lv_goto (tgt := 36) X.1 X.2.1 dX5_start_32 (by decide) ?_
          exact w_b_X5_start_36 X hlk hr hI x1 x2 x3 2 hF ls (lv_sub hl [0, 1, 2, 3] rfl)
      · replace hF := fb_neg c11 hF
        exact w_b_X5_start_19 X hlk hr hI x1 x2 x3 hF ls (lv_sub hl [0, 1, 2, 3] rfl)
abbrev rm_X5_size : Room := { frames := 0, cells := 0, slots := 0, locals := 0 }
def f_X5_size (x0 : Int32) (σ : St) : Option Int32 :=
  if x0 = 10 then
    some 3
  else
    if x0 ≤ 0 then
      if x0 = 8 then
        some 2
      else
        if x0 = 9 then
          some 2
        else
          some 1
    else
      if x0 < 4 then
        some 2
      else
        if x0 = 8 then
          some 2
        else
          if x0 = 9 then
            some 2
          else
            some 1
set_option maxHeartbeats 4000000 in
set_option maxRecDepth 100000 in
theorem m_X5_size (l : Launch) (D : va_G) (ty : Nat → ClassId) (q : Nat → Nat) (σ : St) (sz : Nat) (x0 : Int32) {rr : Int32} (hF : f_X5_size x0 σ = some rr) : Met l yX5_size (wsy yX5_size cX5_size 1 (some .int)) rm_X5_size (Pcw D ty FxM (wM ty q σ) sz [.int x0]) (Qiw D ty (wM ty q) (va_A (wM ty q σ) sz) (rr, σ)) 0 0 (va_A (wM ty q σ) sz) := by
  refine en_w (Qc := fun A => Qiw D ty (wM ty q) A (rr, σ)) (by decide) (Nat.le_of_ble_eq_true rfl) ?_
  intro p e s m args below meth c A X hlk hr _ H locs hI ls hl
  have X : CallFix p m c cX5_size 1 s args tb RX5 := X
  have hl : lv_has ls 1 [(0, .int x0)] := hl
  unfold f_X5_size at hF
  refine lv_iload_n X.1 X.2.1 dX5_size_0 rfl (lv_at hl 0 rfl) ?_
  refine lv_bipush (v := 10) X.1 X.2.1 dX5_size_1 (by decide) ?_
  refine lv_icmp_ne (tgt := 10) X.1 X.2.1 dX5_size_3 (by decide) (fun c1 => ?_) (fun c1 => ?_)
  · replace hF := fb_neg c1 hF
    refine lv_iload_n X.1 X.2.1 dX5_size_10 rfl (lv_at hl 0 rfl) ?_
    refine lv_if_le (tgt := 19) X.1 X.2.1 dX5_size_11 (by decide) (fun c2 => ?_) (fun c2 => ?_)
    · replace hF := fb_pos c2 hF
      refine lv_iload_n X.1 X.2.1 dX5_size_19 rfl (lv_at hl 0 rfl) ?_
      refine lv_bipush (v := 8) X.1 X.2.1 dX5_size_20 (by decide) ?_
      refine lv_icmp_eq (tgt := 31) X.1 X.2.1 dX5_size_22 (by decide) (fun c3 => ?_) (fun c3 => ?_)
      · replace hF := fb_pos c3 hF
        refine lv_iconst (v := 2) X.1 X.2.1 dX5_size_31 (by decide) ?_
        refine lv_goto (tgt := 36) X.1 X.2.1 dX5_size_32 (by decide) ?_
        exact rt_i X hlk hr hI (fb_pr hF) dX5_size_36
      · replace hF := fb_neg c3 hF
        refine lv_iload_n X.1 X.2.1 dX5_size_25 rfl (lv_at hl 0 rfl) ?_
        refine lv_bipush (v := 9) X.1 X.2.1 dX5_size_26 (by decide) ?_
        refine lv_icmp_ne (tgt := 35) X.1 X.2.1 dX5_size_28 (by decide) (fun c4 => ?_) (fun c4 => ?_)
        · replace hF := fb_neg c4 hF
          refine lv_iconst (v := 1) X.1 X.2.1 dX5_size_35 (by decide) ?_
          exact rt_i X hlk hr hI (fb_pr hF) dX5_size_36
        · replace hF := fb_pos c4 hF
          refine lv_iconst (v := 2) X.1 X.2.1 dX5_size_31 (by decide) ?_
          refine lv_goto (tgt := 36) X.1 X.2.1 dX5_size_32 (by decide) ?_
          exact rt_i X hlk hr hI (fb_pr hF) dX5_size_36
    · replace hF := fb_neg c2 hF
      refine lv_iload_n X.1 X.2.1 dX5_size_14 rfl (lv_at hl 0 rfl) ?_
      refine lv_iconst (v := 4) X.1 X.2.1 dX5_size_15 (by decide) ?_
      refine lv_icmp_lt (tgt := 31) X.1 X.2.1 dX5_size_16 (by decide) (fun c5 => ?_) (fun c5 => ?_)
      · replace hF := fb_pos c5 hF
        refine lv_iconst (v := 2) X.1 X.2.1 dX5_size_31 (by decide) ?_
        refine lv_goto (tgt := 36) X.1 X.2.1 dX5_size_32 (by decide) ?_
        exact rt_i X hlk hr hI (fb_pr hF) dX5_size_36
      · replace hF := fb_neg c5 hF
        refine lv_iload_n X.1 X.2.1 dX5_size_19 rfl (lv_at hl 0 rfl) ?_
        refine lv_bipush (v := 8) X.1 X.2.1 dX5_size_20 (by decide) ?_
        refine lv_icmp_eq (tgt := 31) X.1 X.2.1 dX5_size_22 (by decide) (fun c6 => ?_) (fun c6 => ?_)
        · replace hF := fb_pos c6 hF
          refine lv_iconst (v := 2) X.1 X.2.1 dX5_size_31 (by decide) ?_
          refine lv_goto (tgt := 36) X.1 X.2.1 dX5_size_32 (by decide) ?_
          exact rt_i X hlk hr hI (fb_pr hF) dX5_size_36
        · replace hF := fb_neg c6 hF
          refine lv_iload_n X.1 X.2.1 dX5_size_25 rfl (lv_at hl 0 rfl) ?_
          refine lv_bipush (v := 9) X.1 X.2.1 dX5_size_26 (by decide) ?_
          refine lv_icmp_ne (tgt := 35) X.1 X.2.1 dX5_size_28 (by decide) (fun c7 => ?_) (fun c7 => ?_)
          · replace hF := fb_neg c7 hF
            refine lv_iconst (v := 1) X.1 X.2.1 dX5_size_35 (by decide) ?_
            exact rt_i X hlk hr hI (fb_pr hF) dX5_size_36
          · replace hF := fb_pos c7 hF
            refine lv_iconst (v := 2) X.1 X.2.1 dX5_size_31 (by decide) ?_
            refine lv_goto (tgt := 36) X.1 X.2.1 dX5_size_32 (by decide) ?_
            exact rt_i X hlk hr hI (fb_pr hF) dX5_size_36
  · replace hF := fb_pos c1 hF
    refine lv_iconst (v := 3) X.1 X.2.1 dX5_size_6 (by decide) ?_
    refine lv_goto (tgt := 36) X.1 X.2.1 dX5_size_7 (by decide) ?_
    exact rt_i X hlk hr hI (fb_pr hF) dX5_size_36
abbrev rm_X5_takes : Room := { frames := 0, cells := 0, slots := 0, locals := 0 }
def f_X5_takes (x0 : Int32) (σ : St) : Option Int32 :=
  if x0 ≤ 3 then
    if x0 = 3 then
      some 1
    else
      if x0 = 8 then
        some 1
      else
        if x0 ≤ 9 then
          some 0
        else
          some 1
  else
    if 8 ≤ x0 then
      if x0 = 3 then
        some 1
      else
        if x0 = 8 then
          some 1
        else
          if x0 ≤ 9 then
            some 0
          else
            some 1
    else
      some 2
set_option maxHeartbeats 4000000 in
set_option maxRecDepth 100000 in
theorem m_X5_takes (l : Launch) (D : va_G) (ty : Nat → ClassId) (q : Nat → Nat) (σ : St) (sz : Nat) (x0 : Int32) {rr : Int32} (hF : f_X5_takes x0 σ = some rr) : Met l yX5_takes (wsy yX5_takes cX5_takes 1 (some .int)) rm_X5_takes (Pcw D ty FxM (wM ty q σ) sz [.int x0]) (Qiw D ty (wM ty q) (va_A (wM ty q σ) sz) (rr, σ)) 0 0 (va_A (wM ty q σ) sz) := by
  refine en_w (Qc := fun A => Qiw D ty (wM ty q) A (rr, σ)) (by decide) (Nat.le_of_ble_eq_true rfl) ?_
  intro p e s m args below meth c A X hlk hr _ H locs hI ls hl
  have X : CallFix p m c cX5_takes 1 s args tb RX5 := X
  have hl : lv_has ls 1 [(0, .int x0)] := hl
  unfold f_X5_takes at hF
  refine lv_iload_n X.1 X.2.1 dX5_takes_0 rfl (lv_at hl 0 rfl) ?_
  refine lv_iconst (v := 3) X.1 X.2.1 dX5_takes_1 (by decide) ?_
  refine lv_icmp_le (tgt := 15) X.1 X.2.1 dX5_takes_2 (by decide) (fun c1 => ?_) (fun c1 => ?_)
  · replace hF := fb_pos c1 hF
    refine lv_iload_n X.1 X.2.1 dX5_takes_15 rfl (lv_at hl 0 rfl) ?_
    refine lv_iconst (v := 3) X.1 X.2.1 dX5_takes_16 (by decide) ?_
    refine lv_icmp_eq (tgt := 32) X.1 X.2.1 dX5_takes_17 (by decide) (fun c2 => ?_) (fun c2 => ?_)
    · replace hF := fb_pos c2 hF
      refine lv_iconst (v := 1) X.1 X.2.1 dX5_takes_32 (by decide) ?_
      refine lv_goto (tgt := 37) X.1 X.2.1 dX5_takes_33 (by decide) ?_
      exact rt_i X hlk hr hI (fb_pr hF) dX5_takes_37
    · replace hF := fb_neg c2 hF
      refine lv_iload_n X.1 X.2.1 dX5_takes_20 rfl (lv_at hl 0 rfl) ?_
      refine lv_bipush (v := 8) X.1 X.2.1 dX5_takes_21 (by decide) ?_
      refine lv_icmp_eq (tgt := 32) X.1 X.2.1 dX5_takes_23 (by decide) (fun c3 => ?_) (fun c3 => ?_)
      · replace hF := fb_pos c3 hF
        refine lv_iconst (v := 1) X.1 X.2.1 dX5_takes_32 (by decide) ?_
        refine lv_goto (tgt := 37) X.1 X.2.1 dX5_takes_33 (by decide) ?_
        exact rt_i X hlk hr hI (fb_pr hF) dX5_takes_37
      · replace hF := fb_neg c3 hF
        refine lv_iload_n X.1 X.2.1 dX5_takes_26 rfl (lv_at hl 0 rfl) ?_
        refine lv_bipush (v := 9) X.1 X.2.1 dX5_takes_27 (by decide) ?_
        refine lv_icmp_le (tgt := 36) X.1 X.2.1 dX5_takes_29 (by decide) (fun c4 => ?_) (fun c4 => ?_)
        · replace hF := fb_pos c4 hF
          refine lv_iconst (v := 0) X.1 X.2.1 dX5_takes_36 (by decide) ?_
          exact rt_i X hlk hr hI (fb_pr hF) dX5_takes_37
        · replace hF := fb_neg c4 hF
          refine lv_iconst (v := 1) X.1 X.2.1 dX5_takes_32 (by decide) ?_
          refine lv_goto (tgt := 37) X.1 X.2.1 dX5_takes_33 (by decide) ?_
          exact rt_i X hlk hr hI (fb_pr hF) dX5_takes_37
  · replace hF := fb_neg c1 hF
    refine lv_iload_n X.1 X.2.1 dX5_takes_5 rfl (lv_at hl 0 rfl) ?_
    refine lv_bipush (v := 8) X.1 X.2.1 dX5_takes_6 (by decide) ?_
    refine lv_icmp_ge (tgt := 15) X.1 X.2.1 dX5_takes_8 (by decide) (fun c5 => ?_) (fun c5 => ?_)
    · replace hF := fb_pos c5 hF
      refine lv_iload_n X.1 X.2.1 dX5_takes_15 rfl (lv_at hl 0 rfl) ?_
      refine lv_iconst (v := 3) X.1 X.2.1 dX5_takes_16 (by decide) ?_
      refine lv_icmp_eq (tgt := 32) X.1 X.2.1 dX5_takes_17 (by decide) (fun c6 => ?_) (fun c6 => ?_)
      · replace hF := fb_pos c6 hF
        refine lv_iconst (v := 1) X.1 X.2.1 dX5_takes_32 (by decide) ?_
        refine lv_goto (tgt := 37) X.1 X.2.1 dX5_takes_33 (by decide) ?_
        exact rt_i X hlk hr hI (fb_pr hF) dX5_takes_37
      · replace hF := fb_neg c6 hF
        refine lv_iload_n X.1 X.2.1 dX5_takes_20 rfl (lv_at hl 0 rfl) ?_
        refine lv_bipush (v := 8) X.1 X.2.1 dX5_takes_21 (by decide) ?_
        refine lv_icmp_eq (tgt := 32) X.1 X.2.1 dX5_takes_23 (by decide) (fun c7 => ?_) (fun c7 => ?_)
        · replace hF := fb_pos c7 hF
          refine lv_iconst (v := 1) X.1 X.2.1 dX5_takes_32 (by decide) ?_
          refine lv_goto (tgt := 37) X.1 X.2.1 dX5_takes_33 (by decide) ?_
          exact rt_i X hlk hr hI (fb_pr hF) dX5_takes_37
        · replace hF := fb_neg c7 hF
          refine lv_iload_n X.1 X.2.1 dX5_takes_26 rfl (lv_at hl 0 rfl) ?_
          refine lv_bipush (v := 9) X.1 X.2.1 dX5_takes_27 (by decide) ?_
          refine lv_icmp_le (tgt := 36) X.1 X.2.1 dX5_takes_29 (by decide) (fun c8 => ?_) (fun c8 => ?_)
          · replace hF := fb_pos c8 hF
            refine lv_iconst (v := 0) X.1 X.2.1 dX5_takes_36 (by decide) ?_
            exact rt_i X hlk hr hI (fb_pr hF) dX5_takes_37
          · replace hF := fb_neg c8 hF
            refine lv_iconst (v := 1) X.1 X.2.1 dX5_takes_32 (by decide) ?_
            refine lv_goto (tgt := 37) X.1 X.2.1 dX5_takes_33 (by decide) ?_
            exact rt_i X hlk hr hI (fb_pr hF) dX5_takes_37
    · replace hF := fb_neg c5 hF
      refine lv_iconst (v := 2) X.1 X.2.1 dX5_takes_11 (by decide) ?_
      refine lv_goto (tgt := 37) X.1 X.2.1 dX5_takes_12 (by decide) ?_
      exact rt_i X hlk hr hI (fb_pr hF) dX5_takes_37
abbrev rm_X5_pop : Room := { frames := 0, cells := 0, slots := 0, locals := 0 }
def f_X5_pop (σ : St) : Option (Int32 × St) :=
  if inB ((gI σ 8) - 1) 1010 = true then
    some (gA σ 9 ((gI σ 8) - 1), sI σ 8 ((gI σ 8) - 1))
  else none
set_option maxHeartbeats 4000000 in
set_option maxRecDepth 100000 in
theorem m_X5_pop (l : Launch) (D : va_G) (ty : Nat → ClassId) (q : Nat → Nat) (σ : St) (sz : Nat) {res : Int32 × St} (hF : f_X5_pop  σ = some res) : Met l yX5_pop (wsy yX5_pop cX5_pop 1 (some .int)) rm_X5_pop (Pcw D ty FxM (wM ty q σ) sz [.ref (q 0)]) (Qiw D ty (wM ty q) (va_A (wM ty q σ) sz) res) 0 0 (va_A (wM ty q σ) sz) := by
  refine en_w (Qc := fun A => Qiw D ty (wM ty q) A res) (by decide) (Nat.le_of_ble_eq_true rfl) ?_
  intro p e s m args below meth c A X hlk hr _ H locs hI ls hl
  have X : CallFix p m c cX5_pop 1 s args tb RX5 := X
  have hl : lv_has ls 1 [(0, .ref (q 0))] := hl
  unfold f_X5_pop at hF
  refine lv_aload_n X.1 X.2.1 dX5_pop_0 rfl (lv_at hl 0 rfl) ?_
  refine lv_dup X.1 X.2.1 dX5_pop_1 rfl ?_
  refine g_X5_numbers (v := gI σ 8) X hI rfl dX5_pop_2 ?_
  refine lv_iconst (v := 1) X.1 X.2.1 dX5_pop_5 (by decide) ?_
  refine lv_isub X.1 X.2.1 dX5_pop_6 ?_
  refine p_X5_numbers X hI dX5_pop_7 (fun H locs hI => ?_)
  refine lv_aload_n X.1 X.2.1 dX5_pop_10 rfl (lv_at hl 0 rfl) ?_
  refine g_X5_number X hI dX5_pop_11 ?_
  refine lv_aload_n X.1 X.2.1 dX5_pop_14 rfl (lv_at hl 0 rfl) ?_
  refine g_X5_numbers (v := ((gI σ 8) - 1)) X hI rfl dX5_pop_15 ?_
  obtain ⟨h1, hF⟩ := fb_chk hF
  refine aM_9 (v := gA σ 9 ((gI σ 8) - 1)) X hI rfl h1 dX5_pop_18 ?_
  exact rt_i X hlk hr hI hF dX5_pop_19
abbrev rm_X5_back : Room := { frames := 3, cells := 0, slots := 0, locals := 69 }
def f_X5_back (x1 : Int32) (σ : St) : Option (Int32 × St) :=
  if (gI σ 7) = 1 then
    some (0, sI (sI σ 9 x1) 1 2)
  else
    if inB ((gI σ 7) - 1) 520 = true then
      (f_X5_push x1 (sI (sI σ 7 ((gI σ 7) - 1)) 8 (gA σ 8 ((gI σ 7) - 1)))).bind fun u3 =>
      some (0, u3.2)
    else none
set_option maxHeartbeats 4000000 in
set_option maxRecDepth 100000 in
theorem m_X5_back (l : Launch) (D : va_G) (ty : Nat → ClassId) (q : Nat → Nat) (σ : St) (sz : Nat) (x1 : Int32) {res : Int32 × St} (hF : f_X5_back x1 σ = some res) : Met l yX5_back (wsy yX5_back cX5_back 3 none) rm_X5_back (Pcw D ty FxM (wM ty q σ) sz [.ref (q 0), .int x1]) (Qvw D ty (wM ty q) (va_A (wM ty q σ) sz) res) 0 0 (va_A (wM ty q σ) sz) := by
  refine en_w (Qc := fun A => Qvw D ty (wM ty q) A res) (by decide) (Nat.le_of_ble_eq_true rfl) ?_
  intro p e s m args below meth c A X hlk hr _ H locs hI ls hl
  have X : CallFix p m c cX5_back 3 s args tb RX5 := X
  have hl : lv_has ls 3 [(0, .ref (q 0)), (1, .int x1)] := hl
  unfold f_X5_back at hF
  refine lv_aload_n X.1 X.2.1 dX5_back_0 rfl (lv_at hl 0 rfl) ?_
  refine g_X5_frames (v := gI σ 7) X hI rfl dX5_back_1 ?_
  refine lv_iconst (v := 1) X.1 X.2.1 dX5_back_4 (by decide) ?_
  refine lv_icmp_ne (tgt := 19) X.1 X.2.1 dX5_back_5 (by decide) (fun c1 => ?_) (fun c1 => ?_)
  · replace hF := fb_neg c1 hF
    refine lv_aload_n X.1 X.2.1 dX5_back_19 rfl (lv_at hl 0 rfl) ?_
    refine lv_dup X.1 X.2.1 dX5_back_20 rfl ?_
    refine g_X5_frames (v := gI σ 7) X hI rfl dX5_back_21 ?_
    refine lv_iconst (v := 1) X.1 X.2.1 dX5_back_24 (by decide) ?_
    refine lv_isub X.1 X.2.1 dX5_back_25 ?_
    refine p_X5_frames X hI dX5_back_26 (fun H locs hI => ?_)
    refine lv_aload_n X.1 X.2.1 dX5_back_29 rfl (lv_at hl 0 rfl) ?_
    refine lv_aload_n X.1 X.2.1 dX5_back_30 rfl (lv_at hl 0 rfl) ?_
    refine g_X5_below X hI dX5_back_31 ?_
    refine lv_aload_n X.1 X.2.1 dX5_back_34 rfl (lv_at hl 0 rfl) ?_
    refine g_X5_frames (v := ((gI σ 7) - 1)) X hI rfl dX5_back_35 ?_
    obtain ⟨h2, hF⟩ := fb_chk hF
    refine aM_8 (v := gA σ 8 ((gI σ 7) - 1)) X hI rfl h2 dX5_back_38 ?_
    refine p_X5_numbers X hI dX5_back_39 (fun H locs hI => ?_)
    refine lv_aload_n X.1 X.2.1 dX5_back_42 rfl (lv_at hl 0 rfl) ?_
    refine lv_iload_n X.1 X.2.1 dX5_back_43 rfl (lv_at hl 1 rfl) ?_
    obtain ⟨u3, h4, hF⟩ := fb_bnd hF
    refine cl_i (w := wM ty q) (σ := sI (sI σ 7 ((gI σ 7) - 1)) 8 (gA σ 8 ((gI σ 7) - 1))) (rest := []) X fxM hI (m_X5_push l D ty q (sI (sI σ 7 ((gI σ 7) - 1)) 8 (gA σ 8 ((gI σ 7) - 1))) _ x1 h4) ok_X5_push ml_X5_113 ⟨rfl, rfl, Nat.le_of_ble_eq_true rfl, Nat.le_of_ble_eq_true rfl⟩ 0 rc_X5 rfl rfl hl.1 rfl (Nat.le_of_ble_eq_true rfl) ⟨Nat.zero_le _, Nat.zero_le _⟩ dX5_back_44 (fun H locs hI => ?_)
    refine lv_istore_n (lv' := [(2, .int u3.1), (0, .ref (q 0)), (1, .int x1)]) X.1 X.2.1 dX5_back_47 rfl hl (by decide) rfl (fun ls hl => ?_)
    exact rt_v X hlk hr hI hF dX5_back_48
  · replace hF := fb_pos c1 hF
    refine lv_aload_n X.1 X.2.1 dX5_back_8 rfl (lv_at hl 0 rfl) ?_
    refine lv_iload_n X.1 X.2.1 dX5_back_9 rfl (lv_at hl 1 rfl) ?_
    refine p_X5_result X hI dX5_back_10 (fun H locs hI => ?_)
    refine lv_aload_n X.1 X.2.1 dX5_back_13 rfl (lv_at hl 0 rfl) ?_
    refine lv_iconst (v := 2) X.1 X.2.1 dX5_back_14 (by decide) ?_
    refine p_X5_state X hI dX5_back_15 (fun H locs hI => ?_)
    exact rt_v X hlk hr hI hF dX5_back_18
abbrev rm_X5_one : Room := { frames := 4, cells := 0, slots := 0, locals := 91 }
def b_X5_one_384 (x1 x3 z0 : Int32) (σ : St) : Option (Int32 × St) :=
  (f_X5_push z0 σ).bind fun u36 =>
  if u36.1 = 0 then
    if inB x1 520 = true then
      if (gI u36.2 1) ≤ 1 then
        some (0, sA u36.2 5 x1 x3)
      else
        if (gI u36.2 7) ≤ x1 then
          some (0, sA u36.2 5 x1 x3)
        else
          if inB x1 520 = true then
            some (0, sA (sA u36.2 5 x1 x3) 5 x1 x3)
          else none
    else none
  else
    if (gI u36.2 1) ≤ 1 then
      some (0, u36.2)
    else
      if (gI u36.2 7) ≤ x1 then
        some (0, u36.2)
      else
        if inB x1 520 = true then
          some (0, sA u36.2 5 x1 x3)
        else none
set_option maxHeartbeats 4000000 in
set_option maxRecDepth 100000 in
theorem w_b_X5_one_384 {l : Launch} {p : Program} {e : Env} {s : State} {m : MethodId} {args : Array Value} {below : List Frame} {meth : Method} {c : Code} {A : Nat → Prop} {D : va_G} {ty : Nat → ClassId} {q : Nat → Nat} {res : Int32 × St} (X : CallFix p m c cX5_one 10 s args tb RX5) (hlk : meth.locks = false) (hr : meth.sig.returnType = none) {σ : St} {H : Heap} {locs : List Loc} (hI : Inw D ty FxM (wM ty q σ) A s H locs) (x1 x3 z0 : Int32) (hF : b_X5_one_384 x1 x3 z0 σ = some res) (ls : Array Slot) (hl : lv_has ls 10 [(0, .ref (q 0)), (1, .int x1), (3, .int x3)]) : W p l e rm_X5_one s m args below meth c H locs 0 0 (MQ below (Qvw D ty (wM ty q) A res) args s 0 0 A) (F0 m 384 ls [.int z0, .ref (q 0)]) := by
  unfold b_X5_one_384 at hF
  obtain ⟨u36, h37, hF⟩ := fb_bnd hF
  refine cl_i (w := wM ty q) (σ := σ) (rest := []) X fxM hI (m_X5_push l D ty q σ _ z0 h37) ok_X5_push ml_X5_113 ⟨rfl, rfl, Nat.le_of_ble_eq_true rfl, Nat.le_of_ble_eq_true rfl⟩ 0 rc_X5 rfl rfl hl.1 rfl (Nat.le_of_ble_eq_true rfl) ⟨Nat.zero_le _, Nat.zero_le _⟩ dX5_one_384 (fun H locs hI => ?_)
  refine lv_if_ne (tgt := 575) X.1 X.2.1 dX5_one_387 (by decide) (fun c38 => ?_) (fun c38 => ?_)
  · replace hF := fb_neg c38 hF
    refine lv_aload_n X.1 X.2.1 dX5_one_575 rfl (lv_at hl 0 rfl) ?_
    refine g_X5_state (v := gI u36.2 1) X hI rfl dX5_one_576 ?_
    refine lv_iconst (v := 1) X.1 X.2.1 dX5_one_579 (by decide) ?_
    refine lv_icmp_le (tgt := 598) X.1 X.2.1 dX5_one_580 (by decide) (fun c39 => ?_) (fun c39 => ?_)
    · replace hF := fb_pos c39 hF
      exact rt_v X hlk hr hI hF dX5_one_598
    · replace hF := fb_neg c39 hF
      refine lv_aload_n X.1 X.2.1 dX5_one_583 rfl (lv_at hl 0 rfl) ?_
      refine g_X5_frames (v := gI u36.2 7) X hI rfl dX5_one_584 ?_
      refine lv_iload_n X.1 X.2.1 dX5_one_587 rfl (lv_at hl 1 rfl) ?_
      refine lv_icmp_le (tgt := 598) X.1 X.2.1 dX5_one_588 (by decide) (fun c40 => ?_) (fun c40 => ?_)
      · replace hF := fb_pos c40 hF
        exact rt_v X hlk hr hI hF dX5_one_598
      · replace hF := fb_neg c40 hF
        refine lv_aload_n X.1 X.2.1 dX5_one_591 rfl (lv_at hl 0 rfl) ?_
        refine g_X5_place X hI dX5_one_592 ?_
        refine lv_iload_n X.1 X.2.1 dX5_one_595 rfl (lv_at hl 1 rfl) ?_
        refine lv_iload_n X.1 X.2.1 dX5_one_596 rfl (lv_at hl 2 rfl) ?_
        obtain ⟨h41, hF⟩ := fb_chk hF
        refine sM_5 X hI h41 dX5_one_597 (fun H locs hI => ?_)
        exact rt_v X hlk hr hI hF dX5_one_598
  · replace hF := fb_pos c38 hF
    refine lv_aload_n X.1 X.2.1 dX5_one_390 rfl (lv_at hl 0 rfl) ?_
    refine g_X5_place X hI dX5_one_391 ?_
    refine lv_iload_n X.1 X.2.1 dX5_one_394 rfl (lv_at hl 1 rfl) ?_
    refine lv_iload_n X.1 X.2.1 dX5_one_395 rfl (lv_at hl 2 rfl) ?_
    obtain ⟨h42, hF⟩ := fb_chk hF
    refine sM_5 X hI h42 dX5_one_396 (fun H locs hI => ?_)
    refine lv_goto (tgt := 575) X.1 X.2.1 dX5_one_397 (by decide) ?_
    refine lv_aload_n X.1 X.2.1 dX5_one_575 rfl (lv_at hl 0 rfl) ?_
    refine g_X5_state (v := gI u36.2 1) X hI rfl dX5_one_576 ?_
    refine lv_iconst (v := 1) X.1 X.2.1 dX5_one_579 (by decide) ?_
    refine lv_icmp_le (tgt := 598) X.1 X.2.1 dX5_one_580 (by decide) (fun c43 => ?_) (fun c43 => ?_)
    · replace hF := fb_pos c43 hF
      exact rt_v X hlk hr hI hF dX5_one_598
    · replace hF := fb_neg c43 hF
      refine lv_aload_n X.1 X.2.1 dX5_one_583 rfl (lv_at hl 0 rfl) ?_
      refine g_X5_frames (v := gI u36.2 7) X hI rfl dX5_one_584 ?_
      refine lv_iload_n X.1 X.2.1 dX5_one_587 rfl (lv_at hl 1 rfl) ?_
      refine lv_icmp_le (tgt := 598) X.1 X.2.1 dX5_one_588 (by decide) (fun c44 => ?_) (fun c44 => ?_)
      · replace hF := fb_pos c44 hF
        exact rt_v X hlk hr hI hF dX5_one_598
      · replace hF := fb_neg c44 hF
        refine lv_aload_n X.1 X.2.1 dX5_one_591 rfl (lv_at hl 0 rfl) ?_
        refine g_X5_place X hI dX5_one_592 ?_
        refine lv_iload_n X.1 X.2.1 dX5_one_595 rfl (lv_at hl 1 rfl) ?_
        refine lv_iload_n X.1 X.2.1 dX5_one_596 rfl (lv_at hl 2 rfl) ?_
        obtain ⟨h45, hF⟩ := fb_chk hF
        refine sM_5 X hI h45 dX5_one_597 (fun H locs hI => ?_)
        exact rt_v X hlk hr hI hF dX5_one_598
def b_X5_one_435 (x1 x3 z0 z1 z2 : Int32) (σ : St) : Option (Int32 × St) :=
  if inB z2 520 = true then
    if (gI σ 1) ≤ 1 then
      some (0, sA σ 5 z2 (z1 + z0))
    else
      if (gI σ 7) ≤ x1 then
        some (0, sA σ 5 z2 (z1 + z0))
      else
        if inB x1 520 = true then
          some (0, sA (sA σ 5 z2 (z1 + z0)) 5 x1 x3)
        else none
  else none
set_option maxHeartbeats 4000000 in
set_option maxRecDepth 100000 in
theorem w_b_X5_one_435 {l : Launch} {p : Program} {e : Env} {s : State} {m : MethodId} {args : Array Value} {below : List Frame} {meth : Method} {c : Code} {A : Nat → Prop} {D : va_G} {ty : Nat → ClassId} {q : Nat → Nat} {res : Int32 × St} (X : CallFix p m c cX5_one 10 s args tb RX5) (hlk : meth.locks = false) (hr : meth.sig.returnType = none) {σ : St} {H : Heap} {locs : List Loc} (hI : Inw D ty FxM (wM ty q σ) A s H locs) (x1 x3 z0 z1 z2 : Int32) (hF : b_X5_one_435 x1 x3 z0 z1 z2 σ = some res) (ls : Array Slot) (hl : lv_has ls 10 [(0, .ref (q 0)), (1, .int x1), (3, .int x3)]) : W p l e rm_X5_one s m args below meth c H locs 0 0 (MQ below (Qvw D ty (wM ty q) A res) args s 0 0 A) (F0 m 435 ls [.int z0, .int z1, .int z2, .ref (q 6)]) := by
  unfold b_X5_one_435 at hF
  refine lv_iadd X.1 X.2.1 dX5_one_435 ?_
  obtain ⟨h67, hF⟩ := fb_chk hF
  refine sM_5 X hI h67 dX5_one_436 (fun H locs hI => ?_)
  refine lv_goto (tgt := 575) X.1 X.2.1 dX5_one_437 (by decide) ?_
  refine lv_aload_n X.1 X.2.1 dX5_one_575 rfl (lv_at hl 0 rfl) ?_
  refine g_X5_state (v := gI σ 1) X hI rfl dX5_one_576 ?_
  refine lv_iconst (v := 1) X.1 X.2.1 dX5_one_579 (by decide) ?_
  refine lv_icmp_le (tgt := 598) X.1 X.2.1 dX5_one_580 (by decide) (fun c68 => ?_) (fun c68 => ?_)
  · replace hF := fb_pos c68 hF
    exact rt_v X hlk hr hI hF dX5_one_598
  · replace hF := fb_neg c68 hF
    refine lv_aload_n X.1 X.2.1 dX5_one_583 rfl (lv_at hl 0 rfl) ?_
    refine g_X5_frames (v := gI σ 7) X hI rfl dX5_one_584 ?_
    refine lv_iload_n X.1 X.2.1 dX5_one_587 rfl (lv_at hl 1 rfl) ?_
    refine lv_icmp_le (tgt := 598) X.1 X.2.1 dX5_one_588 (by decide) (fun c69 => ?_) (fun c69 => ?_)
    · replace hF := fb_pos c69 hF
      exact rt_v X hlk hr hI hF dX5_one_598
    · replace hF := fb_neg c69 hF
      refine lv_aload_n X.1 X.2.1 dX5_one_591 rfl (lv_at hl 0 rfl) ?_
      refine g_X5_place X hI dX5_one_592 ?_
      refine lv_iload_n X.1 X.2.1 dX5_one_595 rfl (lv_at hl 1 rfl) ?_
      refine lv_iload_n X.1 X.2.1 dX5_one_596 rfl (lv_at hl 2 rfl) ?_
      obtain ⟨h70, hF⟩ := fb_chk hF
      refine sM_5 X hI h70 dX5_one_597 (fun H locs hI => ?_)
      exact rt_v X hlk hr hI hF dX5_one_598
def b_X5_one_567 (x1 x3 z0 : Int32) (σ : St) : Option (Int32 × St) :=
  (f_X5_push z0 σ).bind fun u99 =>
  if (gI u99.2 1) ≤ 1 then
    some (0, u99.2)
  else
    if (gI u99.2 7) ≤ x1 then
      some (0, u99.2)
    else
      if inB x1 520 = true then
        some (0, sA u99.2 5 x1 x3)
      else none
set_option maxHeartbeats 4000000 in
set_option maxRecDepth 100000 in
theorem w_b_X5_one_567 {l : Launch} {p : Program} {e : Env} {s : State} {m : MethodId} {args : Array Value} {below : List Frame} {meth : Method} {c : Code} {A : Nat → Prop} {D : va_G} {ty : Nat → ClassId} {q : Nat → Nat} {res : Int32 × St} (X : CallFix p m c cX5_one 10 s args tb RX5) (hlk : meth.locks = false) (hr : meth.sig.returnType = none) {σ : St} {H : Heap} {locs : List Loc} (hI : Inw D ty FxM (wM ty q σ) A s H locs) (x1 x3 z0 : Int32) (hF : b_X5_one_567 x1 x3 z0 σ = some res) (ls : Array Slot) (hl : lv_has ls 10 [(0, .ref (q 0)), (1, .int x1), (3, .int x3)]) : W p l e rm_X5_one s m args below meth c H locs 0 0 (MQ below (Qvw D ty (wM ty q) A res) args s 0 0 A) (F0 m 567 ls [.int z0, .ref (q 0)]) := by
  unfold b_X5_one_567 at hF
  obtain ⟨u99, h100, hF⟩ := fb_bnd hF
  refine cl_i (w := wM ty q) (σ := σ) (rest := []) X fxM hI (m_X5_push l D ty q σ _ z0 h100) ok_X5_push ml_X5_113 ⟨rfl, rfl, Nat.le_of_ble_eq_true rfl, Nat.le_of_ble_eq_true rfl⟩ 0 rc_X5 rfl rfl hl.1 rfl (Nat.le_of_ble_eq_true rfl) ⟨Nat.zero_le _, Nat.zero_le _⟩ dX5_one_567 (fun H locs hI => ?_)
  refine lv_istore (lv' := [(9, .int u99.1), (0, .ref (q 0)), (1, .int x1), (3, .int x3)]) X.1 X.2.1 dX5_one_570 hl (by decide) rfl (fun ls hl => ?_)
  refine lv_goto (tgt := 575) X.1 X.2.1 dX5_one_572 (by decide) ?_
  refine lv_aload_n X.1 X.2.1 dX5_one_575 rfl (lv_at hl 1 rfl) ?_
  refine g_X5_state (v := gI u99.2 1) X hI rfl dX5_one_576 ?_
  refine lv_iconst (v := 1) X.1 X.2.1 dX5_one_579 (by decide) ?_
  refine lv_icmp_le (tgt := 598) X.1 X.2.1 dX5_one_580 (by decide) (fun c101 => ?_) (fun c101 => ?_)
  · replace hF := fb_pos c101 hF
    exact rt_v X hlk hr hI hF dX5_one_598
  · replace hF := fb_neg c101 hF
    refine lv_aload_n X.1 X.2.1 dX5_one_583 rfl (lv_at hl 1 rfl) ?_
    refine g_X5_frames (v := gI u99.2 7) X hI rfl dX5_one_584 ?_
    refine lv_iload_n X.1 X.2.1 dX5_one_587 rfl (lv_at hl 2 rfl) ?_
    refine lv_icmp_le (tgt := 598) X.1 X.2.1 dX5_one_588 (by decide) (fun c102 => ?_) (fun c102 => ?_)
    · replace hF := fb_pos c102 hF
      exact rt_v X hlk hr hI hF dX5_one_598
    · replace hF := fb_neg c102 hF
      refine lv_aload_n X.1 X.2.1 dX5_one_591 rfl (lv_at hl 1 rfl) ?_
      refine g_X5_place X hI dX5_one_592 ?_
      refine lv_iload_n X.1 X.2.1 dX5_one_595 rfl (lv_at hl 2 rfl) ?_
      refine lv_iload_n X.1 X.2.1 dX5_one_596 rfl (lv_at hl 3 rfl) ?_
      obtain ⟨h103, hF⟩ := fb_chk hF
      refine sM_5 X hI h103 dX5_one_597 (fun H locs hI => ?_)
      exact rt_v X hlk hr hI hF dX5_one_598
def b_X5_one_270 (x1 x2 x3 x5 x6 x7 z0 : Int32) (σ : St) : Option (Int32 × St) :=
  (f_X5_size x5 σ).bind fun u17 =>
  if inB x1 520 = true then
    if x5 = 0 then
      if (gI σ 7) ≤ x1 then
        some (0, sI (sA σ 5 x1 (x3 + u17)) 1 2)
      else
        if inB x1 520 = true then
          some (0, sA (sI (sA σ 5 x1 (x3 + u17)) 1 2) 5 x1 x3)
        else none
    else
    if x5 = 1 then
      if x5 = 1 then
        b_X5_one_384 x1 x3 x6 (sA σ 5 x1 (x3 + u17))
      else
        if inB ((6 * x1) + x6) 3120 = true then
          (f_X5_push (gA σ 7 ((6 * x1) + x6)) (sA σ 5 x1 (x3 + u17))).bind fun u26 =>
          if u26.1 = 0 then
            if inB x1 520 = true then
              if (gI u26.2 1) ≤ 1 then
                some (0, sA u26.2 5 x1 x3)
              else
                if (gI u26.2 7) ≤ x1 then
                  some (0, sA u26.2 5 x1 x3)
                else
                  if inB x1 520 = true then
                    some (0, sA (sA u26.2 5 x1 x3) 5 x1 x3)
                  else none
            else none
          else
            if (gI u26.2 1) ≤ 1 then
              some (0, u26.2)
            else
              if (gI u26.2 7) ≤ x1 then
                some (0, u26.2)
              else
                if inB x1 520 = true then
                  some (0, sA u26.2 5 x1 x3)
                else none
        else none
    else
    if x5 = 2 then
      if x5 = 1 then
        b_X5_one_384 x1 x3 x6 (sA σ 5 x1 (x3 + u17))
      else
        if inB ((6 * x1) + x6) 3120 = true then
          (f_X5_push (gA σ 7 ((6 * x1) + x6)) (sA σ 5 x1 (x3 + u17))).bind fun u49 =>
          if u49.1 = 0 then
            if inB x1 520 = true then
              if (gI u49.2 1) ≤ 1 then
                some (0, sA u49.2 5 x1 x3)
              else
                if (gI u49.2 7) ≤ x1 then
                  some (0, sA u49.2 5 x1 x3)
                else
                  if inB x1 520 = true then
                    some (0, sA (sA u49.2 5 x1 x3) 5 x1 x3)
                  else none
            else none
          else
            if (gI u49.2 1) ≤ 1 then
              some (0, u49.2)
            else
              if (gI u49.2 7) ≤ x1 then
                some (0, u49.2)
              else
                if inB x1 520 = true then
                  some (0, sA u49.2 5 x1 x3)
                else none
        else none
    else
    if x5 = 3 then
      if inB ((6 * x1) + x6) 3120 = true then
        if (gI σ 1) ≤ 1 then
          some (0, sA (sA σ 5 x1 (x3 + u17)) 7 ((6 * x1) + x6) x7)
        else
          if (gI σ 7) ≤ x1 then
            some (0, sA (sA σ 5 x1 (x3 + u17)) 7 ((6 * x1) + x6) x7)
          else
            if inB x1 520 = true then
              some (0, sA (sA (sA σ 5 x1 (x3 + u17)) 7 ((6 * x1) + x6) x7) 5 x1 x3)
            else none
      else none
    else
    if x5 = 8 then
      if inB x1 520 = true then
        if x7 = 0 then
          b_X5_one_435 x1 x3 x6 (gA (sA σ 5 x1 (x3 + u17)) 5 x1) x1 (sA σ 5 x1 (x3 + u17))
        else
          b_X5_one_435 x1 x3 0 (gA (sA σ 5 x1 (x3 + u17)) 5 x1) x1 (sA σ 5 x1 (x3 + u17))
      else none
    else
    if x5 = 9 then
      if inB x1 520 = true then
        if inB x1 520 = true then
          if (gI σ 1) ≤ 1 then
            some (0, sA (sA σ 5 x1 (x3 + u17)) 5 x1 ((gA (sA σ 5 x1 (x3 + u17)) 5 x1) + x6))
          else
            if (gI σ 7) ≤ x1 then
              some (0, sA (sA σ 5 x1 (x3 + u17)) 5 x1 ((gA (sA σ 5 x1 (x3 + u17)) 5 x1) + x6))
            else
              if inB x1 520 = true then
                some (0, sA (sA (sA σ 5 x1 (x3 + u17)) 5 x1 ((gA (sA σ 5 x1 (x3 + u17)) 5 x1) + x6)) 5 x1 x3)
              else none
        else none
      else none
    else
    if x5 = 10 then
      if inB (((80 * x2) + x3) + 2) 400 = true then
        (f_X5_call x6 (gA σ 0 (((80 * x2) + x3) + 2)) x7 (sA σ 5 x1 (x3 + u17))).bind fun u79 =>
        if (gI u79.2 1) ≤ 1 then
          some (0, u79.2)
        else
          if (gI u79.2 7) ≤ x1 then
            some (0, u79.2)
          else
            if inB x1 520 = true then
              some (0, sA u79.2 5 x1 x3)
            else none
      else none
    else
    if x5 = 11 then
      (f_X5_back x7 (sA σ 5 x1 (x3 + u17))).bind fun u85 =>
      if (gI u85.2 1) ≤ 1 then
        some (0, u85.2)
      else
        if (gI u85.2 7) ≤ x1 then
          some (0, u85.2)
        else
          if inB x1 520 = true then
            some (0, sA u85.2 5 x1 x3)
          else none
    else
    if x5 = 12 then
      if inB (gI σ 10) 40 = true then
        if (gI σ 1) ≤ 1 then
          some (0, sI (sA (sA σ 5 x1 (x3 + u17)) 10 (gI σ 10) x7) 10 ((gI σ 10) + 1))
        else
          if (gI σ 7) ≤ x1 then
            some (0, sI (sA (sA σ 5 x1 (x3 + u17)) 10 (gI σ 10) x7) 10 ((gI σ 10) + 1))
          else
            if inB x1 520 = true then
              some (0, sA (sI (sA (sA σ 5 x1 (x3 + u17)) 10 (gI σ 10) x7) 10 ((gI σ 10) + 1)) 5 x1 x3)
            else none
      else none
    else
    if x5 = 4 then
      b_X5_one_567 x1 x3 (z0 + x7) (sA σ 5 x1 (x3 + u17))
    else
      if x5 = 5 then
        b_X5_one_567 x1 x3 (z0 - x7) (sA σ 5 x1 (x3 + u17))
      else
        if x5 = 7 then
          b_X5_one_567 x1 x3 (z0 * x7) (sA σ 5 x1 (x3 + u17))
        else
          if x7 ≤ z0 then
            b_X5_one_567 x1 x3 0 (sA σ 5 x1 (x3 + u17))
          else
            b_X5_one_567 x1 x3 1 (sA σ 5 x1 (x3 + u17))
  else none
set_option maxHeartbeats 4000000 in
set_option maxRecDepth 100000 in
theorem w_b_X5_one_270 {l : Launch} {p : Program} {e : Env} {s : State} {m : MethodId} {args : Array Value} {below : List Frame} {meth : Method} {c : Code} {A : Nat → Prop} {D : va_G} {ty : Nat → ClassId} {q : Nat → Nat} {res : Int32 × St} (X : CallFix p m c cX5_one 10 s args tb RX5) (hlk : meth.locks = false) (hr : meth.sig.returnType = none) {σ : St} {H : Heap} {locs : List Loc} (hI : Inw D ty FxM (wM ty q σ) A s H locs) (x1 x2 x3 x5 x6 x7 z0 : Int32) (hF : b_X5_one_270 x1 x2 x3 x5 x6 x7 z0 σ = some res) (ls : Array Slot) (hl : lv_has ls 10 [(0, .ref (q 0)), (1, .int x1), (2, .int x2), (3, .int x3), (5, .int x5), (6, .int x6), (7, .int x7)]) : W p l e rm_X5_one s m args below meth c H locs 0 0 (MQ below (Qvw D ty (wM ty q) A res) args s 0 0 A) (F0 m 270 ls [.int z0]) := by
  unfold b_X5_one_270 at hF
  refine lv_istore (lv' := [(8, .int z0), (0, .ref (q 0)), (1, .int x1), (2, .int x2), (3, .int x3), (5, .int x5), (6, .int x6), (7, .int x7)]) X.1 X.2.1 dX5_one_270 hl (by decide) rfl (fun ls hl => ?_)
  refine lv_aload_n X.1 X.2.1 dX5_one_272 rfl (lv_at hl 1 rfl) ?_
  refine g_X5_place X hI dX5_one_273 ?_
  refine lv_iload_n X.1 X.2.1 dX5_one_276 rfl (lv_at hl 2 rfl) ?_
  refine lv_iload_n X.1 X.2.1 dX5_one_277 rfl (lv_at hl 4 rfl) ?_
  refine lv_iload X.1 X.2.1 dX5_one_278 (lv_at hl 5 rfl) ?_
  obtain ⟨u17, h18, hF⟩ := fb_bnd hF
  refine cs_i (w := wM ty q) (σ := σ) (rest := [.int x3, .int x1, .ref (q 6)]) X fxM hI (m_X5_size l D ty q σ _ x5 h18) ok_X5_size ml_X5_104 ⟨rfl, rfl, Nat.le_of_ble_eq_true rfl, Nat.le_of_ble_eq_true rfl⟩ rfl hl.1 rfl (Nat.le_of_ble_eq_true rfl) ⟨Nat.zero_le _, Nat.zero_le _⟩ dX5_one_280 (fun H locs hI => ?_)
  refine lv_iadd X.1 X.2.1 dX5_one_283 ?_
  obtain ⟨h19, hF⟩ := fb_chk hF
  refine sM_5 X hI h19 dX5_one_284 (fun H locs hI => ?_)
  refine lv_iload X.1 X.2.1 dX5_one_285 (lv_at hl 5 rfl) ?_
  by_cases c20 : x5 = 0
  · replace hF := fb_pos c20 hF
    refine lv_tableIn (tgt := 352) X.1 X.2.1 dX5_one_287 (by rw [c20]; decide) (by rw [c20]; decide) (by rw [c20]; rfl) (by decide) ?_
    refine lv_aload_n X.1 X.2.1 dX5_one_352 rfl (lv_at hl 1 rfl) ?_
    refine lv_iconst (v := 2) X.1 X.2.1 dX5_one_353 (by decide) ?_
    refine p_X5_state X hI dX5_one_354 (fun H locs hI => ?_)
    refine lv_goto (tgt := 575) X.1 X.2.1 dX5_one_357 (by decide) ?_
    refine lv_aload_n X.1 X.2.1 dX5_one_575 rfl (lv_at hl 1 rfl) ?_
    refine g_X5_state (v := 2) X hI rfl dX5_one_576 ?_
    refine lv_iconst (v := 1) X.1 X.2.1 dX5_one_579 (by decide) ?_
    refine lv_icmp_le (tgt := 598) X.1 X.2.1 dX5_one_580 (by decide) (fun c => absurd c (by decide)) (fun _ => ?_)
    refine lv_aload_n X.1 X.2.1 dX5_one_583 rfl (lv_at hl 1 rfl) ?_
    refine g_X5_frames (v := gI σ 7) X hI rfl dX5_one_584 ?_
    refine lv_iload_n X.1 X.2.1 dX5_one_587 rfl (lv_at hl 2 rfl) ?_
    refine lv_icmp_le (tgt := 598) X.1 X.2.1 dX5_one_588 (by decide) (fun c21 => ?_) (fun c21 => ?_)
    · replace hF := fb_pos c21 hF
      exact rt_v X hlk hr hI hF dX5_one_598
    · replace hF := fb_neg c21 hF
      refine lv_aload_n X.1 X.2.1 dX5_one_591 rfl (lv_at hl 1 rfl) ?_
      refine g_X5_place X hI dX5_one_592 ?_
      refine lv_iload_n X.1 X.2.1 dX5_one_595 rfl (lv_at hl 2 rfl) ?_
      refine lv_iload_n X.1 X.2.1 dX5_one_596 rfl (lv_at hl 4 rfl) ?_
      obtain ⟨h22, hF⟩ := fb_chk hF
      refine sM_5 X hI h22 dX5_one_597 (fun H locs hI => ?_)
      exact rt_v X hlk hr hI hF dX5_one_598
  replace hF := fb_neg c20 hF
  by_cases c23 : x5 = 1
  · replace hF := fb_pos c23 hF
    refine lv_tableIn (tgt := 360) X.1 X.2.1 dX5_one_287 (by rw [c23]; decide) (by rw [c23]; decide) (by rw [c23]; rfl) (by decide) ?_
    refine lv_aload_n X.1 X.2.1 dX5_one_360 rfl (lv_at hl 1 rfl) ?_
    refine lv_iload X.1 X.2.1 dX5_one_361 (lv_at hl 5 rfl) ?_
    refine lv_iconst (v := 1) X.1 X.2.1 dX5_one_363 (by decide) ?_
    refine lv_icmp_ne (tgt := 372) X.1 X.2.1 dX5_one_364 (by decide) (fun c24 => ?_) (fun c24 => ?_)
    · replace hF := fb_neg c24 hF
      refine lv_aload_n X.1 X.2.1 dX5_one_372 rfl (lv_at hl 1 rfl) ?_
      refine g_X5_local X hI dX5_one_373 ?_
      refine lv_bipush (v := 6) X.1 X.2.1 dX5_one_376 (by decide) ?_
      refine lv_iload_n X.1 X.2.1 dX5_one_378 rfl (lv_at hl 2 rfl) ?_
      refine lv_imul X.1 X.2.1 dX5_one_379 ?_
      refine lv_iload X.1 X.2.1 dX5_one_380 (lv_at hl 6 rfl) ?_
      refine lv_iadd X.1 X.2.1 dX5_one_382 ?_
      obtain ⟨h25, hF⟩ := fb_chk hF
      refine aM_7 (v := gA σ 7 ((6 * x1) + x6)) X hI rfl h25 dX5_one_383 ?_
      obtain ⟨u26, h27, hF⟩ := fb_bnd hF
      refine cl_i (w := wM ty q) (σ := sA σ 5 x1 (x3 + u17)) (rest := []) X fxM hI (m_X5_push l D ty q (sA σ 5 x1 (x3 + u17)) _ (gA σ 7 ((6 * x1) + x6)) h27) ok_X5_push ml_X5_113 ⟨rfl, rfl, Nat.le_of_ble_eq_true rfl, Nat.le_of_ble_eq_true rfl⟩ 0 rc_X5 rfl rfl hl.1 rfl (Nat.le_of_ble_eq_true rfl) ⟨Nat.zero_le _, Nat.zero_le _⟩ dX5_one_384 (fun H locs hI => ?_)
      refine lv_if_ne (tgt := 575) X.1 X.2.1 dX5_one_387 (by decide) (fun c28 => ?_) (fun c28 => ?_)
      · replace hF := fb_neg c28 hF
        refine lv_aload_n X.1 X.2.1 dX5_one_575 rfl (lv_at hl 1 rfl) ?_
        refine g_X5_state (v := gI u26.2 1) X hI rfl dX5_one_576 ?_
        refine lv_iconst (v := 1) X.1 X.2.1 dX5_one_579 (by decide) ?_
        refine lv_icmp_le (tgt := 598) X.1 X.2.1 dX5_one_580 (by decide) (fun c29 => ?_) (fun c29 => ?_)
        · replace hF := fb_pos c29 hF
          exact rt_v X hlk hr hI hF dX5_one_598
        · replace hF := fb_neg c29 hF
          refine lv_aload_n X.1 X.2.1 dX5_one_583 rfl (lv_at hl 1 rfl) ?_
          refine g_X5_frames (v := gI u26.2 7) X hI rfl dX5_one_584 ?_
          refine lv_iload_n X.1 X.2.1 dX5_one_587 rfl (lv_at hl 2 rfl) ?_
          refine lv_icmp_le (tgt := 598) X.1 X.2.1 dX5_one_588 (by decide) (fun c30 => ?_) (fun c30 => ?_)
          · replace hF := fb_pos c30 hF
            exact rt_v X hlk hr hI hF dX5_one_598
          · replace hF := fb_neg c30 hF
            refine lv_aload_n X.1 X.2.1 dX5_one_591 rfl (lv_at hl 1 rfl) ?_
            refine g_X5_place X hI dX5_one_592 ?_
            refine lv_iload_n X.1 X.2.1 dX5_one_595 rfl (lv_at hl 2 rfl) ?_
            refine lv_iload_n X.1 X.2.1 dX5_one_596 rfl (lv_at hl 4 rfl) ?_
            obtain ⟨h31, hF⟩ := fb_chk hF
            refine sM_5 X hI h31 dX5_one_597 (fun H locs hI => ?_)
            exact rt_v X hlk hr hI hF dX5_one_598
      · replace hF := fb_pos c28 hF
        refine lv_aload_n X.1 X.2.1 dX5_one_390 rfl (lv_at hl 1 rfl) ?_
        refine g_X5_place X hI dX5_one_391 ?_
        refine lv_iload_n X.1 X.2.1 dX5_one_394 rfl (lv_at hl 2 rfl) ?_
        refine lv_iload_n X.1 X.2.1 dX5_one_395 rfl (lv_at hl 4 rfl) ?_
        obtain ⟨h32, hF⟩ := fb_chk hF
        refine sM_5 X hI h32 dX5_one_396 (fun H locs hI => ?_)
        refine lv_goto (tgt := 575) X.1 X.2.1 dX5_one_397 (by decide) ?_
        refine lv_aload_n X.1 X.2.1 dX5_one_575 rfl (lv_at hl 1 rfl) ?_
        refine g_X5_state (v := gI u26.2 1) X hI rfl dX5_one_576 ?_
        refine lv_iconst (v := 1) X.1 X.2.1 dX5_one_579 (by decide) ?_
        refine lv_icmp_le (tgt := 598) X.1 X.2.1 dX5_one_580 (by decide) (fun c33 => ?_) (fun c33 => ?_)
        · replace hF := fb_pos c33 hF
          exact rt_v X hlk hr hI hF dX5_one_598
        · replace hF := fb_neg c33 hF
          refine lv_aload_n X.1 X.2.1 dX5_one_583 rfl (lv_at hl 1 rfl) ?_
          refine g_X5_frames (v := gI u26.2 7) X hI rfl dX5_one_584 ?_
          refine lv_iload_n X.1 X.2.1 dX5_one_587 rfl (lv_at hl 2 rfl) ?_
          refine lv_icmp_le (tgt := 598) X.1 X.2.1 dX5_one_588 (by decide) (fun c34 => ?_) (fun c34 => ?_)
          · replace hF := fb_pos c34 hF
            exact rt_v X hlk hr hI hF dX5_one_598
          · replace hF := fb_neg c34 hF
            refine lv_aload_n X.1 X.2.1 dX5_one_591 rfl (lv_at hl 1 rfl) ?_
            refine g_X5_place X hI dX5_one_592 ?_
            refine lv_iload_n X.1 X.2.1 dX5_one_595 rfl (lv_at hl 2 rfl) ?_
            refine lv_iload_n X.1 X.2.1 dX5_one_596 rfl (lv_at hl 4 rfl) ?_
            obtain ⟨h35, hF⟩ := fb_chk hF
            refine sM_5 X hI h35 dX5_one_597 (fun H locs hI => ?_)
            exact rt_v X hlk hr hI hF dX5_one_598
    · replace hF := fb_pos c24 hF
      refine lv_iload X.1 X.2.1 dX5_one_367 (lv_at hl 6 rfl) ?_
      refine lv_goto (tgt := 384) X.1 X.2.1 dX5_one_369 (by decide) ?_
      exact w_b_X5_one_384 X hlk hr hI x1 x3 x6 hF ls (lv_sub hl [1, 2, 4] rfl)
  replace hF := fb_neg c23 hF
  by_cases c46 : x5 = 2
  · replace hF := fb_pos c46 hF
    refine lv_tableIn (tgt := 360) X.1 X.2.1 dX5_one_287 (by rw [c46]; decide) (by rw [c46]; decide) (by rw [c46]; rfl) (by decide) ?_
    refine lv_aload_n X.1 X.2.1 dX5_one_360 rfl (lv_at hl 1 rfl) ?_
    refine lv_iload X.1 X.2.1 dX5_one_361 (lv_at hl 5 rfl) ?_
    refine lv_iconst (v := 1) X.1 X.2.1 dX5_one_363 (by decide) ?_
    refine lv_icmp_ne (tgt := 372) X.1 X.2.1 dX5_one_364 (by decide) (fun c47 => ?_) (fun c47 => ?_)
    · replace hF := fb_neg c47 hF
      refine lv_aload_n X.1 X.2.1 dX5_one_372 rfl (lv_at hl 1 rfl) ?_
      refine g_X5_local X hI dX5_one_373 ?_
      refine lv_bipush (v := 6) X.1 X.2.1 dX5_one_376 (by decide) ?_
      refine lv_iload_n X.1 X.2.1 dX5_one_378 rfl (lv_at hl 2 rfl) ?_
      refine lv_imul X.1 X.2.1 dX5_one_379 ?_
      refine lv_iload X.1 X.2.1 dX5_one_380 (lv_at hl 6 rfl) ?_
      refine lv_iadd X.1 X.2.1 dX5_one_382 ?_
      obtain ⟨h48, hF⟩ := fb_chk hF
      refine aM_7 (v := gA σ 7 ((6 * x1) + x6)) X hI rfl h48 dX5_one_383 ?_
      obtain ⟨u49, h50, hF⟩ := fb_bnd hF
      refine cl_i (w := wM ty q) (σ := sA σ 5 x1 (x3 + u17)) (rest := []) X fxM hI (m_X5_push l D ty q (sA σ 5 x1 (x3 + u17)) _ (gA σ 7 ((6 * x1) + x6)) h50) ok_X5_push ml_X5_113 ⟨rfl, rfl, Nat.le_of_ble_eq_true rfl, Nat.le_of_ble_eq_true rfl⟩ 0 rc_X5 rfl rfl hl.1 rfl (Nat.le_of_ble_eq_true rfl) ⟨Nat.zero_le _, Nat.zero_le _⟩ dX5_one_384 (fun H locs hI => ?_)
      refine lv_if_ne (tgt := 575) X.1 X.2.1 dX5_one_387 (by decide) (fun c51 => ?_) (fun c51 => ?_)
      · replace hF := fb_neg c51 hF
        refine lv_aload_n X.1 X.2.1 dX5_one_575 rfl (lv_at hl 1 rfl) ?_
        refine g_X5_state (v := gI u49.2 1) X hI rfl dX5_one_576 ?_
        refine lv_iconst (v := 1) X.1 X.2.1 dX5_one_579 (by decide) ?_
        refine lv_icmp_le (tgt := 598) X.1 X.2.1 dX5_one_580 (by decide) (fun c52 => ?_) (fun c52 => ?_)
        · replace hF := fb_pos c52 hF
          exact rt_v X hlk hr hI hF dX5_one_598
        · replace hF := fb_neg c52 hF
          refine lv_aload_n X.1 X.2.1 dX5_one_583 rfl (lv_at hl 1 rfl) ?_
          refine g_X5_frames (v := gI u49.2 7) X hI rfl dX5_one_584 ?_
          refine lv_iload_n X.1 X.2.1 dX5_one_587 rfl (lv_at hl 2 rfl) ?_
          refine lv_icmp_le (tgt := 598) X.1 X.2.1 dX5_one_588 (by decide) (fun c53 => ?_) (fun c53 => ?_)
          · replace hF := fb_pos c53 hF
            exact rt_v X hlk hr hI hF dX5_one_598
          · replace hF := fb_neg c53 hF
            refine lv_aload_n X.1 X.2.1 dX5_one_591 rfl (lv_at hl 1 rfl) ?_
            refine g_X5_place X hI dX5_one_592 ?_
            refine lv_iload_n X.1 X.2.1 dX5_one_595 rfl (lv_at hl 2 rfl) ?_
            refine lv_iload_n X.1 X.2.1 dX5_one_596 rfl (lv_at hl 4 rfl) ?_
            obtain ⟨h54, hF⟩ := fb_chk hF
            refine sM_5 X hI h54 dX5_one_597 (fun H locs hI => ?_)
            exact rt_v X hlk hr hI hF dX5_one_598
      · replace hF := fb_pos c51 hF
        refine lv_aload_n X.1 X.2.1 dX5_one_390 rfl (lv_at hl 1 rfl) ?_
        refine g_X5_place X hI dX5_one_391 ?_
        refine lv_iload_n X.1 X.2.1 dX5_one_394 rfl (lv_at hl 2 rfl) ?_
        refine lv_iload_n X.1 X.2.1 dX5_one_395 rfl (lv_at hl 4 rfl) ?_
        obtain ⟨h55, hF⟩ := fb_chk hF
        refine sM_5 X hI h55 dX5_one_396 (fun H locs hI => ?_)
        refine lv_goto (tgt := 575) X.1 X.2.1 dX5_one_397 (by decide) ?_
        refine lv_aload_n X.1 X.2.1 dX5_one_575 rfl (lv_at hl 1 rfl) ?_
        refine g_X5_state (v := gI u49.2 1) X hI rfl dX5_one_576 ?_
        refine lv_iconst (v := 1) X.1 X.2.1 dX5_one_579 (by decide) ?_
        refine lv_icmp_le (tgt := 598) X.1 X.2.1 dX5_one_580 (by decide) (fun c56 => ?_) (fun c56 => ?_)
        · replace hF := fb_pos c56 hF
          exact rt_v X hlk hr hI hF dX5_one_598
        · replace hF := fb_neg c56 hF
          refine lv_aload_n X.1 X.2.1 dX5_one_583 rfl (lv_at hl 1 rfl) ?_
          refine g_X5_frames (v := gI u49.2 7) X hI rfl dX5_one_584 ?_
          refine lv_iload_n X.1 X.2.1 dX5_one_587 rfl (lv_at hl 2 rfl) ?_
          refine lv_icmp_le (tgt := 598) X.1 X.2.1 dX5_one_588 (by decide) (fun c57 => ?_) (fun c57 => ?_)
          · replace hF := fb_pos c57 hF
            exact rt_v X hlk hr hI hF dX5_one_598
          · replace hF := fb_neg c57 hF
            refine lv_aload_n X.1 X.2.1 dX5_one_591 rfl (lv_at hl 1 rfl) ?_
            refine g_X5_place X hI dX5_one_592 ?_
            refine lv_iload_n X.1 X.2.1 dX5_one_595 rfl (lv_at hl 2 rfl) ?_
            refine lv_iload_n X.1 X.2.1 dX5_one_596 rfl (lv_at hl 4 rfl) ?_
            obtain ⟨h58, hF⟩ := fb_chk hF
            refine sM_5 X hI h58 dX5_one_597 (fun H locs hI => ?_)
            exact rt_v X hlk hr hI hF dX5_one_598
    · replace hF := fb_pos c47 hF
      refine lv_iload X.1 X.2.1 dX5_one_367 (lv_at hl 6 rfl) ?_
      refine lv_goto (tgt := 384) X.1 X.2.1 dX5_one_369 (by decide) ?_
      exact w_b_X5_one_384 X hlk hr hI x1 x3 x6 hF ls (lv_sub hl [1, 2, 4] rfl)
  replace hF := fb_neg c46 hF
  by_cases c59 : x5 = 3
  · replace hF := fb_pos c59 hF
    refine lv_tableIn (tgt := 400) X.1 X.2.1 dX5_one_287 (by rw [c59]; decide) (by rw [c59]; decide) (by rw [c59]; rfl) (by decide) ?_
    refine lv_aload_n X.1 X.2.1 dX5_one_400 rfl (lv_at hl 1 rfl) ?_
    refine g_X5_local X hI dX5_one_401 ?_
    refine lv_bipush (v := 6) X.1 X.2.1 dX5_one_404 (by decide) ?_
    refine lv_iload_n X.1 X.2.1 dX5_one_406 rfl (lv_at hl 2 rfl) ?_
    refine lv_imul X.1 X.2.1 dX5_one_407 ?_
    refine lv_iload X.1 X.2.1 dX5_one_408 (lv_at hl 6 rfl) ?_
    refine lv_iadd X.1 X.2.1 dX5_one_410 ?_
    refine lv_iload X.1 X.2.1 dX5_one_411 (lv_at hl 7 rfl) ?_
    obtain ⟨h60, hF⟩ := fb_chk hF
    refine sM_7 X hI h60 dX5_one_413 (fun H locs hI => ?_)
    refine lv_goto (tgt := 575) X.1 X.2.1 dX5_one_414 (by decide) ?_
    refine lv_aload_n X.1 X.2.1 dX5_one_575 rfl (lv_at hl 1 rfl) ?_
    refine g_X5_state (v := gI σ 1) X hI rfl dX5_one_576 ?_
    refine lv_iconst (v := 1) X.1 X.2.1 dX5_one_579 (by decide) ?_
    refine lv_icmp_le (tgt := 598) X.1 X.2.1 dX5_one_580 (by decide) (fun c61 => ?_) (fun c61 => ?_)
    · replace hF := fb_pos c61 hF
      exact rt_v X hlk hr hI hF dX5_one_598
    · replace hF := fb_neg c61 hF
      refine lv_aload_n X.1 X.2.1 dX5_one_583 rfl (lv_at hl 1 rfl) ?_
      refine g_X5_frames (v := gI σ 7) X hI rfl dX5_one_584 ?_
      refine lv_iload_n X.1 X.2.1 dX5_one_587 rfl (lv_at hl 2 rfl) ?_
      refine lv_icmp_le (tgt := 598) X.1 X.2.1 dX5_one_588 (by decide) (fun c62 => ?_) (fun c62 => ?_)
      · replace hF := fb_pos c62 hF
        exact rt_v X hlk hr hI hF dX5_one_598
      · replace hF := fb_neg c62 hF
        refine lv_aload_n X.1 X.2.1 dX5_one_591 rfl (lv_at hl 1 rfl) ?_
        refine g_X5_place X hI dX5_one_592 ?_
        refine lv_iload_n X.1 X.2.1 dX5_one_595 rfl (lv_at hl 2 rfl) ?_
        refine lv_iload_n X.1 X.2.1 dX5_one_596 rfl (lv_at hl 4 rfl) ?_
        obtain ⟨h63, hF⟩ := fb_chk hF
        refine sM_5 X hI h63 dX5_one_597 (fun H locs hI => ?_)
        exact rt_v X hlk hr hI hF dX5_one_598
  replace hF := fb_neg c59 hF
  by_cases c64 : x5 = 8
  · replace hF := fb_pos c64 hF
    refine lv_tableIn (tgt := 417) X.1 X.2.1 dX5_one_287 (by rw [c64]; decide) (by rw [c64]; decide) (by rw [c64]; rfl) (by decide) ?_
    refine lv_aload_n X.1 X.2.1 dX5_one_417 rfl (lv_at hl 1 rfl) ?_
    refine g_X5_place X hI dX5_one_418 ?_
    refine lv_iload_n X.1 X.2.1 dX5_one_421 rfl (lv_at hl 2 rfl) ?_
    refine lv_dup2_11 X.1 X.2.1 dX5_one_422 rfl rfl ?_
    obtain ⟨h65, hF⟩ := fb_chk hF
    refine aM_5 (v := gA (sA σ 5 x1 (x3 + u17)) 5 x1) X hI rfl h65 dX5_one_423 ?_
    refine lv_iload X.1 X.2.1 dX5_one_424 (lv_at hl 7 rfl) ?_
    refine lv_if_ne (tgt := 434) X.1 X.2.1 dX5_one_426 (by decide) (fun c66 => ?_) (fun c66 => ?_)
    · replace hF := fb_neg c66 hF
      refine lv_iconst (v := 0) X.1 X.2.1 dX5_one_434 (by decide) ?_
      exact w_b_X5_one_435 X hlk hr hI x1 x3 0 (gA (sA σ 5 x1 (x3 + u17)) 5 x1) x1 hF ls (lv_sub hl [1, 2, 4] rfl)
    · replace hF := fb_pos c66 hF
      refine lv_iload X.1 X.2.1 dX5_one_429 (lv_at hl 6 rfl) ?_
      refine lv_goto (tgt := 435) X.1 X.2.1 dX5_one_431 (by decide) ?_
      exact w_b_X5_one_435 X hlk hr hI x1 x3 x6 (gA (sA σ 5 x1 (x3 + u17)) 5 x1) x1 hF ls (lv_sub hl [1, 2, 4] rfl)
  replace hF := fb_neg c64 hF
  by_cases c71 : x5 = 9
  · replace hF := fb_pos c71 hF
    refine lv_tableIn (tgt := 440) X.1 X.2.1 dX5_one_287 (by rw [c71]; decide) (by rw [c71]; decide) (by rw [c71]; rfl) (by decide) ?_
    refine lv_aload_n X.1 X.2.1 dX5_one_440 rfl (lv_at hl 1 rfl) ?_
    refine g_X5_place X hI dX5_one_441 ?_
    refine lv_iload_n X.1 X.2.1 dX5_one_444 rfl (lv_at hl 2 rfl) ?_
    refine lv_dup2_11 X.1 X.2.1 dX5_one_445 rfl rfl ?_
    obtain ⟨h72, hF⟩ := fb_chk hF
    refine aM_5 (v := gA (sA σ 5 x1 (x3 + u17)) 5 x1) X hI rfl h72 dX5_one_446 ?_
    refine lv_iload X.1 X.2.1 dX5_one_447 (lv_at hl 6 rfl) ?_
    refine lv_iadd X.1 X.2.1 dX5_one_449 ?_
    obtain ⟨h73, hF⟩ := fb_chk hF
    refine sM_5 X hI h73 dX5_one_450 (fun H locs hI => ?_)
    refine lv_goto (tgt := 575) X.1 X.2.1 dX5_one_451 (by decide) ?_
    refine lv_aload_n X.1 X.2.1 dX5_one_575 rfl (lv_at hl 1 rfl) ?_
    refine g_X5_state (v := gI σ 1) X hI rfl dX5_one_576 ?_
    refine lv_iconst (v := 1) X.1 X.2.1 dX5_one_579 (by decide) ?_
    refine lv_icmp_le (tgt := 598) X.1 X.2.1 dX5_one_580 (by decide) (fun c74 => ?_) (fun c74 => ?_)
    · replace hF := fb_pos c74 hF
      exact rt_v X hlk hr hI hF dX5_one_598
    · replace hF := fb_neg c74 hF
      refine lv_aload_n X.1 X.2.1 dX5_one_583 rfl (lv_at hl 1 rfl) ?_
      refine g_X5_frames (v := gI σ 7) X hI rfl dX5_one_584 ?_
      refine lv_iload_n X.1 X.2.1 dX5_one_587 rfl (lv_at hl 2 rfl) ?_
      refine lv_icmp_le (tgt := 598) X.1 X.2.1 dX5_one_588 (by decide) (fun c75 => ?_) (fun c75 => ?_)
      · replace hF := fb_pos c75 hF
        exact rt_v X hlk hr hI hF dX5_one_598
      · replace hF := fb_neg c75 hF
        refine lv_aload_n X.1 X.2.1 dX5_one_591 rfl (lv_at hl 1 rfl) ?_
        refine g_X5_place X hI dX5_one_592 ?_
        refine lv_iload_n X.1 X.2.1 dX5_one_595 rfl (lv_at hl 2 rfl) ?_
        refine lv_iload_n X.1 X.2.1 dX5_one_596 rfl (lv_at hl 4 rfl) ?_
        obtain ⟨h76, hF⟩ := fb_chk hF
        refine sM_5 X hI h76 dX5_one_597 (fun H locs hI => ?_)
        exact rt_v X hlk hr hI hF dX5_one_598
  replace hF := fb_neg c71 hF
  by_cases c77 : x5 = 10
  · replace hF := fb_pos c77 hF
    refine lv_tableIn (tgt := 454) X.1 X.2.1 dX5_one_287 (by rw [c77]; decide) (by rw [c77]; decide) (by rw [c77]; rfl) (by decide) ?_
    refine lv_aload_n X.1 X.2.1 dX5_one_454 rfl (lv_at hl 1 rfl) ?_
    refine lv_iload X.1 X.2.1 dX5_one_455 (lv_at hl 6 rfl) ?_
    refine lv_aload_n X.1 X.2.1 dX5_one_457 rfl (lv_at hl 1 rfl) ?_
    refine g_X5_disk X hI dX5_one_458 ?_
    refine lv_bipush (v := 80) X.1 X.2.1 dX5_one_461 (by decide) ?_
    refine lv_iload_n X.1 X.2.1 dX5_one_463 rfl (lv_at hl 3 rfl) ?_
    refine lv_imul X.1 X.2.1 dX5_one_464 ?_
    refine lv_iload_n X.1 X.2.1 dX5_one_465 rfl (lv_at hl 4 rfl) ?_
    refine lv_iadd X.1 X.2.1 dX5_one_466 ?_
    refine lv_iconst (v := 2) X.1 X.2.1 dX5_one_467 (by decide) ?_
    refine lv_iadd X.1 X.2.1 dX5_one_468 ?_
    obtain ⟨h78, hF⟩ := fb_chk hF
    refine aM_0 (v := gA σ 0 (((80 * x2) + x3) + 2)) X hI rfl h78 dX5_one_469 ?_
    refine lv_iload X.1 X.2.1 dX5_one_470 (lv_at hl 7 rfl) ?_
    obtain ⟨u79, h80, hF⟩ := fb_bnd hF
    refine cl_v (w := wM ty q) (σ := sA σ 5 x1 (x3 + u17)) (rest := []) X fxM hI (m_X5_call l D ty q (sA σ 5 x1 (x3 + u17)) _ x6 (gA σ 0 (((80 * x2) + x3) + 2)) x7 h80) ok_X5_call ml_X5_100 ⟨rfl, rfl, Nat.le_of_ble_eq_true rfl, Nat.le_of_ble_eq_true rfl⟩ 0 rc_X5 rfl rfl hl.1 rfl (Nat.le_of_ble_eq_true rfl) ⟨Nat.zero_le _, Nat.zero_le _⟩ dX5_one_472 (fun H locs hI => ?_)
    refine lv_goto (tgt := 575) X.1 X.2.1 dX5_one_475 (by decide) ?_
    refine lv_aload_n X.1 X.2.1 dX5_one_575 rfl (lv_at hl 1 rfl) ?_
    refine g_X5_state (v := gI u79.2 1) X hI rfl dX5_one_576 ?_
    refine lv_iconst (v := 1) X.1 X.2.1 dX5_one_579 (by decide) ?_
    refine lv_icmp_le (tgt := 598) X.1 X.2.1 dX5_one_580 (by decide) (fun c81 => ?_) (fun c81 => ?_)
    · replace hF := fb_pos c81 hF
      exact rt_v X hlk hr hI hF dX5_one_598
    · replace hF := fb_neg c81 hF
      refine lv_aload_n X.1 X.2.1 dX5_one_583 rfl (lv_at hl 1 rfl) ?_
      refine g_X5_frames (v := gI u79.2 7) X hI rfl dX5_one_584 ?_
      refine lv_iload_n X.1 X.2.1 dX5_one_587 rfl (lv_at hl 2 rfl) ?_
      refine lv_icmp_le (tgt := 598) X.1 X.2.1 dX5_one_588 (by decide) (fun c82 => ?_) (fun c82 => ?_)
      · replace hF := fb_pos c82 hF
        exact rt_v X hlk hr hI hF dX5_one_598
      · replace hF := fb_neg c82 hF
        refine lv_aload_n X.1 X.2.1 dX5_one_591 rfl (lv_at hl 1 rfl) ?_
        refine g_X5_place X hI dX5_one_592 ?_
        refine lv_iload_n X.1 X.2.1 dX5_one_595 rfl (lv_at hl 2 rfl) ?_
        refine lv_iload_n X.1 X.2.1 dX5_one_596 rfl (lv_at hl 4 rfl) ?_
        obtain ⟨h83, hF⟩ := fb_chk hF
        refine sM_5 X hI h83 dX5_one_597 (fun H locs hI => ?_)
        exact rt_v X hlk hr hI hF dX5_one_598
  replace hF := fb_neg c77 hF
  by_cases c84 : x5 = 11
  · replace hF := fb_pos c84 hF
    refine lv_tableIn (tgt := 478) X.1 X.2.1 dX5_one_287 (by rw [c84]; decide) (by rw [c84]; decide) (by rw [c84]; rfl) (by decide) ?_
    refine lv_aload_n X.1 X.2.1 dX5_one_478 rfl (lv_at hl 1 rfl) ?_
    refine lv_iload X.1 X.2.1 dX5_one_479 (lv_at hl 7 rfl) ?_
    obtain ⟨u85, h86, hF⟩ := fb_bnd hF
    refine cl_v (w := wM ty q) (σ := sA σ 5 x1 (x3 + u17)) (rest := []) X fxM hI (m_X5_back l D ty q (sA σ 5 x1 (x3 + u17)) _ x7 h86) ok_X5_back ml_X5_116 ⟨rfl, rfl, Nat.le_of_ble_eq_true rfl, Nat.le_of_ble_eq_true rfl⟩ 0 rc_X5 rfl rfl hl.1 rfl (Nat.le_of_ble_eq_true rfl) ⟨Nat.zero_le _, Nat.zero_le _⟩ dX5_one_481 (fun H locs hI => ?_)
    refine lv_goto (tgt := 575) X.1 X.2.1 dX5_one_484 (by decide) ?_
    refine lv_aload_n X.1 X.2.1 dX5_one_575 rfl (lv_at hl 1 rfl) ?_
    refine g_X5_state (v := gI u85.2 1) X hI rfl dX5_one_576 ?_
    refine lv_iconst (v := 1) X.1 X.2.1 dX5_one_579 (by decide) ?_
    refine lv_icmp_le (tgt := 598) X.1 X.2.1 dX5_one_580 (by decide) (fun c87 => ?_) (fun c87 => ?_)
    · replace hF := fb_pos c87 hF
      exact rt_v X hlk hr hI hF dX5_one_598
    · replace hF := fb_neg c87 hF
      refine lv_aload_n X.1 X.2.1 dX5_one_583 rfl (lv_at hl 1 rfl) ?_
      refine g_X5_frames (v := gI u85.2 7) X hI rfl dX5_one_584 ?_
      refine lv_iload_n X.1 X.2.1 dX5_one_587 rfl (lv_at hl 2 rfl) ?_
      refine lv_icmp_le (tgt := 598) X.1 X.2.1 dX5_one_588 (by decide) (fun c88 => ?_) (fun c88 => ?_)
      · replace hF := fb_pos c88 hF
        exact rt_v X hlk hr hI hF dX5_one_598
      · replace hF := fb_neg c88 hF
        refine lv_aload_n X.1 X.2.1 dX5_one_591 rfl (lv_at hl 1 rfl) ?_
        refine g_X5_place X hI dX5_one_592 ?_
        refine lv_iload_n X.1 X.2.1 dX5_one_595 rfl (lv_at hl 2 rfl) ?_
        refine lv_iload_n X.1 X.2.1 dX5_one_596 rfl (lv_at hl 4 rfl) ?_
        obtain ⟨h89, hF⟩ := fb_chk hF
        refine sM_5 X hI h89 dX5_one_597 (fun H locs hI => ?_)
        exact rt_v X hlk hr hI hF dX5_one_598
  replace hF := fb_neg c84 hF
  by_cases c90 : x5 = 12
  · replace hF := fb_pos c90 hF
    refine lv_tableIn (tgt := 487) X.1 X.2.1 dX5_one_287 (by rw [c90]; decide) (by rw [c90]; decide) (by rw [c90]; rfl) (by decide) ?_
    refine lv_aload_n X.1 X.2.1 dX5_one_487 rfl (lv_at hl 1 rfl) ?_
    refine g_X5_put X hI dX5_one_488 ?_
    refine lv_aload_n X.1 X.2.1 dX5_one_491 rfl (lv_at hl 1 rfl) ?_
    refine g_X5_puts (v := gI σ 10) X hI rfl dX5_one_492 ?_
    refine lv_iload X.1 X.2.1 dX5_one_495 (lv_at hl 7 rfl) ?_
    obtain ⟨h91, hF⟩ := fb_chk hF
    refine sM_10 X hI h91 dX5_one_497 (fun H locs hI => ?_)
    refine lv_aload_n X.1 X.2.1 dX5_one_498 rfl (lv_at hl 1 rfl) ?_
    refine lv_dup X.1 X.2.1 dX5_one_499 rfl ?_
    refine g_X5_puts (v := gI σ 10) X hI rfl dX5_one_500 ?_
    refine lv_iconst (v := 1) X.1 X.2.1 dX5_one_503 (by decide) ?_
    refine lv_iadd X.1 X.2.1 dX5_one_504 ?_
    refine p_X5_puts X hI dX5_one_505 (fun H locs hI => ?_)
    refine lv_goto (tgt := 575) X.1 X.2.1 dX5_one_508 (by decide) ?_
    refine lv_aload_n X.1 X.2.1 dX5_one_575 rfl (lv_at hl 1 rfl) ?_
    refine g_X5_state (v := gI σ 1) X hI rfl dX5_one_576 ?_
    refine lv_iconst (v := 1) X.1 X.2.1 dX5_one_579 (by decide) ?_
    refine lv_icmp_le (tgt := 598) X.1 X.2.1 dX5_one_580 (by decide) (fun c92 => ?_) (fun c92 => ?_)
    · replace hF := fb_pos c92 hF
      exact rt_v X hlk hr hI hF dX5_one_598
    · replace hF := fb_neg c92 hF
      refine lv_aload_n X.1 X.2.1 dX5_one_583 rfl (lv_at hl 1 rfl) ?_
      refine g_X5_frames (v := gI σ 7) X hI rfl dX5_one_584 ?_
      refine lv_iload_n X.1 X.2.1 dX5_one_587 rfl (lv_at hl 2 rfl) ?_
      refine lv_icmp_le (tgt := 598) X.1 X.2.1 dX5_one_588 (by decide) (fun c93 => ?_) (fun c93 => ?_)
      · replace hF := fb_pos c93 hF
        exact rt_v X hlk hr hI hF dX5_one_598
      · replace hF := fb_neg c93 hF
        refine lv_aload_n X.1 X.2.1 dX5_one_591 rfl (lv_at hl 1 rfl) ?_
        refine g_X5_place X hI dX5_one_592 ?_
        refine lv_iload_n X.1 X.2.1 dX5_one_595 rfl (lv_at hl 2 rfl) ?_
        refine lv_iload_n X.1 X.2.1 dX5_one_596 rfl (lv_at hl 4 rfl) ?_
        obtain ⟨h94, hF⟩ := fb_chk hF
        refine sM_5 X hI h94 dX5_one_597 (fun H locs hI => ?_)
        exact rt_v X hlk hr hI hF dX5_one_598
  replace hF := fb_neg c90 hF
  have hDf : W p l e rm_X5_one s m args below meth c H locs 0 0 (MQ below (Qvw D ty (wM ty q) A res) args s 0 0 A) (F0 m 511 ls []) := by
    refine lv_aload_n X.1 X.2.1 dX5_one_511 rfl (lv_at hl 1 rfl) ?_
    refine lv_iload X.1 X.2.1 dX5_one_512 (lv_at hl 5 rfl) ?_
    refine lv_iconst (v := 4) X.1 X.2.1 dX5_one_514 (by decide) ?_
    refine lv_icmp_ne (tgt := 526) X.1 X.2.1 dX5_one_515 (by decide) (fun c95 => ?_) (fun c95 => ?_)
    · replace hF := fb_neg c95 hF
      refine lv_iload X.1 X.2.1 dX5_one_526 (lv_at hl 5 rfl) ?_
      refine lv_iconst (v := 5) X.1 X.2.1 dX5_one_528 (by decide) ?_
      refine lv_icmp_ne (tgt := 540) X.1 X.2.1 dX5_one_529 (by decide) (fun c96 => ?_) (fun c96 => ?_)
      · replace hF := fb_neg c96 hF
        refine lv_iload X.1 X.2.1 dX5_one_540 (lv_at hl 5 rfl) ?_
        refine lv_bipush (v := 7) X.1 X.2.1 dX5_one_542 (by decide) ?_
        refine lv_icmp_ne (tgt := 555) X.1 X.2.1 dX5_one_544 (by decide) (fun c97 => ?_) (fun c97 => ?_)
        · replace hF := fb_neg c97 hF
          refine lv_iload X.1 X.2.1 dX5_one_555 (lv_at hl 0 rfl) ?_
          refine lv_iload X.1 X.2.1 dX5_one_557 (lv_at hl 7 rfl) ?_
          refine lv_icmp_ge (tgt := 566) X.1 X.2.1 dX5_one_559 (by decide) (fun c98 => ?_) (fun c98 => ?_)
          · replace hF := fb_pos c98 hF
            refine lv_iconst (v := 0) X.1 X.2.1 dX5_one_566 (by decide) ?_
            exact w_b_X5_one_567 X hlk hr hI x1 x3 0 hF ls (lv_sub hl [1, 2, 4] rfl)
          · replace hF := fb_neg c98 hF
            refine lv_iconst (v := 1) X.1 X.2.1 dX5_one_562 (by decide) ?_
            refine lv_goto (tgt := 567) X.1 X.2.1 dX5_one_563 (by decide) ?_
            exact w_b_X5_one_567 X hlk hr hI x1 x3 1 hF ls (lv_sub hl [1, 2, 4] rfl)
        · replace hF := fb_pos c97 hF
          refine lv_iload X.1 X.2.1 dX5_one_547 (lv_at hl 0 rfl) ?_
          refine lv_iload X.1 X.2.1 dX5_one_549 (lv_at hl 7 rfl) ?_
          refine lv_imul X.1 X.2.1 dX5_one_551 ?_
          refine lv_goto (tgt := 567) X.1 X.2.1 dX5_one_552 (by decide) ?_
          exact w_b_X5_one_567 X hlk hr hI x1 x3 (z0 * x7) hF ls (lv_sub hl [1, 2, 4] rfl)
      · replace hF := fb_pos c96 hF
        refine lv_iload X.1 X.2.1 dX5_one_532 (lv_at hl 0 rfl) ?_
        refine lv_iload X.1 X.2.1 dX5_one_534 (lv_at hl 7 rfl) ?_
        refine lv_isub X.1 X.2.1 dX5_one_536 ?_
        refine lv_goto (tgt := 567) X.1 X.2.1 dX5_one_537 (by decide) ?_
        exact w_b_X5_one_567 X hlk hr hI x1 x3 (z0 - x7) hF ls (lv_sub hl [1, 2, 4] rfl)
    · replace hF := fb_pos c95 hF
      refine lv_iload X.1 X.2.1 dX5_one_518 (lv_at hl 0 rfl) ?_
      refine lv_iload X.1 X.2.1 dX5_one_520 (lv_at hl 7 rfl) ?_
      refine lv_iadd X.1 X.2.1 dX5_one_522 ?_
      refine lv_goto (tgt := 567) X.1 X.2.1 dX5_one_523 (by decide) ?_
      exact w_b_X5_one_567 X hlk hr hI x1 x3 (z0 + x7) hF ls (lv_sub hl [1, 2, 4] rfl)
  by_cases c104 : x5 = 4
  · exact lv_tableIn (tgt := 511) X.1 X.2.1 dX5_one_287 (by rw [c104]; decide) (by rw [c104]; decide) (by rw [c104]; rfl) (by decide) hDf
  by_cases c105 : x5 = 5
  · exact lv_tableIn (tgt := 511) X.1 X.2.1 dX5_one_287 (by rw [c105]; decide) (by rw [c105]; decide) (by rw [c105]; rfl) (by decide) hDf
  by_cases c106 : x5 = 6
  · exact lv_tableIn (tgt := 511) X.1 X.2.1 dX5_one_287 (by rw [c106]; decide) (by rw [c106]; decide) (by rw [c106]; rfl) (by decide) hDf
  by_cases c107 : x5 = 7
  · exact lv_tableIn (tgt := 511) X.1 X.2.1 dX5_one_287 (by rw [c107]; decide) (by rw [c107]; decide) (by rw [c107]; rfl) (by decide) hDf
  refine lv_tableOut (tgt := 511) X.1 X.2.1 dX5_one_287 ?_ (by decide) hDf
  by_cases g108 : (x5).toInt < 0
  · exact Or.inl g108
  · refine Or.inr ?_
    have n0 : ¬ (x5).toInt = 0 := fun h => c20 (Int32.toInt_inj.mp (h.trans (by decide)))
    have n1 : ¬ (x5).toInt = 1 := fun h => c23 (Int32.toInt_inj.mp (h.trans (by decide)))
    have n2 : ¬ (x5).toInt = 2 := fun h => c46 (Int32.toInt_inj.mp (h.trans (by decide)))
    have n3 : ¬ (x5).toInt = 3 := fun h => c59 (Int32.toInt_inj.mp (h.trans (by decide)))
    have n4 : ¬ (x5).toInt = 4 := fun h => c104 (Int32.toInt_inj.mp (h.trans (by decide)))
    have n5 : ¬ (x5).toInt = 5 := fun h => c105 (Int32.toInt_inj.mp (h.trans (by decide)))
    have n6 : ¬ (x5).toInt = 6 := fun h => c106 (Int32.toInt_inj.mp (h.trans (by decide)))
    have n7 : ¬ (x5).toInt = 7 := fun h => c107 (Int32.toInt_inj.mp (h.trans (by decide)))
    have n8 : ¬ (x5).toInt = 8 := fun h => c64 (Int32.toInt_inj.mp (h.trans (by decide)))
    have n9 : ¬ (x5).toInt = 9 := fun h => c71 (Int32.toInt_inj.mp (h.trans (by decide)))
    have n10 : ¬ (x5).toInt = 10 := fun h => c77 (Int32.toInt_inj.mp (h.trans (by decide)))
    have n11 : ¬ (x5).toInt = 11 := fun h => c84 (Int32.toInt_inj.mp (h.trans (by decide)))
    have n12 : ¬ (x5).toInt = 12 := fun h => c90 (Int32.toInt_inj.mp (h.trans (by decide)))
    omega
def b_X5_one_251 (x1 x2 x3 x5 x6 z0 : Int32) (σ : St) : Option (Int32 × St) :=
  (f_X5_takes x5 σ).bind fun u14 =>
  if u14 ≤ 1 then
    b_X5_one_270 x1 x2 x3 x5 x6 z0 0 σ
  else
    (f_X5_pop σ).bind fun u109 =>
    b_X5_one_270 x1 x2 x3 x5 x6 z0 u109.1 u109.2
set_option maxHeartbeats 4000000 in
set_option maxRecDepth 100000 in
theorem w_b_X5_one_251 {l : Launch} {p : Program} {e : Env} {s : State} {m : MethodId} {args : Array Value} {below : List Frame} {meth : Method} {c : Code} {A : Nat → Prop} {D : va_G} {ty : Nat → ClassId} {q : Nat → Nat} {res : Int32 × St} (X : CallFix p m c cX5_one 10 s args tb RX5) (hlk : meth.locks = false) (hr : meth.sig.returnType = none) {σ : St} {H : Heap} {locs : List Loc} (hI : Inw D ty FxM (wM ty q σ) A s H locs) (x1 x2 x3 x5 x6 z0 : Int32) (hF : b_X5_one_251 x1 x2 x3 x5 x6 z0 σ = some res) (ls : Array Slot) (hl : lv_has ls 10 [(0, .ref (q 0)), (1, .int x1), (2, .int x2), (3, .int x3), (5, .int x5), (6, .int x6)]) : W p l e rm_X5_one s m args below meth c H locs 0 0 (MQ below (Qvw D ty (wM ty q) A res) args s 0 0 A) (F0 m 251 ls [.int z0]) := by
  unfold b_X5_one_251 at hF
  refine lv_istore (lv' := [(7, .int z0), (0, .ref (q 0)), (1, .int x1), (2, .int x2), (3, .int x3), (5, .int x5), (6, .int x6)]) X.1 X.2.1 dX5_one_251 hl (by decide) rfl (fun ls hl => ?_)
  refine lv_iload X.1 X.2.1 dX5_one_253 (lv_at hl 5 rfl) ?_
  obtain ⟨u14, h15, hF⟩ := fb_bnd hF
  refine cs_i (w := wM ty q) (σ := σ) (rest := []) X fxM hI (m_X5_takes l D ty q σ _ x5 h15) ok_X5_takes ml_X5_107 ⟨rfl, rfl, Nat.le_of_ble_eq_true rfl, Nat.le_of_ble_eq_true rfl⟩ rfl hl.1 rfl (Nat.le_of_ble_eq_true rfl) ⟨Nat.zero_le _, Nat.zero_le _⟩ dX5_one_255 (fun H locs hI => ?_)
  refine lv_iconst (v := 1) X.1 X.2.1 dX5_one_258 (by decide) ?_
  refine lv_icmp_le (tgt := 269) X.1 X.2.1 dX5_one_259 (by decide) (fun c16 => ?_) (fun c16 => ?_)
  · replace hF := fb_pos c16 hF
    refine lv_iconst (v := 0) X.1 X.2.1 dX5_one_269 (by decide) ?_
    exact w_b_X5_one_270 X hlk hr hI x1 x2 x3 x5 x6 z0 0 hF ls (lv_sub hl [1, 2, 3, 4, 5, 6, 0] rfl)
  · replace hF := fb_neg c16 hF
    refine lv_aload_n X.1 X.2.1 dX5_one_262 rfl (lv_at hl 1 rfl) ?_
    obtain ⟨u109, h110, hF⟩ := fb_bnd hF
    refine cl_i (w := wM ty q) (σ := σ) (rest := []) X fxM hI (m_X5_pop l D ty q σ _  h110) ok_X5_pop ml_X5_110 ⟨rfl, rfl, Nat.le_of_ble_eq_true rfl, Nat.le_of_ble_eq_true rfl⟩ 0 rc_X5 rfl rfl hl.1 rfl (Nat.le_of_ble_eq_true rfl) ⟨Nat.zero_le _, Nat.zero_le _⟩ dX5_one_263 (fun H locs hI => ?_)
    refine lv_goto (tgt := 270) X.1 X.2.1 dX5_one_266 (by decide) ?_
    exact w_b_X5_one_270 X hlk hr hI x1 x2 x3 x5 x6 z0 u109.1 hF ls (lv_sub hl [1, 2, 3, 4, 5, 6, 0] rfl)
def b_X5_one_224 (x1 x2 x3 x4 x5 x6 : Int32) (σ : St) : Option (Int32 × St) :=
  if x4 = 0 then
    some (0, sI σ 1 3)
  else
    (f_X5_takes x5 σ).bind fun u11 =>
    if u11 ≤ 0 then
      b_X5_one_251 x1 x2 x3 x5 x6 0 σ
    else
      (f_X5_pop σ).bind fun u111 =>
      b_X5_one_251 x1 x2 x3 x5 x6 u111.1 u111.2
set_option maxHeartbeats 4000000 in
set_option maxRecDepth 100000 in
theorem w_b_X5_one_224 {l : Launch} {p : Program} {e : Env} {s : State} {m : MethodId} {args : Array Value} {below : List Frame} {meth : Method} {c : Code} {A : Nat → Prop} {D : va_G} {ty : Nat → ClassId} {q : Nat → Nat} {res : Int32 × St} (X : CallFix p m c cX5_one 10 s args tb RX5) (hlk : meth.locks = false) (hr : meth.sig.returnType = none) {σ : St} {H : Heap} {locs : List Loc} (hI : Inw D ty FxM (wM ty q σ) A s H locs) (x1 x2 x3 x4 x5 x6 : Int32) (hF : b_X5_one_224 x1 x2 x3 x4 x5 x6 σ = some res) (ls : Array Slot) (hl : lv_has ls 10 [(0, .ref (q 0)), (1, .int x1), (2, .int x2), (3, .int x3), (4, .int x4), (5, .int x5), (6, .int x6)]) : W p l e rm_X5_one s m args below meth c H locs 0 0 (MQ below (Qvw D ty (wM ty q) A res) args s 0 0 A) (F0 m 224 ls []) := by
  unfold b_X5_one_224 at hF
  refine lv_iload X.1 X.2.1 dX5_one_224 (lv_at hl 4 rfl) ?_
  refine lv_if_ne (tgt := 235) X.1 X.2.1 dX5_one_226 (by decide) (fun c10 => ?_) (fun c10 => ?_)
  · replace hF := fb_neg c10 hF
    refine lv_iload X.1 X.2.1 dX5_one_235 (lv_at hl 5 rfl) ?_
    obtain ⟨u11, h12, hF⟩ := fb_bnd hF
    refine cs_i (w := wM ty q) (σ := σ) (rest := []) X fxM hI (m_X5_takes l D ty q σ _ x5 h12) ok_X5_takes ml_X5_107 ⟨rfl, rfl, Nat.le_of_ble_eq_true rfl, Nat.le_of_ble_eq_true rfl⟩ rfl hl.1 rfl (Nat.le_of_ble_eq_true rfl) ⟨Nat.zero_le _, Nat.zero_le _⟩ dX5_one_237 (fun H locs hI => ?_)
    refine lv_if_le (tgt := 250) X.1 X.2.1 dX5_one_240 (by decide) (fun c13 => ?_) (fun c13 => ?_)
    · replace hF := fb_pos c13 hF
      refine lv_iconst (v := 0) X.1 X.2.1 dX5_one_250 (by decide) ?_
      exact w_b_X5_one_251 X hlk hr hI x1 x2 x3 x5 x6 0 hF ls (lv_sub hl [0, 1, 2, 3, 5, 6] rfl)
    · replace hF := fb_neg c13 hF
      refine lv_aload_n X.1 X.2.1 dX5_one_243 rfl (lv_at hl 0 rfl) ?_
      obtain ⟨u111, h112, hF⟩ := fb_bnd hF
      refine cl_i (w := wM ty q) (σ := σ) (rest := []) X fxM hI (m_X5_pop l D ty q σ _  h112) ok_X5_pop ml_X5_110 ⟨rfl, rfl, Nat.le_of_ble_eq_true rfl, Nat.le_of_ble_eq_true rfl⟩ 0 rc_X5 rfl rfl hl.1 rfl (Nat.le_of_ble_eq_true rfl) ⟨Nat.zero_le _, Nat.zero_le _⟩ dX5_one_244 (fun H locs hI => ?_)
      refine lv_goto (tgt := 251) X.1 X.2.1 dX5_one_247 (by decide) ?_
      exact w_b_X5_one_251 X hlk hr hI x1 x2 x3 x5 x6 u111.1 hF ls (lv_sub hl [0, 1, 2, 3, 5, 6] rfl)
  · replace hF := fb_pos c10 hF
    refine lv_aload_n X.1 X.2.1 dX5_one_229 rfl (lv_at hl 0 rfl) ?_
    refine lv_iconst (v := 3) X.1 X.2.1 dX5_one_230 (by decide) ?_
    refine p_X5_state X hI dX5_one_231 (fun H locs hI => ?_)
    exact rt_v X hlk hr hI hF dX5_one_234
def b_X5_one_222 (x1 x2 x3 x5 x6 z0 : Int32) (σ : St) : Option (Int32 × St) :=
  b_X5_one_224 x1 x2 x3 z0 x5 x6 σ
set_option maxHeartbeats 4000000 in
set_option maxRecDepth 100000 in
theorem w_b_X5_one_222 {l : Launch} {p : Program} {e : Env} {s : State} {m : MethodId} {args : Array Value} {below : List Frame} {meth : Method} {c : Code} {A : Nat → Prop} {D : va_G} {ty : Nat → ClassId} {q : Nat → Nat} {res : Int32 × St} (X : CallFix p m c cX5_one 10 s args tb RX5) (hlk : meth.locks = false) (hr : meth.sig.returnType = none) {σ : St} {H : Heap} {locs : List Loc} (hI : Inw D ty FxM (wM ty q σ) A s H locs) (x1 x2 x3 x5 x6 z0 : Int32) (hF : b_X5_one_222 x1 x2 x3 x5 x6 z0 σ = some res) (ls : Array Slot) (hl : lv_has ls 10 [(0, .ref (q 0)), (1, .int x1), (2, .int x2), (3, .int x3), (5, .int x5), (6, .int x6)]) : W p l e rm_X5_one s m args below meth c H locs 0 0 (MQ below (Qvw D ty (wM ty q) A res) args s 0 0 A) (F0 m 222 ls [.int z0]) := by
  unfold b_X5_one_222 at hF
  refine lv_istore (lv' := [(4, .int z0), (0, .ref (q 0)), (1, .int x1), (2, .int x2), (3, .int x3), (5, .int x5), (6, .int x6)]) X.1 X.2.1 dX5_one_222 hl (by decide) rfl (fun ls hl => ?_)
  exact w_b_X5_one_224 X hlk hr hI x1 x2 x3 z0 x5 x6 hF ls (lv_sub hl [1, 2, 3, 4, 0, 5, 6] rfl)
def b_X5_one_221 (x1 x2 x3 x5 x6 : Int32) (σ : St) : Option (Int32 × St) :=
  b_X5_one_222 x1 x2 x3 x5 x6 0 σ
set_option maxHeartbeats 4000000 in
set_option maxRecDepth 100000 in
theorem w_b_X5_one_221 {l : Launch} {p : Program} {e : Env} {s : State} {m : MethodId} {args : Array Value} {below : List Frame} {meth : Method} {c : Code} {A : Nat → Prop} {D : va_G} {ty : Nat → ClassId} {q : Nat → Nat} {res : Int32 × St} (X : CallFix p m c cX5_one 10 s args tb RX5) (hlk : meth.locks = false) (hr : meth.sig.returnType = none) {σ : St} {H : Heap} {locs : List Loc} (hI : Inw D ty FxM (wM ty q σ) A s H locs) (x1 x2 x3 x5 x6 : Int32) (hF : b_X5_one_221 x1 x2 x3 x5 x6 σ = some res) (ls : Array Slot) (hl : lv_has ls 10 [(0, .ref (q 0)), (1, .int x1), (2, .int x2), (3, .int x3), (5, .int x5), (6, .int x6)]) : W p l e rm_X5_one s m args below meth c H locs 0 0 (MQ below (Qvw D ty (wM ty q) A res) args s 0 0 A) (F0 m 221 ls []) := by
  unfold b_X5_one_221 at hF
  refine lv_iconst (v := 0) X.1 X.2.1 dX5_one_221 (by decide) ?_
  exact w_b_X5_one_222 X hlk hr hI x1 x2 x3 x5 x6 0 hF ls (lv_sub hl [0, 1, 2, 3, 4, 5] rfl)
def b_X5_one_196 (x1 x2 x3 x4 x5 x6 : Int32) (σ : St) : Option (Int32 × St) :=
  if x5 = 12 then
    if x4 = 0 then
      b_X5_one_221 x1 x2 x3 x5 x6 σ
    else
      if 40 ≤ (gI σ 10) then
        b_X5_one_221 x1 x2 x3 x5 x6 σ
      else
        b_X5_one_222 x1 x2 x3 x5 x6 1 σ
  else
    b_X5_one_224 x1 x2 x3 x4 x5 x6 σ
set_option maxHeartbeats 4000000 in
set_option maxRecDepth 100000 in
theorem w_b_X5_one_196 {l : Launch} {p : Program} {e : Env} {s : State} {m : MethodId} {args : Array Value} {below : List Frame} {meth : Method} {c : Code} {A : Nat → Prop} {D : va_G} {ty : Nat → ClassId} {q : Nat → Nat} {res : Int32 × St} (X : CallFix p m c cX5_one 10 s args tb RX5) (hlk : meth.locks = false) (hr : meth.sig.returnType = none) {σ : St} {H : Heap} {locs : List Loc} (hI : Inw D ty FxM (wM ty q σ) A s H locs) (x1 x2 x3 x4 x5 x6 : Int32) (hF : b_X5_one_196 x1 x2 x3 x4 x5 x6 σ = some res) (ls : Array Slot) (hl : lv_has ls 10 [(0, .ref (q 0)), (1, .int x1), (2, .int x2), (3, .int x3), (4, .int x4), (5, .int x5), (6, .int x6)]) : W p l e rm_X5_one s m args below meth c H locs 0 0 (MQ below (Qvw D ty (wM ty q) A res) args s 0 0 A) (F0 m 196 ls []) := by
  unfold b_X5_one_196 at hF
  refine lv_iload X.1 X.2.1 dX5_one_196 (lv_at hl 5 rfl) ?_
  refine lv_bipush (v := 12) X.1 X.2.1 dX5_one_198 (by decide) ?_
  refine lv_icmp_ne (tgt := 224) X.1 X.2.1 dX5_one_200 (by decide) (fun c9 => ?_) (fun c9 => ?_)
  · replace hF := fb_neg c9 hF
    exact w_b_X5_one_224 X hlk hr hI x1 x2 x3 x4 x5 x6 hF ls (lv_sub hl [0, 1, 2, 3, 4, 5, 6] rfl)
  · replace hF := fb_pos c9 hF
    refine lv_iload X.1 X.2.1 dX5_one_203 (lv_at hl 4 rfl) ?_
    refine lv_if_eq (tgt := 221) X.1 X.2.1 dX5_one_205 (by decide) (fun c113 => ?_) (fun c113 => ?_)
    · replace hF := fb_pos c113 hF
      exact w_b_X5_one_221 X hlk hr hI x1 x2 x3 x5 x6 hF ls (lv_sub hl [0, 1, 2, 3, 5, 6] rfl)
    · replace hF := fb_neg c113 hF
      refine lv_aload_n X.1 X.2.1 dX5_one_208 rfl (lv_at hl 0 rfl) ?_
      refine g_X5_puts (v := gI σ 10) X hI rfl dX5_one_209 ?_
      refine lv_bipush (v := 40) X.1 X.2.1 dX5_one_212 (by decide) ?_
      refine lv_icmp_ge (tgt := 221) X.1 X.2.1 dX5_one_214 (by decide) (fun c114 => ?_) (fun c114 => ?_)
      · replace hF := fb_pos c114 hF
        exact w_b_X5_one_221 X hlk hr hI x1 x2 x3 x5 x6 hF ls (lv_sub hl [0, 1, 2, 3, 5, 6] rfl)
      · replace hF := fb_neg c114 hF
        refine lv_iconst (v := 1) X.1 X.2.1 dX5_one_217 (by decide) ?_
        refine lv_goto (tgt := 222) X.1 X.2.1 dX5_one_218 (by decide) ?_
        exact w_b_X5_one_222 X hlk hr hI x1 x2 x3 x5 x6 1 hF ls (lv_sub hl [0, 1, 2, 3, 5, 6] rfl)
def b_X5_one_194 (x1 x2 x3 x5 x6 z0 : Int32) (σ : St) : Option (Int32 × St) :=
  b_X5_one_196 x1 x2 x3 z0 x5 x6 σ
set_option maxHeartbeats 4000000 in
set_option maxRecDepth 100000 in
theorem w_b_X5_one_194 {l : Launch} {p : Program} {e : Env} {s : State} {m : MethodId} {args : Array Value} {below : List Frame} {meth : Method} {c : Code} {A : Nat → Prop} {D : va_G} {ty : Nat → ClassId} {q : Nat → Nat} {res : Int32 × St} (X : CallFix p m c cX5_one 10 s args tb RX5) (hlk : meth.locks = false) (hr : meth.sig.returnType = none) {σ : St} {H : Heap} {locs : List Loc} (hI : Inw D ty FxM (wM ty q σ) A s H locs) (x1 x2 x3 x5 x6 z0 : Int32) (hF : b_X5_one_194 x1 x2 x3 x5 x6 z0 σ = some res) (ls : Array Slot) (hl : lv_has ls 10 [(0, .ref (q 0)), (1, .int x1), (2, .int x2), (3, .int x3), (5, .int x5), (6, .int x6)]) : W p l e rm_X5_one s m args below meth c H locs 0 0 (MQ below (Qvw D ty (wM ty q) A res) args s 0 0 A) (F0 m 194 ls [.int z0]) := by
  unfold b_X5_one_194 at hF
  refine lv_istore (lv' := [(4, .int z0), (0, .ref (q 0)), (1, .int x1), (2, .int x2), (3, .int x3), (5, .int x5), (6, .int x6)]) X.1 X.2.1 dX5_one_194 hl (by decide) rfl (fun ls hl => ?_)
  exact w_b_X5_one_196 X hlk hr hI x1 x2 x3 z0 x5 x6 hF ls (lv_sub hl [1, 2, 3, 4, 0, 5, 6] rfl)
def b_X5_one_193 (x1 x2 x3 x5 x6 : Int32) (σ : St) : Option (Int32 × St) :=
  b_X5_one_194 x1 x2 x3 x5 x6 0 σ
set_option maxHeartbeats 4000000 in
set_option maxRecDepth 100000 in
theorem w_b_X5_one_193 {l : Launch} {p : Program} {e : Env} {s : State} {m : MethodId} {args : Array Value} {below : List Frame} {meth : Method} {c : Code} {A : Nat → Prop} {D : va_G} {ty : Nat → ClassId} {q : Nat → Nat} {res : Int32 × St} (X : CallFix p m c cX5_one 10 s args tb RX5) (hlk : meth.locks = false) (hr : meth.sig.returnType = none) {σ : St} {H : Heap} {locs : List Loc} (hI : Inw D ty FxM (wM ty q σ) A s H locs) (x1 x2 x3 x5 x6 : Int32) (hF : b_X5_one_193 x1 x2 x3 x5 x6 σ = some res) (ls : Array Slot) (hl : lv_has ls 10 [(0, .ref (q 0)), (1, .int x1), (2, .int x2), (3, .int x3), (5, .int x5), (6, .int x6)]) : W p l e rm_X5_one s m args below meth c H locs 0 0 (MQ below (Qvw D ty (wM ty q) A res) args s 0 0 A) (F0 m 193 ls []) := by
  unfold b_X5_one_193 at hF
  refine lv_iconst (v := 0) X.1 X.2.1 dX5_one_193 (by decide) ?_
  exact w_b_X5_one_194 X hlk hr hI x1 x2 x3 x5 x6 0 hF ls (lv_sub hl [0, 1, 2, 3, 4, 5] rfl)
def b_X5_one_168 (x1 x2 x3 x4 x5 x6 : Int32) (σ : St) : Option (Int32 × St) :=
  if x4 = 0 then
    b_X5_one_193 x1 x2 x3 x5 x6 σ
  else
    if x6 < 0 then
      b_X5_one_193 x1 x2 x3 x5 x6 σ
    else
      if inB x1 520 = true then
        if (gA σ 6 x1) ≤ x6 then
          b_X5_one_193 x1 x2 x3 x5 x6 σ
        else
          b_X5_one_194 x1 x2 x3 x5 x6 1 σ
      else none
set_option maxHeartbeats 4000000 in
set_option maxRecDepth 100000 in
theorem w_b_X5_one_168 {l : Launch} {p : Program} {e : Env} {s : State} {m : MethodId} {args : Array Value} {below : List Frame} {meth : Method} {c : Code} {A : Nat → Prop} {D : va_G} {ty : Nat → ClassId} {q : Nat → Nat} {res : Int32 × St} (X : CallFix p m c cX5_one 10 s args tb RX5) (hlk : meth.locks = false) (hr : meth.sig.returnType = none) {σ : St} {H : Heap} {locs : List Loc} (hI : Inw D ty FxM (wM ty q σ) A s H locs) (x1 x2 x3 x4 x5 x6 : Int32) (hF : b_X5_one_168 x1 x2 x3 x4 x5 x6 σ = some res) (ls : Array Slot) (hl : lv_has ls 10 [(0, .ref (q 0)), (1, .int x1), (2, .int x2), (3, .int x3), (4, .int x4), (5, .int x5), (6, .int x6)]) : W p l e rm_X5_one s m args below meth c H locs 0 0 (MQ below (Qvw D ty (wM ty q) A res) args s 0 0 A) (F0 m 168 ls []) := by
  unfold b_X5_one_168 at hF
  refine lv_iload X.1 X.2.1 dX5_one_168 (lv_at hl 4 rfl) ?_
  refine lv_if_eq (tgt := 193) X.1 X.2.1 dX5_one_170 (by decide) (fun c8 => ?_) (fun c8 => ?_)
  · replace hF := fb_pos c8 hF
    exact w_b_X5_one_193 X hlk hr hI x1 x2 x3 x5 x6 hF ls (lv_sub hl [0, 1, 2, 3, 5, 6] rfl)
  · replace hF := fb_neg c8 hF
    refine lv_iload X.1 X.2.1 dX5_one_173 (lv_at hl 6 rfl) ?_
    refine lv_if_lt (tgt := 193) X.1 X.2.1 dX5_one_175 (by decide) (fun c115 => ?_) (fun c115 => ?_)
    · replace hF := fb_pos c115 hF
      exact w_b_X5_one_193 X hlk hr hI x1 x2 x3 x5 x6 hF ls (lv_sub hl [0, 1, 2, 3, 5, 6] rfl)
    · replace hF := fb_neg c115 hF
      refine lv_iload X.1 X.2.1 dX5_one_178 (lv_at hl 6 rfl) ?_
      refine lv_aload_n X.1 X.2.1 dX5_one_180 rfl (lv_at hl 0 rfl) ?_
      refine g_X5_locals X hI dX5_one_181 ?_
      refine lv_iload_n X.1 X.2.1 dX5_one_184 rfl (lv_at hl 1 rfl) ?_
      obtain ⟨h116, hF⟩ := fb_chk hF
      refine aM_6 (v := gA σ 6 x1) X hI rfl h116 dX5_one_185 ?_
      refine lv_icmp_ge (tgt := 193) X.1 X.2.1 dX5_one_186 (by decide) (fun c117 => ?_) (fun c117 => ?_)
      · replace hF := fb_pos c117 hF
        exact w_b_X5_one_193 X hlk hr hI x1 x2 x3 x5 x6 hF ls (lv_sub hl [0, 1, 2, 3, 5, 6] rfl)
      · replace hF := fb_neg c117 hF
        refine lv_iconst (v := 1) X.1 X.2.1 dX5_one_189 (by decide) ?_
        refine lv_goto (tgt := 194) X.1 X.2.1 dX5_one_190 (by decide) ?_
        exact w_b_X5_one_194 X hlk hr hI x1 x2 x3 x5 x6 1 hF ls (lv_sub hl [0, 1, 2, 3, 5, 6] rfl)
def b_X5_one_154 (x1 x2 x3 x4 x5 z0 : Int32) (σ : St) : Option (Int32 × St) :=
  if x5 = 2 then
    b_X5_one_168 x1 x2 x3 x4 x5 z0 σ
  else
    if x5 = 3 then
      b_X5_one_168 x1 x2 x3 x4 x5 z0 σ
    else
      b_X5_one_196 x1 x2 x3 x4 x5 z0 σ
set_option maxHeartbeats 4000000 in
set_option maxRecDepth 100000 in
theorem w_b_X5_one_154 {l : Launch} {p : Program} {e : Env} {s : State} {m : MethodId} {args : Array Value} {below : List Frame} {meth : Method} {c : Code} {A : Nat → Prop} {D : va_G} {ty : Nat → ClassId} {q : Nat → Nat} {res : Int32 × St} (X : CallFix p m c cX5_one 10 s args tb RX5) (hlk : meth.locks = false) (hr : meth.sig.returnType = none) {σ : St} {H : Heap} {locs : List Loc} (hI : Inw D ty FxM (wM ty q σ) A s H locs) (x1 x2 x3 x4 x5 z0 : Int32) (hF : b_X5_one_154 x1 x2 x3 x4 x5 z0 σ = some res) (ls : Array Slot) (hl : lv_has ls 10 [(0, .ref (q 0)), (1, .int x1), (2, .int x2), (3, .int x3), (4, .int x4), (5, .int x5)]) : W p l e rm_X5_one s m args below meth c H locs 0 0 (MQ below (Qvw D ty (wM ty q) A res) args s 0 0 A) (F0 m 154 ls [.int z0]) := by
  unfold b_X5_one_154 at hF
  refine lv_istore (lv' := [(6, .int z0), (0, .ref (q 0)), (1, .int x1), (2, .int x2), (3, .int x3), (4, .int x4), (5, .int x5)]) X.1 X.2.1 dX5_one_154 hl (by decide) rfl (fun ls hl => ?_)
  refine lv_iload X.1 X.2.1 dX5_one_156 (lv_at hl 6 rfl) ?_
  refine lv_iconst (v := 2) X.1 X.2.1 dX5_one_158 (by decide) ?_
  refine lv_icmp_eq (tgt := 168) X.1 X.2.1 dX5_one_159 (by decide) (fun c7 => ?_) (fun c7 => ?_)
  · replace hF := fb_pos c7 hF
    exact w_b_X5_one_168 X hlk hr hI x1 x2 x3 x4 x5 z0 hF ls (lv_sub hl [1, 2, 3, 4, 5, 6, 0] rfl)
  · replace hF := fb_neg c7 hF
    refine lv_iload X.1 X.2.1 dX5_one_162 (lv_at hl 6 rfl) ?_
    refine lv_iconst (v := 3) X.1 X.2.1 dX5_one_164 (by decide) ?_
    refine lv_icmp_ne (tgt := 196) X.1 X.2.1 dX5_one_165 (by decide) (fun c118 => ?_) (fun c118 => ?_)
    · replace hF := fb_neg c118 hF
      exact w_b_X5_one_196 X hlk hr hI x1 x2 x3 x4 x5 z0 hF ls (lv_sub hl [1, 2, 3, 4, 5, 6, 0] rfl)
    · replace hF := fb_pos c118 hF
      exact w_b_X5_one_168 X hlk hr hI x1 x2 x3 x4 x5 z0 hF ls (lv_sub hl [1, 2, 3, 4, 5, 6, 0] rfl)
def b_X5_one_153 (x1 x2 x3 x4 x5 : Int32) (σ : St) : Option (Int32 × St) :=
  b_X5_one_154 x1 x2 x3 x4 x5 0 σ
set_option maxHeartbeats 4000000 in
set_option maxRecDepth 100000 in
theorem w_b_X5_one_153 {l : Launch} {p : Program} {e : Env} {s : State} {m : MethodId} {args : Array Value} {below : List Frame} {meth : Method} {c : Code} {A : Nat → Prop} {D : va_G} {ty : Nat → ClassId} {q : Nat → Nat} {res : Int32 × St} (X : CallFix p m c cX5_one 10 s args tb RX5) (hlk : meth.locks = false) (hr : meth.sig.returnType = none) {σ : St} {H : Heap} {locs : List Loc} (hI : Inw D ty FxM (wM ty q σ) A s H locs) (x1 x2 x3 x4 x5 : Int32) (hF : b_X5_one_153 x1 x2 x3 x4 x5 σ = some res) (ls : Array Slot) (hl : lv_has ls 10 [(0, .ref (q 0)), (1, .int x1), (2, .int x2), (3, .int x3), (4, .int x4), (5, .int x5)]) : W p l e rm_X5_one s m args below meth c H locs 0 0 (MQ below (Qvw D ty (wM ty q) A res) args s 0 0 A) (F0 m 153 ls []) := by
  unfold b_X5_one_153 at hF
  refine lv_iconst (v := 0) X.1 X.2.1 dX5_one_153 (by decide) ?_
  exact w_b_X5_one_154 X hlk hr hI x1 x2 x3 x4 x5 0 hF ls (lv_sub hl [0, 1, 2, 3, 4, 5] rfl)
def b_X5_one_121 (x1 x2 x3 x5 z0 : Int32) (σ : St) : Option (Int32 × St) :=
  if z0 = 0 then
    b_X5_one_153 x1 x2 x3 z0 x5 σ
  else
    (f_X5_size x5 σ).bind fun u119 =>
    if u119 ≤ 1 then
      b_X5_one_153 x1 x2 x3 z0 x5 σ
    else
      if inB (((80 * x2) + x3) + 1) 400 = true then
        b_X5_one_154 x1 x2 x3 z0 x5 (gA σ 0 (((80 * x2) + x3) + 1)) σ
      else none
set_option maxHeartbeats 4000000 in
set_option maxRecDepth 100000 in
theorem w_b_X5_one_121 {l : Launch} {p : Program} {e : Env} {s : State} {m : MethodId} {args : Array Value} {below : List Frame} {meth : Method} {c : Code} {A : Nat → Prop} {D : va_G} {ty : Nat → ClassId} {q : Nat → Nat} {res : Int32 × St} (X : CallFix p m c cX5_one 10 s args tb RX5) (hlk : meth.locks = false) (hr : meth.sig.returnType = none) {σ : St} {H : Heap} {locs : List Loc} (hI : Inw D ty FxM (wM ty q σ) A s H locs) (x1 x2 x3 x5 z0 : Int32) (hF : b_X5_one_121 x1 x2 x3 x5 z0 σ = some res) (ls : Array Slot) (hl : lv_has ls 10 [(0, .ref (q 0)), (1, .int x1), (2, .int x2), (3, .int x3), (5, .int x5)]) : W p l e rm_X5_one s m args below meth c H locs 0 0 (MQ below (Qvw D ty (wM ty q) A res) args s 0 0 A) (F0 m 121 ls [.int z0]) := by
  unfold b_X5_one_121 at hF
  refine lv_istore (lv' := [(4, .int z0), (0, .ref (q 0)), (1, .int x1), (2, .int x2), (3, .int x3), (5, .int x5)]) X.1 X.2.1 dX5_one_121 hl (by decide) rfl (fun ls hl => ?_)
  refine lv_iload X.1 X.2.1 dX5_one_123 (lv_at hl 0 rfl) ?_
  refine lv_if_eq (tgt := 153) X.1 X.2.1 dX5_one_125 (by decide) (fun c6 => ?_) (fun c6 => ?_)
  · replace hF := fb_pos c6 hF
    exact w_b_X5_one_153 X hlk hr hI x1 x2 x3 z0 x5 hF ls (lv_sub hl [1, 2, 3, 4, 0, 5] rfl)
  · replace hF := fb_neg c6 hF
    refine lv_iload X.1 X.2.1 dX5_one_128 (lv_at hl 5 rfl) ?_
    obtain ⟨u119, h120, hF⟩ := fb_bnd hF
    refine cs_i (w := wM ty q) (σ := σ) (rest := []) X fxM hI (m_X5_size l D ty q σ _ x5 h120) ok_X5_size ml_X5_104 ⟨rfl, rfl, Nat.le_of_ble_eq_true rfl, Nat.le_of_ble_eq_true rfl⟩ rfl hl.1 rfl (Nat.le_of_ble_eq_true rfl) ⟨Nat.zero_le _, Nat.zero_le _⟩ dX5_one_130 (fun H locs hI => ?_)
    refine lv_iconst (v := 1) X.1 X.2.1 dX5_one_133 (by decide) ?_
    refine lv_icmp_le (tgt := 153) X.1 X.2.1 dX5_one_134 (by decide) (fun c121 => ?_) (fun c121 => ?_)
    · replace hF := fb_pos c121 hF
      exact w_b_X5_one_153 X hlk hr hI x1 x2 x3 z0 x5 hF ls (lv_sub hl [1, 2, 3, 4, 0, 5] rfl)
    · replace hF := fb_neg c121 hF
      refine lv_aload_n X.1 X.2.1 dX5_one_137 rfl (lv_at hl 1 rfl) ?_
      refine g_X5_disk X hI dX5_one_138 ?_
      refine lv_bipush (v := 80) X.1 X.2.1 dX5_one_141 (by decide) ?_
      refine lv_iload_n X.1 X.2.1 dX5_one_143 rfl (lv_at hl 3 rfl) ?_
      refine lv_imul X.1 X.2.1 dX5_one_144 ?_
      refine lv_iload_n X.1 X.2.1 dX5_one_145 rfl (lv_at hl 4 rfl) ?_
      refine lv_iadd X.1 X.2.1 dX5_one_146 ?_
      refine lv_iconst (v := 1) X.1 X.2.1 dX5_one_147 (by decide) ?_
      refine lv_iadd X.1 X.2.1 dX5_one_148 ?_
      obtain ⟨h122, hF⟩ := fb_chk hF
      refine aM_0 (v := gA σ 0 (((80 * x2) + x3) + 1)) X hI rfl h122 dX5_one_149 ?_
      refine lv_goto (tgt := 154) X.1 X.2.1 dX5_one_150 (by decide) ?_
      exact w_b_X5_one_154 X hlk hr hI x1 x2 x3 z0 x5 (gA σ 0 (((80 * x2) + x3) + 1)) hF ls (lv_sub hl [1, 2, 3, 4, 0, 5] rfl)
def b_X5_one_120 (x1 x2 x3 x5 : Int32) (σ : St) : Option (Int32 × St) :=
  b_X5_one_121 x1 x2 x3 x5 0 σ
set_option maxHeartbeats 4000000 in
set_option maxRecDepth 100000 in
theorem w_b_X5_one_120 {l : Launch} {p : Program} {e : Env} {s : State} {m : MethodId} {args : Array Value} {below : List Frame} {meth : Method} {c : Code} {A : Nat → Prop} {D : va_G} {ty : Nat → ClassId} {q : Nat → Nat} {res : Int32 × St} (X : CallFix p m c cX5_one 10 s args tb RX5) (hlk : meth.locks = false) (hr : meth.sig.returnType = none) {σ : St} {H : Heap} {locs : List Loc} (hI : Inw D ty FxM (wM ty q σ) A s H locs) (x1 x2 x3 x5 : Int32) (hF : b_X5_one_120 x1 x2 x3 x5 σ = some res) (ls : Array Slot) (hl : lv_has ls 10 [(0, .ref (q 0)), (1, .int x1), (2, .int x2), (3, .int x3), (5, .int x5)]) : W p l e rm_X5_one s m args below meth c H locs 0 0 (MQ below (Qvw D ty (wM ty q) A res) args s 0 0 A) (F0 m 120 ls []) := by
  unfold b_X5_one_120 at hF
  refine lv_iconst (v := 0) X.1 X.2.1 dX5_one_120 (by decide) ?_
  exact w_b_X5_one_121 X hlk hr hI x1 x2 x3 x5 0 hF ls (lv_sub hl [0, 1, 2, 3, 4] rfl)
def b_X5_one_62 (x1 x2 x3 x4 z0 : Int32) (σ : St) : Option (Int32 × St) :=
  if x4 = 0 then
    b_X5_one_120 x1 x2 x3 z0 σ
  else
    if z0 < 0 then
      b_X5_one_120 x1 x2 x3 z0 σ
    else
      if 12 < z0 then
        b_X5_one_120 x1 x2 x3 z0 σ
      else
        (f_X5_size z0 σ).bind fun u125 =>
        if inB x2 5 = true then
          if (gA σ 1 x2) < (x3 + u125) then
            b_X5_one_120 x1 x2 x3 z0 σ
          else
            if inB x1 520 = true then
              (f_X5_takes z0 σ).bind fun u130 =>
              if ((gI σ 8) - (gA σ 8 x1)) < u130 then
                b_X5_one_120 x1 x2 x3 z0 σ
              else
                b_X5_one_121 x1 x2 x3 z0 1 σ
            else none
        else none
set_option maxHeartbeats 4000000 in
set_option maxRecDepth 100000 in
theorem w_b_X5_one_62 {l : Launch} {p : Program} {e : Env} {s : State} {m : MethodId} {args : Array Value} {below : List Frame} {meth : Method} {c : Code} {A : Nat → Prop} {D : va_G} {ty : Nat → ClassId} {q : Nat → Nat} {res : Int32 × St} (X : CallFix p m c cX5_one 10 s args tb RX5) (hlk : meth.locks = false) (hr : meth.sig.returnType = none) {σ : St} {H : Heap} {locs : List Loc} (hI : Inw D ty FxM (wM ty q σ) A s H locs) (x1 x2 x3 x4 z0 : Int32) (hF : b_X5_one_62 x1 x2 x3 x4 z0 σ = some res) (ls : Array Slot) (hl : lv_has ls 10 [(0, .ref (q 0)), (1, .int x1), (2, .int x2), (3, .int x3), (4, .int x4)]) : W p l e rm_X5_one s m args below meth c H locs 0 0 (MQ below (Qvw D ty (wM ty q) A res) args s 0 0 A) (F0 m 62 ls [.int z0]) := by
  unfold b_X5_one_62 at hF
  refine lv_istore (lv' := [(5, .int z0), (0, .ref (q 0)), (1, .int x1), (2, .int x2), (3, .int x3), (4, .int x4)]) X.1 X.2.1 dX5_one_62 hl (by decide) rfl (fun ls hl => ?_)
  refine lv_iload X.1 X.2.1 dX5_one_64 (lv_at hl 5 rfl) ?_
  refine lv_if_eq (tgt := 120) X.1 X.2.1 dX5_one_66 (by decide) (fun c5 => ?_) (fun c5 => ?_)
  · replace hF := fb_pos c5 hF
    exact w_b_X5_one_120 X hlk hr hI x1 x2 x3 z0 hF ls (lv_sub hl [1, 2, 3, 4, 0] rfl)
  · replace hF := fb_neg c5 hF
    refine lv_iload X.1 X.2.1 dX5_one_69 (lv_at hl 0 rfl) ?_
    refine lv_if_lt (tgt := 120) X.1 X.2.1 dX5_one_71 (by decide) (fun c123 => ?_) (fun c123 => ?_)
    · replace hF := fb_pos c123 hF
      exact w_b_X5_one_120 X hlk hr hI x1 x2 x3 z0 hF ls (lv_sub hl [1, 2, 3, 4, 0] rfl)
    · replace hF := fb_neg c123 hF
      refine lv_iload X.1 X.2.1 dX5_one_74 (lv_at hl 0 rfl) ?_
      refine lv_bipush (v := 12) X.1 X.2.1 dX5_one_76 (by decide) ?_
      refine lv_icmp_gt (tgt := 120) X.1 X.2.1 dX5_one_78 (by decide) (fun c124 => ?_) (fun c124 => ?_)
      · replace hF := fb_pos c124 hF
        exact w_b_X5_one_120 X hlk hr hI x1 x2 x3 z0 hF ls (lv_sub hl [1, 2, 3, 4, 0] rfl)
      · replace hF := fb_neg c124 hF
        refine lv_iload_n X.1 X.2.1 dX5_one_81 rfl (lv_at hl 4 rfl) ?_
        refine lv_iload X.1 X.2.1 dX5_one_82 (lv_at hl 0 rfl) ?_
        obtain ⟨u125, h126, hF⟩ := fb_bnd hF
        refine cs_i (w := wM ty q) (σ := σ) (rest := [.int x3]) X fxM hI (m_X5_size l D ty q σ _ z0 h126) ok_X5_size ml_X5_104 ⟨rfl, rfl, Nat.le_of_ble_eq_true rfl, Nat.le_of_ble_eq_true rfl⟩ rfl hl.1 rfl (Nat.le_of_ble_eq_true rfl) ⟨Nat.zero_le _, Nat.zero_le _⟩ dX5_one_84 (fun H locs hI => ?_)
        refine lv_iadd X.1 X.2.1 dX5_one_87 ?_
        refine lv_aload_n X.1 X.2.1 dX5_one_88 rfl (lv_at hl 1 rfl) ?_
        refine g_X5_length X hI dX5_one_89 ?_
        refine lv_iload_n X.1 X.2.1 dX5_one_92 rfl (lv_at hl 3 rfl) ?_
        obtain ⟨h127, hF⟩ := fb_chk hF
        refine aM_1 (v := gA σ 1 x2) X hI rfl h127 dX5_one_93 ?_
        refine lv_icmp_gt (tgt := 120) X.1 X.2.1 dX5_one_94 (by decide) (fun c128 => ?_) (fun c128 => ?_)
        · replace hF := fb_pos c128 hF
          exact w_b_X5_one_120 X hlk hr hI x1 x2 x3 z0 hF ls (lv_sub hl [1, 2, 3, 4, 0] rfl)
        · replace hF := fb_neg c128 hF
          refine lv_aload_n X.1 X.2.1 dX5_one_97 rfl (lv_at hl 1 rfl) ?_
          refine g_X5_numbers (v := gI σ 8) X hI rfl dX5_one_98 ?_
          refine lv_aload_n X.1 X.2.1 dX5_one_101 rfl (lv_at hl 1 rfl) ?_
          refine g_X5_below X hI dX5_one_102 ?_
          refine lv_iload_n X.1 X.2.1 dX5_one_105 rfl (lv_at hl 2 rfl) ?_
          obtain ⟨h129, hF⟩ := fb_chk hF
          refine aM_8 (v := gA σ 8 x1) X hI rfl h129 dX5_one_106 ?_
          refine lv_isub X.1 X.2.1 dX5_one_107 ?_
          refine lv_iload X.1 X.2.1 dX5_one_108 (lv_at hl 0 rfl) ?_
          obtain ⟨u130, h131, hF⟩ := fb_bnd hF
          refine cs_i (w := wM ty q) (σ := σ) (rest := [.int ((gI σ 8) - (gA σ 8 x1))]) X fxM hI (m_X5_takes l D ty q σ _ z0 h131) ok_X5_takes ml_X5_107 ⟨rfl, rfl, Nat.le_of_ble_eq_true rfl, Nat.le_of_ble_eq_true rfl⟩ rfl hl.1 rfl (Nat.le_of_ble_eq_true rfl) ⟨Nat.zero_le _, Nat.zero_le _⟩ dX5_one_110 (fun H locs hI => ?_)
          refine lv_icmp_lt (tgt := 120) X.1 X.2.1 dX5_one_113 (by decide) (fun c132 => ?_) (fun c132 => ?_)
          · replace hF := fb_pos c132 hF
            exact w_b_X5_one_120 X hlk hr hI x1 x2 x3 z0 hF ls (lv_sub hl [1, 2, 3, 4, 0] rfl)
          · replace hF := fb_neg c132 hF
            refine lv_iconst (v := 1) X.1 X.2.1 dX5_one_116 (by decide) ?_
            refine lv_goto (tgt := 121) X.1 X.2.1 dX5_one_117 (by decide) ?_
            exact w_b_X5_one_121 X hlk hr hI x1 x2 x3 z0 1 hF ls (lv_sub hl [1, 2, 3, 4, 0] rfl)
def b_X5_one_40 (x1 x2 x3 z0 : Int32) (σ : St) : Option (Int32 × St) :=
  if z0 = 0 then
    b_X5_one_62 x1 x2 x3 z0 (-1) σ
  else
    if inB ((80 * x2) + x3) 400 = true then
      b_X5_one_62 x1 x2 x3 z0 (gA σ 0 ((80 * x2) + x3)) σ
    else none
set_option maxHeartbeats 4000000 in
set_option maxRecDepth 100000 in
theorem w_b_X5_one_40 {l : Launch} {p : Program} {e : Env} {s : State} {m : MethodId} {args : Array Value} {below : List Frame} {meth : Method} {c : Code} {A : Nat → Prop} {D : va_G} {ty : Nat → ClassId} {q : Nat → Nat} {res : Int32 × St} (X : CallFix p m c cX5_one 10 s args tb RX5) (hlk : meth.locks = false) (hr : meth.sig.returnType = none) {σ : St} {H : Heap} {locs : List Loc} (hI : Inw D ty FxM (wM ty q σ) A s H locs) (x1 x2 x3 z0 : Int32) (hF : b_X5_one_40 x1 x2 x3 z0 σ = some res) (ls : Array Slot) (hl : lv_has ls 10 [(0, .ref (q 0)), (1, .int x1), (2, .int x2), (3, .int x3)]) : W p l e rm_X5_one s m args below meth c H locs 0 0 (MQ below (Qvw D ty (wM ty q) A res) args s 0 0 A) (F0 m 40 ls [.int z0]) := by
  unfold b_X5_one_40 at hF
  refine lv_istore (lv' := [(4, .int z0), (0, .ref (q 0)), (1, .int x1), (2, .int x2), (3, .int x3)]) X.1 X.2.1 dX5_one_40 hl (by decide) rfl (fun ls hl => ?_)
  refine lv_iload X.1 X.2.1 dX5_one_42 (lv_at hl 0 rfl) ?_
  refine lv_if_eq (tgt := 61) X.1 X.2.1 dX5_one_44 (by decide) (fun c4 => ?_) (fun c4 => ?_)
  · replace hF := fb_pos c4 hF
    refine lv_iconst (v := (-1)) X.1 X.2.1 dX5_one_61 (by decide) ?_
    exact w_b_X5_one_62 X hlk hr hI x1 x2 x3 z0 (-1) hF ls (lv_sub hl [1, 2, 3, 4, 0] rfl)
  · replace hF := fb_neg c4 hF
    refine lv_aload_n X.1 X.2.1 dX5_one_47 rfl (lv_at hl 1 rfl) ?_
    refine g_X5_disk X hI dX5_one_48 ?_
    refine lv_bipush (v := 80) X.1 X.2.1 dX5_one_51 (by decide) ?_
    refine lv_iload_n X.1 X.2.1 dX5_one_53 rfl (lv_at hl 3 rfl) ?_
    refine lv_imul X.1 X.2.1 dX5_one_54 ?_
    refine lv_iload_n X.1 X.2.1 dX5_one_55 rfl (lv_at hl 4 rfl) ?_
    refine lv_iadd X.1 X.2.1 dX5_one_56 ?_
    obtain ⟨h133, hF⟩ := fb_chk hF
    refine aM_0 (v := gA σ 0 ((80 * x2) + x3)) X hI rfl h133 dX5_one_57 ?_
    refine lv_goto (tgt := 62) X.1 X.2.1 dX5_one_58 (by decide) ?_
    exact w_b_X5_one_62 X hlk hr hI x1 x2 x3 z0 (gA σ 0 ((80 * x2) + x3)) hF ls (lv_sub hl [1, 2, 3, 4, 0] rfl)
def b_X5_one_39 (x1 x2 x3 : Int32) (σ : St) : Option (Int32 × St) :=
  b_X5_one_40 x1 x2 x3 0 σ
set_option maxHeartbeats 4000000 in
set_option maxRecDepth 100000 in
theorem w_b_X5_one_39 {l : Launch} {p : Program} {e : Env} {s : State} {m : MethodId} {args : Array Value} {below : List Frame} {meth : Method} {c : Code} {A : Nat → Prop} {D : va_G} {ty : Nat → ClassId} {q : Nat → Nat} {res : Int32 × St} (X : CallFix p m c cX5_one 10 s args tb RX5) (hlk : meth.locks = false) (hr : meth.sig.returnType = none) {σ : St} {H : Heap} {locs : List Loc} (hI : Inw D ty FxM (wM ty q σ) A s H locs) (x1 x2 x3 : Int32) (hF : b_X5_one_39 x1 x2 x3 σ = some res) (ls : Array Slot) (hl : lv_has ls 10 [(0, .ref (q 0)), (1, .int x1), (2, .int x2), (3, .int x3)]) : W p l e rm_X5_one s m args below meth c H locs 0 0 (MQ below (Qvw D ty (wM ty q) A res) args s 0 0 A) (F0 m 39 ls []) := by
  unfold b_X5_one_39 at hF
  refine lv_iconst (v := 0) X.1 X.2.1 dX5_one_39 (by decide) ?_
  exact w_b_X5_one_40 X hlk hr hI x1 x2 x3 0 hF ls (lv_sub hl [0, 1, 2, 3] rfl)
def f_X5_one (σ : St) : Option (Int32 × St) :=
  if inB ((gI σ 7) - 1) 520 = true then
    if inB ((gI σ 7) - 1) 520 = true then
      if (gA σ 5 ((gI σ 7) - 1)) < 0 then
        b_X5_one_39 ((gI σ 7) - 1) (gA σ 4 ((gI σ 7) - 1)) (gA σ 5 ((gI σ 7) - 1)) σ
      else
        if inB (gA σ 4 ((gI σ 7) - 1)) 5 = true then
          if (gA σ 1 (gA σ 4 ((gI σ 7) - 1))) ≤ (gA σ 5 ((gI σ 7) - 1)) then
            b_X5_one_39 ((gI σ 7) - 1) (gA σ 4 ((gI σ 7) - 1)) (gA σ 5 ((gI σ 7) - 1)) σ
          else
            b_X5_one_40 ((gI σ 7) - 1) (gA σ 4 ((gI σ 7) - 1)) (gA σ 5 ((gI σ 7) - 1)) 1 σ
        else none
    else none
  else none
set_option maxHeartbeats 4000000 in
set_option maxRecDepth 100000 in
theorem m_X5_one (l : Launch) (D : va_G) (ty : Nat → ClassId) (q : Nat → Nat) (σ : St) (sz : Nat) {res : Int32 × St} (hF : f_X5_one  σ = some res) : Met l yX5_one (wsy yX5_one cX5_one 10 none) rm_X5_one (Pcw D ty FxM (wM ty q σ) sz [.ref (q 0)]) (Qvw D ty (wM ty q) (va_A (wM ty q σ) sz) res) 0 0 (va_A (wM ty q σ) sz) := by
  refine en_w (Qc := fun A => Qvw D ty (wM ty q) A res) (by decide) (Nat.le_of_ble_eq_true rfl) ?_
  intro p e s m args below meth c A X hlk hr _ H locs hI ls hl
  have X : CallFix p m c cX5_one 10 s args tb RX5 := X
  have hl : lv_has ls 10 [(0, .ref (q 0))] := hl
  unfold f_X5_one at hF
  refine lv_aload_n X.1 X.2.1 dX5_one_0 rfl (lv_at hl 0 rfl) ?_
  refine g_X5_frames (v := gI σ 7) X hI rfl dX5_one_1 ?_
  refine lv_iconst (v := 1) X.1 X.2.1 dX5_one_4 (by decide) ?_
  refine lv_isub X.1 X.2.1 dX5_one_5 ?_
  refine lv_istore_n (lv' := [(1, .int ((gI σ 7) - 1)), (0, .ref (q 0))]) X.1 X.2.1 dX5_one_6 rfl hl (by decide) rfl (fun ls hl => ?_)
  refine lv_aload_n X.1 X.2.1 dX5_one_7 rfl (lv_at hl 1 rfl) ?_
  refine g_X5_segment X hI dX5_one_8 ?_
  refine lv_iload_n X.1 X.2.1 dX5_one_11 rfl (lv_at hl 0 rfl) ?_
  obtain ⟨h1, hF⟩ := fb_chk hF
  refine aM_4 (v := gA σ 4 ((gI σ 7) - 1)) X hI rfl h1 dX5_one_12 ?_
  refine lv_istore_n (lv' := [(2, .int (gA σ 4 ((gI σ 7) - 1))), (1, .int ((gI σ 7) - 1)), (0, .ref (q 0))]) X.1 X.2.1 dX5_one_13 rfl hl (by decide) rfl (fun ls hl => ?_)
  refine lv_aload_n X.1 X.2.1 dX5_one_14 rfl (lv_at hl 2 rfl) ?_
  refine g_X5_place X hI dX5_one_15 ?_
  refine lv_iload_n X.1 X.2.1 dX5_one_18 rfl (lv_at hl 1 rfl) ?_
  obtain ⟨h2, hF⟩ := fb_chk hF
  refine aM_5 (v := gA σ 5 ((gI σ 7) - 1)) X hI rfl h2 dX5_one_19 ?_
  refine lv_istore_n (lv' := [(3, .int (gA σ 5 ((gI σ 7) - 1))), (2, .int (gA σ 4 ((gI σ 7) - 1))), (1, .int ((gI σ 7) - 1)), (0, .ref (q 0))]) X.1 X.2.1 dX5_one_20 rfl hl (by decide) rfl (fun ls hl => ?_)
  refine lv_iload_n X.1 X.2.1 dX5_one_21 rfl (lv_at hl 0 rfl) ?_
  refine lv_if_lt (tgt := 39) X.1 X.2.1 dX5_one_22 (by decide) (fun c3 => ?_) (fun c3 => ?_)
  · replace hF := fb_pos c3 hF
    exact w_b_X5_one_39 X hlk hr hI ((gI σ 7) - 1) (gA σ 4 ((gI σ 7) - 1)) (gA σ 5 ((gI σ 7) - 1)) hF ls (lv_sub hl [3, 2, 1, 0] rfl)
  · replace hF := fb_neg c3 hF
    refine lv_iload_n X.1 X.2.1 dX5_one_25 rfl (lv_at hl 0 rfl) ?_
    refine lv_aload_n X.1 X.2.1 dX5_one_26 rfl (lv_at hl 3 rfl) ?_
    refine g_X5_length X hI dX5_one_27 ?_
    refine lv_iload_n X.1 X.2.1 dX5_one_30 rfl (lv_at hl 1 rfl) ?_
    obtain ⟨h134, hF⟩ := fb_chk hF
    refine aM_1 (v := gA σ 1 (gA σ 4 ((gI σ 7) - 1))) X hI rfl h134 dX5_one_31 ?_
    refine lv_icmp_ge (tgt := 39) X.1 X.2.1 dX5_one_32 (by decide) (fun c135 => ?_) (fun c135 => ?_)
    · replace hF := fb_pos c135 hF
      exact w_b_X5_one_39 X hlk hr hI ((gI σ 7) - 1) (gA σ 4 ((gI σ 7) - 1)) (gA σ 5 ((gI σ 7) - 1)) hF ls (lv_sub hl [3, 2, 1, 0] rfl)
    · replace hF := fb_neg c135 hF
      refine lv_iconst (v := 1) X.1 X.2.1 dX5_one_35 (by decide) ?_
      refine lv_goto (tgt := 40) X.1 X.2.1 dX5_one_36 (by decide) ?_
      exact w_b_X5_one_40 X hlk hr hI ((gI σ 7) - 1) (gA σ 4 ((gI σ 7) - 1)) (gA σ 5 ((gI σ 7) - 1)) 1 hF ls (lv_sub hl [3, 2, 1, 0] rfl)
abbrev rm_X5_step : Room := { frames := 5, cells := 0, slots := 0, locals := 120 }
def b_X5_step_33 : Nat → Int32 → Int32 → St → Option (Int32 × St)
  | 0, _, _, _ => none
  | n + 1, x1, x2, σ =>
    if (gI σ 0) = 0 then
      if x1 ≤ x2 then
        some (x2, σ)
      else
        if (gI σ 1) = 1 then
          (f_X5_one σ).bind fun u6 =>
          b_X5_step_33 n x1 (x2 + 1) u6.2
        else
          some (x2, σ)
    else
      some (x2, σ)
set_option maxHeartbeats 4000000 in
set_option maxRecDepth 100000 in
theorem w_b_X5_step_33 {l : Launch} {p : Program} {e : Env} {s : State} {m : MethodId} {args : Array Value} {below : List Frame} {meth : Method} {c : Code} {A : Nat → Prop} {D : va_G} {ty : Nat → ClassId} {q : Nat → Nat} {res : Int32 × St} (X : CallFix p m c cX5_step 3 s args tb RX5) (hlk : meth.locks = false) (hr : meth.sig.returnType = (some .int)) : ∀ (n : Nat) (x1 x2 : Int32) (σ : St) (H : Heap) (locs : List Loc) (ls : Array Slot), b_X5_step_33 n x1 x2 σ = some res → Inw D ty FxM (wM ty q σ) A s H locs → lv_has ls 3 [(0, .ref (q 0)), (1, .int x1), (2, .int x2)] → W p l e rm_X5_step s m args below meth c H locs 0 0 (MQ below (Qiw D ty (wM ty q) A res) args s 0 0 A) (F0 m 33 ls []) := by
  intro n
  induction n with
  | zero =>
    intro x1 x2 σ H locs ls hF
    cases hF
  | succ n ih =>
    intro x1 x2 σ H locs ls hF hI hl
    rw [b_X5_step_33] at hF
    refine lv_aload_n X.1 X.2.1 dX5_step_33 rfl (lv_at hl 0 rfl) ?_
    refine g_X5_code (v := gI σ 0) X hI rfl dX5_step_34 ?_
    refine lv_if_ne (tgt := 63) X.1 X.2.1 dX5_step_37 (by decide) (fun c3 => ?_) (fun c3 => ?_)
    · replace hF := fb_neg c3 hF
      refine lv_iload_n X.1 X.2.1 dX5_step_63 rfl (lv_at hl 2 rfl) ?_
      exact rt_i X hlk hr hI hF dX5_step_64
    · replace hF := fb_pos c3 hF
      refine lv_iload_n X.1 X.2.1 dX5_step_40 rfl (lv_at hl 2 rfl) ?_
      refine lv_iload_n X.1 X.2.1 dX5_step_41 rfl (lv_at hl 1 rfl) ?_
      refine lv_icmp_ge (tgt := 63) X.1 X.2.1 dX5_step_42 (by decide) (fun c4 => ?_) (fun c4 => ?_)
      · replace hF := fb_pos c4 hF
        refine lv_iload_n X.1 X.2.1 dX5_step_63 rfl (lv_at hl 2 rfl) ?_
        exact rt_i X hlk hr hI hF dX5_step_64
      · replace hF := fb_neg c4 hF
        refine lv_aload_n X.1 X.2.1 dX5_step_45 rfl (lv_at hl 0 rfl) ?_
        refine g_X5_state (v := gI σ 1) X hI rfl dX5_step_46 ?_
        refine lv_iconst (v := 1) X.1 X.2.1 dX5_step_49 (by decide) ?_
        refine lv_icmp_ne (tgt := 63) X.1 X.2.1 dX5_step_50 (by decide) (fun c5 => ?_) (fun c5 => ?_)
        · replace hF := fb_neg c5 hF
          refine lv_iload_n X.1 X.2.1 dX5_step_63 rfl (lv_at hl 2 rfl) ?_
          exact rt_i X hlk hr hI hF dX5_step_64
        · replace hF := fb_pos c5 hF
          refine lv_aload_n X.1 X.2.1 dX5_step_53 rfl (lv_at hl 0 rfl) ?_
          obtain ⟨u6, h7, hF⟩ := fb_bnd hF
          refine cl_v (w := wM ty q) (σ := σ) (rest := []) X fxM hI (m_X5_one l D ty q σ _  h7) ok_X5_one ml_X5_120 ⟨rfl, rfl, Nat.le_of_ble_eq_true rfl, Nat.le_of_ble_eq_true rfl⟩ 0 rc_X5 rfl rfl hl.1 rfl (Nat.le_of_ble_eq_true rfl) ⟨Nat.zero_le _, Nat.zero_le _⟩ dX5_step_54 (fun H locs hI => ?_)
          refine lv_iinc (v := x2 + 1) (lv' := [(2, .int (x2 + 1)), (0, .ref (q 0)), (1, .int x1)]) X.1 X.2.1 dX5_step_57 hl (k := 2) rfl rfl (by decide) rfl (fun ls hl => ?_)
          refine lv_goto (tgt := 33) X.1 X.2.1 dX5_step_60 (by decide) ?_
          exact ih x1 (x2 + 1) _ _ _ ls hF hI (lv_sub hl [1, 2, 0] rfl)
def b_X5_step_28 (x1 z0 : Int32) (σ : St) : Option (Int32 × St) :=
  b_X5_step_33 2002 x1 0 (sI σ 0 z0)
set_option maxHeartbeats 4000000 in
set_option maxRecDepth 100000 in
theorem w_b_X5_step_28 {l : Launch} {p : Program} {e : Env} {s : State} {m : MethodId} {args : Array Value} {below : List Frame} {meth : Method} {c : Code} {A : Nat → Prop} {D : va_G} {ty : Nat → ClassId} {q : Nat → Nat} {res : Int32 × St} (X : CallFix p m c cX5_step 3 s args tb RX5) (hlk : meth.locks = false) (hr : meth.sig.returnType = (some .int)) {σ : St} {H : Heap} {locs : List Loc} (hI : Inw D ty FxM (wM ty q σ) A s H locs) (x1 z0 : Int32) (hF : b_X5_step_28 x1 z0 σ = some res) (ls : Array Slot) (hl : lv_has ls 3 [(0, .ref (q 0)), (1, .int x1)]) : W p l e rm_X5_step s m args below meth c H locs 0 0 (MQ below (Qiw D ty (wM ty q) A res) args s 0 0 A) (F0 m 28 ls [.int z0, .ref (q 0)]) := by
  unfold b_X5_step_28 at hF
  refine p_X5_code X hI dX5_step_28 (fun H locs hI => ?_)
  refine lv_iconst (v := 0) X.1 X.2.1 dX5_step_31 (by decide) ?_
  refine lv_istore_n (lv' := [(2, .int 0), (0, .ref (q 0)), (1, .int x1)]) X.1 X.2.1 dX5_step_32 rfl hl (by decide) rfl (fun ls hl => ?_)
  exact w_b_X5_step_33 X hlk hr 2002 x1 0 _ _ _ ls hF hI (lv_sub hl [1, 2, 0] rfl)
def b_X5_step_23 (x1 : Int32) (σ : St) : Option (Int32 × St) :=
  b_X5_step_28 x1 2 σ
set_option maxHeartbeats 4000000 in
set_option maxRecDepth 100000 in
theorem w_b_X5_step_23 {l : Launch} {p : Program} {e : Env} {s : State} {m : MethodId} {args : Array Value} {below : List Frame} {meth : Method} {c : Code} {A : Nat → Prop} {D : va_G} {ty : Nat → ClassId} {q : Nat → Nat} {res : Int32 × St} (X : CallFix p m c cX5_step 3 s args tb RX5) (hlk : meth.locks = false) (hr : meth.sig.returnType = (some .int)) {σ : St} {H : Heap} {locs : List Loc} (hI : Inw D ty FxM (wM ty q σ) A s H locs) (x1 : Int32) (hF : b_X5_step_23 x1 σ = some res) (ls : Array Slot) (hl : lv_has ls 3 [(0, .ref (q 0)), (1, .int x1)]) : W p l e rm_X5_step s m args below meth c H locs 0 0 (MQ below (Qiw D ty (wM ty q) A res) args s 0 0 A) (F0 m 23 ls [.ref (q 0)]) := by
  unfold b_X5_step_23 at hF
  refine lv_iconst (v := 2) X.1 X.2.1 dX5_step_23 (by decide) ?_
  refine lv_goto (tgt := 28) X.1 X.2.1 dX5_step_24 (by decide) ?_
  exact w_b_X5_step_28 X hlk hr hI x1 2 hF ls (lv_sub hl [0, 1] rfl)
def f_X5_step (x1 : Int32) (σ : St) : Option (Int32 × St) :=
  if (gI σ 1) = 0 then
    b_X5_step_28 x1 1 σ
  else
    if x1 < 0 then
      b_X5_step_23 x1 σ
    else
      if x1 ≤ 2000 then
        b_X5_step_28 x1 0 σ
      else
        b_X5_step_23 x1 σ
set_option maxHeartbeats 4000000 in
set_option maxRecDepth 100000 in
theorem m_X5_step (l : Launch) (D : va_G) (ty : Nat → ClassId) (q : Nat → Nat) (σ : St) (sz : Nat) (x1 : Int32) {res : Int32 × St} (hF : f_X5_step x1 σ = some res) : Met l yX5_step (wsy yX5_step cX5_step 3 (some .int)) rm_X5_step (Pcw D ty FxM (wM ty q σ) sz [.ref (q 0), .int x1]) (Qiw D ty (wM ty q) (va_A (wM ty q σ) sz) res) 0 0 (va_A (wM ty q σ) sz) := by
  refine en_w (Qc := fun A => Qiw D ty (wM ty q) A res) (by decide) (Nat.le_of_ble_eq_true rfl) ?_
  intro p e s m args below meth c A X hlk hr _ H locs hI ls hl
  have X : CallFix p m c cX5_step 3 s args tb RX5 := X
  have hl : lv_has ls 3 [(0, .ref (q 0)), (1, .int x1)] := hl
  unfold f_X5_step at hF
  refine lv_aload_n X.1 X.2.1 dX5_step_0 rfl (lv_at hl 0 rfl) ?_
  refine lv_aload_n X.1 X.2.1 dX5_step_1 rfl (lv_at hl 0 rfl) ?_
  refine g_X5_state (v := gI σ 1) X hI rfl dX5_step_2 ?_
  refine lv_if_ne (tgt := 12) X.1 X.2.1 dX5_step_5 (by decide) (fun c1 => ?_) (fun c1 => ?_)
  · replace hF := fb_neg c1 hF
    refine lv_iload_n X.1 X.2.1 dX5_step_12 rfl (lv_at hl 1 rfl) ?_
    refine lv_if_lt (tgt := 23) X.1 X.2.1 dX5_step_13 (by decide) (fun c2 => ?_) (fun c2 => ?_)
    · replace hF := fb_pos c2 hF
      exact w_b_X5_step_23 X hlk hr hI x1 hF ls (lv_sub hl [0, 1] rfl)
    · replace hF := fb_neg c2 hF
      refine lv_iload_n X.1 X.2.1 dX5_step_16 rfl (lv_at hl 1 rfl) ?_
      refine lv_sipush (v := 2000) X.1 X.2.1 dX5_step_17 (by decide) ?_
      refine lv_icmp_le (tgt := 27) X.1 X.2.1 dX5_step_20 (by decide) (fun c8 => ?_) (fun c8 => ?_)
      · replace hF := fb_pos c8 hF
        refine lv_iconst (v := 0) X.1 X.2.1 dX5_step_27 (by decide) ?_
        exact w_b_X5_step_28 X hlk hr hI x1 0 hF ls (lv_sub hl [0, 1] rfl)
      · replace hF := fb_neg c8 hF
        exact w_b_X5_step_23 X hlk hr hI x1 hF ls (lv_sub hl [0, 1] rfl)
  · replace hF := fb_pos c1 hF
    refine lv_iconst (v := 1) X.1 X.2.1 dX5_step_8 (by decide) ?_
    refine lv_goto (tgt := 28) X.1 X.2.1 dX5_step_9 (by decide) ?_
    exact w_b_X5_step_28 X hlk hr hI x1 1 hF ls (lv_sub hl [0, 1] rfl)
abbrev rm_X5_look : Room := { frames := 1, cells := 0, slots := 0, locals := 22 }
def b_X5_look_80 (x1 x3 : Int32) (σ : St) : Option (Int32 × St) :=
  if x1 = 0 then
    some (gI σ 1, σ)
  else
  if x1 = 1 then
    (f_X5_held σ).bind fun u8 =>
    some (u8, σ)
  else
  if x1 = 2 then
    some (gI σ 4, σ)
  else
  if x1 = 3 then
    some (gI σ 5, σ)
  else
  if x1 = 4 then
    some (gI σ 6, σ)
  else
  if x1 = 5 then
    some (gI σ 7, σ)
  else
  if x1 = 6 then
    if inB x3 520 = true then
      some (gA σ 4 x3, σ)
    else none
  else
  if x1 = 7 then
    if inB x3 520 = true then
      some (gA σ 5 x3, σ)
    else none
  else
  if x1 = 8 then
    if 0 ≤ x3 then
      if inB x3 520 = true then
        some (((gI σ 8) - (gA σ 8 x3)), σ)
      else none
    else
      some (0, σ)
  else
  if x1 = 9 then
    some (gI σ 9, σ)
  else
  some (gI σ 10, σ)
set_option maxHeartbeats 4000000 in
set_option maxRecDepth 100000 in
theorem w_b_X5_look_80 {l : Launch} {p : Program} {e : Env} {s : State} {m : MethodId} {args : Array Value} {below : List Frame} {meth : Method} {c : Code} {A : Nat → Prop} {D : va_G} {ty : Nat → ClassId} {q : Nat → Nat} {res : Int32 × St} (X : CallFix p m c cX5_look 4 s args tb RX5) (hlk : meth.locks = false) (hr : meth.sig.returnType = (some .int)) {σ : St} {H : Heap} {locs : List Loc} (hI : Inw D ty FxM (wM ty q σ) A s H locs) (x1 x3 : Int32) (hF : b_X5_look_80 x1 x3 σ = some res) (ls : Array Slot) (hl : lv_has ls 4 [(0, .ref (q 0)), (1, .int x1), (3, .int x3)]) : W p l e rm_X5_look s m args below meth c H locs 0 0 (MQ below (Qiw D ty (wM ty q) A res) args s 0 0 A) (F0 m 80 ls []) := by
  unfold b_X5_look_80 at hF
  refine lv_iload_n X.1 X.2.1 dX5_look_80 rfl (lv_at hl 1 rfl) ?_
  by_cases c6 : x1 = 0
  · replace hF := fb_pos c6 hF
    refine lv_tableIn (tgt := 136) X.1 X.2.1 dX5_look_81 (by rw [c6]; decide) (by rw [c6]; decide) (by rw [c6]; rfl) (by decide) ?_
    refine lv_aload_n X.1 X.2.1 dX5_look_136 rfl (lv_at hl 0 rfl) ?_
    refine g_X5_state (v := gI σ 1) X hI rfl dX5_look_137 ?_
    exact rt_i X hlk hr hI hF dX5_look_140
  replace hF := fb_neg c6 hF
  by_cases c7 : x1 = 1
  · replace hF := fb_pos c7 hF
    refine lv_tableIn (tgt := 141) X.1 X.2.1 dX5_look_81 (by rw [c7]; decide) (by rw [c7]; decide) (by rw [c7]; rfl) (by decide) ?_
    refine lv_aload_n X.1 X.2.1 dX5_look_141 rfl (lv_at hl 0 rfl) ?_
    obtain ⟨u8, h9, hF⟩ := fb_bnd hF
    refine cl_i (w := wM ty q) (σ := σ) (rest := []) X fxM hI (m_X5_held l D ty q σ _  h9) ok_X5_held ml_X5_65 ⟨rfl, rfl, Nat.le_of_ble_eq_true rfl, Nat.le_of_ble_eq_true rfl⟩ 0 rc_X5 rfl rfl hl.1 rfl (Nat.le_of_ble_eq_true rfl) ⟨Nat.zero_le _, Nat.zero_le _⟩ dX5_look_142 (fun H locs hI => ?_)
    exact rt_i X hlk hr hI hF dX5_look_145
  replace hF := fb_neg c7 hF
  by_cases c10 : x1 = 2
  · replace hF := fb_pos c10 hF
    refine lv_tableIn (tgt := 146) X.1 X.2.1 dX5_look_81 (by rw [c10]; decide) (by rw [c10]; decide) (by rw [c10]; rfl) (by decide) ?_
    refine lv_aload_n X.1 X.2.1 dX5_look_146 rfl (lv_at hl 0 rfl) ?_
    refine g_X5_most (v := gI σ 4) X hI rfl dX5_look_147 ?_
    exact rt_i X hlk hr hI hF dX5_look_150
  replace hF := fb_neg c10 hF
  by_cases c11 : x1 = 3
  · replace hF := fb_pos c11 hF
    refine lv_tableIn (tgt := 151) X.1 X.2.1 dX5_look_81 (by rw [c11]; decide) (by rw [c11]; decide) (by rw [c11]; rfl) (by decide) ?_
    refine lv_aload_n X.1 X.2.1 dX5_look_151 rfl (lv_at hl 0 rfl) ?_
    refine g_X5_loads (v := gI σ 5) X hI rfl dX5_look_152 ?_
    exact rt_i X hlk hr hI hF dX5_look_155
  replace hF := fb_neg c11 hF
  by_cases c12 : x1 = 4
  · replace hF := fb_pos c12 hF
    refine lv_tableIn (tgt := 156) X.1 X.2.1 dX5_look_81 (by rw [c12]; decide) (by rw [c12]; decide) (by rw [c12]; rfl) (by decide) ?_
    refine lv_aload_n X.1 X.2.1 dX5_look_156 rfl (lv_at hl 0 rfl) ?_
    refine g_X5_gone (v := gI σ 6) X hI rfl dX5_look_157 ?_
    exact rt_i X hlk hr hI hF dX5_look_160
  replace hF := fb_neg c12 hF
  by_cases c13 : x1 = 5
  · replace hF := fb_pos c13 hF
    refine lv_tableIn (tgt := 161) X.1 X.2.1 dX5_look_81 (by rw [c13]; decide) (by rw [c13]; decide) (by rw [c13]; rfl) (by decide) ?_
    refine lv_aload_n X.1 X.2.1 dX5_look_161 rfl (lv_at hl 0 rfl) ?_
    refine g_X5_frames (v := gI σ 7) X hI rfl dX5_look_162 ?_
    exact rt_i X hlk hr hI hF dX5_look_165
  replace hF := fb_neg c13 hF
  by_cases c14 : x1 = 6
  · replace hF := fb_pos c14 hF
    refine lv_tableIn (tgt := 166) X.1 X.2.1 dX5_look_81 (by rw [c14]; decide) (by rw [c14]; decide) (by rw [c14]; rfl) (by decide) ?_
    refine lv_aload_n X.1 X.2.1 dX5_look_166 rfl (lv_at hl 0 rfl) ?_
    refine g_X5_segment X hI dX5_look_167 ?_
    refine lv_iload_n X.1 X.2.1 dX5_look_170 rfl (lv_at hl 2 rfl) ?_
    obtain ⟨h15, hF⟩ := fb_chk hF
    refine aM_4 (v := gA σ 4 x3) X hI rfl h15 dX5_look_171 ?_
    exact rt_i X hlk hr hI hF dX5_look_172
  replace hF := fb_neg c14 hF
  by_cases c16 : x1 = 7
  · replace hF := fb_pos c16 hF
    refine lv_tableIn (tgt := 173) X.1 X.2.1 dX5_look_81 (by rw [c16]; decide) (by rw [c16]; decide) (by rw [c16]; rfl) (by decide) ?_
    refine lv_aload_n X.1 X.2.1 dX5_look_173 rfl (lv_at hl 0 rfl) ?_
    refine g_X5_place X hI dX5_look_174 ?_
    refine lv_iload_n X.1 X.2.1 dX5_look_177 rfl (lv_at hl 2 rfl) ?_
    obtain ⟨h17, hF⟩ := fb_chk hF
    refine aM_5 (v := gA σ 5 x3) X hI rfl h17 dX5_look_178 ?_
    exact rt_i X hlk hr hI hF dX5_look_179
  replace hF := fb_neg c16 hF
  by_cases c18 : x1 = 8
  · replace hF := fb_pos c18 hF
    refine lv_tableIn (tgt := 180) X.1 X.2.1 dX5_look_81 (by rw [c18]; decide) (by rw [c18]; decide) (by rw [c18]; rfl) (by decide) ?_
    refine lv_iload_n X.1 X.2.1 dX5_look_180 rfl (lv_at hl 2 rfl) ?_
    refine lv_if_ge (tgt := 188) X.1 X.2.1 dX5_look_181 (by decide) (fun c19 => ?_) (fun c19 => ?_)
    · replace hF := fb_pos c19 hF
      refine lv_aload_n X.1 X.2.1 dX5_look_188 rfl (lv_at hl 0 rfl) ?_
      refine g_X5_numbers (v := gI σ 8) X hI rfl dX5_look_189 ?_
      refine lv_aload_n X.1 X.2.1 dX5_look_192 rfl (lv_at hl 0 rfl) ?_
      refine g_X5_below X hI dX5_look_193 ?_
      refine lv_iload_n X.1 X.2.1 dX5_look_196 rfl (lv_at hl 2 rfl) ?_
      obtain ⟨h20, hF⟩ := fb_chk hF
      refine aM_8 (v := gA σ 8 x3) X hI rfl h20 dX5_look_197 ?_
      refine lv_isub X.1 X.2.1 dX5_look_198 ?_
      exact rt_i X hlk hr hI hF dX5_look_199
    · replace hF := fb_neg c19 hF
      refine lv_iconst (v := 0) X.1 X.2.1 dX5_look_184 (by decide) ?_
      refine lv_goto (tgt := 199) X.1 X.2.1 dX5_look_185 (by decide) ?_
      exact rt_i X hlk hr hI hF dX5_look_199
  replace hF := fb_neg c18 hF
  by_cases c21 : x1 = 9
  · replace hF := fb_pos c21 hF
    refine lv_tableIn (tgt := 200) X.1 X.2.1 dX5_look_81 (by rw [c21]; decide) (by rw [c21]; decide) (by rw [c21]; rfl) (by decide) ?_
    refine lv_aload_n X.1 X.2.1 dX5_look_200 rfl (lv_at hl 0 rfl) ?_
    refine g_X5_result (v := gI σ 9) X hI rfl dX5_look_201 ?_
    exact rt_i X hlk hr hI hF dX5_look_204
  replace hF := fb_neg c21 hF
  have hDf : W p l e rm_X5_look s m args below meth c H locs 0 0 (MQ below (Qiw D ty (wM ty q) A res) args s 0 0 A) (F0 m 205 ls []) := by
    refine lv_aload_n X.1 X.2.1 dX5_look_205 rfl (lv_at hl 0 rfl) ?_
    refine g_X5_puts (v := gI σ 10) X hI rfl dX5_look_206 ?_
    exact rt_i X hlk hr hI hF dX5_look_209
  refine lv_tableOut (tgt := 205) X.1 X.2.1 dX5_look_81 ?_ (by decide) hDf
  by_cases g22 : (x1).toInt < 0
  · exact Or.inl g22
  · refine Or.inr ?_
    have n0 : ¬ (x1).toInt = 0 := fun h => c6 (Int32.toInt_inj.mp (h.trans (by decide)))
    have n1 : ¬ (x1).toInt = 1 := fun h => c7 (Int32.toInt_inj.mp (h.trans (by decide)))
    have n2 : ¬ (x1).toInt = 2 := fun h => c10 (Int32.toInt_inj.mp (h.trans (by decide)))
    have n3 : ¬ (x1).toInt = 3 := fun h => c11 (Int32.toInt_inj.mp (h.trans (by decide)))
    have n4 : ¬ (x1).toInt = 4 := fun h => c12 (Int32.toInt_inj.mp (h.trans (by decide)))
    have n5 : ¬ (x1).toInt = 5 := fun h => c13 (Int32.toInt_inj.mp (h.trans (by decide)))
    have n6 : ¬ (x1).toInt = 6 := fun h => c14 (Int32.toInt_inj.mp (h.trans (by decide)))
    have n7 : ¬ (x1).toInt = 7 := fun h => c16 (Int32.toInt_inj.mp (h.trans (by decide)))
    have n8 : ¬ (x1).toInt = 8 := fun h => c18 (Int32.toInt_inj.mp (h.trans (by decide)))
    have n9 : ¬ (x1).toInt = 9 := fun h => c21 (Int32.toInt_inj.mp (h.trans (by decide)))
    omega
def b_X5_look_45 (x1 z0 : Int32) (σ : St) : Option (Int32 × St) :=
  if (gI σ 1) = 0 then
    if z0 = 0 then
      some (0, σ)
    else
      some ((-1), σ)
  else
    if 0 ≤ ((gI σ 7) - 1) then
      b_X5_look_80 x1 ((gI σ 7) - 1) σ
    else
      if z0 = 0 then
        b_X5_look_80 x1 ((gI σ 7) - 1) σ
      else
        some ((-1), σ)
set_option maxHeartbeats 4000000 in
set_option maxRecDepth 100000 in
theorem w_b_X5_look_45 {l : Launch} {p : Program} {e : Env} {s : State} {m : MethodId} {args : Array Value} {below : List Frame} {meth : Method} {c : Code} {A : Nat → Prop} {D : va_G} {ty : Nat → ClassId} {q : Nat → Nat} {res : Int32 × St} (X : CallFix p m c cX5_look 4 s args tb RX5) (hlk : meth.locks = false) (hr : meth.sig.returnType = (some .int)) {σ : St} {H : Heap} {locs : List Loc} (hI : Inw D ty FxM (wM ty q σ) A s H locs) (x1 z0 : Int32) (hF : b_X5_look_45 x1 z0 σ = some res) (ls : Array Slot) (hl : lv_has ls 4 [(0, .ref (q 0)), (1, .int x1)]) : W p l e rm_X5_look s m args below meth c H locs 0 0 (MQ below (Qiw D ty (wM ty q) A res) args s 0 0 A) (F0 m 45 ls [.int z0]) := by
  unfold b_X5_look_45 at hF
  refine lv_istore_n (lv' := [(2, .int z0), (0, .ref (q 0)), (1, .int x1)]) X.1 X.2.1 dX5_look_45 rfl hl (by decide) rfl (fun ls hl => ?_)
  refine lv_aload_n X.1 X.2.1 dX5_look_46 rfl (lv_at hl 1 rfl) ?_
  refine g_X5_state (v := gI σ 1) X hI rfl dX5_look_47 ?_
  refine lv_if_ne (tgt := 63) X.1 X.2.1 dX5_look_50 (by decide) (fun c4 => ?_) (fun c4 => ?_)
  · replace hF := fb_neg c4 hF
    refine lv_aload_n X.1 X.2.1 dX5_look_63 rfl (lv_at hl 1 rfl) ?_
    refine g_X5_frames (v := gI σ 7) X hI rfl dX5_look_64 ?_
    refine lv_iconst (v := 1) X.1 X.2.1 dX5_look_67 (by decide) ?_
    refine lv_isub X.1 X.2.1 dX5_look_68 ?_
    refine lv_istore_n (lv' := [(3, .int ((gI σ 7) - 1)), (2, .int z0), (0, .ref (q 0)), (1, .int x1)]) X.1 X.2.1 dX5_look_69 rfl hl (by decide) rfl (fun ls hl => ?_)
    refine lv_iload_n X.1 X.2.1 dX5_look_70 rfl (lv_at hl 0 rfl) ?_
    refine lv_if_ge (tgt := 80) X.1 X.2.1 dX5_look_71 (by decide) (fun c5 => ?_) (fun c5 => ?_)
    · replace hF := fb_pos c5 hF
      exact w_b_X5_look_80 X hlk hr hI x1 ((gI σ 7) - 1) hF ls (lv_sub hl [2, 3, 0] rfl)
    · replace hF := fb_neg c5 hF
      refine lv_iload_n X.1 X.2.1 dX5_look_74 rfl (lv_at hl 1 rfl) ?_
      refine lv_if_eq (tgt := 80) X.1 X.2.1 dX5_look_75 (by decide) (fun c23 => ?_) (fun c23 => ?_)
      · replace hF := fb_pos c23 hF
        exact w_b_X5_look_80 X hlk hr hI x1 ((gI σ 7) - 1) hF ls (lv_sub hl [2, 3, 0] rfl)
      · replace hF := fb_neg c23 hF
        refine lv_iconst (v := (-1)) X.1 X.2.1 dX5_look_78 (by decide) ?_
        exact rt_i X hlk hr hI hF dX5_look_79
  · replace hF := fb_pos c4 hF
    refine lv_iload_n X.1 X.2.1 dX5_look_53 rfl (lv_at hl 0 rfl) ?_
    refine lv_if_eq (tgt := 61) X.1 X.2.1 dX5_look_54 (by decide) (fun c24 => ?_) (fun c24 => ?_)
    · replace hF := fb_pos c24 hF
      refine lv_iconst (v := 0) X.1 X.2.1 dX5_look_61 (by decide) ?_
      exact rt_i X hlk hr hI hF dX5_look_62
    · replace hF := fb_neg c24 hF
      refine lv_iconst (v := (-1)) X.1 X.2.1 dX5_look_57 (by decide) ?_
      refine lv_goto (tgt := 62) X.1 X.2.1 dX5_look_58 (by decide) ?_
      exact rt_i X hlk hr hI hF dX5_look_62
def b_X5_look_40 (x1 : Int32) (σ : St) : Option (Int32 × St) :=
  b_X5_look_45 x1 1 σ
set_option maxHeartbeats 4000000 in
set_option maxRecDepth 100000 in
theorem w_b_X5_look_40 {l : Launch} {p : Program} {e : Env} {s : State} {m : MethodId} {args : Array Value} {below : List Frame} {meth : Method} {c : Code} {A : Nat → Prop} {D : va_G} {ty : Nat → ClassId} {q : Nat → Nat} {res : Int32 × St} (X : CallFix p m c cX5_look 4 s args tb RX5) (hlk : meth.locks = false) (hr : meth.sig.returnType = (some .int)) {σ : St} {H : Heap} {locs : List Loc} (hI : Inw D ty FxM (wM ty q σ) A s H locs) (x1 : Int32) (hF : b_X5_look_40 x1 σ = some res) (ls : Array Slot) (hl : lv_has ls 4 [(0, .ref (q 0)), (1, .int x1)]) : W p l e rm_X5_look s m args below meth c H locs 0 0 (MQ below (Qiw D ty (wM ty q) A res) args s 0 0 A) (F0 m 40 ls []) := by
  unfold b_X5_look_40 at hF
  refine lv_iconst (v := 1) X.1 X.2.1 dX5_look_40 (by decide) ?_
  refine lv_goto (tgt := 45) X.1 X.2.1 dX5_look_41 (by decide) ?_
  exact w_b_X5_look_45 X hlk hr hI x1 1 hF ls (lv_sub hl [0, 1] rfl)
def b_X5_look_16 (x1 z0 : Int32) (σ : St) : Option (Int32 × St) :=
  if z0 ≤ 0 then
    if x1 = 6 then
      b_X5_look_40 x1 (sI σ 0 z0)
    else
      if x1 = 7 then
        b_X5_look_40 x1 (sI σ 0 z0)
      else
        b_X5_look_45 x1 0 (sI σ 0 z0)
  else
    some (0, sI σ 0 z0)
set_option maxHeartbeats 4000000 in
set_option maxRecDepth 100000 in
theorem w_b_X5_look_16 {l : Launch} {p : Program} {e : Env} {s : State} {m : MethodId} {args : Array Value} {below : List Frame} {meth : Method} {c : Code} {A : Nat → Prop} {D : va_G} {ty : Nat → ClassId} {q : Nat → Nat} {res : Int32 × St} (X : CallFix p m c cX5_look 4 s args tb RX5) (hlk : meth.locks = false) (hr : meth.sig.returnType = (some .int)) {σ : St} {H : Heap} {locs : List Loc} (hI : Inw D ty FxM (wM ty q σ) A s H locs) (x1 z0 : Int32) (hF : b_X5_look_16 x1 z0 σ = some res) (ls : Array Slot) (hl : lv_has ls 4 [(0, .ref (q 0)), (1, .int x1)]) : W p l e rm_X5_look s m args below meth c H locs 0 0 (MQ below (Qiw D ty (wM ty q) A res) args s 0 0 A) (F0 m 16 ls [.int z0, .ref (q 0)]) := by
  unfold b_X5_look_16 at hF
  refine p_X5_code X hI dX5_look_16 (fun H locs hI => ?_)
  refine lv_aload_n X.1 X.2.1 dX5_look_19 rfl (lv_at hl 0 rfl) ?_
  refine g_X5_code (v := z0) X hI rfl dX5_look_20 ?_
  refine lv_if_le (tgt := 28) X.1 X.2.1 dX5_look_23 (by decide) (fun c2 => ?_) (fun c2 => ?_)
  · replace hF := fb_pos c2 hF
    refine lv_iload_n X.1 X.2.1 dX5_look_28 rfl (lv_at hl 1 rfl) ?_
    refine lv_bipush (v := 6) X.1 X.2.1 dX5_look_29 (by decide) ?_
    refine lv_icmp_eq (tgt := 40) X.1 X.2.1 dX5_look_31 (by decide) (fun c3 => ?_) (fun c3 => ?_)
    · replace hF := fb_pos c3 hF
      exact w_b_X5_look_40 X hlk hr hI x1 hF ls (lv_sub hl [0, 1] rfl)
    · replace hF := fb_neg c3 hF
      refine lv_iload_n X.1 X.2.1 dX5_look_34 rfl (lv_at hl 1 rfl) ?_
      refine lv_bipush (v := 7) X.1 X.2.1 dX5_look_35 (by decide) ?_
      refine lv_icmp_ne (tgt := 44) X.1 X.2.1 dX5_look_37 (by decide) (fun c25 => ?_) (fun c25 => ?_)
      · replace hF := fb_neg c25 hF
        refine lv_iconst (v := 0) X.1 X.2.1 dX5_look_44 (by decide) ?_
        exact w_b_X5_look_45 X hlk hr hI x1 0 hF ls (lv_sub hl [0, 1] rfl)
      · replace hF := fb_pos c25 hF
        exact w_b_X5_look_40 X hlk hr hI x1 hF ls (lv_sub hl [0, 1] rfl)
  · replace hF := fb_neg c2 hF
    refine lv_iconst (v := 0) X.1 X.2.1 dX5_look_26 (by decide) ?_
    exact rt_i X hlk hr hI hF dX5_look_27
def b_X5_look_11 (x1 : Int32) (σ : St) : Option (Int32 × St) :=
  b_X5_look_16 x1 1 σ
set_option maxHeartbeats 4000000 in
set_option maxRecDepth 100000 in
theorem w_b_X5_look_11 {l : Launch} {p : Program} {e : Env} {s : State} {m : MethodId} {args : Array Value} {below : List Frame} {meth : Method} {c : Code} {A : Nat → Prop} {D : va_G} {ty : Nat → ClassId} {q : Nat → Nat} {res : Int32 × St} (X : CallFix p m c cX5_look 4 s args tb RX5) (hlk : meth.locks = false) (hr : meth.sig.returnType = (some .int)) {σ : St} {H : Heap} {locs : List Loc} (hI : Inw D ty FxM (wM ty q σ) A s H locs) (x1 : Int32) (hF : b_X5_look_11 x1 σ = some res) (ls : Array Slot) (hl : lv_has ls 4 [(0, .ref (q 0)), (1, .int x1)]) : W p l e rm_X5_look s m args below meth c H locs 0 0 (MQ below (Qiw D ty (wM ty q) A res) args s 0 0 A) (F0 m 11 ls [.ref (q 0)]) := by
  unfold b_X5_look_11 at hF
  refine lv_iconst (v := 1) X.1 X.2.1 dX5_look_11 (by decide) ?_
  refine lv_goto (tgt := 16) X.1 X.2.1 dX5_look_12 (by decide) ?_
  exact w_b_X5_look_16 X hlk hr hI x1 1 hF ls (lv_sub hl [0, 1] rfl)
def f_X5_look (x1 : Int32) (σ : St) : Option (Int32 × St) :=
  if x1 < 0 then
    b_X5_look_11 x1 σ
  else
    if x1 ≤ 10 then
      b_X5_look_16 x1 0 σ
    else
      b_X5_look_11 x1 σ
set_option maxHeartbeats 4000000 in
set_option maxRecDepth 100000 in
theorem m_X5_look (l : Launch) (D : va_G) (ty : Nat → ClassId) (q : Nat → Nat) (σ : St) (sz : Nat) (x1 : Int32) {res : Int32 × St} (hF : f_X5_look x1 σ = some res) : Met l yX5_look (wsy yX5_look cX5_look 4 (some .int)) rm_X5_look (Pcw D ty FxM (wM ty q σ) sz [.ref (q 0), .int x1]) (Qiw D ty (wM ty q) (va_A (wM ty q σ) sz) res) 0 0 (va_A (wM ty q σ) sz) := by
  refine en_w (Qc := fun A => Qiw D ty (wM ty q) A res) (by decide) (Nat.le_of_ble_eq_true rfl) ?_
  intro p e s m args below meth c A X hlk hr _ H locs hI ls hl
  have X : CallFix p m c cX5_look 4 s args tb RX5 := X
  have hl : lv_has ls 4 [(0, .ref (q 0)), (1, .int x1)] := hl
  unfold f_X5_look at hF
  refine lv_aload_n X.1 X.2.1 dX5_look_0 rfl (lv_at hl 0 rfl) ?_
  refine lv_iload_n X.1 X.2.1 dX5_look_1 rfl (lv_at hl 1 rfl) ?_
  refine lv_if_lt (tgt := 11) X.1 X.2.1 dX5_look_2 (by decide) (fun c1 => ?_) (fun c1 => ?_)
  · replace hF := fb_pos c1 hF
    exact w_b_X5_look_11 X hlk hr hI x1 hF ls (lv_sub hl [0, 1] rfl)
  · replace hF := fb_neg c1 hF
    refine lv_iload_n X.1 X.2.1 dX5_look_5 rfl (lv_at hl 1 rfl) ?_
    refine lv_bipush (v := 10) X.1 X.2.1 dX5_look_6 (by decide) ?_
    refine lv_icmp_le (tgt := 15) X.1 X.2.1 dX5_look_8 (by decide) (fun c26 => ?_) (fun c26 => ?_)
    · replace hF := fb_pos c26 hF
      refine lv_iconst (v := 0) X.1 X.2.1 dX5_look_15 (by decide) ?_
      exact w_b_X5_look_16 X hlk hr hI x1 0 hF ls (lv_sub hl [0, 1] rfl)
    · replace hF := fb_neg c26 hF
      exact w_b_X5_look_11 X hlk hr hI x1 hF ls (lv_sub hl [0, 1] rfl)
abbrev rm_X5_state : Room := { frames := 1, cells := 0, slots := 0, locals := 23 }
def b_X5_state_46 (x1 z0 : Int32) (σ : St) : Option (Int32 × St) :=
  (f_X5_isActive x1 σ).bind fun u8 =>
  if u8 = 0 then
    some ((z0 + 0), σ)
  else
    some ((z0 + 2), σ)
set_option maxHeartbeats 4000000 in
set_option maxRecDepth 100000 in
theorem w_b_X5_state_46 {l : Launch} {p : Program} {e : Env} {s : State} {m : MethodId} {args : Array Value} {below : List Frame} {meth : Method} {c : Code} {A : Nat → Prop} {D : va_G} {ty : Nat → ClassId} {q : Nat → Nat} {res : Int32 × St} (X : CallFix p m c cX5_state 2 s args tb RX5) (hlk : meth.locks = false) (hr : meth.sig.returnType = (some .int)) {σ : St} {H : Heap} {locs : List Loc} (hI : Inw D ty FxM (wM ty q σ) A s H locs) (x1 z0 : Int32) (hF : b_X5_state_46 x1 z0 σ = some res) (ls : Array Slot) (hl : lv_has ls 2 [(0, .ref (q 0)), (1, .int x1)]) : W p l e rm_X5_state s m args below meth c H locs 0 0 (MQ below (Qiw D ty (wM ty q) A res) args s 0 0 A) (F0 m 46 ls [.int z0]) := by
  unfold b_X5_state_46 at hF
  refine lv_aload_n X.1 X.2.1 dX5_state_46 rfl (lv_at hl 0 rfl) ?_
  refine lv_iload_n X.1 X.2.1 dX5_state_47 rfl (lv_at hl 1 rfl) ?_
  obtain ⟨u8, h9, hF⟩ := fb_bnd hF
  refine cl_i (w := wM ty q) (σ := σ) (rest := [.int z0]) X fxM hI (m_X5_isActive l D ty q σ _ x1 h9) ok_X5_isActive ml_X5_72 ⟨rfl, rfl, Nat.le_of_ble_eq_true rfl, Nat.le_of_ble_eq_true rfl⟩ 0 rc_X5 rfl rfl hl.1 rfl (Nat.le_of_ble_eq_true rfl) ⟨Nat.zero_le _, Nat.zero_le _⟩ dX5_state_48 (fun H locs hI => ?_)
  refine lv_if_eq (tgt := 58) X.1 X.2.1 dX5_state_51 (by decide) (fun c10 => ?_) (fun c10 => ?_)
  · replace hF := fb_pos c10 hF
    refine lv_iconst (v := 0) X.1 X.2.1 dX5_state_58 (by decide) ?_
    refine lv_iadd X.1 X.2.1 dX5_state_59 ?_
    exact rt_i X hlk hr hI hF dX5_state_60
  · replace hF := fb_neg c10 hF
    refine lv_iconst (v := 2) X.1 X.2.1 dX5_state_54 (by decide) ?_
    refine lv_goto (tgt := 59) X.1 X.2.1 dX5_state_55 (by decide) ?_
    refine lv_iadd X.1 X.2.1 dX5_state_59 ?_
    exact rt_i X hlk hr hI hF dX5_state_60
def b_X5_state_13 (x1 z0 : Int32) (σ : St) : Option (Int32 × St) :=
  if 0 < z0 then
    some (0, sI σ 0 z0)
  else
    if (gI σ 1) = 0 then
      some (0, sI σ 0 z0)
    else
      if inB x1 5 = true then
        if (gA σ 2 x1) = 0 then
          b_X5_state_46 x1 0 (sI σ 0 z0)
        else
          b_X5_state_46 x1 1 (sI σ 0 z0)
      else none
set_option maxHeartbeats 4000000 in
set_option maxRecDepth 100000 in
theorem w_b_X5_state_13 {l : Launch} {p : Program} {e : Env} {s : State} {m : MethodId} {args : Array Value} {below : List Frame} {meth : Method} {c : Code} {A : Nat → Prop} {D : va_G} {ty : Nat → ClassId} {q : Nat → Nat} {res : Int32 × St} (X : CallFix p m c cX5_state 2 s args tb RX5) (hlk : meth.locks = false) (hr : meth.sig.returnType = (some .int)) {σ : St} {H : Heap} {locs : List Loc} (hI : Inw D ty FxM (wM ty q σ) A s H locs) (x1 z0 : Int32) (hF : b_X5_state_13 x1 z0 σ = some res) (ls : Array Slot) (hl : lv_has ls 2 [(0, .ref (q 0)), (1, .int x1)]) : W p l e rm_X5_state s m args below meth c H locs 0 0 (MQ below (Qiw D ty (wM ty q) A res) args s 0 0 A) (F0 m 13 ls [.int z0, .ref (q 0)]) := by
  unfold b_X5_state_13 at hF
  refine p_X5_code X hI dX5_state_13 (fun H locs hI => ?_)
  refine lv_aload_n X.1 X.2.1 dX5_state_16 rfl (lv_at hl 0 rfl) ?_
  refine g_X5_code (v := z0) X hI rfl dX5_state_17 ?_
  refine lv_if_gt (tgt := 30) X.1 X.2.1 dX5_state_20 (by decide) (fun c4 => ?_) (fun c4 => ?_)
  · replace hF := fb_pos c4 hF
    refine lv_iconst (v := 0) X.1 X.2.1 dX5_state_30 (by decide) ?_
    exact rt_i X hlk hr hI hF dX5_state_31
  · replace hF := fb_neg c4 hF
    refine lv_aload_n X.1 X.2.1 dX5_state_23 rfl (lv_at hl 0 rfl) ?_
    refine g_X5_state (v := gI σ 1) X hI rfl dX5_state_24 ?_
    refine lv_if_ne (tgt := 32) X.1 X.2.1 dX5_state_27 (by decide) (fun c5 => ?_) (fun c5 => ?_)
    · replace hF := fb_neg c5 hF
      refine lv_aload_n X.1 X.2.1 dX5_state_32 rfl (lv_at hl 0 rfl) ?_
      refine g_X5_resident X hI dX5_state_33 ?_
      refine lv_iload_n X.1 X.2.1 dX5_state_36 rfl (lv_at hl 1 rfl) ?_
      obtain ⟨h6, hF⟩ := fb_chk hF
      refine aM_2 (v := gA σ 2 x1) X hI rfl h6 dX5_state_37 ?_
      refine lv_if_eq (tgt := 45) X.1 X.2.1 dX5_state_38 (by decide) (fun c7 => ?_) (fun c7 => ?_)
      · replace hF := fb_pos c7 hF
        refine lv_iconst (v := 0) X.1 X.2.1 dX5_state_45 (by decide) ?_
        exact w_b_X5_state_46 X hlk hr hI x1 0 hF ls (lv_sub hl [0, 1] rfl)
      · replace hF := fb_neg c7 hF
        refine lv_iconst (v := 1) X.1 X.2.1 dX5_state_41 (by decide) ?_
        refine lv_goto (tgt := 46) X.1 X.2.1 dX5_state_42 (by decide) ?_
        exact w_b_X5_state_46 X hlk hr hI x1 1 hF ls (lv_sub hl [0, 1] rfl)
    · replace hF := fb_pos c5 hF
      refine lv_iconst (v := 0) X.1 X.2.1 dX5_state_30 (by decide) ?_
      exact rt_i X hlk hr hI hF dX5_state_31
def f_X5_state (x1 : Int32) (σ : St) : Option (Int32 × St) :=
  (f_X5_isSegment x1 σ).bind fun u1 =>
  if u1 = 0 then
    b_X5_state_13 x1 1 σ
  else
    b_X5_state_13 x1 0 σ
set_option maxHeartbeats 4000000 in
set_option maxRecDepth 100000 in
theorem m_X5_state (l : Launch) (D : va_G) (ty : Nat → ClassId) (q : Nat → Nat) (σ : St) (sz : Nat) (x1 : Int32) {res : Int32 × St} (hF : f_X5_state x1 σ = some res) : Met l yX5_state (wsy yX5_state cX5_state 2 (some .int)) rm_X5_state (Pcw D ty FxM (wM ty q σ) sz [.ref (q 0), .int x1]) (Qiw D ty (wM ty q) (va_A (wM ty q σ) sz) res) 0 0 (va_A (wM ty q σ) sz) := by
  refine en_w (Qc := fun A => Qiw D ty (wM ty q) A res) (by decide) (Nat.le_of_ble_eq_true rfl) ?_
  intro p e s m args below meth c A X hlk hr _ H locs hI ls hl
  have X : CallFix p m c cX5_state 2 s args tb RX5 := X
  have hl : lv_has ls 2 [(0, .ref (q 0)), (1, .int x1)] := hl
  unfold f_X5_state at hF
  refine lv_aload_n X.1 X.2.1 dX5_state_0 rfl (lv_at hl 0 rfl) ?_
  refine lv_iload_n X.1 X.2.1 dX5_state_1 rfl (lv_at hl 1 rfl) ?_
  obtain ⟨u1, h2, hF⟩ := fb_bnd hF
  refine cs_i (w := wM ty q) (σ := σ) (rest := [.ref (q 0)]) X fxM hI (m_X5_isSegment l D ty q σ _ x1 h2) ok_X5_isSegment ml_X5_48 ⟨rfl, rfl, Nat.le_of_ble_eq_true rfl, Nat.le_of_ble_eq_true rfl⟩ rfl hl.1 rfl (Nat.le_of_ble_eq_true rfl) ⟨Nat.zero_le _, Nat.zero_le _⟩ dX5_state_2 (fun H locs hI => ?_)
  refine lv_if_eq (tgt := 12) X.1 X.2.1 dX5_state_5 (by decide) (fun c3 => ?_) (fun c3 => ?_)
  · replace hF := fb_pos c3 hF
    refine lv_iconst (v := 1) X.1 X.2.1 dX5_state_12 (by decide) ?_
    exact w_b_X5_state_13 X hlk hr hI x1 1 hF ls (lv_sub hl [0, 1] rfl)
  · replace hF := fb_neg c3 hF
    refine lv_iconst (v := 0) X.1 X.2.1 dX5_state_8 (by decide) ?_
    refine lv_goto (tgt := 13) X.1 X.2.1 dX5_state_9 (by decide) ?_
    exact w_b_X5_state_13 X hlk hr hI x1 0 hF ls (lv_sub hl [0, 1] rfl)
abbrev rm_X5_out : Room := { frames := 0, cells := 0, slots := 0, locals := 0 }
def f_X5_out (x1 : Int32) (σ : St) : Option (Int32 × St) :=
  if (gI σ 1) = 0 then
    some (0, sI σ 0 1)
  else
    if x1 < 0 then
      some (0, sI σ 0 1)
    else
      if x1 < (gI σ 10) then
        if inB x1 40 = true then
          some (gA σ 10 x1, sI σ 0 0)
        else none
      else
        some (0, sI σ 0 1)
set_option maxHeartbeats 4000000 in
set_option maxRecDepth 100000 in
theorem m_X5_out (l : Launch) (D : va_G) (ty : Nat → ClassId) (q : Nat → Nat) (σ : St) (sz : Nat) (x1 : Int32) {res : Int32 × St} (hF : f_X5_out x1 σ = some res) : Met l yX5_out (wsy yX5_out cX5_out 2 (some .int)) rm_X5_out (Pcw D ty FxM (wM ty q σ) sz [.ref (q 0), .int x1]) (Qiw D ty (wM ty q) (va_A (wM ty q σ) sz) res) 0 0 (va_A (wM ty q σ) sz) := by
  refine en_w (Qc := fun A => Qiw D ty (wM ty q) A res) (by decide) (Nat.le_of_ble_eq_true rfl) ?_
  intro p e s m args below meth c A X hlk hr _ H locs hI ls hl
  have X : CallFix p m c cX5_out 2 s args tb RX5 := X
  have hl : lv_has ls 2 [(0, .ref (q 0)), (1, .int x1)] := hl
  unfold f_X5_out at hF
  refine lv_aload_n X.1 X.2.1 dX5_out_0 rfl (lv_at hl 0 rfl) ?_
  refine lv_aload_n X.1 X.2.1 dX5_out_1 rfl (lv_at hl 0 rfl) ?_
  refine g_X5_state (v := gI σ 1) X hI rfl dX5_out_2 ?_
  refine lv_if_eq (tgt := 20) X.1 X.2.1 dX5_out_5 (by decide) (fun c1 => ?_) (fun c1 => ?_)
  · replace hF := fb_pos c1 hF
    refine lv_iconst (v := 1) X.1 X.2.1 dX5_out_20 (by decide) ?_
    refine lv_goto (tgt := 25) X.1 X.2.1 dX5_out_21 (by decide) ?_
    refine p_X5_code X hI dX5_out_25 (fun H locs hI => ?_)
    refine lv_aload_n X.1 X.2.1 dX5_out_28 rfl (lv_at hl 0 rfl) ?_
    refine g_X5_code (v := 1) X hI rfl dX5_out_29 ?_
    refine lv_if_le (tgt := 39) X.1 X.2.1 dX5_out_32 (by decide) (fun c => absurd c (by decide)) (fun _ => ?_)
    refine lv_iconst (v := 0) X.1 X.2.1 dX5_out_35 (by decide) ?_
    refine lv_goto (tgt := 45) X.1 X.2.1 dX5_out_36 (by decide) ?_
    exact rt_i X hlk hr hI hF dX5_out_45
  · replace hF := fb_neg c1 hF
    refine lv_iload_n X.1 X.2.1 dX5_out_8 rfl (lv_at hl 1 rfl) ?_
    refine lv_if_lt (tgt := 20) X.1 X.2.1 dX5_out_9 (by decide) (fun c2 => ?_) (fun c2 => ?_)
    · replace hF := fb_pos c2 hF
      refine lv_iconst (v := 1) X.1 X.2.1 dX5_out_20 (by decide) ?_
      refine lv_goto (tgt := 25) X.1 X.2.1 dX5_out_21 (by decide) ?_
      refine p_X5_code X hI dX5_out_25 (fun H locs hI => ?_)
      refine lv_aload_n X.1 X.2.1 dX5_out_28 rfl (lv_at hl 0 rfl) ?_
      refine g_X5_code (v := 1) X hI rfl dX5_out_29 ?_
      refine lv_if_le (tgt := 39) X.1 X.2.1 dX5_out_32 (by decide) (fun c => absurd c (by decide)) (fun _ => ?_)
      refine lv_iconst (v := 0) X.1 X.2.1 dX5_out_35 (by decide) ?_
      refine lv_goto (tgt := 45) X.1 X.2.1 dX5_out_36 (by decide) ?_
      exact rt_i X hlk hr hI hF dX5_out_45
    · replace hF := fb_neg c2 hF
      refine lv_iload_n X.1 X.2.1 dX5_out_12 rfl (lv_at hl 1 rfl) ?_
      refine lv_aload_n X.1 X.2.1 dX5_out_13 rfl (lv_at hl 0 rfl) ?_
      refine g_X5_puts (v := gI σ 10) X hI rfl dX5_out_14 ?_
      refine lv_icmp_lt (tgt := 24) X.1 X.2.1 dX5_out_17 (by decide) (fun c3 => ?_) (fun c3 => ?_)
      · replace hF := fb_pos c3 hF
        refine lv_iconst (v := 0) X.1 X.2.1 dX5_out_24 (by decide) ?_
        refine p_X5_code X hI dX5_out_25 (fun H locs hI => ?_)
        refine lv_aload_n X.1 X.2.1 dX5_out_28 rfl (lv_at hl 0 rfl) ?_
        refine g_X5_code (v := 0) X hI rfl dX5_out_29 ?_
        refine lv_if_le (tgt := 39) X.1 X.2.1 dX5_out_32 (by decide) (fun _ => ?_) (fun c => absurd (by decide) c)
        refine lv_aload_n X.1 X.2.1 dX5_out_39 rfl (lv_at hl 0 rfl) ?_
        refine g_X5_put X hI dX5_out_40 ?_
        refine lv_iload_n X.1 X.2.1 dX5_out_43 rfl (lv_at hl 1 rfl) ?_
        obtain ⟨h4, hF⟩ := fb_chk hF
        refine aM_10 (v := gA σ 10 x1) X hI rfl h4 dX5_out_44 ?_
        exact rt_i X hlk hr hI hF dX5_out_45
      · replace hF := fb_neg c3 hF
        refine lv_iconst (v := 1) X.1 X.2.1 dX5_out_20 (by decide) ?_
        refine lv_goto (tgt := 25) X.1 X.2.1 dX5_out_21 (by decide) ?_
        refine p_X5_code X hI dX5_out_25 (fun H locs hI => ?_)
        refine lv_aload_n X.1 X.2.1 dX5_out_28 rfl (lv_at hl 0 rfl) ?_
        refine g_X5_code (v := 1) X hI rfl dX5_out_29 ?_
        refine lv_if_le (tgt := 39) X.1 X.2.1 dX5_out_32 (by decide) (fun c => absurd c (by decide)) (fun _ => ?_)
        refine lv_iconst (v := 0) X.1 X.2.1 dX5_out_35 (by decide) ?_
        refine lv_goto (tgt := 45) X.1 X.2.1 dX5_out_36 (by decide) ?_
        exact rt_i X hlk hr hI hF dX5_out_45
abbrev rm_X5_local : Room := { frames := 0, cells := 0, slots := 0, locals := 0 }
def f_X5_local (x1 x2 : Int32) (σ : St) : Option (Int32 × St) :=
  if (gI σ 1) = 0 then
    some (0, sI σ 0 0)
  else
    if x1 < 0 then
      some (0, sI σ 0 0)
    else
      if (gI σ 7) ≤ x1 then
        some (0, sI σ 0 0)
      else
        if x2 < 0 then
          some (0, sI σ 0 0)
        else
          if inB x1 520 = true then
            if x2 < (gA σ 6 x1) then
              if inB ((6 * x1) + x2) 3120 = true then
                some (gA σ 7 ((6 * x1) + x2), sI σ 0 0)
              else none
            else
              some (0, sI σ 0 0)
          else none
set_option maxHeartbeats 4000000 in
set_option maxRecDepth 100000 in
theorem m_X5_local (l : Launch) (D : va_G) (ty : Nat → ClassId) (q : Nat → Nat) (σ : St) (sz : Nat) (x1 x2 : Int32) {res : Int32 × St} (hF : f_X5_local x1 x2 σ = some res) : Met l yX5_local (wsy yX5_local cX5_local 3 (some .int)) rm_X5_local (Pcw D ty FxM (wM ty q σ) sz [.ref (q 0), .int x1, .int x2]) (Qiw D ty (wM ty q) (va_A (wM ty q σ) sz) res) 0 0 (va_A (wM ty q σ) sz) := by
  refine en_w (Qc := fun A => Qiw D ty (wM ty q) A res) (by decide) (Nat.le_of_ble_eq_true rfl) ?_
  intro p e s m args below meth c A X hlk hr _ H locs hI ls hl
  have X : CallFix p m c cX5_local 3 s args tb RX5 := X
  have hl : lv_has ls 3 [(0, .ref (q 0)), (1, .int x1), (2, .int x2)] := hl
  unfold f_X5_local at hF
  refine lv_aload_n X.1 X.2.1 dX5_local_0 rfl (lv_at hl 0 rfl) ?_
  refine lv_iconst (v := 0) X.1 X.2.1 dX5_local_1 (by decide) ?_
  refine p_X5_code X hI dX5_local_2 (fun H locs hI => ?_)
  refine lv_aload_n X.1 X.2.1 dX5_local_5 rfl (lv_at hl 0 rfl) ?_
  refine g_X5_state (v := gI σ 1) X hI rfl dX5_local_6 ?_
  refine lv_if_eq (tgt := 38) X.1 X.2.1 dX5_local_9 (by decide) (fun c1 => ?_) (fun c1 => ?_)
  · replace hF := fb_pos c1 hF
    refine lv_iconst (v := 0) X.1 X.2.1 dX5_local_38 (by decide) ?_
    refine lv_goto (tgt := 53) X.1 X.2.1 dX5_local_39 (by decide) ?_
    exact rt_i X hlk hr hI hF dX5_local_53
  · replace hF := fb_neg c1 hF
    refine lv_iload_n X.1 X.2.1 dX5_local_12 rfl (lv_at hl 1 rfl) ?_
    refine lv_if_lt (tgt := 38) X.1 X.2.1 dX5_local_13 (by decide) (fun c2 => ?_) (fun c2 => ?_)
    · replace hF := fb_pos c2 hF
      refine lv_iconst (v := 0) X.1 X.2.1 dX5_local_38 (by decide) ?_
      refine lv_goto (tgt := 53) X.1 X.2.1 dX5_local_39 (by decide) ?_
      exact rt_i X hlk hr hI hF dX5_local_53
    · replace hF := fb_neg c2 hF
      refine lv_iload_n X.1 X.2.1 dX5_local_16 rfl (lv_at hl 1 rfl) ?_
      refine lv_aload_n X.1 X.2.1 dX5_local_17 rfl (lv_at hl 0 rfl) ?_
      refine g_X5_frames (v := gI σ 7) X hI rfl dX5_local_18 ?_
      refine lv_icmp_ge (tgt := 38) X.1 X.2.1 dX5_local_21 (by decide) (fun c3 => ?_) (fun c3 => ?_)
      · replace hF := fb_pos c3 hF
        refine lv_iconst (v := 0) X.1 X.2.1 dX5_local_38 (by decide) ?_
        refine lv_goto (tgt := 53) X.1 X.2.1 dX5_local_39 (by decide) ?_
        exact rt_i X hlk hr hI hF dX5_local_53
      · replace hF := fb_neg c3 hF
        refine lv_iload_n X.1 X.2.1 dX5_local_24 rfl (lv_at hl 2 rfl) ?_
        refine lv_if_lt (tgt := 38) X.1 X.2.1 dX5_local_25 (by decide) (fun c4 => ?_) (fun c4 => ?_)
        · replace hF := fb_pos c4 hF
          refine lv_iconst (v := 0) X.1 X.2.1 dX5_local_38 (by decide) ?_
          refine lv_goto (tgt := 53) X.1 X.2.1 dX5_local_39 (by decide) ?_
          exact rt_i X hlk hr hI hF dX5_local_53
        · replace hF := fb_neg c4 hF
          refine lv_iload_n X.1 X.2.1 dX5_local_28 rfl (lv_at hl 2 rfl) ?_
          refine lv_aload_n X.1 X.2.1 dX5_local_29 rfl (lv_at hl 0 rfl) ?_
          refine g_X5_locals X hI dX5_local_30 ?_
          refine lv_iload_n X.1 X.2.1 dX5_local_33 rfl (lv_at hl 1 rfl) ?_
          obtain ⟨h5, hF⟩ := fb_chk hF
          refine aM_6 (v := gA σ 6 x1) X hI rfl h5 dX5_local_34 ?_
          refine lv_icmp_lt (tgt := 42) X.1 X.2.1 dX5_local_35 (by decide) (fun c6 => ?_) (fun c6 => ?_)
          · replace hF := fb_pos c6 hF
            refine lv_aload_n X.1 X.2.1 dX5_local_42 rfl (lv_at hl 0 rfl) ?_
            refine g_X5_local X hI dX5_local_43 ?_
            refine lv_bipush (v := 6) X.1 X.2.1 dX5_local_46 (by decide) ?_
            refine lv_iload_n X.1 X.2.1 dX5_local_48 rfl (lv_at hl 1 rfl) ?_
            refine lv_imul X.1 X.2.1 dX5_local_49 ?_
            refine lv_iload_n X.1 X.2.1 dX5_local_50 rfl (lv_at hl 2 rfl) ?_
            refine lv_iadd X.1 X.2.1 dX5_local_51 ?_
            obtain ⟨h7, hF⟩ := fb_chk hF
            refine aM_7 (v := gA σ 7 ((6 * x1) + x2)) X hI rfl h7 dX5_local_52 ?_
            exact rt_i X hlk hr hI hF dX5_local_53
          · replace hF := fb_neg c6 hF
            refine lv_iconst (v := 0) X.1 X.2.1 dX5_local_38 (by decide) ?_
            refine lv_goto (tgt := 53) X.1 X.2.1 dX5_local_39 (by decide) ?_
            exact rt_i X hlk hr hI hF dX5_local_53
end
