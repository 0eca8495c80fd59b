section
-- ===== PART A: goes FIRST, ahead of the names: the tables' words, and 'selects' of the private methods out of them =====
/-- a private method of a class that the tables say can be made, by its rows of tables_1 -/
def lw_okq (q : MethodName × Nat) : Prop := (q.1.cls ≠ "java/lang/invoke/MethodHandle" ∧ q.1.cls ≠ "java/lang/invoke/VarHandle") ∧ Cond.instantiable q.1.cls q.2 ∈ tables_1 ∧ Cond.privateMethod q.1 ∈ tables_1 ∧ Cond.instanceMethod q.1 ∈ tables_1
theorem lw_p0 : lw_okq (⟨"KilnLine$Blend", "takeSample", "(Z)V"⟩, 12) := ⟨⟨by decide +kernel, by decide +kernel⟩, List.mem_of_getElem? (i := 45) (by decide +kernel), List.mem_of_getElem? (i := 377) (by decide +kernel), List.mem_of_getElem? (i := 378) (by decide +kernel)⟩
theorem lw_p1 : lw_okq (⟨"KilnLine$Blend", "readYoungest", "()I"⟩, 12) := ⟨⟨by decide +kernel, by decide +kernel⟩, List.mem_of_getElem? (i := 45) (by decide +kernel), List.mem_of_getElem? (i := 383) (by decide +kernel), List.mem_of_getElem? (i := 384) (by decide +kernel)⟩
theorem lw_p2 : lw_okq (⟨"KilnLine$Blend", "correct", "(I)I"⟩, 12) := ⟨⟨by decide +kernel, by decide +kernel⟩, List.mem_of_getElem? (i := 45) (by decide +kernel), List.mem_of_getElem? (i := 387) (by decide +kernel), List.mem_of_getElem? (i := 388) (by decide +kernel)⟩
theorem lw_p3 : lw_okq (⟨"KilnLine$Blend", "shift", "(II)Z"⟩, 12) := ⟨⟨by decide +kernel, by decide +kernel⟩, List.mem_of_getElem? (i := 45) (by decide +kernel), List.mem_of_getElem? (i := 391) (by decide +kernel), List.mem_of_getElem? (i := 392) (by decide +kernel)⟩
theorem lw_p4 : lw_okq (⟨"KilnLine$Kiln", "passGas", "(I)I"⟩, 9) := ⟨⟨by decide +kernel, by decide +kernel⟩, List.mem_of_getElem? (i := 93) (by decide +kernel), List.mem_of_getElem? (i := 425) (by decide +kernel), List.mem_of_getElem? (i := 426) (by decide +kernel)⟩
theorem lw_p5 : lw_okq (⟨"KilnLine$Kiln", "handOn", "(I)V"⟩, 9) := ⟨⟨by decide +kernel, by decide +kernel⟩, List.mem_of_getElem? (i := 93) (by decide +kernel), List.mem_of_getElem? (i := 431) (by decide +kernel), List.mem_of_getElem? (i := 432) (by decide +kernel)⟩
theorem lw_p6 : lw_okq (⟨"KilnLine$Kiln", "tellOut", "()V"⟩, 9) := ⟨⟨by decide +kernel, by decide +kernel⟩, List.mem_of_getElem? (i := 93) (by decide +kernel), List.mem_of_getElem? (i := 436) (by decide +kernel), List.mem_of_getElem? (i := 437) (by decide +kernel)⟩
theorem lw_p7 : lw_okq (⟨"KilnLine$Kiln", "findCause", "(I)V"⟩, 9) := ⟨⟨by decide +kernel, by decide +kernel⟩, List.mem_of_getElem? (i := 93) (by decide +kernel), List.mem_of_getElem? (i := 440) (by decide +kernel), List.mem_of_getElem? (i := 441) (by decide +kernel)⟩
theorem lw_p8 : lw_okq (⟨"KilnLine$Kiln", "leastTooHot", "()I"⟩, 9) := ⟨⟨by decide +kernel, by decide +kernel⟩, List.mem_of_getElem? (i := 93) (by decide +kernel), List.mem_of_getElem? (i := 444) (by decide +kernel), List.mem_of_getElem? (i := 445) (by decide +kernel)⟩
theorem lw_p9 : lw_okq (⟨"KilnLine$Kiln", "leastTooMuch", "()I"⟩, 9) := ⟨⟨by decide +kernel, by decide +kernel⟩, List.mem_of_getElem? (i := 93) (by decide +kernel), List.mem_of_getElem? (i := 449) (by decide +kernel), List.mem_of_getElem? (i := 450) (by decide +kernel)⟩
theorem lw_p10 : lw_okq (⟨"KilnLine$Kiln", "setCause", "(II)V"⟩, 9) := ⟨⟨by decide +kernel, by decide +kernel⟩, List.mem_of_getElem? (i := 93) (by decide +kernel), List.mem_of_getElem? (i := 453) (by decide +kernel), List.mem_of_getElem? (i := 454) (by decide +kernel)⟩
theorem lw_p11 : lw_okq (⟨"KilnLine$Kiln", "addSums", "(II)V"⟩, 9) := ⟨⟨by decide +kernel, by decide +kernel⟩, List.mem_of_getElem? (i := 93) (by decide +kernel), List.mem_of_getElem? (i := 457) (by decide +kernel), List.mem_of_getElem? (i := 458) (by decide +kernel)⟩
theorem lw_p12 : lw_okq (⟨"KilnLine$Silos", "takeOf", "(II)I"⟩, 7) := ⟨⟨by decide +kernel, by decide +kernel⟩, List.mem_of_getElem? (i := 128) (by decide +kernel), List.mem_of_getElem? (i := 537) (by decide +kernel), List.mem_of_getElem? (i := 538) (by decide +kernel)⟩
theorem lw_p13 : lw_okq (⟨"KilnLine$Prices", "leastPrice", "()J"⟩, 5) := ⟨⟨by decide +kernel, by decide +kernel⟩, List.mem_of_getElem? (i := 156) (by decide +kernel), List.mem_of_getElem? (i := 624) (by decide +kernel), List.mem_of_getElem? (i := 625) (by decide +kernel)⟩
theorem lw_p14 : lw_okq (⟨"KilnLineModel", "mixed", "(I)I"⟩, 44) := ⟨⟨by decide +kernel, by decide +kernel⟩, List.mem_of_getElem? (i := 716) (by decide +kernel), List.mem_of_getElem? (i := 901) (by decide +kernel), List.mem_of_getElem? (i := 902) (by decide +kernel)⟩
theorem lw_p15 : lw_okq (⟨"KilnLineModel", "numberLower", "()J"⟩, 44) := ⟨⟨by decide +kernel, by decide +kernel⟩, List.mem_of_getElem? (i := 716) (by decide +kernel), List.mem_of_getElem? (i := 909) (by decide +kernel), List.mem_of_getElem? (i := 910) (by decide +kernel)⟩
def lw_privs_1 : List (MethodName × Nat) := [(⟨"KilnLine$Blend", "takeSample", "(Z)V"⟩, 12), (⟨"KilnLine$Blend", "readYoungest", "()I"⟩, 12), (⟨"KilnLine$Blend", "correct", "(I)I"⟩, 12), (⟨"KilnLine$Blend", "shift", "(II)Z"⟩, 12), (⟨"KilnLine$Kiln", "passGas", "(I)I"⟩, 9), (⟨"KilnLine$Kiln", "handOn", "(I)V"⟩, 9), (⟨"KilnLine$Kiln", "tellOut", "()V"⟩, 9), (⟨"KilnLine$Kiln", "findCause", "(I)V"⟩, 9), (⟨"KilnLine$Kiln", "leastTooHot", "()I"⟩, 9), (⟨"KilnLine$Kiln", "leastTooMuch", "()I"⟩, 9), (⟨"KilnLine$Kiln", "setCause", "(II)V"⟩, 9), (⟨"KilnLine$Kiln", "addSums", "(II)V"⟩, 9), (⟨"KilnLine$Silos", "takeOf", "(II)I"⟩, 7), (⟨"KilnLine$Prices", "leastPrice", "()J"⟩, 5), (⟨"KilnLineModel", "mixed", "(I)I"⟩, 44), (⟨"KilnLineModel", "numberLower", "()J"⟩, 44)]
theorem lw_r1 : ∀ q ∈ lw_privs_1, lw_okq q := List.forall_mem_cons.mpr ⟨lw_p0, List.forall_mem_cons.mpr ⟨lw_p1, List.forall_mem_cons.mpr ⟨lw_p2, List.forall_mem_cons.mpr ⟨lw_p3, List.forall_mem_cons.mpr ⟨lw_p4, List.forall_mem_cons.mpr ⟨lw_p5, List.forall_mem_cons.mpr ⟨lw_p6, List.forall_mem_cons.mpr ⟨lw_p7, List.forall_mem_cons.mpr ⟨lw_p8, List.forall_mem_cons.mpr ⟨lw_p9, List.forall_mem_cons.mpr ⟨lw_p10, List.forall_mem_cons.mpr ⟨lw_p11, List.forall_mem_cons.mpr ⟨lw_p12, List.forall_mem_cons.mpr ⟨lw_p13, List.forall_mem_cons.mpr ⟨lw_p14, List.forall_mem_cons.mpr ⟨lw_p15, fun _ h => absurd h List.not_mem_nil⟩⟩⟩⟩⟩⟩⟩⟩⟩⟩⟩⟩⟩⟩⟩⟩
theorem lw_p16 : lw_okq (⟨"KilnLineModel", "meets", "(I)I"⟩, 44) := ⟨⟨by decide +kernel, by decide +kernel⟩, List.mem_of_getElem? (i := 716) (by decide +kernel), List.mem_of_getElem? (i := 916) (by decide +kernel), List.mem_of_getElem? (i := 917) (by decide +kernel)⟩
theorem lw_p17 : lw_okq (⟨"KilnLineModel", "numberUpper", "()J"⟩, 44) := ⟨⟨by decide +kernel, by decide +kernel⟩, List.mem_of_getElem? (i := 716) (by decide +kernel), List.mem_of_getElem? (i := 920) (by decide +kernel), List.mem_of_getElem? (i := 921) (by decide +kernel)⟩
theorem lw_p18 : lw_okq (⟨"KilnLineModel", "steer", "(JJ)I"⟩, 44) := ⟨⟨by decide +kernel, by decide +kernel⟩, List.mem_of_getElem? (i := 716) (by decide +kernel), List.mem_of_getElem? (i := 941) (by decide +kernel), List.mem_of_getElem? (i := 942) (by decide +kernel)⟩
theorem lw_p19 : lw_okq (⟨"KilnLineModel", "taken", "(II)I"⟩, 44) := ⟨⟨by decide +kernel, by decide +kernel⟩, List.mem_of_getElem? (i := 716) (by decide +kernel), List.mem_of_getElem? (i := 957) (by decide +kernel), List.mem_of_getElem? (i := 958) (by decide +kernel)⟩
theorem lw_p20 : lw_okq (⟨"KilnLineModel", "handOn", "(II)V"⟩, 44) := ⟨⟨by decide +kernel, by decide +kernel⟩, List.mem_of_getElem? (i := 716) (by decide +kernel), List.mem_of_getElem? (i := 964) (by decide +kernel), List.mem_of_getElem? (i := 965) (by decide +kernel)⟩
theorem lw_p21 : lw_okq (⟨"KilnLineModel", "addLot", "(II)V"⟩, 44) := ⟨⟨by decide +kernel, by decide +kernel⟩, List.mem_of_getElem? (i := 716) (by decide +kernel), List.mem_of_getElem? (i := 969) (by decide +kernel), List.mem_of_getElem? (i := 970) (by decide +kernel)⟩
theorem lw_p22 : lw_okq (⟨"KilnLineModel", "causeOf", "(I)I"⟩, 44) := ⟨⟨by decide +kernel, by decide +kernel⟩, List.mem_of_getElem? (i := 716) (by decide +kernel), List.mem_of_getElem? (i := 973) (by decide +kernel), List.mem_of_getElem? (i := 974) (by decide +kernel)⟩
theorem lw_p23 : lw_okq (⟨"KilnLineModel", "tell", "(JI)I"⟩, 44) := ⟨⟨by decide +kernel, by decide +kernel⟩, List.mem_of_getElem? (i := 716) (by decide +kernel), List.mem_of_getElem? (i := 998) (by decide +kernel), List.mem_of_getElem? (i := 999) (by decide +kernel)⟩
theorem lw_p24 : lw_okq (⟨"KilnLineModel", "inSilo", "(IZ)I"⟩, 44) := ⟨⟨by decide +kernel, by decide +kernel⟩, List.mem_of_getElem? (i := 716) (by decide +kernel), List.mem_of_getElem? (i := 1010) (by decide +kernel), List.mem_of_getElem? (i := 1011) (by decide +kernel)⟩
theorem lw_p25 : lw_okq (⟨"KilnLineModel", "counts", "(I)I"⟩, 44) := ⟨⟨by decide +kernel, by decide +kernel⟩, List.mem_of_getElem? (i := 716) (by decide +kernel), List.mem_of_getElem? (i := 1066) (by decide +kernel), List.mem_of_getElem? (i := 1067) (by decide +kernel)⟩
def lw_privs_2 : List (MethodName × Nat) := [(⟨"KilnLineModel", "meets", "(I)I"⟩, 44), (⟨"KilnLineModel", "numberUpper", "()J"⟩, 44), (⟨"KilnLineModel", "steer", "(JJ)I"⟩, 44), (⟨"KilnLineModel", "taken", "(II)I"⟩, 44), (⟨"KilnLineModel", "handOn", "(II)V"⟩, 44), (⟨"KilnLineModel", "addLot", "(II)V"⟩, 44), (⟨"KilnLineModel", "causeOf", "(I)I"⟩, 44), (⟨"KilnLineModel", "tell", "(JI)I"⟩, 44), (⟨"KilnLineModel", "inSilo", "(IZ)I"⟩, 44), (⟨"KilnLineModel", "counts", "(I)I"⟩, 44)]
theorem lw_r2 : ∀ q ∈ lw_privs_2, lw_okq q := List.forall_mem_cons.mpr ⟨lw_p16, List.forall_mem_cons.mpr ⟨lw_p17, List.forall_mem_cons.mpr ⟨lw_p18, List.forall_mem_cons.mpr ⟨lw_p19, List.forall_mem_cons.mpr ⟨lw_p20, List.forall_mem_cons.mpr ⟨lw_p21, List.forall_mem_cons.mpr ⟨lw_p22, List.forall_mem_cons.mpr ⟨lw_p23, List.forall_mem_cons.mpr ⟨lw_p24, List.forall_mem_cons.mpr ⟨lw_p25, fun _ h => absurd h List.not_mem_nil⟩⟩⟩⟩⟩⟩⟩⟩⟩⟩
def lw_privs : List (MethodName × Nat) := lw_privs_1 ++ (lw_privs_2)
def lw_tbl : List Cond := k2_sels lw_privs ++ tables_1
theorem lw_privs_ok : ∀ q ∈ lw_privs, lw_okq q := by
  show ∀ q ∈ lw_privs_1 ++ (lw_privs_2), lw_okq q
  exact List.forall_mem_append.mpr ⟨lw_r1, lw_r2⟩
def RX0 : String := "KilnLine$Blend"
def TX0 : u_T := fun k => match k with
  | 0 => ("KilnLine$Blend", "parts", "[[I", true)
  | 1 => ("KilnLine$Blend", "shares", "[I", true)
  | 2 => ("KilnLine$Blend", "comes", "[I", true)
  | 3 => ("KilnLine$Blend", "sampleUpper", "[I", true)
  | 4 => ("KilnLine$Blend", "sampleLower", "[I", true)
  | 5 => ("KilnLine$Blend", "hours", "I", false)
  | 6 => ("KilnLine$Blend", "latestRead", "I", false)
  | 7 => ("KilnLine$Blend", "passedOver", "I", false)
  | 8 => ("KilnLine$Blend", "aimUpper", "I", false)
  | 9 => ("KilnLine$Blend", "aimLower", "I", false)
  | 10 => ("KilnLine$Blend", "delay", "I", false)
  | _ => ("KilnLine$Blend", "gain", "I", false)
def tyX0 : Nat → FieldType := fun k => match k with
  | 0 => .array (.array .int)
  | 1 => .array .int
  | 2 => .array .int
  | 3 => .array .int
  | 4 => .array .int
  | 5 => .int
  | 6 => .int
  | 7 => .int
  | 8 => .int
  | 9 => .int
  | 10 => .int
  | _ => .int
abbrev wsX00 : List Cond := u_ws RX0 TX0 12
theorem nmX0 : ∀ a, a < 12 → ∀ b, b < 12 → a ≠ b → (TX0 a).2.1 ≠ (TX0 b).2.1 := by decide +kernel
theorem tyX0_ok : ∀ k, k < 12 → parseFieldDescriptor (TX0 k).2.2.1 = some (tyX0 k) := by decide +kernel
abbrev cX0_init : ByteArray := prog_2_method_1_code
def yX0_init : MethodName := ⟨RX0, "<init>", "()V"⟩
abbrev cX0_hours : ByteArray := prog_2_method_2_code
def yX0_hours : MethodName := ⟨RX0, "hours", "()I"⟩
abbrev cX0_latestRead : ByteArray := prog_2_method_3_code
def yX0_latestRead : MethodName := ⟨RX0, "latestRead", "()I"⟩
abbrev cX0_passedOver : ByteArray := prog_2_method_4_code
def yX0_passedOver : MethodName := ⟨RX0, "passedOver", "()I"⟩
abbrev cX0_sharesOf : ByteArray := prog_2_method_5_code
def yX0_sharesOf : MethodName := ⟨RX0, "sharesOf", "(I)I"⟩
abbrev cX0_setParts : ByteArray := prog_2_method_6_code
def yX0_setParts : MethodName := ⟨RX0, "setParts", "(IIII)V"⟩
abbrev cX0_setShares : ByteArray := prog_2_method_7_code
def yX0_setShares : MethodName := ⟨RX0, "setShares", "(III)V"⟩
abbrev cX0_setAim : ByteArray := prog_2_method_8_code
def yX0_setAim : MethodName := ⟨RX0, "setAim", "(II)V"⟩
abbrev cX0_setRule : ByteArray := prog_2_method_9_code
def yX0_setRule : MethodName := ⟨RX0, "setRule", "(II)V"⟩
abbrev cX0_part : ByteArray := prog_2_method_10_code
def yX0_part : MethodName := ⟨RX0, "part", "(I)I"⟩
abbrev cX0_numberUpper : ByteArray := prog_2_method_11_code
def yX0_numberUpper : MethodName := ⟨RX0, "numberUpper", "()I"⟩
abbrev cX0_numberLower : ByteArray := prog_2_method_12_code
def yX0_numberLower : MethodName := ⟨RX0, "numberLower", "()I"⟩
abbrev cX0_passHour : ByteArray := prog_2_method_13_code
def yX0_passHour : MethodName := ⟨RX0, "passHour", "(Z)I"⟩
abbrev cX0_takeSample : ByteArray := prog_2_method_14_code
def yX0_takeSample : MethodName := ⟨RX0, "takeSample", "(Z)V"⟩
abbrev cX0_readYoungest : ByteArray := prog_2_method_15_code
def yX0_readYoungest : MethodName := ⟨RX0, "readYoungest", "()I"⟩
abbrev cX0_correct : ByteArray := prog_2_method_16_code
def yX0_correct : MethodName := ⟨RX0, "correct", "(I)I"⟩
abbrev cX0_shift : ByteArray := prog_2_method_17_code
def yX0_shift : MethodName := ⟨RX0, "shift", "(II)Z"⟩
abbrev cX0_foldInto : ByteArray := prog_2_method_18_code
def yX0_foldInto : MethodName := ⟨RX0, "foldInto", "(J)J"⟩
def RX1 : String := "KilnLine$Found"
def TX1 : u_T := fun k => match k with
  | 0 => ("KilnLine$Found", "times", "[I", true)
  | _ => ("KilnLine$Found", "latest", "I", false)
def tyX1 : Nat → FieldType := fun k => match k with
  | 0 => .array .int
  | _ => .int
abbrev wsX10 : List Cond := u_ws RX1 TX1 2
theorem nmX1 : ∀ a, a < 2 → ∀ b, b < 2 → a ≠ b → (TX1 a).2.1 ≠ (TX1 b).2.1 := by decide +kernel
theorem tyX1_ok : ∀ k, k < 2 → parseFieldDescriptor (TX1 k).2.2.1 = some (tyX1 k) := by decide +kernel
abbrev cX1_init : ByteArray := prog_3_method_1_code
def yX1_init : MethodName := ⟨RX1, "<init>", "()V"⟩
abbrev cX1_answer : ByteArray := prog_3_method_2_code
def yX1_answer : MethodName := ⟨RX1, "answer", "(I)I"⟩
abbrev cX1_latest : ByteArray := prog_3_method_3_code
def yX1_latest : MethodName := ⟨RX1, "latest", "()I"⟩
abbrev cX1_times : ByteArray := prog_3_method_4_code
def yX1_times : MethodName := ⟨RX1, "times", "(I)I"⟩
def RX2 : String := "KilnLine$Heap"
def TX2 : u_T := fun k => match k with
  | 0 => ("KilnLine$Heap", "tons", "[I", true)
  | 1 => ("KilnLine$Heap", "lime", "[I", true)
  | 2 => ("KilnLine$Heap", "taken", "[Z", true)
  | 3 => ("KilnLine$Heap", "spreads", "[I", true)
  | _ => ("KilnLine$Heap", "strokes", "I", false)
def tyX2 : Nat → FieldType := fun k => match k with
  | 0 => .array .int
  | 1 => .array .int
  | 2 => .array .boolean
  | 3 => .array .int
  | _ => .int
abbrev wsX20 : List Cond := u_ws RX2 TX2 5
theorem nmX2 : ∀ a, a < 5 → ∀ b, b < 5 → a ≠ b → (TX2 a).2.1 ≠ (TX2 b).2.1 := by decide +kernel
theorem tyX2_ok : ∀ k, k < 5 → parseFieldDescriptor (TX2 k).2.2.1 = some (tyX2 k) := by decide +kernel
abbrev cX2_init : ByteArray := prog_4_method_1_code
def yX2_init : MethodName := ⟨RX2, "<init>", "()V"⟩
abbrev cX2_strokes : ByteArray := prog_4_method_2_code
def yX2_strokes : MethodName := ⟨RX2, "strokes", "()I"⟩
abbrev cX2_isCut : ByteArray := prog_4_method_3_code
def yX2_isCut : MethodName := ⟨RX2, "isCut", "(I)Z"⟩
abbrev cX2_tonsOn : ByteArray := prog_4_method_4_code
def yX2_tonsOn : MethodName := ⟨RX2, "tonsOn", "(I)I"⟩
abbrev cX2_limeOn : ByteArray := prog_4_method_5_code
def yX2_limeOn : MethodName := ⟨RX2, "limeOn", "(I)I"⟩
abbrev cX2_spreadLaid : ByteArray := prog_4_method_6_code
def yX2_spreadLaid : MethodName := ⟨RX2, "spreadLaid", "(I)I"⟩
abbrev cX2_lay : ByteArray := prog_4_method_7_code
def yX2_lay : MethodName := ⟨RX2, "lay", "(III)I"⟩
abbrev cX2_take : ByteArray := prog_4_method_8_code
def yX2_take : MethodName := ⟨RX2, "take", "(I)I"⟩
abbrev cX2_spreadNow : ByteArray := prog_4_method_9_code
def yX2_spreadNow : MethodName := ⟨RX2, "spreadNow", "()I"⟩
abbrev cX2_empty : ByteArray := prog_4_method_10_code
def yX2_empty : MethodName := ⟨RX2, "empty", "()I"⟩
abbrev cX2_foldInto : ByteArray := prog_4_method_11_code
def yX2_foldInto : MethodName := ⟨RX2, "foldInto", "(J)J"⟩
def RX3 : String := "KilnLine$Kiln"
def TX3 : u_T := fun k => match k with
  | 0 => ("KilnLine$Kiln", "stuff", "[I", true)
  | 1 => ("KilnLine$Kiln", "heat", "[I", true)
  | 2 => ("KilnLine$Kiln", "handedStuff", "[I", true)
  | 3 => ("KilnLine$Kiln", "handedHeat", "[I", true)
  | 4 => ("KilnLine$Kiln", "latest", "[I", true)
  | 5 => ("KilnLine$Kiln", "sums", "[J", true)
  | 6 => ("KilnLine$Kiln", "steps", "I", false)
  | 7 => ("KilnLine$Kiln", "first", "I", false)
  | _ => ("KilnLine$Kiln", "stopped", "Z", false)
def tyX3 : Nat → FieldType := fun k => match k with
  | 0 => .array .int
  | 1 => .array .int
  | 2 => .array .int
  | 3 => .array .int
  | 4 => .array .int
  | 5 => .array .long
  | 6 => .int
  | 7 => .int
  | _ => .boolean
abbrev wsX30 : List Cond := u_ws RX3 TX3 9
theorem nmX3 : ∀ a, a < 9 → ∀ b, b < 9 → a ≠ b → (TX3 a).2.1 ≠ (TX3 b).2.1 := by decide +kernel
theorem tyX3_ok : ∀ k, k < 9 → parseFieldDescriptor (TX3 k).2.2.1 = some (tyX3 k) := by decide +kernel
abbrev cX3_init : ByteArray := prog_5_method_1_code
def yX3_init : MethodName := ⟨RX3, "<init>", "()V"⟩
abbrev cX3_steps : ByteArray := prog_5_method_2_code
def yX3_steps : MethodName := ⟨RX3, "steps", "()I"⟩
abbrev cX3_isStopped : ByteArray := prog_5_method_3_code
def yX3_isStopped : MethodName := ⟨RX3, "isStopped", "()Z"⟩
abbrev cX3_firstCaused : ByteArray := prog_5_method_4_code
def yX3_firstCaused : MethodName := ⟨RX3, "firstCaused", "()I"⟩
abbrev cX3_kindOf : ByteArray := prog_5_method_5_code
def yX3_kindOf : MethodName := ⟨RX3, "kindOf", "(I)I"⟩
abbrev cX3_stuffIn : ByteArray := prog_5_method_6_code
def yX3_stuffIn : MethodName := ⟨RX3, "stuffIn", "(I)I"⟩
abbrev cX3_heatIn : ByteArray := prog_5_method_7_code
def yX3_heatIn : MethodName := ⟨RX3, "heatIn", "(I)I"⟩
abbrev cX3_latest : ByteArray := prog_5_method_8_code
def yX3_latest : MethodName := ⟨RX3, "latest", "(I)I"⟩
abbrev cX3_inAll : ByteArray := prog_5_method_9_code
def yX3_inAll : MethodName := ⟨RX3, "inAll", "(I)J"⟩
abbrev cX3_restart : ByteArray := prog_5_method_10_code
def yX3_restart : MethodName := ⟨RX3, "restart", "()I"⟩
abbrev cX3_burn : ByteArray := prog_5_method_11_code
def yX3_burn : MethodName := ⟨RX3, "burn", "(III)I"⟩
abbrev cX3_passGas : ByteArray := prog_5_method_12_code
def yX3_passGas : MethodName := ⟨RX3, "passGas", "(I)I"⟩
abbrev cX3_handOn : ByteArray := prog_5_method_13_code
def yX3_handOn : MethodName := ⟨RX3, "handOn", "(I)V"⟩
abbrev cX3_tellOut : ByteArray := prog_5_method_14_code
def yX3_tellOut : MethodName := ⟨RX3, "tellOut", "()V"⟩
abbrev cX3_findCause : ByteArray := prog_5_method_15_code
def yX3_findCause : MethodName := ⟨RX3, "findCause", "(I)V"⟩
abbrev cX3_setCause : ByteArray := prog_5_method_16_code
def yX3_setCause : MethodName := ⟨RX3, "setCause", "(II)V"⟩
abbrev cX3_leastTooHot : ByteArray := prog_5_method_17_code
def yX3_leastTooHot : MethodName := ⟨RX3, "leastTooHot", "()I"⟩
abbrev cX3_leastTooMuch : ByteArray := prog_5_method_18_code
def yX3_leastTooMuch : MethodName := ⟨RX3, "leastTooMuch", "()I"⟩
abbrev cX3_addSums : ByteArray := prog_5_method_19_code
def yX3_addSums : MethodName := ⟨RX3, "addSums", "(II)V"⟩
abbrev cX3_foldInto : ByteArray := prog_5_method_20_code
def yX3_foldInto : MethodName := ⟨RX3, "foldInto", "(J)J"⟩
def RX4 : String := "KilnLine$Prices"
def TX4 : u_T := fun k => match k with
  | 0 => ("KilnLine$Prices", "there", "[Z", true)
  | 1 => ("KilnLine$Prices", "row", "[[I", true)
  | 2 => ("KilnLine$Prices", "needs", "[I", true)
  | 3 => ("KilnLine$Prices", "best", "[J", true)
  | _ => ("KilnLine$Prices", "rows", "I", false)
def tyX4 : Nat → FieldType := fun k => match k with
  | 0 => .array .boolean
  | 1 => .array (.array .int)
  | 2 => .array .int
  | 3 => .array .long
  | _ => .int
abbrev wsX40 : List Cond := u_ws RX4 TX4 5
theorem nmX4 : ∀ a, a < 5 → ∀ b, b < 5 → a ≠ b → (TX4 a).2.1 ≠ (TX4 b).2.1 := by decide +kernel
theorem tyX4_ok : ∀ k, k < 5 → parseFieldDescriptor (TX4 k).2.2.1 = some (tyX4 k) := by decide +kernel
abbrev cX4_init : ByteArray := prog_6_method_1_code
def yX4_init : MethodName := ⟨RX4, "<init>", "()V"⟩
abbrev cX4_rows : ByteArray := prog_6_method_2_code
def yX4_rows : MethodName := ⟨RX4, "rows", "()I"⟩
abbrev cX4_has : ByteArray := prog_6_method_3_code
def yX4_has : MethodName := ⟨RX4, "has", "(I)Z"⟩
abbrev cX4_layRow : ByteArray := prog_6_method_4_code
def yX4_layRow : MethodName := ⟨RX4, "layRow", "(I)I"⟩
abbrev cX4_drop : ByteArray := prog_6_method_5_code
def yX4_drop : MethodName := ⟨RX4, "drop", "(I)V"⟩
abbrev cX4_set : ByteArray := prog_6_method_6_code
def yX4_set : MethodName := ⟨RX4, "set", "(III)I"⟩
abbrev cX4_move : ByteArray := prog_6_method_7_code
def yX4_move : MethodName := ⟨RX4, "move", "(IIIII)V"⟩
abbrev cX4_setNeed : ByteArray := prog_6_method_8_code
def yX4_setNeed : MethodName := ⟨RX4, "setNeed", "(II)I"⟩
abbrev cX4_cheapest : ByteArray := prog_6_method_9_code
def yX4_cheapest : MethodName := ⟨RX4, "cheapest", "(II)J"⟩
abbrev cX4_leastPrice : ByteArray := prog_6_method_10_code
def yX4_leastPrice : MethodName := ⟨RX4, "leastPrice", "()J"⟩
abbrev cX4_priceOf : ByteArray := prog_6_method_11_code
def yX4_priceOf : MethodName := ⟨RX4, "priceOf", "(J)J"⟩
abbrev cX4_bitsOf : ByteArray := prog_6_method_12_code
def yX4_bitsOf : MethodName := ⟨RX4, "bitsOf", "(J)I"⟩
abbrev cX4_foldInto : ByteArray := prog_6_method_13_code
def yX4_foldInto : MethodName := ⟨RX4, "foldInto", "(J)J"⟩
abbrev cX4_foldRow : ByteArray := prog_6_method_14_code
def yX4_foldRow : MethodName := ⟨RX4, "foldRow", "(J[I)J"⟩
def RX5 : String := "KilnLine$Silos"
def TX5 : u_T := fun k => match k with
  | 0 => ("KilnLine$Silos", "lotSilo", "[I", true)
  | 1 => ("KilnLine$Silos", "lotTons", "[I", true)
  | 2 => ("KilnLine$Silos", "tons", "[I", true)
  | 3 => ("KilnLine$Silos", "lots", "[I", true)
  | 4 => ("KilnLine$Silos", "bagStep", "[I", true)
  | 5 => ("KilnLine$Silos", "bagTons", "[I", true)
  | _ => ("KilnLine$Silos", "bagLots", "I", false)
def tyX5 : Nat → FieldType := fun k => match k with
  | 0 => .array .int
  | 1 => .array .int
  | 2 => .array .int
  | 3 => .array .int
  | 4 => .array .int
  | 5 => .array .int
  | _ => .int
abbrev wsX50 : List Cond := u_ws RX5 TX5 7
theorem nmX5 : ∀ a, a < 7 → ∀ b, b < 7 → a ≠ b → (TX5 a).2.1 ≠ (TX5 b).2.1 := by decide +kernel
theorem tyX5_ok : ∀ k, k < 7 → parseFieldDescriptor (TX5 k).2.2.1 = some (tyX5 k) := by decide +kernel
abbrev cX5_init : ByteArray := prog_7_method_1_code
def yX5_init : MethodName := ⟨RX5, "<init>", "()V"⟩
abbrev cX5_tonsIn : ByteArray := prog_7_method_2_code
def yX5_tonsIn : MethodName := ⟨RX5, "tonsIn", "(I)I"⟩
abbrev cX5_lotsIn : ByteArray := prog_7_method_3_code
def yX5_lotsIn : MethodName := ⟨RX5, "lotsIn", "(I)I"⟩
abbrev cX5_lotsInBag : ByteArray := prog_7_method_4_code
def yX5_lotsInBag : MethodName := ⟨RX5, "lotsInBag", "()I"⟩
abbrev cX5_stepInBag : ByteArray := prog_7_method_5_code
def yX5_stepInBag : MethodName := ⟨RX5, "stepInBag", "(I)I"⟩
abbrev cX5_tonsInBag : ByteArray := prog_7_method_6_code
def yX5_tonsInBag : MethodName := ⟨RX5, "tonsInBag", "(I)I"⟩
abbrev cX5_store : ByteArray := prog_7_method_7_code
def yX5_store : MethodName := ⟨RX5, "store", "(III)V"⟩
abbrev cX5_fill : ByteArray := prog_7_method_8_code
def yX5_fill : MethodName := ⟨RX5, "fill", "(II)I"⟩
abbrev cX5_takeOf : ByteArray := prog_7_method_9_code
def yX5_takeOf : MethodName := ⟨RX5, "takeOf", "(II)I"⟩
abbrev cX5_foldInto : ByteArray := prog_7_method_10_code
def yX5_foldInto : MethodName := ⟨RX5, "foldInto", "(J)J"⟩
def RX6 : String := "KilnLine"
def TX6 : u_T := fun k => match k with
  | 0 => ("KilnLine", "heap", "LKilnLine$Heap;", true)
  | 1 => ("KilnLine", "blend", "LKilnLine$Blend;", true)
  | 2 => ("KilnLine", "kiln", "LKilnLine$Kiln;", true)
  | 3 => ("KilnLine", "silos", "LKilnLine$Silos;", true)
  | 4 => ("KilnLine", "prices", "LKilnLine$Prices;", true)
  | 5 => ("KilnLine", "found", "LKilnLine$Found;", true)
  | 6 => ("KilnLine", "toldUpper", "J", false)
  | 7 => ("KilnLine", "toldLower", "J", false)
  | _ => ("KilnLine", "toldAsked", "J", false)
def tyX6 : Nat → FieldType := fun k => match k with
  | 0 => .object "KilnLine$Heap"
  | 1 => .object "KilnLine$Blend"
  | 2 => .object "KilnLine$Kiln"
  | 3 => .object "KilnLine$Silos"
  | 4 => .object "KilnLine$Prices"
  | 5 => .object "KilnLine$Found"
  | 6 => .long
  | 7 => .long
  | _ => .long
abbrev wsX60 : List Cond := u_ws RX6 TX6 9
theorem nmX6 : ∀ a, a < 9 → ∀ b, b < 9 → a ≠ b → (TX6 a).2.1 ≠ (TX6 b).2.1 := by decide +kernel
theorem tyX6_ok : ∀ k, k < 9 → parseFieldDescriptor (TX6 k).2.2.1 = some (tyX6 k) := by decide +kernel
abbrev cX6_init : ByteArray := prog_1_method_1_code
def yX6_init : MethodName := ⟨RX6, "<init>", "()V"⟩
abbrev cX6_stroke : ByteArray := prog_1_method_2_code
def yX6_stroke : MethodName := ⟨RX6, "stroke", "(III)I"⟩
abbrev cX6_cut : ByteArray := prog_1_method_3_code
def yX6_cut : MethodName := ⟨RX6, "cut", "(I)I"⟩
abbrev cX6_place : ByteArray := prog_1_method_4_code
def yX6_place : MethodName := ⟨RX6, "place", "(II)I"⟩
abbrev cX6_spread : ByteArray := prog_1_method_5_code
def yX6_spread : MethodName := ⟨RX6, "spread", "()I"⟩
abbrev cX6_strokeSpread : ByteArray := prog_1_method_6_code
def yX6_strokeSpread : MethodName := ⟨RX6, "strokeSpread", "(I)I"⟩
abbrev cX6_clear : ByteArray := prog_1_method_7_code
def yX6_clear : MethodName := ⟨RX6, "clear", "()I"⟩
abbrev cX6_stock : ByteArray := prog_1_method_8_code
def yX6_stock : MethodName := ⟨RX6, "stock", "(IIII)I"⟩
abbrev cX6_share : ByteArray := prog_1_method_9_code
def yX6_share : MethodName := ⟨RX6, "share", "(III)I"⟩
abbrev cX6_shareOf : ByteArray := prog_1_method_10_code
def yX6_shareOf : MethodName := ⟨RX6, "shareOf", "(I)I"⟩
abbrev cX6_mix : ByteArray := prog_1_method_11_code
def yX6_mix : MethodName := ⟨RX6, "mix", "(I)I"⟩
abbrev cX6_number : ByteArray := prog_1_method_12_code
def yX6_number : MethodName := ⟨RX6, "number", "()I"⟩
abbrev cX6_aim : ByteArray := prog_1_method_13_code
def yX6_aim : MethodName := ⟨RX6, "aim", "(II)I"⟩
abbrev cX6_rule : ByteArray := prog_1_method_14_code
def yX6_rule : MethodName := ⟨RX6, "rule", "(II)I"⟩
abbrev cX6_hour : ByteArray := prog_1_method_15_code
def yX6_hour : MethodName := ⟨RX6, "hour", "(Z)I"⟩
abbrev cX6_read : ByteArray := prog_1_method_16_code
def yX6_read : MethodName := ⟨RX6, "read", "()I"⟩
abbrev cX6_passed : ByteArray := prog_1_method_17_code
def yX6_passed : MethodName := ⟨RX6, "passed", "()I"⟩
abbrev cX6_step : ByteArray := prog_1_method_18_code
def yX6_step : MethodName := ⟨RX6, "step", "(III)I"⟩
abbrev cX6_start : ByteArray := prog_1_method_19_code
def yX6_start : MethodName := ⟨RX6, "start", "()I"⟩
abbrev cX6_zone : ByteArray := prog_1_method_20_code
def yX6_zone : MethodName := ⟨RX6, "zone", "(II)I"⟩
abbrev cX6_warmth : ByteArray := prog_1_method_21_code
def yX6_warmth : MethodName := ⟨RX6, "warmth", "(II)I"⟩
abbrev cX6_out : ByteArray := prog_1_method_22_code
def yX6_out : MethodName := ⟨RX6, "out", "(I)I"⟩
abbrev cX6_sum : ByteArray := prog_1_method_23_code
def yX6_sum : MethodName := ⟨RX6, "sum", "(I)I"⟩
abbrev cX6_first : ByteArray := prog_1_method_24_code
def yX6_first : MethodName := ⟨RX6, "first", "()I"⟩
abbrev cX6_silo : ByteArray := prog_1_method_25_code
def yX6_silo : MethodName := ⟨RX6, "silo", "(II)I"⟩
abbrev cX6_bag : ByteArray := prog_1_method_26_code
def yX6_bag : MethodName := ⟨RX6, "bag", "(II)I"⟩
abbrev cX6_lot : ByteArray := prog_1_method_27_code
def yX6_lot : MethodName := ⟨RX6, "lot", "(II)I"⟩
abbrev cX6_day : ByteArray := prog_1_method_28_code
def yX6_day : MethodName := ⟨RX6, "day", "(I)I"⟩
abbrev cX6_price : ByteArray := prog_1_method_29_code
def yX6_price : MethodName := ⟨RX6, "price", "(III)I"⟩
abbrev cX6_tear : ByteArray := prog_1_method_30_code
def yX6_tear : MethodName := ⟨RX6, "tear", "(I)I"⟩
abbrev cX6_copy : ByteArray := prog_1_method_31_code
def yX6_copy : MethodName := ⟨RX6, "copy", "(IIIII)I"⟩
abbrev cX6_need : ByteArray := prog_1_method_32_code
def yX6_need : MethodName := ⟨RX6, "need", "(II)I"⟩
abbrev cX6_plan : ByteArray := prog_1_method_33_code
def yX6_plan : MethodName := ⟨RX6, "plan", "(II)I"⟩
abbrev cX6_upper : ByteArray := prog_1_method_34_code
def yX6_upper : MethodName := ⟨RX6, "upper", "()J"⟩
abbrev cX6_lower : ByteArray := prog_1_method_35_code
def yX6_lower : MethodName := ⟨RX6, "lower", "()J"⟩
abbrev cX6_asked : ByteArray := prog_1_method_36_code
def yX6_asked : MethodName := ⟨RX6, "asked", "()J"⟩
abbrev cX6_count : ByteArray := prog_1_method_37_code
def yX6_count : MethodName := ⟨RX6, "count", "(I)I"⟩
abbrev cX6_finding : ByteArray := prog_1_method_38_code
def yX6_finding : MethodName := ⟨RX6, "finding", "()I"⟩
abbrev cX6_findings : ByteArray := prog_1_method_39_code
def yX6_findings : MethodName := ⟨RX6, "findings", "(I)I"⟩
abbrev cX6_digest : ByteArray := prog_1_method_40_code
def yX6_digest : MethodName := ⟨RX6, "digest", "()J"⟩
abbrev cX6_within : ByteArray := prog_1_method_41_code
def yX6_within : MethodName := ⟨RX6, "within", "(III)Z"⟩
abbrev cX6_fitWhole : ByteArray := prog_1_method_42_code
def yX6_fitWhole : MethodName := ⟨RX6, "fitWhole", "(III)Z"⟩
abbrev cX6_hasHours : ByteArray := prog_1_method_43_code
def yX6_hasHours : MethodName := ⟨RX6, "hasHours", "(II)Z"⟩
abbrev cX6_fold : ByteArray := prog_1_method_44_code
def yX6_fold : MethodName := ⟨RX6, "fold", "(JJ)J"⟩
abbrev cX6_commonDivisor : ByteArray := prog_1_method_45_code
def yX6_commonDivisor : MethodName := ⟨RX6, "commonDivisor", "(II)I"⟩
def RX7 : String := "KilnLineModel"
def TX7 : u_T := fun k => match k with
  | 0 => ("KilnLineModel", "finding", "I", false)
  | 1 => ("KilnLineModel", "findings", "[I", true)
  | 2 => ("KilnLineModel", "asked", "J", false)
  | 3 => ("KilnLineModel", "upper", "J", false)
  | 4 => ("KilnLineModel", "lower", "J", false)
  | 5 => ("KilnLineModel", "strokes", "I", false)
  | 6 => ("KilnLineModel", "strokeSlopes", "[I", true)
  | 7 => ("KilnLineModel", "tons", "[I", true)
  | 8 => ("KilnLineModel", "limes", "[I", true)
  | 9 => ("KilnLineModel", "isCut", "[Z", true)
  | 10 => ("KilnLineModel", "parts", "[I", true)
  | 11 => ("KilnLineModel", "shares", "[I", true)
  | 12 => ("KilnLineModel", "aimUpper", "I", false)
  | 13 => ("KilnLineModel", "aimLower", "I", false)
  | 14 => ("KilnLineModel", "delay", "I", false)
  | 15 => ("KilnLineModel", "gain", "I", false)
  | 16 => ("KilnLineModel", "hours", "I", false)
  | 17 => ("KilnLineModel", "comes", "[I", true)
  | 18 => ("KilnLineModel", "uppers", "[J", true)
  | 19 => ("KilnLineModel", "lowers", "[J", true)
  | 20 => ("KilnLineModel", "how", "[I", true)
  | 21 => ("KilnLineModel", "readHour", "I", false)
  | 22 => ("KilnLineModel", "steps", "I", false)
  | 23 => ("KilnLineModel", "stopped", "Z", false)
  | 24 => ("KilnLineModel", "stuff", "[I", true)
  | 25 => ("KilnLineModel", "heat", "[I", true)
  | 26 => ("KilnLineModel", "given", "[I", true)
  | 27 => ("KilnLineModel", "warm", "[I", true)
  | 28 => ("KilnLineModel", "latest", "[I", true)
  | 29 => ("KilnLineModel", "sums", "[J", true)
  | 30 => ("KilnLineModel", "first", "I", false)
  | 31 => ("KilnLineModel", "lots", "I", false)
  | 32 => ("KilnLineModel", "lotSilo", "[I", true)
  | 33 => ("KilnLineModel", "lotStep", "[I", true)
  | 34 => ("KilnLineModel", "lotTons", "[I", true)
  | 35 => ("KilnLineModel", "bagged", "I", false)
  | 36 => ("KilnLineModel", "bagStep", "[I", true)
  | 37 => ("KilnLineModel", "bagTons", "[I", true)
  | 38 => ("KilnLineModel", "isDay", "[Z", true)
  | 39 => ("KilnLineModel", "prices", "[I", true)
  | 40 => ("KilnLineModel", "needs", "[I", true)
  | 41 => ("KilnLineModel", "moving", "[I", true)
  | 42 => ("KilnLineModel", "cost", "[I", true)
  | _ => ("KilnLineModel", "row", "[I", true)
def tyX7 : Nat → FieldType := fun k => match k with
  | 0 => .int
  | 1 => .array .int
  | 2 => .long
  | 3 => .long
  | 4 => .long
  | 5 => .int
  | 6 => .array .int
  | 7 => .array .int
  | 8 => .array .int
  | 9 => .array .boolean
  | 10 => .array .int
  | 11 => .array .int
  | 12 => .int
  | 13 => .int
  | 14 => .int
  | 15 => .int
  | 16 => .int
  | 17 => .array .int
  | 18 => .array .long
  | 19 => .array .long
  | 20 => .array .int
  | 21 => .int
  | 22 => .int
  | 23 => .boolean
  | 24 => .array .int
  | 25 => .array .int
  | 26 => .array .int
  | 27 => .array .int
  | 28 => .array .int
  | 29 => .array .long
  | 30 => .int
  | 31 => .int
  | 32 => .array .int
  | 33 => .array .int
  | 34 => .array .int
  | 35 => .int
  | 36 => .array .int
  | 37 => .array .int
  | 38 => .array .boolean
  | 39 => .array .int
  | 40 => .array .int
  | 41 => .array .int
  | 42 => .array .int
  | _ => .array .int
abbrev wsX70 : List Cond := u_ws RX7 TX7 44
theorem nmX7 : ∀ a, a < 44 → ∀ b, b < 44 → a ≠ b → (TX7 a).2.1 ≠ (TX7 b).2.1 := by decide +kernel
theorem tyX7_ok : ∀ k, k < 44 → parseFieldDescriptor (TX7 k).2.2.1 = some (tyX7 k) := by decide +kernel
abbrev cX7_init : ByteArray := prog_9_method_1_code
def yX7_init : MethodName := ⟨RX7, "<init>", "()V"⟩
abbrev cX7_in : ByteArray := prog_9_method_3_code
def yX7_in : MethodName := ⟨RX7, "in", "(III)Z"⟩
abbrev cX7_meets : ByteArray := prog_9_method_4_code
def yX7_meets : MethodName := ⟨RX7, "meets", "(I)I"⟩
abbrev cX7_tell : ByteArray := prog_9_method_5_code
def yX7_tell : MethodName := ⟨RX7, "tell", "(JI)I"⟩
abbrev cX7_stroke : ByteArray := prog_9_method_6_code
def yX7_stroke : MethodName := ⟨RX7, "stroke", "(III)I"⟩
abbrev cX7_cut : ByteArray := prog_9_method_7_code
def yX7_cut : MethodName := ⟨RX7, "cut", "(I)I"⟩
abbrev cX7_place : ByteArray := prog_9_method_8_code
def yX7_place : MethodName := ⟨RX7, "place", "(II)I"⟩
abbrev cX7_spread : ByteArray := prog_9_method_9_code
def yX7_spread : MethodName := ⟨RX7, "spread", "()I"⟩
abbrev cX7_strokeSpread : ByteArray := prog_9_method_10_code
def yX7_strokeSpread : MethodName := ⟨RX7, "strokeSpread", "(I)I"⟩
abbrev cX7_clear : ByteArray := prog_9_method_11_code
def yX7_clear : MethodName := ⟨RX7, "clear", "()I"⟩
abbrev cX7_areParts : ByteArray := prog_9_method_12_code
def yX7_areParts : MethodName := ⟨RX7, "areParts", "(III)Z"⟩
abbrev cX7_stock : ByteArray := prog_9_method_13_code
def yX7_stock : MethodName := ⟨RX7, "stock", "(IIII)I"⟩
abbrev cX7_share : ByteArray := prog_9_method_14_code
def yX7_share : MethodName := ⟨RX7, "share", "(III)I"⟩
abbrev cX7_shareOf : ByteArray := prog_9_method_15_code
def yX7_shareOf : MethodName := ⟨RX7, "shareOf", "(I)I"⟩
abbrev cX7_mixed : ByteArray := prog_9_method_16_code
def yX7_mixed : MethodName := ⟨RX7, "mixed", "(I)I"⟩
abbrev cX7_mix : ByteArray := prog_9_method_17_code
def yX7_mix : MethodName := ⟨RX7, "mix", "(I)I"⟩
abbrev cX7_numberUpper : ByteArray := prog_9_method_18_code
def yX7_numberUpper : MethodName := ⟨RX7, "numberUpper", "()J"⟩
abbrev cX7_numberLower : ByteArray := prog_9_method_19_code
def yX7_numberLower : MethodName := ⟨RX7, "numberLower", "()J"⟩
abbrev cX7_divisor : ByteArray := prog_9_method_20_code
def yX7_divisor : MethodName := ⟨RX7, "divisor", "(JJ)J"⟩
abbrev cX7_number : ByteArray := prog_9_method_21_code
def yX7_number : MethodName := ⟨RX7, "number", "()I"⟩
abbrev cX7_aim : ByteArray := prog_9_method_22_code
def yX7_aim : MethodName := ⟨RX7, "aim", "(II)I"⟩
abbrev cX7_rule : ByteArray := prog_9_method_23_code
def yX7_rule : MethodName := ⟨RX7, "rule", "(II)I"⟩
abbrev cX7_hour : ByteArray := prog_9_method_24_code
def yX7_hour : MethodName := ⟨RX7, "hour", "(Z)I"⟩
abbrev cX7_steer : ByteArray := prog_9_method_25_code
def yX7_steer : MethodName := ⟨RX7, "steer", "(JJ)I"⟩
abbrev cX7_read : ByteArray := prog_9_method_26_code
def yX7_read : MethodName := ⟨RX7, "read", "()I"⟩
abbrev cX7_passed : ByteArray := prog_9_method_27_code
def yX7_passed : MethodName := ⟨RX7, "passed", "()I"⟩
abbrev cX7_kindOf : ByteArray := prog_9_method_28_code
def yX7_kindOf : MethodName := ⟨RX7, "kindOf", "(I)I"⟩
abbrev cX7_taken : ByteArray := prog_9_method_29_code
def yX7_taken : MethodName := ⟨RX7, "taken", "(II)I"⟩
abbrev cX7_handOn : ByteArray := prog_9_method_30_code
def yX7_handOn : MethodName := ⟨RX7, "handOn", "(II)V"⟩
abbrev cX7_causeOf : ByteArray := prog_9_method_31_code
def yX7_causeOf : MethodName := ⟨RX7, "causeOf", "(I)I"⟩
abbrev cX7_step : ByteArray := prog_9_method_32_code
def yX7_step : MethodName := ⟨RX7, "step", "(III)I"⟩
abbrev cX7_start : ByteArray := prog_9_method_33_code
def yX7_start : MethodName := ⟨RX7, "start", "()I"⟩
abbrev cX7_zone : ByteArray := prog_9_method_34_code
def yX7_zone : MethodName := ⟨RX7, "zone", "(II)I"⟩
abbrev cX7_warmth : ByteArray := prog_9_method_35_code
def yX7_warmth : MethodName := ⟨RX7, "warmth", "(II)I"⟩
abbrev cX7_out : ByteArray := prog_9_method_36_code
def yX7_out : MethodName := ⟨RX7, "out", "(I)I"⟩
abbrev cX7_sum : ByteArray := prog_9_method_37_code
def yX7_sum : MethodName := ⟨RX7, "sum", "(I)I"⟩
abbrev cX7_first : ByteArray := prog_9_method_38_code
def yX7_first : MethodName := ⟨RX7, "first", "()I"⟩
abbrev cX7_addLot : ByteArray := prog_9_method_39_code
def yX7_addLot : MethodName := ⟨RX7, "addLot", "(II)V"⟩
abbrev cX7_inSilo : ByteArray := prog_9_method_40_code
def yX7_inSilo : MethodName := ⟨RX7, "inSilo", "(IZ)I"⟩
abbrev cX7_silo : ByteArray := prog_9_method_41_code
def yX7_silo : MethodName := ⟨RX7, "silo", "(II)I"⟩
abbrev cX7_bag : ByteArray := prog_9_method_42_code
def yX7_bag : MethodName := ⟨RX7, "bag", "(II)I"⟩
abbrev cX7_lot : ByteArray := prog_9_method_43_code
def yX7_lot : MethodName := ⟨RX7, "lot", "(II)I"⟩
abbrev cX7_isADay : ByteArray := prog_9_method_44_code
def yX7_isADay : MethodName := ⟨RX7, "isADay", "(I)Z"⟩
abbrev cX7_day : ByteArray := prog_9_method_45_code
def yX7_day : MethodName := ⟨RX7, "day", "(I)I"⟩
abbrev cX7_price : ByteArray := prog_9_method_46_code
def yX7_price : MethodName := ⟨RX7, "price", "(III)I"⟩
abbrev cX7_tear : ByteArray := prog_9_method_47_code
def yX7_tear : MethodName := ⟨RX7, "tear", "(I)I"⟩
abbrev cX7_copy : ByteArray := prog_9_method_48_code
def yX7_copy : MethodName := ⟨RX7, "copy", "(IIIII)I"⟩
abbrev cX7_need : ByteArray := prog_9_method_49_code
def yX7_need : MethodName := ⟨RX7, "need", "(II)I"⟩
abbrev cX7_plan : ByteArray := prog_9_method_50_code
def yX7_plan : MethodName := ⟨RX7, "plan", "(II)I"⟩
abbrev cX7_upper : ByteArray := prog_9_method_51_code
def yX7_upper : MethodName := ⟨RX7, "upper", "()J"⟩
abbrev cX7_lower : ByteArray := prog_9_method_52_code
def yX7_lower : MethodName := ⟨RX7, "lower", "()J"⟩
abbrev cX7_asked : ByteArray := prog_9_method_53_code
def yX7_asked : MethodName := ⟨RX7, "asked", "()J"⟩
abbrev cX7_counts : ByteArray := prog_9_method_54_code
def yX7_counts : MethodName := ⟨RX7, "counts", "(I)I"⟩
abbrev cX7_count : ByteArray := prog_9_method_55_code
def yX7_count : MethodName := ⟨RX7, "count", "(I)I"⟩
abbrev cX7_finding : ByteArray := prog_9_method_56_code
def yX7_finding : MethodName := ⟨RX7, "finding", "()I"⟩
abbrev cX7_findings : ByteArray := prog_9_method_57_code
def yX7_findings : MethodName := ⟨RX7, "findings", "(I)I"⟩
abbrev cX7_digest : ByteArray := prog_9_method_58_code
def yX7_digest : MethodName := ⟨RX7, "digest", "()J"⟩
def RJ9 : String := "java/lang/Math"
def TJ9 : u_T := fun k => match k with
  | _ => ("", "", "", false)
def tyJ9 : Nat → FieldType := fun k => match k with
  | _ => .int
abbrev wsJ90 : List Cond := u_ws RJ9 TJ9 0
theorem nmJ9 : ∀ a, a < 0 → ∀ b, b < 0 → a ≠ b → (TJ9 a).2.1 ≠ (TJ9 b).2.1 := by decide +kernel
theorem tyJ9_ok : ∀ k, k < 0 → parseFieldDescriptor (TJ9 k).2.2.1 = some (tyJ9 k) := by decide +kernel
abbrev cJ9_abs_0f7a4 : ByteArray := prog_10_method_59_code
def yJ9_abs_0f7a4 : MethodName := ⟨RJ9, "abs", "(I)I"⟩
abbrev cJ9_max_7cf53 : ByteArray := prog_10_method_65_code
def yJ9_max_7cf53 : MethodName := ⟨RJ9, "max", "(II)I"⟩
abbrev cJ9_min_7cf53 : ByteArray := prog_10_method_69_code
def yJ9_min_7cf53 : MethodName := ⟨RJ9, "min", "(II)I"⟩
abbrev cJ9_min_f86c9 : ByteArray := prog_10_method_70_code
def yJ9_min_f86c9 : MethodName := ⟨RJ9, "min", "(JJ)J"⟩
def RJ10 : String := "java/lang/System"
def TJ10 : u_T := fun k => match k with
  | _ => ("", "", "", false)
def tyJ10 : Nat → FieldType := fun k => match k with
  | _ => .int
abbrev wsJ100 : List Cond := u_ws RJ10 TJ10 0
theorem nmJ10 : ∀ a, a < 0 → ∀ b, b < 0 → a ≠ b → (TJ10 a).2.1 ≠ (TJ10 b).2.1 := by decide +kernel
theorem tyJ10_ok : ∀ k, k < 0 → parseFieldDescriptor (TJ10 k).2.2.1 = some (tyJ10 k) := by decide +kernel
def RJ7 : String := "java/util/Arrays"
def TJ7 : u_T := fun k => match k with
  | _ => ("", "", "", false)
def tyJ7 : Nat → FieldType := fun k => match k with
  | _ => .int
abbrev wsJ70 : List Cond := u_ws RJ7 TJ7 0
theorem nmJ7 : ∀ a, a < 0 → ∀ b, b < 0 → a ≠ b → (TJ7 a).2.1 ≠ (TJ7 b).2.1 := by decide +kernel
theorem tyJ7_ok : ∀ k, k < 0 → parseFieldDescriptor (TJ7 k).2.2.1 = some (tyJ7 k) := by decide +kernel
abbrev cJ7_fill_d0a16 : ByteArray := prog_12_method_101_code
def yJ7_fill_d0a16 : MethodName := ⟨RJ7, "fill", "([JJ)V"⟩
abbrev cJ7_fill_53178 : ByteArray := prog_12_method_103_code
def yJ7_fill_53178 : MethodName := ⟨RJ7, "fill", "([II)V"⟩
def RL : String := "KilnLineLaw"
abbrev cL_law : ByteArray := code
def yL_law : MethodName := ⟨RL, "law", "([I)Z"⟩
abbrev vwCl : List vw_C := [(RX0, TX0, 12), (RX1, TX1, 2), (RX2, TX2, 5), (RX3, TX3, 9), (RX4, TX4, 5), (RX5, TX5, 7), (RX6, TX6, 9), (RX7, TX7, 44)]
end
section
theorem dX0_init_0 : decode cX0_init 0 = .ok (.aload_n 0, 1) := by decide +kernel
theorem dX0_init_1 : decode cX0_init 1 = .ok (.invokespecial 3, 3) := by decide +kernel
theorem dX0_init_4 : decode cX0_init 4 = .ok (.aload_n 0, 1) := by decide +kernel
theorem dX0_init_5 : decode cX0_init 5 = .ok (.iconst 4, 1) := by decide +kernel
theorem dX0_init_6 : decode cX0_init 6 = .ok (.iconst 4, 1) := by decide +kernel
theorem dX0_init_7 : decode cX0_init 7 = .ok (.multianewarray 9 2, 4) := by decide +kernel
theorem dX0_init_11 : decode cX0_init 11 = .ok (.putfield 11, 3) := by decide +kernel
theorem dX0_init_14 : decode cX0_init 14 = .ok (.aload_n 0, 1) := by decide +kernel
theorem dX0_init_15 : decode cX0_init 15 = .ok (.iconst 4, 1) := by decide +kernel
theorem dX0_init_16 : decode cX0_init 16 = .ok (.newarray .int, 2) := by decide +kernel
theorem dX0_init_18 : decode cX0_init 18 = .ok (.putfield 16, 3) := by decide +kernel
theorem dX0_init_21 : decode cX0_init 21 = .ok (.aload_n 0, 1) := by decide +kernel
theorem dX0_init_22 : decode cX0_init 22 = .ok (.sipush 200, 3) := by decide +kernel
theorem dX0_init_25 : decode cX0_init 25 = .ok (.newarray .int, 2) := by decide +kernel
theorem dX0_init_27 : decode cX0_init 27 = .ok (.putfield 20, 3) := by decide +kernel
theorem dX0_init_30 : decode cX0_init 30 = .ok (.aload_n 0, 1) := by decide +kernel
theorem dX0_init_31 : decode cX0_init 31 = .ok (.sipush 200, 3) := by decide +kernel
theorem dX0_init_34 : decode cX0_init 34 = .ok (.newarray .int, 2) := by decide +kernel
theorem dX0_init_36 : decode cX0_init 36 = .ok (.putfield 23, 3) := by decide +kernel
theorem dX0_init_39 : decode cX0_init 39 = .ok (.aload_n 0, 1) := by decide +kernel
theorem dX0_init_40 : decode cX0_init 40 = .ok (.sipush 200, 3) := by decide +kernel
theorem dX0_init_43 : decode cX0_init 43 = .ok (.newarray .int, 2) := by decide +kernel
theorem dX0_init_45 : decode cX0_init 45 = .ok (.putfield 26, 3) := by decide +kernel
theorem dX0_init_48 : decode cX0_init 48 = .ok (.aload_n 0, 1) := by decide +kernel
theorem dX0_init_49 : decode cX0_init 49 = .ok (.iconst 0, 1) := by decide +kernel
theorem dX0_init_50 : decode cX0_init 50 = .ok (.putfield 29, 3) := by decide +kernel
theorem dX0_init_53 : decode cX0_init 53 = .ok (.aload_n 0, 1) := by decide +kernel
theorem dX0_init_54 : decode cX0_init 54 = .ok (.bipush (-9), 2) := by decide +kernel
theorem dX0_init_56 : decode cX0_init 56 = .ok (.putfield 33, 3) := by decide +kernel
theorem dX0_init_59 : decode cX0_init 59 = .ok (.aload_n 0, 1) := by decide +kernel
theorem dX0_init_60 : decode cX0_init 60 = .ok (.iconst 0, 1) := by decide +kernel
theorem dX0_init_61 : decode cX0_init 61 = .ok (.putfield 36, 3) := by decide +kernel
theorem dX0_init_64 : decode cX0_init 64 = .ok (.aload_n 0, 1) := by decide +kernel
theorem dX0_init_65 : decode cX0_init 65 = .ok (.iconst 3, 1) := by decide +kernel
theorem dX0_init_66 : decode cX0_init 66 = .ok (.putfield 39, 3) := by decide +kernel
theorem dX0_init_69 : decode cX0_init 69 = .ok (.aload_n 0, 1) := by decide +kernel
theorem dX0_init_70 : decode cX0_init 70 = .ok (.iconst 1, 1) := by decide +kernel
theorem dX0_init_71 : decode cX0_init 71 = .ok (.putfield 42, 3) := by decide +kernel
theorem dX0_init_74 : decode cX0_init 74 = .ok (.aload_n 0, 1) := by decide +kernel
theorem dX0_init_75 : decode cX0_init 75 = .ok (.iconst 1, 1) := by decide +kernel
theorem dX0_init_76 : decode cX0_init 76 = .ok (.putfield 45, 3) := by decide +kernel
theorem dX0_init_79 : decode cX0_init 79 = .ok (.aload_n 0, 1) := by decide +kernel
theorem dX0_init_80 : decode cX0_init 80 = .ok (.bipush 10, 2) := by decide +kernel
theorem dX0_init_82 : decode cX0_init 82 = .ok (.putfield 48, 3) := by decide +kernel
theorem dX0_init_85 : decode cX0_init 85 = .ok (.aload_n 0, 1) := by decide +kernel
theorem dX0_init_86 : decode cX0_init 86 = .ok (.getfield 16, 3) := by decide +kernel
theorem dX0_init_89 : decode cX0_init 89 = .ok (.sipush 250, 3) := by decide +kernel
theorem dX0_init_92 : decode cX0_init 92 = .ok (.invokestatic 51, 3) := by decide +kernel
theorem dX0_init_95 : decode cX0_init 95 = .ok (.iconst 0, 1) := by decide +kernel
theorem dX0_init_96 : decode cX0_init 96 = .ok (.istore_n 1, 1) := by decide +kernel
theorem dX0_init_97 : decode cX0_init 97 = .ok (.iload_n 1, 1) := by decide +kernel
theorem dX0_init_98 : decode cX0_init 98 = .ok (.iconst 4, 1) := by decide +kernel
theorem dX0_init_99 : decode cX0_init 99 = .ok (.if_icmp .ge 21, 3) := by decide +kernel
theorem dX0_init_102 : decode cX0_init 102 = .ok (.aload_n 0, 1) := by decide +kernel
theorem dX0_init_103 : decode cX0_init 103 = .ok (.getfield 11, 3) := by decide +kernel
theorem dX0_init_106 : decode cX0_init 106 = .ok (.iload_n 1, 1) := by decide +kernel
theorem dX0_init_107 : decode cX0_init 107 = .ok (.aaload, 1) := by decide +kernel
theorem dX0_init_108 : decode cX0_init 108 = .ok (.sipush 250, 3) := by decide +kernel
theorem dX0_init_111 : decode cX0_init 111 = .ok (.invokestatic 51, 3) := by decide +kernel
theorem dX0_init_114 : decode cX0_init 114 = .ok (.iinc 1 1, 3) := by decide +kernel
theorem dX0_init_117 : decode cX0_init 117 = .ok (.goto (-20), 3) := by decide +kernel
theorem dX0_init_120 : decode cX0_init 120 = .ok (.return_, 1) := by decide +kernel
theorem dX0_hours_0 : decode cX0_hours 0 = .ok (.aload_n 0, 1) := by decide +kernel
theorem dX0_hours_1 : decode cX0_hours 1 = .ok (.getfield 29, 3) := by decide +kernel
theorem dX0_hours_4 : decode cX0_hours 4 = .ok (.ireturn, 1) := by decide +kernel
theorem dX0_latestRead_0 : decode cX0_latestRead 0 = .ok (.aload_n 0, 1) := by decide +kernel
theorem dX0_latestRead_1 : decode cX0_latestRead 1 = .ok (.getfield 33, 3) := by decide +kernel
theorem dX0_latestRead_4 : decode cX0_latestRead 4 = .ok (.ireturn, 1) := by decide +kernel
theorem dX0_passedOver_0 : decode cX0_passedOver 0 = .ok (.aload_n 0, 1) := by decide +kernel
theorem dX0_passedOver_1 : decode cX0_passedOver 1 = .ok (.getfield 36, 3) := by decide +kernel
theorem dX0_passedOver_4 : decode cX0_passedOver 4 = .ok (.ireturn, 1) := by decide +kernel
theorem dX0_sharesOf_0 : decode cX0_sharesOf 0 = .ok (.aload_n 0, 1) := by decide +kernel
theorem dX0_sharesOf_1 : decode cX0_sharesOf 1 = .ok (.getfield 16, 3) := by decide +kernel
theorem dX0_sharesOf_4 : decode cX0_sharesOf 4 = .ok (.iload_n 1, 1) := by decide +kernel
theorem dX0_sharesOf_5 : decode cX0_sharesOf 5 = .ok (.iaload, 1) := by decide +kernel
theorem dX0_sharesOf_6 : decode cX0_sharesOf 6 = .ok (.ireturn, 1) := by decide +kernel
theorem dX0_setParts_0 : decode cX0_setParts 0 = .ok (.aload_n 0, 1) := by decide +kernel
theorem dX0_setParts_1 : decode cX0_setParts 1 = .ok (.getfield 11, 3) := by decide +kernel
theorem dX0_setParts_4 : decode cX0_setParts 4 = .ok (.iload_n 1, 1) := by decide +kernel
theorem dX0_setParts_5 : decode cX0_setParts 5 = .ok (.aaload, 1) := by decide +kernel
theorem dX0_setParts_6 : decode cX0_setParts 6 = .ok (.iconst 0, 1) := by decide +kernel
theorem dX0_setParts_7 : decode cX0_setParts 7 = .ok (.iload_n 2, 1) := by decide +kernel
theorem dX0_setParts_8 : decode cX0_setParts 8 = .ok (.iastore, 1) := by decide +kernel
theorem dX0_setParts_9 : decode cX0_setParts 9 = .ok (.aload_n 0, 1) := by decide +kernel
theorem dX0_setParts_10 : decode cX0_setParts 10 = .ok (.getfield 11, 3) := by decide +kernel
theorem dX0_setParts_13 : decode cX0_setParts 13 = .ok (.iload_n 1, 1) := by decide +kernel
theorem dX0_setParts_14 : decode cX0_setParts 14 = .ok (.aaload, 1) := by decide +kernel
theorem dX0_setParts_15 : decode cX0_setParts 15 = .ok (.iconst 1, 1) := by decide +kernel
theorem dX0_setParts_16 : decode cX0_setParts 16 = .ok (.iload_n 3, 1) := by decide +kernel
theorem dX0_setParts_17 : decode cX0_setParts 17 = .ok (.iastore, 1) := by decide +kernel
theorem dX0_setParts_18 : decode cX0_setParts 18 = .ok (.aload_n 0, 1) := by decide +kernel
theorem dX0_setParts_19 : decode cX0_setParts 19 = .ok (.getfield 11, 3) := by decide +kernel
theorem dX0_setParts_22 : decode cX0_setParts 22 = .ok (.iload_n 1, 1) := by decide +kernel
theorem dX0_setParts_23 : decode cX0_setParts 23 = .ok (.aaload, 1) := by decide +kernel
theorem dX0_setParts_24 : decode cX0_setParts 24 = .ok (.iconst 2, 1) := by decide +kernel
theorem dX0_setParts_25 : decode cX0_setParts 25 = .ok (.iload 4, 2) := by decide +kernel
theorem dX0_setParts_27 : decode cX0_setParts 27 = .ok (.iastore, 1) := by decide +kernel
theorem dX0_setParts_28 : decode cX0_setParts 28 = .ok (.aload_n 0, 1) := by decide +kernel
theorem dX0_setParts_29 : decode cX0_setParts 29 = .ok (.getfield 11, 3) := by decide +kernel
theorem dX0_setParts_32 : decode cX0_setParts 32 = .ok (.iload_n 1, 1) := by decide +kernel
theorem dX0_setParts_33 : decode cX0_setParts 33 = .ok (.aaload, 1) := by decide +kernel
theorem dX0_setParts_34 : decode cX0_setParts 34 = .ok (.iconst 3, 1) := by decide +kernel
theorem dX0_setParts_35 : decode cX0_setParts 35 = .ok (.sipush 1000, 3) := by decide +kernel
theorem dX0_setParts_38 : decode cX0_setParts 38 = .ok (.iload_n 2, 1) := by decide +kernel
theorem dX0_setParts_39 : decode cX0_setParts 39 = .ok (.isub, 1) := by decide +kernel
theorem dX0_setParts_40 : decode cX0_setParts 40 = .ok (.iload_n 3, 1) := by decide +kernel
theorem dX0_setParts_41 : decode cX0_setParts 41 = .ok (.isub, 1) := by decide +kernel
theorem dX0_setParts_42 : decode cX0_setParts 42 = .ok (.iload 4, 2) := by decide +kernel
theorem dX0_setParts_44 : decode cX0_setParts 44 = .ok (.isub, 1) := by decide +kernel
theorem dX0_setParts_45 : decode cX0_setParts 45 = .ok (.iastore, 1) := by decide +kernel
theorem dX0_setParts_46 : decode cX0_setParts 46 = .ok (.return_, 1) := by decide +kernel
theorem dX0_setShares_0 : decode cX0_setShares 0 = .ok (.aload_n 0, 1) := by decide +kernel
theorem dX0_setShares_1 : decode cX0_setShares 1 = .ok (.getfield 16, 3) := by decide +kernel
theorem dX0_setShares_4 : decode cX0_setShares 4 = .ok (.iconst 0, 1) := by decide +kernel
theorem dX0_setShares_5 : decode cX0_setShares 5 = .ok (.iload_n 1, 1) := by decide +kernel
theorem dX0_setShares_6 : decode cX0_setShares 6 = .ok (.iastore, 1) := by decide +kernel
theorem dX0_setShares_7 : decode cX0_setShares 7 = .ok (.aload_n 0, 1) := by decide +kernel
theorem dX0_setShares_8 : decode cX0_setShares 8 = .ok (.getfield 16, 3) := by decide +kernel
theorem dX0_setShares_11 : decode cX0_setShares 11 = .ok (.iconst 1, 1) := by decide +kernel
theorem dX0_setShares_12 : decode cX0_setShares 12 = .ok (.iload_n 2, 1) := by decide +kernel
theorem dX0_setShares_13 : decode cX0_setShares 13 = .ok (.iastore, 1) := by decide +kernel
theorem dX0_setShares_14 : decode cX0_setShares 14 = .ok (.aload_n 0, 1) := by decide +kernel
theorem dX0_setShares_15 : decode cX0_setShares 15 = .ok (.getfield 16, 3) := by decide +kernel
theorem dX0_setShares_18 : decode cX0_setShares 18 = .ok (.iconst 2, 1) := by decide +kernel
theorem dX0_setShares_19 : decode cX0_setShares 19 = .ok (.iload_n 3, 1) := by decide +kernel
theorem dX0_setShares_20 : decode cX0_setShares 20 = .ok (.iastore, 1) := by decide +kernel
theorem dX0_setShares_21 : decode cX0_setShares 21 = .ok (.aload_n 0, 1) := by decide +kernel
theorem dX0_setShares_22 : decode cX0_setShares 22 = .ok (.getfield 16, 3) := by decide +kernel
theorem dX0_setShares_25 : decode cX0_setShares 25 = .ok (.iconst 3, 1) := by decide +kernel
theorem dX0_setShares_26 : decode cX0_setShares 26 = .ok (.sipush 1000, 3) := by decide +kernel
theorem dX0_setShares_29 : decode cX0_setShares 29 = .ok (.iload_n 1, 1) := by decide +kernel
theorem dX0_setShares_30 : decode cX0_setShares 30 = .ok (.isub, 1) := by decide +kernel
theorem dX0_setShares_31 : decode cX0_setShares 31 = .ok (.iload_n 2, 1) := by decide +kernel
theorem dX0_setShares_32 : decode cX0_setShares 32 = .ok (.isub, 1) := by decide +kernel
theorem dX0_setShares_33 : decode cX0_setShares 33 = .ok (.iload_n 3, 1) := by decide +kernel
theorem dX0_setShares_34 : decode cX0_setShares 34 = .ok (.isub, 1) := by decide +kernel
theorem dX0_setShares_35 : decode cX0_setShares 35 = .ok (.iastore, 1) := by decide +kernel
theorem dX0_setShares_36 : decode cX0_setShares 36 = .ok (.return_, 1) := by decide +kernel
theorem dX0_setAim_0 : decode cX0_setAim 0 = .ok (.aload_n 0, 1) := by decide +kernel
theorem dX0_setAim_1 : decode cX0_setAim 1 = .ok (.iload_n 1, 1) := by decide +kernel
theorem dX0_setAim_2 : decode cX0_setAim 2 = .ok (.putfield 39, 3) := by decide +kernel
theorem dX0_setAim_5 : decode cX0_setAim 5 = .ok (.aload_n 0, 1) := by decide +kernel
theorem dX0_setAim_6 : decode cX0_setAim 6 = .ok (.iload_n 2, 1) := by decide +kernel
theorem dX0_setAim_7 : decode cX0_setAim 7 = .ok (.putfield 42, 3) := by decide +kernel
theorem dX0_setAim_10 : decode cX0_setAim 10 = .ok (.return_, 1) := by decide +kernel
theorem dX0_setRule_0 : decode cX0_setRule 0 = .ok (.aload_n 0, 1) := by decide +kernel
theorem dX0_setRule_1 : decode cX0_setRule 1 = .ok (.iload_n 1, 1) := by decide +kernel
theorem dX0_setRule_2 : decode cX0_setRule 2 = .ok (.putfield 45, 3) := by decide +kernel
theorem dX0_setRule_5 : decode cX0_setRule 5 = .ok (.aload_n 0, 1) := by decide +kernel
theorem dX0_setRule_6 : decode cX0_setRule 6 = .ok (.iload_n 2, 1) := by decide +kernel
theorem dX0_setRule_7 : decode cX0_setRule 7 = .ok (.putfield 48, 3) := by decide +kernel
theorem dX0_setRule_10 : decode cX0_setRule 10 = .ok (.return_, 1) := by decide +kernel
theorem dX0_part_0 : decode cX0_part 0 = .ok (.iconst 0, 1) := by decide +kernel
theorem dX0_part_1 : decode cX0_part 1 = .ok (.istore_n 2, 1) := by decide +kernel
theorem dX0_part_2 : decode cX0_part 2 = .ok (.iconst 0, 1) := by decide +kernel
theorem dX0_part_3 : decode cX0_part 3 = .ok (.istore_n 3, 1) := by decide +kernel
theorem dX0_part_4 : decode cX0_part 4 = .ok (.iload_n 3, 1) := by decide +kernel
theorem dX0_part_5 : decode cX0_part 5 = .ok (.iconst 4, 1) := by decide +kernel
theorem dX0_part_6 : decode cX0_part 6 = .ok (.if_icmp .ge 27, 3) := by decide +kernel
theorem dX0_part_9 : decode cX0_part 9 = .ok (.iload_n 2, 1) := by decide +kernel
theorem dX0_part_10 : decode cX0_part 10 = .ok (.aload_n 0, 1) := by decide +kernel
theorem dX0_part_11 : decode cX0_part 11 = .ok (.getfield 16, 3) := by decide +kernel
theorem dX0_part_14 : decode cX0_part 14 = .ok (.iload_n 3, 1) := by decide +kernel
theorem dX0_part_15 : decode cX0_part 15 = .ok (.iaload, 1) := by decide +kernel
theorem dX0_part_16 : decode cX0_part 16 = .ok (.aload_n 0, 1) := by decide +kernel
theorem dX0_part_17 : decode cX0_part 17 = .ok (.getfield 11, 3) := by decide +kernel
theorem dX0_part_20 : decode cX0_part 20 = .ok (.iload_n 3, 1) := by decide +kernel
theorem dX0_part_21 : decode cX0_part 21 = .ok (.aaload, 1) := by decide +kernel
theorem dX0_part_22 : decode cX0_part 22 = .ok (.iload_n 1, 1) := by decide +kernel
theorem dX0_part_23 : decode cX0_part 23 = .ok (.iaload, 1) := by decide +kernel
theorem dX0_part_24 : decode cX0_part 24 = .ok (.imul, 1) := by decide +kernel
theorem dX0_part_25 : decode cX0_part 25 = .ok (.iadd, 1) := by decide +kernel
theorem dX0_part_26 : decode cX0_part 26 = .ok (.istore_n 2, 1) := by decide +kernel
theorem dX0_part_27 : decode cX0_part 27 = .ok (.iinc 3 1, 3) := by decide +kernel
theorem dX0_part_30 : decode cX0_part 30 = .ok (.goto (-26), 3) := by decide +kernel
theorem dX0_part_33 : decode cX0_part 33 = .ok (.iload_n 2, 1) := by decide +kernel
theorem dX0_part_34 : decode cX0_part 34 = .ok (.ireturn, 1) := by decide +kernel
theorem dX0_numberUpper_0 : decode cX0_numberUpper 0 = .ok (.bipush 10, 2) := by decide +kernel
theorem dX0_numberUpper_2 : decode cX0_numberUpper 2 = .ok (.aload_n 0, 1) := by decide +kernel
theorem dX0_numberUpper_3 : decode cX0_numberUpper 3 = .ok (.iconst 0, 1) := by decide +kernel
theorem dX0_numberUpper_4 : decode cX0_numberUpper 4 = .ok (.invokevirtual 57, 3) := by decide +kernel
theorem dX0_numberUpper_7 : decode cX0_numberUpper 7 = .ok (.imul, 1) := by decide +kernel
theorem dX0_numberUpper_8 : decode cX0_numberUpper 8 = .ok (.ireturn, 1) := by decide +kernel
theorem dX0_numberLower_0 : decode cX0_numberLower 0 = .ok (.bipush 28, 2) := by decide +kernel
theorem dX0_numberLower_2 : decode cX0_numberLower 2 = .ok (.aload_n 0, 1) := by decide +kernel
theorem dX0_numberLower_3 : decode cX0_numberLower 3 = .ok (.iconst 1, 1) := by decide +kernel
theorem dX0_numberLower_4 : decode cX0_numberLower 4 = .ok (.invokevirtual 57, 3) := by decide +kernel
theorem dX0_numberLower_7 : decode cX0_numberLower 7 = .ok (.imul, 1) := by decide +kernel
theorem dX0_numberLower_8 : decode cX0_numberLower 8 = .ok (.bipush 12, 2) := by decide +kernel
theorem dX0_numberLower_10 : decode cX0_numberLower 10 = .ok (.aload_n 0, 1) := by decide +kernel
theorem dX0_numberLower_11 : decode cX0_numberLower 11 = .ok (.iconst 2, 1) := by decide +kernel
theorem dX0_numberLower_12 : decode cX0_numberLower 12 = .ok (.invokevirtual 57, 3) := by decide +kernel
theorem dX0_numberLower_15 : decode cX0_numberLower 15 = .ok (.imul, 1) := by decide +kernel
theorem dX0_numberLower_16 : decode cX0_numberLower 16 = .ok (.iadd, 1) := by decide +kernel
theorem dX0_numberLower_17 : decode cX0_numberLower 17 = .ok (.bipush 7, 2) := by decide +kernel
theorem dX0_numberLower_19 : decode cX0_numberLower 19 = .ok (.aload_n 0, 1) := by decide +kernel
theorem dX0_numberLower_20 : decode cX0_numberLower 20 = .ok (.iconst 3, 1) := by decide +kernel
theorem dX0_numberLower_21 : decode cX0_numberLower 21 = .ok (.invokevirtual 57, 3) := by decide +kernel
theorem dX0_numberLower_24 : decode cX0_numberLower 24 = .ok (.imul, 1) := by decide +kernel
theorem dX0_numberLower_25 : decode cX0_numberLower 25 = .ok (.iadd, 1) := by decide +kernel
theorem dX0_numberLower_26 : decode cX0_numberLower 26 = .ok (.ireturn, 1) := by decide +kernel
theorem dX0_passHour_0 : decode cX0_passHour 0 = .ok (.aload_n 0, 1) := by decide +kernel
theorem dX0_passHour_1 : decode cX0_passHour 1 = .ok (.iload_n 1, 1) := by decide +kernel
theorem dX0_passHour_2 : decode cX0_passHour 2 = .ok (.invokevirtual 61, 3) := by decide +kernel
theorem dX0_passHour_5 : decode cX0_passHour 5 = .ok (.aload_n 0, 1) := by decide +kernel
theorem dX0_passHour_6 : decode cX0_passHour 6 = .ok (.aload_n 0, 1) := by decide +kernel
theorem dX0_passHour_7 : decode cX0_passHour 7 = .ok (.invokevirtual 65, 3) := by decide +kernel
theorem dX0_passHour_10 : decode cX0_passHour 10 = .ok (.putfield 33, 3) := by decide +kernel
theorem dX0_passHour_13 : decode cX0_passHour 13 = .ok (.aload_n 0, 1) := by decide +kernel
theorem dX0_passHour_14 : decode cX0_passHour 14 = .ok (.dup, 1) := by decide +kernel
theorem dX0_passHour_15 : decode cX0_passHour 15 = .ok (.getfield 29, 3) := by decide +kernel
theorem dX0_passHour_18 : decode cX0_passHour 18 = .ok (.iconst 1, 1) := by decide +kernel
theorem dX0_passHour_19 : decode cX0_passHour 19 = .ok (.iadd, 1) := by decide +kernel
theorem dX0_passHour_20 : decode cX0_passHour 20 = .ok (.putfield 29, 3) := by decide +kernel
theorem dX0_passHour_23 : decode cX0_passHour 23 = .ok (.aload_n 0, 1) := by decide +kernel
theorem dX0_passHour_24 : decode cX0_passHour 24 = .ok (.getfield 33, 3) := by decide +kernel
theorem dX0_passHour_27 : decode cX0_passHour 27 = .ok (.bipush (-9), 2) := by decide +kernel
theorem dX0_passHour_29 : decode cX0_passHour 29 = .ok (.if_icmp .ne 7, 3) := by decide +kernel
theorem dX0_passHour_32 : decode cX0_passHour 32 = .ok (.iconst 0, 1) := by decide +kernel
theorem dX0_passHour_33 : decode cX0_passHour 33 = .ok (.goto 11, 3) := by decide +kernel
theorem dX0_passHour_36 : decode cX0_passHour 36 = .ok (.aload_n 0, 1) := by decide +kernel
theorem dX0_passHour_37 : decode cX0_passHour 37 = .ok (.aload_n 0, 1) := by decide +kernel
theorem dX0_passHour_38 : decode cX0_passHour 38 = .ok (.getfield 33, 3) := by decide +kernel
theorem dX0_passHour_41 : decode cX0_passHour 41 = .ok (.invokevirtual 69, 3) := by decide +kernel
theorem dX0_passHour_44 : decode cX0_passHour 44 = .ok (.ireturn, 1) := by decide +kernel
theorem dX0_takeSample_0 : decode cX0_takeSample 0 = .ok (.aload_n 0, 1) := by decide +kernel
theorem dX0_takeSample_1 : decode cX0_takeSample 1 = .ok (.getfield 20, 3) := by decide +kernel
theorem dX0_takeSample_4 : decode cX0_takeSample 4 = .ok (.aload_n 0, 1) := by decide +kernel
theorem dX0_takeSample_5 : decode cX0_takeSample 5 = .ok (.getfield 29, 3) := by decide +kernel
theorem dX0_takeSample_8 : decode cX0_takeSample 8 = .ok (.iload_n 1, 1) := by decide +kernel
theorem dX0_takeSample_9 : decode cX0_takeSample 9 = .ok (.ifCond .eq 7, 3) := by decide +kernel
theorem dX0_takeSample_12 : decode cX0_takeSample 12 = .ok (.iconst (-1), 1) := by decide +kernel
theorem dX0_takeSample_13 : decode cX0_takeSample 13 = .ok (.goto 12, 3) := by decide +kernel
theorem dX0_takeSample_16 : decode cX0_takeSample 16 = .ok (.aload_n 0, 1) := by decide +kernel
theorem dX0_takeSample_17 : decode cX0_takeSample 17 = .ok (.getfield 29, 3) := by decide +kernel
theorem dX0_takeSample_20 : decode cX0_takeSample 20 = .ok (.aload_n 0, 1) := by decide +kernel
theorem dX0_takeSample_21 : decode cX0_takeSample 21 = .ok (.getfield 45, 3) := by decide +kernel
theorem dX0_takeSample_24 : decode cX0_takeSample 24 = .ok (.iadd, 1) := by decide +kernel
theorem dX0_takeSample_25 : decode cX0_takeSample 25 = .ok (.iastore, 1) := by decide +kernel
theorem dX0_takeSample_26 : decode cX0_takeSample 26 = .ok (.aload_n 0, 1) := by decide +kernel
theorem dX0_takeSample_27 : decode cX0_takeSample 27 = .ok (.getfield 23, 3) := by decide +kernel
theorem dX0_takeSample_30 : decode cX0_takeSample 30 = .ok (.aload_n 0, 1) := by decide +kernel
theorem dX0_takeSample_31 : decode cX0_takeSample 31 = .ok (.getfield 29, 3) := by decide +kernel
theorem dX0_takeSample_34 : decode cX0_takeSample 34 = .ok (.aload_n 0, 1) := by decide +kernel
theorem dX0_takeSample_35 : decode cX0_takeSample 35 = .ok (.invokevirtual 72, 3) := by decide +kernel
theorem dX0_takeSample_38 : decode cX0_takeSample 38 = .ok (.iastore, 1) := by decide +kernel
theorem dX0_takeSample_39 : decode cX0_takeSample 39 = .ok (.aload_n 0, 1) := by decide +kernel
theorem dX0_takeSample_40 : decode cX0_takeSample 40 = .ok (.getfield 26, 3) := by decide +kernel
theorem dX0_takeSample_43 : decode cX0_takeSample 43 = .ok (.aload_n 0, 1) := by decide +kernel
theorem dX0_takeSample_44 : decode cX0_takeSample 44 = .ok (.getfield 29, 3) := by decide +kernel
theorem dX0_takeSample_47 : decode cX0_takeSample 47 = .ok (.aload_n 0, 1) := by decide +kernel
theorem dX0_takeSample_48 : decode cX0_takeSample 48 = .ok (.invokevirtual 75, 3) := by decide +kernel
theorem dX0_takeSample_51 : decode cX0_takeSample 51 = .ok (.iastore, 1) := by decide +kernel
theorem dX0_takeSample_52 : decode cX0_takeSample 52 = .ok (.return_, 1) := by decide +kernel
theorem dX0_readYoungest_0 : decode cX0_readYoungest 0 = .ok (.bipush (-9), 2) := by decide +kernel
theorem dX0_readYoungest_2 : decode cX0_readYoungest 2 = .ok (.istore_n 1, 1) := by decide +kernel
theorem dX0_readYoungest_3 : decode cX0_readYoungest 3 = .ok (.iconst 0, 1) := by decide +kernel
theorem dX0_readYoungest_4 : decode cX0_readYoungest 4 = .ok (.istore_n 2, 1) := by decide +kernel
theorem dX0_readYoungest_5 : decode cX0_readYoungest 5 = .ok (.iload_n 2, 1) := by decide +kernel
theorem dX0_readYoungest_6 : decode cX0_readYoungest 6 = .ok (.aload_n 0, 1) := by decide +kernel
theorem dX0_readYoungest_7 : decode cX0_readYoungest 7 = .ok (.getfield 29, 3) := by decide +kernel
theorem dX0_readYoungest_10 : decode cX0_readYoungest 10 = .ok (.if_icmp .gt 57, 3) := by decide +kernel
theorem dX0_readYoungest_13 : decode cX0_readYoungest 13 = .ok (.aload_n 0, 1) := by decide +kernel
theorem dX0_readYoungest_14 : decode cX0_readYoungest 14 = .ok (.getfield 20, 3) := by decide +kernel
theorem dX0_readYoungest_17 : decode cX0_readYoungest 17 = .ok (.iload_n 2, 1) := by decide +kernel
theorem dX0_readYoungest_18 : decode cX0_readYoungest 18 = .ok (.iaload, 1) := by decide +kernel
theorem dX0_readYoungest_19 : decode cX0_readYoungest 19 = .ok (.iconst (-1), 1) := by decide +kernel
theorem dX0_readYoungest_20 : decode cX0_readYoungest 20 = .ok (.if_icmp .eq 41, 3) := by decide +kernel
theorem dX0_readYoungest_23 : decode cX0_readYoungest 23 = .ok (.aload_n 0, 1) := by decide +kernel
theorem dX0_readYoungest_24 : decode cX0_readYoungest 24 = .ok (.getfield 20, 3) := by decide +kernel
theorem dX0_readYoungest_27 : decode cX0_readYoungest 27 = .ok (.iload_n 2, 1) := by decide +kernel
theorem dX0_readYoungest_28 : decode cX0_readYoungest 28 = .ok (.iaload, 1) := by decide +kernel
theorem dX0_readYoungest_29 : decode cX0_readYoungest 29 = .ok (.aload_n 0, 1) := by decide +kernel
theorem dX0_readYoungest_30 : decode cX0_readYoungest 30 = .ok (.getfield 29, 3) := by decide +kernel
theorem dX0_readYoungest_33 : decode cX0_readYoungest 33 = .ok (.if_icmp .gt 28, 3) := by decide +kernel
theorem dX0_readYoungest_36 : decode cX0_readYoungest 36 = .ok (.iload_n 1, 1) := by decide +kernel
theorem dX0_readYoungest_37 : decode cX0_readYoungest 37 = .ok (.bipush (-9), 2) := by decide +kernel
theorem dX0_readYoungest_39 : decode cX0_readYoungest 39 = .ok (.if_icmp .eq 13, 3) := by decide +kernel
theorem dX0_readYoungest_42 : decode cX0_readYoungest 42 = .ok (.aload_n 0, 1) := by decide +kernel
theorem dX0_readYoungest_43 : decode cX0_readYoungest 43 = .ok (.dup, 1) := by decide +kernel
theorem dX0_readYoungest_44 : decode cX0_readYoungest 44 = .ok (.getfield 36, 3) := by decide +kernel
theorem dX0_readYoungest_47 : decode cX0_readYoungest 47 = .ok (.iconst 1, 1) := by decide +kernel
theorem dX0_readYoungest_48 : decode cX0_readYoungest 48 = .ok (.iadd, 1) := by decide +kernel
theorem dX0_readYoungest_49 : decode cX0_readYoungest 49 = .ok (.putfield 36, 3) := by decide +kernel
theorem dX0_readYoungest_52 : decode cX0_readYoungest 52 = .ok (.iload_n 2, 1) := by decide +kernel
theorem dX0_readYoungest_53 : decode cX0_readYoungest 53 = .ok (.istore_n 1, 1) := by decide +kernel
theorem dX0_readYoungest_54 : decode cX0_readYoungest 54 = .ok (.aload_n 0, 1) := by decide +kernel
theorem dX0_readYoungest_55 : decode cX0_readYoungest 55 = .ok (.getfield 20, 3) := by decide +kernel
theorem dX0_readYoungest_58 : decode cX0_readYoungest 58 = .ok (.iload_n 2, 1) := by decide +kernel
theorem dX0_readYoungest_59 : decode cX0_readYoungest 59 = .ok (.iconst (-1), 1) := by decide +kernel
theorem dX0_readYoungest_60 : decode cX0_readYoungest 60 = .ok (.iastore, 1) := by decide +kernel
theorem dX0_readYoungest_61 : decode cX0_readYoungest 61 = .ok (.iinc 2 1, 3) := by decide +kernel
theorem dX0_readYoungest_64 : decode cX0_readYoungest 64 = .ok (.goto (-59), 3) := by decide +kernel
theorem dX0_readYoungest_67 : decode cX0_readYoungest 67 = .ok (.iload_n 1, 1) := by decide +kernel
theorem dX0_readYoungest_68 : decode cX0_readYoungest 68 = .ok (.ireturn, 1) := by decide +kernel
theorem dX0_correct_0 : decode cX0_correct 0 = .ok (.aload_n 0, 1) := by decide +kernel
theorem dX0_correct_1 : decode cX0_correct 1 = .ok (.getfield 26, 3) := by decide +kernel
theorem dX0_correct_4 : decode cX0_correct 4 = .ok (.iload_n 1, 1) := by decide +kernel
theorem dX0_correct_5 : decode cX0_correct 5 = .ok (.iaload, 1) := by decide +kernel
theorem dX0_correct_6 : decode cX0_correct 6 = .ok (.ifCond .ne 5, 3) := by decide +kernel
theorem dX0_correct_9 : decode cX0_correct 9 = .ok (.iconst 1, 1) := by decide +kernel
theorem dX0_correct_10 : decode cX0_correct 10 = .ok (.ireturn, 1) := by decide +kernel
theorem dX0_correct_11 : decode cX0_correct 11 = .ok (.aload_n 0, 1) := by decide +kernel
theorem dX0_correct_12 : decode cX0_correct 12 = .ok (.getfield 23, 3) := by decide +kernel
theorem dX0_correct_15 : decode cX0_correct 15 = .ok (.iload_n 1, 1) := by decide +kernel
theorem dX0_correct_16 : decode cX0_correct 16 = .ok (.iaload, 1) := by decide +kernel
theorem dX0_correct_17 : decode cX0_correct 17 = .ok (.i2l, 1) := by decide +kernel
theorem dX0_correct_18 : decode cX0_correct 18 = .ok (.aload_n 0, 1) := by decide +kernel
theorem dX0_correct_19 : decode cX0_correct 19 = .ok (.getfield 42, 3) := by decide +kernel
theorem dX0_correct_22 : decode cX0_correct 22 = .ok (.i2l, 1) := by decide +kernel
theorem dX0_correct_23 : decode cX0_correct 23 = .ok (.lmul, 1) := by decide +kernel
theorem dX0_correct_24 : decode cX0_correct 24 = .ok (.lstore_n 2, 1) := by decide +kernel
theorem dX0_correct_25 : decode cX0_correct 25 = .ok (.aload_n 0, 1) := by decide +kernel
theorem dX0_correct_26 : decode cX0_correct 26 = .ok (.getfield 26, 3) := by decide +kernel
theorem dX0_correct_29 : decode cX0_correct 29 = .ok (.iload_n 1, 1) := by decide +kernel
theorem dX0_correct_30 : decode cX0_correct 30 = .ok (.iaload, 1) := by decide +kernel
theorem dX0_correct_31 : decode cX0_correct 31 = .ok (.i2l, 1) := by decide +kernel
theorem dX0_correct_32 : decode cX0_correct 32 = .ok (.aload_n 0, 1) := by decide +kernel
theorem dX0_correct_33 : decode cX0_correct 33 = .ok (.getfield 39, 3) := by decide +kernel
theorem dX0_correct_36 : decode cX0_correct 36 = .ok (.i2l, 1) := by decide +kernel
theorem dX0_correct_37 : decode cX0_correct 37 = .ok (.lmul, 1) := by decide +kernel
theorem dX0_correct_38 : decode cX0_correct 38 = .ok (.lstore 4, 2) := by decide +kernel
theorem dX0_correct_40 : decode cX0_correct 40 = .ok (.lload_n 2, 1) := by decide +kernel
theorem dX0_correct_41 : decode cX0_correct 41 = .ok (.lload 4, 2) := by decide +kernel
theorem dX0_correct_43 : decode cX0_correct 43 = .ok (.lcmp, 1) := by decide +kernel
theorem dX0_correct_44 : decode cX0_correct 44 = .ok (.ifCond .ge 18, 3) := by decide +kernel
theorem dX0_correct_47 : decode cX0_correct 47 = .ok (.aload_n 0, 1) := by decide +kernel
theorem dX0_correct_48 : decode cX0_correct 48 = .ok (.iconst 1, 1) := by decide +kernel
theorem dX0_correct_49 : decode cX0_correct 49 = .ok (.iconst 0, 1) := by decide +kernel
theorem dX0_correct_50 : decode cX0_correct 50 = .ok (.invokevirtual 78, 3) := by decide +kernel
theorem dX0_correct_53 : decode cX0_correct 53 = .ok (.ifCond .eq 7, 3) := by decide +kernel
theorem dX0_correct_56 : decode cX0_correct 56 = .ok (.iconst 2, 1) := by decide +kernel
theorem dX0_correct_57 : decode cX0_correct 57 = .ok (.goto 4, 3) := by decide +kernel
theorem dX0_correct_60 : decode cX0_correct 60 = .ok (.iconst 1, 1) := by decide +kernel
theorem dX0_correct_61 : decode cX0_correct 61 = .ok (.ireturn, 1) := by decide +kernel
theorem dX0_correct_62 : decode cX0_correct 62 = .ok (.lload_n 2, 1) := by decide +kernel
theorem dX0_correct_63 : decode cX0_correct 63 = .ok (.lload 4, 2) := by decide +kernel
theorem dX0_correct_65 : decode cX0_correct 65 = .ok (.lcmp, 1) := by decide +kernel
theorem dX0_correct_66 : decode cX0_correct 66 = .ok (.ifCond .le 18, 3) := by decide +kernel
theorem dX0_correct_69 : decode cX0_correct 69 = .ok (.aload_n 0, 1) := by decide +kernel
theorem dX0_correct_70 : decode cX0_correct 70 = .ok (.iconst 0, 1) := by decide +kernel
theorem dX0_correct_71 : decode cX0_correct 71 = .ok (.iconst 1, 1) := by decide +kernel
theorem dX0_correct_72 : decode cX0_correct 72 = .ok (.invokevirtual 78, 3) := by decide +kernel
theorem dX0_correct_75 : decode cX0_correct 75 = .ok (.ifCond .eq 7, 3) := by decide +kernel
theorem dX0_correct_78 : decode cX0_correct 78 = .ok (.iconst 3, 1) := by decide +kernel
theorem dX0_correct_79 : decode cX0_correct 79 = .ok (.goto 4, 3) := by decide +kernel
theorem dX0_correct_82 : decode cX0_correct 82 = .ok (.iconst 1, 1) := by decide +kernel
theorem dX0_correct_83 : decode cX0_correct 83 = .ok (.ireturn, 1) := by decide +kernel
theorem dX0_correct_84 : decode cX0_correct 84 = .ok (.iconst 1, 1) := by decide +kernel
theorem dX0_correct_85 : decode cX0_correct 85 = .ok (.ireturn, 1) := by decide +kernel
theorem dX0_shift_0 : decode cX0_shift 0 = .ok (.aload_n 0, 1) := by decide +kernel
theorem dX0_shift_1 : decode cX0_shift 1 = .ok (.getfield 48, 3) := by decide +kernel
theorem dX0_shift_4 : decode cX0_shift 4 = .ok (.aload_n 0, 1) := by decide +kernel
theorem dX0_shift_5 : decode cX0_shift 5 = .ok (.getfield 16, 3) := by decide +kernel
theorem dX0_shift_8 : decode cX0_shift 8 = .ok (.iload_n 1, 1) := by decide +kernel
theorem dX0_shift_9 : decode cX0_shift 9 = .ok (.iaload, 1) := by decide +kernel
theorem dX0_shift_10 : decode cX0_shift 10 = .ok (.invokestatic 82, 3) := by decide +kernel
theorem dX0_shift_13 : decode cX0_shift 13 = .ok (.istore_n 3, 1) := by decide +kernel
theorem dX0_shift_14 : decode cX0_shift 14 = .ok (.aload_n 0, 1) := by decide +kernel
theorem dX0_shift_15 : decode cX0_shift 15 = .ok (.getfield 16, 3) := by decide +kernel
theorem dX0_shift_18 : decode cX0_shift 18 = .ok (.iload_n 1, 1) := by decide +kernel
theorem dX0_shift_19 : decode cX0_shift 19 = .ok (.dup2, 1) := by decide +kernel
theorem dX0_shift_20 : decode cX0_shift 20 = .ok (.iaload, 1) := by decide +kernel
theorem dX0_shift_21 : decode cX0_shift 21 = .ok (.iload_n 3, 1) := by decide +kernel
theorem dX0_shift_22 : decode cX0_shift 22 = .ok (.isub, 1) := by decide +kernel
theorem dX0_shift_23 : decode cX0_shift 23 = .ok (.iastore, 1) := by decide +kernel
theorem dX0_shift_24 : decode cX0_shift 24 = .ok (.aload_n 0, 1) := by decide +kernel
theorem dX0_shift_25 : decode cX0_shift 25 = .ok (.getfield 16, 3) := by decide +kernel
theorem dX0_shift_28 : decode cX0_shift 28 = .ok (.iload_n 2, 1) := by decide +kernel
theorem dX0_shift_29 : decode cX0_shift 29 = .ok (.dup2, 1) := by decide +kernel
theorem dX0_shift_30 : decode cX0_shift 30 = .ok (.iaload, 1) := by decide +kernel
theorem dX0_shift_31 : decode cX0_shift 31 = .ok (.iload_n 3, 1) := by decide +kernel
theorem dX0_shift_32 : decode cX0_shift 32 = .ok (.iadd, 1) := by decide +kernel
theorem dX0_shift_33 : decode cX0_shift 33 = .ok (.iastore, 1) := by decide +kernel
theorem dX0_shift_34 : decode cX0_shift 34 = .ok (.iload_n 3, 1) := by decide +kernel
theorem dX0_shift_35 : decode cX0_shift 35 = .ok (.ifCond .le 7, 3) := by decide +kernel
theorem dX0_shift_38 : decode cX0_shift 38 = .ok (.iconst 1, 1) := by decide +kernel
theorem dX0_shift_39 : decode cX0_shift 39 = .ok (.goto 4, 3) := by decide +kernel
theorem dX0_shift_42 : decode cX0_shift 42 = .ok (.iconst 0, 1) := by decide +kernel
theorem dX0_shift_43 : decode cX0_shift 43 = .ok (.ireturn, 1) := by decide +kernel
theorem dX0_foldInto_0 : decode cX0_foldInto 0 = .ok (.lload_n 1, 1) := by decide +kernel
theorem dX0_foldInto_1 : decode cX0_foldInto 1 = .ok (.lstore_n 3, 1) := by decide +kernel
theorem dX0_foldInto_2 : decode cX0_foldInto 2 = .ok (.iconst 0, 1) := by decide +kernel
theorem dX0_foldInto_3 : decode cX0_foldInto 3 = .ok (.istore 5, 2) := by decide +kernel
theorem dX0_foldInto_5 : decode cX0_foldInto 5 = .ok (.iload 5, 2) := by decide +kernel
theorem dX0_foldInto_7 : decode cX0_foldInto 7 = .ok (.iconst 4, 1) := by decide +kernel
theorem dX0_foldInto_8 : decode cX0_foldInto 8 = .ok (.if_icmp .ge 53, 3) := by decide +kernel
theorem dX0_foldInto_11 : decode cX0_foldInto 11 = .ok (.iconst 0, 1) := by decide +kernel
theorem dX0_foldInto_12 : decode cX0_foldInto 12 = .ok (.istore 6, 2) := by decide +kernel
theorem dX0_foldInto_14 : decode cX0_foldInto 14 = .ok (.iload 6, 2) := by decide +kernel
theorem dX0_foldInto_16 : decode cX0_foldInto 16 = .ok (.iconst 4, 1) := by decide +kernel
theorem dX0_foldInto_17 : decode cX0_foldInto 17 = .ok (.if_icmp .ge 25, 3) := by decide +kernel
theorem dX0_foldInto_20 : decode cX0_foldInto 20 = .ok (.lload_n 3, 1) := by decide +kernel
theorem dX0_foldInto_21 : decode cX0_foldInto 21 = .ok (.aload_n 0, 1) := by decide +kernel
theorem dX0_foldInto_22 : decode cX0_foldInto 22 = .ok (.getfield 11, 3) := by decide +kernel
theorem dX0_foldInto_25 : decode cX0_foldInto 25 = .ok (.iload 5, 2) := by decide +kernel
theorem dX0_foldInto_27 : decode cX0_foldInto 27 = .ok (.aaload, 1) := by decide +kernel
theorem dX0_foldInto_28 : decode cX0_foldInto 28 = .ok (.iload 6, 2) := by decide +kernel
theorem dX0_foldInto_30 : decode cX0_foldInto 30 = .ok (.iaload, 1) := by decide +kernel
theorem dX0_foldInto_31 : decode cX0_foldInto 31 = .ok (.i2l, 1) := by decide +kernel
theorem dX0_foldInto_32 : decode cX0_foldInto 32 = .ok (.invokestatic 88, 3) := by decide +kernel
theorem dX0_foldInto_35 : decode cX0_foldInto 35 = .ok (.lstore_n 3, 1) := by decide +kernel
theorem dX0_foldInto_36 : decode cX0_foldInto 36 = .ok (.iinc 6 1, 3) := by decide +kernel
theorem dX0_foldInto_39 : decode cX0_foldInto 39 = .ok (.goto (-25), 3) := by decide +kernel
theorem dX0_foldInto_42 : decode cX0_foldInto 42 = .ok (.lload_n 3, 1) := by decide +kernel
theorem dX0_foldInto_43 : decode cX0_foldInto 43 = .ok (.aload_n 0, 1) := by decide +kernel
theorem dX0_foldInto_44 : decode cX0_foldInto 44 = .ok (.getfield 16, 3) := by decide +kernel
theorem dX0_foldInto_47 : decode cX0_foldInto 47 = .ok (.iload 5, 2) := by decide +kernel
theorem dX0_foldInto_49 : decode cX0_foldInto 49 = .ok (.iaload, 1) := by decide +kernel
theorem dX0_foldInto_50 : decode cX0_foldInto 50 = .ok (.i2l, 1) := by decide +kernel
theorem dX0_foldInto_51 : decode cX0_foldInto 51 = .ok (.invokestatic 88, 3) := by decide +kernel
theorem dX0_foldInto_54 : decode cX0_foldInto 54 = .ok (.lstore_n 3, 1) := by decide +kernel
theorem dX0_foldInto_55 : decode cX0_foldInto 55 = .ok (.iinc 5 1, 3) := by decide +kernel
theorem dX0_foldInto_58 : decode cX0_foldInto 58 = .ok (.goto (-53), 3) := by decide +kernel
theorem dX0_foldInto_61 : decode cX0_foldInto 61 = .ok (.lload_n 3, 1) := by decide +kernel
theorem dX0_foldInto_62 : decode cX0_foldInto 62 = .ok (.lreturn, 1) := by decide +kernel
theorem dX1_init_0 : decode cX1_init 0 = .ok (.aload_n 0, 1) := by decide +kernel
theorem dX1_init_1 : decode cX1_init 1 = .ok (.invokespecial 3, 3) := by decide +kernel
theorem dX1_init_4 : decode cX1_init 4 = .ok (.aload_n 0, 1) := by decide +kernel
theorem dX1_init_5 : decode cX1_init 5 = .ok (.bipush 6, 2) := by decide +kernel
theorem dX1_init_7 : decode cX1_init 7 = .ok (.newarray .int, 2) := by decide +kernel
theorem dX1_init_9 : decode cX1_init 9 = .ok (.putfield 9, 3) := by decide +kernel
theorem dX1_init_12 : decode cX1_init 12 = .ok (.aload_n 0, 1) := by decide +kernel
theorem dX1_init_13 : decode cX1_init 13 = .ok (.iconst 0, 1) := by decide +kernel
theorem dX1_init_14 : decode cX1_init 14 = .ok (.putfield 15, 3) := by decide +kernel
theorem dX1_init_17 : decode cX1_init 17 = .ok (.return_, 1) := by decide +kernel
theorem dX1_answer_0 : decode cX1_answer 0 = .ok (.aload_n 0, 1) := by decide +kernel
theorem dX1_answer_1 : decode cX1_answer 1 = .ok (.iload_n 1, 1) := by decide +kernel
theorem dX1_answer_2 : decode cX1_answer 2 = .ok (.putfield 15, 3) := by decide +kernel
theorem dX1_answer_5 : decode cX1_answer 5 = .ok (.aload_n 0, 1) := by decide +kernel
theorem dX1_answer_6 : decode cX1_answer 6 = .ok (.getfield 9, 3) := by decide +kernel
theorem dX1_answer_9 : decode cX1_answer 9 = .ok (.iload_n 1, 1) := by decide +kernel
theorem dX1_answer_10 : decode cX1_answer 10 = .ok (.dup2, 1) := by decide +kernel
theorem dX1_answer_11 : decode cX1_answer 11 = .ok (.iaload, 1) := by decide +kernel
theorem dX1_answer_12 : decode cX1_answer 12 = .ok (.iconst 1, 1) := by decide +kernel
theorem dX1_answer_13 : decode cX1_answer 13 = .ok (.iadd, 1) := by decide +kernel
theorem dX1_answer_14 : decode cX1_answer 14 = .ok (.iastore, 1) := by decide +kernel
theorem dX1_answer_15 : decode cX1_answer 15 = .ok (.bipush (-3), 2) := by decide +kernel
theorem dX1_answer_17 : decode cX1_answer 17 = .ok (.ireturn, 1) := by decide +kernel
theorem dX1_latest_0 : decode cX1_latest 0 = .ok (.aload_n 0, 1) := by decide +kernel
theorem dX1_latest_1 : decode cX1_latest 1 = .ok (.getfield 15, 3) := by decide +kernel
theorem dX1_latest_4 : decode cX1_latest 4 = .ok (.ireturn, 1) := by decide +kernel
theorem dX1_times_0 : decode cX1_times 0 = .ok (.aload_n 0, 1) := by decide +kernel
theorem dX1_times_1 : decode cX1_times 1 = .ok (.getfield 9, 3) := by decide +kernel
theorem dX1_times_4 : decode cX1_times 4 = .ok (.iload_n 1, 1) := by decide +kernel
theorem dX1_times_5 : decode cX1_times 5 = .ok (.iaload, 1) := by decide +kernel
theorem dX1_times_6 : decode cX1_times 6 = .ok (.ireturn, 1) := by decide +kernel
theorem dX2_init_0 : decode cX2_init 0 = .ok (.aload_n 0, 1) := by decide +kernel
theorem dX2_init_1 : decode cX2_init 1 = .ok (.invokespecial 3, 3) := by decide +kernel
theorem dX2_init_4 : decode cX2_init 4 = .ok (.aload_n 0, 1) := by decide +kernel
theorem dX2_init_5 : decode cX2_init 5 = .ok (.bipush 10, 2) := by decide +kernel
theorem dX2_init_7 : decode cX2_init 7 = .ok (.newarray .int, 2) := by decide +kernel
theorem dX2_init_9 : decode cX2_init 9 = .ok (.putfield 9, 3) := by decide +kernel
theorem dX2_init_12 : decode cX2_init 12 = .ok (.aload_n 0, 1) := by decide +kernel
theorem dX2_init_13 : decode cX2_init 13 = .ok (.bipush 10, 2) := by decide +kernel
theorem dX2_init_15 : decode cX2_init 15 = .ok (.newarray .int, 2) := by decide +kernel
theorem dX2_init_17 : decode cX2_init 17 = .ok (.putfield 15, 3) := by decide +kernel
theorem dX2_init_20 : decode cX2_init 20 = .ok (.aload_n 0, 1) := by decide +kernel
theorem dX2_init_21 : decode cX2_init 21 = .ok (.bipush 10, 2) := by decide +kernel
theorem dX2_init_23 : decode cX2_init 23 = .ok (.newarray .boolean, 2) := by decide +kernel
theorem dX2_init_25 : decode cX2_init 25 = .ok (.putfield 18, 3) := by decide +kernel
theorem dX2_init_28 : decode cX2_init 28 = .ok (.aload_n 0, 1) := by decide +kernel
theorem dX2_init_29 : decode cX2_init 29 = .ok (.bipush 30, 2) := by decide +kernel
theorem dX2_init_31 : decode cX2_init 31 = .ok (.newarray .int, 2) := by decide +kernel
theorem dX2_init_33 : decode cX2_init 33 = .ok (.putfield 22, 3) := by decide +kernel
theorem dX2_init_36 : decode cX2_init 36 = .ok (.aload_n 0, 1) := by decide +kernel
theorem dX2_init_37 : decode cX2_init 37 = .ok (.iconst 0, 1) := by decide +kernel
theorem dX2_init_38 : decode cX2_init 38 = .ok (.putfield 25, 3) := by decide +kernel
theorem dX2_init_41 : decode cX2_init 41 = .ok (.return_, 1) := by decide +kernel
theorem dX2_strokes_0 : decode cX2_strokes 0 = .ok (.aload_n 0, 1) := by decide +kernel
theorem dX2_strokes_1 : decode cX2_strokes 1 = .ok (.getfield 25, 3) := by decide +kernel
theorem dX2_strokes_4 : decode cX2_strokes 4 = .ok (.ireturn, 1) := by decide +kernel
theorem dX2_isCut_0 : decode cX2_isCut 0 = .ok (.aload_n 0, 1) := by decide +kernel
theorem dX2_isCut_1 : decode cX2_isCut 1 = .ok (.getfield 18, 3) := by decide +kernel
theorem dX2_isCut_4 : decode cX2_isCut 4 = .ok (.iload_n 1, 1) := by decide +kernel
theorem dX2_isCut_5 : decode cX2_isCut 5 = .ok (.baload, 1) := by decide +kernel
theorem dX2_isCut_6 : decode cX2_isCut 6 = .ok (.ireturn, 1) := by decide +kernel
theorem dX2_tonsOn_0 : decode cX2_tonsOn 0 = .ok (.aload_n 0, 1) := by decide +kernel
theorem dX2_tonsOn_1 : decode cX2_tonsOn 1 = .ok (.getfield 9, 3) := by decide +kernel
theorem dX2_tonsOn_4 : decode cX2_tonsOn 4 = .ok (.iload_n 1, 1) := by decide +kernel
theorem dX2_tonsOn_5 : decode cX2_tonsOn 5 = .ok (.iaload, 1) := by decide +kernel
theorem dX2_tonsOn_6 : decode cX2_tonsOn 6 = .ok (.ireturn, 1) := by decide +kernel
theorem dX2_limeOn_0 : decode cX2_limeOn 0 = .ok (.aload_n 0, 1) := by decide +kernel
theorem dX2_limeOn_1 : decode cX2_limeOn 1 = .ok (.getfield 15, 3) := by decide +kernel
theorem dX2_limeOn_4 : decode cX2_limeOn 4 = .ok (.iload_n 1, 1) := by decide +kernel
theorem dX2_limeOn_5 : decode cX2_limeOn 5 = .ok (.iaload, 1) := by decide +kernel
theorem dX2_limeOn_6 : decode cX2_limeOn 6 = .ok (.ireturn, 1) := by decide +kernel
theorem dX2_spreadLaid_0 : decode cX2_spreadLaid 0 = .ok (.aload_n 0, 1) := by decide +kernel
theorem dX2_spreadLaid_1 : decode cX2_spreadLaid 1 = .ok (.getfield 22, 3) := by decide +kernel
theorem dX2_spreadLaid_4 : decode cX2_spreadLaid 4 = .ok (.iload_n 1, 1) := by decide +kernel
theorem dX2_spreadLaid_5 : decode cX2_spreadLaid 5 = .ok (.iaload, 1) := by decide +kernel
theorem dX2_spreadLaid_6 : decode cX2_spreadLaid 6 = .ok (.ireturn, 1) := by decide +kernel
theorem dX2_lay_0 : decode cX2_lay 0 = .ok (.aload_n 0, 1) := by decide +kernel
theorem dX2_lay_1 : decode cX2_lay 1 = .ok (.getfield 25, 3) := by decide +kernel
theorem dX2_lay_4 : decode cX2_lay 4 = .ok (.iconst 2, 1) := by decide +kernel
theorem dX2_lay_5 : decode cX2_lay 5 = .ok (.irem, 1) := by decide +kernel
theorem dX2_lay_6 : decode cX2_lay 6 = .ok (.iconst 1, 1) := by decide +kernel
theorem dX2_lay_7 : decode cX2_lay 7 = .ok (.if_icmp .ne 7, 3) := by decide +kernel
theorem dX2_lay_10 : decode cX2_lay 10 = .ok (.iconst 1, 1) := by decide +kernel
theorem dX2_lay_11 : decode cX2_lay 11 = .ok (.goto 4, 3) := by decide +kernel
theorem dX2_lay_14 : decode cX2_lay 14 = .ok (.iconst 0, 1) := by decide +kernel
theorem dX2_lay_15 : decode cX2_lay 15 = .ok (.istore 4, 2) := by decide +kernel
theorem dX2_lay_17 : decode cX2_lay 17 = .ok (.iconst 0, 1) := by decide +kernel
theorem dX2_lay_18 : decode cX2_lay 18 = .ok (.istore 5, 2) := by decide +kernel
theorem dX2_lay_20 : decode cX2_lay 20 = .ok (.iload 5, 2) := by decide +kernel
theorem dX2_lay_22 : decode cX2_lay 22 = .ok (.bipush 10, 2) := by decide +kernel
theorem dX2_lay_24 : decode cX2_lay 24 = .ok (.if_icmp .ge 59, 3) := by decide +kernel
theorem dX2_lay_27 : decode cX2_lay 27 = .ok (.aload_n 0, 1) := by decide +kernel
theorem dX2_lay_28 : decode cX2_lay 28 = .ok (.getfield 18, 3) := by decide +kernel
theorem dX2_lay_31 : decode cX2_lay 31 = .ok (.iload 5, 2) := by decide +kernel
theorem dX2_lay_33 : decode cX2_lay 33 = .ok (.baload, 1) := by decide +kernel
theorem dX2_lay_34 : decode cX2_lay 34 = .ok (.ifCond .ne 43, 3) := by decide +kernel
theorem dX2_lay_37 : decode cX2_lay 37 = .ok (.aload_n 0, 1) := by decide +kernel
theorem dX2_lay_38 : decode cX2_lay 38 = .ok (.getfield 9, 3) := by decide +kernel
theorem dX2_lay_41 : decode cX2_lay 41 = .ok (.iload 5, 2) := by decide +kernel
theorem dX2_lay_43 : decode cX2_lay 43 = .ok (.dup2, 1) := by decide +kernel
theorem dX2_lay_44 : decode cX2_lay 44 = .ok (.iaload, 1) := by decide +kernel
theorem dX2_lay_45 : decode cX2_lay 45 = .ok (.iload_n 1, 1) := by decide +kernel
theorem dX2_lay_46 : decode cX2_lay 46 = .ok (.iadd, 1) := by decide +kernel
theorem dX2_lay_47 : decode cX2_lay 47 = .ok (.iastore, 1) := by decide +kernel
theorem dX2_lay_48 : decode cX2_lay 48 = .ok (.aload_n 0, 1) := by decide +kernel
theorem dX2_lay_49 : decode cX2_lay 49 = .ok (.getfield 15, 3) := by decide +kernel
theorem dX2_lay_52 : decode cX2_lay 52 = .ok (.iload 5, 2) := by decide +kernel
theorem dX2_lay_54 : decode cX2_lay 54 = .ok (.dup2, 1) := by decide +kernel
theorem dX2_lay_55 : decode cX2_lay 55 = .ok (.iaload, 1) := by decide +kernel
theorem dX2_lay_56 : decode cX2_lay 56 = .ok (.iload_n 2, 1) := by decide +kernel
theorem dX2_lay_57 : decode cX2_lay 57 = .ok (.iload_n 3, 1) := by decide +kernel
theorem dX2_lay_58 : decode cX2_lay 58 = .ok (.iload 4, 2) := by decide +kernel
theorem dX2_lay_60 : decode cX2_lay 60 = .ok (.ifCond .eq 11, 3) := by decide +kernel
theorem dX2_lay_63 : decode cX2_lay 63 = .ok (.bipush 9, 2) := by decide +kernel
theorem dX2_lay_65 : decode cX2_lay 65 = .ok (.iload 5, 2) := by decide +kernel
theorem dX2_lay_67 : decode cX2_lay 67 = .ok (.isub, 1) := by decide +kernel
theorem dX2_lay_68 : decode cX2_lay 68 = .ok (.goto 5, 3) := by decide +kernel
theorem dX2_lay_71 : decode cX2_lay 71 = .ok (.iload 5, 2) := by decide +kernel
theorem dX2_lay_73 : decode cX2_lay 73 = .ok (.imul, 1) := by decide +kernel
theorem dX2_lay_74 : decode cX2_lay 74 = .ok (.iadd, 1) := by decide +kernel
theorem dX2_lay_75 : decode cX2_lay 75 = .ok (.iadd, 1) := by decide +kernel
theorem dX2_lay_76 : decode cX2_lay 76 = .ok (.iastore, 1) := by decide +kernel
theorem dX2_lay_77 : decode cX2_lay 77 = .ok (.iinc 5 1, 3) := by decide +kernel
theorem dX2_lay_80 : decode cX2_lay 80 = .ok (.goto (-60), 3) := by decide +kernel
theorem dX2_lay_83 : decode cX2_lay 83 = .ok (.aload_n 0, 1) := by decide +kernel
theorem dX2_lay_84 : decode cX2_lay 84 = .ok (.getfield 22, 3) := by decide +kernel
theorem dX2_lay_87 : decode cX2_lay 87 = .ok (.aload_n 0, 1) := by decide +kernel
theorem dX2_lay_88 : decode cX2_lay 88 = .ok (.getfield 25, 3) := by decide +kernel
theorem dX2_lay_91 : decode cX2_lay 91 = .ok (.iload_n 3, 1) := by decide +kernel
theorem dX2_lay_92 : decode cX2_lay 92 = .ok (.invokestatic 29, 3) := by decide +kernel
theorem dX2_lay_95 : decode cX2_lay 95 = .ok (.bipush 9, 2) := by decide +kernel
theorem dX2_lay_97 : decode cX2_lay 97 = .ok (.imul, 1) := by decide +kernel
theorem dX2_lay_98 : decode cX2_lay 98 = .ok (.iastore, 1) := by decide +kernel
theorem dX2_lay_99 : decode cX2_lay 99 = .ok (.aload_n 0, 1) := by decide +kernel
theorem dX2_lay_100 : decode cX2_lay 100 = .ok (.dup, 1) := by decide +kernel
theorem dX2_lay_101 : decode cX2_lay 101 = .ok (.getfield 25, 3) := by decide +kernel
theorem dX2_lay_104 : decode cX2_lay 104 = .ok (.iconst 1, 1) := by decide +kernel
theorem dX2_lay_105 : decode cX2_lay 105 = .ok (.iadd, 1) := by decide +kernel
theorem dX2_lay_106 : decode cX2_lay 106 = .ok (.putfield 25, 3) := by decide +kernel
theorem dX2_lay_109 : decode cX2_lay 109 = .ok (.aload_n 0, 1) := by decide +kernel
theorem dX2_lay_110 : decode cX2_lay 110 = .ok (.getfield 25, 3) := by decide +kernel
theorem dX2_lay_113 : decode cX2_lay 113 = .ok (.ireturn, 1) := by decide +kernel
theorem dX2_take_0 : decode cX2_take 0 = .ok (.aload_n 0, 1) := by decide +kernel
theorem dX2_take_1 : decode cX2_take 1 = .ok (.getfield 9, 3) := by decide +kernel
theorem dX2_take_4 : decode cX2_take 4 = .ok (.iload_n 1, 1) := by decide +kernel
theorem dX2_take_5 : decode cX2_take 5 = .ok (.iaload, 1) := by decide +kernel
theorem dX2_take_6 : decode cX2_take 6 = .ok (.istore_n 2, 1) := by decide +kernel
theorem dX2_take_7 : decode cX2_take 7 = .ok (.aload_n 0, 1) := by decide +kernel
theorem dX2_take_8 : decode cX2_take 8 = .ok (.getfield 9, 3) := by decide +kernel
theorem dX2_take_11 : decode cX2_take 11 = .ok (.iload_n 1, 1) := by decide +kernel
theorem dX2_take_12 : decode cX2_take 12 = .ok (.iconst 0, 1) := by decide +kernel
theorem dX2_take_13 : decode cX2_take 13 = .ok (.iastore, 1) := by decide +kernel
theorem dX2_take_14 : decode cX2_take 14 = .ok (.aload_n 0, 1) := by decide +kernel
theorem dX2_take_15 : decode cX2_take 15 = .ok (.getfield 15, 3) := by decide +kernel
theorem dX2_take_18 : decode cX2_take 18 = .ok (.iload_n 1, 1) := by decide +kernel
theorem dX2_take_19 : decode cX2_take 19 = .ok (.iconst 0, 1) := by decide +kernel
theorem dX2_take_20 : decode cX2_take 20 = .ok (.iastore, 1) := by decide +kernel
theorem dX2_take_21 : decode cX2_take 21 = .ok (.aload_n 0, 1) := by decide +kernel
theorem dX2_take_22 : decode cX2_take 22 = .ok (.getfield 18, 3) := by decide +kernel
theorem dX2_take_25 : decode cX2_take 25 = .ok (.iload_n 1, 1) := by decide +kernel
theorem dX2_take_26 : decode cX2_take 26 = .ok (.iconst 1, 1) := by decide +kernel
theorem dX2_take_27 : decode cX2_take 27 = .ok (.bastore, 1) := by decide +kernel
theorem dX2_take_28 : decode cX2_take 28 = .ok (.iload_n 2, 1) := by decide +kernel
theorem dX2_take_29 : decode cX2_take 29 = .ok (.ireturn, 1) := by decide +kernel
theorem dX2_spreadNow_0 : decode cX2_spreadNow 0 = .ok (.bipush (-9), 2) := by decide +kernel
theorem dX2_spreadNow_2 : decode cX2_spreadNow 2 = .ok (.istore_n 1, 1) := by decide +kernel
theorem dX2_spreadNow_3 : decode cX2_spreadNow 3 = .ok (.bipush (-9), 2) := by decide +kernel
theorem dX2_spreadNow_5 : decode cX2_spreadNow 5 = .ok (.istore_n 2, 1) := by decide +kernel
theorem dX2_spreadNow_6 : decode cX2_spreadNow 6 = .ok (.iconst 0, 1) := by decide +kernel
theorem dX2_spreadNow_7 : decode cX2_spreadNow 7 = .ok (.istore_n 3, 1) := by decide +kernel
theorem dX2_spreadNow_8 : decode cX2_spreadNow 8 = .ok (.iload_n 3, 1) := by decide +kernel
theorem dX2_spreadNow_9 : decode cX2_spreadNow 9 = .ok (.bipush 10, 2) := by decide +kernel
theorem dX2_spreadNow_11 : decode cX2_spreadNow 11 = .ok (.if_icmp .ge 55, 3) := by decide +kernel
theorem dX2_spreadNow_14 : decode cX2_spreadNow 14 = .ok (.aload_n 0, 1) := by decide +kernel
theorem dX2_spreadNow_15 : decode cX2_spreadNow 15 = .ok (.getfield 18, 3) := by decide +kernel
theorem dX2_spreadNow_18 : decode cX2_spreadNow 18 = .ok (.iload_n 3, 1) := by decide +kernel
theorem dX2_spreadNow_19 : decode cX2_spreadNow 19 = .ok (.baload, 1) := by decide +kernel
theorem dX2_spreadNow_20 : decode cX2_spreadNow 20 = .ok (.ifCond .ne 40, 3) := by decide +kernel
theorem dX2_spreadNow_23 : decode cX2_spreadNow 23 = .ok (.iload_n 1, 1) := by decide +kernel
theorem dX2_spreadNow_24 : decode cX2_spreadNow 24 = .ok (.bipush (-9), 2) := by decide +kernel
theorem dX2_spreadNow_26 : decode cX2_spreadNow 26 = .ok (.if_icmp .ne 12, 3) := by decide +kernel
theorem dX2_spreadNow_29 : decode cX2_spreadNow 29 = .ok (.aload_n 0, 1) := by decide +kernel
theorem dX2_spreadNow_30 : decode cX2_spreadNow 30 = .ok (.getfield 15, 3) := by decide +kernel
theorem dX2_spreadNow_33 : decode cX2_spreadNow 33 = .ok (.iload_n 3, 1) := by decide +kernel
theorem dX2_spreadNow_34 : decode cX2_spreadNow 34 = .ok (.iaload, 1) := by decide +kernel
theorem dX2_spreadNow_35 : decode cX2_spreadNow 35 = .ok (.goto 13, 3) := by decide +kernel
theorem dX2_spreadNow_38 : decode cX2_spreadNow 38 = .ok (.iload_n 1, 1) := by decide +kernel
theorem dX2_spreadNow_39 : decode cX2_spreadNow 39 = .ok (.aload_n 0, 1) := by decide +kernel
theorem dX2_spreadNow_40 : decode cX2_spreadNow 40 = .ok (.getfield 15, 3) := by decide +kernel
theorem dX2_spreadNow_43 : decode cX2_spreadNow 43 = .ok (.iload_n 3, 1) := by decide +kernel
theorem dX2_spreadNow_44 : decode cX2_spreadNow 44 = .ok (.iaload, 1) := by decide +kernel
theorem dX2_spreadNow_45 : decode cX2_spreadNow 45 = .ok (.invokestatic 35, 3) := by decide +kernel
theorem dX2_spreadNow_48 : decode cX2_spreadNow 48 = .ok (.istore_n 1, 1) := by decide +kernel
theorem dX2_spreadNow_49 : decode cX2_spreadNow 49 = .ok (.iload_n 2, 1) := by decide +kernel
theorem dX2_spreadNow_50 : decode cX2_spreadNow 50 = .ok (.aload_n 0, 1) := by decide +kernel
theorem dX2_spreadNow_51 : decode cX2_spreadNow 51 = .ok (.getfield 15, 3) := by decide +kernel
theorem dX2_spreadNow_54 : decode cX2_spreadNow 54 = .ok (.iload_n 3, 1) := by decide +kernel
theorem dX2_spreadNow_55 : decode cX2_spreadNow 55 = .ok (.iaload, 1) := by decide +kernel
theorem dX2_spreadNow_56 : decode cX2_spreadNow 56 = .ok (.invokestatic 39, 3) := by decide +kernel
theorem dX2_spreadNow_59 : decode cX2_spreadNow 59 = .ok (.istore_n 2, 1) := by decide +kernel
theorem dX2_spreadNow_60 : decode cX2_spreadNow 60 = .ok (.iinc 3 1, 3) := by decide +kernel
theorem dX2_spreadNow_63 : decode cX2_spreadNow 63 = .ok (.goto (-55), 3) := by decide +kernel
theorem dX2_spreadNow_66 : decode cX2_spreadNow 66 = .ok (.iload_n 1, 1) := by decide +kernel
theorem dX2_spreadNow_67 : decode cX2_spreadNow 67 = .ok (.bipush (-9), 2) := by decide +kernel
theorem dX2_spreadNow_69 : decode cX2_spreadNow 69 = .ok (.if_icmp .ne 8, 3) := by decide +kernel
theorem dX2_spreadNow_72 : decode cX2_spreadNow 72 = .ok (.bipush (-9), 2) := by decide +kernel
theorem dX2_spreadNow_74 : decode cX2_spreadNow 74 = .ok (.goto 6, 3) := by decide +kernel
theorem dX2_spreadNow_77 : decode cX2_spreadNow 77 = .ok (.iload_n 2, 1) := by decide +kernel
theorem dX2_spreadNow_78 : decode cX2_spreadNow 78 = .ok (.iload_n 1, 1) := by decide +kernel
theorem dX2_spreadNow_79 : decode cX2_spreadNow 79 = .ok (.isub, 1) := by decide +kernel
theorem dX2_spreadNow_80 : decode cX2_spreadNow 80 = .ok (.ireturn, 1) := by decide +kernel
theorem dX2_empty_0 : decode cX2_empty 0 = .ok (.aload_n 0, 1) := by decide +kernel
theorem dX2_empty_1 : decode cX2_empty 1 = .ok (.getfield 25, 3) := by decide +kernel
theorem dX2_empty_4 : decode cX2_empty 4 = .ok (.istore_n 1, 1) := by decide +kernel
theorem dX2_empty_5 : decode cX2_empty 5 = .ok (.iconst 0, 1) := by decide +kernel
theorem dX2_empty_6 : decode cX2_empty 6 = .ok (.istore_n 2, 1) := by decide +kernel
theorem dX2_empty_7 : decode cX2_empty 7 = .ok (.iload_n 2, 1) := by decide +kernel
theorem dX2_empty_8 : decode cX2_empty 8 = .ok (.bipush 10, 2) := by decide +kernel
theorem dX2_empty_10 : decode cX2_empty 10 = .ok (.if_icmp .ge 30, 3) := by decide +kernel
theorem dX2_empty_13 : decode cX2_empty 13 = .ok (.aload_n 0, 1) := by decide +kernel
theorem dX2_empty_14 : decode cX2_empty 14 = .ok (.getfield 9, 3) := by decide +kernel
theorem dX2_empty_17 : decode cX2_empty 17 = .ok (.iload_n 2, 1) := by decide +kernel
theorem dX2_empty_18 : decode cX2_empty 18 = .ok (.iconst 0, 1) := by decide +kernel
theorem dX2_empty_19 : decode cX2_empty 19 = .ok (.iastore, 1) := by decide +kernel
theorem dX2_empty_20 : decode cX2_empty 20 = .ok (.aload_n 0, 1) := by decide +kernel
theorem dX2_empty_21 : decode cX2_empty 21 = .ok (.getfield 15, 3) := by decide +kernel
theorem dX2_empty_24 : decode cX2_empty 24 = .ok (.iload_n 2, 1) := by decide +kernel
theorem dX2_empty_25 : decode cX2_empty 25 = .ok (.iconst 0, 1) := by decide +kernel
theorem dX2_empty_26 : decode cX2_empty 26 = .ok (.iastore, 1) := by decide +kernel
theorem dX2_empty_27 : decode cX2_empty 27 = .ok (.aload_n 0, 1) := by decide +kernel
theorem dX2_empty_28 : decode cX2_empty 28 = .ok (.getfield 18, 3) := by decide +kernel
theorem dX2_empty_31 : decode cX2_empty 31 = .ok (.iload_n 2, 1) := by decide +kernel
theorem dX2_empty_32 : decode cX2_empty 32 = .ok (.iconst 0, 1) := by decide +kernel
theorem dX2_empty_33 : decode cX2_empty 33 = .ok (.bastore, 1) := by decide +kernel
theorem dX2_empty_34 : decode cX2_empty 34 = .ok (.iinc 2 1, 3) := by decide +kernel
theorem dX2_empty_37 : decode cX2_empty 37 = .ok (.goto (-30), 3) := by decide +kernel
theorem dX2_empty_40 : decode cX2_empty 40 = .ok (.aload_n 0, 1) := by decide +kernel
theorem dX2_empty_41 : decode cX2_empty 41 = .ok (.iconst 0, 1) := by decide +kernel
theorem dX2_empty_42 : decode cX2_empty 42 = .ok (.putfield 25, 3) := by decide +kernel
theorem dX2_empty_45 : decode cX2_empty 45 = .ok (.iload_n 1, 1) := by decide +kernel
theorem dX2_empty_46 : decode cX2_empty 46 = .ok (.ireturn, 1) := by decide +kernel
theorem dX2_foldInto_0 : decode cX2_foldInto 0 = .ok (.lload_n 1, 1) := by decide +kernel
theorem dX2_foldInto_1 : decode cX2_foldInto 1 = .ok (.lstore_n 3, 1) := by decide +kernel
theorem dX2_foldInto_2 : decode cX2_foldInto 2 = .ok (.iconst 0, 1) := by decide +kernel
theorem dX2_foldInto_3 : decode cX2_foldInto 3 = .ok (.istore 5, 2) := by decide +kernel
theorem dX2_foldInto_5 : decode cX2_foldInto 5 = .ok (.iload 5, 2) := by decide +kernel
theorem dX2_foldInto_7 : decode cX2_foldInto 7 = .ok (.bipush 10, 2) := by decide +kernel
theorem dX2_foldInto_9 : decode cX2_foldInto 9 = .ok (.if_icmp .ge 55, 3) := by decide +kernel
theorem dX2_foldInto_12 : decode cX2_foldInto 12 = .ok (.lload_n 3, 1) := by decide +kernel
theorem dX2_foldInto_13 : decode cX2_foldInto 13 = .ok (.aload_n 0, 1) := by decide +kernel
theorem dX2_foldInto_14 : decode cX2_foldInto 14 = .ok (.getfield 9, 3) := by decide +kernel
theorem dX2_foldInto_17 : decode cX2_foldInto 17 = .ok (.iload 5, 2) := by decide +kernel
theorem dX2_foldInto_19 : decode cX2_foldInto 19 = .ok (.iaload, 1) := by decide +kernel
theorem dX2_foldInto_20 : decode cX2_foldInto 20 = .ok (.i2l, 1) := by decide +kernel
theorem dX2_foldInto_21 : decode cX2_foldInto 21 = .ok (.invokestatic 42, 3) := by decide +kernel
theorem dX2_foldInto_24 : decode cX2_foldInto 24 = .ok (.lstore_n 3, 1) := by decide +kernel
theorem dX2_foldInto_25 : decode cX2_foldInto 25 = .ok (.lload_n 3, 1) := by decide +kernel
theorem dX2_foldInto_26 : decode cX2_foldInto 26 = .ok (.aload_n 0, 1) := by decide +kernel
theorem dX2_foldInto_27 : decode cX2_foldInto 27 = .ok (.getfield 15, 3) := by decide +kernel
theorem dX2_foldInto_30 : decode cX2_foldInto 30 = .ok (.iload 5, 2) := by decide +kernel
theorem dX2_foldInto_32 : decode cX2_foldInto 32 = .ok (.iaload, 1) := by decide +kernel
theorem dX2_foldInto_33 : decode cX2_foldInto 33 = .ok (.i2l, 1) := by decide +kernel
theorem dX2_foldInto_34 : decode cX2_foldInto 34 = .ok (.invokestatic 42, 3) := by decide +kernel
theorem dX2_foldInto_37 : decode cX2_foldInto 37 = .ok (.lstore_n 3, 1) := by decide +kernel
theorem dX2_foldInto_38 : decode cX2_foldInto 38 = .ok (.lload_n 3, 1) := by decide +kernel
theorem dX2_foldInto_39 : decode cX2_foldInto 39 = .ok (.aload_n 0, 1) := by decide +kernel
theorem dX2_foldInto_40 : decode cX2_foldInto 40 = .ok (.getfield 18, 3) := by decide +kernel
theorem dX2_foldInto_43 : decode cX2_foldInto 43 = .ok (.iload 5, 2) := by decide +kernel
theorem dX2_foldInto_45 : decode cX2_foldInto 45 = .ok (.baload, 1) := by decide +kernel
theorem dX2_foldInto_46 : decode cX2_foldInto 46 = .ok (.ifCond .eq 7, 3) := by decide +kernel
theorem dX2_foldInto_49 : decode cX2_foldInto 49 = .ok (.lconst 1, 1) := by decide +kernel
theorem dX2_foldInto_50 : decode cX2_foldInto 50 = .ok (.goto 4, 3) := by decide +kernel
theorem dX2_foldInto_53 : decode cX2_foldInto 53 = .ok (.lconst 0, 1) := by decide +kernel
theorem dX2_foldInto_54 : decode cX2_foldInto 54 = .ok (.invokestatic 42, 3) := by decide +kernel
theorem dX2_foldInto_57 : decode cX2_foldInto 57 = .ok (.lstore_n 3, 1) := by decide +kernel
theorem dX2_foldInto_58 : decode cX2_foldInto 58 = .ok (.iinc 5 1, 3) := by decide +kernel
theorem dX2_foldInto_61 : decode cX2_foldInto 61 = .ok (.goto (-56), 3) := by decide +kernel
theorem dX2_foldInto_64 : decode cX2_foldInto 64 = .ok (.lload_n 3, 1) := by decide +kernel
theorem dX2_foldInto_65 : decode cX2_foldInto 65 = .ok (.lreturn, 1) := by decide +kernel
theorem dX3_init_0 : decode cX3_init 0 = .ok (.aload_n 0, 1) := by decide +kernel
theorem dX3_init_1 : decode cX3_init 1 = .ok (.invokespecial 3, 3) := by decide +kernel
theorem dX3_init_4 : decode cX3_init 4 = .ok (.aload_n 0, 1) := by decide +kernel
theorem dX3_init_5 : decode cX3_init 5 = .ok (.iconst 4, 1) := by decide +kernel
theorem dX3_init_6 : decode cX3_init 6 = .ok (.newarray .int, 2) := by decide +kernel
theorem dX3_init_8 : decode cX3_init 8 = .ok (.putfield 9, 3) := by decide +kernel
theorem dX3_init_11 : decode cX3_init 11 = .ok (.aload_n 0, 1) := by decide +kernel
theorem dX3_init_12 : decode cX3_init 12 = .ok (.iconst 4, 1) := by decide +kernel
theorem dX3_init_13 : decode cX3_init 13 = .ok (.newarray .int, 2) := by decide +kernel
theorem dX3_init_15 : decode cX3_init 15 = .ok (.putfield 15, 3) := by decide +kernel
theorem dX3_init_18 : decode cX3_init 18 = .ok (.aload_n 0, 1) := by decide +kernel
theorem dX3_init_19 : decode cX3_init 19 = .ok (.iconst 4, 1) := by decide +kernel
theorem dX3_init_20 : decode cX3_init 20 = .ok (.newarray .int, 2) := by decide +kernel
theorem dX3_init_22 : decode cX3_init 22 = .ok (.putfield 18, 3) := by decide +kernel
theorem dX3_init_25 : decode cX3_init 25 = .ok (.aload_n 0, 1) := by decide +kernel
theorem dX3_init_26 : decode cX3_init 26 = .ok (.iconst 4, 1) := by decide +kernel
theorem dX3_init_27 : decode cX3_init 27 = .ok (.newarray .int, 2) := by decide +kernel
theorem dX3_init_29 : decode cX3_init 29 = .ok (.putfield 21, 3) := by decide +kernel
theorem dX3_init_32 : decode cX3_init 32 = .ok (.aload_n 0, 1) := by decide +kernel
theorem dX3_init_33 : decode cX3_init 33 = .ok (.bipush 7, 2) := by decide +kernel
theorem dX3_init_35 : decode cX3_init 35 = .ok (.newarray .int, 2) := by decide +kernel
theorem dX3_init_37 : decode cX3_init 37 = .ok (.putfield 24, 3) := by decide +kernel
theorem dX3_init_40 : decode cX3_init 40 = .ok (.aload_n 0, 1) := by decide +kernel
theorem dX3_init_41 : decode cX3_init 41 = .ok (.iconst 5, 1) := by decide +kernel
theorem dX3_init_42 : decode cX3_init 42 = .ok (.newarray .long, 2) := by decide +kernel
theorem dX3_init_44 : decode cX3_init 44 = .ok (.putfield 27, 3) := by decide +kernel
theorem dX3_init_47 : decode cX3_init 47 = .ok (.aload_n 0, 1) := by decide +kernel
theorem dX3_init_48 : decode cX3_init 48 = .ok (.iconst 0, 1) := by decide +kernel
theorem dX3_init_49 : decode cX3_init 49 = .ok (.putfield 31, 3) := by decide +kernel
theorem dX3_init_52 : decode cX3_init 52 = .ok (.aload_n 0, 1) := by decide +kernel
theorem dX3_init_53 : decode cX3_init 53 = .ok (.bipush (-9), 2) := by decide +kernel
theorem dX3_init_55 : decode cX3_init 55 = .ok (.putfield 35, 3) := by decide +kernel
theorem dX3_init_58 : decode cX3_init 58 = .ok (.aload_n 0, 1) := by decide +kernel
theorem dX3_init_59 : decode cX3_init 59 = .ok (.iconst 0, 1) := by decide +kernel
theorem dX3_init_60 : decode cX3_init 60 = .ok (.putfield 38, 3) := by decide +kernel
theorem dX3_init_63 : decode cX3_init 63 = .ok (.return_, 1) := by decide +kernel
theorem dX3_steps_0 : decode cX3_steps 0 = .ok (.aload_n 0, 1) := by decide +kernel
theorem dX3_steps_1 : decode cX3_steps 1 = .ok (.getfield 31, 3) := by decide +kernel
theorem dX3_steps_4 : decode cX3_steps 4 = .ok (.ireturn, 1) := by decide +kernel
theorem dX3_isStopped_0 : decode cX3_isStopped 0 = .ok (.aload_n 0, 1) := by decide +kernel
theorem dX3_isStopped_1 : decode cX3_isStopped 1 = .ok (.getfield 38, 3) := by decide +kernel
theorem dX3_isStopped_4 : decode cX3_isStopped 4 = .ok (.ireturn, 1) := by decide +kernel
theorem dX3_firstCaused_0 : decode cX3_firstCaused 0 = .ok (.aload_n 0, 1) := by decide +kernel
theorem dX3_firstCaused_1 : decode cX3_firstCaused 1 = .ok (.getfield 35, 3) := by decide +kernel
theorem dX3_firstCaused_4 : decode cX3_firstCaused 4 = .ok (.ireturn, 1) := by decide +kernel
theorem dX3_kindOf_0 : decode cX3_kindOf 0 = .ok (.getstatic 42, 3) := by decide +kernel
theorem dX3_kindOf_3 : decode cX3_kindOf 3 = .ok (.iload_n 1, 1) := by decide +kernel
theorem dX3_kindOf_4 : decode cX3_kindOf 4 = .ok (.iaload, 1) := by decide +kernel
theorem dX3_kindOf_5 : decode cX3_kindOf 5 = .ok (.ireturn, 1) := by decide +kernel
theorem dX3_stuffIn_0 : decode cX3_stuffIn 0 = .ok (.aload_n 0, 1) := by decide +kernel
theorem dX3_stuffIn_1 : decode cX3_stuffIn 1 = .ok (.getfield 9, 3) := by decide +kernel
theorem dX3_stuffIn_4 : decode cX3_stuffIn 4 = .ok (.iload_n 1, 1) := by decide +kernel
theorem dX3_stuffIn_5 : decode cX3_stuffIn 5 = .ok (.iaload, 1) := by decide +kernel
theorem dX3_stuffIn_6 : decode cX3_stuffIn 6 = .ok (.ireturn, 1) := by decide +kernel
theorem dX3_heatIn_0 : decode cX3_heatIn 0 = .ok (.aload_n 0, 1) := by decide +kernel
theorem dX3_heatIn_1 : decode cX3_heatIn 1 = .ok (.getfield 15, 3) := by decide +kernel
theorem dX3_heatIn_4 : decode cX3_heatIn 4 = .ok (.iload_n 1, 1) := by decide +kernel
theorem dX3_heatIn_5 : decode cX3_heatIn 5 = .ok (.iaload, 1) := by decide +kernel
theorem dX3_heatIn_6 : decode cX3_heatIn 6 = .ok (.ireturn, 1) := by decide +kernel
theorem dX3_latest_0 : decode cX3_latest 0 = .ok (.aload_n 0, 1) := by decide +kernel
theorem dX3_latest_1 : decode cX3_latest 1 = .ok (.getfield 24, 3) := by decide +kernel
theorem dX3_latest_4 : decode cX3_latest 4 = .ok (.iload_n 1, 1) := by decide +kernel
theorem dX3_latest_5 : decode cX3_latest 5 = .ok (.iaload, 1) := by decide +kernel
theorem dX3_latest_6 : decode cX3_latest 6 = .ok (.ireturn, 1) := by decide +kernel
theorem dX3_inAll_0 : decode cX3_inAll 0 = .ok (.aload_n 0, 1) := by decide +kernel
theorem dX3_inAll_1 : decode cX3_inAll 1 = .ok (.getfield 27, 3) := by decide +kernel
theorem dX3_inAll_4 : decode cX3_inAll 4 = .ok (.iload_n 1, 1) := by decide +kernel
theorem dX3_inAll_5 : decode cX3_inAll 5 = .ok (.laload, 1) := by decide +kernel
theorem dX3_inAll_6 : decode cX3_inAll 6 = .ok (.lreturn, 1) := by decide +kernel
theorem dX3_restart_0 : decode cX3_restart 0 = .ok (.aload_n 0, 1) := by decide +kernel
theorem dX3_restart_1 : decode cX3_restart 1 = .ok (.getfield 38, 3) := by decide +kernel
theorem dX3_restart_4 : decode cX3_restart 4 = .ok (.ifCond .ne 5, 3) := by decide +kernel
theorem dX3_restart_7 : decode cX3_restart 7 = .ok (.iconst 0, 1) := by decide +kernel
theorem dX3_restart_8 : decode cX3_restart 8 = .ok (.ireturn, 1) := by decide +kernel
theorem dX3_restart_9 : decode cX3_restart 9 = .ok (.aload_n 0, 1) := by decide +kernel
theorem dX3_restart_10 : decode cX3_restart 10 = .ok (.iconst 0, 1) := by decide +kernel
theorem dX3_restart_11 : decode cX3_restart 11 = .ok (.putfield 38, 3) := by decide +kernel
theorem dX3_restart_14 : decode cX3_restart 14 = .ok (.aload_n 0, 1) := by decide +kernel
theorem dX3_restart_15 : decode cX3_restart 15 = .ok (.bipush (-9), 2) := by decide +kernel
theorem dX3_restart_17 : decode cX3_restart 17 = .ok (.putfield 35, 3) := by decide +kernel
theorem dX3_restart_20 : decode cX3_restart 20 = .ok (.iconst 1, 1) := by decide +kernel
theorem dX3_restart_21 : decode cX3_restart 21 = .ok (.ireturn, 1) := by decide +kernel
theorem dX3_burn_0 : decode cX3_burn 0 = .ok (.aload_n 0, 1) := by decide +kernel
theorem dX3_burn_1 : decode cX3_burn 1 = .ok (.getfield 38, 3) := by decide +kernel
theorem dX3_burn_4 : decode cX3_burn 4 = .ok (.ifCond .eq 7, 3) := by decide +kernel
theorem dX3_burn_7 : decode cX3_burn 7 = .ok (.iconst 0, 1) := by decide +kernel
theorem dX3_burn_8 : decode cX3_burn 8 = .ok (.goto 4, 3) := by decide +kernel
theorem dX3_burn_11 : decode cX3_burn 11 = .ok (.iload_n 2, 1) := by decide +kernel
theorem dX3_burn_12 : decode cX3_burn 12 = .ok (.istore 4, 2) := by decide +kernel
theorem dX3_burn_14 : decode cX3_burn 14 = .ok (.aload_n 0, 1) := by decide +kernel
theorem dX3_burn_15 : decode cX3_burn 15 = .ok (.getfield 24, 3) := by decide +kernel
theorem dX3_burn_18 : decode cX3_burn 18 = .ok (.bipush 6, 2) := by decide +kernel
theorem dX3_burn_20 : decode cX3_burn 20 = .ok (.aload_n 0, 1) := by decide +kernel
theorem dX3_burn_21 : decode cX3_burn 21 = .ok (.iload 4, 2) := by decide +kernel
theorem dX3_burn_23 : decode cX3_burn 23 = .ok (.invokevirtual 45, 3) := by decide +kernel
theorem dX3_burn_26 : decode cX3_burn 26 = .ok (.iastore, 1) := by decide +kernel
theorem dX3_burn_27 : decode cX3_burn 27 = .ok (.aload_n 0, 1) := by decide +kernel
theorem dX3_burn_28 : decode cX3_burn 28 = .ok (.iload_n 3, 1) := by decide +kernel
theorem dX3_burn_29 : decode cX3_burn 29 = .ok (.invokevirtual 49, 3) := by decide +kernel
theorem dX3_burn_32 : decode cX3_burn 32 = .ok (.aload_n 0, 1) := by decide +kernel
theorem dX3_burn_33 : decode cX3_burn 33 = .ok (.getfield 9, 3) := by decide +kernel
theorem dX3_burn_36 : decode cX3_burn 36 = .ok (.iconst 0, 1) := by decide +kernel
theorem dX3_burn_37 : decode cX3_burn 37 = .ok (.dup2, 1) := by decide +kernel
theorem dX3_burn_38 : decode cX3_burn 38 = .ok (.iaload, 1) := by decide +kernel
theorem dX3_burn_39 : decode cX3_burn 39 = .ok (.iload_n 1, 1) := by decide +kernel
theorem dX3_burn_40 : decode cX3_burn 40 = .ok (.iadd, 1) := by decide +kernel
theorem dX3_burn_41 : decode cX3_burn 41 = .ok (.iastore, 1) := by decide +kernel
theorem dX3_burn_42 : decode cX3_burn 42 = .ok (.aload_n 0, 1) := by decide +kernel
theorem dX3_burn_43 : decode cX3_burn 43 = .ok (.invokevirtual 53, 3) := by decide +kernel
theorem dX3_burn_46 : decode cX3_burn 46 = .ok (.aload_n 0, 1) := by decide +kernel
theorem dX3_burn_47 : decode cX3_burn 47 = .ok (.iload 4, 2) := by decide +kernel
theorem dX3_burn_49 : decode cX3_burn 49 = .ok (.invokevirtual 56, 3) := by decide +kernel
theorem dX3_burn_52 : decode cX3_burn 52 = .ok (.aload_n 0, 1) := by decide +kernel
theorem dX3_burn_53 : decode cX3_burn 53 = .ok (.iload_n 1, 1) := by decide +kernel
theorem dX3_burn_54 : decode cX3_burn 54 = .ok (.iload 4, 2) := by decide +kernel
theorem dX3_burn_56 : decode cX3_burn 56 = .ok (.invokevirtual 59, 3) := by decide +kernel
theorem dX3_burn_59 : decode cX3_burn 59 = .ok (.aload_n 0, 1) := by decide +kernel
theorem dX3_burn_60 : decode cX3_burn 60 = .ok (.getfield 24, 3) := by decide +kernel
theorem dX3_burn_63 : decode cX3_burn 63 = .ok (.iconst 4, 1) := by decide +kernel
theorem dX3_burn_64 : decode cX3_burn 64 = .ok (.iaload, 1) := by decide +kernel
theorem dX3_burn_65 : decode cX3_burn 65 = .ok (.ifCond .eq 20, 3) := by decide +kernel
theorem dX3_burn_68 : decode cX3_burn 68 = .ok (.aload_n 0, 1) := by decide +kernel
theorem dX3_burn_69 : decode cX3_burn 69 = .ok (.getfield 35, 3) := by decide +kernel
theorem dX3_burn_72 : decode cX3_burn 72 = .ok (.bipush (-9), 2) := by decide +kernel
theorem dX3_burn_74 : decode cX3_burn 74 = .ok (.if_icmp .ne 11, 3) := by decide +kernel
theorem dX3_burn_77 : decode cX3_burn 77 = .ok (.aload_n 0, 1) := by decide +kernel
theorem dX3_burn_78 : decode cX3_burn 78 = .ok (.aload_n 0, 1) := by decide +kernel
theorem dX3_burn_79 : decode cX3_burn 79 = .ok (.getfield 31, 3) := by decide +kernel
theorem dX3_burn_82 : decode cX3_burn 82 = .ok (.putfield 35, 3) := by decide +kernel
theorem dX3_burn_85 : decode cX3_burn 85 = .ok (.aload_n 0, 1) := by decide +kernel
theorem dX3_burn_86 : decode cX3_burn 86 = .ok (.dup, 1) := by decide +kernel
theorem dX3_burn_87 : decode cX3_burn 87 = .ok (.getfield 31, 3) := by decide +kernel
theorem dX3_burn_90 : decode cX3_burn 90 = .ok (.iconst 1, 1) := by decide +kernel
theorem dX3_burn_91 : decode cX3_burn 91 = .ok (.iadd, 1) := by decide +kernel
theorem dX3_burn_92 : decode cX3_burn 92 = .ok (.putfield 31, 3) := by decide +kernel
theorem dX3_burn_95 : decode cX3_burn 95 = .ok (.aload_n 0, 1) := by decide +kernel
theorem dX3_burn_96 : decode cX3_burn 96 = .ok (.getfield 24, 3) := by decide +kernel
theorem dX3_burn_99 : decode cX3_burn 99 = .ok (.iconst 4, 1) := by decide +kernel
theorem dX3_burn_100 : decode cX3_burn 100 = .ok (.iaload, 1) := by decide +kernel
theorem dX3_burn_101 : decode cX3_burn 101 = .ok (.ireturn, 1) := by decide +kernel
theorem dX3_passGas_0 : decode cX3_passGas 0 = .ok (.iload_n 1, 1) := by decide +kernel
theorem dX3_passGas_1 : decode cX3_passGas 1 = .ok (.istore_n 2, 1) := by decide +kernel
theorem dX3_passGas_2 : decode cX3_passGas 2 = .ok (.iconst 0, 1) := by decide +kernel
theorem dX3_passGas_3 : decode cX3_passGas 3 = .ok (.istore_n 3, 1) := by decide +kernel
theorem dX3_passGas_4 : decode cX3_passGas 4 = .ok (.iload_n 3, 1) := by decide +kernel
theorem dX3_passGas_5 : decode cX3_passGas 5 = .ok (.iconst 4, 1) := by decide +kernel
theorem dX3_passGas_6 : decode cX3_passGas 6 = .ok (.if_icmp .ge 45, 3) := by decide +kernel
theorem dX3_passGas_9 : decode cX3_passGas 9 = .ok (.getstatic 42, 3) := by decide +kernel
theorem dX3_passGas_12 : decode cX3_passGas 12 = .ok (.iload_n 3, 1) := by decide +kernel
theorem dX3_passGas_13 : decode cX3_passGas 13 = .ok (.iaload, 1) := by decide +kernel
theorem dX3_passGas_14 : decode cX3_passGas 14 = .ok (.iconst 2, 1) := by decide +kernel
theorem dX3_passGas_15 : decode cX3_passGas 15 = .ok (.if_icmp .ne 30, 3) := by decide +kernel
theorem dX3_passGas_18 : decode cX3_passGas 18 = .ok (.aload_n 0, 1) := by decide +kernel
theorem dX3_passGas_19 : decode cX3_passGas 19 = .ok (.getfield 15, 3) := by decide +kernel
theorem dX3_passGas_22 : decode cX3_passGas 22 = .ok (.iload_n 3, 1) := by decide +kernel
theorem dX3_passGas_23 : decode cX3_passGas 23 = .ok (.iaload, 1) := by decide +kernel
theorem dX3_passGas_24 : decode cX3_passGas 24 = .ok (.bipush 10, 2) := by decide +kernel
theorem dX3_passGas_26 : decode cX3_passGas 26 = .ok (.idiv, 1) := by decide +kernel
theorem dX3_passGas_27 : decode cX3_passGas 27 = .ok (.istore 4, 2) := by decide +kernel
theorem dX3_passGas_29 : decode cX3_passGas 29 = .ok (.aload_n 0, 1) := by decide +kernel
theorem dX3_passGas_30 : decode cX3_passGas 30 = .ok (.getfield 15, 3) := by decide +kernel
theorem dX3_passGas_33 : decode cX3_passGas 33 = .ok (.iload_n 3, 1) := by decide +kernel
theorem dX3_passGas_34 : decode cX3_passGas 34 = .ok (.dup2, 1) := by decide +kernel
theorem dX3_passGas_35 : decode cX3_passGas 35 = .ok (.iaload, 1) := by decide +kernel
theorem dX3_passGas_36 : decode cX3_passGas 36 = .ok (.iload 4, 2) := by decide +kernel
theorem dX3_passGas_38 : decode cX3_passGas 38 = .ok (.isub, 1) := by decide +kernel
theorem dX3_passGas_39 : decode cX3_passGas 39 = .ok (.iastore, 1) := by decide +kernel
theorem dX3_passGas_40 : decode cX3_passGas 40 = .ok (.iload_n 2, 1) := by decide +kernel
theorem dX3_passGas_41 : decode cX3_passGas 41 = .ok (.iload 4, 2) := by decide +kernel
theorem dX3_passGas_43 : decode cX3_passGas 43 = .ok (.iadd, 1) := by decide +kernel
theorem dX3_passGas_44 : decode cX3_passGas 44 = .ok (.istore_n 2, 1) := by decide +kernel
theorem dX3_passGas_45 : decode cX3_passGas 45 = .ok (.iinc 3 1, 3) := by decide +kernel
theorem dX3_passGas_48 : decode cX3_passGas 48 = .ok (.goto (-44), 3) := by decide +kernel
theorem dX3_passGas_51 : decode cX3_passGas 51 = .ok (.iconst 2, 1) := by decide +kernel
theorem dX3_passGas_52 : decode cX3_passGas 52 = .ok (.istore_n 3, 1) := by decide +kernel
theorem dX3_passGas_53 : decode cX3_passGas 53 = .ok (.iload_n 3, 1) := by decide +kernel
theorem dX3_passGas_54 : decode cX3_passGas 54 = .ok (.ifCond .lt 45, 3) := by decide +kernel
theorem dX3_passGas_57 : decode cX3_passGas 57 = .ok (.getstatic 42, 3) := by decide +kernel
theorem dX3_passGas_60 : decode cX3_passGas 60 = .ok (.iload_n 3, 1) := by decide +kernel
theorem dX3_passGas_61 : decode cX3_passGas 61 = .ok (.iaload, 1) := by decide +kernel
theorem dX3_passGas_62 : decode cX3_passGas 62 = .ok (.iconst 1, 1) := by decide +kernel
theorem dX3_passGas_63 : decode cX3_passGas 63 = .ok (.if_icmp .ne 9, 3) := by decide +kernel
theorem dX3_passGas_66 : decode cX3_passGas 66 = .ok (.iload_n 2, 1) := by decide +kernel
theorem dX3_passGas_67 : decode cX3_passGas 67 = .ok (.iconst 2, 1) := by decide +kernel
theorem dX3_passGas_68 : decode cX3_passGas 68 = .ok (.idiv, 1) := by decide +kernel
theorem dX3_passGas_69 : decode cX3_passGas 69 = .ok (.goto 6, 3) := by decide +kernel
theorem dX3_passGas_72 : decode cX3_passGas 72 = .ok (.iload_n 2, 1) := by decide +kernel
theorem dX3_passGas_73 : decode cX3_passGas 73 = .ok (.iconst 4, 1) := by decide +kernel
theorem dX3_passGas_74 : decode cX3_passGas 74 = .ok (.idiv, 1) := by decide +kernel
theorem dX3_passGas_75 : decode cX3_passGas 75 = .ok (.istore 4, 2) := by decide +kernel
theorem dX3_passGas_77 : decode cX3_passGas 77 = .ok (.aload_n 0, 1) := by decide +kernel
theorem dX3_passGas_78 : decode cX3_passGas 78 = .ok (.getfield 15, 3) := by decide +kernel
theorem dX3_passGas_81 : decode cX3_passGas 81 = .ok (.iload_n 3, 1) := by decide +kernel
theorem dX3_passGas_82 : decode cX3_passGas 82 = .ok (.dup2, 1) := by decide +kernel
theorem dX3_passGas_83 : decode cX3_passGas 83 = .ok (.iaload, 1) := by decide +kernel
theorem dX3_passGas_84 : decode cX3_passGas 84 = .ok (.iload 4, 2) := by decide +kernel
theorem dX3_passGas_86 : decode cX3_passGas 86 = .ok (.iadd, 1) := by decide +kernel
theorem dX3_passGas_87 : decode cX3_passGas 87 = .ok (.iastore, 1) := by decide +kernel
theorem dX3_passGas_88 : decode cX3_passGas 88 = .ok (.iload_n 2, 1) := by decide +kernel
theorem dX3_passGas_89 : decode cX3_passGas 89 = .ok (.iload 4, 2) := by decide +kernel
theorem dX3_passGas_91 : decode cX3_passGas 91 = .ok (.isub, 1) := by decide +kernel
theorem dX3_passGas_92 : decode cX3_passGas 92 = .ok (.istore_n 2, 1) := by decide +kernel
theorem dX3_passGas_93 : decode cX3_passGas 93 = .ok (.iinc 3 (-1), 3) := by decide +kernel
theorem dX3_passGas_96 : decode cX3_passGas 96 = .ok (.goto (-43), 3) := by decide +kernel
theorem dX3_passGas_99 : decode cX3_passGas 99 = .ok (.iload_n 2, 1) := by decide +kernel
theorem dX3_passGas_100 : decode cX3_passGas 100 = .ok (.ireturn, 1) := by decide +kernel
theorem dX3_handOn_0 : decode cX3_handOn 0 = .ok (.iconst 0, 1) := by decide +kernel
theorem dX3_handOn_1 : decode cX3_handOn 1 = .ok (.istore_n 2, 1) := by decide +kernel
theorem dX3_handOn_2 : decode cX3_handOn 2 = .ok (.iload_n 2, 1) := by decide +kernel
theorem dX3_handOn_3 : decode cX3_handOn 3 = .ok (.iconst 4, 1) := by decide +kernel
theorem dX3_handOn_4 : decode cX3_handOn 4 = .ok (.if_icmp .ge 73, 3) := by decide +kernel
theorem dX3_handOn_7 : decode cX3_handOn 7 = .ok (.aload_n 0, 1) := by decide +kernel
theorem dX3_handOn_8 : decode cX3_handOn 8 = .ok (.getfield 18, 3) := by decide +kernel
theorem dX3_handOn_11 : decode cX3_handOn 11 = .ok (.iload_n 2, 1) := by decide +kernel
theorem dX3_handOn_12 : decode cX3_handOn 12 = .ok (.aload_n 0, 1) := by decide +kernel
theorem dX3_handOn_13 : decode cX3_handOn 13 = .ok (.getfield 9, 3) := by decide +kernel
theorem dX3_handOn_16 : decode cX3_handOn 16 = .ok (.iload_n 2, 1) := by decide +kernel
theorem dX3_handOn_17 : decode cX3_handOn 17 = .ok (.iaload, 1) := by decide +kernel
theorem dX3_handOn_18 : decode cX3_handOn 18 = .ok (.i2l, 1) := by decide +kernel
theorem dX3_handOn_19 : decode cX3_handOn 19 = .ok (.iload_n 1, 1) := by decide +kernel
theorem dX3_handOn_20 : decode cX3_handOn 20 = .ok (.i2l, 1) := by decide +kernel
theorem dX3_handOn_21 : decode cX3_handOn 21 = .ok (.lmul, 1) := by decide +kernel
theorem dX3_handOn_22 : decode cX3_handOn 22 = .ok (.ldc2_w 63, 3) := by decide +kernel
theorem dX3_handOn_25 : decode cX3_handOn 25 = .ok (.ldiv, 1) := by decide +kernel
theorem dX3_handOn_26 : decode cX3_handOn 26 = .ok (.l2i, 1) := by decide +kernel
theorem dX3_handOn_27 : decode cX3_handOn 27 = .ok (.iastore, 1) := by decide +kernel
theorem dX3_handOn_28 : decode cX3_handOn 28 = .ok (.aload_n 0, 1) := by decide +kernel
theorem dX3_handOn_29 : decode cX3_handOn 29 = .ok (.getfield 21, 3) := by decide +kernel
theorem dX3_handOn_32 : decode cX3_handOn 32 = .ok (.iload_n 2, 1) := by decide +kernel
theorem dX3_handOn_33 : decode cX3_handOn 33 = .ok (.aload_n 0, 1) := by decide +kernel
theorem dX3_handOn_34 : decode cX3_handOn 34 = .ok (.getfield 9, 3) := by decide +kernel
theorem dX3_handOn_37 : decode cX3_handOn 37 = .ok (.iload_n 2, 1) := by decide +kernel
theorem dX3_handOn_38 : decode cX3_handOn 38 = .ok (.iaload, 1) := by decide +kernel
theorem dX3_handOn_39 : decode cX3_handOn 39 = .ok (.ifCond .ne 7, 3) := by decide +kernel
theorem dX3_handOn_42 : decode cX3_handOn 42 = .ok (.iconst 0, 1) := by decide +kernel
theorem dX3_handOn_43 : decode cX3_handOn 43 = .ok (.goto 27, 3) := by decide +kernel
theorem dX3_handOn_46 : decode cX3_handOn 46 = .ok (.aload_n 0, 1) := by decide +kernel
theorem dX3_handOn_47 : decode cX3_handOn 47 = .ok (.getfield 15, 3) := by decide +kernel
theorem dX3_handOn_50 : decode cX3_handOn 50 = .ok (.iload_n 2, 1) := by decide +kernel
theorem dX3_handOn_51 : decode cX3_handOn 51 = .ok (.iaload, 1) := by decide +kernel
theorem dX3_handOn_52 : decode cX3_handOn 52 = .ok (.i2l, 1) := by decide +kernel
theorem dX3_handOn_53 : decode cX3_handOn 53 = .ok (.aload_n 0, 1) := by decide +kernel
theorem dX3_handOn_54 : decode cX3_handOn 54 = .ok (.getfield 18, 3) := by decide +kernel
theorem dX3_handOn_57 : decode cX3_handOn 57 = .ok (.iload_n 2, 1) := by decide +kernel
theorem dX3_handOn_58 : decode cX3_handOn 58 = .ok (.iaload, 1) := by decide +kernel
theorem dX3_handOn_59 : decode cX3_handOn 59 = .ok (.i2l, 1) := by decide +kernel
theorem dX3_handOn_60 : decode cX3_handOn 60 = .ok (.lmul, 1) := by decide +kernel
theorem dX3_handOn_61 : decode cX3_handOn 61 = .ok (.aload_n 0, 1) := by decide +kernel
theorem dX3_handOn_62 : decode cX3_handOn 62 = .ok (.getfield 9, 3) := by decide +kernel
theorem dX3_handOn_65 : decode cX3_handOn 65 = .ok (.iload_n 2, 1) := by decide +kernel
theorem dX3_handOn_66 : decode cX3_handOn 66 = .ok (.iaload, 1) := by decide +kernel
theorem dX3_handOn_67 : decode cX3_handOn 67 = .ok (.i2l, 1) := by decide +kernel
theorem dX3_handOn_68 : decode cX3_handOn 68 = .ok (.ldiv, 1) := by decide +kernel
theorem dX3_handOn_69 : decode cX3_handOn 69 = .ok (.l2i, 1) := by decide +kernel
theorem dX3_handOn_70 : decode cX3_handOn 70 = .ok (.iastore, 1) := by decide +kernel
theorem dX3_handOn_71 : decode cX3_handOn 71 = .ok (.iinc 2 1, 3) := by decide +kernel
theorem dX3_handOn_74 : decode cX3_handOn 74 = .ok (.goto (-72), 3) := by decide +kernel
theorem dX3_handOn_77 : decode cX3_handOn 77 = .ok (.iconst 0, 1) := by decide +kernel
theorem dX3_handOn_78 : decode cX3_handOn 78 = .ok (.istore_n 2, 1) := by decide +kernel
theorem dX3_handOn_79 : decode cX3_handOn 79 = .ok (.iload_n 2, 1) := by decide +kernel
theorem dX3_handOn_80 : decode cX3_handOn 80 = .ok (.iconst 4, 1) := by decide +kernel
theorem dX3_handOn_81 : decode cX3_handOn 81 = .ok (.if_icmp .ge 77, 3) := by decide +kernel
theorem dX3_handOn_84 : decode cX3_handOn 84 = .ok (.aload_n 0, 1) := by decide +kernel
theorem dX3_handOn_85 : decode cX3_handOn 85 = .ok (.getfield 9, 3) := by decide +kernel
theorem dX3_handOn_88 : decode cX3_handOn 88 = .ok (.iload_n 2, 1) := by decide +kernel
theorem dX3_handOn_89 : decode cX3_handOn 89 = .ok (.dup2, 1) := by decide +kernel
theorem dX3_handOn_90 : decode cX3_handOn 90 = .ok (.iaload, 1) := by decide +kernel
theorem dX3_handOn_91 : decode cX3_handOn 91 = .ok (.aload_n 0, 1) := by decide +kernel
theorem dX3_handOn_92 : decode cX3_handOn 92 = .ok (.getfield 18, 3) := by decide +kernel
theorem dX3_handOn_95 : decode cX3_handOn 95 = .ok (.iload_n 2, 1) := by decide +kernel
theorem dX3_handOn_96 : decode cX3_handOn 96 = .ok (.iaload, 1) := by decide +kernel
theorem dX3_handOn_97 : decode cX3_handOn 97 = .ok (.isub, 1) := by decide +kernel
theorem dX3_handOn_98 : decode cX3_handOn 98 = .ok (.iastore, 1) := by decide +kernel
theorem dX3_handOn_99 : decode cX3_handOn 99 = .ok (.aload_n 0, 1) := by decide +kernel
theorem dX3_handOn_100 : decode cX3_handOn 100 = .ok (.getfield 15, 3) := by decide +kernel
theorem dX3_handOn_103 : decode cX3_handOn 103 = .ok (.iload_n 2, 1) := by decide +kernel
theorem dX3_handOn_104 : decode cX3_handOn 104 = .ok (.dup2, 1) := by decide +kernel
theorem dX3_handOn_105 : decode cX3_handOn 105 = .ok (.iaload, 1) := by decide +kernel
theorem dX3_handOn_106 : decode cX3_handOn 106 = .ok (.aload_n 0, 1) := by decide +kernel
theorem dX3_handOn_107 : decode cX3_handOn 107 = .ok (.getfield 21, 3) := by decide +kernel
theorem dX3_handOn_110 : decode cX3_handOn 110 = .ok (.iload_n 2, 1) := by decide +kernel
theorem dX3_handOn_111 : decode cX3_handOn 111 = .ok (.iaload, 1) := by decide +kernel
theorem dX3_handOn_112 : decode cX3_handOn 112 = .ok (.isub, 1) := by decide +kernel
theorem dX3_handOn_113 : decode cX3_handOn 113 = .ok (.iastore, 1) := by decide +kernel
theorem dX3_handOn_114 : decode cX3_handOn 114 = .ok (.iload_n 2, 1) := by decide +kernel
theorem dX3_handOn_115 : decode cX3_handOn 115 = .ok (.ifCond .le 37, 3) := by decide +kernel
theorem dX3_handOn_118 : decode cX3_handOn 118 = .ok (.aload_n 0, 1) := by decide +kernel
theorem dX3_handOn_119 : decode cX3_handOn 119 = .ok (.getfield 9, 3) := by decide +kernel
theorem dX3_handOn_122 : decode cX3_handOn 122 = .ok (.iload_n 2, 1) := by decide +kernel
theorem dX3_handOn_123 : decode cX3_handOn 123 = .ok (.dup2, 1) := by decide +kernel
theorem dX3_handOn_124 : decode cX3_handOn 124 = .ok (.iaload, 1) := by decide +kernel
theorem dX3_handOn_125 : decode cX3_handOn 125 = .ok (.aload_n 0, 1) := by decide +kernel
theorem dX3_handOn_126 : decode cX3_handOn 126 = .ok (.getfield 18, 3) := by decide +kernel
theorem dX3_handOn_129 : decode cX3_handOn 129 = .ok (.iload_n 2, 1) := by decide +kernel
theorem dX3_handOn_130 : decode cX3_handOn 130 = .ok (.iconst 1, 1) := by decide +kernel
theorem dX3_handOn_131 : decode cX3_handOn 131 = .ok (.isub, 1) := by decide +kernel
theorem dX3_handOn_132 : decode cX3_handOn 132 = .ok (.iaload, 1) := by decide +kernel
theorem dX3_handOn_133 : decode cX3_handOn 133 = .ok (.iadd, 1) := by decide +kernel
theorem dX3_handOn_134 : decode cX3_handOn 134 = .ok (.iastore, 1) := by decide +kernel
theorem dX3_handOn_135 : decode cX3_handOn 135 = .ok (.aload_n 0, 1) := by decide +kernel
theorem dX3_handOn_136 : decode cX3_handOn 136 = .ok (.getfield 15, 3) := by decide +kernel
theorem dX3_handOn_139 : decode cX3_handOn 139 = .ok (.iload_n 2, 1) := by decide +kernel
theorem dX3_handOn_140 : decode cX3_handOn 140 = .ok (.dup2, 1) := by decide +kernel
theorem dX3_handOn_141 : decode cX3_handOn 141 = .ok (.iaload, 1) := by decide +kernel
theorem dX3_handOn_142 : decode cX3_handOn 142 = .ok (.aload_n 0, 1) := by decide +kernel
theorem dX3_handOn_143 : decode cX3_handOn 143 = .ok (.getfield 21, 3) := by decide +kernel
theorem dX3_handOn_146 : decode cX3_handOn 146 = .ok (.iload_n 2, 1) := by decide +kernel
theorem dX3_handOn_147 : decode cX3_handOn 147 = .ok (.iconst 1, 1) := by decide +kernel
theorem dX3_handOn_148 : decode cX3_handOn 148 = .ok (.isub, 1) := by decide +kernel
theorem dX3_handOn_149 : decode cX3_handOn 149 = .ok (.iaload, 1) := by decide +kernel
theorem dX3_handOn_150 : decode cX3_handOn 150 = .ok (.iadd, 1) := by decide +kernel
theorem dX3_handOn_151 : decode cX3_handOn 151 = .ok (.iastore, 1) := by decide +kernel
theorem dX3_handOn_152 : decode cX3_handOn 152 = .ok (.iinc 2 1, 3) := by decide +kernel
theorem dX3_handOn_155 : decode cX3_handOn 155 = .ok (.goto (-76), 3) := by decide +kernel
theorem dX3_handOn_158 : decode cX3_handOn 158 = .ok (.return_, 1) := by decide +kernel
theorem dX3_tellOut_0 : decode cX3_tellOut 0 = .ok (.aload_n 0, 1) := by decide +kernel
theorem dX3_tellOut_1 : decode cX3_tellOut 1 = .ok (.getfield 18, 3) := by decide +kernel
theorem dX3_tellOut_4 : decode cX3_tellOut 4 = .ok (.iconst 3, 1) := by decide +kernel
theorem dX3_tellOut_5 : decode cX3_tellOut 5 = .ok (.iaload, 1) := by decide +kernel
theorem dX3_tellOut_6 : decode cX3_tellOut 6 = .ok (.istore_n 1, 1) := by decide +kernel
theorem dX3_tellOut_7 : decode cX3_tellOut 7 = .ok (.iload_n 1, 1) := by decide +kernel
theorem dX3_tellOut_8 : decode cX3_tellOut 8 = .ok (.ifCond .ne 7, 3) := by decide +kernel
theorem dX3_tellOut_11 : decode cX3_tellOut 11 = .ok (.iconst 0, 1) := by decide +kernel
theorem dX3_tellOut_12 : decode cX3_tellOut 12 = .ok (.goto 11, 3) := by decide +kernel
theorem dX3_tellOut_15 : decode cX3_tellOut 15 = .ok (.aload_n 0, 1) := by decide +kernel
theorem dX3_tellOut_16 : decode cX3_tellOut 16 = .ok (.getfield 21, 3) := by decide +kernel
theorem dX3_tellOut_19 : decode cX3_tellOut 19 = .ok (.iconst 3, 1) := by decide +kernel
theorem dX3_tellOut_20 : decode cX3_tellOut 20 = .ok (.iaload, 1) := by decide +kernel
theorem dX3_tellOut_21 : decode cX3_tellOut 21 = .ok (.iload_n 1, 1) := by decide +kernel
theorem dX3_tellOut_22 : decode cX3_tellOut 22 = .ok (.idiv, 1) := by decide +kernel
theorem dX3_tellOut_23 : decode cX3_tellOut 23 = .ok (.istore_n 2, 1) := by decide +kernel
theorem dX3_tellOut_24 : decode cX3_tellOut 24 = .ok (.aload_n 0, 1) := by decide +kernel
theorem dX3_tellOut_25 : decode cX3_tellOut 25 = .ok (.getfield 24, 3) := by decide +kernel
theorem dX3_tellOut_28 : decode cX3_tellOut 28 = .ok (.iconst 0, 1) := by decide +kernel
theorem dX3_tellOut_29 : decode cX3_tellOut 29 = .ok (.iload_n 1, 1) := by decide +kernel
theorem dX3_tellOut_30 : decode cX3_tellOut 30 = .ok (.iastore, 1) := by decide +kernel
theorem dX3_tellOut_31 : decode cX3_tellOut 31 = .ok (.aload_n 0, 1) := by decide +kernel
theorem dX3_tellOut_32 : decode cX3_tellOut 32 = .ok (.getfield 24, 3) := by decide +kernel
theorem dX3_tellOut_35 : decode cX3_tellOut 35 = .ok (.iconst 1, 1) := by decide +kernel
theorem dX3_tellOut_36 : decode cX3_tellOut 36 = .ok (.aload_n 0, 1) := by decide +kernel
theorem dX3_tellOut_37 : decode cX3_tellOut 37 = .ok (.getfield 21, 3) := by decide +kernel
theorem dX3_tellOut_40 : decode cX3_tellOut 40 = .ok (.iconst 3, 1) := by decide +kernel
theorem dX3_tellOut_41 : decode cX3_tellOut 41 = .ok (.iaload, 1) := by decide +kernel
theorem dX3_tellOut_42 : decode cX3_tellOut 42 = .ok (.iastore, 1) := by decide +kernel
theorem dX3_tellOut_43 : decode cX3_tellOut 43 = .ok (.aload_n 0, 1) := by decide +kernel
theorem dX3_tellOut_44 : decode cX3_tellOut 44 = .ok (.getfield 24, 3) := by decide +kernel
theorem dX3_tellOut_47 : decode cX3_tellOut 47 = .ok (.iconst 2, 1) := by decide +kernel
theorem dX3_tellOut_48 : decode cX3_tellOut 48 = .ok (.iload_n 2, 1) := by decide +kernel
theorem dX3_tellOut_49 : decode cX3_tellOut 49 = .ok (.iastore, 1) := by decide +kernel
theorem dX3_tellOut_50 : decode cX3_tellOut 50 = .ok (.aload_n 0, 1) := by decide +kernel
theorem dX3_tellOut_51 : decode cX3_tellOut 51 = .ok (.getfield 24, 3) := by decide +kernel
theorem dX3_tellOut_54 : decode cX3_tellOut 54 = .ok (.iconst 3, 1) := by decide +kernel
theorem dX3_tellOut_55 : decode cX3_tellOut 55 = .ok (.iload_n 2, 1) := by decide +kernel
theorem dX3_tellOut_56 : decode cX3_tellOut 56 = .ok (.bipush 60, 2) := by decide +kernel
theorem dX3_tellOut_58 : decode cX3_tellOut 58 = .ok (.if_icmp .lt 7, 3) := by decide +kernel
theorem dX3_tellOut_61 : decode cX3_tellOut 61 = .ok (.iconst 2, 1) := by decide +kernel
theorem dX3_tellOut_62 : decode cX3_tellOut 62 = .ok (.goto 14, 3) := by decide +kernel
theorem dX3_tellOut_65 : decode cX3_tellOut 65 = .ok (.iload_n 2, 1) := by decide +kernel
theorem dX3_tellOut_66 : decode cX3_tellOut 66 = .ok (.bipush 30, 2) := by decide +kernel
theorem dX3_tellOut_68 : decode cX3_tellOut 68 = .ok (.if_icmp .lt 7, 3) := by decide +kernel
theorem dX3_tellOut_71 : decode cX3_tellOut 71 = .ok (.iconst 1, 1) := by decide +kernel
theorem dX3_tellOut_72 : decode cX3_tellOut 72 = .ok (.goto 4, 3) := by decide +kernel
theorem dX3_tellOut_75 : decode cX3_tellOut 75 = .ok (.iconst 0, 1) := by decide +kernel
theorem dX3_tellOut_76 : decode cX3_tellOut 76 = .ok (.iastore, 1) := by decide +kernel
theorem dX3_tellOut_77 : decode cX3_tellOut 77 = .ok (.return_, 1) := by decide +kernel
theorem dX3_findCause_0 : decode cX3_findCause 0 = .ok (.aload_n 0, 1) := by decide +kernel
theorem dX3_findCause_1 : decode cX3_findCause 1 = .ok (.invokevirtual 65, 3) := by decide +kernel
theorem dX3_findCause_4 : decode cX3_findCause 4 = .ok (.istore_n 2, 1) := by decide +kernel
theorem dX3_findCause_5 : decode cX3_findCause 5 = .ok (.aload_n 0, 1) := by decide +kernel
theorem dX3_findCause_6 : decode cX3_findCause 6 = .ok (.invokevirtual 69, 3) := by decide +kernel
theorem dX3_findCause_9 : decode cX3_findCause 9 = .ok (.istore_n 3, 1) := by decide +kernel
theorem dX3_findCause_10 : decode cX3_findCause 10 = .ok (.iload_n 2, 1) := by decide +kernel
theorem dX3_findCause_11 : decode cX3_findCause 11 = .ok (.bipush (-9), 2) := by decide +kernel
theorem dX3_findCause_13 : decode cX3_findCause 13 = .ok (.if_icmp .eq 12, 3) := by decide +kernel
theorem dX3_findCause_16 : decode cX3_findCause 16 = .ok (.aload_n 0, 1) := by decide +kernel
theorem dX3_findCause_17 : decode cX3_findCause 17 = .ok (.iconst 1, 1) := by decide +kernel
theorem dX3_findCause_18 : decode cX3_findCause 18 = .ok (.iload_n 2, 1) := by decide +kernel
theorem dX3_findCause_19 : decode cX3_findCause 19 = .ok (.invokevirtual 72, 3) := by decide +kernel
theorem dX3_findCause_22 : decode cX3_findCause 22 = .ok (.goto 74, 3) := by decide +kernel
theorem dX3_findCause_25 : decode cX3_findCause 25 = .ok (.iload_n 3, 1) := by decide +kernel
theorem dX3_findCause_26 : decode cX3_findCause 26 = .ok (.bipush (-9), 2) := by decide +kernel
theorem dX3_findCause_28 : decode cX3_findCause 28 = .ok (.if_icmp .eq 12, 3) := by decide +kernel
theorem dX3_findCause_31 : decode cX3_findCause 31 = .ok (.aload_n 0, 1) := by decide +kernel
theorem dX3_findCause_32 : decode cX3_findCause 32 = .ok (.iconst 2, 1) := by decide +kernel
theorem dX3_findCause_33 : decode cX3_findCause 33 = .ok (.iload_n 3, 1) := by decide +kernel
theorem dX3_findCause_34 : decode cX3_findCause 34 = .ok (.invokevirtual 72, 3) := by decide +kernel
theorem dX3_findCause_37 : decode cX3_findCause 37 = .ok (.goto 59, 3) := by decide +kernel
theorem dX3_findCause_40 : decode cX3_findCause 40 = .ok (.aload_n 0, 1) := by decide +kernel
theorem dX3_findCause_41 : decode cX3_findCause 41 = .ok (.getfield 24, 3) := by decide +kernel
theorem dX3_findCause_44 : decode cX3_findCause 44 = .ok (.iconst 0, 1) := by decide +kernel
theorem dX3_findCause_45 : decode cX3_findCause 45 = .ok (.iaload, 1) := by decide +kernel
theorem dX3_findCause_46 : decode cX3_findCause 46 = .ok (.ifCond .le 21, 3) := by decide +kernel
theorem dX3_findCause_49 : decode cX3_findCause 49 = .ok (.aload_n 0, 1) := by decide +kernel
theorem dX3_findCause_50 : decode cX3_findCause 50 = .ok (.getfield 24, 3) := by decide +kernel
theorem dX3_findCause_53 : decode cX3_findCause 53 = .ok (.iconst 3, 1) := by decide +kernel
theorem dX3_findCause_54 : decode cX3_findCause 54 = .ok (.iaload, 1) := by decide +kernel
theorem dX3_findCause_55 : decode cX3_findCause 55 = .ok (.ifCond .ne 12, 3) := by decide +kernel
theorem dX3_findCause_58 : decode cX3_findCause 58 = .ok (.aload_n 0, 1) := by decide +kernel
theorem dX3_findCause_59 : decode cX3_findCause 59 = .ok (.iconst 3, 1) := by decide +kernel
theorem dX3_findCause_60 : decode cX3_findCause 60 = .ok (.iconst 3, 1) := by decide +kernel
theorem dX3_findCause_61 : decode cX3_findCause 61 = .ok (.invokevirtual 72, 3) := by decide +kernel
theorem dX3_findCause_64 : decode cX3_findCause 64 = .ok (.goto 32, 3) := by decide +kernel
theorem dX3_findCause_67 : decode cX3_findCause 67 = .ok (.iload_n 1, 1) := by decide +kernel
theorem dX3_findCause_68 : decode cX3_findCause 68 = .ok (.ifCond .le 21, 3) := by decide +kernel
theorem dX3_findCause_71 : decode cX3_findCause 71 = .ok (.aload_n 0, 1) := by decide +kernel
theorem dX3_findCause_72 : decode cX3_findCause 72 = .ok (.getfield 9, 3) := by decide +kernel
theorem dX3_findCause_75 : decode cX3_findCause 75 = .ok (.iconst 2, 1) := by decide +kernel
theorem dX3_findCause_76 : decode cX3_findCause 76 = .ok (.iaload, 1) := by decide +kernel
theorem dX3_findCause_77 : decode cX3_findCause 77 = .ok (.ifCond .ne 12, 3) := by decide +kernel
theorem dX3_findCause_80 : decode cX3_findCause 80 = .ok (.aload_n 0, 1) := by decide +kernel
theorem dX3_findCause_81 : decode cX3_findCause 81 = .ok (.iconst 4, 1) := by decide +kernel
theorem dX3_findCause_82 : decode cX3_findCause 82 = .ok (.iconst 2, 1) := by decide +kernel
theorem dX3_findCause_83 : decode cX3_findCause 83 = .ok (.invokevirtual 72, 3) := by decide +kernel
theorem dX3_findCause_86 : decode cX3_findCause 86 = .ok (.goto 10, 3) := by decide +kernel
theorem dX3_findCause_89 : decode cX3_findCause 89 = .ok (.aload_n 0, 1) := by decide +kernel
theorem dX3_findCause_90 : decode cX3_findCause 90 = .ok (.iconst 0, 1) := by decide +kernel
theorem dX3_findCause_91 : decode cX3_findCause 91 = .ok (.bipush (-9), 2) := by decide +kernel
theorem dX3_findCause_93 : decode cX3_findCause 93 = .ok (.invokevirtual 72, 3) := by decide +kernel
theorem dX3_findCause_96 : decode cX3_findCause 96 = .ok (.iload_n 2, 1) := by decide +kernel
theorem dX3_findCause_97 : decode cX3_findCause 97 = .ok (.bipush (-9), 2) := by decide +kernel
theorem dX3_findCause_99 : decode cX3_findCause 99 = .ok (.if_icmp .ne 9, 3) := by decide +kernel
theorem dX3_findCause_102 : decode cX3_findCause 102 = .ok (.iload_n 3, 1) := by decide +kernel
theorem dX3_findCause_103 : decode cX3_findCause 103 = .ok (.bipush (-9), 2) := by decide +kernel
theorem dX3_findCause_105 : decode cX3_findCause 105 = .ok (.if_icmp .eq 8, 3) := by decide +kernel
theorem dX3_findCause_108 : decode cX3_findCause 108 = .ok (.aload_n 0, 1) := by decide +kernel
theorem dX3_findCause_109 : decode cX3_findCause 109 = .ok (.iconst 1, 1) := by decide +kernel
theorem dX3_findCause_110 : decode cX3_findCause 110 = .ok (.putfield 38, 3) := by decide +kernel
theorem dX3_findCause_113 : decode cX3_findCause 113 = .ok (.return_, 1) := by decide +kernel
theorem dX3_setCause_0 : decode cX3_setCause 0 = .ok (.aload_n 0, 1) := by decide +kernel
theorem dX3_setCause_1 : decode cX3_setCause 1 = .ok (.getfield 24, 3) := by decide +kernel
theorem dX3_setCause_4 : decode cX3_setCause 4 = .ok (.iconst 4, 1) := by decide +kernel
theorem dX3_setCause_5 : decode cX3_setCause 5 = .ok (.iload_n 1, 1) := by decide +kernel
theorem dX3_setCause_6 : decode cX3_setCause 6 = .ok (.iastore, 1) := by decide +kernel
theorem dX3_setCause_7 : decode cX3_setCause 7 = .ok (.aload_n 0, 1) := by decide +kernel
theorem dX3_setCause_8 : decode cX3_setCause 8 = .ok (.getfield 24, 3) := by decide +kernel
theorem dX3_setCause_11 : decode cX3_setCause 11 = .ok (.iconst 5, 1) := by decide +kernel
theorem dX3_setCause_12 : decode cX3_setCause 12 = .ok (.iload_n 2, 1) := by decide +kernel
theorem dX3_setCause_13 : decode cX3_setCause 13 = .ok (.iastore, 1) := by decide +kernel
theorem dX3_setCause_14 : decode cX3_setCause 14 = .ok (.return_, 1) := by decide +kernel
theorem dX3_leastTooHot_0 : decode cX3_leastTooHot 0 = .ok (.iconst 0, 1) := by decide +kernel
theorem dX3_leastTooHot_1 : decode cX3_leastTooHot 1 = .ok (.istore_n 1, 1) := by decide +kernel
theorem dX3_leastTooHot_2 : decode cX3_leastTooHot 2 = .ok (.iload_n 1, 1) := by decide +kernel
theorem dX3_leastTooHot_3 : decode cX3_leastTooHot 3 = .ok (.iconst 4, 1) := by decide +kernel
theorem dX3_leastTooHot_4 : decode cX3_leastTooHot 4 = .ok (.if_icmp .ge 42, 3) := by decide +kernel
theorem dX3_leastTooHot_7 : decode cX3_leastTooHot 7 = .ok (.aload_n 0, 1) := by decide +kernel
theorem dX3_leastTooHot_8 : decode cX3_leastTooHot 8 = .ok (.getfield 9, 3) := by decide +kernel
theorem dX3_leastTooHot_11 : decode cX3_leastTooHot 11 = .ok (.iload_n 1, 1) := by decide +kernel
theorem dX3_leastTooHot_12 : decode cX3_leastTooHot 12 = .ok (.iaload, 1) := by decide +kernel
theorem dX3_leastTooHot_13 : decode cX3_leastTooHot 13 = .ok (.ifCond .le 27, 3) := by decide +kernel
theorem dX3_leastTooHot_16 : decode cX3_leastTooHot 16 = .ok (.aload_n 0, 1) := by decide +kernel
theorem dX3_leastTooHot_17 : decode cX3_leastTooHot 17 = .ok (.getfield 15, 3) := by decide +kernel
theorem dX3_leastTooHot_20 : decode cX3_leastTooHot 20 = .ok (.iload_n 1, 1) := by decide +kernel
theorem dX3_leastTooHot_21 : decode cX3_leastTooHot 21 = .ok (.iaload, 1) := by decide +kernel
theorem dX3_leastTooHot_22 : decode cX3_leastTooHot 22 = .ok (.i2l, 1) := by decide +kernel
theorem dX3_leastTooHot_23 : decode cX3_leastTooHot 23 = .ok (.ldc2_w 75, 3) := by decide +kernel
theorem dX3_leastTooHot_26 : decode cX3_leastTooHot 26 = .ok (.aload_n 0, 1) := by decide +kernel
theorem dX3_leastTooHot_27 : decode cX3_leastTooHot 27 = .ok (.getfield 9, 3) := by decide +kernel
theorem dX3_leastTooHot_30 : decode cX3_leastTooHot 30 = .ok (.iload_n 1, 1) := by decide +kernel
theorem dX3_leastTooHot_31 : decode cX3_leastTooHot 31 = .ok (.iaload, 1) := by decide +kernel
theorem dX3_leastTooHot_32 : decode cX3_leastTooHot 32 = .ok (.i2l, 1) := by decide +kernel
theorem dX3_leastTooHot_33 : decode cX3_leastTooHot 33 = .ok (.lmul, 1) := by decide +kernel
theorem dX3_leastTooHot_34 : decode cX3_leastTooHot 34 = .ok (.lcmp, 1) := by decide +kernel
theorem dX3_leastTooHot_35 : decode cX3_leastTooHot 35 = .ok (.ifCond .le 5, 3) := by decide +kernel
theorem dX3_leastTooHot_38 : decode cX3_leastTooHot 38 = .ok (.iload_n 1, 1) := by decide +kernel
theorem dX3_leastTooHot_39 : decode cX3_leastTooHot 39 = .ok (.ireturn, 1) := by decide +kernel
theorem dX3_leastTooHot_40 : decode cX3_leastTooHot 40 = .ok (.iinc 1 1, 3) := by decide +kernel
theorem dX3_leastTooHot_43 : decode cX3_leastTooHot 43 = .ok (.goto (-41), 3) := by decide +kernel
theorem dX3_leastTooHot_46 : decode cX3_leastTooHot 46 = .ok (.bipush (-9), 2) := by decide +kernel
theorem dX3_leastTooHot_48 : decode cX3_leastTooHot 48 = .ok (.ireturn, 1) := by decide +kernel
theorem dX3_leastTooMuch_0 : decode cX3_leastTooMuch 0 = .ok (.iconst 0, 1) := by decide +kernel
theorem dX3_leastTooMuch_1 : decode cX3_leastTooMuch 1 = .ok (.istore_n 1, 1) := by decide +kernel
theorem dX3_leastTooMuch_2 : decode cX3_leastTooMuch 2 = .ok (.iload_n 1, 1) := by decide +kernel
theorem dX3_leastTooMuch_3 : decode cX3_leastTooMuch 3 = .ok (.iconst 4, 1) := by decide +kernel
theorem dX3_leastTooMuch_4 : decode cX3_leastTooMuch 4 = .ok (.if_icmp .ge 23, 3) := by decide +kernel
theorem dX3_leastTooMuch_7 : decode cX3_leastTooMuch 7 = .ok (.aload_n 0, 1) := by decide +kernel
theorem dX3_leastTooMuch_8 : decode cX3_leastTooMuch 8 = .ok (.getfield 9, 3) := by decide +kernel
theorem dX3_leastTooMuch_11 : decode cX3_leastTooMuch 11 = .ok (.iload_n 1, 1) := by decide +kernel
theorem dX3_leastTooMuch_12 : decode cX3_leastTooMuch 12 = .ok (.iaload, 1) := by decide +kernel
theorem dX3_leastTooMuch_13 : decode cX3_leastTooMuch 13 = .ok (.sipush 2000, 3) := by decide +kernel
theorem dX3_leastTooMuch_16 : decode cX3_leastTooMuch 16 = .ok (.if_icmp .le 5, 3) := by decide +kernel
theorem dX3_leastTooMuch_19 : decode cX3_leastTooMuch 19 = .ok (.iload_n 1, 1) := by decide +kernel
theorem dX3_leastTooMuch_20 : decode cX3_leastTooMuch 20 = .ok (.ireturn, 1) := by decide +kernel
theorem dX3_leastTooMuch_21 : decode cX3_leastTooMuch 21 = .ok (.iinc 1 1, 3) := by decide +kernel
theorem dX3_leastTooMuch_24 : decode cX3_leastTooMuch 24 = .ok (.goto (-22), 3) := by decide +kernel
theorem dX3_leastTooMuch_27 : decode cX3_leastTooMuch 27 = .ok (.bipush (-9), 2) := by decide +kernel
theorem dX3_leastTooMuch_29 : decode cX3_leastTooMuch 29 = .ok (.ireturn, 1) := by decide +kernel
theorem dX3_addSums_0 : decode cX3_addSums 0 = .ok (.aload_n 0, 1) := by decide +kernel
theorem dX3_addSums_1 : decode cX3_addSums 1 = .ok (.getfield 27, 3) := by decide +kernel
theorem dX3_addSums_4 : decode cX3_addSums 4 = .ok (.iconst 0, 1) := by decide +kernel
theorem dX3_addSums_5 : decode cX3_addSums 5 = .ok (.dup2, 1) := by decide +kernel
theorem dX3_addSums_6 : decode cX3_addSums 6 = .ok (.laload, 1) := by decide +kernel
theorem dX3_addSums_7 : decode cX3_addSums 7 = .ok (.iload_n 1, 1) := by decide +kernel
theorem dX3_addSums_8 : decode cX3_addSums 8 = .ok (.i2l, 1) := by decide +kernel
theorem dX3_addSums_9 : decode cX3_addSums 9 = .ok (.ladd, 1) := by decide +kernel
theorem dX3_addSums_10 : decode cX3_addSums 10 = .ok (.lastore, 1) := by decide +kernel
theorem dX3_addSums_11 : decode cX3_addSums 11 = .ok (.aload_n 0, 1) := by decide +kernel
theorem dX3_addSums_12 : decode cX3_addSums 12 = .ok (.getfield 27, 3) := by decide +kernel
theorem dX3_addSums_15 : decode cX3_addSums 15 = .ok (.iconst 1, 1) := by decide +kernel
theorem dX3_addSums_16 : decode cX3_addSums 16 = .ok (.dup2, 1) := by decide +kernel
theorem dX3_addSums_17 : decode cX3_addSums 17 = .ok (.laload, 1) := by decide +kernel
theorem dX3_addSums_18 : decode cX3_addSums 18 = .ok (.iload_n 2, 1) := by decide +kernel
theorem dX3_addSums_19 : decode cX3_addSums 19 = .ok (.i2l, 1) := by decide +kernel
theorem dX3_addSums_20 : decode cX3_addSums 20 = .ok (.ladd, 1) := by decide +kernel
theorem dX3_addSums_21 : decode cX3_addSums 21 = .ok (.lastore, 1) := by decide +kernel
theorem dX3_addSums_22 : decode cX3_addSums 22 = .ok (.aload_n 0, 1) := by decide +kernel
theorem dX3_addSums_23 : decode cX3_addSums 23 = .ok (.getfield 27, 3) := by decide +kernel
theorem dX3_addSums_26 : decode cX3_addSums 26 = .ok (.iconst 2, 1) := by decide +kernel
theorem dX3_addSums_27 : decode cX3_addSums 27 = .ok (.dup2, 1) := by decide +kernel
theorem dX3_addSums_28 : decode cX3_addSums 28 = .ok (.laload, 1) := by decide +kernel
theorem dX3_addSums_29 : decode cX3_addSums 29 = .ok (.aload_n 0, 1) := by decide +kernel
theorem dX3_addSums_30 : decode cX3_addSums 30 = .ok (.getfield 24, 3) := by decide +kernel
theorem dX3_addSums_33 : decode cX3_addSums 33 = .ok (.iconst 0, 1) := by decide +kernel
theorem dX3_addSums_34 : decode cX3_addSums 34 = .ok (.iaload, 1) := by decide +kernel
theorem dX3_addSums_35 : decode cX3_addSums 35 = .ok (.i2l, 1) := by decide +kernel
theorem dX3_addSums_36 : decode cX3_addSums 36 = .ok (.ladd, 1) := by decide +kernel
theorem dX3_addSums_37 : decode cX3_addSums 37 = .ok (.lastore, 1) := by decide +kernel
theorem dX3_addSums_38 : decode cX3_addSums 38 = .ok (.aload_n 0, 1) := by decide +kernel
theorem dX3_addSums_39 : decode cX3_addSums 39 = .ok (.getfield 27, 3) := by decide +kernel
theorem dX3_addSums_42 : decode cX3_addSums 42 = .ok (.iconst 3, 1) := by decide +kernel
theorem dX3_addSums_43 : decode cX3_addSums 43 = .ok (.dup2, 1) := by decide +kernel
theorem dX3_addSums_44 : decode cX3_addSums 44 = .ok (.laload, 1) := by decide +kernel
theorem dX3_addSums_45 : decode cX3_addSums 45 = .ok (.aload_n 0, 1) := by decide +kernel
theorem dX3_addSums_46 : decode cX3_addSums 46 = .ok (.getfield 24, 3) := by decide +kernel
theorem dX3_addSums_49 : decode cX3_addSums 49 = .ok (.iconst 1, 1) := by decide +kernel
theorem dX3_addSums_50 : decode cX3_addSums 50 = .ok (.iaload, 1) := by decide +kernel
theorem dX3_addSums_51 : decode cX3_addSums 51 = .ok (.i2l, 1) := by decide +kernel
theorem dX3_addSums_52 : decode cX3_addSums 52 = .ok (.ladd, 1) := by decide +kernel
theorem dX3_addSums_53 : decode cX3_addSums 53 = .ok (.lastore, 1) := by decide +kernel
theorem dX3_addSums_54 : decode cX3_addSums 54 = .ok (.aload_n 0, 1) := by decide +kernel
theorem dX3_addSums_55 : decode cX3_addSums 55 = .ok (.getfield 27, 3) := by decide +kernel
theorem dX3_addSums_58 : decode cX3_addSums 58 = .ok (.iconst 4, 1) := by decide +kernel
theorem dX3_addSums_59 : decode cX3_addSums 59 = .ok (.dup2, 1) := by decide +kernel
theorem dX3_addSums_60 : decode cX3_addSums 60 = .ok (.laload, 1) := by decide +kernel
theorem dX3_addSums_61 : decode cX3_addSums 61 = .ok (.aload_n 0, 1) := by decide +kernel
theorem dX3_addSums_62 : decode cX3_addSums 62 = .ok (.getfield 24, 3) := by decide +kernel
theorem dX3_addSums_65 : decode cX3_addSums 65 = .ok (.bipush 6, 2) := by decide +kernel
theorem dX3_addSums_67 : decode cX3_addSums 67 = .ok (.iaload, 1) := by decide +kernel
theorem dX3_addSums_68 : decode cX3_addSums 68 = .ok (.i2l, 1) := by decide +kernel
theorem dX3_addSums_69 : decode cX3_addSums 69 = .ok (.ladd, 1) := by decide +kernel
theorem dX3_addSums_70 : decode cX3_addSums 70 = .ok (.lastore, 1) := by decide +kernel
theorem dX3_addSums_71 : decode cX3_addSums 71 = .ok (.return_, 1) := by decide +kernel
theorem dX3_foldInto_0 : decode cX3_foldInto 0 = .ok (.lload_n 1, 1) := by decide +kernel
theorem dX3_foldInto_1 : decode cX3_foldInto 1 = .ok (.lstore_n 3, 1) := by decide +kernel
theorem dX3_foldInto_2 : decode cX3_foldInto 2 = .ok (.iconst 0, 1) := by decide +kernel
theorem dX3_foldInto_3 : decode cX3_foldInto 3 = .ok (.istore 5, 2) := by decide +kernel
theorem dX3_foldInto_5 : decode cX3_foldInto 5 = .ok (.iload 5, 2) := by decide +kernel
theorem dX3_foldInto_7 : decode cX3_foldInto 7 = .ok (.iconst 4, 1) := by decide +kernel
theorem dX3_foldInto_8 : decode cX3_foldInto 8 = .ok (.if_icmp .ge 35, 3) := by decide +kernel
theorem dX3_foldInto_11 : decode cX3_foldInto 11 = .ok (.lload_n 3, 1) := by decide +kernel
theorem dX3_foldInto_12 : decode cX3_foldInto 12 = .ok (.aload_n 0, 1) := by decide +kernel
theorem dX3_foldInto_13 : decode cX3_foldInto 13 = .ok (.getfield 9, 3) := by decide +kernel
theorem dX3_foldInto_16 : decode cX3_foldInto 16 = .ok (.iload 5, 2) := by decide +kernel
theorem dX3_foldInto_18 : decode cX3_foldInto 18 = .ok (.iaload, 1) := by decide +kernel
theorem dX3_foldInto_19 : decode cX3_foldInto 19 = .ok (.i2l, 1) := by decide +kernel
theorem dX3_foldInto_20 : decode cX3_foldInto 20 = .ok (.invokestatic 77, 3) := by decide +kernel
theorem dX3_foldInto_23 : decode cX3_foldInto 23 = .ok (.lstore_n 3, 1) := by decide +kernel
theorem dX3_foldInto_24 : decode cX3_foldInto 24 = .ok (.lload_n 3, 1) := by decide +kernel
theorem dX3_foldInto_25 : decode cX3_foldInto 25 = .ok (.aload_n 0, 1) := by decide +kernel
theorem dX3_foldInto_26 : decode cX3_foldInto 26 = .ok (.getfield 15, 3) := by decide +kernel
theorem dX3_foldInto_29 : decode cX3_foldInto 29 = .ok (.iload 5, 2) := by decide +kernel
theorem dX3_foldInto_31 : decode cX3_foldInto 31 = .ok (.iaload, 1) := by decide +kernel
theorem dX3_foldInto_32 : decode cX3_foldInto 32 = .ok (.i2l, 1) := by decide +kernel
theorem dX3_foldInto_33 : decode cX3_foldInto 33 = .ok (.invokestatic 77, 3) := by decide +kernel
theorem dX3_foldInto_36 : decode cX3_foldInto 36 = .ok (.lstore_n 3, 1) := by decide +kernel
theorem dX3_foldInto_37 : decode cX3_foldInto 37 = .ok (.iinc 5 1, 3) := by decide +kernel
theorem dX3_foldInto_40 : decode cX3_foldInto 40 = .ok (.goto (-35), 3) := by decide +kernel
theorem dX3_foldInto_43 : decode cX3_foldInto 43 = .ok (.lload_n 3, 1) := by decide +kernel
theorem dX3_foldInto_44 : decode cX3_foldInto 44 = .ok (.lreturn, 1) := by decide +kernel
theorem dX4_init_0 : decode cX4_init 0 = .ok (.aload_n 0, 1) := by decide +kernel
theorem dX4_init_1 : decode cX4_init 1 = .ok (.invokespecial 3, 3) := by decide +kernel
theorem dX4_init_4 : decode cX4_init 4 = .ok (.aload_n 0, 1) := by decide +kernel
theorem dX4_init_5 : decode cX4_init 5 = .ok (.bipush 7, 2) := by decide +kernel
theorem dX4_init_7 : decode cX4_init 7 = .ok (.newarray .boolean, 2) := by decide +kernel
theorem dX4_init_9 : decode cX4_init 9 = .ok (.putfield 9, 3) := by decide +kernel
theorem dX4_init_12 : decode cX4_init 12 = .ok (.aload_n 0, 1) := by decide +kernel
theorem dX4_init_13 : decode cX4_init 13 = .ok (.bipush 7, 2) := by decide +kernel
theorem dX4_init_15 : decode cX4_init 15 = .ok (.bipush 24, 2) := by decide +kernel
theorem dX4_init_17 : decode cX4_init 17 = .ok (.multianewarray 15 2, 4) := by decide +kernel
theorem dX4_init_21 : decode cX4_init 21 = .ok (.putfield 17, 3) := by decide +kernel
theorem dX4_init_24 : decode cX4_init 24 = .ok (.aload_n 0, 1) := by decide +kernel
theorem dX4_init_25 : decode cX4_init 25 = .ok (.bipush 24, 2) := by decide +kernel
theorem dX4_init_27 : decode cX4_init 27 = .ok (.newarray .int, 2) := by decide +kernel
theorem dX4_init_29 : decode cX4_init 29 = .ok (.putfield 20, 3) := by decide +kernel
theorem dX4_init_32 : decode cX4_init 32 = .ok (.aload_n 0, 1) := by decide +kernel
theorem dX4_init_33 : decode cX4_init 33 = .ok (.bipush 25, 2) := by decide +kernel
theorem dX4_init_35 : decode cX4_init 35 = .ok (.newarray .long, 2) := by decide +kernel
theorem dX4_init_37 : decode cX4_init 37 = .ok (.putfield 24, 3) := by decide +kernel
theorem dX4_init_40 : decode cX4_init 40 = .ok (.aload_n 0, 1) := by decide +kernel
theorem dX4_init_41 : decode cX4_init 41 = .ok (.iconst 0, 1) := by decide +kernel
theorem dX4_init_42 : decode cX4_init 42 = .ok (.putfield 28, 3) := by decide +kernel
theorem dX4_init_45 : decode cX4_init 45 = .ok (.return_, 1) := by decide +kernel
theorem dX4_rows_0 : decode cX4_rows 0 = .ok (.aload_n 0, 1) := by decide +kernel
theorem dX4_rows_1 : decode cX4_rows 1 = .ok (.getfield 28, 3) := by decide +kernel
theorem dX4_rows_4 : decode cX4_rows 4 = .ok (.ireturn, 1) := by decide +kernel
theorem dX4_has_0 : decode cX4_has 0 = .ok (.aload_n 0, 1) := by decide +kernel
theorem dX4_has_1 : decode cX4_has 1 = .ok (.getfield 9, 3) := by decide +kernel
theorem dX4_has_4 : decode cX4_has 4 = .ok (.iload_n 1, 1) := by decide +kernel
theorem dX4_has_5 : decode cX4_has 5 = .ok (.baload, 1) := by decide +kernel
theorem dX4_has_6 : decode cX4_has 6 = .ok (.ireturn, 1) := by decide +kernel
theorem dX4_layRow_0 : decode cX4_layRow 0 = .ok (.aload_n 0, 1) := by decide +kernel
theorem dX4_layRow_1 : decode cX4_layRow 1 = .ok (.getfield 9, 3) := by decide +kernel
theorem dX4_layRow_4 : decode cX4_layRow 4 = .ok (.iload_n 1, 1) := by decide +kernel
theorem dX4_layRow_5 : decode cX4_layRow 5 = .ok (.baload, 1) := by decide +kernel
theorem dX4_layRow_6 : decode cX4_layRow 6 = .ok (.istore_n 2, 1) := by decide +kernel
theorem dX4_layRow_7 : decode cX4_layRow 7 = .ok (.aload_n 0, 1) := by decide +kernel
theorem dX4_layRow_8 : decode cX4_layRow 8 = .ok (.getfield 17, 3) := by decide +kernel
theorem dX4_layRow_11 : decode cX4_layRow 11 = .ok (.iload_n 1, 1) := by decide +kernel
theorem dX4_layRow_12 : decode cX4_layRow 12 = .ok (.aaload, 1) := by decide +kernel
theorem dX4_layRow_13 : decode cX4_layRow 13 = .ok (.iconst 0, 1) := by decide +kernel
theorem dX4_layRow_14 : decode cX4_layRow 14 = .ok (.invokestatic 32, 3) := by decide +kernel
theorem dX4_layRow_17 : decode cX4_layRow 17 = .ok (.aload_n 0, 1) := by decide +kernel
theorem dX4_layRow_18 : decode cX4_layRow 18 = .ok (.getfield 9, 3) := by decide +kernel
theorem dX4_layRow_21 : decode cX4_layRow 21 = .ok (.iload_n 1, 1) := by decide +kernel
theorem dX4_layRow_22 : decode cX4_layRow 22 = .ok (.iconst 1, 1) := by decide +kernel
theorem dX4_layRow_23 : decode cX4_layRow 23 = .ok (.bastore, 1) := by decide +kernel
theorem dX4_layRow_24 : decode cX4_layRow 24 = .ok (.iload_n 2, 1) := by decide +kernel
theorem dX4_layRow_25 : decode cX4_layRow 25 = .ok (.ifCond .ne 13, 3) := by decide +kernel
theorem dX4_layRow_28 : decode cX4_layRow 28 = .ok (.aload_n 0, 1) := by decide +kernel
theorem dX4_layRow_29 : decode cX4_layRow 29 = .ok (.dup, 1) := by decide +kernel
theorem dX4_layRow_30 : decode cX4_layRow 30 = .ok (.getfield 28, 3) := by decide +kernel
theorem dX4_layRow_33 : decode cX4_layRow 33 = .ok (.iconst 1, 1) := by decide +kernel
theorem dX4_layRow_34 : decode cX4_layRow 34 = .ok (.iadd, 1) := by decide +kernel
theorem dX4_layRow_35 : decode cX4_layRow 35 = .ok (.putfield 28, 3) := by decide +kernel
theorem dX4_layRow_38 : decode cX4_layRow 38 = .ok (.iload_n 2, 1) := by decide +kernel
theorem dX4_layRow_39 : decode cX4_layRow 39 = .ok (.ifCond .eq 7, 3) := by decide +kernel
theorem dX4_layRow_42 : decode cX4_layRow 42 = .ok (.iconst 1, 1) := by decide +kernel
theorem dX4_layRow_43 : decode cX4_layRow 43 = .ok (.goto 4, 3) := by decide +kernel
theorem dX4_layRow_46 : decode cX4_layRow 46 = .ok (.iconst 0, 1) := by decide +kernel
theorem dX4_layRow_47 : decode cX4_layRow 47 = .ok (.ireturn, 1) := by decide +kernel
theorem dX4_drop_0 : decode cX4_drop 0 = .ok (.aload_n 0, 1) := by decide +kernel
theorem dX4_drop_1 : decode cX4_drop 1 = .ok (.getfield 9, 3) := by decide +kernel
theorem dX4_drop_4 : decode cX4_drop 4 = .ok (.iload_n 1, 1) := by decide +kernel
theorem dX4_drop_5 : decode cX4_drop 5 = .ok (.iconst 0, 1) := by decide +kernel
theorem dX4_drop_6 : decode cX4_drop 6 = .ok (.bastore, 1) := by decide +kernel
theorem dX4_drop_7 : decode cX4_drop 7 = .ok (.aload_n 0, 1) := by decide +kernel
theorem dX4_drop_8 : decode cX4_drop 8 = .ok (.dup, 1) := by decide +kernel
theorem dX4_drop_9 : decode cX4_drop 9 = .ok (.getfield 28, 3) := by decide +kernel
theorem dX4_drop_12 : decode cX4_drop 12 = .ok (.iconst 1, 1) := by decide +kernel
theorem dX4_drop_13 : decode cX4_drop 13 = .ok (.isub, 1) := by decide +kernel
theorem dX4_drop_14 : decode cX4_drop 14 = .ok (.putfield 28, 3) := by decide +kernel
theorem dX4_drop_17 : decode cX4_drop 17 = .ok (.return_, 1) := by decide +kernel
theorem dX4_set_0 : decode cX4_set 0 = .ok (.aload_n 0, 1) := by decide +kernel
theorem dX4_set_1 : decode cX4_set 1 = .ok (.getfield 17, 3) := by decide +kernel
theorem dX4_set_4 : decode cX4_set 4 = .ok (.iload_n 1, 1) := by decide +kernel
theorem dX4_set_5 : decode cX4_set 5 = .ok (.aaload, 1) := by decide +kernel
theorem dX4_set_6 : decode cX4_set 6 = .ok (.iload_n 2, 1) := by decide +kernel
theorem dX4_set_7 : decode cX4_set 7 = .ok (.iaload, 1) := by decide +kernel
theorem dX4_set_8 : decode cX4_set 8 = .ok (.istore 4, 2) := by decide +kernel
theorem dX4_set_10 : decode cX4_set 10 = .ok (.aload_n 0, 1) := by decide +kernel
theorem dX4_set_11 : decode cX4_set 11 = .ok (.getfield 17, 3) := by decide +kernel
theorem dX4_set_14 : decode cX4_set 14 = .ok (.iload_n 1, 1) := by decide +kernel
theorem dX4_set_15 : decode cX4_set 15 = .ok (.aaload, 1) := by decide +kernel
theorem dX4_set_16 : decode cX4_set 16 = .ok (.iload_n 2, 1) := by decide +kernel
theorem dX4_set_17 : decode cX4_set 17 = .ok (.iload_n 3, 1) := by decide +kernel
theorem dX4_set_18 : decode cX4_set 18 = .ok (.iastore, 1) := by decide +kernel
theorem dX4_set_19 : decode cX4_set 19 = .ok (.iload 4, 2) := by decide +kernel
theorem dX4_set_21 : decode cX4_set 21 = .ok (.ireturn, 1) := by decide +kernel
theorem dX4_move_0 : decode cX4_move 0 = .ok (.aload_n 0, 1) := by decide +kernel
theorem dX4_move_1 : decode cX4_move 1 = .ok (.getfield 17, 3) := by decide +kernel
theorem dX4_move_4 : decode cX4_move 4 = .ok (.iload_n 1, 1) := by decide +kernel
theorem dX4_move_5 : decode cX4_move 5 = .ok (.aaload, 1) := by decide +kernel
theorem dX4_move_6 : decode cX4_move 6 = .ok (.iload_n 2, 1) := by decide +kernel
theorem dX4_move_7 : decode cX4_move 7 = .ok (.aload_n 0, 1) := by decide +kernel
theorem dX4_move_8 : decode cX4_move 8 = .ok (.getfield 17, 3) := by decide +kernel
theorem dX4_move_11 : decode cX4_move 11 = .ok (.iload_n 3, 1) := by decide +kernel
theorem dX4_move_12 : decode cX4_move 12 = .ok (.aaload, 1) := by decide +kernel
theorem dX4_move_13 : decode cX4_move 13 = .ok (.iload 4, 2) := by decide +kernel
theorem dX4_move_15 : decode cX4_move 15 = .ok (.iload 5, 2) := by decide +kernel
theorem dX4_move_17 : decode cX4_move 17 = .ok (.invokestatic 38, 3) := by decide +kernel
theorem dX4_move_20 : decode cX4_move 20 = .ok (.return_, 1) := by decide +kernel
theorem dX4_setNeed_0 : decode cX4_setNeed 0 = .ok (.aload_n 0, 1) := by decide +kernel
theorem dX4_setNeed_1 : decode cX4_setNeed 1 = .ok (.getfield 20, 3) := by decide +kernel
theorem dX4_setNeed_4 : decode cX4_setNeed 4 = .ok (.iload_n 1, 1) := by decide +kernel
theorem dX4_setNeed_5 : decode cX4_setNeed 5 = .ok (.iaload, 1) := by decide +kernel
theorem dX4_setNeed_6 : decode cX4_setNeed 6 = .ok (.istore_n 3, 1) := by decide +kernel
theorem dX4_setNeed_7 : decode cX4_setNeed 7 = .ok (.aload_n 0, 1) := by decide +kernel
theorem dX4_setNeed_8 : decode cX4_setNeed 8 = .ok (.getfield 20, 3) := by decide +kernel
theorem dX4_setNeed_11 : decode cX4_setNeed 11 = .ok (.iload_n 1, 1) := by decide +kernel
theorem dX4_setNeed_12 : decode cX4_setNeed 12 = .ok (.iload_n 2, 1) := by decide +kernel
theorem dX4_setNeed_13 : decode cX4_setNeed 13 = .ok (.iastore, 1) := by decide +kernel
theorem dX4_setNeed_14 : decode cX4_setNeed 14 = .ok (.iload_n 3, 1) := by decide +kernel
theorem dX4_setNeed_15 : decode cX4_setNeed 15 = .ok (.ireturn, 1) := by decide +kernel
theorem dX4_cheapest_0 : decode cX4_cheapest 0 = .ok (.aload_n 0, 1) := by decide +kernel
theorem dX4_cheapest_1 : decode cX4_cheapest 1 = .ok (.getfield 24, 3) := by decide +kernel
theorem dX4_cheapest_4 : decode cX4_cheapest 4 = .ok (.ldc2_w 44, 3) := by decide +kernel
theorem dX4_cheapest_7 : decode cX4_cheapest 7 = .ok (.invokestatic 46, 3) := by decide +kernel
theorem dX4_cheapest_10 : decode cX4_cheapest 10 = .ok (.aload_n 0, 1) := by decide +kernel
theorem dX4_cheapest_11 : decode cX4_cheapest 11 = .ok (.getfield 24, 3) := by decide +kernel
theorem dX4_cheapest_14 : decode cX4_cheapest 14 = .ok (.iconst 0, 1) := by decide +kernel
theorem dX4_cheapest_15 : decode cX4_cheapest 15 = .ok (.lconst 0, 1) := by decide +kernel
theorem dX4_cheapest_16 : decode cX4_cheapest 16 = .ok (.lastore, 1) := by decide +kernel
theorem dX4_cheapest_17 : decode cX4_cheapest 17 = .ok (.iconst 0, 1) := by decide +kernel
theorem dX4_cheapest_18 : decode cX4_cheapest 18 = .ok (.istore_n 3, 1) := by decide +kernel
theorem dX4_cheapest_19 : decode cX4_cheapest 19 = .ok (.iload_n 3, 1) := by decide +kernel
theorem dX4_cheapest_20 : decode cX4_cheapest 20 = .ok (.bipush 24, 2) := by decide +kernel
theorem dX4_cheapest_22 : decode cX4_cheapest 22 = .ok (.if_icmp .ge 116, 3) := by decide +kernel
theorem dX4_cheapest_25 : decode cX4_cheapest 25 = .ok (.aload_n 0, 1) := by decide +kernel
theorem dX4_cheapest_26 : decode cX4_cheapest 26 = .ok (.getfield 17, 3) := by decide +kernel
theorem dX4_cheapest_29 : decode cX4_cheapest 29 = .ok (.iload_n 1, 1) := by decide +kernel
theorem dX4_cheapest_30 : decode cX4_cheapest 30 = .ok (.aaload, 1) := by decide +kernel
theorem dX4_cheapest_31 : decode cX4_cheapest 31 = .ok (.iload_n 3, 1) := by decide +kernel
theorem dX4_cheapest_32 : decode cX4_cheapest 32 = .ok (.iaload, 1) := by decide +kernel
theorem dX4_cheapest_33 : decode cX4_cheapest 33 = .ok (.i2l, 1) := by decide +kernel
theorem dX4_cheapest_34 : decode cX4_cheapest 34 = .ok (.bipush 24, 2) := by decide +kernel
theorem dX4_cheapest_36 : decode cX4_cheapest 36 = .ok (.lshl, 1) := by decide +kernel
theorem dX4_cheapest_37 : decode cX4_cheapest 37 = .ok (.lconst 1, 1) := by decide +kernel
theorem dX4_cheapest_38 : decode cX4_cheapest 38 = .ok (.iload_n 3, 1) := by decide +kernel
theorem dX4_cheapest_39 : decode cX4_cheapest 39 = .ok (.lshl, 1) := by decide +kernel
theorem dX4_cheapest_40 : decode cX4_cheapest 40 = .ok (.ladd, 1) := by decide +kernel
theorem dX4_cheapest_41 : decode cX4_cheapest 41 = .ok (.lstore 4, 2) := by decide +kernel
theorem dX4_cheapest_43 : decode cX4_cheapest 43 = .ok (.iload_n 3, 1) := by decide +kernel
theorem dX4_cheapest_44 : decode cX4_cheapest 44 = .ok (.iconst 1, 1) := by decide +kernel
theorem dX4_cheapest_45 : decode cX4_cheapest 45 = .ok (.iadd, 1) := by decide +kernel
theorem dX4_cheapest_46 : decode cX4_cheapest 46 = .ok (.istore 6, 2) := by decide +kernel
theorem dX4_cheapest_48 : decode cX4_cheapest 48 = .ok (.iload 6, 2) := by decide +kernel
theorem dX4_cheapest_50 : decode cX4_cheapest 50 = .ok (.ifCond .lt 82, 3) := by decide +kernel
theorem dX4_cheapest_53 : decode cX4_cheapest 53 = .ok (.iload 6, 2) := by decide +kernel
theorem dX4_cheapest_55 : decode cX4_cheapest 55 = .ok (.ifCond .le 48, 3) := by decide +kernel
theorem dX4_cheapest_58 : decode cX4_cheapest 58 = .ok (.aload_n 0, 1) := by decide +kernel
theorem dX4_cheapest_59 : decode cX4_cheapest 59 = .ok (.getfield 24, 3) := by decide +kernel
theorem dX4_cheapest_62 : decode cX4_cheapest 62 = .ok (.iload 6, 2) := by decide +kernel
theorem dX4_cheapest_64 : decode cX4_cheapest 64 = .ok (.iconst 1, 1) := by decide +kernel
theorem dX4_cheapest_65 : decode cX4_cheapest 65 = .ok (.isub, 1) := by decide +kernel
theorem dX4_cheapest_66 : decode cX4_cheapest 66 = .ok (.laload, 1) := by decide +kernel
theorem dX4_cheapest_67 : decode cX4_cheapest 67 = .ok (.ldc2_w 44, 3) := by decide +kernel
theorem dX4_cheapest_70 : decode cX4_cheapest 70 = .ok (.lcmp, 1) := by decide +kernel
theorem dX4_cheapest_71 : decode cX4_cheapest 71 = .ok (.ifCond .eq 32, 3) := by decide +kernel
theorem dX4_cheapest_74 : decode cX4_cheapest 74 = .ok (.aload_n 0, 1) := by decide +kernel
theorem dX4_cheapest_75 : decode cX4_cheapest 75 = .ok (.getfield 24, 3) := by decide +kernel
theorem dX4_cheapest_78 : decode cX4_cheapest 78 = .ok (.iload 6, 2) := by decide +kernel
theorem dX4_cheapest_80 : decode cX4_cheapest 80 = .ok (.aload_n 0, 1) := by decide +kernel
theorem dX4_cheapest_81 : decode cX4_cheapest 81 = .ok (.getfield 24, 3) := by decide +kernel
theorem dX4_cheapest_84 : decode cX4_cheapest 84 = .ok (.iload 6, 2) := by decide +kernel
theorem dX4_cheapest_86 : decode cX4_cheapest 86 = .ok (.laload, 1) := by decide +kernel
theorem dX4_cheapest_87 : decode cX4_cheapest 87 = .ok (.aload_n 0, 1) := by decide +kernel
theorem dX4_cheapest_88 : decode cX4_cheapest 88 = .ok (.getfield 24, 3) := by decide +kernel
theorem dX4_cheapest_91 : decode cX4_cheapest 91 = .ok (.iload 6, 2) := by decide +kernel
theorem dX4_cheapest_93 : decode cX4_cheapest 93 = .ok (.iconst 1, 1) := by decide +kernel
theorem dX4_cheapest_94 : decode cX4_cheapest 94 = .ok (.isub, 1) := by decide +kernel
theorem dX4_cheapest_95 : decode cX4_cheapest 95 = .ok (.laload, 1) := by decide +kernel
theorem dX4_cheapest_96 : decode cX4_cheapest 96 = .ok (.lload 4, 2) := by decide +kernel
theorem dX4_cheapest_98 : decode cX4_cheapest 98 = .ok (.ladd, 1) := by decide +kernel
theorem dX4_cheapest_99 : decode cX4_cheapest 99 = .ok (.invokestatic 49, 3) := by decide +kernel
theorem dX4_cheapest_102 : decode cX4_cheapest 102 = .ok (.lastore, 1) := by decide +kernel
theorem dX4_cheapest_103 : decode cX4_cheapest 103 = .ok (.iload 6, 2) := by decide +kernel
theorem dX4_cheapest_105 : decode cX4_cheapest 105 = .ok (.iload_n 2, 1) := by decide +kernel
theorem dX4_cheapest_106 : decode cX4_cheapest 106 = .ok (.imul, 1) := by decide +kernel
theorem dX4_cheapest_107 : decode cX4_cheapest 107 = .ok (.aload_n 0, 1) := by decide +kernel
theorem dX4_cheapest_108 : decode cX4_cheapest 108 = .ok (.getfield 20, 3) := by decide +kernel
theorem dX4_cheapest_111 : decode cX4_cheapest 111 = .ok (.iload_n 3, 1) := by decide +kernel
theorem dX4_cheapest_112 : decode cX4_cheapest 112 = .ok (.iaload, 1) := by decide +kernel
theorem dX4_cheapest_113 : decode cX4_cheapest 113 = .ok (.if_icmp .ge 13, 3) := by decide +kernel
theorem dX4_cheapest_116 : decode cX4_cheapest 116 = .ok (.aload_n 0, 1) := by decide +kernel
theorem dX4_cheapest_117 : decode cX4_cheapest 117 = .ok (.getfield 24, 3) := by decide +kernel
theorem dX4_cheapest_120 : decode cX4_cheapest 120 = .ok (.iload 6, 2) := by decide +kernel
theorem dX4_cheapest_122 : decode cX4_cheapest 122 = .ok (.ldc2_w 44, 3) := by decide +kernel
theorem dX4_cheapest_125 : decode cX4_cheapest 125 = .ok (.lastore, 1) := by decide +kernel
theorem dX4_cheapest_126 : decode cX4_cheapest 126 = .ok (.iinc 6 (-1), 3) := by decide +kernel
theorem dX4_cheapest_129 : decode cX4_cheapest 129 = .ok (.goto (-81), 3) := by decide +kernel
theorem dX4_cheapest_132 : decode cX4_cheapest 132 = .ok (.iinc 3 1, 3) := by decide +kernel
theorem dX4_cheapest_135 : decode cX4_cheapest 135 = .ok (.goto (-116), 3) := by decide +kernel
theorem dX4_cheapest_138 : decode cX4_cheapest 138 = .ok (.aload_n 0, 1) := by decide +kernel
theorem dX4_cheapest_139 : decode cX4_cheapest 139 = .ok (.invokevirtual 55, 3) := by decide +kernel
theorem dX4_cheapest_142 : decode cX4_cheapest 142 = .ok (.lreturn, 1) := by decide +kernel
theorem dX4_leastPrice_0 : decode cX4_leastPrice 0 = .ok (.ldc2_w 44, 3) := by decide +kernel
theorem dX4_leastPrice_3 : decode cX4_leastPrice 3 = .ok (.lstore_n 1, 1) := by decide +kernel
theorem dX4_leastPrice_4 : decode cX4_leastPrice 4 = .ok (.iconst 0, 1) := by decide +kernel
theorem dX4_leastPrice_5 : decode cX4_leastPrice 5 = .ok (.istore_n 3, 1) := by decide +kernel
theorem dX4_leastPrice_6 : decode cX4_leastPrice 6 = .ok (.iload_n 3, 1) := by decide +kernel
theorem dX4_leastPrice_7 : decode cX4_leastPrice 7 = .ok (.bipush 24, 2) := by decide +kernel
theorem dX4_leastPrice_9 : decode cX4_leastPrice 9 = .ok (.if_icmp .gt 33, 3) := by decide +kernel
theorem dX4_leastPrice_12 : decode cX4_leastPrice 12 = .ok (.aload_n 0, 1) := by decide +kernel
theorem dX4_leastPrice_13 : decode cX4_leastPrice 13 = .ok (.getfield 24, 3) := by decide +kernel
theorem dX4_leastPrice_16 : decode cX4_leastPrice 16 = .ok (.iload_n 3, 1) := by decide +kernel
theorem dX4_leastPrice_17 : decode cX4_leastPrice 17 = .ok (.laload, 1) := by decide +kernel
theorem dX4_leastPrice_18 : decode cX4_leastPrice 18 = .ok (.invokestatic 59, 3) := by decide +kernel
theorem dX4_leastPrice_21 : decode cX4_leastPrice 21 = .ok (.lload_n 1, 1) := by decide +kernel
theorem dX4_leastPrice_22 : decode cX4_leastPrice 22 = .ok (.invokestatic 59, 3) := by decide +kernel
theorem dX4_leastPrice_25 : decode cX4_leastPrice 25 = .ok (.lcmp, 1) := by decide +kernel
theorem dX4_leastPrice_26 : decode cX4_leastPrice 26 = .ok (.ifCond .ge 10, 3) := by decide +kernel
theorem dX4_leastPrice_29 : decode cX4_leastPrice 29 = .ok (.aload_n 0, 1) := by decide +kernel
theorem dX4_leastPrice_30 : decode cX4_leastPrice 30 = .ok (.getfield 24, 3) := by decide +kernel
theorem dX4_leastPrice_33 : decode cX4_leastPrice 33 = .ok (.iload_n 3, 1) := by decide +kernel
theorem dX4_leastPrice_34 : decode cX4_leastPrice 34 = .ok (.laload, 1) := by decide +kernel
theorem dX4_leastPrice_35 : decode cX4_leastPrice 35 = .ok (.lstore_n 1, 1) := by decide +kernel
theorem dX4_leastPrice_36 : decode cX4_leastPrice 36 = .ok (.iinc 3 1, 3) := by decide +kernel
theorem dX4_leastPrice_39 : decode cX4_leastPrice 39 = .ok (.goto (-33), 3) := by decide +kernel
theorem dX4_leastPrice_42 : decode cX4_leastPrice 42 = .ok (.lload_n 1, 1) := by decide +kernel
theorem dX4_leastPrice_43 : decode cX4_leastPrice 43 = .ok (.lreturn, 1) := by decide +kernel
theorem dX4_priceOf_0 : decode cX4_priceOf 0 = .ok (.lload_n 0, 1) := by decide +kernel
theorem dX4_priceOf_1 : decode cX4_priceOf 1 = .ok (.bipush 24, 2) := by decide +kernel
theorem dX4_priceOf_3 : decode cX4_priceOf 3 = .ok (.lshr, 1) := by decide +kernel
theorem dX4_priceOf_4 : decode cX4_priceOf 4 = .ok (.lreturn, 1) := by decide +kernel
theorem dX4_bitsOf_0 : decode cX4_bitsOf 0 = .ok (.lload_n 0, 1) := by decide +kernel
theorem dX4_bitsOf_1 : decode cX4_bitsOf 1 = .ok (.ldc2_w 63, 3) := by decide +kernel
theorem dX4_bitsOf_4 : decode cX4_bitsOf 4 = .ok (.land, 1) := by decide +kernel
theorem dX4_bitsOf_5 : decode cX4_bitsOf 5 = .ok (.l2i, 1) := by decide +kernel
theorem dX4_bitsOf_6 : decode cX4_bitsOf 6 = .ok (.ireturn, 1) := by decide +kernel
theorem dX4_foldInto_0 : decode cX4_foldInto 0 = .ok (.lload_n 1, 1) := by decide +kernel
theorem dX4_foldInto_1 : decode cX4_foldInto 1 = .ok (.lstore_n 3, 1) := by decide +kernel
theorem dX4_foldInto_2 : decode cX4_foldInto 2 = .ok (.iconst 0, 1) := by decide +kernel
theorem dX4_foldInto_3 : decode cX4_foldInto 3 = .ok (.istore 5, 2) := by decide +kernel
theorem dX4_foldInto_5 : decode cX4_foldInto 5 = .ok (.iload 5, 2) := by decide +kernel
theorem dX4_foldInto_7 : decode cX4_foldInto 7 = .ok (.bipush 7, 2) := by decide +kernel
theorem dX4_foldInto_9 : decode cX4_foldInto 9 = .ok (.if_icmp .ge 41, 3) := by decide +kernel
theorem dX4_foldInto_12 : decode cX4_foldInto 12 = .ok (.aload_n 0, 1) := by decide +kernel
theorem dX4_foldInto_13 : decode cX4_foldInto 13 = .ok (.getfield 9, 3) := by decide +kernel
theorem dX4_foldInto_16 : decode cX4_foldInto 16 = .ok (.iload 5, 2) := by decide +kernel
theorem dX4_foldInto_18 : decode cX4_foldInto 18 = .ok (.baload, 1) := by decide +kernel
theorem dX4_foldInto_19 : decode cX4_foldInto 19 = .ok (.ifCond .eq 17, 3) := by decide +kernel
theorem dX4_foldInto_22 : decode cX4_foldInto 22 = .ok (.lload_n 3, 1) := by decide +kernel
theorem dX4_foldInto_23 : decode cX4_foldInto 23 = .ok (.aload_n 0, 1) := by decide +kernel
theorem dX4_foldInto_24 : decode cX4_foldInto 24 = .ok (.getfield 17, 3) := by decide +kernel
theorem dX4_foldInto_27 : decode cX4_foldInto 27 = .ok (.iload 5, 2) := by decide +kernel
theorem dX4_foldInto_29 : decode cX4_foldInto 29 = .ok (.aaload, 1) := by decide +kernel
theorem dX4_foldInto_30 : decode cX4_foldInto 30 = .ok (.invokestatic 65, 3) := by decide +kernel
theorem dX4_foldInto_33 : decode cX4_foldInto 33 = .ok (.goto 10, 3) := by decide +kernel
theorem dX4_foldInto_36 : decode cX4_foldInto 36 = .ok (.lload_n 3, 1) := by decide +kernel
theorem dX4_foldInto_37 : decode cX4_foldInto 37 = .ok (.ldc2_w 69, 3) := by decide +kernel
theorem dX4_foldInto_40 : decode cX4_foldInto 40 = .ok (.invokestatic 71, 3) := by decide +kernel
theorem dX4_foldInto_43 : decode cX4_foldInto 43 = .ok (.lstore_n 3, 1) := by decide +kernel
theorem dX4_foldInto_44 : decode cX4_foldInto 44 = .ok (.iinc 5 1, 3) := by decide +kernel
theorem dX4_foldInto_47 : decode cX4_foldInto 47 = .ok (.goto (-42), 3) := by decide +kernel
theorem dX4_foldInto_50 : decode cX4_foldInto 50 = .ok (.lload_n 3, 1) := by decide +kernel
theorem dX4_foldInto_51 : decode cX4_foldInto 51 = .ok (.aload_n 0, 1) := by decide +kernel
theorem dX4_foldInto_52 : decode cX4_foldInto 52 = .ok (.getfield 20, 3) := by decide +kernel
theorem dX4_foldInto_55 : decode cX4_foldInto 55 = .ok (.invokestatic 65, 3) := by decide +kernel
theorem dX4_foldInto_58 : decode cX4_foldInto 58 = .ok (.lreturn, 1) := by decide +kernel
theorem dX4_foldRow_0 : decode cX4_foldRow 0 = .ok (.lload_n 0, 1) := by decide +kernel
theorem dX4_foldRow_1 : decode cX4_foldRow 1 = .ok (.lstore_n 3, 1) := by decide +kernel
theorem dX4_foldRow_2 : decode cX4_foldRow 2 = .ok (.aload_n 2, 1) := by decide +kernel
theorem dX4_foldRow_3 : decode cX4_foldRow 3 = .ok (.astore 5, 2) := by decide +kernel
theorem dX4_foldRow_5 : decode cX4_foldRow 5 = .ok (.aload 5, 2) := by decide +kernel
theorem dX4_foldRow_7 : decode cX4_foldRow 7 = .ok (.arraylength, 1) := by decide +kernel
theorem dX4_foldRow_8 : decode cX4_foldRow 8 = .ok (.istore 6, 2) := by decide +kernel
theorem dX4_foldRow_10 : decode cX4_foldRow 10 = .ok (.iconst 0, 1) := by decide +kernel
theorem dX4_foldRow_11 : decode cX4_foldRow 11 = .ok (.istore 7, 2) := by decide +kernel
theorem dX4_foldRow_13 : decode cX4_foldRow 13 = .ok (.iload 7, 2) := by decide +kernel
theorem dX4_foldRow_15 : decode cX4_foldRow 15 = .ok (.iload 6, 2) := by decide +kernel
theorem dX4_foldRow_17 : decode cX4_foldRow 17 = .ok (.if_icmp .ge 24, 3) := by decide +kernel
theorem dX4_foldRow_20 : decode cX4_foldRow 20 = .ok (.aload 5, 2) := by decide +kernel
theorem dX4_foldRow_22 : decode cX4_foldRow 22 = .ok (.iload 7, 2) := by decide +kernel
theorem dX4_foldRow_24 : decode cX4_foldRow 24 = .ok (.iaload, 1) := by decide +kernel
theorem dX4_foldRow_25 : decode cX4_foldRow 25 = .ok (.istore 8, 2) := by decide +kernel
theorem dX4_foldRow_27 : decode cX4_foldRow 27 = .ok (.lload_n 3, 1) := by decide +kernel
theorem dX4_foldRow_28 : decode cX4_foldRow 28 = .ok (.iload 8, 2) := by decide +kernel
theorem dX4_foldRow_30 : decode cX4_foldRow 30 = .ok (.i2l, 1) := by decide +kernel
theorem dX4_foldRow_31 : decode cX4_foldRow 31 = .ok (.invokestatic 71, 3) := by decide +kernel
theorem dX4_foldRow_34 : decode cX4_foldRow 34 = .ok (.lstore_n 3, 1) := by decide +kernel
theorem dX4_foldRow_35 : decode cX4_foldRow 35 = .ok (.iinc 7 1, 3) := by decide +kernel
theorem dX4_foldRow_38 : decode cX4_foldRow 38 = .ok (.goto (-25), 3) := by decide +kernel
theorem dX4_foldRow_41 : decode cX4_foldRow 41 = .ok (.lload_n 3, 1) := by decide +kernel
theorem dX4_foldRow_42 : decode cX4_foldRow 42 = .ok (.lreturn, 1) := by decide +kernel
theorem dX5_init_0 : decode cX5_init 0 = .ok (.aload_n 0, 1) := by decide +kernel
theorem dX5_init_1 : decode cX5_init 1 = .ok (.invokespecial 3, 3) := by decide +kernel
theorem dX5_init_4 : decode cX5_init 4 = .ok (.aload_n 0, 1) := by decide +kernel
theorem dX5_init_5 : decode cX5_init 5 = .ok (.sipush 500, 3) := by decide +kernel
theorem dX5_init_8 : decode cX5_init 8 = .ok (.newarray .int, 2) := by decide +kernel
theorem dX5_init_10 : decode cX5_init 10 = .ok (.putfield 9, 3) := by decide +kernel
theorem dX5_init_13 : decode cX5_init 13 = .ok (.aload_n 0, 1) := by decide +kernel
theorem dX5_init_14 : decode cX5_init 14 = .ok (.sipush 500, 3) := by decide +kernel
theorem dX5_init_17 : decode cX5_init 17 = .ok (.newarray .int, 2) := by decide +kernel
theorem dX5_init_19 : decode cX5_init 19 = .ok (.putfield 15, 3) := by decide +kernel
theorem dX5_init_22 : decode cX5_init 22 = .ok (.aload_n 0, 1) := by decide +kernel
theorem dX5_init_23 : decode cX5_init 23 = .ok (.iconst 3, 1) := by decide +kernel
theorem dX5_init_24 : decode cX5_init 24 = .ok (.newarray .int, 2) := by decide +kernel
theorem dX5_init_26 : decode cX5_init 26 = .ok (.putfield 18, 3) := by decide +kernel
theorem dX5_init_29 : decode cX5_init 29 = .ok (.aload_n 0, 1) := by decide +kernel
theorem dX5_init_30 : decode cX5_init 30 = .ok (.iconst 3, 1) := by decide +kernel
theorem dX5_init_31 : decode cX5_init 31 = .ok (.newarray .int, 2) := by decide +kernel
theorem dX5_init_33 : decode cX5_init 33 = .ok (.putfield 21, 3) := by decide +kernel
theorem dX5_init_36 : decode cX5_init 36 = .ok (.aload_n 0, 1) := by decide +kernel
theorem dX5_init_37 : decode cX5_init 37 = .ok (.sipush 500, 3) := by decide +kernel
theorem dX5_init_40 : decode cX5_init 40 = .ok (.newarray .int, 2) := by decide +kernel
theorem dX5_init_42 : decode cX5_init 42 = .ok (.putfield 24, 3) := by decide +kernel
theorem dX5_init_45 : decode cX5_init 45 = .ok (.aload_n 0, 1) := by decide +kernel
theorem dX5_init_46 : decode cX5_init 46 = .ok (.sipush 500, 3) := by decide +kernel
theorem dX5_init_49 : decode cX5_init 49 = .ok (.newarray .int, 2) := by decide +kernel
theorem dX5_init_51 : decode cX5_init 51 = .ok (.putfield 27, 3) := by decide +kernel
theorem dX5_init_54 : decode cX5_init 54 = .ok (.aload_n 0, 1) := by decide +kernel
theorem dX5_init_55 : decode cX5_init 55 = .ok (.iconst 0, 1) := by decide +kernel
theorem dX5_init_56 : decode cX5_init 56 = .ok (.putfield 30, 3) := by decide +kernel
theorem dX5_init_59 : decode cX5_init 59 = .ok (.return_, 1) := by decide +kernel
theorem dX5_tonsIn_0 : decode cX5_tonsIn 0 = .ok (.aload_n 0, 1) := by decide +kernel
theorem dX5_tonsIn_1 : decode cX5_tonsIn 1 = .ok (.getfield 18, 3) := by decide +kernel
theorem dX5_tonsIn_4 : decode cX5_tonsIn 4 = .ok (.iload_n 1, 1) := by decide +kernel
theorem dX5_tonsIn_5 : decode cX5_tonsIn 5 = .ok (.iaload, 1) := by decide +kernel
theorem dX5_tonsIn_6 : decode cX5_tonsIn 6 = .ok (.ireturn, 1) := by decide +kernel
theorem dX5_lotsIn_0 : decode cX5_lotsIn 0 = .ok (.aload_n 0, 1) := by decide +kernel
theorem dX5_lotsIn_1 : decode cX5_lotsIn 1 = .ok (.getfield 21, 3) := by decide +kernel
theorem dX5_lotsIn_4 : decode cX5_lotsIn 4 = .ok (.iload_n 1, 1) := by decide +kernel
theorem dX5_lotsIn_5 : decode cX5_lotsIn 5 = .ok (.iaload, 1) := by decide +kernel
theorem dX5_lotsIn_6 : decode cX5_lotsIn 6 = .ok (.ireturn, 1) := by decide +kernel
theorem dX5_lotsInBag_0 : decode cX5_lotsInBag 0 = .ok (.aload_n 0, 1) := by decide +kernel
theorem dX5_lotsInBag_1 : decode cX5_lotsInBag 1 = .ok (.getfield 30, 3) := by decide +kernel
theorem dX5_lotsInBag_4 : decode cX5_lotsInBag 4 = .ok (.ireturn, 1) := by decide +kernel
theorem dX5_stepInBag_0 : decode cX5_stepInBag 0 = .ok (.aload_n 0, 1) := by decide +kernel
theorem dX5_stepInBag_1 : decode cX5_stepInBag 1 = .ok (.getfield 24, 3) := by decide +kernel
theorem dX5_stepInBag_4 : decode cX5_stepInBag 4 = .ok (.iload_n 1, 1) := by decide +kernel
theorem dX5_stepInBag_5 : decode cX5_stepInBag 5 = .ok (.iaload, 1) := by decide +kernel
theorem dX5_stepInBag_6 : decode cX5_stepInBag 6 = .ok (.ireturn, 1) := by decide +kernel
theorem dX5_tonsInBag_0 : decode cX5_tonsInBag 0 = .ok (.aload_n 0, 1) := by decide +kernel
theorem dX5_tonsInBag_1 : decode cX5_tonsInBag 1 = .ok (.getfield 27, 3) := by decide +kernel
theorem dX5_tonsInBag_4 : decode cX5_tonsInBag 4 = .ok (.iload_n 1, 1) := by decide +kernel
theorem dX5_tonsInBag_5 : decode cX5_tonsInBag 5 = .ok (.iaload, 1) := by decide +kernel
theorem dX5_tonsInBag_6 : decode cX5_tonsInBag 6 = .ok (.ireturn, 1) := by decide +kernel
theorem dX5_store_0 : decode cX5_store 0 = .ok (.aload_n 0, 1) := by decide +kernel
theorem dX5_store_1 : decode cX5_store 1 = .ok (.getfield 9, 3) := by decide +kernel
theorem dX5_store_4 : decode cX5_store 4 = .ok (.iload_n 1, 1) := by decide +kernel
theorem dX5_store_5 : decode cX5_store 5 = .ok (.iload_n 2, 1) := by decide +kernel
theorem dX5_store_6 : decode cX5_store 6 = .ok (.iastore, 1) := by decide +kernel
theorem dX5_store_7 : decode cX5_store 7 = .ok (.aload_n 0, 1) := by decide +kernel
theorem dX5_store_8 : decode cX5_store 8 = .ok (.getfield 15, 3) := by decide +kernel
theorem dX5_store_11 : decode cX5_store 11 = .ok (.iload_n 1, 1) := by decide +kernel
theorem dX5_store_12 : decode cX5_store 12 = .ok (.iload_n 3, 1) := by decide +kernel
theorem dX5_store_13 : decode cX5_store 13 = .ok (.iastore, 1) := by decide +kernel
theorem dX5_store_14 : decode cX5_store 14 = .ok (.aload_n 0, 1) := by decide +kernel
theorem dX5_store_15 : decode cX5_store 15 = .ok (.getfield 18, 3) := by decide +kernel
theorem dX5_store_18 : decode cX5_store 18 = .ok (.iload_n 2, 1) := by decide +kernel
theorem dX5_store_19 : decode cX5_store 19 = .ok (.dup2, 1) := by decide +kernel
theorem dX5_store_20 : decode cX5_store 20 = .ok (.iaload, 1) := by decide +kernel
theorem dX5_store_21 : decode cX5_store 21 = .ok (.iload_n 3, 1) := by decide +kernel
theorem dX5_store_22 : decode cX5_store 22 = .ok (.iadd, 1) := by decide +kernel
theorem dX5_store_23 : decode cX5_store 23 = .ok (.iastore, 1) := by decide +kernel
theorem dX5_store_24 : decode cX5_store 24 = .ok (.aload_n 0, 1) := by decide +kernel
theorem dX5_store_25 : decode cX5_store 25 = .ok (.getfield 21, 3) := by decide +kernel
theorem dX5_store_28 : decode cX5_store 28 = .ok (.iload_n 2, 1) := by decide +kernel
theorem dX5_store_29 : decode cX5_store 29 = .ok (.dup2, 1) := by decide +kernel
theorem dX5_store_30 : decode cX5_store 30 = .ok (.iaload, 1) := by decide +kernel
theorem dX5_store_31 : decode cX5_store 31 = .ok (.iconst 1, 1) := by decide +kernel
theorem dX5_store_32 : decode cX5_store 32 = .ok (.iadd, 1) := by decide +kernel
theorem dX5_store_33 : decode cX5_store 33 = .ok (.iastore, 1) := by decide +kernel
theorem dX5_store_34 : decode cX5_store 34 = .ok (.return_, 1) := by decide +kernel
theorem dX5_fill_0 : decode cX5_fill 0 = .ok (.iload_n 2, 1) := by decide +kernel
theorem dX5_fill_1 : decode cX5_fill 1 = .ok (.istore_n 3, 1) := by decide +kernel
theorem dX5_fill_2 : decode cX5_fill 2 = .ok (.aload_n 0, 1) := by decide +kernel
theorem dX5_fill_3 : decode cX5_fill 3 = .ok (.iconst 0, 1) := by decide +kernel
theorem dX5_fill_4 : decode cX5_fill 4 = .ok (.putfield 30, 3) := by decide +kernel
theorem dX5_fill_7 : decode cX5_fill 7 = .ok (.iconst 0, 1) := by decide +kernel
theorem dX5_fill_8 : decode cX5_fill 8 = .ok (.istore 4, 2) := by decide +kernel
theorem dX5_fill_10 : decode cX5_fill 10 = .ok (.iload 4, 2) := by decide +kernel
theorem dX5_fill_12 : decode cX5_fill 12 = .ok (.sipush 500, 3) := by decide +kernel
theorem dX5_fill_15 : decode cX5_fill 15 = .ok (.if_icmp .ge 44, 3) := by decide +kernel
theorem dX5_fill_18 : decode cX5_fill 18 = .ok (.iload_n 3, 1) := by decide +kernel
theorem dX5_fill_19 : decode cX5_fill 19 = .ok (.ifCond .le 40, 3) := by decide +kernel
theorem dX5_fill_22 : decode cX5_fill 22 = .ok (.aload_n 0, 1) := by decide +kernel
theorem dX5_fill_23 : decode cX5_fill 23 = .ok (.getfield 9, 3) := by decide +kernel
theorem dX5_fill_26 : decode cX5_fill 26 = .ok (.iload 4, 2) := by decide +kernel
theorem dX5_fill_28 : decode cX5_fill 28 = .ok (.iaload, 1) := by decide +kernel
theorem dX5_fill_29 : decode cX5_fill 29 = .ok (.iload_n 1, 1) := by decide +kernel
theorem dX5_fill_30 : decode cX5_fill 30 = .ok (.if_icmp .ne 23, 3) := by decide +kernel
theorem dX5_fill_33 : decode cX5_fill 33 = .ok (.aload_n 0, 1) := by decide +kernel
theorem dX5_fill_34 : decode cX5_fill 34 = .ok (.getfield 15, 3) := by decide +kernel
theorem dX5_fill_37 : decode cX5_fill 37 = .ok (.iload 4, 2) := by decide +kernel
theorem dX5_fill_39 : decode cX5_fill 39 = .ok (.iaload, 1) := by decide +kernel
theorem dX5_fill_40 : decode cX5_fill 40 = .ok (.ifCond .le 13, 3) := by decide +kernel
theorem dX5_fill_43 : decode cX5_fill 43 = .ok (.iload_n 3, 1) := by decide +kernel
theorem dX5_fill_44 : decode cX5_fill 44 = .ok (.aload_n 0, 1) := by decide +kernel
theorem dX5_fill_45 : decode cX5_fill 45 = .ok (.iload 4, 2) := by decide +kernel
theorem dX5_fill_47 : decode cX5_fill 47 = .ok (.iload_n 3, 1) := by decide +kernel
theorem dX5_fill_48 : decode cX5_fill 48 = .ok (.invokevirtual 34, 3) := by decide +kernel
theorem dX5_fill_51 : decode cX5_fill 51 = .ok (.isub, 1) := by decide +kernel
theorem dX5_fill_52 : decode cX5_fill 52 = .ok (.istore_n 3, 1) := by decide +kernel
theorem dX5_fill_53 : decode cX5_fill 53 = .ok (.iinc 4 1, 3) := by decide +kernel
theorem dX5_fill_56 : decode cX5_fill 56 = .ok (.goto (-46), 3) := by decide +kernel
theorem dX5_fill_59 : decode cX5_fill 59 = .ok (.aload_n 0, 1) := by decide +kernel
theorem dX5_fill_60 : decode cX5_fill 60 = .ok (.getfield 30, 3) := by decide +kernel
theorem dX5_fill_63 : decode cX5_fill 63 = .ok (.ireturn, 1) := by decide +kernel
theorem dX5_takeOf_0 : decode cX5_takeOf 0 = .ok (.aload_n 0, 1) := by decide +kernel
theorem dX5_takeOf_1 : decode cX5_takeOf 1 = .ok (.getfield 9, 3) := by decide +kernel
theorem dX5_takeOf_4 : decode cX5_takeOf 4 = .ok (.iload_n 1, 1) := by decide +kernel
theorem dX5_takeOf_5 : decode cX5_takeOf 5 = .ok (.iaload, 1) := by decide +kernel
theorem dX5_takeOf_6 : decode cX5_takeOf 6 = .ok (.istore_n 3, 1) := by decide +kernel
theorem dX5_takeOf_7 : decode cX5_takeOf 7 = .ok (.aload_n 0, 1) := by decide +kernel
theorem dX5_takeOf_8 : decode cX5_takeOf 8 = .ok (.getfield 15, 3) := by decide +kernel
theorem dX5_takeOf_11 : decode cX5_takeOf 11 = .ok (.iload_n 1, 1) := by decide +kernel
theorem dX5_takeOf_12 : decode cX5_takeOf 12 = .ok (.iaload, 1) := by decide +kernel
theorem dX5_takeOf_13 : decode cX5_takeOf 13 = .ok (.iload_n 2, 1) := by decide +kernel
theorem dX5_takeOf_14 : decode cX5_takeOf 14 = .ok (.invokestatic 38, 3) := by decide +kernel
theorem dX5_takeOf_17 : decode cX5_takeOf 17 = .ok (.istore 4, 2) := by decide +kernel
theorem dX5_takeOf_19 : decode cX5_takeOf 19 = .ok (.aload_n 0, 1) := by decide +kernel
theorem dX5_takeOf_20 : decode cX5_takeOf 20 = .ok (.getfield 15, 3) := by decide +kernel
theorem dX5_takeOf_23 : decode cX5_takeOf 23 = .ok (.iload_n 1, 1) := by decide +kernel
theorem dX5_takeOf_24 : decode cX5_takeOf 24 = .ok (.dup2, 1) := by decide +kernel
theorem dX5_takeOf_25 : decode cX5_takeOf 25 = .ok (.iaload, 1) := by decide +kernel
theorem dX5_takeOf_26 : decode cX5_takeOf 26 = .ok (.iload 4, 2) := by decide +kernel
theorem dX5_takeOf_28 : decode cX5_takeOf 28 = .ok (.isub, 1) := by decide +kernel
theorem dX5_takeOf_29 : decode cX5_takeOf 29 = .ok (.iastore, 1) := by decide +kernel
theorem dX5_takeOf_30 : decode cX5_takeOf 30 = .ok (.aload_n 0, 1) := by decide +kernel
theorem dX5_takeOf_31 : decode cX5_takeOf 31 = .ok (.getfield 18, 3) := by decide +kernel
theorem dX5_takeOf_34 : decode cX5_takeOf 34 = .ok (.iload_n 3, 1) := by decide +kernel
theorem dX5_takeOf_35 : decode cX5_takeOf 35 = .ok (.dup2, 1) := by decide +kernel
theorem dX5_takeOf_36 : decode cX5_takeOf 36 = .ok (.iaload, 1) := by decide +kernel
theorem dX5_takeOf_37 : decode cX5_takeOf 37 = .ok (.iload 4, 2) := by decide +kernel
theorem dX5_takeOf_39 : decode cX5_takeOf 39 = .ok (.isub, 1) := by decide +kernel
theorem dX5_takeOf_40 : decode cX5_takeOf 40 = .ok (.iastore, 1) := by decide +kernel
theorem dX5_takeOf_41 : decode cX5_takeOf 41 = .ok (.aload_n 0, 1) := by decide +kernel
theorem dX5_takeOf_42 : decode cX5_takeOf 42 = .ok (.getfield 15, 3) := by decide +kernel
theorem dX5_takeOf_45 : decode cX5_takeOf 45 = .ok (.iload_n 1, 1) := by decide +kernel
theorem dX5_takeOf_46 : decode cX5_takeOf 46 = .ok (.iaload, 1) := by decide +kernel
theorem dX5_takeOf_47 : decode cX5_takeOf 47 = .ok (.ifCond .ne 13, 3) := by decide +kernel
theorem dX5_takeOf_50 : decode cX5_takeOf 50 = .ok (.aload_n 0, 1) := by decide +kernel
theorem dX5_takeOf_51 : decode cX5_takeOf 51 = .ok (.getfield 21, 3) := by decide +kernel
theorem dX5_takeOf_54 : decode cX5_takeOf 54 = .ok (.iload_n 3, 1) := by decide +kernel
theorem dX5_takeOf_55 : decode cX5_takeOf 55 = .ok (.dup2, 1) := by decide +kernel
theorem dX5_takeOf_56 : decode cX5_takeOf 56 = .ok (.iaload, 1) := by decide +kernel
theorem dX5_takeOf_57 : decode cX5_takeOf 57 = .ok (.iconst 1, 1) := by decide +kernel
theorem dX5_takeOf_58 : decode cX5_takeOf 58 = .ok (.isub, 1) := by decide +kernel
theorem dX5_takeOf_59 : decode cX5_takeOf 59 = .ok (.iastore, 1) := by decide +kernel
theorem dX5_takeOf_60 : decode cX5_takeOf 60 = .ok (.aload_n 0, 1) := by decide +kernel
theorem dX5_takeOf_61 : decode cX5_takeOf 61 = .ok (.getfield 24, 3) := by decide +kernel
theorem dX5_takeOf_64 : decode cX5_takeOf 64 = .ok (.aload_n 0, 1) := by decide +kernel
theorem dX5_takeOf_65 : decode cX5_takeOf 65 = .ok (.getfield 30, 3) := by decide +kernel
theorem dX5_takeOf_68 : decode cX5_takeOf 68 = .ok (.iload_n 1, 1) := by decide +kernel
theorem dX5_takeOf_69 : decode cX5_takeOf 69 = .ok (.iastore, 1) := by decide +kernel
theorem dX5_takeOf_70 : decode cX5_takeOf 70 = .ok (.aload_n 0, 1) := by decide +kernel
theorem dX5_takeOf_71 : decode cX5_takeOf 71 = .ok (.getfield 27, 3) := by decide +kernel
theorem dX5_takeOf_74 : decode cX5_takeOf 74 = .ok (.aload_n 0, 1) := by decide +kernel
theorem dX5_takeOf_75 : decode cX5_takeOf 75 = .ok (.getfield 30, 3) := by decide +kernel
theorem dX5_takeOf_78 : decode cX5_takeOf 78 = .ok (.iload 4, 2) := by decide +kernel
theorem dX5_takeOf_80 : decode cX5_takeOf 80 = .ok (.iastore, 1) := by decide +kernel
theorem dX5_takeOf_81 : decode cX5_takeOf 81 = .ok (.aload_n 0, 1) := by decide +kernel
theorem dX5_takeOf_82 : decode cX5_takeOf 82 = .ok (.dup, 1) := by decide +kernel
theorem dX5_takeOf_83 : decode cX5_takeOf 83 = .ok (.getfield 30, 3) := by decide +kernel
theorem dX5_takeOf_86 : decode cX5_takeOf 86 = .ok (.iconst 1, 1) := by decide +kernel
theorem dX5_takeOf_87 : decode cX5_takeOf 87 = .ok (.iadd, 1) := by decide +kernel
theorem dX5_takeOf_88 : decode cX5_takeOf 88 = .ok (.putfield 30, 3) := by decide +kernel
theorem dX5_takeOf_91 : decode cX5_takeOf 91 = .ok (.iload 4, 2) := by decide +kernel
theorem dX5_takeOf_93 : decode cX5_takeOf 93 = .ok (.ireturn, 1) := by decide +kernel
theorem dX5_foldInto_0 : decode cX5_foldInto 0 = .ok (.lload_n 1, 1) := by decide +kernel
theorem dX5_foldInto_1 : decode cX5_foldInto 1 = .ok (.lstore_n 3, 1) := by decide +kernel
theorem dX5_foldInto_2 : decode cX5_foldInto 2 = .ok (.iconst 0, 1) := by decide +kernel
theorem dX5_foldInto_3 : decode cX5_foldInto 3 = .ok (.istore 5, 2) := by decide +kernel
theorem dX5_foldInto_5 : decode cX5_foldInto 5 = .ok (.iload 5, 2) := by decide +kernel
theorem dX5_foldInto_7 : decode cX5_foldInto 7 = .ok (.iconst 3, 1) := by decide +kernel
theorem dX5_foldInto_8 : decode cX5_foldInto 8 = .ok (.if_icmp .ge 35, 3) := by decide +kernel
theorem dX5_foldInto_11 : decode cX5_foldInto 11 = .ok (.lload_n 3, 1) := by decide +kernel
theorem dX5_foldInto_12 : decode cX5_foldInto 12 = .ok (.aload_n 0, 1) := by decide +kernel
theorem dX5_foldInto_13 : decode cX5_foldInto 13 = .ok (.getfield 18, 3) := by decide +kernel
theorem dX5_foldInto_16 : decode cX5_foldInto 16 = .ok (.iload 5, 2) := by decide +kernel
theorem dX5_foldInto_18 : decode cX5_foldInto 18 = .ok (.iaload, 1) := by decide +kernel
theorem dX5_foldInto_19 : decode cX5_foldInto 19 = .ok (.i2l, 1) := by decide +kernel
theorem dX5_foldInto_20 : decode cX5_foldInto 20 = .ok (.invokestatic 43, 3) := by decide +kernel
theorem dX5_foldInto_23 : decode cX5_foldInto 23 = .ok (.lstore_n 3, 1) := by decide +kernel
theorem dX5_foldInto_24 : decode cX5_foldInto 24 = .ok (.lload_n 3, 1) := by decide +kernel
theorem dX5_foldInto_25 : decode cX5_foldInto 25 = .ok (.aload_n 0, 1) := by decide +kernel
theorem dX5_foldInto_26 : decode cX5_foldInto 26 = .ok (.getfield 21, 3) := by decide +kernel
theorem dX5_foldInto_29 : decode cX5_foldInto 29 = .ok (.iload 5, 2) := by decide +kernel
theorem dX5_foldInto_31 : decode cX5_foldInto 31 = .ok (.iaload, 1) := by decide +kernel
theorem dX5_foldInto_32 : decode cX5_foldInto 32 = .ok (.i2l, 1) := by decide +kernel
theorem dX5_foldInto_33 : decode cX5_foldInto 33 = .ok (.invokestatic 43, 3) := by decide +kernel
theorem dX5_foldInto_36 : decode cX5_foldInto 36 = .ok (.lstore_n 3, 1) := by decide +kernel
theorem dX5_foldInto_37 : decode cX5_foldInto 37 = .ok (.iinc 5 1, 3) := by decide +kernel
theorem dX5_foldInto_40 : decode cX5_foldInto 40 = .ok (.goto (-35), 3) := by decide +kernel
theorem dX5_foldInto_43 : decode cX5_foldInto 43 = .ok (.lload_n 3, 1) := by decide +kernel
theorem dX5_foldInto_44 : decode cX5_foldInto 44 = .ok (.lreturn, 1) := by decide +kernel
theorem dX6_init_0 : decode cX6_init 0 = .ok (.aload_n 0, 1) := by decide +kernel
theorem dX6_init_1 : decode cX6_init 1 = .ok (.invokespecial 1, 3) := by decide +kernel
theorem dX6_init_4 : decode cX6_init 4 = .ok (.aload_n 0, 1) := by decide +kernel
theorem dX6_init_5 : decode cX6_init 5 = .ok (.new 7, 3) := by decide +kernel
theorem dX6_init_8 : decode cX6_init 8 = .ok (.dup, 1) := by decide +kernel
theorem dX6_init_9 : decode cX6_init 9 = .ok (.invokespecial 9, 3) := by decide +kernel
theorem dX6_init_12 : decode cX6_init 12 = .ok (.putfield 10, 3) := by decide +kernel
theorem dX6_init_15 : decode cX6_init 15 = .ok (.aload_n 0, 1) := by decide +kernel
theorem dX6_init_16 : decode cX6_init 16 = .ok (.new 16, 3) := by decide +kernel
theorem dX6_init_19 : decode cX6_init 19 = .ok (.dup, 1) := by decide +kernel
theorem dX6_init_20 : decode cX6_init 20 = .ok (.invokespecial 18, 3) := by decide +kernel
theorem dX6_init_23 : decode cX6_init 23 = .ok (.putfield 19, 3) := by decide +kernel
theorem dX6_init_26 : decode cX6_init 26 = .ok (.aload_n 0, 1) := by decide +kernel
theorem dX6_init_27 : decode cX6_init 27 = .ok (.new 23, 3) := by decide +kernel
theorem dX6_init_30 : decode cX6_init 30 = .ok (.dup, 1) := by decide +kernel
theorem dX6_init_31 : decode cX6_init 31 = .ok (.invokespecial 25, 3) := by decide +kernel
theorem dX6_init_34 : decode cX6_init 34 = .ok (.putfield 26, 3) := by decide +kernel
theorem dX6_init_37 : decode cX6_init 37 = .ok (.aload_n 0, 1) := by decide +kernel
theorem dX6_init_38 : decode cX6_init 38 = .ok (.new 30, 3) := by decide +kernel
theorem dX6_init_41 : decode cX6_init 41 = .ok (.dup, 1) := by decide +kernel
theorem dX6_init_42 : decode cX6_init 42 = .ok (.invokespecial 32, 3) := by decide +kernel
theorem dX6_init_45 : decode cX6_init 45 = .ok (.putfield 33, 3) := by decide +kernel
theorem dX6_init_48 : decode cX6_init 48 = .ok (.aload_n 0, 1) := by decide +kernel
theorem dX6_init_49 : decode cX6_init 49 = .ok (.new 37, 3) := by decide +kernel
theorem dX6_init_52 : decode cX6_init 52 = .ok (.dup, 1) := by decide +kernel
theorem dX6_init_53 : decode cX6_init 53 = .ok (.invokespecial 39, 3) := by decide +kernel
theorem dX6_init_56 : decode cX6_init 56 = .ok (.putfield 40, 3) := by decide +kernel
theorem dX6_init_59 : decode cX6_init 59 = .ok (.aload_n 0, 1) := by decide +kernel
theorem dX6_init_60 : decode cX6_init 60 = .ok (.new 44, 3) := by decide +kernel
theorem dX6_init_63 : decode cX6_init 63 = .ok (.dup, 1) := by decide +kernel
theorem dX6_init_64 : decode cX6_init 64 = .ok (.invokespecial 46, 3) := by decide +kernel
theorem dX6_init_67 : decode cX6_init 67 = .ok (.putfield 47, 3) := by decide +kernel
theorem dX6_init_70 : decode cX6_init 70 = .ok (.aload_n 0, 1) := by decide +kernel
theorem dX6_init_71 : decode cX6_init 71 = .ok (.lconst 0, 1) := by decide +kernel
theorem dX6_init_72 : decode cX6_init 72 = .ok (.putfield 51, 3) := by decide +kernel
theorem dX6_init_75 : decode cX6_init 75 = .ok (.aload_n 0, 1) := by decide +kernel
theorem dX6_init_76 : decode cX6_init 76 = .ok (.lconst 1, 1) := by decide +kernel
theorem dX6_init_77 : decode cX6_init 77 = .ok (.putfield 55, 3) := by decide +kernel
theorem dX6_init_80 : decode cX6_init 80 = .ok (.aload_n 0, 1) := by decide +kernel
theorem dX6_init_81 : decode cX6_init 81 = .ok (.lconst 0, 1) := by decide +kernel
theorem dX6_init_82 : decode cX6_init 82 = .ok (.putfield 58, 3) := by decide +kernel
theorem dX6_init_85 : decode cX6_init 85 = .ok (.return_, 1) := by decide +kernel
theorem dX6_stroke_0 : decode cX6_stroke 0 = .ok (.iload_n 2, 1) := by decide +kernel
theorem dX6_stroke_1 : decode cX6_stroke 1 = .ok (.i2l, 1) := by decide +kernel
theorem dX6_stroke_2 : decode cX6_stroke 2 = .ok (.ldc2_w 61, 3) := by decide +kernel
theorem dX6_stroke_5 : decode cX6_stroke 5 = .ok (.iload_n 3, 1) := by decide +kernel
theorem dX6_stroke_6 : decode cX6_stroke 6 = .ok (.i2l, 1) := by decide +kernel
theorem dX6_stroke_7 : decode cX6_stroke 7 = .ok (.lmul, 1) := by decide +kernel
theorem dX6_stroke_8 : decode cX6_stroke 8 = .ok (.ladd, 1) := by decide +kernel
theorem dX6_stroke_9 : decode cX6_stroke 9 = .ok (.lstore 4, 2) := by decide +kernel
theorem dX6_stroke_11 : decode cX6_stroke 11 = .ok (.iload_n 1, 1) := by decide +kernel
theorem dX6_stroke_12 : decode cX6_stroke 12 = .ok (.iconst 1, 1) := by decide +kernel
theorem dX6_stroke_13 : decode cX6_stroke 13 = .ok (.sipush 1000, 3) := by decide +kernel
theorem dX6_stroke_16 : decode cX6_stroke 16 = .ok (.invokestatic 63, 3) := by decide +kernel
theorem dX6_stroke_19 : decode cX6_stroke 19 = .ok (.ifCond .eq 27, 3) := by decide +kernel
theorem dX6_stroke_22 : decode cX6_stroke 22 = .ok (.iload_n 2, 1) := by decide +kernel
theorem dX6_stroke_23 : decode cX6_stroke 23 = .ok (.iconst 0, 1) := by decide +kernel
theorem dX6_stroke_24 : decode cX6_stroke 24 = .ok (.iload_n 1, 1) := by decide +kernel
theorem dX6_stroke_25 : decode cX6_stroke 25 = .ok (.invokestatic 63, 3) := by decide +kernel
theorem dX6_stroke_28 : decode cX6_stroke 28 = .ok (.ifCond .eq 18, 3) := by decide +kernel
theorem dX6_stroke_31 : decode cX6_stroke 31 = .ok (.lload 4, 2) := by decide +kernel
theorem dX6_stroke_33 : decode cX6_stroke 33 = .ok (.lconst 0, 1) := by decide +kernel
theorem dX6_stroke_34 : decode cX6_stroke 34 = .ok (.lcmp, 1) := by decide +kernel
theorem dX6_stroke_35 : decode cX6_stroke 35 = .ok (.ifCond .lt 11, 3) := by decide +kernel
theorem dX6_stroke_38 : decode cX6_stroke 38 = .ok (.lload 4, 2) := by decide +kernel
theorem dX6_stroke_40 : decode cX6_stroke 40 = .ok (.iload_n 1, 1) := by decide +kernel
theorem dX6_stroke_41 : decode cX6_stroke 41 = .ok (.i2l, 1) := by decide +kernel
theorem dX6_stroke_42 : decode cX6_stroke 42 = .ok (.lcmp, 1) := by decide +kernel
theorem dX6_stroke_43 : decode cX6_stroke 43 = .ok (.ifCond .le 5, 3) := by decide +kernel
theorem dX6_stroke_46 : decode cX6_stroke 46 = .ok (.iconst (-1), 1) := by decide +kernel
theorem dX6_stroke_47 : decode cX6_stroke 47 = .ok (.ireturn, 1) := by decide +kernel
theorem dX6_stroke_48 : decode cX6_stroke 48 = .ok (.aload_n 0, 1) := by decide +kernel
theorem dX6_stroke_49 : decode cX6_stroke 49 = .ok (.getfield 10, 3) := by decide +kernel
theorem dX6_stroke_52 : decode cX6_stroke 52 = .ok (.invokevirtual 67, 3) := by decide +kernel
theorem dX6_stroke_55 : decode cX6_stroke 55 = .ok (.bipush 30, 2) := by decide +kernel
theorem dX6_stroke_57 : decode cX6_stroke 57 = .ok (.if_icmp .lt 6, 3) := by decide +kernel
theorem dX6_stroke_60 : decode cX6_stroke 60 = .ok (.bipush (-2), 2) := by decide +kernel
theorem dX6_stroke_62 : decode cX6_stroke 62 = .ok (.ireturn, 1) := by decide +kernel
theorem dX6_stroke_63 : decode cX6_stroke 63 = .ok (.aload_n 0, 1) := by decide +kernel
theorem dX6_stroke_64 : decode cX6_stroke 64 = .ok (.getfield 10, 3) := by decide +kernel
theorem dX6_stroke_67 : decode cX6_stroke 67 = .ok (.iload_n 1, 1) := by decide +kernel
theorem dX6_stroke_68 : decode cX6_stroke 68 = .ok (.iload_n 2, 1) := by decide +kernel
theorem dX6_stroke_69 : decode cX6_stroke 69 = .ok (.iload_n 3, 1) := by decide +kernel
theorem dX6_stroke_70 : decode cX6_stroke 70 = .ok (.invokevirtual 71, 3) := by decide +kernel
theorem dX6_stroke_73 : decode cX6_stroke 73 = .ok (.ireturn, 1) := by decide +kernel
theorem dX6_cut_0 : decode cX6_cut 0 = .ok (.iload_n 1, 1) := by decide +kernel
theorem dX6_cut_1 : decode cX6_cut 1 = .ok (.iconst 0, 1) := by decide +kernel
theorem dX6_cut_2 : decode cX6_cut 2 = .ok (.bipush 9, 2) := by decide +kernel
theorem dX6_cut_4 : decode cX6_cut 4 = .ok (.invokestatic 63, 3) := by decide +kernel
theorem dX6_cut_7 : decode cX6_cut 7 = .ok (.ifCond .ne 5, 3) := by decide +kernel
theorem dX6_cut_10 : decode cX6_cut 10 = .ok (.iconst (-1), 1) := by decide +kernel
theorem dX6_cut_11 : decode cX6_cut 11 = .ok (.ireturn, 1) := by decide +kernel
theorem dX6_cut_12 : decode cX6_cut 12 = .ok (.aload_n 0, 1) := by decide +kernel
theorem dX6_cut_13 : decode cX6_cut 13 = .ok (.getfield 10, 3) := by decide +kernel
theorem dX6_cut_16 : decode cX6_cut 16 = .ok (.iload_n 1, 1) := by decide +kernel
theorem dX6_cut_17 : decode cX6_cut 17 = .ok (.invokevirtual 75, 3) := by decide +kernel
theorem dX6_cut_20 : decode cX6_cut 20 = .ok (.ifCond .eq 6, 3) := by decide +kernel
theorem dX6_cut_23 : decode cX6_cut 23 = .ok (.bipush (-4), 2) := by decide +kernel
theorem dX6_cut_25 : decode cX6_cut 25 = .ok (.ireturn, 1) := by decide +kernel
theorem dX6_cut_26 : decode cX6_cut 26 = .ok (.aload_n 0, 1) := by decide +kernel
theorem dX6_cut_27 : decode cX6_cut 27 = .ok (.aload_n 0, 1) := by decide +kernel
theorem dX6_cut_28 : decode cX6_cut 28 = .ok (.getfield 10, 3) := by decide +kernel
theorem dX6_cut_31 : decode cX6_cut 31 = .ok (.iload_n 1, 1) := by decide +kernel
theorem dX6_cut_32 : decode cX6_cut 32 = .ok (.invokevirtual 79, 3) := by decide +kernel
theorem dX6_cut_35 : decode cX6_cut 35 = .ok (.i2l, 1) := by decide +kernel
theorem dX6_cut_36 : decode cX6_cut 36 = .ok (.putfield 58, 3) := by decide +kernel
theorem dX6_cut_39 : decode cX6_cut 39 = .ok (.aload_n 0, 1) := by decide +kernel
theorem dX6_cut_40 : decode cX6_cut 40 = .ok (.getfield 10, 3) := by decide +kernel
theorem dX6_cut_43 : decode cX6_cut 43 = .ok (.iload_n 1, 1) := by decide +kernel
theorem dX6_cut_44 : decode cX6_cut 44 = .ok (.invokevirtual 83, 3) := by decide +kernel
theorem dX6_cut_47 : decode cX6_cut 47 = .ok (.ireturn, 1) := by decide +kernel
theorem dX6_place_0 : decode cX6_place 0 = .ok (.iload_n 1, 1) := by decide +kernel
theorem dX6_place_1 : decode cX6_place 1 = .ok (.iconst 0, 1) := by decide +kernel
theorem dX6_place_2 : decode cX6_place 2 = .ok (.bipush 9, 2) := by decide +kernel
theorem dX6_place_4 : decode cX6_place 4 = .ok (.invokestatic 63, 3) := by decide +kernel
theorem dX6_place_7 : decode cX6_place 7 = .ok (.ifCond .eq 12, 3) := by decide +kernel
theorem dX6_place_10 : decode cX6_place 10 = .ok (.iload_n 2, 1) := by decide +kernel
theorem dX6_place_11 : decode cX6_place 11 = .ok (.iconst 0, 1) := by decide +kernel
theorem dX6_place_12 : decode cX6_place 12 = .ok (.iconst 1, 1) := by decide +kernel
theorem dX6_place_13 : decode cX6_place 13 = .ok (.invokestatic 63, 3) := by decide +kernel
theorem dX6_place_16 : decode cX6_place 16 = .ok (.ifCond .ne 5, 3) := by decide +kernel
theorem dX6_place_19 : decode cX6_place 19 = .ok (.iconst (-1), 1) := by decide +kernel
theorem dX6_place_20 : decode cX6_place 20 = .ok (.ireturn, 1) := by decide +kernel
theorem dX6_place_21 : decode cX6_place 21 = .ok (.iload_n 2, 1) := by decide +kernel
theorem dX6_place_22 : decode cX6_place 22 = .ok (.ifCond .ne 14, 3) := by decide +kernel
theorem dX6_place_25 : decode cX6_place 25 = .ok (.aload_n 0, 1) := by decide +kernel
theorem dX6_place_26 : decode cX6_place 26 = .ok (.getfield 10, 3) := by decide +kernel
theorem dX6_place_29 : decode cX6_place 29 = .ok (.iload_n 1, 1) := by decide +kernel
theorem dX6_place_30 : decode cX6_place 30 = .ok (.invokevirtual 86, 3) := by decide +kernel
theorem dX6_place_33 : decode cX6_place 33 = .ok (.goto 11, 3) := by decide +kernel
theorem dX6_place_36 : decode cX6_place 36 = .ok (.aload_n 0, 1) := by decide +kernel
theorem dX6_place_37 : decode cX6_place 37 = .ok (.getfield 10, 3) := by decide +kernel
theorem dX6_place_40 : decode cX6_place 40 = .ok (.iload_n 1, 1) := by decide +kernel
theorem dX6_place_41 : decode cX6_place 41 = .ok (.invokevirtual 79, 3) := by decide +kernel
theorem dX6_place_44 : decode cX6_place 44 = .ok (.ireturn, 1) := by decide +kernel
theorem dX6_spread_0 : decode cX6_spread 0 = .ok (.aload_n 0, 1) := by decide +kernel
theorem dX6_spread_1 : decode cX6_spread 1 = .ok (.getfield 10, 3) := by decide +kernel
theorem dX6_spread_4 : decode cX6_spread 4 = .ok (.invokevirtual 89, 3) := by decide +kernel
theorem dX6_spread_7 : decode cX6_spread 7 = .ok (.ireturn, 1) := by decide +kernel
theorem dX6_strokeSpread_0 : decode cX6_strokeSpread 0 = .ok (.iload_n 1, 1) := by decide +kernel
theorem dX6_strokeSpread_1 : decode cX6_strokeSpread 1 = .ok (.iconst 0, 1) := by decide +kernel
theorem dX6_strokeSpread_2 : decode cX6_strokeSpread 2 = .ok (.aload_n 0, 1) := by decide +kernel
theorem dX6_strokeSpread_3 : decode cX6_strokeSpread 3 = .ok (.getfield 10, 3) := by decide +kernel
theorem dX6_strokeSpread_6 : decode cX6_strokeSpread 6 = .ok (.invokevirtual 67, 3) := by decide +kernel
theorem dX6_strokeSpread_9 : decode cX6_strokeSpread 9 = .ok (.iconst 1, 1) := by decide +kernel
theorem dX6_strokeSpread_10 : decode cX6_strokeSpread 10 = .ok (.isub, 1) := by decide +kernel
theorem dX6_strokeSpread_11 : decode cX6_strokeSpread 11 = .ok (.invokestatic 63, 3) := by decide +kernel
theorem dX6_strokeSpread_14 : decode cX6_strokeSpread 14 = .ok (.ifCond .ne 5, 3) := by decide +kernel
theorem dX6_strokeSpread_17 : decode cX6_strokeSpread 17 = .ok (.iconst (-1), 1) := by decide +kernel
theorem dX6_strokeSpread_18 : decode cX6_strokeSpread 18 = .ok (.ireturn, 1) := by decide +kernel
theorem dX6_strokeSpread_19 : decode cX6_strokeSpread 19 = .ok (.aload_n 0, 1) := by decide +kernel
theorem dX6_strokeSpread_20 : decode cX6_strokeSpread 20 = .ok (.getfield 10, 3) := by decide +kernel
theorem dX6_strokeSpread_23 : decode cX6_strokeSpread 23 = .ok (.iload_n 1, 1) := by decide +kernel
theorem dX6_strokeSpread_24 : decode cX6_strokeSpread 24 = .ok (.invokevirtual 92, 3) := by decide +kernel
theorem dX6_strokeSpread_27 : decode cX6_strokeSpread 27 = .ok (.ireturn, 1) := by decide +kernel
theorem dX6_clear_0 : decode cX6_clear 0 = .ok (.aload_n 0, 1) := by decide +kernel
theorem dX6_clear_1 : decode cX6_clear 1 = .ok (.getfield 10, 3) := by decide +kernel
theorem dX6_clear_4 : decode cX6_clear 4 = .ok (.invokevirtual 95, 3) := by decide +kernel
theorem dX6_clear_7 : decode cX6_clear 7 = .ok (.ireturn, 1) := by decide +kernel
theorem dX6_stock_0 : decode cX6_stock 0 = .ok (.iload_n 1, 1) := by decide +kernel
theorem dX6_stock_1 : decode cX6_stock 1 = .ok (.iconst 0, 1) := by decide +kernel
theorem dX6_stock_2 : decode cX6_stock 2 = .ok (.iconst 3, 1) := by decide +kernel
theorem dX6_stock_3 : decode cX6_stock 3 = .ok (.invokestatic 63, 3) := by decide +kernel
theorem dX6_stock_6 : decode cX6_stock 6 = .ok (.ifCond .eq 13, 3) := by decide +kernel
theorem dX6_stock_9 : decode cX6_stock 9 = .ok (.iload_n 2, 1) := by decide +kernel
theorem dX6_stock_10 : decode cX6_stock 10 = .ok (.iload_n 3, 1) := by decide +kernel
theorem dX6_stock_11 : decode cX6_stock 11 = .ok (.iload 4, 2) := by decide +kernel
theorem dX6_stock_13 : decode cX6_stock 13 = .ok (.invokestatic 98, 3) := by decide +kernel
theorem dX6_stock_16 : decode cX6_stock 16 = .ok (.ifCond .ne 5, 3) := by decide +kernel
theorem dX6_stock_19 : decode cX6_stock 19 = .ok (.iconst (-1), 1) := by decide +kernel
theorem dX6_stock_20 : decode cX6_stock 20 = .ok (.ireturn, 1) := by decide +kernel
theorem dX6_stock_21 : decode cX6_stock 21 = .ok (.aload_n 0, 1) := by decide +kernel
theorem dX6_stock_22 : decode cX6_stock 22 = .ok (.getfield 19, 3) := by decide +kernel
theorem dX6_stock_25 : decode cX6_stock 25 = .ok (.iload_n 1, 1) := by decide +kernel
theorem dX6_stock_26 : decode cX6_stock 26 = .ok (.iload_n 2, 1) := by decide +kernel
theorem dX6_stock_27 : decode cX6_stock 27 = .ok (.iload_n 3, 1) := by decide +kernel
theorem dX6_stock_28 : decode cX6_stock 28 = .ok (.iload 4, 2) := by decide +kernel
theorem dX6_stock_30 : decode cX6_stock 30 = .ok (.invokevirtual 101, 3) := by decide +kernel
theorem dX6_stock_33 : decode cX6_stock 33 = .ok (.iconst 1, 1) := by decide +kernel
theorem dX6_stock_34 : decode cX6_stock 34 = .ok (.ireturn, 1) := by decide +kernel
theorem dX6_share_0 : decode cX6_share 0 = .ok (.iload_n 1, 1) := by decide +kernel
theorem dX6_share_1 : decode cX6_share 1 = .ok (.iload_n 2, 1) := by decide +kernel
theorem dX6_share_2 : decode cX6_share 2 = .ok (.iload_n 3, 1) := by decide +kernel
theorem dX6_share_3 : decode cX6_share 3 = .ok (.invokestatic 98, 3) := by decide +kernel
theorem dX6_share_6 : decode cX6_share 6 = .ok (.ifCond .ne 5, 3) := by decide +kernel
theorem dX6_share_9 : decode cX6_share 9 = .ok (.iconst (-1), 1) := by decide +kernel
theorem dX6_share_10 : decode cX6_share 10 = .ok (.ireturn, 1) := by decide +kernel
theorem dX6_share_11 : decode cX6_share 11 = .ok (.aload_n 0, 1) := by decide +kernel
theorem dX6_share_12 : decode cX6_share 12 = .ok (.getfield 19, 3) := by decide +kernel
theorem dX6_share_15 : decode cX6_share 15 = .ok (.iload_n 1, 1) := by decide +kernel
theorem dX6_share_16 : decode cX6_share 16 = .ok (.iload_n 2, 1) := by decide +kernel
theorem dX6_share_17 : decode cX6_share 17 = .ok (.iload_n 3, 1) := by decide +kernel
theorem dX6_share_18 : decode cX6_share 18 = .ok (.invokevirtual 105, 3) := by decide +kernel
theorem dX6_share_21 : decode cX6_share 21 = .ok (.iconst 1, 1) := by decide +kernel
theorem dX6_share_22 : decode cX6_share 22 = .ok (.ireturn, 1) := by decide +kernel
theorem dX6_shareOf_0 : decode cX6_shareOf 0 = .ok (.iload_n 1, 1) := by decide +kernel
theorem dX6_shareOf_1 : decode cX6_shareOf 1 = .ok (.iconst 0, 1) := by decide +kernel
theorem dX6_shareOf_2 : decode cX6_shareOf 2 = .ok (.iconst 3, 1) := by decide +kernel
theorem dX6_shareOf_3 : decode cX6_shareOf 3 = .ok (.invokestatic 63, 3) := by decide +kernel
theorem dX6_shareOf_6 : decode cX6_shareOf 6 = .ok (.ifCond .ne 5, 3) := by decide +kernel
theorem dX6_shareOf_9 : decode cX6_shareOf 9 = .ok (.iconst (-1), 1) := by decide +kernel
theorem dX6_shareOf_10 : decode cX6_shareOf 10 = .ok (.ireturn, 1) := by decide +kernel
theorem dX6_shareOf_11 : decode cX6_shareOf 11 = .ok (.aload_n 0, 1) := by decide +kernel
theorem dX6_shareOf_12 : decode cX6_shareOf 12 = .ok (.getfield 19, 3) := by decide +kernel
theorem dX6_shareOf_15 : decode cX6_shareOf 15 = .ok (.iload_n 1, 1) := by decide +kernel
theorem dX6_shareOf_16 : decode cX6_shareOf 16 = .ok (.invokevirtual 109, 3) := by decide +kernel
theorem dX6_shareOf_19 : decode cX6_shareOf 19 = .ok (.ireturn, 1) := by decide +kernel
theorem dX6_mix_0 : decode cX6_mix 0 = .ok (.iload_n 1, 1) := by decide +kernel
theorem dX6_mix_1 : decode cX6_mix 1 = .ok (.iconst 0, 1) := by decide +kernel
theorem dX6_mix_2 : decode cX6_mix 2 = .ok (.iconst 3, 1) := by decide +kernel
theorem dX6_mix_3 : decode cX6_mix 3 = .ok (.invokestatic 63, 3) := by decide +kernel
theorem dX6_mix_6 : decode cX6_mix 6 = .ok (.ifCond .ne 5, 3) := by decide +kernel
theorem dX6_mix_9 : decode cX6_mix 9 = .ok (.iconst (-1), 1) := by decide +kernel
theorem dX6_mix_10 : decode cX6_mix 10 = .ok (.ireturn, 1) := by decide +kernel
theorem dX6_mix_11 : decode cX6_mix 11 = .ok (.aload_n 0, 1) := by decide +kernel
theorem dX6_mix_12 : decode cX6_mix 12 = .ok (.getfield 19, 3) := by decide +kernel
theorem dX6_mix_15 : decode cX6_mix 15 = .ok (.iload_n 1, 1) := by decide +kernel
theorem dX6_mix_16 : decode cX6_mix 16 = .ok (.invokevirtual 112, 3) := by decide +kernel
theorem dX6_mix_19 : decode cX6_mix 19 = .ok (.ireturn, 1) := by decide +kernel
theorem dX6_number_0 : decode cX6_number 0 = .ok (.aload_n 0, 1) := by decide +kernel
theorem dX6_number_1 : decode cX6_number 1 = .ok (.getfield 19, 3) := by decide +kernel
theorem dX6_number_4 : decode cX6_number 4 = .ok (.invokevirtual 115, 3) := by decide +kernel
theorem dX6_number_7 : decode cX6_number 7 = .ok (.istore_n 1, 1) := by decide +kernel
theorem dX6_number_8 : decode cX6_number 8 = .ok (.aload_n 0, 1) := by decide +kernel
theorem dX6_number_9 : decode cX6_number 9 = .ok (.getfield 19, 3) := by decide +kernel
theorem dX6_number_12 : decode cX6_number 12 = .ok (.invokevirtual 118, 3) := by decide +kernel
theorem dX6_number_15 : decode cX6_number 15 = .ok (.istore_n 2, 1) := by decide +kernel
theorem dX6_number_16 : decode cX6_number 16 = .ok (.iload_n 2, 1) := by decide +kernel
theorem dX6_number_17 : decode cX6_number 17 = .ok (.ifCond .ne 12, 3) := by decide +kernel
theorem dX6_number_20 : decode cX6_number 20 = .ok (.aload_n 0, 1) := by decide +kernel
theorem dX6_number_21 : decode cX6_number 21 = .ok (.getfield 47, 3) := by decide +kernel
theorem dX6_number_24 : decode cX6_number 24 = .ok (.iconst 4, 1) := by decide +kernel
theorem dX6_number_25 : decode cX6_number 25 = .ok (.invokevirtual 121, 3) := by decide +kernel
theorem dX6_number_28 : decode cX6_number 28 = .ok (.ireturn, 1) := by decide +kernel
theorem dX6_number_29 : decode cX6_number 29 = .ok (.iload_n 1, 1) := by decide +kernel
theorem dX6_number_30 : decode cX6_number 30 = .ok (.iload_n 2, 1) := by decide +kernel
theorem dX6_number_31 : decode cX6_number 31 = .ok (.invokestatic 124, 3) := by decide +kernel
theorem dX6_number_34 : decode cX6_number 34 = .ok (.istore_n 3, 1) := by decide +kernel
theorem dX6_number_35 : decode cX6_number 35 = .ok (.aload_n 0, 1) := by decide +kernel
theorem dX6_number_36 : decode cX6_number 36 = .ok (.iload_n 1, 1) := by decide +kernel
theorem dX6_number_37 : decode cX6_number 37 = .ok (.iload_n 3, 1) := by decide +kernel
theorem dX6_number_38 : decode cX6_number 38 = .ok (.idiv, 1) := by decide +kernel
theorem dX6_number_39 : decode cX6_number 39 = .ok (.i2l, 1) := by decide +kernel
theorem dX6_number_40 : decode cX6_number 40 = .ok (.putfield 51, 3) := by decide +kernel
theorem dX6_number_43 : decode cX6_number 43 = .ok (.aload_n 0, 1) := by decide +kernel
theorem dX6_number_44 : decode cX6_number 44 = .ok (.iload_n 2, 1) := by decide +kernel
theorem dX6_number_45 : decode cX6_number 45 = .ok (.iload_n 3, 1) := by decide +kernel
theorem dX6_number_46 : decode cX6_number 46 = .ok (.idiv, 1) := by decide +kernel
theorem dX6_number_47 : decode cX6_number 47 = .ok (.i2l, 1) := by decide +kernel
theorem dX6_number_48 : decode cX6_number 48 = .ok (.putfield 55, 3) := by decide +kernel
theorem dX6_number_51 : decode cX6_number 51 = .ok (.iconst 1, 1) := by decide +kernel
theorem dX6_number_52 : decode cX6_number 52 = .ok (.ireturn, 1) := by decide +kernel
theorem dX6_aim_0 : decode cX6_aim 0 = .ok (.iload_n 1, 1) := by decide +kernel
theorem dX6_aim_1 : decode cX6_aim 1 = .ok (.iconst 1, 1) := by decide +kernel
theorem dX6_aim_2 : decode cX6_aim 2 = .ok (.sipush 1000, 3) := by decide +kernel
theorem dX6_aim_5 : decode cX6_aim 5 = .ok (.invokestatic 63, 3) := by decide +kernel
theorem dX6_aim_8 : decode cX6_aim 8 = .ok (.ifCond .eq 14, 3) := by decide +kernel
theorem dX6_aim_11 : decode cX6_aim 11 = .ok (.iload_n 2, 1) := by decide +kernel
theorem dX6_aim_12 : decode cX6_aim 12 = .ok (.iconst 1, 1) := by decide +kernel
theorem dX6_aim_13 : decode cX6_aim 13 = .ok (.sipush 1000, 3) := by decide +kernel
theorem dX6_aim_16 : decode cX6_aim 16 = .ok (.invokestatic 63, 3) := by decide +kernel
theorem dX6_aim_19 : decode cX6_aim 19 = .ok (.ifCond .ne 5, 3) := by decide +kernel
theorem dX6_aim_22 : decode cX6_aim 22 = .ok (.iconst (-1), 1) := by decide +kernel
theorem dX6_aim_23 : decode cX6_aim 23 = .ok (.ireturn, 1) := by decide +kernel
theorem dX6_aim_24 : decode cX6_aim 24 = .ok (.aload_n 0, 1) := by decide +kernel
theorem dX6_aim_25 : decode cX6_aim 25 = .ok (.getfield 19, 3) := by decide +kernel
theorem dX6_aim_28 : decode cX6_aim 28 = .ok (.iload_n 1, 1) := by decide +kernel
theorem dX6_aim_29 : decode cX6_aim 29 = .ok (.iload_n 2, 1) := by decide +kernel
theorem dX6_aim_30 : decode cX6_aim 30 = .ok (.invokevirtual 128, 3) := by decide +kernel
theorem dX6_aim_33 : decode cX6_aim 33 = .ok (.iconst 1, 1) := by decide +kernel
theorem dX6_aim_34 : decode cX6_aim 34 = .ok (.ireturn, 1) := by decide +kernel
theorem dX6_rule_0 : decode cX6_rule 0 = .ok (.iload_n 1, 1) := by decide +kernel
theorem dX6_rule_1 : decode cX6_rule 1 = .ok (.iconst 0, 1) := by decide +kernel
theorem dX6_rule_2 : decode cX6_rule 2 = .ok (.iconst 5, 1) := by decide +kernel
theorem dX6_rule_3 : decode cX6_rule 3 = .ok (.invokestatic 63, 3) := by decide +kernel
theorem dX6_rule_6 : decode cX6_rule 6 = .ok (.ifCond .eq 13, 3) := by decide +kernel
theorem dX6_rule_9 : decode cX6_rule 9 = .ok (.iload_n 2, 1) := by decide +kernel
theorem dX6_rule_10 : decode cX6_rule 10 = .ok (.iconst 0, 1) := by decide +kernel
theorem dX6_rule_11 : decode cX6_rule 11 = .ok (.bipush 100, 2) := by decide +kernel
theorem dX6_rule_13 : decode cX6_rule 13 = .ok (.invokestatic 63, 3) := by decide +kernel
theorem dX6_rule_16 : decode cX6_rule 16 = .ok (.ifCond .ne 5, 3) := by decide +kernel
theorem dX6_rule_19 : decode cX6_rule 19 = .ok (.iconst (-1), 1) := by decide +kernel
theorem dX6_rule_20 : decode cX6_rule 20 = .ok (.ireturn, 1) := by decide +kernel
theorem dX6_rule_21 : decode cX6_rule 21 = .ok (.aload_n 0, 1) := by decide +kernel
theorem dX6_rule_22 : decode cX6_rule 22 = .ok (.getfield 19, 3) := by decide +kernel
theorem dX6_rule_25 : decode cX6_rule 25 = .ok (.iload_n 1, 1) := by decide +kernel
theorem dX6_rule_26 : decode cX6_rule 26 = .ok (.iload_n 2, 1) := by decide +kernel
theorem dX6_rule_27 : decode cX6_rule 27 = .ok (.invokevirtual 132, 3) := by decide +kernel
theorem dX6_rule_30 : decode cX6_rule 30 = .ok (.iconst 1, 1) := by decide +kernel
theorem dX6_rule_31 : decode cX6_rule 31 = .ok (.ireturn, 1) := by decide +kernel
theorem dX6_hour_0 : decode cX6_hour 0 = .ok (.aload_n 0, 1) := by decide +kernel
theorem dX6_hour_1 : decode cX6_hour 1 = .ok (.getfield 19, 3) := by decide +kernel
theorem dX6_hour_4 : decode cX6_hour 4 = .ok (.invokevirtual 135, 3) := by decide +kernel
theorem dX6_hour_7 : decode cX6_hour 7 = .ok (.sipush 200, 3) := by decide +kernel
theorem dX6_hour_10 : decode cX6_hour 10 = .ok (.if_icmp .lt 6, 3) := by decide +kernel
theorem dX6_hour_13 : decode cX6_hour 13 = .ok (.bipush (-2), 2) := by decide +kernel
theorem dX6_hour_15 : decode cX6_hour 15 = .ok (.ireturn, 1) := by decide +kernel
theorem dX6_hour_16 : decode cX6_hour 16 = .ok (.aload_n 0, 1) := by decide +kernel
theorem dX6_hour_17 : decode cX6_hour 17 = .ok (.getfield 19, 3) := by decide +kernel
theorem dX6_hour_20 : decode cX6_hour 20 = .ok (.iload_n 1, 1) := by decide +kernel
theorem dX6_hour_21 : decode cX6_hour 21 = .ok (.invokevirtual 138, 3) := by decide +kernel
theorem dX6_hour_24 : decode cX6_hour 24 = .ok (.ireturn, 1) := by decide +kernel
theorem dX6_read_0 : decode cX6_read 0 = .ok (.aload_n 0, 1) := by decide +kernel
theorem dX6_read_1 : decode cX6_read 1 = .ok (.getfield 19, 3) := by decide +kernel
theorem dX6_read_4 : decode cX6_read 4 = .ok (.invokevirtual 142, 3) := by decide +kernel
theorem dX6_read_7 : decode cX6_read 7 = .ok (.ireturn, 1) := by decide +kernel
theorem dX6_passed_0 : decode cX6_passed 0 = .ok (.aload_n 0, 1) := by decide +kernel
theorem dX6_passed_1 : decode cX6_passed 1 = .ok (.getfield 19, 3) := by decide +kernel
theorem dX6_passed_4 : decode cX6_passed 4 = .ok (.invokevirtual 145, 3) := by decide +kernel
theorem dX6_passed_7 : decode cX6_passed 7 = .ok (.ireturn, 1) := by decide +kernel
theorem dX6_step_0 : decode cX6_step 0 = .ok (.iload_n 1, 1) := by decide +kernel
theorem dX6_step_1 : decode cX6_step 1 = .ok (.iconst 0, 1) := by decide +kernel
theorem dX6_step_2 : decode cX6_step 2 = .ok (.sipush 1000, 3) := by decide +kernel
theorem dX6_step_5 : decode cX6_step 5 = .ok (.invokestatic 63, 3) := by decide +kernel
theorem dX6_step_8 : decode cX6_step 8 = .ok (.ifCond .eq 23, 3) := by decide +kernel
theorem dX6_step_11 : decode cX6_step 11 = .ok (.iload_n 2, 1) := by decide +kernel
theorem dX6_step_12 : decode cX6_step 12 = .ok (.iconst 0, 1) := by decide +kernel
theorem dX6_step_13 : decode cX6_step 13 = .ok (.ldc 148, 2) := by decide +kernel
theorem dX6_step_15 : decode cX6_step 15 = .ok (.invokestatic 63, 3) := by decide +kernel
theorem dX6_step_18 : decode cX6_step 18 = .ok (.ifCond .eq 13, 3) := by decide +kernel
theorem dX6_step_21 : decode cX6_step 21 = .ok (.iload_n 3, 1) := by decide +kernel
theorem dX6_step_22 : decode cX6_step 22 = .ok (.iconst 0, 1) := by decide +kernel
theorem dX6_step_23 : decode cX6_step 23 = .ok (.bipush 100, 2) := by decide +kernel
theorem dX6_step_25 : decode cX6_step 25 = .ok (.invokestatic 63, 3) := by decide +kernel
theorem dX6_step_28 : decode cX6_step 28 = .ok (.ifCond .ne 5, 3) := by decide +kernel
theorem dX6_step_31 : decode cX6_step 31 = .ok (.iconst (-1), 1) := by decide +kernel
theorem dX6_step_32 : decode cX6_step 32 = .ok (.ireturn, 1) := by decide +kernel
theorem dX6_step_33 : decode cX6_step 33 = .ok (.aload_n 0, 1) := by decide +kernel
theorem dX6_step_34 : decode cX6_step 34 = .ok (.getfield 26, 3) := by decide +kernel
theorem dX6_step_37 : decode cX6_step 37 = .ok (.invokevirtual 149, 3) := by decide +kernel
theorem dX6_step_40 : decode cX6_step 40 = .ok (.istore 4, 2) := by decide +kernel
theorem dX6_step_42 : decode cX6_step 42 = .ok (.iload 4, 2) := by decide +kernel
theorem dX6_step_44 : decode cX6_step 44 = .ok (.sipush 500, 3) := by decide +kernel
theorem dX6_step_47 : decode cX6_step 47 = .ok (.if_icmp .lt 6, 3) := by decide +kernel
theorem dX6_step_50 : decode cX6_step 50 = .ok (.bipush (-2), 2) := by decide +kernel
theorem dX6_step_52 : decode cX6_step 52 = .ok (.ireturn, 1) := by decide +kernel
theorem dX6_step_53 : decode cX6_step 53 = .ok (.aload_n 0, 1) := by decide +kernel
theorem dX6_step_54 : decode cX6_step 54 = .ok (.getfield 26, 3) := by decide +kernel
theorem dX6_step_57 : decode cX6_step 57 = .ok (.iload_n 1, 1) := by decide +kernel
theorem dX6_step_58 : decode cX6_step 58 = .ok (.iload_n 2, 1) := by decide +kernel
theorem dX6_step_59 : decode cX6_step 59 = .ok (.iload_n 3, 1) := by decide +kernel
theorem dX6_step_60 : decode cX6_step 60 = .ok (.invokevirtual 152, 3) := by decide +kernel
theorem dX6_step_63 : decode cX6_step 63 = .ok (.istore 5, 2) := by decide +kernel
theorem dX6_step_65 : decode cX6_step 65 = .ok (.aload_n 0, 1) := by decide +kernel
theorem dX6_step_66 : decode cX6_step 66 = .ok (.getfield 26, 3) := by decide +kernel
theorem dX6_step_69 : decode cX6_step 69 = .ok (.iconst 0, 1) := by decide +kernel
theorem dX6_step_70 : decode cX6_step 70 = .ok (.invokevirtual 155, 3) := by decide +kernel
theorem dX6_step_73 : decode cX6_step 73 = .ok (.istore 6, 2) := by decide +kernel
theorem dX6_step_75 : decode cX6_step 75 = .ok (.iload 6, 2) := by decide +kernel
end
section
theorem dX6_step_77 : decode cX6_step 77 = .ok (.ifCond .le 22, 3) := by decide +kernel
theorem dX6_step_80 : decode cX6_step 80 = .ok (.aload_n 0, 1) := by decide +kernel
theorem dX6_step_81 : decode cX6_step 81 = .ok (.getfield 33, 3) := by decide +kernel
theorem dX6_step_84 : decode cX6_step 84 = .ok (.iload 4, 2) := by decide +kernel
theorem dX6_step_86 : decode cX6_step 86 = .ok (.aload_n 0, 1) := by decide +kernel
theorem dX6_step_87 : decode cX6_step 87 = .ok (.getfield 26, 3) := by decide +kernel
theorem dX6_step_90 : decode cX6_step 90 = .ok (.iconst 3, 1) := by decide +kernel
theorem dX6_step_91 : decode cX6_step 91 = .ok (.invokevirtual 155, 3) := by decide +kernel
theorem dX6_step_94 : decode cX6_step 94 = .ok (.iload 6, 2) := by decide +kernel
theorem dX6_step_96 : decode cX6_step 96 = .ok (.invokevirtual 158, 3) := by decide +kernel
theorem dX6_step_99 : decode cX6_step 99 = .ok (.iload 5, 2) := by decide +kernel
theorem dX6_step_101 : decode cX6_step 101 = .ok (.ireturn, 1) := by decide +kernel
theorem dX6_start_0 : decode cX6_start 0 = .ok (.aload_n 0, 1) := by decide +kernel
theorem dX6_start_1 : decode cX6_start 1 = .ok (.getfield 26, 3) := by decide +kernel
theorem dX6_start_4 : decode cX6_start 4 = .ok (.invokevirtual 161, 3) := by decide +kernel
theorem dX6_start_7 : decode cX6_start 7 = .ok (.ireturn, 1) := by decide +kernel
theorem dX6_zone_0 : decode cX6_zone 0 = .ok (.iload_n 1, 1) := by decide +kernel
theorem dX6_zone_1 : decode cX6_zone 1 = .ok (.iconst 0, 1) := by decide +kernel
theorem dX6_zone_2 : decode cX6_zone 2 = .ok (.iconst 3, 1) := by decide +kernel
theorem dX6_zone_3 : decode cX6_zone 3 = .ok (.invokestatic 63, 3) := by decide +kernel
theorem dX6_zone_6 : decode cX6_zone 6 = .ok (.ifCond .eq 12, 3) := by decide +kernel
theorem dX6_zone_9 : decode cX6_zone 9 = .ok (.iload_n 2, 1) := by decide +kernel
theorem dX6_zone_10 : decode cX6_zone 10 = .ok (.iconst 0, 1) := by decide +kernel
theorem dX6_zone_11 : decode cX6_zone 11 = .ok (.iconst 2, 1) := by decide +kernel
theorem dX6_zone_12 : decode cX6_zone 12 = .ok (.invokestatic 63, 3) := by decide +kernel
theorem dX6_zone_15 : decode cX6_zone 15 = .ok (.ifCond .ne 5, 3) := by decide +kernel
theorem dX6_zone_18 : decode cX6_zone 18 = .ok (.iconst (-1), 1) := by decide +kernel
theorem dX6_zone_19 : decode cX6_zone 19 = .ok (.ireturn, 1) := by decide +kernel
theorem dX6_zone_20 : decode cX6_zone 20 = .ok (.iload_n 2, 1) := by decide +kernel
theorem dX6_zone_21 : decode cX6_zone 21 = .ok (.iconst 2, 1) := by decide +kernel
theorem dX6_zone_22 : decode cX6_zone 22 = .ok (.if_icmp .ne 12, 3) := by decide +kernel
theorem dX6_zone_25 : decode cX6_zone 25 = .ok (.aload_n 0, 1) := by decide +kernel
theorem dX6_zone_26 : decode cX6_zone 26 = .ok (.getfield 26, 3) := by decide +kernel
theorem dX6_zone_29 : decode cX6_zone 29 = .ok (.iload_n 1, 1) := by decide +kernel
theorem dX6_zone_30 : decode cX6_zone 30 = .ok (.invokevirtual 164, 3) := by decide +kernel
theorem dX6_zone_33 : decode cX6_zone 33 = .ok (.ireturn, 1) := by decide +kernel
theorem dX6_zone_34 : decode cX6_zone 34 = .ok (.iload_n 2, 1) := by decide +kernel
theorem dX6_zone_35 : decode cX6_zone 35 = .ok (.ifCond .ne 14, 3) := by decide +kernel
theorem dX6_zone_38 : decode cX6_zone 38 = .ok (.aload_n 0, 1) := by decide +kernel
theorem dX6_zone_39 : decode cX6_zone 39 = .ok (.getfield 26, 3) := by decide +kernel
theorem dX6_zone_42 : decode cX6_zone 42 = .ok (.iload_n 1, 1) := by decide +kernel
theorem dX6_zone_43 : decode cX6_zone 43 = .ok (.invokevirtual 167, 3) := by decide +kernel
theorem dX6_zone_46 : decode cX6_zone 46 = .ok (.goto 11, 3) := by decide +kernel
theorem dX6_zone_49 : decode cX6_zone 49 = .ok (.aload_n 0, 1) := by decide +kernel
theorem dX6_zone_50 : decode cX6_zone 50 = .ok (.getfield 26, 3) := by decide +kernel
theorem dX6_zone_53 : decode cX6_zone 53 = .ok (.iload_n 1, 1) := by decide +kernel
theorem dX6_zone_54 : decode cX6_zone 54 = .ok (.invokevirtual 170, 3) := by decide +kernel
theorem dX6_zone_57 : decode cX6_zone 57 = .ok (.ireturn, 1) := by decide +kernel
theorem dX6_warmth_0 : decode cX6_warmth 0 = .ok (.iload_n 1, 1) := by decide +kernel
theorem dX6_warmth_1 : decode cX6_warmth 1 = .ok (.iconst 0, 1) := by decide +kernel
theorem dX6_warmth_2 : decode cX6_warmth 2 = .ok (.iconst 3, 1) := by decide +kernel
theorem dX6_warmth_3 : decode cX6_warmth 3 = .ok (.invokestatic 63, 3) := by decide +kernel
theorem dX6_warmth_6 : decode cX6_warmth 6 = .ok (.ifCond .eq 12, 3) := by decide +kernel
theorem dX6_warmth_9 : decode cX6_warmth 9 = .ok (.iload_n 2, 1) := by decide +kernel
theorem dX6_warmth_10 : decode cX6_warmth 10 = .ok (.iconst 0, 1) := by decide +kernel
theorem dX6_warmth_11 : decode cX6_warmth 11 = .ok (.iconst 2, 1) := by decide +kernel
theorem dX6_warmth_12 : decode cX6_warmth 12 = .ok (.invokestatic 63, 3) := by decide +kernel
theorem dX6_warmth_15 : decode cX6_warmth 15 = .ok (.ifCond .ne 5, 3) := by decide +kernel
theorem dX6_warmth_18 : decode cX6_warmth 18 = .ok (.iconst (-1), 1) := by decide +kernel
theorem dX6_warmth_19 : decode cX6_warmth 19 = .ok (.ireturn, 1) := by decide +kernel
theorem dX6_warmth_20 : decode cX6_warmth 20 = .ok (.iload_n 2, 1) := by decide +kernel
theorem dX6_warmth_21 : decode cX6_warmth 21 = .ok (.ifCond .eq 24, 3) := by decide +kernel
theorem dX6_warmth_24 : decode cX6_warmth 24 = .ok (.iload_n 2, 1) := by decide +kernel
theorem dX6_warmth_25 : decode cX6_warmth 25 = .ok (.aload_n 0, 1) := by decide +kernel
theorem dX6_warmth_26 : decode cX6_warmth 26 = .ok (.getfield 26, 3) := by decide +kernel
theorem dX6_warmth_29 : decode cX6_warmth 29 = .ok (.iload_n 1, 1) := by decide +kernel
theorem dX6_warmth_30 : decode cX6_warmth 30 = .ok (.invokevirtual 164, 3) := by decide +kernel
theorem dX6_warmth_33 : decode cX6_warmth 33 = .ok (.if_icmp .eq 12, 3) := by decide +kernel
theorem dX6_warmth_36 : decode cX6_warmth 36 = .ok (.aload_n 0, 1) := by decide +kernel
theorem dX6_warmth_37 : decode cX6_warmth 37 = .ok (.getfield 47, 3) := by decide +kernel
theorem dX6_warmth_40 : decode cX6_warmth 40 = .ok (.iconst 3, 1) := by decide +kernel
theorem dX6_warmth_41 : decode cX6_warmth 41 = .ok (.invokevirtual 121, 3) := by decide +kernel
theorem dX6_warmth_44 : decode cX6_warmth 44 = .ok (.ireturn, 1) := by decide +kernel
theorem dX6_warmth_45 : decode cX6_warmth 45 = .ok (.aload_n 0, 1) := by decide +kernel
theorem dX6_warmth_46 : decode cX6_warmth 46 = .ok (.getfield 26, 3) := by decide +kernel
theorem dX6_warmth_49 : decode cX6_warmth 49 = .ok (.iload_n 1, 1) := by decide +kernel
theorem dX6_warmth_50 : decode cX6_warmth 50 = .ok (.invokevirtual 167, 3) := by decide +kernel
theorem dX6_warmth_53 : decode cX6_warmth 53 = .ok (.istore_n 3, 1) := by decide +kernel
theorem dX6_warmth_54 : decode cX6_warmth 54 = .ok (.iload_n 3, 1) := by decide +kernel
theorem dX6_warmth_55 : decode cX6_warmth 55 = .ok (.ifCond .ne 12, 3) := by decide +kernel
theorem dX6_warmth_58 : decode cX6_warmth 58 = .ok (.aload_n 0, 1) := by decide +kernel
theorem dX6_warmth_59 : decode cX6_warmth 59 = .ok (.getfield 47, 3) := by decide +kernel
theorem dX6_warmth_62 : decode cX6_warmth 62 = .ok (.iconst 4, 1) := by decide +kernel
theorem dX6_warmth_63 : decode cX6_warmth 63 = .ok (.invokevirtual 121, 3) := by decide +kernel
theorem dX6_warmth_66 : decode cX6_warmth 66 = .ok (.ireturn, 1) := by decide +kernel
theorem dX6_warmth_67 : decode cX6_warmth 67 = .ok (.aload_n 0, 1) := by decide +kernel
theorem dX6_warmth_68 : decode cX6_warmth 68 = .ok (.getfield 26, 3) := by decide +kernel
theorem dX6_warmth_71 : decode cX6_warmth 71 = .ok (.iload_n 1, 1) := by decide +kernel
theorem dX6_warmth_72 : decode cX6_warmth 72 = .ok (.invokevirtual 170, 3) := by decide +kernel
theorem dX6_warmth_75 : decode cX6_warmth 75 = .ok (.iload_n 3, 1) := by decide +kernel
theorem dX6_warmth_76 : decode cX6_warmth 76 = .ok (.idiv, 1) := by decide +kernel
theorem dX6_warmth_77 : decode cX6_warmth 77 = .ok (.ireturn, 1) := by decide +kernel
theorem dX6_out_0 : decode cX6_out 0 = .ok (.iload_n 1, 1) := by decide +kernel
theorem dX6_out_1 : decode cX6_out 1 = .ok (.iconst 0, 1) := by decide +kernel
theorem dX6_out_2 : decode cX6_out 2 = .ok (.bipush 6, 2) := by decide +kernel
theorem dX6_out_4 : decode cX6_out 4 = .ok (.invokestatic 63, 3) := by decide +kernel
theorem dX6_out_7 : decode cX6_out 7 = .ok (.ifCond .ne 5, 3) := by decide +kernel
theorem dX6_out_10 : decode cX6_out 10 = .ok (.iconst (-1), 1) := by decide +kernel
theorem dX6_out_11 : decode cX6_out 11 = .ok (.ireturn, 1) := by decide +kernel
theorem dX6_out_12 : decode cX6_out 12 = .ok (.aload_n 0, 1) := by decide +kernel
theorem dX6_out_13 : decode cX6_out 13 = .ok (.getfield 26, 3) := by decide +kernel
theorem dX6_out_16 : decode cX6_out 16 = .ok (.invokevirtual 149, 3) := by decide +kernel
theorem dX6_out_19 : decode cX6_out 19 = .ok (.ifCond .ne 8, 3) := by decide +kernel
theorem dX6_out_22 : decode cX6_out 22 = .ok (.bipush (-9), 2) := by decide +kernel
theorem dX6_out_24 : decode cX6_out 24 = .ok (.goto 11, 3) := by decide +kernel
theorem dX6_out_27 : decode cX6_out 27 = .ok (.aload_n 0, 1) := by decide +kernel
theorem dX6_out_28 : decode cX6_out 28 = .ok (.getfield 26, 3) := by decide +kernel
theorem dX6_out_31 : decode cX6_out 31 = .ok (.iload_n 1, 1) := by decide +kernel
theorem dX6_out_32 : decode cX6_out 32 = .ok (.invokevirtual 155, 3) := by decide +kernel
theorem dX6_out_35 : decode cX6_out 35 = .ok (.ireturn, 1) := by decide +kernel
theorem dX6_sum_0 : decode cX6_sum 0 = .ok (.iload_n 1, 1) := by decide +kernel
theorem dX6_sum_1 : decode cX6_sum 1 = .ok (.iconst 0, 1) := by decide +kernel
theorem dX6_sum_2 : decode cX6_sum 2 = .ok (.iconst 4, 1) := by decide +kernel
theorem dX6_sum_3 : decode cX6_sum 3 = .ok (.invokestatic 63, 3) := by decide +kernel
theorem dX6_sum_6 : decode cX6_sum 6 = .ok (.ifCond .ne 5, 3) := by decide +kernel
theorem dX6_sum_9 : decode cX6_sum 9 = .ok (.iconst (-1), 1) := by decide +kernel
theorem dX6_sum_10 : decode cX6_sum 10 = .ok (.ireturn, 1) := by decide +kernel
theorem dX6_sum_11 : decode cX6_sum 11 = .ok (.aload_n 0, 1) := by decide +kernel
theorem dX6_sum_12 : decode cX6_sum 12 = .ok (.aload_n 0, 1) := by decide +kernel
theorem dX6_sum_13 : decode cX6_sum 13 = .ok (.getfield 26, 3) := by decide +kernel
theorem dX6_sum_16 : decode cX6_sum 16 = .ok (.iload_n 1, 1) := by decide +kernel
theorem dX6_sum_17 : decode cX6_sum 17 = .ok (.invokevirtual 173, 3) := by decide +kernel
theorem dX6_sum_20 : decode cX6_sum 20 = .ok (.putfield 58, 3) := by decide +kernel
theorem dX6_sum_23 : decode cX6_sum 23 = .ok (.iconst 1, 1) := by decide +kernel
theorem dX6_sum_24 : decode cX6_sum 24 = .ok (.ireturn, 1) := by decide +kernel
theorem dX6_first_0 : decode cX6_first 0 = .ok (.aload_n 0, 1) := by decide +kernel
theorem dX6_first_1 : decode cX6_first 1 = .ok (.getfield 26, 3) := by decide +kernel
theorem dX6_first_4 : decode cX6_first 4 = .ok (.invokevirtual 177, 3) := by decide +kernel
theorem dX6_first_7 : decode cX6_first 7 = .ok (.ireturn, 1) := by decide +kernel
theorem dX6_silo_0 : decode cX6_silo 0 = .ok (.iload_n 1, 1) := by decide +kernel
theorem dX6_silo_1 : decode cX6_silo 1 = .ok (.iconst 0, 1) := by decide +kernel
theorem dX6_silo_2 : decode cX6_silo 2 = .ok (.iconst 2, 1) := by decide +kernel
theorem dX6_silo_3 : decode cX6_silo 3 = .ok (.invokestatic 63, 3) := by decide +kernel
theorem dX6_silo_6 : decode cX6_silo 6 = .ok (.ifCond .eq 12, 3) := by decide +kernel
theorem dX6_silo_9 : decode cX6_silo 9 = .ok (.iload_n 2, 1) := by decide +kernel
theorem dX6_silo_10 : decode cX6_silo 10 = .ok (.iconst 0, 1) := by decide +kernel
theorem dX6_silo_11 : decode cX6_silo 11 = .ok (.iconst 1, 1) := by decide +kernel
theorem dX6_silo_12 : decode cX6_silo 12 = .ok (.invokestatic 63, 3) := by decide +kernel
theorem dX6_silo_15 : decode cX6_silo 15 = .ok (.ifCond .ne 5, 3) := by decide +kernel
theorem dX6_silo_18 : decode cX6_silo 18 = .ok (.iconst (-1), 1) := by decide +kernel
theorem dX6_silo_19 : decode cX6_silo 19 = .ok (.ireturn, 1) := by decide +kernel
theorem dX6_silo_20 : decode cX6_silo 20 = .ok (.iload_n 2, 1) := by decide +kernel
theorem dX6_silo_21 : decode cX6_silo 21 = .ok (.ifCond .ne 14, 3) := by decide +kernel
theorem dX6_silo_24 : decode cX6_silo 24 = .ok (.aload_n 0, 1) := by decide +kernel
theorem dX6_silo_25 : decode cX6_silo 25 = .ok (.getfield 33, 3) := by decide +kernel
theorem dX6_silo_28 : decode cX6_silo 28 = .ok (.iload_n 1, 1) := by decide +kernel
theorem dX6_silo_29 : decode cX6_silo 29 = .ok (.invokevirtual 180, 3) := by decide +kernel
theorem dX6_silo_32 : decode cX6_silo 32 = .ok (.goto 11, 3) := by decide +kernel
theorem dX6_silo_35 : decode cX6_silo 35 = .ok (.aload_n 0, 1) := by decide +kernel
theorem dX6_silo_36 : decode cX6_silo 36 = .ok (.getfield 33, 3) := by decide +kernel
theorem dX6_silo_39 : decode cX6_silo 39 = .ok (.iload_n 1, 1) := by decide +kernel
theorem dX6_silo_40 : decode cX6_silo 40 = .ok (.invokevirtual 183, 3) := by decide +kernel
theorem dX6_silo_43 : decode cX6_silo 43 = .ok (.ireturn, 1) := by decide +kernel
theorem dX6_bag_0 : decode cX6_bag 0 = .ok (.iload_n 1, 1) := by decide +kernel
theorem dX6_bag_1 : decode cX6_bag 1 = .ok (.iconst 0, 1) := by decide +kernel
theorem dX6_bag_2 : decode cX6_bag 2 = .ok (.iconst 2, 1) := by decide +kernel
theorem dX6_bag_3 : decode cX6_bag 3 = .ok (.invokestatic 63, 3) := by decide +kernel
theorem dX6_bag_6 : decode cX6_bag 6 = .ok (.ifCond .eq 14, 3) := by decide +kernel
theorem dX6_bag_9 : decode cX6_bag 9 = .ok (.iload_n 2, 1) := by decide +kernel
theorem dX6_bag_10 : decode cX6_bag 10 = .ok (.iconst 1, 1) := by decide +kernel
theorem dX6_bag_11 : decode cX6_bag 11 = .ok (.sipush 10000, 3) := by decide +kernel
theorem dX6_bag_14 : decode cX6_bag 14 = .ok (.invokestatic 63, 3) := by decide +kernel
theorem dX6_bag_17 : decode cX6_bag 17 = .ok (.ifCond .ne 5, 3) := by decide +kernel
theorem dX6_bag_20 : decode cX6_bag 20 = .ok (.iconst (-1), 1) := by decide +kernel
theorem dX6_bag_21 : decode cX6_bag 21 = .ok (.ireturn, 1) := by decide +kernel
theorem dX6_bag_22 : decode cX6_bag 22 = .ok (.aload_n 0, 1) := by decide +kernel
theorem dX6_bag_23 : decode cX6_bag 23 = .ok (.getfield 33, 3) := by decide +kernel
theorem dX6_bag_26 : decode cX6_bag 26 = .ok (.iload_n 1, 1) := by decide +kernel
theorem dX6_bag_27 : decode cX6_bag 27 = .ok (.invokevirtual 180, 3) := by decide +kernel
theorem dX6_bag_30 : decode cX6_bag 30 = .ok (.iload_n 2, 1) := by decide +kernel
theorem dX6_bag_31 : decode cX6_bag 31 = .ok (.if_icmp .ge 6, 3) := by decide +kernel
theorem dX6_bag_34 : decode cX6_bag 34 = .ok (.bipush (-4), 2) := by decide +kernel
theorem dX6_bag_36 : decode cX6_bag 36 = .ok (.ireturn, 1) := by decide +kernel
theorem dX6_bag_37 : decode cX6_bag 37 = .ok (.aload_n 0, 1) := by decide +kernel
theorem dX6_bag_38 : decode cX6_bag 38 = .ok (.getfield 33, 3) := by decide +kernel
theorem dX6_bag_41 : decode cX6_bag 41 = .ok (.iload_n 1, 1) := by decide +kernel
theorem dX6_bag_42 : decode cX6_bag 42 = .ok (.iload_n 2, 1) := by decide +kernel
theorem dX6_bag_43 : decode cX6_bag 43 = .ok (.invokevirtual 186, 3) := by decide +kernel
theorem dX6_bag_46 : decode cX6_bag 46 = .ok (.ireturn, 1) := by decide +kernel
theorem dX6_lot_0 : decode cX6_lot 0 = .ok (.iload_n 2, 1) := by decide +kernel
theorem dX6_lot_1 : decode cX6_lot 1 = .ok (.iconst 0, 1) := by decide +kernel
theorem dX6_lot_2 : decode cX6_lot 2 = .ok (.iconst 1, 1) := by decide +kernel
theorem dX6_lot_3 : decode cX6_lot 3 = .ok (.invokestatic 63, 3) := by decide +kernel
theorem dX6_lot_6 : decode cX6_lot 6 = .ok (.ifCond .ne 5, 3) := by decide +kernel
theorem dX6_lot_9 : decode cX6_lot 9 = .ok (.iconst (-1), 1) := by decide +kernel
theorem dX6_lot_10 : decode cX6_lot 10 = .ok (.ireturn, 1) := by decide +kernel
theorem dX6_lot_11 : decode cX6_lot 11 = .ok (.iload_n 1, 1) := by decide +kernel
theorem dX6_lot_12 : decode cX6_lot 12 = .ok (.iconst 0, 1) := by decide +kernel
theorem dX6_lot_13 : decode cX6_lot 13 = .ok (.aload_n 0, 1) := by decide +kernel
theorem dX6_lot_14 : decode cX6_lot 14 = .ok (.getfield 33, 3) := by decide +kernel
theorem dX6_lot_17 : decode cX6_lot 17 = .ok (.invokevirtual 189, 3) := by decide +kernel
theorem dX6_lot_20 : decode cX6_lot 20 = .ok (.iconst 1, 1) := by decide +kernel
theorem dX6_lot_21 : decode cX6_lot 21 = .ok (.isub, 1) := by decide +kernel
theorem dX6_lot_22 : decode cX6_lot 22 = .ok (.invokestatic 63, 3) := by decide +kernel
theorem dX6_lot_25 : decode cX6_lot 25 = .ok (.ifCond .ne 6, 3) := by decide +kernel
theorem dX6_lot_28 : decode cX6_lot 28 = .ok (.bipush (-9), 2) := by decide +kernel
theorem dX6_lot_30 : decode cX6_lot 30 = .ok (.ireturn, 1) := by decide +kernel
theorem dX6_lot_31 : decode cX6_lot 31 = .ok (.iload_n 2, 1) := by decide +kernel
theorem dX6_lot_32 : decode cX6_lot 32 = .ok (.ifCond .ne 14, 3) := by decide +kernel
theorem dX6_lot_35 : decode cX6_lot 35 = .ok (.aload_n 0, 1) := by decide +kernel
theorem dX6_lot_36 : decode cX6_lot 36 = .ok (.getfield 33, 3) := by decide +kernel
theorem dX6_lot_39 : decode cX6_lot 39 = .ok (.iload_n 1, 1) := by decide +kernel
theorem dX6_lot_40 : decode cX6_lot 40 = .ok (.invokevirtual 192, 3) := by decide +kernel
theorem dX6_lot_43 : decode cX6_lot 43 = .ok (.goto 11, 3) := by decide +kernel
theorem dX6_lot_46 : decode cX6_lot 46 = .ok (.aload_n 0, 1) := by decide +kernel
theorem dX6_lot_47 : decode cX6_lot 47 = .ok (.getfield 33, 3) := by decide +kernel
theorem dX6_lot_50 : decode cX6_lot 50 = .ok (.iload_n 1, 1) := by decide +kernel
theorem dX6_lot_51 : decode cX6_lot 51 = .ok (.invokevirtual 195, 3) := by decide +kernel
theorem dX6_lot_54 : decode cX6_lot 54 = .ok (.ireturn, 1) := by decide +kernel
theorem dX6_day_0 : decode cX6_day 0 = .ok (.iload_n 1, 1) := by decide +kernel
theorem dX6_day_1 : decode cX6_day 1 = .ok (.iconst 0, 1) := by decide +kernel
theorem dX6_day_2 : decode cX6_day 2 = .ok (.bipush 6, 2) := by decide +kernel
theorem dX6_day_4 : decode cX6_day 4 = .ok (.invokestatic 63, 3) := by decide +kernel
theorem dX6_day_7 : decode cX6_day 7 = .ok (.ifCond .ne 5, 3) := by decide +kernel
theorem dX6_day_10 : decode cX6_day 10 = .ok (.iconst (-1), 1) := by decide +kernel
theorem dX6_day_11 : decode cX6_day 11 = .ok (.ireturn, 1) := by decide +kernel
theorem dX6_day_12 : decode cX6_day 12 = .ok (.aload_n 0, 1) := by decide +kernel
theorem dX6_day_13 : decode cX6_day 13 = .ok (.getfield 40, 3) := by decide +kernel
theorem dX6_day_16 : decode cX6_day 16 = .ok (.iload_n 1, 1) := by decide +kernel
theorem dX6_day_17 : decode cX6_day 17 = .ok (.invokevirtual 198, 3) := by decide +kernel
theorem dX6_day_20 : decode cX6_day 20 = .ok (.ireturn, 1) := by decide +kernel
theorem dX6_price_0 : decode cX6_price 0 = .ok (.iload_n 1, 1) := by decide +kernel
theorem dX6_price_1 : decode cX6_price 1 = .ok (.iconst 0, 1) := by decide +kernel
theorem dX6_price_2 : decode cX6_price 2 = .ok (.bipush 6, 2) := by decide +kernel
theorem dX6_price_4 : decode cX6_price 4 = .ok (.invokestatic 63, 3) := by decide +kernel
theorem dX6_price_7 : decode cX6_price 7 = .ok (.ifCond .eq 14, 3) := by decide +kernel
theorem dX6_price_10 : decode cX6_price 10 = .ok (.iload_n 3, 1) := by decide +kernel
theorem dX6_price_11 : decode cX6_price 11 = .ok (.iconst 0, 1) := by decide +kernel
theorem dX6_price_12 : decode cX6_price 12 = .ok (.sipush 1000, 3) := by decide +kernel
theorem dX6_price_15 : decode cX6_price 15 = .ok (.invokestatic 63, 3) := by decide +kernel
theorem dX6_price_18 : decode cX6_price 18 = .ok (.ifCond .ne 5, 3) := by decide +kernel
theorem dX6_price_21 : decode cX6_price 21 = .ok (.iconst (-1), 1) := by decide +kernel
theorem dX6_price_22 : decode cX6_price 22 = .ok (.ireturn, 1) := by decide +kernel
theorem dX6_price_23 : decode cX6_price 23 = .ok (.aload_n 0, 1) := by decide +kernel
theorem dX6_price_24 : decode cX6_price 24 = .ok (.getfield 40, 3) := by decide +kernel
theorem dX6_price_27 : decode cX6_price 27 = .ok (.iload_n 1, 1) := by decide +kernel
theorem dX6_price_28 : decode cX6_price 28 = .ok (.invokevirtual 201, 3) := by decide +kernel
theorem dX6_price_31 : decode cX6_price 31 = .ok (.ifCond .ne 12, 3) := by decide +kernel
theorem dX6_price_34 : decode cX6_price 34 = .ok (.aload_n 0, 1) := by decide +kernel
theorem dX6_price_35 : decode cX6_price 35 = .ok (.getfield 47, 3) := by decide +kernel
theorem dX6_price_38 : decode cX6_price 38 = .ok (.iconst 1, 1) := by decide +kernel
theorem dX6_price_39 : decode cX6_price 39 = .ok (.invokevirtual 121, 3) := by decide +kernel
theorem dX6_price_42 : decode cX6_price 42 = .ok (.ireturn, 1) := by decide +kernel
theorem dX6_price_43 : decode cX6_price 43 = .ok (.iload_n 2, 1) := by decide +kernel
theorem dX6_price_44 : decode cX6_price 44 = .ok (.iconst 0, 1) := by decide +kernel
theorem dX6_price_45 : decode cX6_price 45 = .ok (.bipush 23, 2) := by decide +kernel
theorem dX6_price_47 : decode cX6_price 47 = .ok (.invokestatic 63, 3) := by decide +kernel
theorem dX6_price_50 : decode cX6_price 50 = .ok (.ifCond .ne 12, 3) := by decide +kernel
theorem dX6_price_53 : decode cX6_price 53 = .ok (.aload_n 0, 1) := by decide +kernel
theorem dX6_price_54 : decode cX6_price 54 = .ok (.getfield 47, 3) := by decide +kernel
theorem dX6_price_57 : decode cX6_price 57 = .ok (.iconst 2, 1) := by decide +kernel
theorem dX6_price_58 : decode cX6_price 58 = .ok (.invokevirtual 121, 3) := by decide +kernel
theorem dX6_price_61 : decode cX6_price 61 = .ok (.ireturn, 1) := by decide +kernel
theorem dX6_price_62 : decode cX6_price 62 = .ok (.aload_n 0, 1) := by decide +kernel
theorem dX6_price_63 : decode cX6_price 63 = .ok (.getfield 40, 3) := by decide +kernel
theorem dX6_price_66 : decode cX6_price 66 = .ok (.iload_n 1, 1) := by decide +kernel
theorem dX6_price_67 : decode cX6_price 67 = .ok (.iload_n 2, 1) := by decide +kernel
theorem dX6_price_68 : decode cX6_price 68 = .ok (.iload_n 3, 1) := by decide +kernel
theorem dX6_price_69 : decode cX6_price 69 = .ok (.invokevirtual 204, 3) := by decide +kernel
theorem dX6_price_72 : decode cX6_price 72 = .ok (.ireturn, 1) := by decide +kernel
theorem dX6_tear_0 : decode cX6_tear 0 = .ok (.iload_n 1, 1) := by decide +kernel
theorem dX6_tear_1 : decode cX6_tear 1 = .ok (.iconst 0, 1) := by decide +kernel
theorem dX6_tear_2 : decode cX6_tear 2 = .ok (.bipush 6, 2) := by decide +kernel
theorem dX6_tear_4 : decode cX6_tear 4 = .ok (.invokestatic 63, 3) := by decide +kernel
theorem dX6_tear_7 : decode cX6_tear 7 = .ok (.ifCond .ne 5, 3) := by decide +kernel
theorem dX6_tear_10 : decode cX6_tear 10 = .ok (.iconst (-1), 1) := by decide +kernel
theorem dX6_tear_11 : decode cX6_tear 11 = .ok (.ireturn, 1) := by decide +kernel
theorem dX6_tear_12 : decode cX6_tear 12 = .ok (.aload_n 0, 1) := by decide +kernel
theorem dX6_tear_13 : decode cX6_tear 13 = .ok (.getfield 40, 3) := by decide +kernel
theorem dX6_tear_16 : decode cX6_tear 16 = .ok (.iload_n 1, 1) := by decide +kernel
theorem dX6_tear_17 : decode cX6_tear 17 = .ok (.invokevirtual 201, 3) := by decide +kernel
theorem dX6_tear_20 : decode cX6_tear 20 = .ok (.ifCond .ne 12, 3) := by decide +kernel
theorem dX6_tear_23 : decode cX6_tear 23 = .ok (.aload_n 0, 1) := by decide +kernel
theorem dX6_tear_24 : decode cX6_tear 24 = .ok (.getfield 47, 3) := by decide +kernel
theorem dX6_tear_27 : decode cX6_tear 27 = .ok (.iconst 1, 1) := by decide +kernel
theorem dX6_tear_28 : decode cX6_tear 28 = .ok (.invokevirtual 121, 3) := by decide +kernel
theorem dX6_tear_31 : decode cX6_tear 31 = .ok (.ireturn, 1) := by decide +kernel
theorem dX6_tear_32 : decode cX6_tear 32 = .ok (.aload_n 0, 1) := by decide +kernel
theorem dX6_tear_33 : decode cX6_tear 33 = .ok (.getfield 40, 3) := by decide +kernel
theorem dX6_tear_36 : decode cX6_tear 36 = .ok (.iload_n 1, 1) := by decide +kernel
theorem dX6_tear_37 : decode cX6_tear 37 = .ok (.invokevirtual 207, 3) := by decide +kernel
theorem dX6_tear_40 : decode cX6_tear 40 = .ok (.iconst 1, 1) := by decide +kernel
theorem dX6_tear_41 : decode cX6_tear 41 = .ok (.ireturn, 1) := by decide +kernel
theorem dX6_copy_0 : decode cX6_copy 0 = .ok (.iload_n 1, 1) := by decide +kernel
theorem dX6_copy_1 : decode cX6_copy 1 = .ok (.iconst 0, 1) := by decide +kernel
theorem dX6_copy_2 : decode cX6_copy 2 = .ok (.bipush 6, 2) := by decide +kernel
theorem dX6_copy_4 : decode cX6_copy 4 = .ok (.invokestatic 63, 3) := by decide +kernel
theorem dX6_copy_7 : decode cX6_copy 7 = .ok (.ifCond .eq 13, 3) := by decide +kernel
theorem dX6_copy_10 : decode cX6_copy 10 = .ok (.iload_n 3, 1) := by decide +kernel
theorem dX6_copy_11 : decode cX6_copy 11 = .ok (.iconst 0, 1) := by decide +kernel
theorem dX6_copy_12 : decode cX6_copy 12 = .ok (.bipush 6, 2) := by decide +kernel
theorem dX6_copy_14 : decode cX6_copy 14 = .ok (.invokestatic 63, 3) := by decide +kernel
theorem dX6_copy_17 : decode cX6_copy 17 = .ok (.ifCond .ne 5, 3) := by decide +kernel
theorem dX6_copy_20 : decode cX6_copy 20 = .ok (.iconst (-1), 1) := by decide +kernel
theorem dX6_copy_21 : decode cX6_copy 21 = .ok (.ireturn, 1) := by decide +kernel
theorem dX6_copy_22 : decode cX6_copy 22 = .ok (.iload 5, 2) := by decide +kernel
theorem dX6_copy_24 : decode cX6_copy 24 = .ok (.ifCond .ge 12, 3) := by decide +kernel
theorem dX6_copy_27 : decode cX6_copy 27 = .ok (.aload_n 0, 1) := by decide +kernel
theorem dX6_copy_28 : decode cX6_copy 28 = .ok (.getfield 47, 3) := by decide +kernel
theorem dX6_copy_31 : decode cX6_copy 31 = .ok (.iconst 5, 1) := by decide +kernel
theorem dX6_copy_32 : decode cX6_copy 32 = .ok (.invokevirtual 121, 3) := by decide +kernel
theorem dX6_copy_35 : decode cX6_copy 35 = .ok (.ireturn, 1) := by decide +kernel
theorem dX6_copy_36 : decode cX6_copy 36 = .ok (.aload_n 0, 1) := by decide +kernel
theorem dX6_copy_37 : decode cX6_copy 37 = .ok (.getfield 40, 3) := by decide +kernel
theorem dX6_copy_40 : decode cX6_copy 40 = .ok (.iload_n 1, 1) := by decide +kernel
theorem dX6_copy_41 : decode cX6_copy 41 = .ok (.invokevirtual 201, 3) := by decide +kernel
theorem dX6_copy_44 : decode cX6_copy 44 = .ok (.ifCond .eq 14, 3) := by decide +kernel
theorem dX6_copy_47 : decode cX6_copy 47 = .ok (.aload_n 0, 1) := by decide +kernel
theorem dX6_copy_48 : decode cX6_copy 48 = .ok (.getfield 40, 3) := by decide +kernel
theorem dX6_copy_51 : decode cX6_copy 51 = .ok (.iload_n 3, 1) := by decide +kernel
theorem dX6_copy_52 : decode cX6_copy 52 = .ok (.invokevirtual 201, 3) := by decide +kernel
theorem dX6_copy_55 : decode cX6_copy 55 = .ok (.ifCond .ne 12, 3) := by decide +kernel
theorem dX6_copy_58 : decode cX6_copy 58 = .ok (.aload_n 0, 1) := by decide +kernel
theorem dX6_copy_59 : decode cX6_copy 59 = .ok (.getfield 47, 3) := by decide +kernel
theorem dX6_copy_62 : decode cX6_copy 62 = .ok (.iconst 1, 1) := by decide +kernel
theorem dX6_copy_63 : decode cX6_copy 63 = .ok (.invokevirtual 121, 3) := by decide +kernel
theorem dX6_copy_66 : decode cX6_copy 66 = .ok (.ireturn, 1) := by decide +kernel
theorem dX6_copy_67 : decode cX6_copy 67 = .ok (.iload_n 2, 1) := by decide +kernel
theorem dX6_copy_68 : decode cX6_copy 68 = .ok (.iload 5, 2) := by decide +kernel
theorem dX6_copy_70 : decode cX6_copy 70 = .ok (.invokestatic 211, 3) := by decide +kernel
theorem dX6_copy_73 : decode cX6_copy 73 = .ok (.ifCond .eq 13, 3) := by decide +kernel
theorem dX6_copy_76 : decode cX6_copy 76 = .ok (.iload 4, 2) := by decide +kernel
theorem dX6_copy_78 : decode cX6_copy 78 = .ok (.iload 5, 2) := by decide +kernel
theorem dX6_copy_80 : decode cX6_copy 80 = .ok (.invokestatic 211, 3) := by decide +kernel
theorem dX6_copy_83 : decode cX6_copy 83 = .ok (.ifCond .ne 12, 3) := by decide +kernel
theorem dX6_copy_86 : decode cX6_copy 86 = .ok (.aload_n 0, 1) := by decide +kernel
theorem dX6_copy_87 : decode cX6_copy 87 = .ok (.getfield 47, 3) := by decide +kernel
theorem dX6_copy_90 : decode cX6_copy 90 = .ok (.iconst 2, 1) := by decide +kernel
theorem dX6_copy_91 : decode cX6_copy 91 = .ok (.invokevirtual 121, 3) := by decide +kernel
theorem dX6_copy_94 : decode cX6_copy 94 = .ok (.ireturn, 1) := by decide +kernel
theorem dX6_copy_95 : decode cX6_copy 95 = .ok (.aload_n 0, 1) := by decide +kernel
theorem dX6_copy_96 : decode cX6_copy 96 = .ok (.getfield 40, 3) := by decide +kernel
theorem dX6_copy_99 : decode cX6_copy 99 = .ok (.iload_n 1, 1) := by decide +kernel
theorem dX6_copy_100 : decode cX6_copy 100 = .ok (.iload_n 2, 1) := by decide +kernel
theorem dX6_copy_101 : decode cX6_copy 101 = .ok (.iload_n 3, 1) := by decide +kernel
theorem dX6_copy_102 : decode cX6_copy 102 = .ok (.iload 4, 2) := by decide +kernel
theorem dX6_copy_104 : decode cX6_copy 104 = .ok (.iload 5, 2) := by decide +kernel
theorem dX6_copy_106 : decode cX6_copy 106 = .ok (.invokevirtual 215, 3) := by decide +kernel
theorem dX6_copy_109 : decode cX6_copy 109 = .ok (.iconst 1, 1) := by decide +kernel
theorem dX6_copy_110 : decode cX6_copy 110 = .ok (.ireturn, 1) := by decide +kernel
theorem dX6_need_0 : decode cX6_need 0 = .ok (.iload_n 1, 1) := by decide +kernel
theorem dX6_need_1 : decode cX6_need 1 = .ok (.iconst 0, 1) := by decide +kernel
theorem dX6_need_2 : decode cX6_need 2 = .ok (.bipush 23, 2) := by decide +kernel
theorem dX6_need_4 : decode cX6_need 4 = .ok (.invokestatic 63, 3) := by decide +kernel
theorem dX6_need_7 : decode cX6_need 7 = .ok (.ifCond .eq 14, 3) := by decide +kernel
theorem dX6_need_10 : decode cX6_need 10 = .ok (.iload_n 2, 1) := by decide +kernel
theorem dX6_need_11 : decode cX6_need 11 = .ok (.iconst 0, 1) := by decide +kernel
theorem dX6_need_12 : decode cX6_need 12 = .ok (.sipush 10000, 3) := by decide +kernel
theorem dX6_need_15 : decode cX6_need 15 = .ok (.invokestatic 63, 3) := by decide +kernel
theorem dX6_need_18 : decode cX6_need 18 = .ok (.ifCond .ne 5, 3) := by decide +kernel
theorem dX6_need_21 : decode cX6_need 21 = .ok (.iconst (-1), 1) := by decide +kernel
theorem dX6_need_22 : decode cX6_need 22 = .ok (.ireturn, 1) := by decide +kernel
theorem dX6_need_23 : decode cX6_need 23 = .ok (.aload_n 0, 1) := by decide +kernel
theorem dX6_need_24 : decode cX6_need 24 = .ok (.getfield 40, 3) := by decide +kernel
theorem dX6_need_27 : decode cX6_need 27 = .ok (.iload_n 1, 1) := by decide +kernel
theorem dX6_need_28 : decode cX6_need 28 = .ok (.iload_n 2, 1) := by decide +kernel
theorem dX6_need_29 : decode cX6_need 29 = .ok (.invokevirtual 219, 3) := by decide +kernel
theorem dX6_need_32 : decode cX6_need 32 = .ok (.ireturn, 1) := by decide +kernel
theorem dX6_plan_0 : decode cX6_plan 0 = .ok (.iload_n 1, 1) := by decide +kernel
theorem dX6_plan_1 : decode cX6_plan 1 = .ok (.iconst 0, 1) := by decide +kernel
theorem dX6_plan_2 : decode cX6_plan 2 = .ok (.bipush 6, 2) := by decide +kernel
theorem dX6_plan_4 : decode cX6_plan 4 = .ok (.invokestatic 63, 3) := by decide +kernel
theorem dX6_plan_7 : decode cX6_plan 7 = .ok (.ifCond .eq 14, 3) := by decide +kernel
theorem dX6_plan_10 : decode cX6_plan 10 = .ok (.iload_n 2, 1) := by decide +kernel
theorem dX6_plan_11 : decode cX6_plan 11 = .ok (.iconst 1, 1) := by decide +kernel
theorem dX6_plan_12 : decode cX6_plan 12 = .ok (.sipush 1000, 3) := by decide +kernel
theorem dX6_plan_15 : decode cX6_plan 15 = .ok (.invokestatic 63, 3) := by decide +kernel
theorem dX6_plan_18 : decode cX6_plan 18 = .ok (.ifCond .ne 5, 3) := by decide +kernel
theorem dX6_plan_21 : decode cX6_plan 21 = .ok (.iconst (-1), 1) := by decide +kernel
theorem dX6_plan_22 : decode cX6_plan 22 = .ok (.ireturn, 1) := by decide +kernel
theorem dX6_plan_23 : decode cX6_plan 23 = .ok (.aload_n 0, 1) := by decide +kernel
theorem dX6_plan_24 : decode cX6_plan 24 = .ok (.getfield 40, 3) := by decide +kernel
theorem dX6_plan_27 : decode cX6_plan 27 = .ok (.iload_n 1, 1) := by decide +kernel
theorem dX6_plan_28 : decode cX6_plan 28 = .ok (.invokevirtual 201, 3) := by decide +kernel
theorem dX6_plan_31 : decode cX6_plan 31 = .ok (.ifCond .ne 12, 3) := by decide +kernel
theorem dX6_plan_34 : decode cX6_plan 34 = .ok (.aload_n 0, 1) := by decide +kernel
theorem dX6_plan_35 : decode cX6_plan 35 = .ok (.getfield 47, 3) := by decide +kernel
theorem dX6_plan_38 : decode cX6_plan 38 = .ok (.iconst 1, 1) := by decide +kernel
theorem dX6_plan_39 : decode cX6_plan 39 = .ok (.invokevirtual 121, 3) := by decide +kernel
theorem dX6_plan_42 : decode cX6_plan 42 = .ok (.ireturn, 1) := by decide +kernel
theorem dX6_plan_43 : decode cX6_plan 43 = .ok (.aload_n 0, 1) := by decide +kernel
theorem dX6_plan_44 : decode cX6_plan 44 = .ok (.getfield 40, 3) := by decide +kernel
theorem dX6_plan_47 : decode cX6_plan 47 = .ok (.iload_n 1, 1) := by decide +kernel
theorem dX6_plan_48 : decode cX6_plan 48 = .ok (.iload_n 2, 1) := by decide +kernel
theorem dX6_plan_49 : decode cX6_plan 49 = .ok (.invokevirtual 222, 3) := by decide +kernel
theorem dX6_plan_52 : decode cX6_plan 52 = .ok (.lstore_n 3, 1) := by decide +kernel
theorem dX6_plan_53 : decode cX6_plan 53 = .ok (.lload_n 3, 1) := by decide +kernel
theorem dX6_plan_54 : decode cX6_plan 54 = .ok (.ldc2_w 226, 3) := by decide +kernel
theorem dX6_plan_57 : decode cX6_plan 57 = .ok (.lcmp, 1) := by decide +kernel
theorem dX6_plan_58 : decode cX6_plan 58 = .ok (.ifCond .ne 6, 3) := by decide +kernel
theorem dX6_plan_61 : decode cX6_plan 61 = .ok (.bipush (-9), 2) := by decide +kernel
theorem dX6_plan_63 : decode cX6_plan 63 = .ok (.ireturn, 1) := by decide +kernel
theorem dX6_plan_64 : decode cX6_plan 64 = .ok (.aload_n 0, 1) := by decide +kernel
theorem dX6_plan_65 : decode cX6_plan 65 = .ok (.lload_n 3, 1) := by decide +kernel
theorem dX6_plan_66 : decode cX6_plan 66 = .ok (.invokestatic 228, 3) := by decide +kernel
theorem dX6_plan_69 : decode cX6_plan 69 = .ok (.putfield 58, 3) := by decide +kernel
theorem dX6_plan_72 : decode cX6_plan 72 = .ok (.lload_n 3, 1) := by decide +kernel
theorem dX6_plan_73 : decode cX6_plan 73 = .ok (.invokestatic 232, 3) := by decide +kernel
theorem dX6_plan_76 : decode cX6_plan 76 = .ok (.ireturn, 1) := by decide +kernel
theorem dX6_upper_0 : decode cX6_upper 0 = .ok (.aload_n 0, 1) := by decide +kernel
theorem dX6_upper_1 : decode cX6_upper 1 = .ok (.getfield 51, 3) := by decide +kernel
theorem dX6_upper_4 : decode cX6_upper 4 = .ok (.lreturn, 1) := by decide +kernel
theorem dX6_lower_0 : decode cX6_lower 0 = .ok (.aload_n 0, 1) := by decide +kernel
theorem dX6_lower_1 : decode cX6_lower 1 = .ok (.getfield 55, 3) := by decide +kernel
theorem dX6_lower_4 : decode cX6_lower 4 = .ok (.lreturn, 1) := by decide +kernel
theorem dX6_asked_0 : decode cX6_asked 0 = .ok (.aload_n 0, 1) := by decide +kernel
theorem dX6_asked_1 : decode cX6_asked 1 = .ok (.getfield 58, 3) := by decide +kernel
theorem dX6_asked_4 : decode cX6_asked 4 = .ok (.lreturn, 1) := by decide +kernel
theorem dX6_count_0 : decode cX6_count 0 = .ok (.iload_n 1, 1) := by decide +kernel
theorem dX6_count_1 : decode cX6_count 1 = .ok (.tableswitch 83 0 4 #[35, 43, 51, 59, 67], 35) := by decide +kernel
theorem dX6_count_36 : decode cX6_count 36 = .ok (.aload_n 0, 1) := by decide +kernel
theorem dX6_count_37 : decode cX6_count 37 = .ok (.getfield 10, 3) := by decide +kernel
theorem dX6_count_40 : decode cX6_count 40 = .ok (.invokevirtual 67, 3) := by decide +kernel
theorem dX6_count_43 : decode cX6_count 43 = .ok (.ireturn, 1) := by decide +kernel
theorem dX6_count_44 : decode cX6_count 44 = .ok (.aload_n 0, 1) := by decide +kernel
theorem dX6_count_45 : decode cX6_count 45 = .ok (.getfield 19, 3) := by decide +kernel
theorem dX6_count_48 : decode cX6_count 48 = .ok (.invokevirtual 135, 3) := by decide +kernel
theorem dX6_count_51 : decode cX6_count 51 = .ok (.ireturn, 1) := by decide +kernel
theorem dX6_count_52 : decode cX6_count 52 = .ok (.aload_n 0, 1) := by decide +kernel
theorem dX6_count_53 : decode cX6_count 53 = .ok (.getfield 26, 3) := by decide +kernel
theorem dX6_count_56 : decode cX6_count 56 = .ok (.invokevirtual 149, 3) := by decide +kernel
theorem dX6_count_59 : decode cX6_count 59 = .ok (.ireturn, 1) := by decide +kernel
theorem dX6_count_60 : decode cX6_count 60 = .ok (.aload_n 0, 1) := by decide +kernel
theorem dX6_count_61 : decode cX6_count 61 = .ok (.getfield 40, 3) := by decide +kernel
theorem dX6_count_64 : decode cX6_count 64 = .ok (.invokevirtual 236, 3) := by decide +kernel
theorem dX6_count_67 : decode cX6_count 67 = .ok (.ireturn, 1) := by decide +kernel
theorem dX6_count_68 : decode cX6_count 68 = .ok (.aload_n 0, 1) := by decide +kernel
theorem dX6_count_69 : decode cX6_count 69 = .ok (.getfield 26, 3) := by decide +kernel
theorem dX6_count_72 : decode cX6_count 72 = .ok (.invokevirtual 239, 3) := by decide +kernel
theorem dX6_count_75 : decode cX6_count 75 = .ok (.ifCond .eq 7, 3) := by decide +kernel
theorem dX6_count_78 : decode cX6_count 78 = .ok (.iconst 1, 1) := by decide +kernel
theorem dX6_count_79 : decode cX6_count 79 = .ok (.goto 4, 3) := by decide +kernel
theorem dX6_count_82 : decode cX6_count 82 = .ok (.iconst 0, 1) := by decide +kernel
theorem dX6_count_83 : decode cX6_count 83 = .ok (.ireturn, 1) := by decide +kernel
theorem dX6_count_84 : decode cX6_count 84 = .ok (.iconst (-1), 1) := by decide +kernel
theorem dX6_count_85 : decode cX6_count 85 = .ok (.ireturn, 1) := by decide +kernel
theorem dX6_finding_0 : decode cX6_finding 0 = .ok (.aload_n 0, 1) := by decide +kernel
theorem dX6_finding_1 : decode cX6_finding 1 = .ok (.getfield 47, 3) := by decide +kernel
theorem dX6_finding_4 : decode cX6_finding 4 = .ok (.invokevirtual 243, 3) := by decide +kernel
theorem dX6_finding_7 : decode cX6_finding 7 = .ok (.ireturn, 1) := by decide +kernel
theorem dX6_findings_0 : decode cX6_findings 0 = .ok (.iload_n 1, 1) := by decide +kernel
theorem dX6_findings_1 : decode cX6_findings 1 = .ok (.iconst 1, 1) := by decide +kernel
theorem dX6_findings_2 : decode cX6_findings 2 = .ok (.iconst 5, 1) := by decide +kernel
theorem dX6_findings_3 : decode cX6_findings 3 = .ok (.invokestatic 63, 3) := by decide +kernel
theorem dX6_findings_6 : decode cX6_findings 6 = .ok (.ifCond .ne 5, 3) := by decide +kernel
theorem dX6_findings_9 : decode cX6_findings 9 = .ok (.iconst (-1), 1) := by decide +kernel
theorem dX6_findings_10 : decode cX6_findings 10 = .ok (.ireturn, 1) := by decide +kernel
theorem dX6_findings_11 : decode cX6_findings 11 = .ok (.aload_n 0, 1) := by decide +kernel
theorem dX6_findings_12 : decode cX6_findings 12 = .ok (.getfield 47, 3) := by decide +kernel
theorem dX6_findings_15 : decode cX6_findings 15 = .ok (.iload_n 1, 1) := by decide +kernel
theorem dX6_findings_16 : decode cX6_findings 16 = .ok (.invokevirtual 245, 3) := by decide +kernel
theorem dX6_findings_19 : decode cX6_findings 19 = .ok (.ireturn, 1) := by decide +kernel
theorem dX6_digest_0 : decode cX6_digest 0 = .ok (.aload_n 0, 1) := by decide +kernel
theorem dX6_digest_1 : decode cX6_digest 1 = .ok (.getfield 10, 3) := by decide +kernel
theorem dX6_digest_4 : decode cX6_digest 4 = .ok (.ldc2_w 248, 3) := by decide +kernel
theorem dX6_digest_7 : decode cX6_digest 7 = .ok (.invokevirtual 250, 3) := by decide +kernel
theorem dX6_digest_10 : decode cX6_digest 10 = .ok (.lstore_n 1, 1) := by decide +kernel
theorem dX6_digest_11 : decode cX6_digest 11 = .ok (.aload_n 0, 1) := by decide +kernel
theorem dX6_digest_12 : decode cX6_digest 12 = .ok (.getfield 19, 3) := by decide +kernel
theorem dX6_digest_15 : decode cX6_digest 15 = .ok (.lload_n 1, 1) := by decide +kernel
theorem dX6_digest_16 : decode cX6_digest 16 = .ok (.invokevirtual 253, 3) := by decide +kernel
theorem dX6_digest_19 : decode cX6_digest 19 = .ok (.lstore_n 1, 1) := by decide +kernel
theorem dX6_digest_20 : decode cX6_digest 20 = .ok (.aload_n 0, 1) := by decide +kernel
theorem dX6_digest_21 : decode cX6_digest 21 = .ok (.getfield 26, 3) := by decide +kernel
theorem dX6_digest_24 : decode cX6_digest 24 = .ok (.lload_n 1, 1) := by decide +kernel
theorem dX6_digest_25 : decode cX6_digest 25 = .ok (.invokevirtual 254, 3) := by decide +kernel
theorem dX6_digest_28 : decode cX6_digest 28 = .ok (.lstore_n 1, 1) := by decide +kernel
theorem dX6_digest_29 : decode cX6_digest 29 = .ok (.aload_n 0, 1) := by decide +kernel
theorem dX6_digest_30 : decode cX6_digest 30 = .ok (.getfield 33, 3) := by decide +kernel
theorem dX6_digest_33 : decode cX6_digest 33 = .ok (.lload_n 1, 1) := by decide +kernel
theorem dX6_digest_34 : decode cX6_digest 34 = .ok (.invokevirtual 255, 3) := by decide +kernel
theorem dX6_digest_37 : decode cX6_digest 37 = .ok (.lstore_n 1, 1) := by decide +kernel
theorem dX6_digest_38 : decode cX6_digest 38 = .ok (.aload_n 0, 1) := by decide +kernel
theorem dX6_digest_39 : decode cX6_digest 39 = .ok (.getfield 40, 3) := by decide +kernel
theorem dX6_digest_42 : decode cX6_digest 42 = .ok (.lload_n 1, 1) := by decide +kernel
theorem dX6_digest_43 : decode cX6_digest 43 = .ok (.invokevirtual 256, 3) := by decide +kernel
theorem dX6_digest_46 : decode cX6_digest 46 = .ok (.lstore_n 1, 1) := by decide +kernel
theorem dX6_digest_47 : decode cX6_digest 47 = .ok (.iconst 0, 1) := by decide +kernel
theorem dX6_digest_48 : decode cX6_digest 48 = .ok (.istore_n 3, 1) := by decide +kernel
theorem dX6_digest_49 : decode cX6_digest 49 = .ok (.iload_n 3, 1) := by decide +kernel
theorem dX6_digest_50 : decode cX6_digest 50 = .ok (.iconst 5, 1) := by decide +kernel
theorem dX6_digest_51 : decode cX6_digest 51 = .ok (.if_icmp .ge 20, 3) := by decide +kernel
theorem dX6_digest_54 : decode cX6_digest 54 = .ok (.lload_n 1, 1) := by decide +kernel
theorem dX6_digest_55 : decode cX6_digest 55 = .ok (.aload_n 0, 1) := by decide +kernel
theorem dX6_digest_56 : decode cX6_digest 56 = .ok (.iload_n 3, 1) := by decide +kernel
theorem dX6_digest_57 : decode cX6_digest 57 = .ok (.invokevirtual 257, 3) := by decide +kernel
theorem dX6_digest_60 : decode cX6_digest 60 = .ok (.i2l, 1) := by decide +kernel
theorem dX6_digest_61 : decode cX6_digest 61 = .ok (.invokestatic 260, 3) := by decide +kernel
theorem dX6_digest_64 : decode cX6_digest 64 = .ok (.lstore_n 1, 1) := by decide +kernel
theorem dX6_digest_65 : decode cX6_digest 65 = .ok (.iinc 3 1, 3) := by decide +kernel
theorem dX6_digest_68 : decode cX6_digest 68 = .ok (.goto (-19), 3) := by decide +kernel
theorem dX6_digest_71 : decode cX6_digest 71 = .ok (.lload_n 1, 1) := by decide +kernel
theorem dX6_digest_72 : decode cX6_digest 72 = .ok (.lreturn, 1) := by decide +kernel
theorem dX6_within_0 : decode cX6_within 0 = .ok (.iload_n 0, 1) := by decide +kernel
theorem dX6_within_1 : decode cX6_within 1 = .ok (.iload_n 1, 1) := by decide +kernel
theorem dX6_within_2 : decode cX6_within 2 = .ok (.if_icmp .lt 12, 3) := by decide +kernel
theorem dX6_within_5 : decode cX6_within 5 = .ok (.iload_n 0, 1) := by decide +kernel
theorem dX6_within_6 : decode cX6_within 6 = .ok (.iload_n 2, 1) := by decide +kernel
theorem dX6_within_7 : decode cX6_within 7 = .ok (.if_icmp .gt 7, 3) := by decide +kernel
theorem dX6_within_10 : decode cX6_within 10 = .ok (.iconst 1, 1) := by decide +kernel
theorem dX6_within_11 : decode cX6_within 11 = .ok (.goto 4, 3) := by decide +kernel
theorem dX6_within_14 : decode cX6_within 14 = .ok (.iconst 0, 1) := by decide +kernel
theorem dX6_within_15 : decode cX6_within 15 = .ok (.ireturn, 1) := by decide +kernel
theorem dX6_fitWhole_0 : decode cX6_fitWhole 0 = .ok (.iload_n 0, 1) := by decide +kernel
theorem dX6_fitWhole_1 : decode cX6_fitWhole 1 = .ok (.iconst 0, 1) := by decide +kernel
theorem dX6_fitWhole_2 : decode cX6_fitWhole 2 = .ok (.sipush 1000, 3) := by decide +kernel
theorem dX6_fitWhole_5 : decode cX6_fitWhole 5 = .ok (.invokestatic 63, 3) := by decide +kernel
theorem dX6_fitWhole_8 : decode cX6_fitWhole 8 = .ok (.ifCond .eq 40, 3) := by decide +kernel
theorem dX6_fitWhole_11 : decode cX6_fitWhole 11 = .ok (.iload_n 1, 1) := by decide +kernel
theorem dX6_fitWhole_12 : decode cX6_fitWhole 12 = .ok (.iconst 0, 1) := by decide +kernel
theorem dX6_fitWhole_13 : decode cX6_fitWhole 13 = .ok (.sipush 1000, 3) := by decide +kernel
theorem dX6_fitWhole_16 : decode cX6_fitWhole 16 = .ok (.invokestatic 63, 3) := by decide +kernel
theorem dX6_fitWhole_19 : decode cX6_fitWhole 19 = .ok (.ifCond .eq 29, 3) := by decide +kernel
theorem dX6_fitWhole_22 : decode cX6_fitWhole 22 = .ok (.iload_n 2, 1) := by decide +kernel
theorem dX6_fitWhole_23 : decode cX6_fitWhole 23 = .ok (.iconst 0, 1) := by decide +kernel
theorem dX6_fitWhole_24 : decode cX6_fitWhole 24 = .ok (.sipush 1000, 3) := by decide +kernel
theorem dX6_fitWhole_27 : decode cX6_fitWhole 27 = .ok (.invokestatic 63, 3) := by decide +kernel
theorem dX6_fitWhole_30 : decode cX6_fitWhole 30 = .ok (.ifCond .eq 18, 3) := by decide +kernel
theorem dX6_fitWhole_33 : decode cX6_fitWhole 33 = .ok (.iload_n 0, 1) := by decide +kernel
theorem dX6_fitWhole_34 : decode cX6_fitWhole 34 = .ok (.iload_n 1, 1) := by decide +kernel
theorem dX6_fitWhole_35 : decode cX6_fitWhole 35 = .ok (.iadd, 1) := by decide +kernel
theorem dX6_fitWhole_36 : decode cX6_fitWhole 36 = .ok (.iload_n 2, 1) := by decide +kernel
theorem dX6_fitWhole_37 : decode cX6_fitWhole 37 = .ok (.iadd, 1) := by decide +kernel
theorem dX6_fitWhole_38 : decode cX6_fitWhole 38 = .ok (.sipush 1000, 3) := by decide +kernel
theorem dX6_fitWhole_41 : decode cX6_fitWhole 41 = .ok (.if_icmp .gt 7, 3) := by decide +kernel
theorem dX6_fitWhole_44 : decode cX6_fitWhole 44 = .ok (.iconst 1, 1) := by decide +kernel
theorem dX6_fitWhole_45 : decode cX6_fitWhole 45 = .ok (.goto 4, 3) := by decide +kernel
theorem dX6_fitWhole_48 : decode cX6_fitWhole 48 = .ok (.iconst 0, 1) := by decide +kernel
theorem dX6_fitWhole_49 : decode cX6_fitWhole 49 = .ok (.ireturn, 1) := by decide +kernel
theorem dX6_hasHours_0 : decode cX6_hasHours 0 = .ok (.iload_n 0, 1) := by decide +kernel
theorem dX6_hasHours_1 : decode cX6_hasHours 1 = .ok (.iconst 0, 1) := by decide +kernel
theorem dX6_hasHours_2 : decode cX6_hasHours 2 = .ok (.bipush 24, 2) := by decide +kernel
theorem dX6_hasHours_4 : decode cX6_hasHours 4 = .ok (.invokestatic 63, 3) := by decide +kernel
theorem dX6_hasHours_7 : decode cX6_hasHours 7 = .ok (.ifCond .eq 15, 3) := by decide +kernel
theorem dX6_hasHours_10 : decode cX6_hasHours 10 = .ok (.iload_n 1, 1) := by decide +kernel
theorem dX6_hasHours_11 : decode cX6_hasHours 11 = .ok (.bipush 24, 2) := by decide +kernel
theorem dX6_hasHours_13 : decode cX6_hasHours 13 = .ok (.iload_n 0, 1) := by decide +kernel
theorem dX6_hasHours_14 : decode cX6_hasHours 14 = .ok (.isub, 1) := by decide +kernel
theorem dX6_hasHours_15 : decode cX6_hasHours 15 = .ok (.if_icmp .gt 7, 3) := by decide +kernel
theorem dX6_hasHours_18 : decode cX6_hasHours 18 = .ok (.iconst 1, 1) := by decide +kernel
theorem dX6_hasHours_19 : decode cX6_hasHours 19 = .ok (.goto 4, 3) := by decide +kernel
theorem dX6_hasHours_22 : decode cX6_hasHours 22 = .ok (.iconst 0, 1) := by decide +kernel
theorem dX6_hasHours_23 : decode cX6_hasHours 23 = .ok (.ireturn, 1) := by decide +kernel
theorem dX6_fold_0 : decode cX6_fold 0 = .ok (.ldc2_w 264, 3) := by decide +kernel
theorem dX6_fold_3 : decode cX6_fold 3 = .ok (.lload_n 0, 1) := by decide +kernel
theorem dX6_fold_4 : decode cX6_fold 4 = .ok (.lmul, 1) := by decide +kernel
theorem dX6_fold_5 : decode cX6_fold 5 = .ok (.lload_n 2, 1) := by decide +kernel
theorem dX6_fold_6 : decode cX6_fold 6 = .ok (.ladd, 1) := by decide +kernel
theorem dX6_fold_7 : decode cX6_fold 7 = .ok (.lreturn, 1) := by decide +kernel
theorem dX6_commonDivisor_0 : decode cX6_commonDivisor 0 = .ok (.iload_n 0, 1) := by decide +kernel
theorem dX6_commonDivisor_1 : decode cX6_commonDivisor 1 = .ok (.istore_n 2, 1) := by decide +kernel
theorem dX6_commonDivisor_2 : decode cX6_commonDivisor 2 = .ok (.iload_n 1, 1) := by decide +kernel
theorem dX6_commonDivisor_3 : decode cX6_commonDivisor 3 = .ok (.istore_n 3, 1) := by decide +kernel
theorem dX6_commonDivisor_4 : decode cX6_commonDivisor 4 = .ok (.iconst 0, 1) := by decide +kernel
theorem dX6_commonDivisor_5 : decode cX6_commonDivisor 5 = .ok (.istore 4, 2) := by decide +kernel
theorem dX6_commonDivisor_7 : decode cX6_commonDivisor 7 = .ok (.iload 4, 2) := by decide +kernel
theorem dX6_commonDivisor_9 : decode cX6_commonDivisor 9 = .ok (.bipush 64, 2) := by decide +kernel
theorem dX6_commonDivisor_11 : decode cX6_commonDivisor 11 = .ok (.if_icmp .ge 23, 3) := by decide +kernel
theorem dX6_commonDivisor_14 : decode cX6_commonDivisor 14 = .ok (.iload_n 2, 1) := by decide +kernel
theorem dX6_commonDivisor_15 : decode cX6_commonDivisor 15 = .ok (.ifCond .eq 19, 3) := by decide +kernel
theorem dX6_commonDivisor_18 : decode cX6_commonDivisor 18 = .ok (.iload_n 3, 1) := by decide +kernel
theorem dX6_commonDivisor_19 : decode cX6_commonDivisor 19 = .ok (.iload_n 2, 1) := by decide +kernel
theorem dX6_commonDivisor_20 : decode cX6_commonDivisor 20 = .ok (.irem, 1) := by decide +kernel
theorem dX6_commonDivisor_21 : decode cX6_commonDivisor 21 = .ok (.istore 5, 2) := by decide +kernel
theorem dX6_commonDivisor_23 : decode cX6_commonDivisor 23 = .ok (.iload_n 2, 1) := by decide +kernel
theorem dX6_commonDivisor_24 : decode cX6_commonDivisor 24 = .ok (.istore_n 3, 1) := by decide +kernel
theorem dX6_commonDivisor_25 : decode cX6_commonDivisor 25 = .ok (.iload 5, 2) := by decide +kernel
theorem dX6_commonDivisor_27 : decode cX6_commonDivisor 27 = .ok (.istore_n 2, 1) := by decide +kernel
theorem dX6_commonDivisor_28 : decode cX6_commonDivisor 28 = .ok (.iinc 4 1, 3) := by decide +kernel
theorem dX6_commonDivisor_31 : decode cX6_commonDivisor 31 = .ok (.goto (-24), 3) := by decide +kernel
theorem dX6_commonDivisor_34 : decode cX6_commonDivisor 34 = .ok (.iload_n 3, 1) := by decide +kernel
theorem dX6_commonDivisor_35 : decode cX6_commonDivisor 35 = .ok (.iconst 1, 1) := by decide +kernel
theorem dX6_commonDivisor_36 : decode cX6_commonDivisor 36 = .ok (.invokestatic 266, 3) := by decide +kernel
theorem dX6_commonDivisor_39 : decode cX6_commonDivisor 39 = .ok (.ireturn, 1) := by decide +kernel
theorem dX7_init_0 : decode cX7_init 0 = .ok (.aload_n 0, 1) := by decide +kernel
theorem dX7_init_1 : decode cX7_init 1 = .ok (.invokespecial 1, 3) := by decide +kernel
theorem dX7_init_4 : decode cX7_init 4 = .ok (.aload_n 0, 1) := by decide +kernel
theorem dX7_init_5 : decode cX7_init 5 = .ok (.bipush 6, 2) := by decide +kernel
theorem dX7_init_7 : decode cX7_init 7 = .ok (.newarray .int, 2) := by decide +kernel
theorem dX7_init_9 : decode cX7_init 9 = .ok (.putfield 7, 3) := by decide +kernel
theorem dX7_init_12 : decode cX7_init 12 = .ok (.aload_n 0, 1) := by decide +kernel
theorem dX7_init_13 : decode cX7_init 13 = .ok (.lconst 1, 1) := by decide +kernel
theorem dX7_init_14 : decode cX7_init 14 = .ok (.putfield 13, 3) := by decide +kernel
theorem dX7_init_17 : decode cX7_init 17 = .ok (.aload_n 0, 1) := by decide +kernel
theorem dX7_init_18 : decode cX7_init 18 = .ok (.bipush 30, 2) := by decide +kernel
theorem dX7_init_20 : decode cX7_init 20 = .ok (.newarray .int, 2) := by decide +kernel
theorem dX7_init_22 : decode cX7_init 22 = .ok (.putfield 17, 3) := by decide +kernel
theorem dX7_init_25 : decode cX7_init 25 = .ok (.aload_n 0, 1) := by decide +kernel
theorem dX7_init_26 : decode cX7_init 26 = .ok (.bipush 10, 2) := by decide +kernel
theorem dX7_init_28 : decode cX7_init 28 = .ok (.newarray .int, 2) := by decide +kernel
theorem dX7_init_30 : decode cX7_init 30 = .ok (.putfield 20, 3) := by decide +kernel
theorem dX7_init_33 : decode cX7_init 33 = .ok (.aload_n 0, 1) := by decide +kernel
theorem dX7_init_34 : decode cX7_init 34 = .ok (.bipush 10, 2) := by decide +kernel
theorem dX7_init_36 : decode cX7_init 36 = .ok (.newarray .int, 2) := by decide +kernel
theorem dX7_init_38 : decode cX7_init 38 = .ok (.putfield 23, 3) := by decide +kernel
theorem dX7_init_41 : decode cX7_init 41 = .ok (.aload_n 0, 1) := by decide +kernel
theorem dX7_init_42 : decode cX7_init 42 = .ok (.bipush 10, 2) := by decide +kernel
theorem dX7_init_44 : decode cX7_init 44 = .ok (.newarray .boolean, 2) := by decide +kernel
theorem dX7_init_46 : decode cX7_init 46 = .ok (.putfield 26, 3) := by decide +kernel
theorem dX7_init_49 : decode cX7_init 49 = .ok (.aload_n 0, 1) := by decide +kernel
theorem dX7_init_50 : decode cX7_init 50 = .ok (.bipush 16, 2) := by decide +kernel
theorem dX7_init_52 : decode cX7_init 52 = .ok (.newarray .int, 2) := by decide +kernel
theorem dX7_init_54 : decode cX7_init 54 = .ok (.putfield 30, 3) := by decide +kernel
theorem dX7_init_57 : decode cX7_init 57 = .ok (.aload_n 0, 1) := by decide +kernel
theorem dX7_init_58 : decode cX7_init 58 = .ok (.iconst 4, 1) := by decide +kernel
theorem dX7_init_59 : decode cX7_init 59 = .ok (.newarray .int, 2) := by decide +kernel
theorem dX7_init_61 : decode cX7_init 61 = .ok (.putfield 33, 3) := by decide +kernel
theorem dX7_init_64 : decode cX7_init 64 = .ok (.aload_n 0, 1) := by decide +kernel
theorem dX7_init_65 : decode cX7_init 65 = .ok (.iconst 3, 1) := by decide +kernel
theorem dX7_init_66 : decode cX7_init 66 = .ok (.putfield 36, 3) := by decide +kernel
theorem dX7_init_69 : decode cX7_init 69 = .ok (.aload_n 0, 1) := by decide +kernel
theorem dX7_init_70 : decode cX7_init 70 = .ok (.iconst 1, 1) := by decide +kernel
theorem dX7_init_71 : decode cX7_init 71 = .ok (.putfield 40, 3) := by decide +kernel
theorem dX7_init_74 : decode cX7_init 74 = .ok (.aload_n 0, 1) := by decide +kernel
theorem dX7_init_75 : decode cX7_init 75 = .ok (.iconst 1, 1) := by decide +kernel
theorem dX7_init_76 : decode cX7_init 76 = .ok (.putfield 43, 3) := by decide +kernel
theorem dX7_init_79 : decode cX7_init 79 = .ok (.aload_n 0, 1) := by decide +kernel
theorem dX7_init_80 : decode cX7_init 80 = .ok (.bipush 10, 2) := by decide +kernel
theorem dX7_init_82 : decode cX7_init 82 = .ok (.putfield 46, 3) := by decide +kernel
theorem dX7_init_85 : decode cX7_init 85 = .ok (.aload_n 0, 1) := by decide +kernel
theorem dX7_init_86 : decode cX7_init 86 = .ok (.sipush 200, 3) := by decide +kernel
theorem dX7_init_89 : decode cX7_init 89 = .ok (.newarray .int, 2) := by decide +kernel
theorem dX7_init_91 : decode cX7_init 91 = .ok (.putfield 49, 3) := by decide +kernel
theorem dX7_init_94 : decode cX7_init 94 = .ok (.aload_n 0, 1) := by decide +kernel
theorem dX7_init_95 : decode cX7_init 95 = .ok (.sipush 200, 3) := by decide +kernel
theorem dX7_init_98 : decode cX7_init 98 = .ok (.newarray .long, 2) := by decide +kernel
theorem dX7_init_100 : decode cX7_init 100 = .ok (.putfield 52, 3) := by decide +kernel
theorem dX7_init_103 : decode cX7_init 103 = .ok (.aload_n 0, 1) := by decide +kernel
theorem dX7_init_104 : decode cX7_init 104 = .ok (.sipush 200, 3) := by decide +kernel
theorem dX7_init_107 : decode cX7_init 107 = .ok (.newarray .long, 2) := by decide +kernel
theorem dX7_init_109 : decode cX7_init 109 = .ok (.putfield 56, 3) := by decide +kernel
theorem dX7_init_112 : decode cX7_init 112 = .ok (.aload_n 0, 1) := by decide +kernel
theorem dX7_init_113 : decode cX7_init 113 = .ok (.sipush 200, 3) := by decide +kernel
theorem dX7_init_116 : decode cX7_init 116 = .ok (.newarray .int, 2) := by decide +kernel
theorem dX7_init_118 : decode cX7_init 118 = .ok (.putfield 59, 3) := by decide +kernel
theorem dX7_init_121 : decode cX7_init 121 = .ok (.aload_n 0, 1) := by decide +kernel
theorem dX7_init_122 : decode cX7_init 122 = .ok (.bipush (-9), 2) := by decide +kernel
theorem dX7_init_124 : decode cX7_init 124 = .ok (.putfield 62, 3) := by decide +kernel
theorem dX7_init_127 : decode cX7_init 127 = .ok (.aload_n 0, 1) := by decide +kernel
theorem dX7_init_128 : decode cX7_init 128 = .ok (.iconst 5, 1) := by decide +kernel
theorem dX7_init_129 : decode cX7_init 129 = .ok (.newarray .int, 2) := by decide +kernel
theorem dX7_init_131 : decode cX7_init 131 = .ok (.putfield 65, 3) := by decide +kernel
theorem dX7_init_134 : decode cX7_init 134 = .ok (.aload_n 0, 1) := by decide +kernel
theorem dX7_init_135 : decode cX7_init 135 = .ok (.iconst 5, 1) := by decide +kernel
theorem dX7_init_136 : decode cX7_init 136 = .ok (.newarray .int, 2) := by decide +kernel
theorem dX7_init_138 : decode cX7_init 138 = .ok (.putfield 68, 3) := by decide +kernel
theorem dX7_init_141 : decode cX7_init 141 = .ok (.aload_n 0, 1) := by decide +kernel
theorem dX7_init_142 : decode cX7_init 142 = .ok (.iconst 4, 1) := by decide +kernel
theorem dX7_init_143 : decode cX7_init 143 = .ok (.newarray .int, 2) := by decide +kernel
theorem dX7_init_145 : decode cX7_init 145 = .ok (.putfield 71, 3) := by decide +kernel
theorem dX7_init_148 : decode cX7_init 148 = .ok (.aload_n 0, 1) := by decide +kernel
theorem dX7_init_149 : decode cX7_init 149 = .ok (.iconst 4, 1) := by decide +kernel
theorem dX7_init_150 : decode cX7_init 150 = .ok (.newarray .int, 2) := by decide +kernel
theorem dX7_init_152 : decode cX7_init 152 = .ok (.putfield 74, 3) := by decide +kernel
theorem dX7_init_155 : decode cX7_init 155 = .ok (.aload_n 0, 1) := by decide +kernel
theorem dX7_init_156 : decode cX7_init 156 = .ok (.bipush 7, 2) := by decide +kernel
theorem dX7_init_158 : decode cX7_init 158 = .ok (.newarray .int, 2) := by decide +kernel
theorem dX7_init_160 : decode cX7_init 160 = .ok (.putfield 77, 3) := by decide +kernel
theorem dX7_init_163 : decode cX7_init 163 = .ok (.aload_n 0, 1) := by decide +kernel
theorem dX7_init_164 : decode cX7_init 164 = .ok (.iconst 5, 1) := by decide +kernel
theorem dX7_init_165 : decode cX7_init 165 = .ok (.newarray .long, 2) := by decide +kernel
theorem dX7_init_167 : decode cX7_init 167 = .ok (.putfield 80, 3) := by decide +kernel
theorem dX7_init_170 : decode cX7_init 170 = .ok (.aload_n 0, 1) := by decide +kernel
theorem dX7_init_171 : decode cX7_init 171 = .ok (.bipush (-9), 2) := by decide +kernel
theorem dX7_init_173 : decode cX7_init 173 = .ok (.putfield 83, 3) := by decide +kernel
theorem dX7_init_176 : decode cX7_init 176 = .ok (.aload_n 0, 1) := by decide +kernel
theorem dX7_init_177 : decode cX7_init 177 = .ok (.sipush 500, 3) := by decide +kernel
theorem dX7_init_180 : decode cX7_init 180 = .ok (.newarray .int, 2) := by decide +kernel
theorem dX7_init_182 : decode cX7_init 182 = .ok (.putfield 86, 3) := by decide +kernel
theorem dX7_init_185 : decode cX7_init 185 = .ok (.aload_n 0, 1) := by decide +kernel
theorem dX7_init_186 : decode cX7_init 186 = .ok (.sipush 500, 3) := by decide +kernel
theorem dX7_init_189 : decode cX7_init 189 = .ok (.newarray .int, 2) := by decide +kernel
theorem dX7_init_191 : decode cX7_init 191 = .ok (.putfield 89, 3) := by decide +kernel
theorem dX7_init_194 : decode cX7_init 194 = .ok (.aload_n 0, 1) := by decide +kernel
theorem dX7_init_195 : decode cX7_init 195 = .ok (.sipush 500, 3) := by decide +kernel
theorem dX7_init_198 : decode cX7_init 198 = .ok (.newarray .int, 2) := by decide +kernel
theorem dX7_init_200 : decode cX7_init 200 = .ok (.putfield 92, 3) := by decide +kernel
theorem dX7_init_203 : decode cX7_init 203 = .ok (.aload_n 0, 1) := by decide +kernel
theorem dX7_init_204 : decode cX7_init 204 = .ok (.sipush 500, 3) := by decide +kernel
theorem dX7_init_207 : decode cX7_init 207 = .ok (.newarray .int, 2) := by decide +kernel
theorem dX7_init_209 : decode cX7_init 209 = .ok (.putfield 95, 3) := by decide +kernel
theorem dX7_init_212 : decode cX7_init 212 = .ok (.aload_n 0, 1) := by decide +kernel
theorem dX7_init_213 : decode cX7_init 213 = .ok (.sipush 500, 3) := by decide +kernel
theorem dX7_init_216 : decode cX7_init 216 = .ok (.newarray .int, 2) := by decide +kernel
theorem dX7_init_218 : decode cX7_init 218 = .ok (.putfield 98, 3) := by decide +kernel
theorem dX7_init_221 : decode cX7_init 221 = .ok (.aload_n 0, 1) := by decide +kernel
theorem dX7_init_222 : decode cX7_init 222 = .ok (.bipush 7, 2) := by decide +kernel
theorem dX7_init_224 : decode cX7_init 224 = .ok (.newarray .boolean, 2) := by decide +kernel
theorem dX7_init_226 : decode cX7_init 226 = .ok (.putfield 101, 3) := by decide +kernel
theorem dX7_init_229 : decode cX7_init 229 = .ok (.aload_n 0, 1) := by decide +kernel
theorem dX7_init_230 : decode cX7_init 230 = .ok (.sipush 168, 3) := by decide +kernel
theorem dX7_init_233 : decode cX7_init 233 = .ok (.newarray .int, 2) := by decide +kernel
theorem dX7_init_235 : decode cX7_init 235 = .ok (.putfield 104, 3) := by decide +kernel
theorem dX7_init_238 : decode cX7_init 238 = .ok (.aload_n 0, 1) := by decide +kernel
theorem dX7_init_239 : decode cX7_init 239 = .ok (.bipush 24, 2) := by decide +kernel
theorem dX7_init_241 : decode cX7_init 241 = .ok (.newarray .int, 2) := by decide +kernel
theorem dX7_init_243 : decode cX7_init 243 = .ok (.putfield 107, 3) := by decide +kernel
theorem dX7_init_246 : decode cX7_init 246 = .ok (.aload_n 0, 1) := by decide +kernel
theorem dX7_init_247 : decode cX7_init 247 = .ok (.bipush 24, 2) := by decide +kernel
theorem dX7_init_249 : decode cX7_init 249 = .ok (.newarray .int, 2) := by decide +kernel
theorem dX7_init_251 : decode cX7_init 251 = .ok (.putfield 110, 3) := by decide +kernel
theorem dX7_init_254 : decode cX7_init 254 = .ok (.aload_n 0, 1) := by decide +kernel
theorem dX7_init_255 : decode cX7_init 255 = .ok (.bipush 26, 2) := by decide +kernel
theorem dX7_init_257 : decode cX7_init 257 = .ok (.newarray .int, 2) := by decide +kernel
theorem dX7_init_259 : decode cX7_init 259 = .ok (.putfield 113, 3) := by decide +kernel
theorem dX7_init_262 : decode cX7_init 262 = .ok (.aload_n 0, 1) := by decide +kernel
theorem dX7_init_263 : decode cX7_init 263 = .ok (.bipush 26, 2) := by decide +kernel
theorem dX7_init_265 : decode cX7_init 265 = .ok (.newarray .int, 2) := by decide +kernel
theorem dX7_init_267 : decode cX7_init 267 = .ok (.putfield 116, 3) := by decide +kernel
theorem dX7_init_270 : decode cX7_init 270 = .ok (.iconst 0, 1) := by decide +kernel
theorem dX7_init_271 : decode cX7_init 271 = .ok (.istore_n 1, 1) := by decide +kernel
theorem dX7_init_272 : decode cX7_init 272 = .ok (.iload_n 1, 1) := by decide +kernel
theorem dX7_init_273 : decode cX7_init 273 = .ok (.bipush 16, 2) := by decide +kernel
theorem dX7_init_275 : decode cX7_init 275 = .ok (.if_icmp .ge 18, 3) := by decide +kernel
theorem dX7_init_278 : decode cX7_init 278 = .ok (.aload_n 0, 1) := by decide +kernel
theorem dX7_init_279 : decode cX7_init 279 = .ok (.getfield 30, 3) := by decide +kernel
theorem dX7_init_282 : decode cX7_init 282 = .ok (.iload_n 1, 1) := by decide +kernel
theorem dX7_init_283 : decode cX7_init 283 = .ok (.sipush 250, 3) := by decide +kernel
theorem dX7_init_286 : decode cX7_init 286 = .ok (.iastore, 1) := by decide +kernel
theorem dX7_init_287 : decode cX7_init 287 = .ok (.iinc 1 1, 3) := by decide +kernel
theorem dX7_init_290 : decode cX7_init 290 = .ok (.goto (-18), 3) := by decide +kernel
theorem dX7_init_293 : decode cX7_init 293 = .ok (.iconst 0, 1) := by decide +kernel
theorem dX7_init_294 : decode cX7_init 294 = .ok (.istore_n 1, 1) := by decide +kernel
theorem dX7_init_295 : decode cX7_init 295 = .ok (.iload_n 1, 1) := by decide +kernel
theorem dX7_init_296 : decode cX7_init 296 = .ok (.iconst 4, 1) := by decide +kernel
theorem dX7_init_297 : decode cX7_init 297 = .ok (.if_icmp .ge 18, 3) := by decide +kernel
theorem dX7_init_300 : decode cX7_init 300 = .ok (.aload_n 0, 1) := by decide +kernel
theorem dX7_init_301 : decode cX7_init 301 = .ok (.getfield 33, 3) := by decide +kernel
theorem dX7_init_304 : decode cX7_init 304 = .ok (.iload_n 1, 1) := by decide +kernel
theorem dX7_init_305 : decode cX7_init 305 = .ok (.sipush 250, 3) := by decide +kernel
theorem dX7_init_308 : decode cX7_init 308 = .ok (.iastore, 1) := by decide +kernel
theorem dX7_init_309 : decode cX7_init 309 = .ok (.iinc 1 1, 3) := by decide +kernel
theorem dX7_init_312 : decode cX7_init 312 = .ok (.goto (-17), 3) := by decide +kernel
theorem dX7_init_315 : decode cX7_init 315 = .ok (.return_, 1) := by decide +kernel
theorem dX7_in_0 : decode cX7_in 0 = .ok (.iload_n 0, 1) := by decide +kernel
theorem dX7_in_1 : decode cX7_in 1 = .ok (.iload_n 1, 1) := by decide +kernel
theorem dX7_in_2 : decode cX7_in 2 = .ok (.if_icmp .lt 12, 3) := by decide +kernel
theorem dX7_in_5 : decode cX7_in 5 = .ok (.iload_n 0, 1) := by decide +kernel
theorem dX7_in_6 : decode cX7_in 6 = .ok (.iload_n 2, 1) := by decide +kernel
theorem dX7_in_7 : decode cX7_in 7 = .ok (.if_icmp .gt 7, 3) := by decide +kernel
theorem dX7_in_10 : decode cX7_in 10 = .ok (.iconst 1, 1) := by decide +kernel
theorem dX7_in_11 : decode cX7_in 11 = .ok (.goto 4, 3) := by decide +kernel
theorem dX7_in_14 : decode cX7_in 14 = .ok (.iconst 0, 1) := by decide +kernel
theorem dX7_in_15 : decode cX7_in 15 = .ok (.ireturn, 1) := by decide +kernel
theorem dX7_meets_0 : decode cX7_meets 0 = .ok (.aload_n 0, 1) := by decide +kernel
theorem dX7_meets_1 : decode cX7_meets 1 = .ok (.iload_n 1, 1) := by decide +kernel
theorem dX7_meets_2 : decode cX7_meets 2 = .ok (.putfield 119, 3) := by decide +kernel
theorem dX7_meets_5 : decode cX7_meets 5 = .ok (.aload_n 0, 1) := by decide +kernel
theorem dX7_meets_6 : decode cX7_meets 6 = .ok (.getfield 7, 3) := by decide +kernel
theorem dX7_meets_9 : decode cX7_meets 9 = .ok (.iload_n 1, 1) := by decide +kernel
theorem dX7_meets_10 : decode cX7_meets 10 = .ok (.dup2, 1) := by decide +kernel
theorem dX7_meets_11 : decode cX7_meets 11 = .ok (.iaload, 1) := by decide +kernel
theorem dX7_meets_12 : decode cX7_meets 12 = .ok (.iconst 1, 1) := by decide +kernel
theorem dX7_meets_13 : decode cX7_meets 13 = .ok (.iadd, 1) := by decide +kernel
theorem dX7_meets_14 : decode cX7_meets 14 = .ok (.iastore, 1) := by decide +kernel
theorem dX7_meets_15 : decode cX7_meets 15 = .ok (.bipush (-3), 2) := by decide +kernel
theorem dX7_meets_17 : decode cX7_meets 17 = .ok (.ireturn, 1) := by decide +kernel
theorem dX7_tell_0 : decode cX7_tell 0 = .ok (.aload_n 0, 1) := by decide +kernel
theorem dX7_tell_1 : decode cX7_tell 1 = .ok (.lload_n 1, 1) := by decide +kernel
theorem dX7_tell_2 : decode cX7_tell 2 = .ok (.putfield 122, 3) := by decide +kernel
theorem dX7_tell_5 : decode cX7_tell 5 = .ok (.iload_n 3, 1) := by decide +kernel
theorem dX7_tell_6 : decode cX7_tell 6 = .ok (.ireturn, 1) := by decide +kernel
theorem dX7_stroke_0 : decode cX7_stroke 0 = .ok (.iload_n 1, 1) := by decide +kernel
theorem dX7_stroke_1 : decode cX7_stroke 1 = .ok (.iconst 1, 1) := by decide +kernel
theorem dX7_stroke_2 : decode cX7_stroke 2 = .ok (.sipush 1000, 3) := by decide +kernel
theorem dX7_stroke_5 : decode cX7_stroke 5 = .ok (.invokestatic 125, 3) := by decide +kernel
theorem dX7_stroke_8 : decode cX7_stroke 8 = .ok (.ifCond .ne 5, 3) := by decide +kernel
theorem dX7_stroke_11 : decode cX7_stroke 11 = .ok (.iconst (-1), 1) := by decide +kernel
theorem dX7_stroke_12 : decode cX7_stroke 12 = .ok (.ireturn, 1) := by decide +kernel
theorem dX7_stroke_13 : decode cX7_stroke 13 = .ok (.iconst 0, 1) := by decide +kernel
theorem dX7_stroke_14 : decode cX7_stroke 14 = .ok (.istore 4, 2) := by decide +kernel
theorem dX7_stroke_16 : decode cX7_stroke 16 = .ok (.iload 4, 2) := by decide +kernel
theorem dX7_stroke_18 : decode cX7_stroke 18 = .ok (.bipush 10, 2) := by decide +kernel
theorem dX7_stroke_20 : decode cX7_stroke 20 = .ok (.if_icmp .ge 37, 3) := by decide +kernel
theorem dX7_stroke_23 : decode cX7_stroke 23 = .ok (.iload_n 2, 1) := by decide +kernel
theorem dX7_stroke_24 : decode cX7_stroke 24 = .ok (.i2l, 1) := by decide +kernel
theorem dX7_stroke_25 : decode cX7_stroke 25 = .ok (.iload_n 3, 1) := by decide +kernel
theorem dX7_stroke_26 : decode cX7_stroke 26 = .ok (.i2l, 1) := by decide +kernel
theorem dX7_stroke_27 : decode cX7_stroke 27 = .ok (.iload 4, 2) := by decide +kernel
theorem dX7_stroke_29 : decode cX7_stroke 29 = .ok (.i2l, 1) := by decide +kernel
theorem dX7_stroke_30 : decode cX7_stroke 30 = .ok (.lmul, 1) := by decide +kernel
theorem dX7_stroke_31 : decode cX7_stroke 31 = .ok (.ladd, 1) := by decide +kernel
theorem dX7_stroke_32 : decode cX7_stroke 32 = .ok (.lstore 5, 2) := by decide +kernel
theorem dX7_stroke_34 : decode cX7_stroke 34 = .ok (.lload 5, 2) := by decide +kernel
theorem dX7_stroke_36 : decode cX7_stroke 36 = .ok (.lconst 0, 1) := by decide +kernel
theorem dX7_stroke_37 : decode cX7_stroke 37 = .ok (.lcmp, 1) := by decide +kernel
theorem dX7_stroke_38 : decode cX7_stroke 38 = .ok (.ifCond .lt 11, 3) := by decide +kernel
theorem dX7_stroke_41 : decode cX7_stroke 41 = .ok (.lload 5, 2) := by decide +kernel
theorem dX7_stroke_43 : decode cX7_stroke 43 = .ok (.iload_n 1, 1) := by decide +kernel
theorem dX7_stroke_44 : decode cX7_stroke 44 = .ok (.i2l, 1) := by decide +kernel
theorem dX7_stroke_45 : decode cX7_stroke 45 = .ok (.lcmp, 1) := by decide +kernel
theorem dX7_stroke_46 : decode cX7_stroke 46 = .ok (.ifCond .le 5, 3) := by decide +kernel
theorem dX7_stroke_49 : decode cX7_stroke 49 = .ok (.iconst (-1), 1) := by decide +kernel
theorem dX7_stroke_50 : decode cX7_stroke 50 = .ok (.ireturn, 1) := by decide +kernel
theorem dX7_stroke_51 : decode cX7_stroke 51 = .ok (.iinc 4 1, 3) := by decide +kernel
theorem dX7_stroke_54 : decode cX7_stroke 54 = .ok (.goto (-38), 3) := by decide +kernel
theorem dX7_stroke_57 : decode cX7_stroke 57 = .ok (.aload_n 0, 1) := by decide +kernel
theorem dX7_stroke_58 : decode cX7_stroke 58 = .ok (.getfield 129, 3) := by decide +kernel
theorem dX7_stroke_61 : decode cX7_stroke 61 = .ok (.bipush 30, 2) := by decide +kernel
theorem dX7_stroke_63 : decode cX7_stroke 63 = .ok (.if_icmp .ne 6, 3) := by decide +kernel
theorem dX7_stroke_66 : decode cX7_stroke 66 = .ok (.bipush (-2), 2) := by decide +kernel
theorem dX7_stroke_68 : decode cX7_stroke 68 = .ok (.ireturn, 1) := by decide +kernel
theorem dX7_stroke_69 : decode cX7_stroke 69 = .ok (.iconst 0, 1) := by decide +kernel
theorem dX7_stroke_70 : decode cX7_stroke 70 = .ok (.istore 4, 2) := by decide +kernel
theorem dX7_stroke_72 : decode cX7_stroke 72 = .ok (.iload 4, 2) := by decide +kernel
theorem dX7_stroke_74 : decode cX7_stroke 74 = .ok (.bipush 10, 2) := by decide +kernel
theorem dX7_stroke_76 : decode cX7_stroke 76 = .ok (.if_icmp .ge 63, 3) := by decide +kernel
theorem dX7_stroke_79 : decode cX7_stroke 79 = .ok (.aload_n 0, 1) := by decide +kernel
theorem dX7_stroke_80 : decode cX7_stroke 80 = .ok (.getfield 26, 3) := by decide +kernel
theorem dX7_stroke_83 : decode cX7_stroke 83 = .ok (.iload 4, 2) := by decide +kernel
theorem dX7_stroke_85 : decode cX7_stroke 85 = .ok (.baload, 1) := by decide +kernel
theorem dX7_stroke_86 : decode cX7_stroke 86 = .ok (.ifCond .ne 47, 3) := by decide +kernel
theorem dX7_stroke_89 : decode cX7_stroke 89 = .ok (.aload_n 0, 1) := by decide +kernel
theorem dX7_stroke_90 : decode cX7_stroke 90 = .ok (.getfield 20, 3) := by decide +kernel
theorem dX7_stroke_93 : decode cX7_stroke 93 = .ok (.iload 4, 2) := by decide +kernel
theorem dX7_stroke_95 : decode cX7_stroke 95 = .ok (.dup2, 1) := by decide +kernel
theorem dX7_stroke_96 : decode cX7_stroke 96 = .ok (.iaload, 1) := by decide +kernel
theorem dX7_stroke_97 : decode cX7_stroke 97 = .ok (.iload_n 1, 1) := by decide +kernel
theorem dX7_stroke_98 : decode cX7_stroke 98 = .ok (.iadd, 1) := by decide +kernel
theorem dX7_stroke_99 : decode cX7_stroke 99 = .ok (.iastore, 1) := by decide +kernel
theorem dX7_stroke_100 : decode cX7_stroke 100 = .ok (.aload_n 0, 1) := by decide +kernel
theorem dX7_stroke_101 : decode cX7_stroke 101 = .ok (.getfield 23, 3) := by decide +kernel
theorem dX7_stroke_104 : decode cX7_stroke 104 = .ok (.iload 4, 2) := by decide +kernel
theorem dX7_stroke_106 : decode cX7_stroke 106 = .ok (.dup2, 1) := by decide +kernel
theorem dX7_stroke_107 : decode cX7_stroke 107 = .ok (.iaload, 1) := by decide +kernel
theorem dX7_stroke_108 : decode cX7_stroke 108 = .ok (.iload_n 2, 1) := by decide +kernel
theorem dX7_stroke_109 : decode cX7_stroke 109 = .ok (.iload_n 3, 1) := by decide +kernel
theorem dX7_stroke_110 : decode cX7_stroke 110 = .ok (.aload_n 0, 1) := by decide +kernel
theorem dX7_stroke_111 : decode cX7_stroke 111 = .ok (.getfield 129, 3) := by decide +kernel
theorem dX7_stroke_114 : decode cX7_stroke 114 = .ok (.iconst 2, 1) := by decide +kernel
theorem dX7_stroke_115 : decode cX7_stroke 115 = .ok (.irem, 1) := by decide +kernel
theorem dX7_stroke_116 : decode cX7_stroke 116 = .ok (.ifCond .ne 8, 3) := by decide +kernel
theorem dX7_stroke_119 : decode cX7_stroke 119 = .ok (.iload 4, 2) := by decide +kernel
theorem dX7_stroke_121 : decode cX7_stroke 121 = .ok (.goto 8, 3) := by decide +kernel
theorem dX7_stroke_124 : decode cX7_stroke 124 = .ok (.bipush 9, 2) := by decide +kernel
theorem dX7_stroke_126 : decode cX7_stroke 126 = .ok (.iload 4, 2) := by decide +kernel
theorem dX7_stroke_128 : decode cX7_stroke 128 = .ok (.isub, 1) := by decide +kernel
theorem dX7_stroke_129 : decode cX7_stroke 129 = .ok (.imul, 1) := by decide +kernel
theorem dX7_stroke_130 : decode cX7_stroke 130 = .ok (.iadd, 1) := by decide +kernel
theorem dX7_stroke_131 : decode cX7_stroke 131 = .ok (.iadd, 1) := by decide +kernel
theorem dX7_stroke_132 : decode cX7_stroke 132 = .ok (.iastore, 1) := by decide +kernel
theorem dX7_stroke_133 : decode cX7_stroke 133 = .ok (.iinc 4 1, 3) := by decide +kernel
theorem dX7_stroke_136 : decode cX7_stroke 136 = .ok (.goto (-64), 3) := by decide +kernel
theorem dX7_stroke_139 : decode cX7_stroke 139 = .ok (.aload_n 0, 1) := by decide +kernel
theorem dX7_stroke_140 : decode cX7_stroke 140 = .ok (.getfield 17, 3) := by decide +kernel
theorem dX7_stroke_143 : decode cX7_stroke 143 = .ok (.aload_n 0, 1) := by decide +kernel
theorem dX7_stroke_144 : decode cX7_stroke 144 = .ok (.getfield 129, 3) := by decide +kernel
theorem dX7_stroke_147 : decode cX7_stroke 147 = .ok (.iload_n 3, 1) := by decide +kernel
theorem dX7_stroke_148 : decode cX7_stroke 148 = .ok (.iastore, 1) := by decide +kernel
theorem dX7_stroke_149 : decode cX7_stroke 149 = .ok (.aload_n 0, 1) := by decide +kernel
theorem dX7_stroke_150 : decode cX7_stroke 150 = .ok (.dup, 1) := by decide +kernel
theorem dX7_stroke_151 : decode cX7_stroke 151 = .ok (.getfield 129, 3) := by decide +kernel
theorem dX7_stroke_154 : decode cX7_stroke 154 = .ok (.iconst 1, 1) := by decide +kernel
theorem dX7_stroke_155 : decode cX7_stroke 155 = .ok (.iadd, 1) := by decide +kernel
theorem dX7_stroke_156 : decode cX7_stroke 156 = .ok (.putfield 129, 3) := by decide +kernel
theorem dX7_stroke_159 : decode cX7_stroke 159 = .ok (.aload_n 0, 1) := by decide +kernel
theorem dX7_stroke_160 : decode cX7_stroke 160 = .ok (.getfield 129, 3) := by decide +kernel
theorem dX7_stroke_163 : decode cX7_stroke 163 = .ok (.ireturn, 1) := by decide +kernel
theorem dX7_cut_0 : decode cX7_cut 0 = .ok (.iload_n 1, 1) := by decide +kernel
theorem dX7_cut_1 : decode cX7_cut 1 = .ok (.iconst 0, 1) := by decide +kernel
theorem dX7_cut_2 : decode cX7_cut 2 = .ok (.bipush 9, 2) := by decide +kernel
theorem dX7_cut_4 : decode cX7_cut 4 = .ok (.invokestatic 125, 3) := by decide +kernel
theorem dX7_cut_7 : decode cX7_cut 7 = .ok (.ifCond .ne 5, 3) := by decide +kernel
theorem dX7_cut_10 : decode cX7_cut 10 = .ok (.iconst (-1), 1) := by decide +kernel
theorem dX7_cut_11 : decode cX7_cut 11 = .ok (.ireturn, 1) := by decide +kernel
theorem dX7_cut_12 : decode cX7_cut 12 = .ok (.aload_n 0, 1) := by decide +kernel
theorem dX7_cut_13 : decode cX7_cut 13 = .ok (.getfield 26, 3) := by decide +kernel
theorem dX7_cut_16 : decode cX7_cut 16 = .ok (.iload_n 1, 1) := by decide +kernel
theorem dX7_cut_17 : decode cX7_cut 17 = .ok (.baload, 1) := by decide +kernel
theorem dX7_cut_18 : decode cX7_cut 18 = .ok (.ifCond .eq 6, 3) := by decide +kernel
theorem dX7_cut_21 : decode cX7_cut 21 = .ok (.bipush (-4), 2) := by decide +kernel
theorem dX7_cut_23 : decode cX7_cut 23 = .ok (.ireturn, 1) := by decide +kernel
theorem dX7_cut_24 : decode cX7_cut 24 = .ok (.aload_n 0, 1) := by decide +kernel
theorem dX7_cut_25 : decode cX7_cut 25 = .ok (.getfield 20, 3) := by decide +kernel
theorem dX7_cut_28 : decode cX7_cut 28 = .ok (.iload_n 1, 1) := by decide +kernel
theorem dX7_cut_29 : decode cX7_cut 29 = .ok (.iaload, 1) := by decide +kernel
theorem dX7_cut_30 : decode cX7_cut 30 = .ok (.istore_n 2, 1) := by decide +kernel
theorem dX7_cut_31 : decode cX7_cut 31 = .ok (.aload_n 0, 1) := by decide +kernel
theorem dX7_cut_32 : decode cX7_cut 32 = .ok (.aload_n 0, 1) := by decide +kernel
theorem dX7_cut_33 : decode cX7_cut 33 = .ok (.getfield 23, 3) := by decide +kernel
theorem dX7_cut_36 : decode cX7_cut 36 = .ok (.iload_n 1, 1) := by decide +kernel
theorem dX7_cut_37 : decode cX7_cut 37 = .ok (.iaload, 1) := by decide +kernel
theorem dX7_cut_38 : decode cX7_cut 38 = .ok (.i2l, 1) := by decide +kernel
theorem dX7_cut_39 : decode cX7_cut 39 = .ok (.putfield 122, 3) := by decide +kernel
theorem dX7_cut_42 : decode cX7_cut 42 = .ok (.aload_n 0, 1) := by decide +kernel
theorem dX7_cut_43 : decode cX7_cut 43 = .ok (.getfield 26, 3) := by decide +kernel
theorem dX7_cut_46 : decode cX7_cut 46 = .ok (.iload_n 1, 1) := by decide +kernel
theorem dX7_cut_47 : decode cX7_cut 47 = .ok (.iconst 1, 1) := by decide +kernel
theorem dX7_cut_48 : decode cX7_cut 48 = .ok (.bastore, 1) := by decide +kernel
theorem dX7_cut_49 : decode cX7_cut 49 = .ok (.aload_n 0, 1) := by decide +kernel
theorem dX7_cut_50 : decode cX7_cut 50 = .ok (.getfield 20, 3) := by decide +kernel
theorem dX7_cut_53 : decode cX7_cut 53 = .ok (.iload_n 1, 1) := by decide +kernel
theorem dX7_cut_54 : decode cX7_cut 54 = .ok (.iconst 0, 1) := by decide +kernel
theorem dX7_cut_55 : decode cX7_cut 55 = .ok (.iastore, 1) := by decide +kernel
theorem dX7_cut_56 : decode cX7_cut 56 = .ok (.aload_n 0, 1) := by decide +kernel
theorem dX7_cut_57 : decode cX7_cut 57 = .ok (.getfield 23, 3) := by decide +kernel
theorem dX7_cut_60 : decode cX7_cut 60 = .ok (.iload_n 1, 1) := by decide +kernel
theorem dX7_cut_61 : decode cX7_cut 61 = .ok (.iconst 0, 1) := by decide +kernel
theorem dX7_cut_62 : decode cX7_cut 62 = .ok (.iastore, 1) := by decide +kernel
theorem dX7_cut_63 : decode cX7_cut 63 = .ok (.iload_n 2, 1) := by decide +kernel
theorem dX7_cut_64 : decode cX7_cut 64 = .ok (.ireturn, 1) := by decide +kernel
theorem dX7_place_0 : decode cX7_place 0 = .ok (.iload_n 1, 1) := by decide +kernel
theorem dX7_place_1 : decode cX7_place 1 = .ok (.iconst 0, 1) := by decide +kernel
theorem dX7_place_2 : decode cX7_place 2 = .ok (.bipush 9, 2) := by decide +kernel
theorem dX7_place_4 : decode cX7_place 4 = .ok (.invokestatic 125, 3) := by decide +kernel
theorem dX7_place_7 : decode cX7_place 7 = .ok (.ifCond .eq 12, 3) := by decide +kernel
theorem dX7_place_10 : decode cX7_place 10 = .ok (.iload_n 2, 1) := by decide +kernel
theorem dX7_place_11 : decode cX7_place 11 = .ok (.iconst 0, 1) := by decide +kernel
theorem dX7_place_12 : decode cX7_place 12 = .ok (.iconst 1, 1) := by decide +kernel
theorem dX7_place_13 : decode cX7_place 13 = .ok (.invokestatic 125, 3) := by decide +kernel
theorem dX7_place_16 : decode cX7_place 16 = .ok (.ifCond .ne 7, 3) := by decide +kernel
theorem dX7_place_19 : decode cX7_place 19 = .ok (.iconst (-1), 1) := by decide +kernel
theorem dX7_place_20 : decode cX7_place 20 = .ok (.goto 22, 3) := by decide +kernel
theorem dX7_place_23 : decode cX7_place 23 = .ok (.iload_n 2, 1) := by decide +kernel
theorem dX7_place_24 : decode cX7_place 24 = .ok (.ifCond .ne 12, 3) := by decide +kernel
theorem dX7_place_27 : decode cX7_place 27 = .ok (.aload_n 0, 1) := by decide +kernel
theorem dX7_place_28 : decode cX7_place 28 = .ok (.getfield 20, 3) := by decide +kernel
theorem dX7_place_31 : decode cX7_place 31 = .ok (.iload_n 1, 1) := by decide +kernel
theorem dX7_place_32 : decode cX7_place 32 = .ok (.iaload, 1) := by decide +kernel
theorem dX7_place_33 : decode cX7_place 33 = .ok (.goto 9, 3) := by decide +kernel
theorem dX7_place_36 : decode cX7_place 36 = .ok (.aload_n 0, 1) := by decide +kernel
theorem dX7_place_37 : decode cX7_place 37 = .ok (.getfield 23, 3) := by decide +kernel
theorem dX7_place_40 : decode cX7_place 40 = .ok (.iload_n 1, 1) := by decide +kernel
theorem dX7_place_41 : decode cX7_place 41 = .ok (.iaload, 1) := by decide +kernel
theorem dX7_place_42 : decode cX7_place 42 = .ok (.ireturn, 1) := by decide +kernel
theorem dX7_spread_0 : decode cX7_spread 0 = .ok (.bipush (-9), 2) := by decide +kernel
theorem dX7_spread_2 : decode cX7_spread 2 = .ok (.istore_n 1, 1) := by decide +kernel
theorem dX7_spread_3 : decode cX7_spread 3 = .ok (.bipush (-9), 2) := by decide +kernel
theorem dX7_spread_5 : decode cX7_spread 5 = .ok (.istore_n 2, 1) := by decide +kernel
theorem dX7_spread_6 : decode cX7_spread 6 = .ok (.iconst 0, 1) := by decide +kernel
theorem dX7_spread_7 : decode cX7_spread 7 = .ok (.istore_n 3, 1) := by decide +kernel
theorem dX7_spread_8 : decode cX7_spread 8 = .ok (.iload_n 3, 1) := by decide +kernel
theorem dX7_spread_9 : decode cX7_spread 9 = .ok (.bipush 10, 2) := by decide +kernel
theorem dX7_spread_11 : decode cX7_spread 11 = .ok (.if_icmp .ge 64, 3) := by decide +kernel
theorem dX7_spread_14 : decode cX7_spread 14 = .ok (.aload_n 0, 1) := by decide +kernel
theorem dX7_spread_15 : decode cX7_spread 15 = .ok (.getfield 26, 3) := by decide +kernel
theorem dX7_spread_18 : decode cX7_spread 18 = .ok (.iload_n 3, 1) := by decide +kernel
theorem dX7_spread_19 : decode cX7_spread 19 = .ok (.baload, 1) := by decide +kernel
theorem dX7_spread_20 : decode cX7_spread 20 = .ok (.ifCond .ne 49, 3) := by decide +kernel
theorem dX7_spread_23 : decode cX7_spread 23 = .ok (.iload_n 1, 1) := by decide +kernel
theorem dX7_spread_24 : decode cX7_spread 24 = .ok (.ifCond .lt 13, 3) := by decide +kernel
theorem dX7_spread_27 : decode cX7_spread 27 = .ok (.aload_n 0, 1) := by decide +kernel
theorem dX7_spread_28 : decode cX7_spread 28 = .ok (.getfield 23, 3) := by decide +kernel
theorem dX7_spread_31 : decode cX7_spread 31 = .ok (.iload_n 3, 1) := by decide +kernel
theorem dX7_spread_32 : decode cX7_spread 32 = .ok (.iaload, 1) := by decide +kernel
theorem dX7_spread_33 : decode cX7_spread 33 = .ok (.iload_n 1, 1) := by decide +kernel
theorem dX7_spread_34 : decode cX7_spread 34 = .ok (.if_icmp .ge 12, 3) := by decide +kernel
theorem dX7_spread_37 : decode cX7_spread 37 = .ok (.aload_n 0, 1) := by decide +kernel
theorem dX7_spread_38 : decode cX7_spread 38 = .ok (.getfield 23, 3) := by decide +kernel
theorem dX7_spread_41 : decode cX7_spread 41 = .ok (.iload_n 3, 1) := by decide +kernel
theorem dX7_spread_42 : decode cX7_spread 42 = .ok (.iaload, 1) := by decide +kernel
theorem dX7_spread_43 : decode cX7_spread 43 = .ok (.goto 4, 3) := by decide +kernel
theorem dX7_spread_46 : decode cX7_spread 46 = .ok (.iload_n 1, 1) := by decide +kernel
theorem dX7_spread_47 : decode cX7_spread 47 = .ok (.istore_n 1, 1) := by decide +kernel
theorem dX7_spread_48 : decode cX7_spread 48 = .ok (.aload_n 0, 1) := by decide +kernel
theorem dX7_spread_49 : decode cX7_spread 49 = .ok (.getfield 23, 3) := by decide +kernel
theorem dX7_spread_52 : decode cX7_spread 52 = .ok (.iload_n 3, 1) := by decide +kernel
theorem dX7_spread_53 : decode cX7_spread 53 = .ok (.iaload, 1) := by decide +kernel
theorem dX7_spread_54 : decode cX7_spread 54 = .ok (.iload_n 2, 1) := by decide +kernel
theorem dX7_spread_55 : decode cX7_spread 55 = .ok (.if_icmp .le 12, 3) := by decide +kernel
theorem dX7_spread_58 : decode cX7_spread 58 = .ok (.aload_n 0, 1) := by decide +kernel
theorem dX7_spread_59 : decode cX7_spread 59 = .ok (.getfield 23, 3) := by decide +kernel
theorem dX7_spread_62 : decode cX7_spread 62 = .ok (.iload_n 3, 1) := by decide +kernel
theorem dX7_spread_63 : decode cX7_spread 63 = .ok (.iaload, 1) := by decide +kernel
theorem dX7_spread_64 : decode cX7_spread 64 = .ok (.goto 4, 3) := by decide +kernel
theorem dX7_spread_67 : decode cX7_spread 67 = .ok (.iload_n 2, 1) := by decide +kernel
theorem dX7_spread_68 : decode cX7_spread 68 = .ok (.istore_n 2, 1) := by decide +kernel
theorem dX7_spread_69 : decode cX7_spread 69 = .ok (.iinc 3 1, 3) := by decide +kernel
theorem dX7_spread_72 : decode cX7_spread 72 = .ok (.goto (-64), 3) := by decide +kernel
theorem dX7_spread_75 : decode cX7_spread 75 = .ok (.iload_n 1, 1) := by decide +kernel
theorem dX7_spread_76 : decode cX7_spread 76 = .ok (.ifCond .ge 8, 3) := by decide +kernel
theorem dX7_spread_79 : decode cX7_spread 79 = .ok (.bipush (-9), 2) := by decide +kernel
theorem dX7_spread_81 : decode cX7_spread 81 = .ok (.goto 6, 3) := by decide +kernel
theorem dX7_spread_84 : decode cX7_spread 84 = .ok (.iload_n 2, 1) := by decide +kernel
theorem dX7_spread_85 : decode cX7_spread 85 = .ok (.iload_n 1, 1) := by decide +kernel
theorem dX7_spread_86 : decode cX7_spread 86 = .ok (.isub, 1) := by decide +kernel
theorem dX7_spread_87 : decode cX7_spread 87 = .ok (.ireturn, 1) := by decide +kernel
theorem dX7_strokeSpread_0 : decode cX7_strokeSpread 0 = .ok (.iload_n 1, 1) := by decide +kernel
theorem dX7_strokeSpread_1 : decode cX7_strokeSpread 1 = .ok (.iconst 0, 1) := by decide +kernel
theorem dX7_strokeSpread_2 : decode cX7_strokeSpread 2 = .ok (.aload_n 0, 1) := by decide +kernel
theorem dX7_strokeSpread_3 : decode cX7_strokeSpread 3 = .ok (.getfield 129, 3) := by decide +kernel
theorem dX7_strokeSpread_6 : decode cX7_strokeSpread 6 = .ok (.iconst 1, 1) := by decide +kernel
theorem dX7_strokeSpread_7 : decode cX7_strokeSpread 7 = .ok (.isub, 1) := by decide +kernel
theorem dX7_strokeSpread_8 : decode cX7_strokeSpread 8 = .ok (.invokestatic 125, 3) := by decide +kernel
theorem dX7_strokeSpread_11 : decode cX7_strokeSpread 11 = .ok (.ifCond .ne 7, 3) := by decide +kernel
theorem dX7_strokeSpread_14 : decode cX7_strokeSpread 14 = .ok (.iconst (-1), 1) := by decide +kernel
theorem dX7_strokeSpread_15 : decode cX7_strokeSpread 15 = .ok (.goto 31, 3) := by decide +kernel
theorem dX7_strokeSpread_18 : decode cX7_strokeSpread 18 = .ok (.bipush 9, 2) := by decide +kernel
theorem dX7_strokeSpread_20 : decode cX7_strokeSpread 20 = .ok (.aload_n 0, 1) := by decide +kernel
theorem dX7_strokeSpread_21 : decode cX7_strokeSpread 21 = .ok (.getfield 17, 3) := by decide +kernel
theorem dX7_strokeSpread_24 : decode cX7_strokeSpread 24 = .ok (.iload_n 1, 1) := by decide +kernel
theorem dX7_strokeSpread_25 : decode cX7_strokeSpread 25 = .ok (.iaload, 1) := by decide +kernel
theorem dX7_strokeSpread_26 : decode cX7_strokeSpread 26 = .ok (.ifCond .ge 13, 3) := by decide +kernel
theorem dX7_strokeSpread_29 : decode cX7_strokeSpread 29 = .ok (.aload_n 0, 1) := by decide +kernel
theorem dX7_strokeSpread_30 : decode cX7_strokeSpread 30 = .ok (.getfield 17, 3) := by decide +kernel
theorem dX7_strokeSpread_33 : decode cX7_strokeSpread 33 = .ok (.iload_n 1, 1) := by decide +kernel
theorem dX7_strokeSpread_34 : decode cX7_strokeSpread 34 = .ok (.iaload, 1) := by decide +kernel
theorem dX7_strokeSpread_35 : decode cX7_strokeSpread 35 = .ok (.ineg, 1) := by decide +kernel
theorem dX7_strokeSpread_36 : decode cX7_strokeSpread 36 = .ok (.goto 9, 3) := by decide +kernel
theorem dX7_strokeSpread_39 : decode cX7_strokeSpread 39 = .ok (.aload_n 0, 1) := by decide +kernel
theorem dX7_strokeSpread_40 : decode cX7_strokeSpread 40 = .ok (.getfield 17, 3) := by decide +kernel
theorem dX7_strokeSpread_43 : decode cX7_strokeSpread 43 = .ok (.iload_n 1, 1) := by decide +kernel
theorem dX7_strokeSpread_44 : decode cX7_strokeSpread 44 = .ok (.iaload, 1) := by decide +kernel
theorem dX7_strokeSpread_45 : decode cX7_strokeSpread 45 = .ok (.imul, 1) := by decide +kernel
theorem dX7_strokeSpread_46 : decode cX7_strokeSpread 46 = .ok (.ireturn, 1) := by decide +kernel
theorem dX7_clear_0 : decode cX7_clear 0 = .ok (.aload_n 0, 1) := by decide +kernel
theorem dX7_clear_1 : decode cX7_clear 1 = .ok (.getfield 129, 3) := by decide +kernel
theorem dX7_clear_4 : decode cX7_clear 4 = .ok (.istore_n 1, 1) := by decide +kernel
theorem dX7_clear_5 : decode cX7_clear 5 = .ok (.aload_n 0, 1) := by decide +kernel
theorem dX7_clear_6 : decode cX7_clear 6 = .ok (.iconst 0, 1) := by decide +kernel
theorem dX7_clear_7 : decode cX7_clear 7 = .ok (.putfield 129, 3) := by decide +kernel
theorem dX7_clear_10 : decode cX7_clear 10 = .ok (.iconst 0, 1) := by decide +kernel
theorem dX7_clear_11 : decode cX7_clear 11 = .ok (.istore_n 2, 1) := by decide +kernel
theorem dX7_clear_12 : decode cX7_clear 12 = .ok (.iload_n 2, 1) := by decide +kernel
theorem dX7_clear_13 : decode cX7_clear 13 = .ok (.bipush 10, 2) := by decide +kernel
theorem dX7_clear_15 : decode cX7_clear 15 = .ok (.if_icmp .ge 30, 3) := by decide +kernel
theorem dX7_clear_18 : decode cX7_clear 18 = .ok (.aload_n 0, 1) := by decide +kernel
theorem dX7_clear_19 : decode cX7_clear 19 = .ok (.getfield 20, 3) := by decide +kernel
theorem dX7_clear_22 : decode cX7_clear 22 = .ok (.iload_n 2, 1) := by decide +kernel
theorem dX7_clear_23 : decode cX7_clear 23 = .ok (.iconst 0, 1) := by decide +kernel
theorem dX7_clear_24 : decode cX7_clear 24 = .ok (.iastore, 1) := by decide +kernel
theorem dX7_clear_25 : decode cX7_clear 25 = .ok (.aload_n 0, 1) := by decide +kernel
theorem dX7_clear_26 : decode cX7_clear 26 = .ok (.getfield 23, 3) := by decide +kernel
theorem dX7_clear_29 : decode cX7_clear 29 = .ok (.iload_n 2, 1) := by decide +kernel
theorem dX7_clear_30 : decode cX7_clear 30 = .ok (.iconst 0, 1) := by decide +kernel
theorem dX7_clear_31 : decode cX7_clear 31 = .ok (.iastore, 1) := by decide +kernel
theorem dX7_clear_32 : decode cX7_clear 32 = .ok (.aload_n 0, 1) := by decide +kernel
theorem dX7_clear_33 : decode cX7_clear 33 = .ok (.getfield 26, 3) := by decide +kernel
theorem dX7_clear_36 : decode cX7_clear 36 = .ok (.iload_n 2, 1) := by decide +kernel
theorem dX7_clear_37 : decode cX7_clear 37 = .ok (.iconst 0, 1) := by decide +kernel
theorem dX7_clear_38 : decode cX7_clear 38 = .ok (.bastore, 1) := by decide +kernel
theorem dX7_clear_39 : decode cX7_clear 39 = .ok (.iinc 2 1, 3) := by decide +kernel
theorem dX7_clear_42 : decode cX7_clear 42 = .ok (.goto (-30), 3) := by decide +kernel
theorem dX7_clear_45 : decode cX7_clear 45 = .ok (.iload_n 1, 1) := by decide +kernel
theorem dX7_clear_46 : decode cX7_clear 46 = .ok (.ireturn, 1) := by decide +kernel
theorem dX7_areParts_0 : decode cX7_areParts 0 = .ok (.iload_n 0, 1) := by decide +kernel
theorem dX7_areParts_1 : decode cX7_areParts 1 = .ok (.iconst 0, 1) := by decide +kernel
theorem dX7_areParts_2 : decode cX7_areParts 2 = .ok (.sipush 1000, 3) := by decide +kernel
theorem dX7_areParts_5 : decode cX7_areParts 5 = .ok (.invokestatic 125, 3) := by decide +kernel
theorem dX7_areParts_8 : decode cX7_areParts 8 = .ok (.ifCond .eq 40, 3) := by decide +kernel
theorem dX7_areParts_11 : decode cX7_areParts 11 = .ok (.iload_n 1, 1) := by decide +kernel
theorem dX7_areParts_12 : decode cX7_areParts 12 = .ok (.iconst 0, 1) := by decide +kernel
theorem dX7_areParts_13 : decode cX7_areParts 13 = .ok (.sipush 1000, 3) := by decide +kernel
theorem dX7_areParts_16 : decode cX7_areParts 16 = .ok (.invokestatic 125, 3) := by decide +kernel
theorem dX7_areParts_19 : decode cX7_areParts 19 = .ok (.ifCond .eq 29, 3) := by decide +kernel
theorem dX7_areParts_22 : decode cX7_areParts 22 = .ok (.iload_n 2, 1) := by decide +kernel
theorem dX7_areParts_23 : decode cX7_areParts 23 = .ok (.iconst 0, 1) := by decide +kernel
theorem dX7_areParts_24 : decode cX7_areParts 24 = .ok (.sipush 1000, 3) := by decide +kernel
theorem dX7_areParts_27 : decode cX7_areParts 27 = .ok (.invokestatic 125, 3) := by decide +kernel
theorem dX7_areParts_30 : decode cX7_areParts 30 = .ok (.ifCond .eq 18, 3) := by decide +kernel
theorem dX7_areParts_33 : decode cX7_areParts 33 = .ok (.iload_n 0, 1) := by decide +kernel
theorem dX7_areParts_34 : decode cX7_areParts 34 = .ok (.iload_n 1, 1) := by decide +kernel
theorem dX7_areParts_35 : decode cX7_areParts 35 = .ok (.iadd, 1) := by decide +kernel
theorem dX7_areParts_36 : decode cX7_areParts 36 = .ok (.iload_n 2, 1) := by decide +kernel
theorem dX7_areParts_37 : decode cX7_areParts 37 = .ok (.iadd, 1) := by decide +kernel
theorem dX7_areParts_38 : decode cX7_areParts 38 = .ok (.sipush 1000, 3) := by decide +kernel
theorem dX7_areParts_41 : decode cX7_areParts 41 = .ok (.if_icmp .gt 7, 3) := by decide +kernel
theorem dX7_areParts_44 : decode cX7_areParts 44 = .ok (.iconst 1, 1) := by decide +kernel
theorem dX7_areParts_45 : decode cX7_areParts 45 = .ok (.goto 4, 3) := by decide +kernel
theorem dX7_areParts_48 : decode cX7_areParts 48 = .ok (.iconst 0, 1) := by decide +kernel
theorem dX7_areParts_49 : decode cX7_areParts 49 = .ok (.ireturn, 1) := by decide +kernel
theorem dX7_stock_0 : decode cX7_stock 0 = .ok (.iload_n 1, 1) := by decide +kernel
theorem dX7_stock_1 : decode cX7_stock 1 = .ok (.iconst 0, 1) := by decide +kernel
theorem dX7_stock_2 : decode cX7_stock 2 = .ok (.iconst 3, 1) := by decide +kernel
theorem dX7_stock_3 : decode cX7_stock 3 = .ok (.invokestatic 125, 3) := by decide +kernel
theorem dX7_stock_6 : decode cX7_stock 6 = .ok (.ifCond .eq 13, 3) := by decide +kernel
theorem dX7_stock_9 : decode cX7_stock 9 = .ok (.iload_n 2, 1) := by decide +kernel
theorem dX7_stock_10 : decode cX7_stock 10 = .ok (.iload_n 3, 1) := by decide +kernel
theorem dX7_stock_11 : decode cX7_stock 11 = .ok (.iload 4, 2) := by decide +kernel
theorem dX7_stock_13 : decode cX7_stock 13 = .ok (.invokestatic 132, 3) := by decide +kernel
theorem dX7_stock_16 : decode cX7_stock 16 = .ok (.ifCond .ne 5, 3) := by decide +kernel
theorem dX7_stock_19 : decode cX7_stock 19 = .ok (.iconst (-1), 1) := by decide +kernel
theorem dX7_stock_20 : decode cX7_stock 20 = .ok (.ireturn, 1) := by decide +kernel
theorem dX7_stock_21 : decode cX7_stock 21 = .ok (.aload_n 0, 1) := by decide +kernel
theorem dX7_stock_22 : decode cX7_stock 22 = .ok (.getfield 30, 3) := by decide +kernel
theorem dX7_stock_25 : decode cX7_stock 25 = .ok (.iconst 4, 1) := by decide +kernel
theorem dX7_stock_26 : decode cX7_stock 26 = .ok (.iload_n 1, 1) := by decide +kernel
theorem dX7_stock_27 : decode cX7_stock 27 = .ok (.imul, 1) := by decide +kernel
theorem dX7_stock_28 : decode cX7_stock 28 = .ok (.iload_n 2, 1) := by decide +kernel
theorem dX7_stock_29 : decode cX7_stock 29 = .ok (.iastore, 1) := by decide +kernel
theorem dX7_stock_30 : decode cX7_stock 30 = .ok (.aload_n 0, 1) := by decide +kernel
theorem dX7_stock_31 : decode cX7_stock 31 = .ok (.getfield 30, 3) := by decide +kernel
theorem dX7_stock_34 : decode cX7_stock 34 = .ok (.iconst 4, 1) := by decide +kernel
theorem dX7_stock_35 : decode cX7_stock 35 = .ok (.iload_n 1, 1) := by decide +kernel
theorem dX7_stock_36 : decode cX7_stock 36 = .ok (.imul, 1) := by decide +kernel
theorem dX7_stock_37 : decode cX7_stock 37 = .ok (.iconst 1, 1) := by decide +kernel
theorem dX7_stock_38 : decode cX7_stock 38 = .ok (.iadd, 1) := by decide +kernel
theorem dX7_stock_39 : decode cX7_stock 39 = .ok (.iload_n 3, 1) := by decide +kernel
theorem dX7_stock_40 : decode cX7_stock 40 = .ok (.iastore, 1) := by decide +kernel
theorem dX7_stock_41 : decode cX7_stock 41 = .ok (.aload_n 0, 1) := by decide +kernel
theorem dX7_stock_42 : decode cX7_stock 42 = .ok (.getfield 30, 3) := by decide +kernel
theorem dX7_stock_45 : decode cX7_stock 45 = .ok (.iconst 4, 1) := by decide +kernel
theorem dX7_stock_46 : decode cX7_stock 46 = .ok (.iload_n 1, 1) := by decide +kernel
theorem dX7_stock_47 : decode cX7_stock 47 = .ok (.imul, 1) := by decide +kernel
theorem dX7_stock_48 : decode cX7_stock 48 = .ok (.iconst 2, 1) := by decide +kernel
theorem dX7_stock_49 : decode cX7_stock 49 = .ok (.iadd, 1) := by decide +kernel
theorem dX7_stock_50 : decode cX7_stock 50 = .ok (.iload 4, 2) := by decide +kernel
theorem dX7_stock_52 : decode cX7_stock 52 = .ok (.iastore, 1) := by decide +kernel
theorem dX7_stock_53 : decode cX7_stock 53 = .ok (.aload_n 0, 1) := by decide +kernel
theorem dX7_stock_54 : decode cX7_stock 54 = .ok (.getfield 30, 3) := by decide +kernel
theorem dX7_stock_57 : decode cX7_stock 57 = .ok (.iconst 4, 1) := by decide +kernel
theorem dX7_stock_58 : decode cX7_stock 58 = .ok (.iload_n 1, 1) := by decide +kernel
theorem dX7_stock_59 : decode cX7_stock 59 = .ok (.imul, 1) := by decide +kernel
theorem dX7_stock_60 : decode cX7_stock 60 = .ok (.iconst 3, 1) := by decide +kernel
theorem dX7_stock_61 : decode cX7_stock 61 = .ok (.iadd, 1) := by decide +kernel
theorem dX7_stock_62 : decode cX7_stock 62 = .ok (.sipush 1000, 3) := by decide +kernel
theorem dX7_stock_65 : decode cX7_stock 65 = .ok (.iload_n 2, 1) := by decide +kernel
theorem dX7_stock_66 : decode cX7_stock 66 = .ok (.isub, 1) := by decide +kernel
theorem dX7_stock_67 : decode cX7_stock 67 = .ok (.iload_n 3, 1) := by decide +kernel
theorem dX7_stock_68 : decode cX7_stock 68 = .ok (.isub, 1) := by decide +kernel
theorem dX7_stock_69 : decode cX7_stock 69 = .ok (.iload 4, 2) := by decide +kernel
theorem dX7_stock_71 : decode cX7_stock 71 = .ok (.isub, 1) := by decide +kernel
theorem dX7_stock_72 : decode cX7_stock 72 = .ok (.iastore, 1) := by decide +kernel
theorem dX7_stock_73 : decode cX7_stock 73 = .ok (.iconst 1, 1) := by decide +kernel
theorem dX7_stock_74 : decode cX7_stock 74 = .ok (.ireturn, 1) := by decide +kernel
theorem dX7_share_0 : decode cX7_share 0 = .ok (.iload_n 1, 1) := by decide +kernel
theorem dX7_share_1 : decode cX7_share 1 = .ok (.iload_n 2, 1) := by decide +kernel
theorem dX7_share_2 : decode cX7_share 2 = .ok (.iload_n 3, 1) := by decide +kernel
theorem dX7_share_3 : decode cX7_share 3 = .ok (.invokestatic 132, 3) := by decide +kernel
theorem dX7_share_6 : decode cX7_share 6 = .ok (.ifCond .ne 5, 3) := by decide +kernel
theorem dX7_share_9 : decode cX7_share 9 = .ok (.iconst (-1), 1) := by decide +kernel
theorem dX7_share_10 : decode cX7_share 10 = .ok (.ireturn, 1) := by decide +kernel
theorem dX7_share_11 : decode cX7_share 11 = .ok (.aload_n 0, 1) := by decide +kernel
theorem dX7_share_12 : decode cX7_share 12 = .ok (.getfield 33, 3) := by decide +kernel
theorem dX7_share_15 : decode cX7_share 15 = .ok (.iconst 0, 1) := by decide +kernel
theorem dX7_share_16 : decode cX7_share 16 = .ok (.iload_n 1, 1) := by decide +kernel
theorem dX7_share_17 : decode cX7_share 17 = .ok (.iastore, 1) := by decide +kernel
theorem dX7_share_18 : decode cX7_share 18 = .ok (.aload_n 0, 1) := by decide +kernel
theorem dX7_share_19 : decode cX7_share 19 = .ok (.getfield 33, 3) := by decide +kernel
theorem dX7_share_22 : decode cX7_share 22 = .ok (.iconst 1, 1) := by decide +kernel
theorem dX7_share_23 : decode cX7_share 23 = .ok (.iload_n 2, 1) := by decide +kernel
theorem dX7_share_24 : decode cX7_share 24 = .ok (.iastore, 1) := by decide +kernel
theorem dX7_share_25 : decode cX7_share 25 = .ok (.aload_n 0, 1) := by decide +kernel
theorem dX7_share_26 : decode cX7_share 26 = .ok (.getfield 33, 3) := by decide +kernel
theorem dX7_share_29 : decode cX7_share 29 = .ok (.iconst 2, 1) := by decide +kernel
theorem dX7_share_30 : decode cX7_share 30 = .ok (.iload_n 3, 1) := by decide +kernel
theorem dX7_share_31 : decode cX7_share 31 = .ok (.iastore, 1) := by decide +kernel
theorem dX7_share_32 : decode cX7_share 32 = .ok (.aload_n 0, 1) := by decide +kernel
theorem dX7_share_33 : decode cX7_share 33 = .ok (.getfield 33, 3) := by decide +kernel
theorem dX7_share_36 : decode cX7_share 36 = .ok (.iconst 3, 1) := by decide +kernel
theorem dX7_share_37 : decode cX7_share 37 = .ok (.sipush 1000, 3) := by decide +kernel
theorem dX7_share_40 : decode cX7_share 40 = .ok (.iload_n 1, 1) := by decide +kernel
theorem dX7_share_41 : decode cX7_share 41 = .ok (.isub, 1) := by decide +kernel
theorem dX7_share_42 : decode cX7_share 42 = .ok (.iload_n 2, 1) := by decide +kernel
theorem dX7_share_43 : decode cX7_share 43 = .ok (.isub, 1) := by decide +kernel
theorem dX7_share_44 : decode cX7_share 44 = .ok (.iload_n 3, 1) := by decide +kernel
theorem dX7_share_45 : decode cX7_share 45 = .ok (.isub, 1) := by decide +kernel
theorem dX7_share_46 : decode cX7_share 46 = .ok (.iastore, 1) := by decide +kernel
theorem dX7_share_47 : decode cX7_share 47 = .ok (.iconst 1, 1) := by decide +kernel
theorem dX7_share_48 : decode cX7_share 48 = .ok (.ireturn, 1) := by decide +kernel
theorem dX7_shareOf_0 : decode cX7_shareOf 0 = .ok (.iload_n 1, 1) := by decide +kernel
theorem dX7_shareOf_1 : decode cX7_shareOf 1 = .ok (.iconst 0, 1) := by decide +kernel
theorem dX7_shareOf_2 : decode cX7_shareOf 2 = .ok (.iconst 3, 1) := by decide +kernel
theorem dX7_shareOf_3 : decode cX7_shareOf 3 = .ok (.invokestatic 125, 3) := by decide +kernel
theorem dX7_shareOf_6 : decode cX7_shareOf 6 = .ok (.ifCond .eq 12, 3) := by decide +kernel
theorem dX7_shareOf_9 : decode cX7_shareOf 9 = .ok (.aload_n 0, 1) := by decide +kernel
theorem dX7_shareOf_10 : decode cX7_shareOf 10 = .ok (.getfield 33, 3) := by decide +kernel
theorem dX7_shareOf_13 : decode cX7_shareOf 13 = .ok (.iload_n 1, 1) := by decide +kernel
theorem dX7_shareOf_14 : decode cX7_shareOf 14 = .ok (.iaload, 1) := by decide +kernel
theorem dX7_shareOf_15 : decode cX7_shareOf 15 = .ok (.goto 4, 3) := by decide +kernel
theorem dX7_shareOf_18 : decode cX7_shareOf 18 = .ok (.iconst (-1), 1) := by decide +kernel
theorem dX7_shareOf_19 : decode cX7_shareOf 19 = .ok (.ireturn, 1) := by decide +kernel
theorem dX7_mixed_0 : decode cX7_mixed 0 = .ok (.iconst 0, 1) := by decide +kernel
theorem dX7_mixed_1 : decode cX7_mixed 1 = .ok (.istore_n 2, 1) := by decide +kernel
theorem dX7_mixed_2 : decode cX7_mixed 2 = .ok (.iconst 0, 1) := by decide +kernel
theorem dX7_mixed_3 : decode cX7_mixed 3 = .ok (.istore_n 3, 1) := by decide +kernel
theorem dX7_mixed_4 : decode cX7_mixed 4 = .ok (.iload_n 3, 1) := by decide +kernel
theorem dX7_mixed_5 : decode cX7_mixed 5 = .ok (.iconst 4, 1) := by decide +kernel
theorem dX7_mixed_6 : decode cX7_mixed 6 = .ok (.if_icmp .ge 29, 3) := by decide +kernel
theorem dX7_mixed_9 : decode cX7_mixed 9 = .ok (.iload_n 2, 1) := by decide +kernel
theorem dX7_mixed_10 : decode cX7_mixed 10 = .ok (.aload_n 0, 1) := by decide +kernel
theorem dX7_mixed_11 : decode cX7_mixed 11 = .ok (.getfield 33, 3) := by decide +kernel
theorem dX7_mixed_14 : decode cX7_mixed 14 = .ok (.iload_n 3, 1) := by decide +kernel
theorem dX7_mixed_15 : decode cX7_mixed 15 = .ok (.iaload, 1) := by decide +kernel
theorem dX7_mixed_16 : decode cX7_mixed 16 = .ok (.aload_n 0, 1) := by decide +kernel
theorem dX7_mixed_17 : decode cX7_mixed 17 = .ok (.getfield 30, 3) := by decide +kernel
theorem dX7_mixed_20 : decode cX7_mixed 20 = .ok (.iconst 4, 1) := by decide +kernel
theorem dX7_mixed_21 : decode cX7_mixed 21 = .ok (.iload_n 3, 1) := by decide +kernel
theorem dX7_mixed_22 : decode cX7_mixed 22 = .ok (.imul, 1) := by decide +kernel
theorem dX7_mixed_23 : decode cX7_mixed 23 = .ok (.iload_n 1, 1) := by decide +kernel
theorem dX7_mixed_24 : decode cX7_mixed 24 = .ok (.iadd, 1) := by decide +kernel
theorem dX7_mixed_25 : decode cX7_mixed 25 = .ok (.iaload, 1) := by decide +kernel
theorem dX7_mixed_26 : decode cX7_mixed 26 = .ok (.imul, 1) := by decide +kernel
theorem dX7_mixed_27 : decode cX7_mixed 27 = .ok (.iadd, 1) := by decide +kernel
theorem dX7_mixed_28 : decode cX7_mixed 28 = .ok (.istore_n 2, 1) := by decide +kernel
theorem dX7_mixed_29 : decode cX7_mixed 29 = .ok (.iinc 3 1, 3) := by decide +kernel
theorem dX7_mixed_32 : decode cX7_mixed 32 = .ok (.goto (-28), 3) := by decide +kernel
theorem dX7_mixed_35 : decode cX7_mixed 35 = .ok (.iload_n 2, 1) := by decide +kernel
theorem dX7_mixed_36 : decode cX7_mixed 36 = .ok (.ireturn, 1) := by decide +kernel
theorem dX7_mix_0 : decode cX7_mix 0 = .ok (.iload_n 1, 1) := by decide +kernel
theorem dX7_mix_1 : decode cX7_mix 1 = .ok (.iconst 0, 1) := by decide +kernel
theorem dX7_mix_2 : decode cX7_mix 2 = .ok (.iconst 3, 1) := by decide +kernel
theorem dX7_mix_3 : decode cX7_mix 3 = .ok (.invokestatic 125, 3) := by decide +kernel
theorem dX7_mix_6 : decode cX7_mix 6 = .ok (.ifCond .eq 11, 3) := by decide +kernel
theorem dX7_mix_9 : decode cX7_mix 9 = .ok (.aload_n 0, 1) := by decide +kernel
theorem dX7_mix_10 : decode cX7_mix 10 = .ok (.iload_n 1, 1) := by decide +kernel
theorem dX7_mix_11 : decode cX7_mix 11 = .ok (.invokevirtual 135, 3) := by decide +kernel
theorem dX7_mix_14 : decode cX7_mix 14 = .ok (.goto 4, 3) := by decide +kernel
theorem dX7_mix_17 : decode cX7_mix 17 = .ok (.iconst (-1), 1) := by decide +kernel
theorem dX7_mix_18 : decode cX7_mix 18 = .ok (.ireturn, 1) := by decide +kernel
theorem dX7_numberUpper_0 : decode cX7_numberUpper 0 = .ok (.ldc2_w 139, 3) := by decide +kernel
theorem dX7_numberUpper_3 : decode cX7_numberUpper 3 = .ok (.aload_n 0, 1) := by decide +kernel
theorem dX7_numberUpper_4 : decode cX7_numberUpper 4 = .ok (.iconst 0, 1) := by decide +kernel
theorem dX7_numberUpper_5 : decode cX7_numberUpper 5 = .ok (.invokevirtual 135, 3) := by decide +kernel
theorem dX7_numberUpper_8 : decode cX7_numberUpper 8 = .ok (.i2l, 1) := by decide +kernel
theorem dX7_numberUpper_9 : decode cX7_numberUpper 9 = .ok (.lmul, 1) := by decide +kernel
theorem dX7_numberUpper_10 : decode cX7_numberUpper 10 = .ok (.lreturn, 1) := by decide +kernel
theorem dX7_numberLower_0 : decode cX7_numberLower 0 = .ok (.ldc2_w 141, 3) := by decide +kernel
theorem dX7_numberLower_3 : decode cX7_numberLower 3 = .ok (.aload_n 0, 1) := by decide +kernel
theorem dX7_numberLower_4 : decode cX7_numberLower 4 = .ok (.iconst 1, 1) := by decide +kernel
theorem dX7_numberLower_5 : decode cX7_numberLower 5 = .ok (.invokevirtual 135, 3) := by decide +kernel
theorem dX7_numberLower_8 : decode cX7_numberLower 8 = .ok (.i2l, 1) := by decide +kernel
theorem dX7_numberLower_9 : decode cX7_numberLower 9 = .ok (.lmul, 1) := by decide +kernel
theorem dX7_numberLower_10 : decode cX7_numberLower 10 = .ok (.ldc2_w 143, 3) := by decide +kernel
theorem dX7_numberLower_13 : decode cX7_numberLower 13 = .ok (.aload_n 0, 1) := by decide +kernel
theorem dX7_numberLower_14 : decode cX7_numberLower 14 = .ok (.iconst 2, 1) := by decide +kernel
theorem dX7_numberLower_15 : decode cX7_numberLower 15 = .ok (.invokevirtual 135, 3) := by decide +kernel
theorem dX7_numberLower_18 : decode cX7_numberLower 18 = .ok (.i2l, 1) := by decide +kernel
theorem dX7_numberLower_19 : decode cX7_numberLower 19 = .ok (.lmul, 1) := by decide +kernel
theorem dX7_numberLower_20 : decode cX7_numberLower 20 = .ok (.ladd, 1) := by decide +kernel
theorem dX7_numberLower_21 : decode cX7_numberLower 21 = .ok (.ldc2_w 145, 3) := by decide +kernel
theorem dX7_numberLower_24 : decode cX7_numberLower 24 = .ok (.aload_n 0, 1) := by decide +kernel
theorem dX7_numberLower_25 : decode cX7_numberLower 25 = .ok (.iconst 3, 1) := by decide +kernel
theorem dX7_numberLower_26 : decode cX7_numberLower 26 = .ok (.invokevirtual 135, 3) := by decide +kernel
theorem dX7_numberLower_29 : decode cX7_numberLower 29 = .ok (.i2l, 1) := by decide +kernel
theorem dX7_numberLower_30 : decode cX7_numberLower 30 = .ok (.lmul, 1) := by decide +kernel
theorem dX7_numberLower_31 : decode cX7_numberLower 31 = .ok (.ladd, 1) := by decide +kernel
theorem dX7_numberLower_32 : decode cX7_numberLower 32 = .ok (.lreturn, 1) := by decide +kernel
theorem dX7_divisor_0 : decode cX7_divisor 0 = .ok (.lload_n 0, 1) := by decide +kernel
theorem dX7_divisor_1 : decode cX7_divisor 1 = .ok (.lstore 4, 2) := by decide +kernel
theorem dX7_divisor_3 : decode cX7_divisor 3 = .ok (.lload_n 2, 1) := by decide +kernel
theorem dX7_divisor_4 : decode cX7_divisor 4 = .ok (.lstore 6, 2) := by decide +kernel
theorem dX7_divisor_6 : decode cX7_divisor 6 = .ok (.lload 6, 2) := by decide +kernel
theorem dX7_divisor_8 : decode cX7_divisor 8 = .ok (.lconst 0, 1) := by decide +kernel
theorem dX7_divisor_9 : decode cX7_divisor 9 = .ok (.lcmp, 1) := by decide +kernel
theorem dX7_divisor_10 : decode cX7_divisor 10 = .ok (.ifCond .eq 21, 3) := by decide +kernel
theorem dX7_divisor_13 : decode cX7_divisor 13 = .ok (.lload 4, 2) := by decide +kernel
theorem dX7_divisor_15 : decode cX7_divisor 15 = .ok (.lload 6, 2) := by decide +kernel
theorem dX7_divisor_17 : decode cX7_divisor 17 = .ok (.lrem, 1) := by decide +kernel
theorem dX7_divisor_18 : decode cX7_divisor 18 = .ok (.lstore 8, 2) := by decide +kernel
theorem dX7_divisor_20 : decode cX7_divisor 20 = .ok (.lload 6, 2) := by decide +kernel
theorem dX7_divisor_22 : decode cX7_divisor 22 = .ok (.lstore 4, 2) := by decide +kernel
theorem dX7_divisor_24 : decode cX7_divisor 24 = .ok (.lload 8, 2) := by decide +kernel
theorem dX7_divisor_26 : decode cX7_divisor 26 = .ok (.lstore 6, 2) := by decide +kernel
theorem dX7_divisor_28 : decode cX7_divisor 28 = .ok (.goto (-22), 3) := by decide +kernel
theorem dX7_divisor_31 : decode cX7_divisor 31 = .ok (.lload 4, 2) := by decide +kernel
theorem dX7_divisor_33 : decode cX7_divisor 33 = .ok (.lreturn, 1) := by decide +kernel
theorem dX7_number_0 : decode cX7_number 0 = .ok (.aload_n 0, 1) := by decide +kernel
theorem dX7_number_1 : decode cX7_number 1 = .ok (.invokevirtual 147, 3) := by decide +kernel
theorem dX7_number_4 : decode cX7_number 4 = .ok (.lstore_n 1, 1) := by decide +kernel
theorem dX7_number_5 : decode cX7_number 5 = .ok (.lload_n 1, 1) := by decide +kernel
theorem dX7_number_6 : decode cX7_number 6 = .ok (.lconst 0, 1) := by decide +kernel
theorem dX7_number_7 : decode cX7_number 7 = .ok (.lcmp, 1) := by decide +kernel
theorem dX7_number_8 : decode cX7_number 8 = .ok (.ifCond .ne 9, 3) := by decide +kernel
theorem dX7_number_11 : decode cX7_number 11 = .ok (.aload_n 0, 1) := by decide +kernel
theorem dX7_number_12 : decode cX7_number 12 = .ok (.iconst 4, 1) := by decide +kernel
theorem dX7_number_13 : decode cX7_number 13 = .ok (.invokevirtual 151, 3) := by decide +kernel
theorem dX7_number_16 : decode cX7_number 16 = .ok (.ireturn, 1) := by decide +kernel
theorem dX7_number_17 : decode cX7_number 17 = .ok (.aload_n 0, 1) := by decide +kernel
theorem dX7_number_18 : decode cX7_number 18 = .ok (.invokevirtual 154, 3) := by decide +kernel
theorem dX7_number_21 : decode cX7_number 21 = .ok (.lload_n 1, 1) := by decide +kernel
theorem dX7_number_22 : decode cX7_number 22 = .ok (.invokestatic 157, 3) := by decide +kernel
theorem dX7_number_25 : decode cX7_number 25 = .ok (.lstore_n 3, 1) := by decide +kernel
theorem dX7_number_26 : decode cX7_number 26 = .ok (.aload_n 0, 1) := by decide +kernel
theorem dX7_number_27 : decode cX7_number 27 = .ok (.aload_n 0, 1) := by decide +kernel
theorem dX7_number_28 : decode cX7_number 28 = .ok (.invokevirtual 154, 3) := by decide +kernel
theorem dX7_number_31 : decode cX7_number 31 = .ok (.lload_n 3, 1) := by decide +kernel
theorem dX7_number_32 : decode cX7_number 32 = .ok (.ldiv, 1) := by decide +kernel
theorem dX7_number_33 : decode cX7_number 33 = .ok (.putfield 161, 3) := by decide +kernel
theorem dX7_number_36 : decode cX7_number 36 = .ok (.aload_n 0, 1) := by decide +kernel
theorem dX7_number_37 : decode cX7_number 37 = .ok (.lload_n 1, 1) := by decide +kernel
theorem dX7_number_38 : decode cX7_number 38 = .ok (.lload_n 3, 1) := by decide +kernel
theorem dX7_number_39 : decode cX7_number 39 = .ok (.ldiv, 1) := by decide +kernel
theorem dX7_number_40 : decode cX7_number 40 = .ok (.putfield 13, 3) := by decide +kernel
theorem dX7_number_43 : decode cX7_number 43 = .ok (.iconst 1, 1) := by decide +kernel
theorem dX7_number_44 : decode cX7_number 44 = .ok (.ireturn, 1) := by decide +kernel
theorem dX7_aim_0 : decode cX7_aim 0 = .ok (.iload_n 1, 1) := by decide +kernel
theorem dX7_aim_1 : decode cX7_aim 1 = .ok (.iconst 1, 1) := by decide +kernel
theorem dX7_aim_2 : decode cX7_aim 2 = .ok (.sipush 1000, 3) := by decide +kernel
theorem dX7_aim_5 : decode cX7_aim 5 = .ok (.invokestatic 125, 3) := by decide +kernel
theorem dX7_aim_8 : decode cX7_aim 8 = .ok (.ifCond .eq 14, 3) := by decide +kernel
theorem dX7_aim_11 : decode cX7_aim 11 = .ok (.iload_n 2, 1) := by decide +kernel
theorem dX7_aim_12 : decode cX7_aim 12 = .ok (.iconst 1, 1) := by decide +kernel
theorem dX7_aim_13 : decode cX7_aim 13 = .ok (.sipush 1000, 3) := by decide +kernel
theorem dX7_aim_16 : decode cX7_aim 16 = .ok (.invokestatic 125, 3) := by decide +kernel
theorem dX7_aim_19 : decode cX7_aim 19 = .ok (.ifCond .ne 5, 3) := by decide +kernel
theorem dX7_aim_22 : decode cX7_aim 22 = .ok (.iconst (-1), 1) := by decide +kernel
theorem dX7_aim_23 : decode cX7_aim 23 = .ok (.ireturn, 1) := by decide +kernel
theorem dX7_aim_24 : decode cX7_aim 24 = .ok (.aload_n 0, 1) := by decide +kernel
theorem dX7_aim_25 : decode cX7_aim 25 = .ok (.iload_n 1, 1) := by decide +kernel
theorem dX7_aim_26 : decode cX7_aim 26 = .ok (.putfield 36, 3) := by decide +kernel
theorem dX7_aim_29 : decode cX7_aim 29 = .ok (.aload_n 0, 1) := by decide +kernel
theorem dX7_aim_30 : decode cX7_aim 30 = .ok (.iload_n 2, 1) := by decide +kernel
theorem dX7_aim_31 : decode cX7_aim 31 = .ok (.putfield 40, 3) := by decide +kernel
theorem dX7_aim_34 : decode cX7_aim 34 = .ok (.iconst 1, 1) := by decide +kernel
theorem dX7_aim_35 : decode cX7_aim 35 = .ok (.ireturn, 1) := by decide +kernel
theorem dX7_rule_0 : decode cX7_rule 0 = .ok (.iload_n 1, 1) := by decide +kernel
theorem dX7_rule_1 : decode cX7_rule 1 = .ok (.iconst 0, 1) := by decide +kernel
theorem dX7_rule_2 : decode cX7_rule 2 = .ok (.iconst 5, 1) := by decide +kernel
theorem dX7_rule_3 : decode cX7_rule 3 = .ok (.invokestatic 125, 3) := by decide +kernel
theorem dX7_rule_6 : decode cX7_rule 6 = .ok (.ifCond .eq 13, 3) := by decide +kernel
theorem dX7_rule_9 : decode cX7_rule 9 = .ok (.iload_n 2, 1) := by decide +kernel
theorem dX7_rule_10 : decode cX7_rule 10 = .ok (.iconst 0, 1) := by decide +kernel
theorem dX7_rule_11 : decode cX7_rule 11 = .ok (.bipush 100, 2) := by decide +kernel
theorem dX7_rule_13 : decode cX7_rule 13 = .ok (.invokestatic 125, 3) := by decide +kernel
theorem dX7_rule_16 : decode cX7_rule 16 = .ok (.ifCond .ne 5, 3) := by decide +kernel
theorem dX7_rule_19 : decode cX7_rule 19 = .ok (.iconst (-1), 1) := by decide +kernel
theorem dX7_rule_20 : decode cX7_rule 20 = .ok (.ireturn, 1) := by decide +kernel
theorem dX7_rule_21 : decode cX7_rule 21 = .ok (.aload_n 0, 1) := by decide +kernel
theorem dX7_rule_22 : decode cX7_rule 22 = .ok (.iload_n 1, 1) := by decide +kernel
theorem dX7_rule_23 : decode cX7_rule 23 = .ok (.putfield 43, 3) := by decide +kernel
theorem dX7_rule_26 : decode cX7_rule 26 = .ok (.aload_n 0, 1) := by decide +kernel
theorem dX7_rule_27 : decode cX7_rule 27 = .ok (.iload_n 2, 1) := by decide +kernel
theorem dX7_rule_28 : decode cX7_rule 28 = .ok (.putfield 46, 3) := by decide +kernel
theorem dX7_rule_31 : decode cX7_rule 31 = .ok (.iconst 1, 1) := by decide +kernel
theorem dX7_rule_32 : decode cX7_rule 32 = .ok (.ireturn, 1) := by decide +kernel
theorem dX7_hour_0 : decode cX7_hour 0 = .ok (.aload_n 0, 1) := by decide +kernel
theorem dX7_hour_1 : decode cX7_hour 1 = .ok (.getfield 164, 3) := by decide +kernel
theorem dX7_hour_4 : decode cX7_hour 4 = .ok (.sipush 200, 3) := by decide +kernel
theorem dX7_hour_7 : decode cX7_hour 7 = .ok (.if_icmp .ne 6, 3) := by decide +kernel
theorem dX7_hour_10 : decode cX7_hour 10 = .ok (.bipush (-2), 2) := by decide +kernel
theorem dX7_hour_12 : decode cX7_hour 12 = .ok (.ireturn, 1) := by decide +kernel
theorem dX7_hour_13 : decode cX7_hour 13 = .ok (.aload_n 0, 1) := by decide +kernel
theorem dX7_hour_14 : decode cX7_hour 14 = .ok (.getfield 164, 3) := by decide +kernel
theorem dX7_hour_17 : decode cX7_hour 17 = .ok (.istore_n 2, 1) := by decide +kernel
theorem dX7_hour_18 : decode cX7_hour 18 = .ok (.aload_n 0, 1) := by decide +kernel
theorem dX7_hour_19 : decode cX7_hour 19 = .ok (.getfield 49, 3) := by decide +kernel
theorem dX7_hour_22 : decode cX7_hour 22 = .ok (.iload_n 2, 1) := by decide +kernel
theorem dX7_hour_23 : decode cX7_hour 23 = .ok (.iload_n 1, 1) := by decide +kernel
theorem dX7_hour_24 : decode cX7_hour 24 = .ok (.ifCond .eq 8, 3) := by decide +kernel
theorem dX7_hour_27 : decode cX7_hour 27 = .ok (.ldc 167, 2) := by decide +kernel
theorem dX7_hour_29 : decode cX7_hour 29 = .ok (.goto 9, 3) := by decide +kernel
theorem dX7_hour_32 : decode cX7_hour 32 = .ok (.iload_n 2, 1) := by decide +kernel
theorem dX7_hour_33 : decode cX7_hour 33 = .ok (.aload_n 0, 1) := by decide +kernel
theorem dX7_hour_34 : decode cX7_hour 34 = .ok (.getfield 43, 3) := by decide +kernel
theorem dX7_hour_37 : decode cX7_hour 37 = .ok (.iadd, 1) := by decide +kernel
theorem dX7_hour_38 : decode cX7_hour 38 = .ok (.iastore, 1) := by decide +kernel
theorem dX7_hour_39 : decode cX7_hour 39 = .ok (.aload_n 0, 1) := by decide +kernel
theorem dX7_hour_40 : decode cX7_hour 40 = .ok (.getfield 52, 3) := by decide +kernel
theorem dX7_hour_43 : decode cX7_hour 43 = .ok (.iload_n 2, 1) := by decide +kernel
theorem dX7_hour_44 : decode cX7_hour 44 = .ok (.aload_n 0, 1) := by decide +kernel
theorem dX7_hour_45 : decode cX7_hour 45 = .ok (.invokevirtual 154, 3) := by decide +kernel
theorem dX7_hour_48 : decode cX7_hour 48 = .ok (.lastore, 1) := by decide +kernel
theorem dX7_hour_49 : decode cX7_hour 49 = .ok (.aload_n 0, 1) := by decide +kernel
theorem dX7_hour_50 : decode cX7_hour 50 = .ok (.getfield 56, 3) := by decide +kernel
theorem dX7_hour_53 : decode cX7_hour 53 = .ok (.iload_n 2, 1) := by decide +kernel
theorem dX7_hour_54 : decode cX7_hour 54 = .ok (.aload_n 0, 1) := by decide +kernel
theorem dX7_hour_55 : decode cX7_hour 55 = .ok (.invokevirtual 147, 3) := by decide +kernel
theorem dX7_hour_58 : decode cX7_hour 58 = .ok (.lastore, 1) := by decide +kernel
theorem dX7_hour_59 : decode cX7_hour 59 = .ok (.aload_n 0, 1) := by decide +kernel
theorem dX7_hour_60 : decode cX7_hour 60 = .ok (.getfield 59, 3) := by decide +kernel
theorem dX7_hour_63 : decode cX7_hour 63 = .ok (.iload_n 2, 1) := by decide +kernel
theorem dX7_hour_64 : decode cX7_hour 64 = .ok (.iconst 0, 1) := by decide +kernel
theorem dX7_hour_65 : decode cX7_hour 65 = .ok (.iastore, 1) := by decide +kernel
theorem dX7_hour_66 : decode cX7_hour 66 = .ok (.aload_n 0, 1) := by decide +kernel
theorem dX7_hour_67 : decode cX7_hour 67 = .ok (.dup, 1) := by decide +kernel
theorem dX7_hour_68 : decode cX7_hour 68 = .ok (.getfield 164, 3) := by decide +kernel
theorem dX7_hour_71 : decode cX7_hour 71 = .ok (.iconst 1, 1) := by decide +kernel
theorem dX7_hour_72 : decode cX7_hour 72 = .ok (.iadd, 1) := by decide +kernel
theorem dX7_hour_73 : decode cX7_hour 73 = .ok (.putfield 164, 3) := by decide +kernel
theorem dX7_hour_76 : decode cX7_hour 76 = .ok (.aload_n 0, 1) := by decide +kernel
theorem dX7_hour_77 : decode cX7_hour 77 = .ok (.bipush (-9), 2) := by decide +kernel
theorem dX7_hour_79 : decode cX7_hour 79 = .ok (.putfield 62, 3) := by decide +kernel
theorem dX7_hour_82 : decode cX7_hour 82 = .ok (.iload_n 2, 1) := by decide +kernel
theorem dX7_hour_83 : decode cX7_hour 83 = .ok (.istore_n 3, 1) := by decide +kernel
theorem dX7_hour_84 : decode cX7_hour 84 = .ok (.iload_n 3, 1) := by decide +kernel
theorem dX7_hour_85 : decode cX7_hour 85 = .ok (.ifCond .lt 65, 3) := by decide +kernel
theorem dX7_hour_88 : decode cX7_hour 88 = .ok (.aload_n 0, 1) := by decide +kernel
theorem dX7_hour_89 : decode cX7_hour 89 = .ok (.getfield 49, 3) := by decide +kernel
theorem dX7_hour_92 : decode cX7_hour 92 = .ok (.iload_n 3, 1) := by decide +kernel
theorem dX7_hour_93 : decode cX7_hour 93 = .ok (.iaload, 1) := by decide +kernel
theorem dX7_hour_94 : decode cX7_hour 94 = .ok (.iload_n 2, 1) := by decide +kernel
theorem dX7_hour_95 : decode cX7_hour 95 = .ok (.if_icmp .gt 49, 3) := by decide +kernel
theorem dX7_hour_98 : decode cX7_hour 98 = .ok (.aload_n 0, 1) := by decide +kernel
theorem dX7_hour_99 : decode cX7_hour 99 = .ok (.getfield 59, 3) := by decide +kernel
theorem dX7_hour_102 : decode cX7_hour 102 = .ok (.iload_n 3, 1) := by decide +kernel
theorem dX7_hour_103 : decode cX7_hour 103 = .ok (.iaload, 1) := by decide +kernel
theorem dX7_hour_104 : decode cX7_hour 104 = .ok (.ifCond .ne 40, 3) := by decide +kernel
theorem dX7_hour_107 : decode cX7_hour 107 = .ok (.aload_n 0, 1) := by decide +kernel
theorem dX7_hour_108 : decode cX7_hour 108 = .ok (.getfield 59, 3) := by decide +kernel
theorem dX7_hour_111 : decode cX7_hour 111 = .ok (.iload_n 3, 1) := by decide +kernel
theorem dX7_hour_112 : decode cX7_hour 112 = .ok (.aload_n 0, 1) := by decide +kernel
theorem dX7_hour_113 : decode cX7_hour 113 = .ok (.getfield 62, 3) := by decide +kernel
theorem dX7_hour_116 : decode cX7_hour 116 = .ok (.ifCond .ge 7, 3) := by decide +kernel
theorem dX7_hour_119 : decode cX7_hour 119 = .ok (.iconst 1, 1) := by decide +kernel
theorem dX7_hour_120 : decode cX7_hour 120 = .ok (.goto 4, 3) := by decide +kernel
theorem dX7_hour_123 : decode cX7_hour 123 = .ok (.iconst 2, 1) := by decide +kernel
theorem dX7_hour_124 : decode cX7_hour 124 = .ok (.iastore, 1) := by decide +kernel
theorem dX7_hour_125 : decode cX7_hour 125 = .ok (.aload_n 0, 1) := by decide +kernel
theorem dX7_hour_126 : decode cX7_hour 126 = .ok (.aload_n 0, 1) := by decide +kernel
theorem dX7_hour_127 : decode cX7_hour 127 = .ok (.getfield 62, 3) := by decide +kernel
theorem dX7_hour_130 : decode cX7_hour 130 = .ok (.ifCond .ge 7, 3) := by decide +kernel
theorem dX7_hour_133 : decode cX7_hour 133 = .ok (.iload_n 3, 1) := by decide +kernel
theorem dX7_hour_134 : decode cX7_hour 134 = .ok (.goto 7, 3) := by decide +kernel
theorem dX7_hour_137 : decode cX7_hour 137 = .ok (.aload_n 0, 1) := by decide +kernel
theorem dX7_hour_138 : decode cX7_hour 138 = .ok (.getfield 62, 3) := by decide +kernel
theorem dX7_hour_141 : decode cX7_hour 141 = .ok (.putfield 62, 3) := by decide +kernel
theorem dX7_hour_144 : decode cX7_hour 144 = .ok (.iinc 3 (-1), 3) := by decide +kernel
theorem dX7_hour_147 : decode cX7_hour 147 = .ok (.goto (-63), 3) := by decide +kernel
theorem dX7_hour_150 : decode cX7_hour 150 = .ok (.aload_n 0, 1) := by decide +kernel
theorem dX7_hour_151 : decode cX7_hour 151 = .ok (.getfield 62, 3) := by decide +kernel
theorem dX7_hour_154 : decode cX7_hour 154 = .ok (.ifCond .ge 7, 3) := by decide +kernel
theorem dX7_hour_157 : decode cX7_hour 157 = .ok (.iconst 0, 1) := by decide +kernel
theorem dX7_hour_158 : decode cX7_hour 158 = .ok (.goto 25, 3) := by decide +kernel
theorem dX7_hour_161 : decode cX7_hour 161 = .ok (.aload_n 0, 1) := by decide +kernel
theorem dX7_hour_162 : decode cX7_hour 162 = .ok (.aload_n 0, 1) := by decide +kernel
theorem dX7_hour_163 : decode cX7_hour 163 = .ok (.getfield 52, 3) := by decide +kernel
theorem dX7_hour_166 : decode cX7_hour 166 = .ok (.aload_n 0, 1) := by decide +kernel
theorem dX7_hour_167 : decode cX7_hour 167 = .ok (.getfield 62, 3) := by decide +kernel
theorem dX7_hour_170 : decode cX7_hour 170 = .ok (.laload, 1) := by decide +kernel
theorem dX7_hour_171 : decode cX7_hour 171 = .ok (.aload_n 0, 1) := by decide +kernel
theorem dX7_hour_172 : decode cX7_hour 172 = .ok (.getfield 56, 3) := by decide +kernel
theorem dX7_hour_175 : decode cX7_hour 175 = .ok (.aload_n 0, 1) := by decide +kernel
theorem dX7_hour_176 : decode cX7_hour 176 = .ok (.getfield 62, 3) := by decide +kernel
theorem dX7_hour_179 : decode cX7_hour 179 = .ok (.laload, 1) := by decide +kernel
theorem dX7_hour_180 : decode cX7_hour 180 = .ok (.invokevirtual 168, 3) := by decide +kernel
theorem dX7_hour_183 : decode cX7_hour 183 = .ok (.ireturn, 1) := by decide +kernel
theorem dX7_steer_0 : decode cX7_steer 0 = .ok (.lload_n 3, 1) := by decide +kernel
theorem dX7_steer_1 : decode cX7_steer 1 = .ok (.lconst 0, 1) := by decide +kernel
theorem dX7_steer_2 : decode cX7_steer 2 = .ok (.lcmp, 1) := by decide +kernel
theorem dX7_steer_3 : decode cX7_steer 3 = .ok (.ifCond .eq 21, 3) := by decide +kernel
theorem dX7_steer_6 : decode cX7_steer 6 = .ok (.lload_n 1, 1) := by decide +kernel
theorem dX7_steer_7 : decode cX7_steer 7 = .ok (.aload_n 0, 1) := by decide +kernel
theorem dX7_steer_8 : decode cX7_steer 8 = .ok (.getfield 40, 3) := by decide +kernel
theorem dX7_steer_11 : decode cX7_steer 11 = .ok (.i2l, 1) := by decide +kernel
theorem dX7_steer_12 : decode cX7_steer 12 = .ok (.lmul, 1) := by decide +kernel
theorem dX7_steer_13 : decode cX7_steer 13 = .ok (.aload_n 0, 1) := by decide +kernel
theorem dX7_steer_14 : decode cX7_steer 14 = .ok (.getfield 36, 3) := by decide +kernel
theorem dX7_steer_17 : decode cX7_steer 17 = .ok (.i2l, 1) := by decide +kernel
theorem dX7_steer_18 : decode cX7_steer 18 = .ok (.lload_n 3, 1) := by decide +kernel
theorem dX7_steer_19 : decode cX7_steer 19 = .ok (.lmul, 1) := by decide +kernel
theorem dX7_steer_20 : decode cX7_steer 20 = .ok (.lcmp, 1) := by decide +kernel
theorem dX7_steer_21 : decode cX7_steer 21 = .ok (.ifCond .ne 5, 3) := by decide +kernel
theorem dX7_steer_24 : decode cX7_steer 24 = .ok (.iconst 1, 1) := by decide +kernel
theorem dX7_steer_25 : decode cX7_steer 25 = .ok (.ireturn, 1) := by decide +kernel
theorem dX7_steer_26 : decode cX7_steer 26 = .ok (.lload_n 1, 1) := by decide +kernel
theorem dX7_steer_27 : decode cX7_steer 27 = .ok (.aload_n 0, 1) := by decide +kernel
theorem dX7_steer_28 : decode cX7_steer 28 = .ok (.getfield 40, 3) := by decide +kernel
theorem dX7_steer_31 : decode cX7_steer 31 = .ok (.i2l, 1) := by decide +kernel
theorem dX7_steer_32 : decode cX7_steer 32 = .ok (.lmul, 1) := by decide +kernel
theorem dX7_steer_33 : decode cX7_steer 33 = .ok (.aload_n 0, 1) := by decide +kernel
theorem dX7_steer_34 : decode cX7_steer 34 = .ok (.getfield 36, 3) := by decide +kernel
theorem dX7_steer_37 : decode cX7_steer 37 = .ok (.i2l, 1) := by decide +kernel
theorem dX7_steer_38 : decode cX7_steer 38 = .ok (.lload_n 3, 1) := by decide +kernel
theorem dX7_steer_39 : decode cX7_steer 39 = .ok (.lmul, 1) := by decide +kernel
theorem dX7_steer_40 : decode cX7_steer 40 = .ok (.lcmp, 1) := by decide +kernel
theorem dX7_steer_41 : decode cX7_steer 41 = .ok (.ifCond .ge 7, 3) := by decide +kernel
theorem dX7_steer_44 : decode cX7_steer 44 = .ok (.iconst 1, 1) := by decide +kernel
theorem dX7_steer_45 : decode cX7_steer 45 = .ok (.goto 4, 3) := by decide +kernel
theorem dX7_steer_48 : decode cX7_steer 48 = .ok (.iconst 0, 1) := by decide +kernel
theorem dX7_steer_49 : decode cX7_steer 49 = .ok (.istore 5, 2) := by decide +kernel
theorem dX7_steer_51 : decode cX7_steer 51 = .ok (.iload 5, 2) := by decide +kernel
theorem dX7_steer_53 : decode cX7_steer 53 = .ok (.ifCond .eq 7, 3) := by decide +kernel
theorem dX7_steer_56 : decode cX7_steer 56 = .ok (.iconst 1, 1) := by decide +kernel
theorem dX7_steer_57 : decode cX7_steer 57 = .ok (.goto 4, 3) := by decide +kernel
theorem dX7_steer_60 : decode cX7_steer 60 = .ok (.iconst 0, 1) := by decide +kernel
theorem dX7_steer_61 : decode cX7_steer 61 = .ok (.istore 6, 2) := by decide +kernel
theorem dX7_steer_63 : decode cX7_steer 63 = .ok (.aload_n 0, 1) := by decide +kernel
theorem dX7_steer_64 : decode cX7_steer 64 = .ok (.getfield 33, 3) := by decide +kernel
theorem dX7_steer_67 : decode cX7_steer 67 = .ok (.iload 6, 2) := by decide +kernel
theorem dX7_steer_69 : decode cX7_steer 69 = .ok (.iaload, 1) := by decide +kernel
theorem dX7_steer_70 : decode cX7_steer 70 = .ok (.aload_n 0, 1) := by decide +kernel
theorem dX7_steer_71 : decode cX7_steer 71 = .ok (.getfield 46, 3) := by decide +kernel
theorem dX7_steer_74 : decode cX7_steer 74 = .ok (.if_icmp .ge 13, 3) := by decide +kernel
theorem dX7_steer_77 : decode cX7_steer 77 = .ok (.aload_n 0, 1) := by decide +kernel
theorem dX7_steer_78 : decode cX7_steer 78 = .ok (.getfield 33, 3) := by decide +kernel
theorem dX7_steer_81 : decode cX7_steer 81 = .ok (.iload 6, 2) := by decide +kernel
theorem dX7_steer_83 : decode cX7_steer 83 = .ok (.iaload, 1) := by decide +kernel
theorem dX7_steer_84 : decode cX7_steer 84 = .ok (.goto 7, 3) := by decide +kernel
theorem dX7_steer_87 : decode cX7_steer 87 = .ok (.aload_n 0, 1) := by decide +kernel
theorem dX7_steer_88 : decode cX7_steer 88 = .ok (.getfield 46, 3) := by decide +kernel
theorem dX7_steer_91 : decode cX7_steer 91 = .ok (.istore 7, 2) := by decide +kernel
theorem dX7_steer_93 : decode cX7_steer 93 = .ok (.aload_n 0, 1) := by decide +kernel
theorem dX7_steer_94 : decode cX7_steer 94 = .ok (.getfield 33, 3) := by decide +kernel
theorem dX7_steer_97 : decode cX7_steer 97 = .ok (.iload 6, 2) := by decide +kernel
theorem dX7_steer_99 : decode cX7_steer 99 = .ok (.dup2, 1) := by decide +kernel
theorem dX7_steer_100 : decode cX7_steer 100 = .ok (.iaload, 1) := by decide +kernel
theorem dX7_steer_101 : decode cX7_steer 101 = .ok (.iload 7, 2) := by decide +kernel
theorem dX7_steer_103 : decode cX7_steer 103 = .ok (.isub, 1) := by decide +kernel
theorem dX7_steer_104 : decode cX7_steer 104 = .ok (.iastore, 1) := by decide +kernel
theorem dX7_steer_105 : decode cX7_steer 105 = .ok (.aload_n 0, 1) := by decide +kernel
theorem dX7_steer_106 : decode cX7_steer 106 = .ok (.getfield 33, 3) := by decide +kernel
theorem dX7_steer_109 : decode cX7_steer 109 = .ok (.iconst 1, 1) := by decide +kernel
theorem dX7_steer_110 : decode cX7_steer 110 = .ok (.iload 6, 2) := by decide +kernel
theorem dX7_steer_112 : decode cX7_steer 112 = .ok (.isub, 1) := by decide +kernel
theorem dX7_steer_113 : decode cX7_steer 113 = .ok (.dup2, 1) := by decide +kernel
theorem dX7_steer_114 : decode cX7_steer 114 = .ok (.iaload, 1) := by decide +kernel
theorem dX7_steer_115 : decode cX7_steer 115 = .ok (.iload 7, 2) := by decide +kernel
theorem dX7_steer_117 : decode cX7_steer 117 = .ok (.iadd, 1) := by decide +kernel
theorem dX7_steer_118 : decode cX7_steer 118 = .ok (.iastore, 1) := by decide +kernel
theorem dX7_steer_119 : decode cX7_steer 119 = .ok (.iload 7, 2) := by decide +kernel
theorem dX7_steer_121 : decode cX7_steer 121 = .ok (.ifCond .ne 7, 3) := by decide +kernel
theorem dX7_steer_124 : decode cX7_steer 124 = .ok (.iconst 1, 1) := by decide +kernel
theorem dX7_steer_125 : decode cX7_steer 125 = .ok (.goto 13, 3) := by decide +kernel
theorem dX7_steer_128 : decode cX7_steer 128 = .ok (.iload 5, 2) := by decide +kernel
theorem dX7_steer_130 : decode cX7_steer 130 = .ok (.ifCond .eq 7, 3) := by decide +kernel
theorem dX7_steer_133 : decode cX7_steer 133 = .ok (.iconst 2, 1) := by decide +kernel
theorem dX7_steer_134 : decode cX7_steer 134 = .ok (.goto 4, 3) := by decide +kernel
theorem dX7_steer_137 : decode cX7_steer 137 = .ok (.iconst 3, 1) := by decide +kernel
theorem dX7_steer_138 : decode cX7_steer 138 = .ok (.ireturn, 1) := by decide +kernel
theorem dX7_read_0 : decode cX7_read 0 = .ok (.aload_n 0, 1) := by decide +kernel
theorem dX7_read_1 : decode cX7_read 1 = .ok (.getfield 62, 3) := by decide +kernel
theorem dX7_read_4 : decode cX7_read 4 = .ok (.ireturn, 1) := by decide +kernel
theorem dX7_passed_0 : decode cX7_passed 0 = .ok (.iconst 0, 1) := by decide +kernel
theorem dX7_passed_1 : decode cX7_passed 1 = .ok (.istore_n 1, 1) := by decide +kernel
theorem dX7_passed_2 : decode cX7_passed 2 = .ok (.iconst 0, 1) := by decide +kernel
theorem dX7_passed_3 : decode cX7_passed 3 = .ok (.istore_n 2, 1) := by decide +kernel
theorem dX7_passed_4 : decode cX7_passed 4 = .ok (.iload_n 2, 1) := by decide +kernel
theorem dX7_passed_5 : decode cX7_passed 5 = .ok (.aload_n 0, 1) := by decide +kernel
theorem dX7_passed_6 : decode cX7_passed 6 = .ok (.getfield 164, 3) := by decide +kernel
theorem dX7_passed_9 : decode cX7_passed 9 = .ok (.if_icmp .ge 27, 3) := by decide +kernel
theorem dX7_passed_12 : decode cX7_passed 12 = .ok (.iload_n 1, 1) := by decide +kernel
theorem dX7_passed_13 : decode cX7_passed 13 = .ok (.aload_n 0, 1) := by decide +kernel
theorem dX7_passed_14 : decode cX7_passed 14 = .ok (.getfield 59, 3) := by decide +kernel
theorem dX7_passed_17 : decode cX7_passed 17 = .ok (.iload_n 2, 1) := by decide +kernel
theorem dX7_passed_18 : decode cX7_passed 18 = .ok (.iaload, 1) := by decide +kernel
theorem dX7_passed_19 : decode cX7_passed 19 = .ok (.iconst 2, 1) := by decide +kernel
theorem dX7_passed_20 : decode cX7_passed 20 = .ok (.if_icmp .ne 7, 3) := by decide +kernel
theorem dX7_passed_23 : decode cX7_passed 23 = .ok (.iconst 1, 1) := by decide +kernel
theorem dX7_passed_24 : decode cX7_passed 24 = .ok (.goto 4, 3) := by decide +kernel
theorem dX7_passed_27 : decode cX7_passed 27 = .ok (.iconst 0, 1) := by decide +kernel
theorem dX7_passed_28 : decode cX7_passed 28 = .ok (.iadd, 1) := by decide +kernel
theorem dX7_passed_29 : decode cX7_passed 29 = .ok (.istore_n 1, 1) := by decide +kernel
theorem dX7_passed_30 : decode cX7_passed 30 = .ok (.iinc 2 1, 3) := by decide +kernel
theorem dX7_passed_33 : decode cX7_passed 33 = .ok (.goto (-29), 3) := by decide +kernel
theorem dX7_passed_36 : decode cX7_passed 36 = .ok (.iload_n 1, 1) := by decide +kernel
theorem dX7_passed_37 : decode cX7_passed 37 = .ok (.ireturn, 1) := by decide +kernel
theorem dX7_kindOf_0 : decode cX7_kindOf 0 = .ok (.iload_n 0, 1) := by decide +kernel
theorem dX7_kindOf_1 : decode cX7_kindOf 1 = .ok (.iconst 2, 1) := by decide +kernel
theorem dX7_kindOf_2 : decode cX7_kindOf 2 = .ok (.if_icmp .ge 7, 3) := by decide +kernel
theorem dX7_kindOf_5 : decode cX7_kindOf 5 = .ok (.iconst 0, 1) := by decide +kernel
theorem dX7_kindOf_6 : decode cX7_kindOf 6 = .ok (.goto 6, 3) := by decide +kernel
theorem dX7_kindOf_9 : decode cX7_kindOf 9 = .ok (.iload_n 0, 1) := by decide +kernel
theorem dX7_kindOf_10 : decode cX7_kindOf 10 = .ok (.iconst 1, 1) := by decide +kernel
theorem dX7_kindOf_11 : decode cX7_kindOf 11 = .ok (.isub, 1) := by decide +kernel
theorem dX7_kindOf_12 : decode cX7_kindOf 12 = .ok (.ireturn, 1) := by decide +kernel
theorem dX7_taken_0 : decode cX7_taken 0 = .ok (.iload_n 1, 1) := by decide +kernel
theorem dX7_taken_1 : decode cX7_taken 1 = .ok (.invokestatic 172, 3) := by decide +kernel
theorem dX7_taken_4 : decode cX7_taken 4 = .ok (.iconst 1, 1) := by decide +kernel
theorem dX7_taken_5 : decode cX7_taken 5 = .ok (.if_icmp .ne 9, 3) := by decide +kernel
theorem dX7_taken_8 : decode cX7_taken 8 = .ok (.iload_n 2, 1) := by decide +kernel
theorem dX7_taken_9 : decode cX7_taken 9 = .ok (.iconst 2, 1) := by decide +kernel
theorem dX7_taken_10 : decode cX7_taken 10 = .ok (.idiv, 1) := by decide +kernel
theorem dX7_taken_11 : decode cX7_taken 11 = .ok (.goto 6, 3) := by decide +kernel
theorem dX7_taken_14 : decode cX7_taken 14 = .ok (.iload_n 2, 1) := by decide +kernel
theorem dX7_taken_15 : decode cX7_taken 15 = .ok (.iconst 4, 1) := by decide +kernel
theorem dX7_taken_16 : decode cX7_taken 16 = .ok (.idiv, 1) := by decide +kernel
theorem dX7_taken_17 : decode cX7_taken 17 = .ok (.istore_n 3, 1) := by decide +kernel
theorem dX7_taken_18 : decode cX7_taken 18 = .ok (.aload_n 0, 1) := by decide +kernel
theorem dX7_taken_19 : decode cX7_taken 19 = .ok (.getfield 68, 3) := by decide +kernel
theorem dX7_taken_22 : decode cX7_taken 22 = .ok (.iload_n 1, 1) := by decide +kernel
theorem dX7_taken_23 : decode cX7_taken 23 = .ok (.dup2, 1) := by decide +kernel
theorem dX7_taken_24 : decode cX7_taken 24 = .ok (.iaload, 1) := by decide +kernel
theorem dX7_taken_25 : decode cX7_taken 25 = .ok (.iload_n 3, 1) := by decide +kernel
theorem dX7_taken_26 : decode cX7_taken 26 = .ok (.iadd, 1) := by decide +kernel
theorem dX7_taken_27 : decode cX7_taken 27 = .ok (.iastore, 1) := by decide +kernel
theorem dX7_taken_28 : decode cX7_taken 28 = .ok (.iload_n 2, 1) := by decide +kernel
theorem dX7_taken_29 : decode cX7_taken 29 = .ok (.iload_n 3, 1) := by decide +kernel
theorem dX7_taken_30 : decode cX7_taken 30 = .ok (.isub, 1) := by decide +kernel
theorem dX7_taken_31 : decode cX7_taken 31 = .ok (.ireturn, 1) := by decide +kernel
theorem dX7_handOn_0 : decode cX7_handOn 0 = .ok (.iconst 0, 1) := by decide +kernel
theorem dX7_handOn_1 : decode cX7_handOn 1 = .ok (.istore_n 3, 1) := by decide +kernel
theorem dX7_handOn_2 : decode cX7_handOn 2 = .ok (.iload_n 3, 1) := by decide +kernel
theorem dX7_handOn_3 : decode cX7_handOn 3 = .ok (.iconst 4, 1) := by decide +kernel
theorem dX7_handOn_4 : decode cX7_handOn 4 = .ok (.if_icmp .ge 73, 3) := by decide +kernel
theorem dX7_handOn_7 : decode cX7_handOn 7 = .ok (.aload_n 0, 1) := by decide +kernel
theorem dX7_handOn_8 : decode cX7_handOn 8 = .ok (.getfield 71, 3) := by decide +kernel
theorem dX7_handOn_11 : decode cX7_handOn 11 = .ok (.iload_n 3, 1) := by decide +kernel
theorem dX7_handOn_12 : decode cX7_handOn 12 = .ok (.aload_n 0, 1) := by decide +kernel
theorem dX7_handOn_13 : decode cX7_handOn 13 = .ok (.getfield 65, 3) := by decide +kernel
theorem dX7_handOn_16 : decode cX7_handOn 16 = .ok (.iload_n 3, 1) := by decide +kernel
theorem dX7_handOn_17 : decode cX7_handOn 17 = .ok (.iaload, 1) := by decide +kernel
theorem dX7_handOn_18 : decode cX7_handOn 18 = .ok (.i2l, 1) := by decide +kernel
theorem dX7_handOn_19 : decode cX7_handOn 19 = .ok (.iload_n 2, 1) := by decide +kernel
theorem dX7_handOn_20 : decode cX7_handOn 20 = .ok (.i2l, 1) := by decide +kernel
theorem dX7_handOn_21 : decode cX7_handOn 21 = .ok (.lmul, 1) := by decide +kernel
theorem dX7_handOn_22 : decode cX7_handOn 22 = .ok (.ldc2_w 175, 3) := by decide +kernel
theorem dX7_handOn_25 : decode cX7_handOn 25 = .ok (.ldiv, 1) := by decide +kernel
theorem dX7_handOn_26 : decode cX7_handOn 26 = .ok (.l2i, 1) := by decide +kernel
theorem dX7_handOn_27 : decode cX7_handOn 27 = .ok (.iastore, 1) := by decide +kernel
theorem dX7_handOn_28 : decode cX7_handOn 28 = .ok (.aload_n 0, 1) := by decide +kernel
theorem dX7_handOn_29 : decode cX7_handOn 29 = .ok (.getfield 74, 3) := by decide +kernel
theorem dX7_handOn_32 : decode cX7_handOn 32 = .ok (.iload_n 3, 1) := by decide +kernel
theorem dX7_handOn_33 : decode cX7_handOn 33 = .ok (.aload_n 0, 1) := by decide +kernel
theorem dX7_handOn_34 : decode cX7_handOn 34 = .ok (.getfield 65, 3) := by decide +kernel
theorem dX7_handOn_37 : decode cX7_handOn 37 = .ok (.iload_n 3, 1) := by decide +kernel
theorem dX7_handOn_38 : decode cX7_handOn 38 = .ok (.iaload, 1) := by decide +kernel
theorem dX7_handOn_39 : decode cX7_handOn 39 = .ok (.ifCond .ne 7, 3) := by decide +kernel
theorem dX7_handOn_42 : decode cX7_handOn 42 = .ok (.iconst 0, 1) := by decide +kernel
theorem dX7_handOn_43 : decode cX7_handOn 43 = .ok (.goto 27, 3) := by decide +kernel
theorem dX7_handOn_46 : decode cX7_handOn 46 = .ok (.aload_n 0, 1) := by decide +kernel
theorem dX7_handOn_47 : decode cX7_handOn 47 = .ok (.getfield 68, 3) := by decide +kernel
theorem dX7_handOn_50 : decode cX7_handOn 50 = .ok (.iload_n 3, 1) := by decide +kernel
theorem dX7_handOn_51 : decode cX7_handOn 51 = .ok (.iaload, 1) := by decide +kernel
theorem dX7_handOn_52 : decode cX7_handOn 52 = .ok (.i2l, 1) := by decide +kernel
theorem dX7_handOn_53 : decode cX7_handOn 53 = .ok (.aload_n 0, 1) := by decide +kernel
theorem dX7_handOn_54 : decode cX7_handOn 54 = .ok (.getfield 71, 3) := by decide +kernel
theorem dX7_handOn_57 : decode cX7_handOn 57 = .ok (.iload_n 3, 1) := by decide +kernel
theorem dX7_handOn_58 : decode cX7_handOn 58 = .ok (.iaload, 1) := by decide +kernel
theorem dX7_handOn_59 : decode cX7_handOn 59 = .ok (.i2l, 1) := by decide +kernel
theorem dX7_handOn_60 : decode cX7_handOn 60 = .ok (.lmul, 1) := by decide +kernel
theorem dX7_handOn_61 : decode cX7_handOn 61 = .ok (.aload_n 0, 1) := by decide +kernel
theorem dX7_handOn_62 : decode cX7_handOn 62 = .ok (.getfield 65, 3) := by decide +kernel
theorem dX7_handOn_65 : decode cX7_handOn 65 = .ok (.iload_n 3, 1) := by decide +kernel
theorem dX7_handOn_66 : decode cX7_handOn 66 = .ok (.iaload, 1) := by decide +kernel
theorem dX7_handOn_67 : decode cX7_handOn 67 = .ok (.i2l, 1) := by decide +kernel
theorem dX7_handOn_68 : decode cX7_handOn 68 = .ok (.ldiv, 1) := by decide +kernel
theorem dX7_handOn_69 : decode cX7_handOn 69 = .ok (.l2i, 1) := by decide +kernel
theorem dX7_handOn_70 : decode cX7_handOn 70 = .ok (.iastore, 1) := by decide +kernel
theorem dX7_handOn_71 : decode cX7_handOn 71 = .ok (.iinc 3 1, 3) := by decide +kernel
theorem dX7_handOn_74 : decode cX7_handOn 74 = .ok (.goto (-72), 3) := by decide +kernel
theorem dX7_handOn_77 : decode cX7_handOn 77 = .ok (.aload_n 0, 1) := by decide +kernel
theorem dX7_handOn_78 : decode cX7_handOn 78 = .ok (.getfield 65, 3) := by decide +kernel
theorem dX7_handOn_81 : decode cX7_handOn 81 = .ok (.iconst 4, 1) := by decide +kernel
theorem dX7_handOn_82 : decode cX7_handOn 82 = .ok (.iconst 0, 1) := by decide +kernel
theorem dX7_handOn_83 : decode cX7_handOn 83 = .ok (.iastore, 1) := by decide +kernel
theorem dX7_handOn_84 : decode cX7_handOn 84 = .ok (.aload_n 0, 1) := by decide +kernel
theorem dX7_handOn_85 : decode cX7_handOn 85 = .ok (.getfield 68, 3) := by decide +kernel
theorem dX7_handOn_88 : decode cX7_handOn 88 = .ok (.iconst 4, 1) := by decide +kernel
theorem dX7_handOn_89 : decode cX7_handOn 89 = .ok (.iconst 0, 1) := by decide +kernel
theorem dX7_handOn_90 : decode cX7_handOn 90 = .ok (.iastore, 1) := by decide +kernel
theorem dX7_handOn_91 : decode cX7_handOn 91 = .ok (.iconst 0, 1) := by decide +kernel
theorem dX7_handOn_92 : decode cX7_handOn 92 = .ok (.istore_n 3, 1) := by decide +kernel
theorem dX7_handOn_93 : decode cX7_handOn 93 = .ok (.iload_n 3, 1) := by decide +kernel
theorem dX7_handOn_94 : decode cX7_handOn 94 = .ok (.iconst 4, 1) := by decide +kernel
theorem dX7_handOn_95 : decode cX7_handOn 95 = .ok (.if_icmp .ge 73, 3) := by decide +kernel
theorem dX7_handOn_98 : decode cX7_handOn 98 = .ok (.aload_n 0, 1) := by decide +kernel
theorem dX7_handOn_99 : decode cX7_handOn 99 = .ok (.getfield 65, 3) := by decide +kernel
theorem dX7_handOn_102 : decode cX7_handOn 102 = .ok (.iload_n 3, 1) := by decide +kernel
theorem dX7_handOn_103 : decode cX7_handOn 103 = .ok (.dup2, 1) := by decide +kernel
theorem dX7_handOn_104 : decode cX7_handOn 104 = .ok (.iaload, 1) := by decide +kernel
theorem dX7_handOn_105 : decode cX7_handOn 105 = .ok (.aload_n 0, 1) := by decide +kernel
theorem dX7_handOn_106 : decode cX7_handOn 106 = .ok (.getfield 71, 3) := by decide +kernel
theorem dX7_handOn_109 : decode cX7_handOn 109 = .ok (.iload_n 3, 1) := by decide +kernel
theorem dX7_handOn_110 : decode cX7_handOn 110 = .ok (.iaload, 1) := by decide +kernel
theorem dX7_handOn_111 : decode cX7_handOn 111 = .ok (.isub, 1) := by decide +kernel
theorem dX7_handOn_112 : decode cX7_handOn 112 = .ok (.iastore, 1) := by decide +kernel
theorem dX7_handOn_113 : decode cX7_handOn 113 = .ok (.aload_n 0, 1) := by decide +kernel
theorem dX7_handOn_114 : decode cX7_handOn 114 = .ok (.getfield 68, 3) := by decide +kernel
theorem dX7_handOn_117 : decode cX7_handOn 117 = .ok (.iload_n 3, 1) := by decide +kernel
theorem dX7_handOn_118 : decode cX7_handOn 118 = .ok (.dup2, 1) := by decide +kernel
theorem dX7_handOn_119 : decode cX7_handOn 119 = .ok (.iaload, 1) := by decide +kernel
theorem dX7_handOn_120 : decode cX7_handOn 120 = .ok (.aload_n 0, 1) := by decide +kernel
theorem dX7_handOn_121 : decode cX7_handOn 121 = .ok (.getfield 74, 3) := by decide +kernel
theorem dX7_handOn_124 : decode cX7_handOn 124 = .ok (.iload_n 3, 1) := by decide +kernel
theorem dX7_handOn_125 : decode cX7_handOn 125 = .ok (.iaload, 1) := by decide +kernel
theorem dX7_handOn_126 : decode cX7_handOn 126 = .ok (.isub, 1) := by decide +kernel
theorem dX7_handOn_127 : decode cX7_handOn 127 = .ok (.iastore, 1) := by decide +kernel
theorem dX7_handOn_128 : decode cX7_handOn 128 = .ok (.aload_n 0, 1) := by decide +kernel
theorem dX7_handOn_129 : decode cX7_handOn 129 = .ok (.getfield 65, 3) := by decide +kernel
theorem dX7_handOn_132 : decode cX7_handOn 132 = .ok (.iload_n 3, 1) := by decide +kernel
theorem dX7_handOn_133 : decode cX7_handOn 133 = .ok (.iconst 1, 1) := by decide +kernel
theorem dX7_handOn_134 : decode cX7_handOn 134 = .ok (.iadd, 1) := by decide +kernel
theorem dX7_handOn_135 : decode cX7_handOn 135 = .ok (.dup2, 1) := by decide +kernel
theorem dX7_handOn_136 : decode cX7_handOn 136 = .ok (.iaload, 1) := by decide +kernel
theorem dX7_handOn_137 : decode cX7_handOn 137 = .ok (.aload_n 0, 1) := by decide +kernel
theorem dX7_handOn_138 : decode cX7_handOn 138 = .ok (.getfield 71, 3) := by decide +kernel
theorem dX7_handOn_141 : decode cX7_handOn 141 = .ok (.iload_n 3, 1) := by decide +kernel
theorem dX7_handOn_142 : decode cX7_handOn 142 = .ok (.iaload, 1) := by decide +kernel
theorem dX7_handOn_143 : decode cX7_handOn 143 = .ok (.iadd, 1) := by decide +kernel
theorem dX7_handOn_144 : decode cX7_handOn 144 = .ok (.iastore, 1) := by decide +kernel
theorem dX7_handOn_145 : decode cX7_handOn 145 = .ok (.aload_n 0, 1) := by decide +kernel
theorem dX7_handOn_146 : decode cX7_handOn 146 = .ok (.getfield 68, 3) := by decide +kernel
theorem dX7_handOn_149 : decode cX7_handOn 149 = .ok (.iload_n 3, 1) := by decide +kernel
theorem dX7_handOn_150 : decode cX7_handOn 150 = .ok (.iconst 1, 1) := by decide +kernel
theorem dX7_handOn_151 : decode cX7_handOn 151 = .ok (.iadd, 1) := by decide +kernel
theorem dX7_handOn_152 : decode cX7_handOn 152 = .ok (.dup2, 1) := by decide +kernel
theorem dX7_handOn_153 : decode cX7_handOn 153 = .ok (.iaload, 1) := by decide +kernel
theorem dX7_handOn_154 : decode cX7_handOn 154 = .ok (.aload_n 0, 1) := by decide +kernel
theorem dX7_handOn_155 : decode cX7_handOn 155 = .ok (.getfield 74, 3) := by decide +kernel
theorem dX7_handOn_158 : decode cX7_handOn 158 = .ok (.iload_n 3, 1) := by decide +kernel
theorem dX7_handOn_159 : decode cX7_handOn 159 = .ok (.iaload, 1) := by decide +kernel
theorem dX7_handOn_160 : decode cX7_handOn 160 = .ok (.iadd, 1) := by decide +kernel
theorem dX7_handOn_161 : decode cX7_handOn 161 = .ok (.iastore, 1) := by decide +kernel
theorem dX7_handOn_162 : decode cX7_handOn 162 = .ok (.iinc 3 1, 3) := by decide +kernel
theorem dX7_handOn_165 : decode cX7_handOn 165 = .ok (.goto (-72), 3) := by decide +kernel
theorem dX7_handOn_168 : decode cX7_handOn 168 = .ok (.aload_n 0, 1) := by decide +kernel
theorem dX7_handOn_169 : decode cX7_handOn 169 = .ok (.getfield 65, 3) := by decide +kernel
theorem dX7_handOn_172 : decode cX7_handOn 172 = .ok (.iconst 0, 1) := by decide +kernel
theorem dX7_handOn_173 : decode cX7_handOn 173 = .ok (.dup2, 1) := by decide +kernel
theorem dX7_handOn_174 : decode cX7_handOn 174 = .ok (.iaload, 1) := by decide +kernel
theorem dX7_handOn_175 : decode cX7_handOn 175 = .ok (.iload_n 1, 1) := by decide +kernel
theorem dX7_handOn_176 : decode cX7_handOn 176 = .ok (.iadd, 1) := by decide +kernel
theorem dX7_handOn_177 : decode cX7_handOn 177 = .ok (.iastore, 1) := by decide +kernel
theorem dX7_handOn_178 : decode cX7_handOn 178 = .ok (.return_, 1) := by decide +kernel
theorem dX7_causeOf_0 : decode cX7_causeOf 0 = .ok (.iconst 0, 1) := by decide +kernel
theorem dX7_causeOf_1 : decode cX7_causeOf 1 = .ok (.istore_n 2, 1) := by decide +kernel
theorem dX7_causeOf_2 : decode cX7_causeOf 2 = .ok (.iload_n 2, 1) := by decide +kernel
theorem dX7_causeOf_3 : decode cX7_causeOf 3 = .ok (.iconst 4, 1) := by decide +kernel
theorem dX7_causeOf_4 : decode cX7_causeOf 4 = .ok (.if_icmp .ge 45, 3) := by decide +kernel
theorem dX7_causeOf_7 : decode cX7_causeOf 7 = .ok (.aload_n 0, 1) := by decide +kernel
theorem dX7_causeOf_8 : decode cX7_causeOf 8 = .ok (.getfield 65, 3) := by decide +kernel
theorem dX7_causeOf_11 : decode cX7_causeOf 11 = .ok (.iload_n 2, 1) := by decide +kernel
theorem dX7_causeOf_12 : decode cX7_causeOf 12 = .ok (.iaload, 1) := by decide +kernel
theorem dX7_causeOf_13 : decode cX7_causeOf 13 = .ok (.ifCond .le 30, 3) := by decide +kernel
theorem dX7_causeOf_16 : decode cX7_causeOf 16 = .ok (.aload_n 0, 1) := by decide +kernel
theorem dX7_causeOf_17 : decode cX7_causeOf 17 = .ok (.getfield 68, 3) := by decide +kernel
theorem dX7_causeOf_20 : decode cX7_causeOf 20 = .ok (.iload_n 2, 1) := by decide +kernel
theorem dX7_causeOf_21 : decode cX7_causeOf 21 = .ok (.iaload, 1) := by decide +kernel
theorem dX7_causeOf_22 : decode cX7_causeOf 22 = .ok (.i2l, 1) := by decide +kernel
theorem dX7_causeOf_23 : decode cX7_causeOf 23 = .ok (.ldc2_w 177, 3) := by decide +kernel
theorem dX7_causeOf_26 : decode cX7_causeOf 26 = .ok (.aload_n 0, 1) := by decide +kernel
theorem dX7_causeOf_27 : decode cX7_causeOf 27 = .ok (.getfield 65, 3) := by decide +kernel
theorem dX7_causeOf_30 : decode cX7_causeOf 30 = .ok (.iload_n 2, 1) := by decide +kernel
theorem dX7_causeOf_31 : decode cX7_causeOf 31 = .ok (.iaload, 1) := by decide +kernel
theorem dX7_causeOf_32 : decode cX7_causeOf 32 = .ok (.i2l, 1) := by decide +kernel
theorem dX7_causeOf_33 : decode cX7_causeOf 33 = .ok (.lmul, 1) := by decide +kernel
theorem dX7_causeOf_34 : decode cX7_causeOf 34 = .ok (.lcmp, 1) := by decide +kernel
theorem dX7_causeOf_35 : decode cX7_causeOf 35 = .ok (.ifCond .le 8, 3) := by decide +kernel
theorem dX7_causeOf_38 : decode cX7_causeOf 38 = .ok (.bipush 10, 2) := by decide +kernel
theorem dX7_causeOf_40 : decode cX7_causeOf 40 = .ok (.iload_n 2, 1) := by decide +kernel
theorem dX7_causeOf_41 : decode cX7_causeOf 41 = .ok (.iadd, 1) := by decide +kernel
theorem dX7_causeOf_42 : decode cX7_causeOf 42 = .ok (.ireturn, 1) := by decide +kernel
theorem dX7_causeOf_43 : decode cX7_causeOf 43 = .ok (.iinc 2 1, 3) := by decide +kernel
theorem dX7_causeOf_46 : decode cX7_causeOf 46 = .ok (.goto (-44), 3) := by decide +kernel
theorem dX7_causeOf_49 : decode cX7_causeOf 49 = .ok (.iconst 0, 1) := by decide +kernel
theorem dX7_causeOf_50 : decode cX7_causeOf 50 = .ok (.istore_n 2, 1) := by decide +kernel
theorem dX7_causeOf_51 : decode cX7_causeOf 51 = .ok (.iload_n 2, 1) := by decide +kernel
theorem dX7_causeOf_52 : decode cX7_causeOf 52 = .ok (.iconst 4, 1) := by decide +kernel
theorem dX7_causeOf_53 : decode cX7_causeOf 53 = .ok (.if_icmp .ge 26, 3) := by decide +kernel
theorem dX7_causeOf_56 : decode cX7_causeOf 56 = .ok (.aload_n 0, 1) := by decide +kernel
theorem dX7_causeOf_57 : decode cX7_causeOf 57 = .ok (.getfield 65, 3) := by decide +kernel
theorem dX7_causeOf_60 : decode cX7_causeOf 60 = .ok (.iload_n 2, 1) := by decide +kernel
theorem dX7_causeOf_61 : decode cX7_causeOf 61 = .ok (.iaload, 1) := by decide +kernel
theorem dX7_causeOf_62 : decode cX7_causeOf 62 = .ok (.sipush 2000, 3) := by decide +kernel
theorem dX7_causeOf_65 : decode cX7_causeOf 65 = .ok (.if_icmp .le 8, 3) := by decide +kernel
theorem dX7_causeOf_68 : decode cX7_causeOf 68 = .ok (.bipush 20, 2) := by decide +kernel
theorem dX7_causeOf_70 : decode cX7_causeOf 70 = .ok (.iload_n 2, 1) := by decide +kernel
theorem dX7_causeOf_71 : decode cX7_causeOf 71 = .ok (.iadd, 1) := by decide +kernel
theorem dX7_causeOf_72 : decode cX7_causeOf 72 = .ok (.ireturn, 1) := by decide +kernel
theorem dX7_causeOf_73 : decode cX7_causeOf 73 = .ok (.iinc 2 1, 3) := by decide +kernel
theorem dX7_causeOf_76 : decode cX7_causeOf 76 = .ok (.goto (-25), 3) := by decide +kernel
theorem dX7_causeOf_79 : decode cX7_causeOf 79 = .ok (.aload_n 0, 1) := by decide +kernel
theorem dX7_causeOf_80 : decode cX7_causeOf 80 = .ok (.getfield 77, 3) := by decide +kernel
theorem dX7_causeOf_83 : decode cX7_causeOf 83 = .ok (.iconst 0, 1) := by decide +kernel
theorem dX7_causeOf_84 : decode cX7_causeOf 84 = .ok (.iaload, 1) := by decide +kernel
theorem dX7_causeOf_85 : decode cX7_causeOf 85 = .ok (.ifCond .le 15, 3) := by decide +kernel
theorem dX7_causeOf_88 : decode cX7_causeOf 88 = .ok (.aload_n 0, 1) := by decide +kernel
theorem dX7_causeOf_89 : decode cX7_causeOf 89 = .ok (.getfield 77, 3) := by decide +kernel
theorem dX7_causeOf_92 : decode cX7_causeOf 92 = .ok (.iconst 3, 1) := by decide +kernel
theorem dX7_causeOf_93 : decode cX7_causeOf 93 = .ok (.iaload, 1) := by decide +kernel
theorem dX7_causeOf_94 : decode cX7_causeOf 94 = .ok (.ifCond .ne 6, 3) := by decide +kernel
theorem dX7_causeOf_97 : decode cX7_causeOf 97 = .ok (.bipush 33, 2) := by decide +kernel
theorem dX7_causeOf_99 : decode cX7_causeOf 99 = .ok (.ireturn, 1) := by decide +kernel
theorem dX7_causeOf_100 : decode cX7_causeOf 100 = .ok (.iload_n 1, 1) := by decide +kernel
theorem dX7_causeOf_101 : decode cX7_causeOf 101 = .ok (.ifCond .le 17, 3) := by decide +kernel
theorem dX7_causeOf_104 : decode cX7_causeOf 104 = .ok (.aload_n 0, 1) := by decide +kernel
theorem dX7_causeOf_105 : decode cX7_causeOf 105 = .ok (.getfield 65, 3) := by decide +kernel
theorem dX7_causeOf_108 : decode cX7_causeOf 108 = .ok (.iconst 2, 1) := by decide +kernel
theorem dX7_causeOf_109 : decode cX7_causeOf 109 = .ok (.iaload, 1) := by decide +kernel
theorem dX7_causeOf_110 : decode cX7_causeOf 110 = .ok (.ifCond .ne 8, 3) := by decide +kernel
theorem dX7_causeOf_113 : decode cX7_causeOf 113 = .ok (.bipush 42, 2) := by decide +kernel
theorem dX7_causeOf_115 : decode cX7_causeOf 115 = .ok (.goto 4, 3) := by decide +kernel
theorem dX7_causeOf_118 : decode cX7_causeOf 118 = .ok (.iconst 0, 1) := by decide +kernel
theorem dX7_causeOf_119 : decode cX7_causeOf 119 = .ok (.ireturn, 1) := by decide +kernel
theorem dX7_step_0 : decode cX7_step 0 = .ok (.iload_n 1, 1) := by decide +kernel
theorem dX7_step_1 : decode cX7_step 1 = .ok (.iconst 0, 1) := by decide +kernel
theorem dX7_step_2 : decode cX7_step 2 = .ok (.sipush 1000, 3) := by decide +kernel
theorem dX7_step_5 : decode cX7_step 5 = .ok (.invokestatic 125, 3) := by decide +kernel
theorem dX7_step_8 : decode cX7_step 8 = .ok (.ifCond .eq 23, 3) := by decide +kernel
theorem dX7_step_11 : decode cX7_step 11 = .ok (.iload_n 2, 1) := by decide +kernel
theorem dX7_step_12 : decode cX7_step 12 = .ok (.iconst 0, 1) := by decide +kernel
theorem dX7_step_13 : decode cX7_step 13 = .ok (.ldc 167, 2) := by decide +kernel
theorem dX7_step_15 : decode cX7_step 15 = .ok (.invokestatic 125, 3) := by decide +kernel
theorem dX7_step_18 : decode cX7_step 18 = .ok (.ifCond .eq 13, 3) := by decide +kernel
theorem dX7_step_21 : decode cX7_step 21 = .ok (.iload_n 3, 1) := by decide +kernel
theorem dX7_step_22 : decode cX7_step 22 = .ok (.iconst 0, 1) := by decide +kernel
theorem dX7_step_23 : decode cX7_step 23 = .ok (.bipush 100, 2) := by decide +kernel
theorem dX7_step_25 : decode cX7_step 25 = .ok (.invokestatic 125, 3) := by decide +kernel
theorem dX7_step_28 : decode cX7_step 28 = .ok (.ifCond .ne 5, 3) := by decide +kernel
theorem dX7_step_31 : decode cX7_step 31 = .ok (.iconst (-1), 1) := by decide +kernel
theorem dX7_step_32 : decode cX7_step 32 = .ok (.ireturn, 1) := by decide +kernel
theorem dX7_step_33 : decode cX7_step 33 = .ok (.aload_n 0, 1) := by decide +kernel
theorem dX7_step_34 : decode cX7_step 34 = .ok (.getfield 179, 3) := by decide +kernel
theorem dX7_step_37 : decode cX7_step 37 = .ok (.sipush 500, 3) := by decide +kernel
theorem dX7_step_40 : decode cX7_step 40 = .ok (.if_icmp .ne 6, 3) := by decide +kernel
theorem dX7_step_43 : decode cX7_step 43 = .ok (.bipush (-2), 2) := by decide +kernel
theorem dX7_step_45 : decode cX7_step 45 = .ok (.ireturn, 1) := by decide +kernel
theorem dX7_step_46 : decode cX7_step 46 = .ok (.aload_n 0, 1) := by decide +kernel
theorem dX7_step_47 : decode cX7_step 47 = .ok (.getfield 182, 3) := by decide +kernel
theorem dX7_step_50 : decode cX7_step 50 = .ok (.ifCond .eq 7, 3) := by decide +kernel
theorem dX7_step_53 : decode cX7_step 53 = .ok (.iconst 0, 1) := by decide +kernel
theorem dX7_step_54 : decode cX7_step 54 = .ok (.goto 4, 3) := by decide +kernel
theorem dX7_step_57 : decode cX7_step 57 = .ok (.iload_n 2, 1) := by decide +kernel
theorem dX7_step_58 : decode cX7_step 58 = .ok (.istore 4, 2) := by decide +kernel
theorem dX7_step_60 : decode cX7_step 60 = .ok (.aload_n 0, 1) := by decide +kernel
theorem dX7_step_61 : decode cX7_step 61 = .ok (.getfield 68, 3) := by decide +kernel
theorem dX7_step_64 : decode cX7_step 64 = .ok (.iconst 3, 1) := by decide +kernel
theorem dX7_step_65 : decode cX7_step 65 = .ok (.iaload, 1) := by decide +kernel
theorem dX7_step_66 : decode cX7_step 66 = .ok (.bipush 10, 2) := by decide +kernel
theorem dX7_step_68 : decode cX7_step 68 = .ok (.idiv, 1) := by decide +kernel
theorem dX7_step_69 : decode cX7_step 69 = .ok (.istore 5, 2) := by decide +kernel
theorem dX7_step_71 : decode cX7_step 71 = .ok (.aload_n 0, 1) := by decide +kernel
theorem dX7_step_72 : decode cX7_step 72 = .ok (.getfield 68, 3) := by decide +kernel
theorem dX7_step_75 : decode cX7_step 75 = .ok (.iconst 3, 1) := by decide +kernel
theorem dX7_step_76 : decode cX7_step 76 = .ok (.dup2, 1) := by decide +kernel
theorem dX7_step_77 : decode cX7_step 77 = .ok (.iaload, 1) := by decide +kernel
theorem dX7_step_78 : decode cX7_step 78 = .ok (.iload 5, 2) := by decide +kernel
theorem dX7_step_80 : decode cX7_step 80 = .ok (.isub, 1) := by decide +kernel
theorem dX7_step_81 : decode cX7_step 81 = .ok (.iastore, 1) := by decide +kernel
theorem dX7_step_82 : decode cX7_step 82 = .ok (.iload 4, 2) := by decide +kernel
theorem dX7_step_84 : decode cX7_step 84 = .ok (.iload 5, 2) := by decide +kernel
theorem dX7_step_86 : decode cX7_step 86 = .ok (.iadd, 1) := by decide +kernel
theorem dX7_step_87 : decode cX7_step 87 = .ok (.istore 6, 2) := by decide +kernel
theorem dX7_step_89 : decode cX7_step 89 = .ok (.iconst 2, 1) := by decide +kernel
theorem dX7_step_90 : decode cX7_step 90 = .ok (.istore 7, 2) := by decide +kernel
theorem dX7_step_92 : decode cX7_step 92 = .ok (.iload 7, 2) := by decide +kernel
theorem dX7_step_94 : decode cX7_step 94 = .ok (.ifCond .lt 19, 3) := by decide +kernel
theorem dX7_step_97 : decode cX7_step 97 = .ok (.aload_n 0, 1) := by decide +kernel
theorem dX7_step_98 : decode cX7_step 98 = .ok (.iload 7, 2) := by decide +kernel
theorem dX7_step_100 : decode cX7_step 100 = .ok (.iload 6, 2) := by decide +kernel
theorem dX7_step_102 : decode cX7_step 102 = .ok (.invokevirtual 186, 3) := by decide +kernel
theorem dX7_step_105 : decode cX7_step 105 = .ok (.istore 6, 2) := by decide +kernel
theorem dX7_step_107 : decode cX7_step 107 = .ok (.iinc 7 (-1), 3) := by decide +kernel
theorem dX7_step_110 : decode cX7_step 110 = .ok (.goto (-18), 3) := by decide +kernel
theorem dX7_step_113 : decode cX7_step 113 = .ok (.aload_n 0, 1) := by decide +kernel
theorem dX7_step_114 : decode cX7_step 114 = .ok (.iload_n 1, 1) := by decide +kernel
theorem dX7_step_115 : decode cX7_step 115 = .ok (.iload_n 3, 1) := by decide +kernel
theorem dX7_step_116 : decode cX7_step 116 = .ok (.invokevirtual 190, 3) := by decide +kernel
theorem dX7_step_119 : decode cX7_step 119 = .ok (.aload_n 0, 1) := by decide +kernel
theorem dX7_step_120 : decode cX7_step 120 = .ok (.getfield 77, 3) := by decide +kernel
theorem dX7_step_123 : decode cX7_step 123 = .ok (.iconst 0, 1) := by decide +kernel
theorem dX7_step_124 : decode cX7_step 124 = .ok (.aload_n 0, 1) := by decide +kernel
theorem dX7_step_125 : decode cX7_step 125 = .ok (.getfield 65, 3) := by decide +kernel
theorem dX7_step_128 : decode cX7_step 128 = .ok (.iconst 4, 1) := by decide +kernel
theorem dX7_step_129 : decode cX7_step 129 = .ok (.iaload, 1) := by decide +kernel
theorem dX7_step_130 : decode cX7_step 130 = .ok (.iastore, 1) := by decide +kernel
theorem dX7_step_131 : decode cX7_step 131 = .ok (.aload_n 0, 1) := by decide +kernel
theorem dX7_step_132 : decode cX7_step 132 = .ok (.getfield 77, 3) := by decide +kernel
theorem dX7_step_135 : decode cX7_step 135 = .ok (.iconst 1, 1) := by decide +kernel
theorem dX7_step_136 : decode cX7_step 136 = .ok (.aload_n 0, 1) := by decide +kernel
theorem dX7_step_137 : decode cX7_step 137 = .ok (.getfield 68, 3) := by decide +kernel
theorem dX7_step_140 : decode cX7_step 140 = .ok (.iconst 4, 1) := by decide +kernel
theorem dX7_step_141 : decode cX7_step 141 = .ok (.iaload, 1) := by decide +kernel
theorem dX7_step_142 : decode cX7_step 142 = .ok (.iastore, 1) := by decide +kernel
theorem dX7_step_143 : decode cX7_step 143 = .ok (.aload_n 0, 1) := by decide +kernel
theorem dX7_step_144 : decode cX7_step 144 = .ok (.getfield 77, 3) := by decide +kernel
theorem dX7_step_147 : decode cX7_step 147 = .ok (.iconst 2, 1) := by decide +kernel
theorem dX7_step_148 : decode cX7_step 148 = .ok (.aload_n 0, 1) := by decide +kernel
theorem dX7_step_149 : decode cX7_step 149 = .ok (.getfield 65, 3) := by decide +kernel
theorem dX7_step_152 : decode cX7_step 152 = .ok (.iconst 4, 1) := by decide +kernel
theorem dX7_step_153 : decode cX7_step 153 = .ok (.iaload, 1) := by decide +kernel
theorem dX7_step_154 : decode cX7_step 154 = .ok (.ifCond .ne 7, 3) := by decide +kernel
theorem dX7_step_157 : decode cX7_step 157 = .ok (.iconst 0, 1) := by decide +kernel
theorem dX7_step_158 : decode cX7_step 158 = .ok (.goto 16, 3) := by decide +kernel
theorem dX7_step_161 : decode cX7_step 161 = .ok (.aload_n 0, 1) := by decide +kernel
theorem dX7_step_162 : decode cX7_step 162 = .ok (.getfield 68, 3) := by decide +kernel
theorem dX7_step_165 : decode cX7_step 165 = .ok (.iconst 4, 1) := by decide +kernel
theorem dX7_step_166 : decode cX7_step 166 = .ok (.iaload, 1) := by decide +kernel
theorem dX7_step_167 : decode cX7_step 167 = .ok (.aload_n 0, 1) := by decide +kernel
theorem dX7_step_168 : decode cX7_step 168 = .ok (.getfield 65, 3) := by decide +kernel
theorem dX7_step_171 : decode cX7_step 171 = .ok (.iconst 4, 1) := by decide +kernel
theorem dX7_step_172 : decode cX7_step 172 = .ok (.iaload, 1) := by decide +kernel
theorem dX7_step_173 : decode cX7_step 173 = .ok (.idiv, 1) := by decide +kernel
theorem dX7_step_174 : decode cX7_step 174 = .ok (.iastore, 1) := by decide +kernel
theorem dX7_step_175 : decode cX7_step 175 = .ok (.aload_n 0, 1) := by decide +kernel
theorem dX7_step_176 : decode cX7_step 176 = .ok (.getfield 77, 3) := by decide +kernel
theorem dX7_step_179 : decode cX7_step 179 = .ok (.iconst 3, 1) := by decide +kernel
theorem dX7_step_180 : decode cX7_step 180 = .ok (.aload_n 0, 1) := by decide +kernel
theorem dX7_step_181 : decode cX7_step 181 = .ok (.getfield 77, 3) := by decide +kernel
theorem dX7_step_184 : decode cX7_step 184 = .ok (.iconst 2, 1) := by decide +kernel
theorem dX7_step_185 : decode cX7_step 185 = .ok (.iaload, 1) := by decide +kernel
theorem dX7_step_186 : decode cX7_step 186 = .ok (.bipush 60, 2) := by decide +kernel
theorem dX7_step_188 : decode cX7_step 188 = .ok (.if_icmp .lt 7, 3) := by decide +kernel
theorem dX7_step_191 : decode cX7_step 191 = .ok (.iconst 2, 1) := by decide +kernel
theorem dX7_step_192 : decode cX7_step 192 = .ok (.goto 19, 3) := by decide +kernel
theorem dX7_step_195 : decode cX7_step 195 = .ok (.aload_n 0, 1) := by decide +kernel
theorem dX7_step_196 : decode cX7_step 196 = .ok (.getfield 77, 3) := by decide +kernel
theorem dX7_step_199 : decode cX7_step 199 = .ok (.iconst 2, 1) := by decide +kernel
theorem dX7_step_200 : decode cX7_step 200 = .ok (.iaload, 1) := by decide +kernel
theorem dX7_step_201 : decode cX7_step 201 = .ok (.bipush 30, 2) := by decide +kernel
theorem dX7_step_203 : decode cX7_step 203 = .ok (.if_icmp .lt 7, 3) := by decide +kernel
theorem dX7_step_206 : decode cX7_step 206 = .ok (.iconst 1, 1) := by decide +kernel
theorem dX7_step_207 : decode cX7_step 207 = .ok (.goto 4, 3) := by decide +kernel
theorem dX7_step_210 : decode cX7_step 210 = .ok (.iconst 0, 1) := by decide +kernel
theorem dX7_step_211 : decode cX7_step 211 = .ok (.iastore, 1) := by decide +kernel
theorem dX7_step_212 : decode cX7_step 212 = .ok (.aload_n 0, 1) := by decide +kernel
theorem dX7_step_213 : decode cX7_step 213 = .ok (.getfield 77, 3) := by decide +kernel
theorem dX7_step_216 : decode cX7_step 216 = .ok (.bipush 6, 2) := by decide +kernel
theorem dX7_step_218 : decode cX7_step 218 = .ok (.iload 6, 2) := by decide +kernel
theorem dX7_step_220 : decode cX7_step 220 = .ok (.iastore, 1) := by decide +kernel
theorem dX7_step_221 : decode cX7_step 221 = .ok (.aload_n 0, 1) := by decide +kernel
theorem dX7_step_222 : decode cX7_step 222 = .ok (.getfield 77, 3) := by decide +kernel
theorem dX7_step_225 : decode cX7_step 225 = .ok (.iconst 0, 1) := by decide +kernel
theorem dX7_step_226 : decode cX7_step 226 = .ok (.iaload, 1) := by decide +kernel
theorem dX7_step_227 : decode cX7_step 227 = .ok (.ifCond .le 19, 3) := by decide +kernel
theorem dX7_step_230 : decode cX7_step 230 = .ok (.aload_n 0, 1) := by decide +kernel
theorem dX7_step_231 : decode cX7_step 231 = .ok (.aload_n 0, 1) := by decide +kernel
theorem dX7_step_232 : decode cX7_step 232 = .ok (.getfield 77, 3) := by decide +kernel
theorem dX7_step_235 : decode cX7_step 235 = .ok (.iconst 3, 1) := by decide +kernel
theorem dX7_step_236 : decode cX7_step 236 = .ok (.iaload, 1) := by decide +kernel
theorem dX7_step_237 : decode cX7_step 237 = .ok (.aload_n 0, 1) := by decide +kernel
theorem dX7_step_238 : decode cX7_step 238 = .ok (.getfield 77, 3) := by decide +kernel
theorem dX7_step_241 : decode cX7_step 241 = .ok (.iconst 0, 1) := by decide +kernel
theorem dX7_step_242 : decode cX7_step 242 = .ok (.iaload, 1) := by decide +kernel
theorem dX7_step_243 : decode cX7_step 243 = .ok (.invokevirtual 194, 3) := by decide +kernel
theorem dX7_step_246 : decode cX7_step 246 = .ok (.aload_n 0, 1) := by decide +kernel
theorem dX7_step_247 : decode cX7_step 247 = .ok (.iload 4, 2) := by decide +kernel
theorem dX7_step_249 : decode cX7_step 249 = .ok (.invokevirtual 197, 3) := by decide +kernel
theorem dX7_step_252 : decode cX7_step 252 = .ok (.istore 7, 2) := by decide +kernel
theorem dX7_step_254 : decode cX7_step 254 = .ok (.aload_n 0, 1) := by decide +kernel
theorem dX7_step_255 : decode cX7_step 255 = .ok (.getfield 77, 3) := by decide +kernel
theorem dX7_step_258 : decode cX7_step 258 = .ok (.iconst 4, 1) := by decide +kernel
theorem dX7_step_259 : decode cX7_step 259 = .ok (.iload 7, 2) := by decide +kernel
theorem dX7_step_261 : decode cX7_step 261 = .ok (.bipush 10, 2) := by decide +kernel
theorem dX7_step_263 : decode cX7_step 263 = .ok (.idiv, 1) := by decide +kernel
theorem dX7_step_264 : decode cX7_step 264 = .ok (.iastore, 1) := by decide +kernel
theorem dX7_step_265 : decode cX7_step 265 = .ok (.aload_n 0, 1) := by decide +kernel
theorem dX7_step_266 : decode cX7_step 266 = .ok (.getfield 77, 3) := by decide +kernel
theorem dX7_step_269 : decode cX7_step 269 = .ok (.iconst 5, 1) := by decide +kernel
theorem dX7_step_270 : decode cX7_step 270 = .ok (.iload 7, 2) := by decide +kernel
theorem dX7_step_272 : decode cX7_step 272 = .ok (.ifCond .ne 8, 3) := by decide +kernel
theorem dX7_step_275 : decode cX7_step 275 = .ok (.bipush (-9), 2) := by decide +kernel
theorem dX7_step_277 : decode cX7_step 277 = .ok (.goto 8, 3) := by decide +kernel
theorem dX7_step_280 : decode cX7_step 280 = .ok (.iload 7, 2) := by decide +kernel
theorem dX7_step_282 : decode cX7_step 282 = .ok (.bipush 10, 2) := by decide +kernel
theorem dX7_step_284 : decode cX7_step 284 = .ok (.irem, 1) := by decide +kernel
theorem dX7_step_285 : decode cX7_step 285 = .ok (.iastore, 1) := by decide +kernel
theorem dX7_step_286 : decode cX7_step 286 = .ok (.aload_n 0, 1) := by decide +kernel
theorem dX7_step_287 : decode cX7_step 287 = .ok (.aload_n 0, 1) := by decide +kernel
theorem dX7_step_288 : decode cX7_step 288 = .ok (.getfield 182, 3) := by decide +kernel
theorem dX7_step_291 : decode cX7_step 291 = .ok (.ifCond .ne 17, 3) := by decide +kernel
theorem dX7_step_294 : decode cX7_step 294 = .ok (.aload_n 0, 1) := by decide +kernel
theorem dX7_step_295 : decode cX7_step 295 = .ok (.getfield 77, 3) := by decide +kernel
theorem dX7_step_298 : decode cX7_step 298 = .ok (.iconst 4, 1) := by decide +kernel
theorem dX7_step_299 : decode cX7_step 299 = .ok (.iaload, 1) := by decide +kernel
theorem dX7_step_300 : decode cX7_step 300 = .ok (.iconst 1, 1) := by decide +kernel
theorem dX7_step_301 : decode cX7_step 301 = .ok (.iconst 2, 1) := by decide +kernel
theorem dX7_step_302 : decode cX7_step 302 = .ok (.invokestatic 125, 3) := by decide +kernel
theorem dX7_step_305 : decode cX7_step 305 = .ok (.ifCond .eq 7, 3) := by decide +kernel
theorem dX7_step_308 : decode cX7_step 308 = .ok (.iconst 1, 1) := by decide +kernel
theorem dX7_step_309 : decode cX7_step 309 = .ok (.goto 4, 3) := by decide +kernel
theorem dX7_step_312 : decode cX7_step 312 = .ok (.iconst 0, 1) := by decide +kernel
theorem dX7_step_313 : decode cX7_step 313 = .ok (.putfield 182, 3) := by decide +kernel
theorem dX7_step_316 : decode cX7_step 316 = .ok (.aload_n 0, 1) := by decide +kernel
theorem dX7_step_317 : decode cX7_step 317 = .ok (.iload 7, 2) := by decide +kernel
theorem dX7_step_319 : decode cX7_step 319 = .ok (.ifCond .le 17, 3) := by decide +kernel
theorem dX7_step_322 : decode cX7_step 322 = .ok (.aload_n 0, 1) := by decide +kernel
theorem dX7_step_323 : decode cX7_step 323 = .ok (.getfield 83, 3) := by decide +kernel
theorem dX7_step_326 : decode cX7_step 326 = .ok (.ifCond .ge 10, 3) := by decide +kernel
theorem dX7_step_329 : decode cX7_step 329 = .ok (.aload_n 0, 1) := by decide +kernel
theorem dX7_step_330 : decode cX7_step 330 = .ok (.getfield 179, 3) := by decide +kernel
theorem dX7_step_333 : decode cX7_step 333 = .ok (.goto 7, 3) := by decide +kernel
theorem dX7_step_336 : decode cX7_step 336 = .ok (.aload_n 0, 1) := by decide +kernel
theorem dX7_step_337 : decode cX7_step 337 = .ok (.getfield 83, 3) := by decide +kernel
theorem dX7_step_340 : decode cX7_step 340 = .ok (.putfield 83, 3) := by decide +kernel
theorem dX7_step_343 : decode cX7_step 343 = .ok (.aload_n 0, 1) := by decide +kernel
theorem dX7_step_344 : decode cX7_step 344 = .ok (.getfield 80, 3) := by decide +kernel
theorem dX7_step_347 : decode cX7_step 347 = .ok (.iconst 0, 1) := by decide +kernel
theorem dX7_step_348 : decode cX7_step 348 = .ok (.dup2, 1) := by decide +kernel
theorem dX7_step_349 : decode cX7_step 349 = .ok (.laload, 1) := by decide +kernel
theorem dX7_step_350 : decode cX7_step 350 = .ok (.iload_n 1, 1) := by decide +kernel
theorem dX7_step_351 : decode cX7_step 351 = .ok (.i2l, 1) := by decide +kernel
theorem dX7_step_352 : decode cX7_step 352 = .ok (.ladd, 1) := by decide +kernel
theorem dX7_step_353 : decode cX7_step 353 = .ok (.lastore, 1) := by decide +kernel
theorem dX7_step_354 : decode cX7_step 354 = .ok (.aload_n 0, 1) := by decide +kernel
theorem dX7_step_355 : decode cX7_step 355 = .ok (.getfield 80, 3) := by decide +kernel
theorem dX7_step_358 : decode cX7_step 358 = .ok (.iconst 1, 1) := by decide +kernel
theorem dX7_step_359 : decode cX7_step 359 = .ok (.dup2, 1) := by decide +kernel
theorem dX7_step_360 : decode cX7_step 360 = .ok (.laload, 1) := by decide +kernel
theorem dX7_step_361 : decode cX7_step 361 = .ok (.iload 4, 2) := by decide +kernel
theorem dX7_step_363 : decode cX7_step 363 = .ok (.i2l, 1) := by decide +kernel
theorem dX7_step_364 : decode cX7_step 364 = .ok (.ladd, 1) := by decide +kernel
theorem dX7_step_365 : decode cX7_step 365 = .ok (.lastore, 1) := by decide +kernel
theorem dX7_step_366 : decode cX7_step 366 = .ok (.aload_n 0, 1) := by decide +kernel
theorem dX7_step_367 : decode cX7_step 367 = .ok (.getfield 80, 3) := by decide +kernel
theorem dX7_step_370 : decode cX7_step 370 = .ok (.iconst 2, 1) := by decide +kernel
theorem dX7_step_371 : decode cX7_step 371 = .ok (.dup2, 1) := by decide +kernel
theorem dX7_step_372 : decode cX7_step 372 = .ok (.laload, 1) := by decide +kernel
theorem dX7_step_373 : decode cX7_step 373 = .ok (.aload_n 0, 1) := by decide +kernel
theorem dX7_step_374 : decode cX7_step 374 = .ok (.getfield 77, 3) := by decide +kernel
theorem dX7_step_377 : decode cX7_step 377 = .ok (.iconst 0, 1) := by decide +kernel
theorem dX7_step_378 : decode cX7_step 378 = .ok (.iaload, 1) := by decide +kernel
theorem dX7_step_379 : decode cX7_step 379 = .ok (.i2l, 1) := by decide +kernel
theorem dX7_step_380 : decode cX7_step 380 = .ok (.ladd, 1) := by decide +kernel
theorem dX7_step_381 : decode cX7_step 381 = .ok (.lastore, 1) := by decide +kernel
theorem dX7_step_382 : decode cX7_step 382 = .ok (.aload_n 0, 1) := by decide +kernel
theorem dX7_step_383 : decode cX7_step 383 = .ok (.getfield 80, 3) := by decide +kernel
theorem dX7_step_386 : decode cX7_step 386 = .ok (.iconst 3, 1) := by decide +kernel
theorem dX7_step_387 : decode cX7_step 387 = .ok (.dup2, 1) := by decide +kernel
theorem dX7_step_388 : decode cX7_step 388 = .ok (.laload, 1) := by decide +kernel
theorem dX7_step_389 : decode cX7_step 389 = .ok (.aload_n 0, 1) := by decide +kernel
theorem dX7_step_390 : decode cX7_step 390 = .ok (.getfield 77, 3) := by decide +kernel
theorem dX7_step_393 : decode cX7_step 393 = .ok (.iconst 1, 1) := by decide +kernel
theorem dX7_step_394 : decode cX7_step 394 = .ok (.iaload, 1) := by decide +kernel
theorem dX7_step_395 : decode cX7_step 395 = .ok (.i2l, 1) := by decide +kernel
theorem dX7_step_396 : decode cX7_step 396 = .ok (.ladd, 1) := by decide +kernel
theorem dX7_step_397 : decode cX7_step 397 = .ok (.lastore, 1) := by decide +kernel
theorem dX7_step_398 : decode cX7_step 398 = .ok (.aload_n 0, 1) := by decide +kernel
theorem dX7_step_399 : decode cX7_step 399 = .ok (.getfield 80, 3) := by decide +kernel
theorem dX7_step_402 : decode cX7_step 402 = .ok (.iconst 4, 1) := by decide +kernel
theorem dX7_step_403 : decode cX7_step 403 = .ok (.dup2, 1) := by decide +kernel
theorem dX7_step_404 : decode cX7_step 404 = .ok (.laload, 1) := by decide +kernel
theorem dX7_step_405 : decode cX7_step 405 = .ok (.iload 6, 2) := by decide +kernel
theorem dX7_step_407 : decode cX7_step 407 = .ok (.i2l, 1) := by decide +kernel
theorem dX7_step_408 : decode cX7_step 408 = .ok (.ladd, 1) := by decide +kernel
theorem dX7_step_409 : decode cX7_step 409 = .ok (.lastore, 1) := by decide +kernel
theorem dX7_step_410 : decode cX7_step 410 = .ok (.aload_n 0, 1) := by decide +kernel
theorem dX7_step_411 : decode cX7_step 411 = .ok (.dup, 1) := by decide +kernel
theorem dX7_step_412 : decode cX7_step 412 = .ok (.getfield 179, 3) := by decide +kernel
theorem dX7_step_415 : decode cX7_step 415 = .ok (.iconst 1, 1) := by decide +kernel
theorem dX7_step_416 : decode cX7_step 416 = .ok (.iadd, 1) := by decide +kernel
theorem dX7_step_417 : decode cX7_step 417 = .ok (.putfield 179, 3) := by decide +kernel
theorem dX7_step_420 : decode cX7_step 420 = .ok (.aload_n 0, 1) := by decide +kernel
theorem dX7_step_421 : decode cX7_step 421 = .ok (.getfield 77, 3) := by decide +kernel
theorem dX7_step_424 : decode cX7_step 424 = .ok (.iconst 4, 1) := by decide +kernel
theorem dX7_step_425 : decode cX7_step 425 = .ok (.iaload, 1) := by decide +kernel
theorem dX7_step_426 : decode cX7_step 426 = .ok (.ireturn, 1) := by decide +kernel
theorem dX7_start_0 : decode cX7_start 0 = .ok (.aload_n 0, 1) := by decide +kernel
theorem dX7_start_1 : decode cX7_start 1 = .ok (.getfield 182, 3) := by decide +kernel
theorem dX7_start_4 : decode cX7_start 4 = .ok (.ifCond .ne 5, 3) := by decide +kernel
theorem dX7_start_7 : decode cX7_start 7 = .ok (.iconst 0, 1) := by decide +kernel
theorem dX7_start_8 : decode cX7_start 8 = .ok (.ireturn, 1) := by decide +kernel
theorem dX7_start_9 : decode cX7_start 9 = .ok (.aload_n 0, 1) := by decide +kernel
theorem dX7_start_10 : decode cX7_start 10 = .ok (.iconst 0, 1) := by decide +kernel
theorem dX7_start_11 : decode cX7_start 11 = .ok (.putfield 182, 3) := by decide +kernel
theorem dX7_start_14 : decode cX7_start 14 = .ok (.aload_n 0, 1) := by decide +kernel
theorem dX7_start_15 : decode cX7_start 15 = .ok (.bipush (-9), 2) := by decide +kernel
theorem dX7_start_17 : decode cX7_start 17 = .ok (.putfield 83, 3) := by decide +kernel
theorem dX7_start_20 : decode cX7_start 20 = .ok (.iconst 1, 1) := by decide +kernel
theorem dX7_start_21 : decode cX7_start 21 = .ok (.ireturn, 1) := by decide +kernel
theorem dX7_zone_0 : decode cX7_zone 0 = .ok (.iload_n 1, 1) := by decide +kernel
theorem dX7_zone_1 : decode cX7_zone 1 = .ok (.iconst 0, 1) := by decide +kernel
theorem dX7_zone_2 : decode cX7_zone 2 = .ok (.iconst 3, 1) := by decide +kernel
theorem dX7_zone_3 : decode cX7_zone 3 = .ok (.invokestatic 125, 3) := by decide +kernel
theorem dX7_zone_6 : decode cX7_zone 6 = .ok (.ifCond .eq 12, 3) := by decide +kernel
theorem dX7_zone_9 : decode cX7_zone 9 = .ok (.iload_n 2, 1) := by decide +kernel
theorem dX7_zone_10 : decode cX7_zone 10 = .ok (.iconst 0, 1) := by decide +kernel
theorem dX7_zone_11 : decode cX7_zone 11 = .ok (.iconst 2, 1) := by decide +kernel
theorem dX7_zone_12 : decode cX7_zone 12 = .ok (.invokestatic 125, 3) := by decide +kernel
theorem dX7_zone_15 : decode cX7_zone 15 = .ok (.ifCond .ne 7, 3) := by decide +kernel
theorem dX7_zone_18 : decode cX7_zone 18 = .ok (.iconst (-1), 1) := by decide +kernel
theorem dX7_zone_19 : decode cX7_zone 19 = .ok (.goto 34, 3) := by decide +kernel
theorem dX7_zone_22 : decode cX7_zone 22 = .ok (.iload_n 2, 1) := by decide +kernel
theorem dX7_zone_23 : decode cX7_zone 23 = .ok (.ifCond .ne 12, 3) := by decide +kernel
theorem dX7_zone_26 : decode cX7_zone 26 = .ok (.aload_n 0, 1) := by decide +kernel
theorem dX7_zone_27 : decode cX7_zone 27 = .ok (.getfield 65, 3) := by decide +kernel
theorem dX7_zone_30 : decode cX7_zone 30 = .ok (.iload_n 1, 1) := by decide +kernel
theorem dX7_zone_31 : decode cX7_zone 31 = .ok (.iaload, 1) := by decide +kernel
theorem dX7_zone_32 : decode cX7_zone 32 = .ok (.goto 21, 3) := by decide +kernel
theorem dX7_zone_35 : decode cX7_zone 35 = .ok (.iload_n 2, 1) := by decide +kernel
theorem dX7_zone_36 : decode cX7_zone 36 = .ok (.iconst 1, 1) := by decide +kernel
theorem dX7_zone_37 : decode cX7_zone 37 = .ok (.if_icmp .ne 12, 3) := by decide +kernel
theorem dX7_zone_40 : decode cX7_zone 40 = .ok (.aload_n 0, 1) := by decide +kernel
theorem dX7_zone_41 : decode cX7_zone 41 = .ok (.getfield 68, 3) := by decide +kernel
theorem dX7_zone_44 : decode cX7_zone 44 = .ok (.iload_n 1, 1) := by decide +kernel
theorem dX7_zone_45 : decode cX7_zone 45 = .ok (.iaload, 1) := by decide +kernel
theorem dX7_zone_46 : decode cX7_zone 46 = .ok (.goto 7, 3) := by decide +kernel
theorem dX7_zone_49 : decode cX7_zone 49 = .ok (.iload_n 1, 1) := by decide +kernel
theorem dX7_zone_50 : decode cX7_zone 50 = .ok (.invokestatic 172, 3) := by decide +kernel
theorem dX7_zone_53 : decode cX7_zone 53 = .ok (.ireturn, 1) := by decide +kernel
theorem dX7_warmth_0 : decode cX7_warmth 0 = .ok (.iload_n 1, 1) := by decide +kernel
theorem dX7_warmth_1 : decode cX7_warmth 1 = .ok (.iconst 0, 1) := by decide +kernel
theorem dX7_warmth_2 : decode cX7_warmth 2 = .ok (.iconst 3, 1) := by decide +kernel
theorem dX7_warmth_3 : decode cX7_warmth 3 = .ok (.invokestatic 125, 3) := by decide +kernel
theorem dX7_warmth_6 : decode cX7_warmth 6 = .ok (.ifCond .eq 12, 3) := by decide +kernel
theorem dX7_warmth_9 : decode cX7_warmth 9 = .ok (.iload_n 2, 1) := by decide +kernel
theorem dX7_warmth_10 : decode cX7_warmth 10 = .ok (.iconst 0, 1) := by decide +kernel
theorem dX7_warmth_11 : decode cX7_warmth 11 = .ok (.iconst 2, 1) := by decide +kernel
theorem dX7_warmth_12 : decode cX7_warmth 12 = .ok (.invokestatic 125, 3) := by decide +kernel
theorem dX7_warmth_15 : decode cX7_warmth 15 = .ok (.ifCond .ne 5, 3) := by decide +kernel
theorem dX7_warmth_18 : decode cX7_warmth 18 = .ok (.iconst (-1), 1) := by decide +kernel
theorem dX7_warmth_19 : decode cX7_warmth 19 = .ok (.ireturn, 1) := by decide +kernel
theorem dX7_warmth_20 : decode cX7_warmth 20 = .ok (.iload_n 2, 1) := by decide +kernel
theorem dX7_warmth_21 : decode cX7_warmth 21 = .ok (.ifCond .eq 17, 3) := by decide +kernel
theorem dX7_warmth_24 : decode cX7_warmth 24 = .ok (.iload_n 2, 1) := by decide +kernel
theorem dX7_warmth_25 : decode cX7_warmth 25 = .ok (.iload_n 1, 1) := by decide +kernel
theorem dX7_warmth_26 : decode cX7_warmth 26 = .ok (.invokestatic 172, 3) := by decide +kernel
theorem dX7_warmth_29 : decode cX7_warmth 29 = .ok (.if_icmp .eq 9, 3) := by decide +kernel
theorem dX7_warmth_32 : decode cX7_warmth 32 = .ok (.aload_n 0, 1) := by decide +kernel
theorem dX7_warmth_33 : decode cX7_warmth 33 = .ok (.iconst 3, 1) := by decide +kernel
theorem dX7_warmth_34 : decode cX7_warmth 34 = .ok (.invokevirtual 151, 3) := by decide +kernel
theorem dX7_warmth_37 : decode cX7_warmth 37 = .ok (.ireturn, 1) := by decide +kernel
theorem dX7_warmth_38 : decode cX7_warmth 38 = .ok (.aload_n 0, 1) := by decide +kernel
theorem dX7_warmth_39 : decode cX7_warmth 39 = .ok (.getfield 65, 3) := by decide +kernel
theorem dX7_warmth_42 : decode cX7_warmth 42 = .ok (.iload_n 1, 1) := by decide +kernel
theorem dX7_warmth_43 : decode cX7_warmth 43 = .ok (.iaload, 1) := by decide +kernel
theorem dX7_warmth_44 : decode cX7_warmth 44 = .ok (.ifCond .ne 11, 3) := by decide +kernel
theorem dX7_warmth_47 : decode cX7_warmth 47 = .ok (.aload_n 0, 1) := by decide +kernel
theorem dX7_warmth_48 : decode cX7_warmth 48 = .ok (.iconst 4, 1) := by decide +kernel
theorem dX7_warmth_49 : decode cX7_warmth 49 = .ok (.invokevirtual 151, 3) := by decide +kernel
theorem dX7_warmth_52 : decode cX7_warmth 52 = .ok (.goto 16, 3) := by decide +kernel
theorem dX7_warmth_55 : decode cX7_warmth 55 = .ok (.aload_n 0, 1) := by decide +kernel
theorem dX7_warmth_56 : decode cX7_warmth 56 = .ok (.getfield 68, 3) := by decide +kernel
theorem dX7_warmth_59 : decode cX7_warmth 59 = .ok (.iload_n 1, 1) := by decide +kernel
theorem dX7_warmth_60 : decode cX7_warmth 60 = .ok (.iaload, 1) := by decide +kernel
theorem dX7_warmth_61 : decode cX7_warmth 61 = .ok (.aload_n 0, 1) := by decide +kernel
theorem dX7_warmth_62 : decode cX7_warmth 62 = .ok (.getfield 65, 3) := by decide +kernel
theorem dX7_warmth_65 : decode cX7_warmth 65 = .ok (.iload_n 1, 1) := by decide +kernel
theorem dX7_warmth_66 : decode cX7_warmth 66 = .ok (.iaload, 1) := by decide +kernel
theorem dX7_warmth_67 : decode cX7_warmth 67 = .ok (.idiv, 1) := by decide +kernel
theorem dX7_warmth_68 : decode cX7_warmth 68 = .ok (.ireturn, 1) := by decide +kernel
theorem dX7_out_0 : decode cX7_out 0 = .ok (.iload_n 1, 1) := by decide +kernel
theorem dX7_out_1 : decode cX7_out 1 = .ok (.iconst 0, 1) := by decide +kernel
theorem dX7_out_2 : decode cX7_out 2 = .ok (.bipush 6, 2) := by decide +kernel
theorem dX7_out_4 : decode cX7_out 4 = .ok (.invokestatic 125, 3) := by decide +kernel
theorem dX7_out_7 : decode cX7_out 7 = .ok (.ifCond .ne 7, 3) := by decide +kernel
theorem dX7_out_10 : decode cX7_out 10 = .ok (.iconst (-1), 1) := by decide +kernel
theorem dX7_out_11 : decode cX7_out 11 = .ok (.goto 21, 3) := by decide +kernel
theorem dX7_out_14 : decode cX7_out 14 = .ok (.aload_n 0, 1) := by decide +kernel
end
section
theorem dX7_out_15 : decode cX7_out 15 = .ok (.getfield 179, 3) := by decide +kernel
theorem dX7_out_18 : decode cX7_out 18 = .ok (.ifCond .ne 8, 3) := by decide +kernel
theorem dX7_out_21 : decode cX7_out 21 = .ok (.bipush (-9), 2) := by decide +kernel
theorem dX7_out_23 : decode cX7_out 23 = .ok (.goto 9, 3) := by decide +kernel
theorem dX7_out_26 : decode cX7_out 26 = .ok (.aload_n 0, 1) := by decide +kernel
theorem dX7_out_27 : decode cX7_out 27 = .ok (.getfield 77, 3) := by decide +kernel
theorem dX7_out_30 : decode cX7_out 30 = .ok (.iload_n 1, 1) := by decide +kernel
theorem dX7_out_31 : decode cX7_out 31 = .ok (.iaload, 1) := by decide +kernel
theorem dX7_out_32 : decode cX7_out 32 = .ok (.ireturn, 1) := by decide +kernel
theorem dX7_sum_0 : decode cX7_sum 0 = .ok (.iload_n 1, 1) := by decide +kernel
theorem dX7_sum_1 : decode cX7_sum 1 = .ok (.iconst 0, 1) := by decide +kernel
theorem dX7_sum_2 : decode cX7_sum 2 = .ok (.iconst 4, 1) := by decide +kernel
theorem dX7_sum_3 : decode cX7_sum 3 = .ok (.invokestatic 125, 3) := by decide +kernel
theorem dX7_sum_6 : decode cX7_sum 6 = .ok (.ifCond .eq 17, 3) := by decide +kernel
theorem dX7_sum_9 : decode cX7_sum 9 = .ok (.aload_n 0, 1) := by decide +kernel
theorem dX7_sum_10 : decode cX7_sum 10 = .ok (.aload_n 0, 1) := by decide +kernel
theorem dX7_sum_11 : decode cX7_sum 11 = .ok (.getfield 80, 3) := by decide +kernel
theorem dX7_sum_14 : decode cX7_sum 14 = .ok (.iload_n 1, 1) := by decide +kernel
theorem dX7_sum_15 : decode cX7_sum 15 = .ok (.laload, 1) := by decide +kernel
theorem dX7_sum_16 : decode cX7_sum 16 = .ok (.iconst 1, 1) := by decide +kernel
theorem dX7_sum_17 : decode cX7_sum 17 = .ok (.invokevirtual 200, 3) := by decide +kernel
theorem dX7_sum_20 : decode cX7_sum 20 = .ok (.goto 4, 3) := by decide +kernel
theorem dX7_sum_23 : decode cX7_sum 23 = .ok (.iconst (-1), 1) := by decide +kernel
theorem dX7_sum_24 : decode cX7_sum 24 = .ok (.ireturn, 1) := by decide +kernel
theorem dX7_first_0 : decode cX7_first 0 = .ok (.aload_n 0, 1) := by decide +kernel
theorem dX7_first_1 : decode cX7_first 1 = .ok (.getfield 83, 3) := by decide +kernel
theorem dX7_first_4 : decode cX7_first 4 = .ok (.ireturn, 1) := by decide +kernel
theorem dX7_addLot_0 : decode cX7_addLot 0 = .ok (.aload_n 0, 1) := by decide +kernel
theorem dX7_addLot_1 : decode cX7_addLot 1 = .ok (.getfield 86, 3) := by decide +kernel
theorem dX7_addLot_4 : decode cX7_addLot 4 = .ok (.aload_n 0, 1) := by decide +kernel
theorem dX7_addLot_5 : decode cX7_addLot 5 = .ok (.getfield 204, 3) := by decide +kernel
theorem dX7_addLot_8 : decode cX7_addLot 8 = .ok (.iload_n 1, 1) := by decide +kernel
theorem dX7_addLot_9 : decode cX7_addLot 9 = .ok (.iastore, 1) := by decide +kernel
theorem dX7_addLot_10 : decode cX7_addLot 10 = .ok (.aload_n 0, 1) := by decide +kernel
theorem dX7_addLot_11 : decode cX7_addLot 11 = .ok (.getfield 89, 3) := by decide +kernel
theorem dX7_addLot_14 : decode cX7_addLot 14 = .ok (.aload_n 0, 1) := by decide +kernel
theorem dX7_addLot_15 : decode cX7_addLot 15 = .ok (.getfield 204, 3) := by decide +kernel
theorem dX7_addLot_18 : decode cX7_addLot 18 = .ok (.aload_n 0, 1) := by decide +kernel
theorem dX7_addLot_19 : decode cX7_addLot 19 = .ok (.getfield 179, 3) := by decide +kernel
theorem dX7_addLot_22 : decode cX7_addLot 22 = .ok (.iastore, 1) := by decide +kernel
theorem dX7_addLot_23 : decode cX7_addLot 23 = .ok (.aload_n 0, 1) := by decide +kernel
theorem dX7_addLot_24 : decode cX7_addLot 24 = .ok (.getfield 92, 3) := by decide +kernel
theorem dX7_addLot_27 : decode cX7_addLot 27 = .ok (.aload_n 0, 1) := by decide +kernel
theorem dX7_addLot_28 : decode cX7_addLot 28 = .ok (.getfield 204, 3) := by decide +kernel
theorem dX7_addLot_31 : decode cX7_addLot 31 = .ok (.iload_n 2, 1) := by decide +kernel
theorem dX7_addLot_32 : decode cX7_addLot 32 = .ok (.iastore, 1) := by decide +kernel
theorem dX7_addLot_33 : decode cX7_addLot 33 = .ok (.aload_n 0, 1) := by decide +kernel
theorem dX7_addLot_34 : decode cX7_addLot 34 = .ok (.dup, 1) := by decide +kernel
theorem dX7_addLot_35 : decode cX7_addLot 35 = .ok (.getfield 204, 3) := by decide +kernel
theorem dX7_addLot_38 : decode cX7_addLot 38 = .ok (.iconst 1, 1) := by decide +kernel
theorem dX7_addLot_39 : decode cX7_addLot 39 = .ok (.iadd, 1) := by decide +kernel
theorem dX7_addLot_40 : decode cX7_addLot 40 = .ok (.putfield 204, 3) := by decide +kernel
theorem dX7_addLot_43 : decode cX7_addLot 43 = .ok (.return_, 1) := by decide +kernel
theorem dX7_inSilo_0 : decode cX7_inSilo 0 = .ok (.iconst 0, 1) := by decide +kernel
theorem dX7_inSilo_1 : decode cX7_inSilo 1 = .ok (.istore_n 3, 1) := by decide +kernel
theorem dX7_inSilo_2 : decode cX7_inSilo 2 = .ok (.iconst 0, 1) := by decide +kernel
theorem dX7_inSilo_3 : decode cX7_inSilo 3 = .ok (.istore 4, 2) := by decide +kernel
theorem dX7_inSilo_5 : decode cX7_inSilo 5 = .ok (.iload 4, 2) := by decide +kernel
theorem dX7_inSilo_7 : decode cX7_inSilo 7 = .ok (.aload_n 0, 1) := by decide +kernel
theorem dX7_inSilo_8 : decode cX7_inSilo 8 = .ok (.getfield 204, 3) := by decide +kernel
theorem dX7_inSilo_11 : decode cX7_inSilo 11 = .ok (.if_icmp .ge 52, 3) := by decide +kernel
theorem dX7_inSilo_14 : decode cX7_inSilo 14 = .ok (.iload_n 3, 1) := by decide +kernel
theorem dX7_inSilo_15 : decode cX7_inSilo 15 = .ok (.aload_n 0, 1) := by decide +kernel
theorem dX7_inSilo_16 : decode cX7_inSilo 16 = .ok (.getfield 86, 3) := by decide +kernel
theorem dX7_inSilo_19 : decode cX7_inSilo 19 = .ok (.iload 4, 2) := by decide +kernel
theorem dX7_inSilo_21 : decode cX7_inSilo 21 = .ok (.iaload, 1) := by decide +kernel
theorem dX7_inSilo_22 : decode cX7_inSilo 22 = .ok (.iload_n 1, 1) := by decide +kernel
theorem dX7_inSilo_23 : decode cX7_inSilo 23 = .ok (.if_icmp .ne 13, 3) := by decide +kernel
theorem dX7_inSilo_26 : decode cX7_inSilo 26 = .ok (.aload_n 0, 1) := by decide +kernel
theorem dX7_inSilo_27 : decode cX7_inSilo 27 = .ok (.getfield 92, 3) := by decide +kernel
theorem dX7_inSilo_30 : decode cX7_inSilo 30 = .ok (.iload 4, 2) := by decide +kernel
theorem dX7_inSilo_32 : decode cX7_inSilo 32 = .ok (.iaload, 1) := by decide +kernel
theorem dX7_inSilo_33 : decode cX7_inSilo 33 = .ok (.ifCond .ne 7, 3) := by decide +kernel
theorem dX7_inSilo_36 : decode cX7_inSilo 36 = .ok (.iconst 0, 1) := by decide +kernel
theorem dX7_inSilo_37 : decode cX7_inSilo 37 = .ok (.goto 18, 3) := by decide +kernel
theorem dX7_inSilo_40 : decode cX7_inSilo 40 = .ok (.iload_n 2, 1) := by decide +kernel
theorem dX7_inSilo_41 : decode cX7_inSilo 41 = .ok (.ifCond .eq 7, 3) := by decide +kernel
theorem dX7_inSilo_44 : decode cX7_inSilo 44 = .ok (.iconst 1, 1) := by decide +kernel
theorem dX7_inSilo_45 : decode cX7_inSilo 45 = .ok (.goto 10, 3) := by decide +kernel
theorem dX7_inSilo_48 : decode cX7_inSilo 48 = .ok (.aload_n 0, 1) := by decide +kernel
theorem dX7_inSilo_49 : decode cX7_inSilo 49 = .ok (.getfield 92, 3) := by decide +kernel
theorem dX7_inSilo_52 : decode cX7_inSilo 52 = .ok (.iload 4, 2) := by decide +kernel
theorem dX7_inSilo_54 : decode cX7_inSilo 54 = .ok (.iaload, 1) := by decide +kernel
theorem dX7_inSilo_55 : decode cX7_inSilo 55 = .ok (.iadd, 1) := by decide +kernel
theorem dX7_inSilo_56 : decode cX7_inSilo 56 = .ok (.istore_n 3, 1) := by decide +kernel
theorem dX7_inSilo_57 : decode cX7_inSilo 57 = .ok (.iinc 4 1, 3) := by decide +kernel
theorem dX7_inSilo_60 : decode cX7_inSilo 60 = .ok (.goto (-55), 3) := by decide +kernel
theorem dX7_inSilo_63 : decode cX7_inSilo 63 = .ok (.iload_n 3, 1) := by decide +kernel
theorem dX7_inSilo_64 : decode cX7_inSilo 64 = .ok (.ireturn, 1) := by decide +kernel
theorem dX7_silo_0 : decode cX7_silo 0 = .ok (.iload_n 1, 1) := by decide +kernel
theorem dX7_silo_1 : decode cX7_silo 1 = .ok (.iconst 0, 1) := by decide +kernel
theorem dX7_silo_2 : decode cX7_silo 2 = .ok (.iconst 2, 1) := by decide +kernel
theorem dX7_silo_3 : decode cX7_silo 3 = .ok (.invokestatic 125, 3) := by decide +kernel
theorem dX7_silo_6 : decode cX7_silo 6 = .ok (.ifCond .eq 12, 3) := by decide +kernel
theorem dX7_silo_9 : decode cX7_silo 9 = .ok (.iload_n 2, 1) := by decide +kernel
theorem dX7_silo_10 : decode cX7_silo 10 = .ok (.iconst 0, 1) := by decide +kernel
theorem dX7_silo_11 : decode cX7_silo 11 = .ok (.iconst 1, 1) := by decide +kernel
theorem dX7_silo_12 : decode cX7_silo 12 = .ok (.invokestatic 125, 3) := by decide +kernel
theorem dX7_silo_15 : decode cX7_silo 15 = .ok (.ifCond .ne 7, 3) := by decide +kernel
theorem dX7_silo_18 : decode cX7_silo 18 = .ok (.iconst (-1), 1) := by decide +kernel
theorem dX7_silo_19 : decode cX7_silo 19 = .ok (.goto 18, 3) := by decide +kernel
theorem dX7_silo_22 : decode cX7_silo 22 = .ok (.aload_n 0, 1) := by decide +kernel
theorem dX7_silo_23 : decode cX7_silo 23 = .ok (.iload_n 1, 1) := by decide +kernel
theorem dX7_silo_24 : decode cX7_silo 24 = .ok (.iload_n 2, 1) := by decide +kernel
theorem dX7_silo_25 : decode cX7_silo 25 = .ok (.iconst 1, 1) := by decide +kernel
theorem dX7_silo_26 : decode cX7_silo 26 = .ok (.if_icmp .ne 7, 3) := by decide +kernel
theorem dX7_silo_29 : decode cX7_silo 29 = .ok (.iconst 1, 1) := by decide +kernel
theorem dX7_silo_30 : decode cX7_silo 30 = .ok (.goto 4, 3) := by decide +kernel
theorem dX7_silo_33 : decode cX7_silo 33 = .ok (.iconst 0, 1) := by decide +kernel
theorem dX7_silo_34 : decode cX7_silo 34 = .ok (.invokevirtual 207, 3) := by decide +kernel
theorem dX7_silo_37 : decode cX7_silo 37 = .ok (.ireturn, 1) := by decide +kernel
theorem dX7_bag_0 : decode cX7_bag 0 = .ok (.iload_n 1, 1) := by decide +kernel
theorem dX7_bag_1 : decode cX7_bag 1 = .ok (.iconst 0, 1) := by decide +kernel
theorem dX7_bag_2 : decode cX7_bag 2 = .ok (.iconst 2, 1) := by decide +kernel
theorem dX7_bag_3 : decode cX7_bag 3 = .ok (.invokestatic 125, 3) := by decide +kernel
theorem dX7_bag_6 : decode cX7_bag 6 = .ok (.ifCond .eq 14, 3) := by decide +kernel
theorem dX7_bag_9 : decode cX7_bag 9 = .ok (.iload_n 2, 1) := by decide +kernel
theorem dX7_bag_10 : decode cX7_bag 10 = .ok (.iconst 1, 1) := by decide +kernel
theorem dX7_bag_11 : decode cX7_bag 11 = .ok (.sipush 10000, 3) := by decide +kernel
theorem dX7_bag_14 : decode cX7_bag 14 = .ok (.invokestatic 125, 3) := by decide +kernel
theorem dX7_bag_17 : decode cX7_bag 17 = .ok (.ifCond .ne 5, 3) := by decide +kernel
theorem dX7_bag_20 : decode cX7_bag 20 = .ok (.iconst (-1), 1) := by decide +kernel
theorem dX7_bag_21 : decode cX7_bag 21 = .ok (.ireturn, 1) := by decide +kernel
theorem dX7_bag_22 : decode cX7_bag 22 = .ok (.aload_n 0, 1) := by decide +kernel
theorem dX7_bag_23 : decode cX7_bag 23 = .ok (.iload_n 1, 1) := by decide +kernel
theorem dX7_bag_24 : decode cX7_bag 24 = .ok (.iconst 0, 1) := by decide +kernel
theorem dX7_bag_25 : decode cX7_bag 25 = .ok (.invokevirtual 207, 3) := by decide +kernel
theorem dX7_bag_28 : decode cX7_bag 28 = .ok (.iload_n 2, 1) := by decide +kernel
theorem dX7_bag_29 : decode cX7_bag 29 = .ok (.if_icmp .ge 6, 3) := by decide +kernel
theorem dX7_bag_32 : decode cX7_bag 32 = .ok (.bipush (-4), 2) := by decide +kernel
theorem dX7_bag_34 : decode cX7_bag 34 = .ok (.ireturn, 1) := by decide +kernel
theorem dX7_bag_35 : decode cX7_bag 35 = .ok (.aload_n 0, 1) := by decide +kernel
theorem dX7_bag_36 : decode cX7_bag 36 = .ok (.iconst 0, 1) := by decide +kernel
theorem dX7_bag_37 : decode cX7_bag 37 = .ok (.putfield 211, 3) := by decide +kernel
theorem dX7_bag_40 : decode cX7_bag 40 = .ok (.iload_n 2, 1) := by decide +kernel
theorem dX7_bag_41 : decode cX7_bag 41 = .ok (.istore_n 3, 1) := by decide +kernel
theorem dX7_bag_42 : decode cX7_bag 42 = .ok (.iconst 0, 1) := by decide +kernel
theorem dX7_bag_43 : decode cX7_bag 43 = .ok (.istore 4, 2) := by decide +kernel
theorem dX7_bag_45 : decode cX7_bag 45 = .ok (.iload_n 3, 1) := by decide +kernel
theorem dX7_bag_46 : decode cX7_bag 46 = .ok (.ifCond .le 108, 3) := by decide +kernel
theorem dX7_bag_49 : decode cX7_bag 49 = .ok (.aload_n 0, 1) := by decide +kernel
theorem dX7_bag_50 : decode cX7_bag 50 = .ok (.getfield 86, 3) := by decide +kernel
theorem dX7_bag_53 : decode cX7_bag 53 = .ok (.iload 4, 2) := by decide +kernel
theorem dX7_bag_55 : decode cX7_bag 55 = .ok (.iaload, 1) := by decide +kernel
theorem dX7_bag_56 : decode cX7_bag 56 = .ok (.iload_n 1, 1) := by decide +kernel
theorem dX7_bag_57 : decode cX7_bag 57 = .ok (.if_icmp .ne 91, 3) := by decide +kernel
theorem dX7_bag_60 : decode cX7_bag 60 = .ok (.aload_n 0, 1) := by decide +kernel
theorem dX7_bag_61 : decode cX7_bag 61 = .ok (.getfield 92, 3) := by decide +kernel
theorem dX7_bag_64 : decode cX7_bag 64 = .ok (.iload 4, 2) := by decide +kernel
theorem dX7_bag_66 : decode cX7_bag 66 = .ok (.iaload, 1) := by decide +kernel
theorem dX7_bag_67 : decode cX7_bag 67 = .ok (.ifCond .le 81, 3) := by decide +kernel
theorem dX7_bag_70 : decode cX7_bag 70 = .ok (.aload_n 0, 1) := by decide +kernel
theorem dX7_bag_71 : decode cX7_bag 71 = .ok (.getfield 92, 3) := by decide +kernel
theorem dX7_bag_74 : decode cX7_bag 74 = .ok (.iload 4, 2) := by decide +kernel
theorem dX7_bag_76 : decode cX7_bag 76 = .ok (.iaload, 1) := by decide +kernel
theorem dX7_bag_77 : decode cX7_bag 77 = .ok (.iload_n 3, 1) := by decide +kernel
theorem dX7_bag_78 : decode cX7_bag 78 = .ok (.if_icmp .ge 13, 3) := by decide +kernel
theorem dX7_bag_81 : decode cX7_bag 81 = .ok (.aload_n 0, 1) := by decide +kernel
theorem dX7_bag_82 : decode cX7_bag 82 = .ok (.getfield 92, 3) := by decide +kernel
theorem dX7_bag_85 : decode cX7_bag 85 = .ok (.iload 4, 2) := by decide +kernel
theorem dX7_bag_87 : decode cX7_bag 87 = .ok (.iaload, 1) := by decide +kernel
theorem dX7_bag_88 : decode cX7_bag 88 = .ok (.goto 4, 3) := by decide +kernel
theorem dX7_bag_91 : decode cX7_bag 91 = .ok (.iload_n 3, 1) := by decide +kernel
theorem dX7_bag_92 : decode cX7_bag 92 = .ok (.istore 5, 2) := by decide +kernel
theorem dX7_bag_94 : decode cX7_bag 94 = .ok (.aload_n 0, 1) := by decide +kernel
theorem dX7_bag_95 : decode cX7_bag 95 = .ok (.getfield 92, 3) := by decide +kernel
theorem dX7_bag_98 : decode cX7_bag 98 = .ok (.iload 4, 2) := by decide +kernel
theorem dX7_bag_100 : decode cX7_bag 100 = .ok (.dup2, 1) := by decide +kernel
theorem dX7_bag_101 : decode cX7_bag 101 = .ok (.iaload, 1) := by decide +kernel
theorem dX7_bag_102 : decode cX7_bag 102 = .ok (.iload 5, 2) := by decide +kernel
theorem dX7_bag_104 : decode cX7_bag 104 = .ok (.isub, 1) := by decide +kernel
theorem dX7_bag_105 : decode cX7_bag 105 = .ok (.iastore, 1) := by decide +kernel
theorem dX7_bag_106 : decode cX7_bag 106 = .ok (.iload_n 3, 1) := by decide +kernel
theorem dX7_bag_107 : decode cX7_bag 107 = .ok (.iload 5, 2) := by decide +kernel
theorem dX7_bag_109 : decode cX7_bag 109 = .ok (.isub, 1) := by decide +kernel
theorem dX7_bag_110 : decode cX7_bag 110 = .ok (.istore_n 3, 1) := by decide +kernel
theorem dX7_bag_111 : decode cX7_bag 111 = .ok (.aload_n 0, 1) := by decide +kernel
theorem dX7_bag_112 : decode cX7_bag 112 = .ok (.getfield 95, 3) := by decide +kernel
theorem dX7_bag_115 : decode cX7_bag 115 = .ok (.aload_n 0, 1) := by decide +kernel
theorem dX7_bag_116 : decode cX7_bag 116 = .ok (.getfield 211, 3) := by decide +kernel
theorem dX7_bag_119 : decode cX7_bag 119 = .ok (.aload_n 0, 1) := by decide +kernel
theorem dX7_bag_120 : decode cX7_bag 120 = .ok (.getfield 89, 3) := by decide +kernel
theorem dX7_bag_123 : decode cX7_bag 123 = .ok (.iload 4, 2) := by decide +kernel
theorem dX7_bag_125 : decode cX7_bag 125 = .ok (.iaload, 1) := by decide +kernel
theorem dX7_bag_126 : decode cX7_bag 126 = .ok (.iastore, 1) := by decide +kernel
theorem dX7_bag_127 : decode cX7_bag 127 = .ok (.aload_n 0, 1) := by decide +kernel
theorem dX7_bag_128 : decode cX7_bag 128 = .ok (.getfield 98, 3) := by decide +kernel
theorem dX7_bag_131 : decode cX7_bag 131 = .ok (.aload_n 0, 1) := by decide +kernel
theorem dX7_bag_132 : decode cX7_bag 132 = .ok (.getfield 211, 3) := by decide +kernel
theorem dX7_bag_135 : decode cX7_bag 135 = .ok (.iload 5, 2) := by decide +kernel
theorem dX7_bag_137 : decode cX7_bag 137 = .ok (.iastore, 1) := by decide +kernel
theorem dX7_bag_138 : decode cX7_bag 138 = .ok (.aload_n 0, 1) := by decide +kernel
theorem dX7_bag_139 : decode cX7_bag 139 = .ok (.dup, 1) := by decide +kernel
theorem dX7_bag_140 : decode cX7_bag 140 = .ok (.getfield 211, 3) := by decide +kernel
theorem dX7_bag_143 : decode cX7_bag 143 = .ok (.iconst 1, 1) := by decide +kernel
theorem dX7_bag_144 : decode cX7_bag 144 = .ok (.iadd, 1) := by decide +kernel
theorem dX7_bag_145 : decode cX7_bag 145 = .ok (.putfield 211, 3) := by decide +kernel
theorem dX7_bag_148 : decode cX7_bag 148 = .ok (.iinc 4 1, 3) := by decide +kernel
theorem dX7_bag_151 : decode cX7_bag 151 = .ok (.goto (-106), 3) := by decide +kernel
theorem dX7_bag_154 : decode cX7_bag 154 = .ok (.aload_n 0, 1) := by decide +kernel
theorem dX7_bag_155 : decode cX7_bag 155 = .ok (.getfield 211, 3) := by decide +kernel
theorem dX7_bag_158 : decode cX7_bag 158 = .ok (.ireturn, 1) := by decide +kernel
theorem dX7_lot_0 : decode cX7_lot 0 = .ok (.iload_n 2, 1) := by decide +kernel
theorem dX7_lot_1 : decode cX7_lot 1 = .ok (.iconst 0, 1) := by decide +kernel
theorem dX7_lot_2 : decode cX7_lot 2 = .ok (.iconst 1, 1) := by decide +kernel
theorem dX7_lot_3 : decode cX7_lot 3 = .ok (.invokestatic 125, 3) := by decide +kernel
theorem dX7_lot_6 : decode cX7_lot 6 = .ok (.ifCond .ne 7, 3) := by decide +kernel
theorem dX7_lot_9 : decode cX7_lot 9 = .ok (.iconst (-1), 1) := by decide +kernel
theorem dX7_lot_10 : decode cX7_lot 10 = .ok (.goto 41, 3) := by decide +kernel
theorem dX7_lot_13 : decode cX7_lot 13 = .ok (.iload_n 1, 1) := by decide +kernel
theorem dX7_lot_14 : decode cX7_lot 14 = .ok (.iconst 0, 1) := by decide +kernel
theorem dX7_lot_15 : decode cX7_lot 15 = .ok (.aload_n 0, 1) := by decide +kernel
theorem dX7_lot_16 : decode cX7_lot 16 = .ok (.getfield 211, 3) := by decide +kernel
theorem dX7_lot_19 : decode cX7_lot 19 = .ok (.iconst 1, 1) := by decide +kernel
theorem dX7_lot_20 : decode cX7_lot 20 = .ok (.isub, 1) := by decide +kernel
theorem dX7_lot_21 : decode cX7_lot 21 = .ok (.invokestatic 125, 3) := by decide +kernel
theorem dX7_lot_24 : decode cX7_lot 24 = .ok (.ifCond .ne 8, 3) := by decide +kernel
theorem dX7_lot_27 : decode cX7_lot 27 = .ok (.bipush (-9), 2) := by decide +kernel
theorem dX7_lot_29 : decode cX7_lot 29 = .ok (.goto 22, 3) := by decide +kernel
theorem dX7_lot_32 : decode cX7_lot 32 = .ok (.iload_n 2, 1) := by decide +kernel
theorem dX7_lot_33 : decode cX7_lot 33 = .ok (.ifCond .ne 12, 3) := by decide +kernel
theorem dX7_lot_36 : decode cX7_lot 36 = .ok (.aload_n 0, 1) := by decide +kernel
theorem dX7_lot_37 : decode cX7_lot 37 = .ok (.getfield 95, 3) := by decide +kernel
theorem dX7_lot_40 : decode cX7_lot 40 = .ok (.iload_n 1, 1) := by decide +kernel
theorem dX7_lot_41 : decode cX7_lot 41 = .ok (.iaload, 1) := by decide +kernel
theorem dX7_lot_42 : decode cX7_lot 42 = .ok (.goto 9, 3) := by decide +kernel
theorem dX7_lot_45 : decode cX7_lot 45 = .ok (.aload_n 0, 1) := by decide +kernel
theorem dX7_lot_46 : decode cX7_lot 46 = .ok (.getfield 98, 3) := by decide +kernel
theorem dX7_lot_49 : decode cX7_lot 49 = .ok (.iload_n 1, 1) := by decide +kernel
theorem dX7_lot_50 : decode cX7_lot 50 = .ok (.iaload, 1) := by decide +kernel
theorem dX7_lot_51 : decode cX7_lot 51 = .ok (.ireturn, 1) := by decide +kernel
theorem dX7_isADay_0 : decode cX7_isADay 0 = .ok (.iload_n 0, 1) := by decide +kernel
theorem dX7_isADay_1 : decode cX7_isADay 1 = .ok (.iconst 0, 1) := by decide +kernel
theorem dX7_isADay_2 : decode cX7_isADay 2 = .ok (.bipush 6, 2) := by decide +kernel
theorem dX7_isADay_4 : decode cX7_isADay 4 = .ok (.invokestatic 125, 3) := by decide +kernel
theorem dX7_isADay_7 : decode cX7_isADay 7 = .ok (.ireturn, 1) := by decide +kernel
theorem dX7_day_0 : decode cX7_day 0 = .ok (.iload_n 1, 1) := by decide +kernel
theorem dX7_day_1 : decode cX7_day 1 = .ok (.invokestatic 214, 3) := by decide +kernel
theorem dX7_day_4 : decode cX7_day 4 = .ok (.ifCond .ne 5, 3) := by decide +kernel
theorem dX7_day_7 : decode cX7_day 7 = .ok (.iconst (-1), 1) := by decide +kernel
theorem dX7_day_8 : decode cX7_day 8 = .ok (.ireturn, 1) := by decide +kernel
theorem dX7_day_9 : decode cX7_day 9 = .ok (.aload_n 0, 1) := by decide +kernel
theorem dX7_day_10 : decode cX7_day 10 = .ok (.getfield 101, 3) := by decide +kernel
theorem dX7_day_13 : decode cX7_day 13 = .ok (.iload_n 1, 1) := by decide +kernel
theorem dX7_day_14 : decode cX7_day 14 = .ok (.baload, 1) := by decide +kernel
theorem dX7_day_15 : decode cX7_day 15 = .ok (.ifCond .eq 7, 3) := by decide +kernel
theorem dX7_day_18 : decode cX7_day 18 = .ok (.iconst 1, 1) := by decide +kernel
theorem dX7_day_19 : decode cX7_day 19 = .ok (.goto 4, 3) := by decide +kernel
theorem dX7_day_22 : decode cX7_day 22 = .ok (.iconst 0, 1) := by decide +kernel
theorem dX7_day_23 : decode cX7_day 23 = .ok (.istore_n 2, 1) := by decide +kernel
theorem dX7_day_24 : decode cX7_day 24 = .ok (.aload_n 0, 1) := by decide +kernel
theorem dX7_day_25 : decode cX7_day 25 = .ok (.getfield 101, 3) := by decide +kernel
theorem dX7_day_28 : decode cX7_day 28 = .ok (.iload_n 1, 1) := by decide +kernel
theorem dX7_day_29 : decode cX7_day 29 = .ok (.iconst 1, 1) := by decide +kernel
theorem dX7_day_30 : decode cX7_day 30 = .ok (.bastore, 1) := by decide +kernel
theorem dX7_day_31 : decode cX7_day 31 = .ok (.iconst 0, 1) := by decide +kernel
theorem dX7_day_32 : decode cX7_day 32 = .ok (.istore_n 3, 1) := by decide +kernel
theorem dX7_day_33 : decode cX7_day 33 = .ok (.iload_n 3, 1) := by decide +kernel
theorem dX7_day_34 : decode cX7_day 34 = .ok (.bipush 24, 2) := by decide +kernel
theorem dX7_day_36 : decode cX7_day 36 = .ok (.if_icmp .ge 21, 3) := by decide +kernel
theorem dX7_day_39 : decode cX7_day 39 = .ok (.aload_n 0, 1) := by decide +kernel
theorem dX7_day_40 : decode cX7_day 40 = .ok (.getfield 104, 3) := by decide +kernel
theorem dX7_day_43 : decode cX7_day 43 = .ok (.bipush 24, 2) := by decide +kernel
theorem dX7_day_45 : decode cX7_day 45 = .ok (.iload_n 1, 1) := by decide +kernel
theorem dX7_day_46 : decode cX7_day 46 = .ok (.imul, 1) := by decide +kernel
theorem dX7_day_47 : decode cX7_day 47 = .ok (.iload_n 3, 1) := by decide +kernel
theorem dX7_day_48 : decode cX7_day 48 = .ok (.iadd, 1) := by decide +kernel
theorem dX7_day_49 : decode cX7_day 49 = .ok (.iconst 0, 1) := by decide +kernel
theorem dX7_day_50 : decode cX7_day 50 = .ok (.iastore, 1) := by decide +kernel
theorem dX7_day_51 : decode cX7_day 51 = .ok (.iinc 3 1, 3) := by decide +kernel
theorem dX7_day_54 : decode cX7_day 54 = .ok (.goto (-21), 3) := by decide +kernel
theorem dX7_day_57 : decode cX7_day 57 = .ok (.iload_n 2, 1) := by decide +kernel
theorem dX7_day_58 : decode cX7_day 58 = .ok (.ireturn, 1) := by decide +kernel
theorem dX7_price_0 : decode cX7_price 0 = .ok (.iload_n 1, 1) := by decide +kernel
theorem dX7_price_1 : decode cX7_price 1 = .ok (.invokestatic 214, 3) := by decide +kernel
theorem dX7_price_4 : decode cX7_price 4 = .ok (.ifCond .eq 14, 3) := by decide +kernel
theorem dX7_price_7 : decode cX7_price 7 = .ok (.iload_n 3, 1) := by decide +kernel
theorem dX7_price_8 : decode cX7_price 8 = .ok (.iconst 0, 1) := by decide +kernel
theorem dX7_price_9 : decode cX7_price 9 = .ok (.sipush 1000, 3) := by decide +kernel
theorem dX7_price_12 : decode cX7_price 12 = .ok (.invokestatic 125, 3) := by decide +kernel
theorem dX7_price_15 : decode cX7_price 15 = .ok (.ifCond .ne 5, 3) := by decide +kernel
theorem dX7_price_18 : decode cX7_price 18 = .ok (.iconst (-1), 1) := by decide +kernel
theorem dX7_price_19 : decode cX7_price 19 = .ok (.ireturn, 1) := by decide +kernel
theorem dX7_price_20 : decode cX7_price 20 = .ok (.aload_n 0, 1) := by decide +kernel
theorem dX7_price_21 : decode cX7_price 21 = .ok (.getfield 101, 3) := by decide +kernel
theorem dX7_price_24 : decode cX7_price 24 = .ok (.iload_n 1, 1) := by decide +kernel
theorem dX7_price_25 : decode cX7_price 25 = .ok (.baload, 1) := by decide +kernel
theorem dX7_price_26 : decode cX7_price 26 = .ok (.ifCond .ne 9, 3) := by decide +kernel
theorem dX7_price_29 : decode cX7_price 29 = .ok (.aload_n 0, 1) := by decide +kernel
theorem dX7_price_30 : decode cX7_price 30 = .ok (.iconst 1, 1) := by decide +kernel
theorem dX7_price_31 : decode cX7_price 31 = .ok (.invokevirtual 151, 3) := by decide +kernel
theorem dX7_price_34 : decode cX7_price 34 = .ok (.ireturn, 1) := by decide +kernel
theorem dX7_price_35 : decode cX7_price 35 = .ok (.iload_n 2, 1) := by decide +kernel
theorem dX7_price_36 : decode cX7_price 36 = .ok (.iconst 0, 1) := by decide +kernel
theorem dX7_price_37 : decode cX7_price 37 = .ok (.bipush 23, 2) := by decide +kernel
theorem dX7_price_39 : decode cX7_price 39 = .ok (.invokestatic 125, 3) := by decide +kernel
theorem dX7_price_42 : decode cX7_price 42 = .ok (.ifCond .ne 9, 3) := by decide +kernel
theorem dX7_price_45 : decode cX7_price 45 = .ok (.aload_n 0, 1) := by decide +kernel
theorem dX7_price_46 : decode cX7_price 46 = .ok (.iconst 2, 1) := by decide +kernel
theorem dX7_price_47 : decode cX7_price 47 = .ok (.invokevirtual 151, 3) := by decide +kernel
theorem dX7_price_50 : decode cX7_price 50 = .ok (.ireturn, 1) := by decide +kernel
theorem dX7_price_51 : decode cX7_price 51 = .ok (.aload_n 0, 1) := by decide +kernel
theorem dX7_price_52 : decode cX7_price 52 = .ok (.getfield 104, 3) := by decide +kernel
theorem dX7_price_55 : decode cX7_price 55 = .ok (.bipush 24, 2) := by decide +kernel
theorem dX7_price_57 : decode cX7_price 57 = .ok (.iload_n 1, 1) := by decide +kernel
theorem dX7_price_58 : decode cX7_price 58 = .ok (.imul, 1) := by decide +kernel
theorem dX7_price_59 : decode cX7_price 59 = .ok (.iload_n 2, 1) := by decide +kernel
theorem dX7_price_60 : decode cX7_price 60 = .ok (.iadd, 1) := by decide +kernel
theorem dX7_price_61 : decode cX7_price 61 = .ok (.iaload, 1) := by decide +kernel
theorem dX7_price_62 : decode cX7_price 62 = .ok (.istore 4, 2) := by decide +kernel
theorem dX7_price_64 : decode cX7_price 64 = .ok (.aload_n 0, 1) := by decide +kernel
theorem dX7_price_65 : decode cX7_price 65 = .ok (.getfield 104, 3) := by decide +kernel
theorem dX7_price_68 : decode cX7_price 68 = .ok (.bipush 24, 2) := by decide +kernel
theorem dX7_price_70 : decode cX7_price 70 = .ok (.iload_n 1, 1) := by decide +kernel
theorem dX7_price_71 : decode cX7_price 71 = .ok (.imul, 1) := by decide +kernel
theorem dX7_price_72 : decode cX7_price 72 = .ok (.iload_n 2, 1) := by decide +kernel
theorem dX7_price_73 : decode cX7_price 73 = .ok (.iadd, 1) := by decide +kernel
theorem dX7_price_74 : decode cX7_price 74 = .ok (.iload_n 3, 1) := by decide +kernel
theorem dX7_price_75 : decode cX7_price 75 = .ok (.iastore, 1) := by decide +kernel
theorem dX7_price_76 : decode cX7_price 76 = .ok (.iload 4, 2) := by decide +kernel
theorem dX7_price_78 : decode cX7_price 78 = .ok (.ireturn, 1) := by decide +kernel
theorem dX7_tear_0 : decode cX7_tear 0 = .ok (.iload_n 1, 1) := by decide +kernel
theorem dX7_tear_1 : decode cX7_tear 1 = .ok (.invokestatic 214, 3) := by decide +kernel
theorem dX7_tear_4 : decode cX7_tear 4 = .ok (.ifCond .ne 5, 3) := by decide +kernel
theorem dX7_tear_7 : decode cX7_tear 7 = .ok (.iconst (-1), 1) := by decide +kernel
theorem dX7_tear_8 : decode cX7_tear 8 = .ok (.ireturn, 1) := by decide +kernel
theorem dX7_tear_9 : decode cX7_tear 9 = .ok (.aload_n 0, 1) := by decide +kernel
theorem dX7_tear_10 : decode cX7_tear 10 = .ok (.getfield 101, 3) := by decide +kernel
theorem dX7_tear_13 : decode cX7_tear 13 = .ok (.iload_n 1, 1) := by decide +kernel
theorem dX7_tear_14 : decode cX7_tear 14 = .ok (.baload, 1) := by decide +kernel
theorem dX7_tear_15 : decode cX7_tear 15 = .ok (.ifCond .ne 9, 3) := by decide +kernel
theorem dX7_tear_18 : decode cX7_tear 18 = .ok (.aload_n 0, 1) := by decide +kernel
theorem dX7_tear_19 : decode cX7_tear 19 = .ok (.iconst 1, 1) := by decide +kernel
theorem dX7_tear_20 : decode cX7_tear 20 = .ok (.invokevirtual 151, 3) := by decide +kernel
theorem dX7_tear_23 : decode cX7_tear 23 = .ok (.ireturn, 1) := by decide +kernel
theorem dX7_tear_24 : decode cX7_tear 24 = .ok (.aload_n 0, 1) := by decide +kernel
theorem dX7_tear_25 : decode cX7_tear 25 = .ok (.getfield 101, 3) := by decide +kernel
theorem dX7_tear_28 : decode cX7_tear 28 = .ok (.iload_n 1, 1) := by decide +kernel
theorem dX7_tear_29 : decode cX7_tear 29 = .ok (.iconst 0, 1) := by decide +kernel
theorem dX7_tear_30 : decode cX7_tear 30 = .ok (.bastore, 1) := by decide +kernel
theorem dX7_tear_31 : decode cX7_tear 31 = .ok (.iconst 1, 1) := by decide +kernel
theorem dX7_tear_32 : decode cX7_tear 32 = .ok (.ireturn, 1) := by decide +kernel
theorem dX7_copy_0 : decode cX7_copy 0 = .ok (.iload_n 1, 1) := by decide +kernel
theorem dX7_copy_1 : decode cX7_copy 1 = .ok (.invokestatic 214, 3) := by decide +kernel
theorem dX7_copy_4 : decode cX7_copy 4 = .ok (.ifCond .eq 10, 3) := by decide +kernel
theorem dX7_copy_7 : decode cX7_copy 7 = .ok (.iload_n 3, 1) := by decide +kernel
theorem dX7_copy_8 : decode cX7_copy 8 = .ok (.invokestatic 214, 3) := by decide +kernel
theorem dX7_copy_11 : decode cX7_copy 11 = .ok (.ifCond .ne 5, 3) := by decide +kernel
theorem dX7_copy_14 : decode cX7_copy 14 = .ok (.iconst (-1), 1) := by decide +kernel
theorem dX7_copy_15 : decode cX7_copy 15 = .ok (.ireturn, 1) := by decide +kernel
theorem dX7_copy_16 : decode cX7_copy 16 = .ok (.iload 5, 2) := by decide +kernel
theorem dX7_copy_18 : decode cX7_copy 18 = .ok (.ifCond .ge 9, 3) := by decide +kernel
theorem dX7_copy_21 : decode cX7_copy 21 = .ok (.aload_n 0, 1) := by decide +kernel
theorem dX7_copy_22 : decode cX7_copy 22 = .ok (.iconst 5, 1) := by decide +kernel
theorem dX7_copy_23 : decode cX7_copy 23 = .ok (.invokevirtual 151, 3) := by decide +kernel
theorem dX7_copy_26 : decode cX7_copy 26 = .ok (.ireturn, 1) := by decide +kernel
theorem dX7_copy_27 : decode cX7_copy 27 = .ok (.aload_n 0, 1) := by decide +kernel
theorem dX7_copy_28 : decode cX7_copy 28 = .ok (.getfield 101, 3) := by decide +kernel
theorem dX7_copy_31 : decode cX7_copy 31 = .ok (.iload_n 1, 1) := by decide +kernel
theorem dX7_copy_32 : decode cX7_copy 32 = .ok (.baload, 1) := by decide +kernel
theorem dX7_copy_33 : decode cX7_copy 33 = .ok (.ifCond .eq 12, 3) := by decide +kernel
theorem dX7_copy_36 : decode cX7_copy 36 = .ok (.aload_n 0, 1) := by decide +kernel
theorem dX7_copy_37 : decode cX7_copy 37 = .ok (.getfield 101, 3) := by decide +kernel
theorem dX7_copy_40 : decode cX7_copy 40 = .ok (.iload_n 3, 1) := by decide +kernel
theorem dX7_copy_41 : decode cX7_copy 41 = .ok (.baload, 1) := by decide +kernel
theorem dX7_copy_42 : decode cX7_copy 42 = .ok (.ifCond .ne 9, 3) := by decide +kernel
theorem dX7_copy_45 : decode cX7_copy 45 = .ok (.aload_n 0, 1) := by decide +kernel
theorem dX7_copy_46 : decode cX7_copy 46 = .ok (.iconst 1, 1) := by decide +kernel
theorem dX7_copy_47 : decode cX7_copy 47 = .ok (.invokevirtual 151, 3) := by decide +kernel
theorem dX7_copy_50 : decode cX7_copy 50 = .ok (.ireturn, 1) := by decide +kernel
theorem dX7_copy_51 : decode cX7_copy 51 = .ok (.iload_n 2, 1) := by decide +kernel
theorem dX7_copy_52 : decode cX7_copy 52 = .ok (.ifCond .lt 35, 3) := by decide +kernel
theorem dX7_copy_55 : decode cX7_copy 55 = .ok (.iload 4, 2) := by decide +kernel
theorem dX7_copy_57 : decode cX7_copy 57 = .ok (.ifCond .lt 30, 3) := by decide +kernel
theorem dX7_copy_60 : decode cX7_copy 60 = .ok (.iload_n 2, 1) := by decide +kernel
theorem dX7_copy_61 : decode cX7_copy 61 = .ok (.i2l, 1) := by decide +kernel
theorem dX7_copy_62 : decode cX7_copy 62 = .ok (.iload 5, 2) := by decide +kernel
theorem dX7_copy_64 : decode cX7_copy 64 = .ok (.i2l, 1) := by decide +kernel
theorem dX7_copy_65 : decode cX7_copy 65 = .ok (.ladd, 1) := by decide +kernel
theorem dX7_copy_66 : decode cX7_copy 66 = .ok (.ldc2_w 218, 3) := by decide +kernel
theorem dX7_copy_69 : decode cX7_copy 69 = .ok (.lcmp, 1) := by decide +kernel
theorem dX7_copy_70 : decode cX7_copy 70 = .ok (.ifCond .gt 17, 3) := by decide +kernel
theorem dX7_copy_73 : decode cX7_copy 73 = .ok (.iload 4, 2) := by decide +kernel
theorem dX7_copy_75 : decode cX7_copy 75 = .ok (.i2l, 1) := by decide +kernel
theorem dX7_copy_76 : decode cX7_copy 76 = .ok (.iload 5, 2) := by decide +kernel
theorem dX7_copy_78 : decode cX7_copy 78 = .ok (.i2l, 1) := by decide +kernel
theorem dX7_copy_79 : decode cX7_copy 79 = .ok (.ladd, 1) := by decide +kernel
theorem dX7_copy_80 : decode cX7_copy 80 = .ok (.ldc2_w 218, 3) := by decide +kernel
theorem dX7_copy_83 : decode cX7_copy 83 = .ok (.lcmp, 1) := by decide +kernel
theorem dX7_copy_84 : decode cX7_copy 84 = .ok (.ifCond .le 9, 3) := by decide +kernel
theorem dX7_copy_87 : decode cX7_copy 87 = .ok (.aload_n 0, 1) := by decide +kernel
theorem dX7_copy_88 : decode cX7_copy 88 = .ok (.iconst 2, 1) := by decide +kernel
theorem dX7_copy_89 : decode cX7_copy 89 = .ok (.invokevirtual 151, 3) := by decide +kernel
theorem dX7_copy_92 : decode cX7_copy 92 = .ok (.ireturn, 1) := by decide +kernel
theorem dX7_copy_93 : decode cX7_copy 93 = .ok (.iconst 0, 1) := by decide +kernel
theorem dX7_copy_94 : decode cX7_copy 94 = .ok (.istore 6, 2) := by decide +kernel
theorem dX7_copy_96 : decode cX7_copy 96 = .ok (.iload 6, 2) := by decide +kernel
theorem dX7_copy_98 : decode cX7_copy 98 = .ok (.iload 5, 2) := by decide +kernel
theorem dX7_copy_100 : decode cX7_copy 100 = .ok (.if_icmp .ge 30, 3) := by decide +kernel
theorem dX7_copy_103 : decode cX7_copy 103 = .ok (.aload_n 0, 1) := by decide +kernel
theorem dX7_copy_104 : decode cX7_copy 104 = .ok (.getfield 110, 3) := by decide +kernel
theorem dX7_copy_107 : decode cX7_copy 107 = .ok (.iload 6, 2) := by decide +kernel
theorem dX7_copy_109 : decode cX7_copy 109 = .ok (.aload_n 0, 1) := by decide +kernel
theorem dX7_copy_110 : decode cX7_copy 110 = .ok (.getfield 104, 3) := by decide +kernel
theorem dX7_copy_113 : decode cX7_copy 113 = .ok (.bipush 24, 2) := by decide +kernel
theorem dX7_copy_115 : decode cX7_copy 115 = .ok (.iload_n 1, 1) := by decide +kernel
theorem dX7_copy_116 : decode cX7_copy 116 = .ok (.imul, 1) := by decide +kernel
theorem dX7_copy_117 : decode cX7_copy 117 = .ok (.iload_n 2, 1) := by decide +kernel
theorem dX7_copy_118 : decode cX7_copy 118 = .ok (.iadd, 1) := by decide +kernel
theorem dX7_copy_119 : decode cX7_copy 119 = .ok (.iload 6, 2) := by decide +kernel
theorem dX7_copy_121 : decode cX7_copy 121 = .ok (.iadd, 1) := by decide +kernel
theorem dX7_copy_122 : decode cX7_copy 122 = .ok (.iaload, 1) := by decide +kernel
theorem dX7_copy_123 : decode cX7_copy 123 = .ok (.iastore, 1) := by decide +kernel
theorem dX7_copy_124 : decode cX7_copy 124 = .ok (.iinc 6 1, 3) := by decide +kernel
theorem dX7_copy_127 : decode cX7_copy 127 = .ok (.goto (-31), 3) := by decide +kernel
theorem dX7_copy_130 : decode cX7_copy 130 = .ok (.iconst 0, 1) := by decide +kernel
theorem dX7_copy_131 : decode cX7_copy 131 = .ok (.istore 6, 2) := by decide +kernel
theorem dX7_copy_133 : decode cX7_copy 133 = .ok (.iload 6, 2) := by decide +kernel
theorem dX7_copy_135 : decode cX7_copy 135 = .ok (.iload 5, 2) := by decide +kernel
theorem dX7_copy_137 : decode cX7_copy 137 = .ok (.if_icmp .ge 31, 3) := by decide +kernel
theorem dX7_copy_140 : decode cX7_copy 140 = .ok (.aload_n 0, 1) := by decide +kernel
theorem dX7_copy_141 : decode cX7_copy 141 = .ok (.getfield 104, 3) := by decide +kernel
theorem dX7_copy_144 : decode cX7_copy 144 = .ok (.bipush 24, 2) := by decide +kernel
theorem dX7_copy_146 : decode cX7_copy 146 = .ok (.iload_n 3, 1) := by decide +kernel
theorem dX7_copy_147 : decode cX7_copy 147 = .ok (.imul, 1) := by decide +kernel
theorem dX7_copy_148 : decode cX7_copy 148 = .ok (.iload 4, 2) := by decide +kernel
theorem dX7_copy_150 : decode cX7_copy 150 = .ok (.iadd, 1) := by decide +kernel
theorem dX7_copy_151 : decode cX7_copy 151 = .ok (.iload 6, 2) := by decide +kernel
theorem dX7_copy_153 : decode cX7_copy 153 = .ok (.iadd, 1) := by decide +kernel
theorem dX7_copy_154 : decode cX7_copy 154 = .ok (.aload_n 0, 1) := by decide +kernel
theorem dX7_copy_155 : decode cX7_copy 155 = .ok (.getfield 110, 3) := by decide +kernel
theorem dX7_copy_158 : decode cX7_copy 158 = .ok (.iload 6, 2) := by decide +kernel
theorem dX7_copy_160 : decode cX7_copy 160 = .ok (.iaload, 1) := by decide +kernel
theorem dX7_copy_161 : decode cX7_copy 161 = .ok (.iastore, 1) := by decide +kernel
theorem dX7_copy_162 : decode cX7_copy 162 = .ok (.iinc 6 1, 3) := by decide +kernel
theorem dX7_copy_165 : decode cX7_copy 165 = .ok (.goto (-32), 3) := by decide +kernel
theorem dX7_copy_168 : decode cX7_copy 168 = .ok (.iconst 1, 1) := by decide +kernel
theorem dX7_copy_169 : decode cX7_copy 169 = .ok (.ireturn, 1) := by decide +kernel
theorem dX7_need_0 : decode cX7_need 0 = .ok (.iload_n 1, 1) := by decide +kernel
theorem dX7_need_1 : decode cX7_need 1 = .ok (.iconst 0, 1) := by decide +kernel
theorem dX7_need_2 : decode cX7_need 2 = .ok (.bipush 23, 2) := by decide +kernel
theorem dX7_need_4 : decode cX7_need 4 = .ok (.invokestatic 125, 3) := by decide +kernel
theorem dX7_need_7 : decode cX7_need 7 = .ok (.ifCond .eq 14, 3) := by decide +kernel
theorem dX7_need_10 : decode cX7_need 10 = .ok (.iload_n 2, 1) := by decide +kernel
theorem dX7_need_11 : decode cX7_need 11 = .ok (.iconst 0, 1) := by decide +kernel
theorem dX7_need_12 : decode cX7_need 12 = .ok (.sipush 10000, 3) := by decide +kernel
theorem dX7_need_15 : decode cX7_need 15 = .ok (.invokestatic 125, 3) := by decide +kernel
theorem dX7_need_18 : decode cX7_need 18 = .ok (.ifCond .ne 5, 3) := by decide +kernel
theorem dX7_need_21 : decode cX7_need 21 = .ok (.iconst (-1), 1) := by decide +kernel
theorem dX7_need_22 : decode cX7_need 22 = .ok (.ireturn, 1) := by decide +kernel
theorem dX7_need_23 : decode cX7_need 23 = .ok (.aload_n 0, 1) := by decide +kernel
theorem dX7_need_24 : decode cX7_need 24 = .ok (.getfield 107, 3) := by decide +kernel
theorem dX7_need_27 : decode cX7_need 27 = .ok (.iload_n 1, 1) := by decide +kernel
theorem dX7_need_28 : decode cX7_need 28 = .ok (.iaload, 1) := by decide +kernel
theorem dX7_need_29 : decode cX7_need 29 = .ok (.istore_n 3, 1) := by decide +kernel
theorem dX7_need_30 : decode cX7_need 30 = .ok (.aload_n 0, 1) := by decide +kernel
theorem dX7_need_31 : decode cX7_need 31 = .ok (.getfield 107, 3) := by decide +kernel
theorem dX7_need_34 : decode cX7_need 34 = .ok (.iload_n 1, 1) := by decide +kernel
theorem dX7_need_35 : decode cX7_need 35 = .ok (.iload_n 2, 1) := by decide +kernel
theorem dX7_need_36 : decode cX7_need 36 = .ok (.iastore, 1) := by decide +kernel
theorem dX7_need_37 : decode cX7_need 37 = .ok (.iload_n 3, 1) := by decide +kernel
theorem dX7_need_38 : decode cX7_need 38 = .ok (.ireturn, 1) := by decide +kernel
theorem dX7_plan_0 : decode cX7_plan 0 = .ok (.iload_n 1, 1) := by decide +kernel
theorem dX7_plan_1 : decode cX7_plan 1 = .ok (.invokestatic 214, 3) := by decide +kernel
theorem dX7_plan_4 : decode cX7_plan 4 = .ok (.ifCond .eq 14, 3) := by decide +kernel
theorem dX7_plan_7 : decode cX7_plan 7 = .ok (.iload_n 2, 1) := by decide +kernel
theorem dX7_plan_8 : decode cX7_plan 8 = .ok (.iconst 1, 1) := by decide +kernel
theorem dX7_plan_9 : decode cX7_plan 9 = .ok (.sipush 1000, 3) := by decide +kernel
theorem dX7_plan_12 : decode cX7_plan 12 = .ok (.invokestatic 125, 3) := by decide +kernel
theorem dX7_plan_15 : decode cX7_plan 15 = .ok (.ifCond .ne 5, 3) := by decide +kernel
theorem dX7_plan_18 : decode cX7_plan 18 = .ok (.iconst (-1), 1) := by decide +kernel
theorem dX7_plan_19 : decode cX7_plan 19 = .ok (.ireturn, 1) := by decide +kernel
theorem dX7_plan_20 : decode cX7_plan 20 = .ok (.aload_n 0, 1) := by decide +kernel
theorem dX7_plan_21 : decode cX7_plan 21 = .ok (.getfield 101, 3) := by decide +kernel
theorem dX7_plan_24 : decode cX7_plan 24 = .ok (.iload_n 1, 1) := by decide +kernel
theorem dX7_plan_25 : decode cX7_plan 25 = .ok (.baload, 1) := by decide +kernel
theorem dX7_plan_26 : decode cX7_plan 26 = .ok (.ifCond .ne 9, 3) := by decide +kernel
theorem dX7_plan_29 : decode cX7_plan 29 = .ok (.aload_n 0, 1) := by decide +kernel
theorem dX7_plan_30 : decode cX7_plan 30 = .ok (.iconst 1, 1) := by decide +kernel
theorem dX7_plan_31 : decode cX7_plan 31 = .ok (.invokevirtual 151, 3) := by decide +kernel
theorem dX7_plan_34 : decode cX7_plan 34 = .ok (.ireturn, 1) := by decide +kernel
theorem dX7_plan_35 : decode cX7_plan 35 = .ok (.iconst 0, 1) := by decide +kernel
theorem dX7_plan_36 : decode cX7_plan 36 = .ok (.istore_n 3, 1) := by decide +kernel
theorem dX7_plan_37 : decode cX7_plan 37 = .ok (.iload_n 3, 1) := by decide +kernel
theorem dX7_plan_38 : decode cX7_plan 38 = .ok (.bipush 24, 2) := by decide +kernel
theorem dX7_plan_40 : decode cX7_plan 40 = .ok (.if_icmp .gt 32, 3) := by decide +kernel
theorem dX7_plan_43 : decode cX7_plan 43 = .ok (.aload_n 0, 1) := by decide +kernel
theorem dX7_plan_44 : decode cX7_plan 44 = .ok (.getfield 113, 3) := by decide +kernel
theorem dX7_plan_47 : decode cX7_plan 47 = .ok (.iload_n 3, 1) := by decide +kernel
theorem dX7_plan_48 : decode cX7_plan 48 = .ok (.iload_n 3, 1) := by decide +kernel
theorem dX7_plan_49 : decode cX7_plan 49 = .ok (.ifCond .ne 7, 3) := by decide +kernel
theorem dX7_plan_52 : decode cX7_plan 52 = .ok (.iconst 0, 1) := by decide +kernel
theorem dX7_plan_53 : decode cX7_plan 53 = .ok (.goto 5, 3) := by decide +kernel
theorem dX7_plan_56 : decode cX7_plan 56 = .ok (.bipush (-9), 2) := by decide +kernel
theorem dX7_plan_58 : decode cX7_plan 58 = .ok (.iastore, 1) := by decide +kernel
theorem dX7_plan_59 : decode cX7_plan 59 = .ok (.aload_n 0, 1) := by decide +kernel
theorem dX7_plan_60 : decode cX7_plan 60 = .ok (.getfield 116, 3) := by decide +kernel
theorem dX7_plan_63 : decode cX7_plan 63 = .ok (.iload_n 3, 1) := by decide +kernel
theorem dX7_plan_64 : decode cX7_plan 64 = .ok (.iconst 0, 1) := by decide +kernel
theorem dX7_plan_65 : decode cX7_plan 65 = .ok (.iastore, 1) := by decide +kernel
theorem dX7_plan_66 : decode cX7_plan 66 = .ok (.iinc 3 1, 3) := by decide +kernel
theorem dX7_plan_69 : decode cX7_plan 69 = .ok (.goto (-32), 3) := by decide +kernel
theorem dX7_plan_72 : decode cX7_plan 72 = .ok (.iconst 0, 1) := by decide +kernel
theorem dX7_plan_73 : decode cX7_plan 73 = .ok (.istore_n 3, 1) := by decide +kernel
theorem dX7_plan_74 : decode cX7_plan 74 = .ok (.iload_n 3, 1) := by decide +kernel
theorem dX7_plan_75 : decode cX7_plan 75 = .ok (.bipush 24, 2) := by decide +kernel
theorem dX7_plan_77 : decode cX7_plan 77 = .ok (.if_icmp .ge 193, 3) := by decide +kernel
theorem dX7_plan_80 : decode cX7_plan 80 = .ok (.iload_n 3, 1) := by decide +kernel
theorem dX7_plan_81 : decode cX7_plan 81 = .ok (.iconst 1, 1) := by decide +kernel
theorem dX7_plan_82 : decode cX7_plan 82 = .ok (.iadd, 1) := by decide +kernel
theorem dX7_plan_83 : decode cX7_plan 83 = .ok (.istore 4, 2) := by decide +kernel
theorem dX7_plan_85 : decode cX7_plan 85 = .ok (.iload 4, 2) := by decide +kernel
theorem dX7_plan_87 : decode cX7_plan 87 = .ok (.ifCond .lt 177, 3) := by decide +kernel
theorem dX7_plan_90 : decode cX7_plan 90 = .ok (.iload 4, 2) := by decide +kernel
theorem dX7_plan_92 : decode cX7_plan 92 = .ok (.ifCond .eq 15, 3) := by decide +kernel
theorem dX7_plan_95 : decode cX7_plan 95 = .ok (.aload_n 0, 1) := by decide +kernel
theorem dX7_plan_96 : decode cX7_plan 96 = .ok (.getfield 113, 3) := by decide +kernel
theorem dX7_plan_99 : decode cX7_plan 99 = .ok (.iload 4, 2) := by decide +kernel
theorem dX7_plan_101 : decode cX7_plan 101 = .ok (.iconst 1, 1) := by decide +kernel
theorem dX7_plan_102 : decode cX7_plan 102 = .ok (.isub, 1) := by decide +kernel
theorem dX7_plan_103 : decode cX7_plan 103 = .ok (.iaload, 1) := by decide +kernel
theorem dX7_plan_104 : decode cX7_plan 104 = .ok (.ifCond .ge 8, 3) := by decide +kernel
theorem dX7_plan_107 : decode cX7_plan 107 = .ok (.bipush (-9), 2) := by decide +kernel
theorem dX7_plan_109 : decode cX7_plan 109 = .ok (.goto 24, 3) := by decide +kernel
theorem dX7_plan_112 : decode cX7_plan 112 = .ok (.aload_n 0, 1) := by decide +kernel
theorem dX7_plan_113 : decode cX7_plan 113 = .ok (.getfield 113, 3) := by decide +kernel
theorem dX7_plan_116 : decode cX7_plan 116 = .ok (.iload 4, 2) := by decide +kernel
theorem dX7_plan_118 : decode cX7_plan 118 = .ok (.iconst 1, 1) := by decide +kernel
theorem dX7_plan_119 : decode cX7_plan 119 = .ok (.isub, 1) := by decide +kernel
theorem dX7_plan_120 : decode cX7_plan 120 = .ok (.iaload, 1) := by decide +kernel
theorem dX7_plan_121 : decode cX7_plan 121 = .ok (.aload_n 0, 1) := by decide +kernel
theorem dX7_plan_122 : decode cX7_plan 122 = .ok (.getfield 104, 3) := by decide +kernel
theorem dX7_plan_125 : decode cX7_plan 125 = .ok (.bipush 24, 2) := by decide +kernel
theorem dX7_plan_127 : decode cX7_plan 127 = .ok (.iload_n 1, 1) := by decide +kernel
theorem dX7_plan_128 : decode cX7_plan 128 = .ok (.imul, 1) := by decide +kernel
theorem dX7_plan_129 : decode cX7_plan 129 = .ok (.iload_n 3, 1) := by decide +kernel
theorem dX7_plan_130 : decode cX7_plan 130 = .ok (.iadd, 1) := by decide +kernel
theorem dX7_plan_131 : decode cX7_plan 131 = .ok (.iaload, 1) := by decide +kernel
theorem dX7_plan_132 : decode cX7_plan 132 = .ok (.iadd, 1) := by decide +kernel
theorem dX7_plan_133 : decode cX7_plan 133 = .ok (.istore 5, 2) := by decide +kernel
theorem dX7_plan_135 : decode cX7_plan 135 = .ok (.iload 5, 2) := by decide +kernel
theorem dX7_plan_137 : decode cX7_plan 137 = .ok (.ifCond .lt 89, 3) := by decide +kernel
theorem dX7_plan_140 : decode cX7_plan 140 = .ok (.aload_n 0, 1) := by decide +kernel
theorem dX7_plan_141 : decode cX7_plan 141 = .ok (.getfield 113, 3) := by decide +kernel
theorem dX7_plan_144 : decode cX7_plan 144 = .ok (.iload 4, 2) := by decide +kernel
theorem dX7_plan_146 : decode cX7_plan 146 = .ok (.iaload, 1) := by decide +kernel
theorem dX7_plan_147 : decode cX7_plan 147 = .ok (.ifCond .lt 50, 3) := by decide +kernel
theorem dX7_plan_150 : decode cX7_plan 150 = .ok (.iload 5, 2) := by decide +kernel
theorem dX7_plan_152 : decode cX7_plan 152 = .ok (.aload_n 0, 1) := by decide +kernel
theorem dX7_plan_153 : decode cX7_plan 153 = .ok (.getfield 113, 3) := by decide +kernel
theorem dX7_plan_156 : decode cX7_plan 156 = .ok (.iload 4, 2) := by decide +kernel
theorem dX7_plan_158 : decode cX7_plan 158 = .ok (.iaload, 1) := by decide +kernel
theorem dX7_plan_159 : decode cX7_plan 159 = .ok (.if_icmp .lt 38, 3) := by decide +kernel
theorem dX7_plan_162 : decode cX7_plan 162 = .ok (.iload 5, 2) := by decide +kernel
theorem dX7_plan_164 : decode cX7_plan 164 = .ok (.aload_n 0, 1) := by decide +kernel
theorem dX7_plan_165 : decode cX7_plan 165 = .ok (.getfield 113, 3) := by decide +kernel
theorem dX7_plan_168 : decode cX7_plan 168 = .ok (.iload 4, 2) := by decide +kernel
theorem dX7_plan_170 : decode cX7_plan 170 = .ok (.iaload, 1) := by decide +kernel
theorem dX7_plan_171 : decode cX7_plan 171 = .ok (.if_icmp .ne 55, 3) := by decide +kernel
theorem dX7_plan_174 : decode cX7_plan 174 = .ok (.aload_n 0, 1) := by decide +kernel
theorem dX7_plan_175 : decode cX7_plan 175 = .ok (.getfield 116, 3) := by decide +kernel
theorem dX7_plan_178 : decode cX7_plan 178 = .ok (.iload 4, 2) := by decide +kernel
theorem dX7_plan_180 : decode cX7_plan 180 = .ok (.iconst 1, 1) := by decide +kernel
theorem dX7_plan_181 : decode cX7_plan 181 = .ok (.isub, 1) := by decide +kernel
theorem dX7_plan_182 : decode cX7_plan 182 = .ok (.iaload, 1) := by decide +kernel
theorem dX7_plan_183 : decode cX7_plan 183 = .ok (.iconst 1, 1) := by decide +kernel
theorem dX7_plan_184 : decode cX7_plan 184 = .ok (.iload_n 3, 1) := by decide +kernel
theorem dX7_plan_185 : decode cX7_plan 185 = .ok (.ishl, 1) := by decide +kernel
theorem dX7_plan_186 : decode cX7_plan 186 = .ok (.ior, 1) := by decide +kernel
theorem dX7_plan_187 : decode cX7_plan 187 = .ok (.aload_n 0, 1) := by decide +kernel
theorem dX7_plan_188 : decode cX7_plan 188 = .ok (.getfield 116, 3) := by decide +kernel
theorem dX7_plan_191 : decode cX7_plan 191 = .ok (.iload 4, 2) := by decide +kernel
theorem dX7_plan_193 : decode cX7_plan 193 = .ok (.iaload, 1) := by decide +kernel
theorem dX7_plan_194 : decode cX7_plan 194 = .ok (.if_icmp .ge 32, 3) := by decide +kernel
theorem dX7_plan_197 : decode cX7_plan 197 = .ok (.aload_n 0, 1) := by decide +kernel
theorem dX7_plan_198 : decode cX7_plan 198 = .ok (.getfield 113, 3) := by decide +kernel
theorem dX7_plan_201 : decode cX7_plan 201 = .ok (.iload 4, 2) := by decide +kernel
theorem dX7_plan_203 : decode cX7_plan 203 = .ok (.iload 5, 2) := by decide +kernel
theorem dX7_plan_205 : decode cX7_plan 205 = .ok (.iastore, 1) := by decide +kernel
theorem dX7_plan_206 : decode cX7_plan 206 = .ok (.aload_n 0, 1) := by decide +kernel
theorem dX7_plan_207 : decode cX7_plan 207 = .ok (.getfield 116, 3) := by decide +kernel
theorem dX7_plan_210 : decode cX7_plan 210 = .ok (.iload 4, 2) := by decide +kernel
theorem dX7_plan_212 : decode cX7_plan 212 = .ok (.aload_n 0, 1) := by decide +kernel
theorem dX7_plan_213 : decode cX7_plan 213 = .ok (.getfield 116, 3) := by decide +kernel
theorem dX7_plan_216 : decode cX7_plan 216 = .ok (.iload 4, 2) := by decide +kernel
theorem dX7_plan_218 : decode cX7_plan 218 = .ok (.iconst 1, 1) := by decide +kernel
theorem dX7_plan_219 : decode cX7_plan 219 = .ok (.isub, 1) := by decide +kernel
theorem dX7_plan_220 : decode cX7_plan 220 = .ok (.iaload, 1) := by decide +kernel
theorem dX7_plan_221 : decode cX7_plan 221 = .ok (.iconst 1, 1) := by decide +kernel
theorem dX7_plan_222 : decode cX7_plan 222 = .ok (.iload_n 3, 1) := by decide +kernel
theorem dX7_plan_223 : decode cX7_plan 223 = .ok (.ishl, 1) := by decide +kernel
theorem dX7_plan_224 : decode cX7_plan 224 = .ok (.ior, 1) := by decide +kernel
theorem dX7_plan_225 : decode cX7_plan 225 = .ok (.iastore, 1) := by decide +kernel
theorem dX7_plan_226 : decode cX7_plan 226 = .ok (.aload_n 0, 1) := by decide +kernel
theorem dX7_plan_227 : decode cX7_plan 227 = .ok (.getfield 113, 3) := by decide +kernel
theorem dX7_plan_230 : decode cX7_plan 230 = .ok (.iload 4, 2) := by decide +kernel
theorem dX7_plan_232 : decode cX7_plan 232 = .ok (.iload_n 2, 1) := by decide +kernel
theorem dX7_plan_233 : decode cX7_plan 233 = .ok (.iload 4, 2) := by decide +kernel
theorem dX7_plan_235 : decode cX7_plan 235 = .ok (.imul, 1) := by decide +kernel
theorem dX7_plan_236 : decode cX7_plan 236 = .ok (.aload_n 0, 1) := by decide +kernel
theorem dX7_plan_237 : decode cX7_plan 237 = .ok (.getfield 107, 3) := by decide +kernel
theorem dX7_plan_240 : decode cX7_plan 240 = .ok (.iload_n 3, 1) := by decide +kernel
theorem dX7_plan_241 : decode cX7_plan 241 = .ok (.iaload, 1) := by decide +kernel
theorem dX7_plan_242 : decode cX7_plan 242 = .ok (.if_icmp .ge 8, 3) := by decide +kernel
theorem dX7_plan_245 : decode cX7_plan 245 = .ok (.bipush (-9), 2) := by decide +kernel
theorem dX7_plan_247 : decode cX7_plan 247 = .ok (.goto 10, 3) := by decide +kernel
theorem dX7_plan_250 : decode cX7_plan 250 = .ok (.aload_n 0, 1) := by decide +kernel
theorem dX7_plan_251 : decode cX7_plan 251 = .ok (.getfield 113, 3) := by decide +kernel
theorem dX7_plan_254 : decode cX7_plan 254 = .ok (.iload 4, 2) := by decide +kernel
theorem dX7_plan_256 : decode cX7_plan 256 = .ok (.iaload, 1) := by decide +kernel
theorem dX7_plan_257 : decode cX7_plan 257 = .ok (.iastore, 1) := by decide +kernel
theorem dX7_plan_258 : decode cX7_plan 258 = .ok (.iinc 4 (-1), 3) := by decide +kernel
theorem dX7_plan_261 : decode cX7_plan 261 = .ok (.goto (-176), 3) := by decide +kernel
theorem dX7_plan_264 : decode cX7_plan 264 = .ok (.iinc 3 1, 3) := by decide +kernel
theorem dX7_plan_267 : decode cX7_plan 267 = .ok (.goto (-193), 3) := by decide +kernel
theorem dX7_plan_270 : decode cX7_plan 270 = .ok (.bipush (-9), 2) := by decide +kernel
theorem dX7_plan_272 : decode cX7_plan 272 = .ok (.istore_n 3, 1) := by decide +kernel
theorem dX7_plan_273 : decode cX7_plan 273 = .ok (.iconst 0, 1) := by decide +kernel
theorem dX7_plan_274 : decode cX7_plan 274 = .ok (.istore 4, 2) := by decide +kernel
theorem dX7_plan_276 : decode cX7_plan 276 = .ok (.iload 4, 2) := by decide +kernel
theorem dX7_plan_278 : decode cX7_plan 278 = .ok (.bipush 24, 2) := by decide +kernel
theorem dX7_plan_280 : decode cX7_plan 280 = .ok (.if_icmp .gt 46, 3) := by decide +kernel
theorem dX7_plan_283 : decode cX7_plan 283 = .ok (.aload_n 0, 1) := by decide +kernel
theorem dX7_plan_284 : decode cX7_plan 284 = .ok (.getfield 113, 3) := by decide +kernel
theorem dX7_plan_287 : decode cX7_plan 287 = .ok (.iload 4, 2) := by decide +kernel
theorem dX7_plan_289 : decode cX7_plan 289 = .ok (.iaload, 1) := by decide +kernel
theorem dX7_plan_290 : decode cX7_plan 290 = .ok (.ifCond .lt 28, 3) := by decide +kernel
theorem dX7_plan_293 : decode cX7_plan 293 = .ok (.iload_n 3, 1) := by decide +kernel
theorem dX7_plan_294 : decode cX7_plan 294 = .ok (.ifCond .lt 19, 3) := by decide +kernel
theorem dX7_plan_297 : decode cX7_plan 297 = .ok (.aload_n 0, 1) := by decide +kernel
theorem dX7_plan_298 : decode cX7_plan 298 = .ok (.getfield 113, 3) := by decide +kernel
theorem dX7_plan_301 : decode cX7_plan 301 = .ok (.iload 4, 2) := by decide +kernel
theorem dX7_plan_303 : decode cX7_plan 303 = .ok (.iaload, 1) := by decide +kernel
theorem dX7_plan_304 : decode cX7_plan 304 = .ok (.aload_n 0, 1) := by decide +kernel
theorem dX7_plan_305 : decode cX7_plan 305 = .ok (.getfield 113, 3) := by decide +kernel
theorem dX7_plan_308 : decode cX7_plan 308 = .ok (.iload_n 3, 1) := by decide +kernel
theorem dX7_plan_309 : decode cX7_plan 309 = .ok (.iaload, 1) := by decide +kernel
theorem dX7_plan_310 : decode cX7_plan 310 = .ok (.if_icmp .ge 8, 3) := by decide +kernel
theorem dX7_plan_313 : decode cX7_plan 313 = .ok (.iload 4, 2) := by decide +kernel
theorem dX7_plan_315 : decode cX7_plan 315 = .ok (.goto 4, 3) := by decide +kernel
theorem dX7_plan_318 : decode cX7_plan 318 = .ok (.iload_n 3, 1) := by decide +kernel
theorem dX7_plan_319 : decode cX7_plan 319 = .ok (.istore_n 3, 1) := by decide +kernel
theorem dX7_plan_320 : decode cX7_plan 320 = .ok (.iinc 4 1, 3) := by decide +kernel
theorem dX7_plan_323 : decode cX7_plan 323 = .ok (.goto (-47), 3) := by decide +kernel
theorem dX7_plan_326 : decode cX7_plan 326 = .ok (.iload_n 3, 1) := by decide +kernel
theorem dX7_plan_327 : decode cX7_plan 327 = .ok (.ifCond .ge 8, 3) := by decide +kernel
theorem dX7_plan_330 : decode cX7_plan 330 = .ok (.bipush (-9), 2) := by decide +kernel
theorem dX7_plan_332 : decode cX7_plan 332 = .ok (.goto 20, 3) := by decide +kernel
theorem dX7_plan_335 : decode cX7_plan 335 = .ok (.aload_n 0, 1) := by decide +kernel
theorem dX7_plan_336 : decode cX7_plan 336 = .ok (.aload_n 0, 1) := by decide +kernel
theorem dX7_plan_337 : decode cX7_plan 337 = .ok (.getfield 113, 3) := by decide +kernel
theorem dX7_plan_340 : decode cX7_plan 340 = .ok (.iload_n 3, 1) := by decide +kernel
theorem dX7_plan_341 : decode cX7_plan 341 = .ok (.iaload, 1) := by decide +kernel
theorem dX7_plan_342 : decode cX7_plan 342 = .ok (.i2l, 1) := by decide +kernel
theorem dX7_plan_343 : decode cX7_plan 343 = .ok (.aload_n 0, 1) := by decide +kernel
theorem dX7_plan_344 : decode cX7_plan 344 = .ok (.getfield 116, 3) := by decide +kernel
theorem dX7_plan_347 : decode cX7_plan 347 = .ok (.iload_n 3, 1) := by decide +kernel
theorem dX7_plan_348 : decode cX7_plan 348 = .ok (.iaload, 1) := by decide +kernel
theorem dX7_plan_349 : decode cX7_plan 349 = .ok (.invokevirtual 200, 3) := by decide +kernel
theorem dX7_plan_352 : decode cX7_plan 352 = .ok (.ireturn, 1) := by decide +kernel
theorem dX7_upper_0 : decode cX7_upper 0 = .ok (.aload_n 0, 1) := by decide +kernel
theorem dX7_upper_1 : decode cX7_upper 1 = .ok (.getfield 161, 3) := by decide +kernel
theorem dX7_upper_4 : decode cX7_upper 4 = .ok (.lreturn, 1) := by decide +kernel
theorem dX7_lower_0 : decode cX7_lower 0 = .ok (.aload_n 0, 1) := by decide +kernel
theorem dX7_lower_1 : decode cX7_lower 1 = .ok (.getfield 13, 3) := by decide +kernel
theorem dX7_lower_4 : decode cX7_lower 4 = .ok (.lreturn, 1) := by decide +kernel
theorem dX7_asked_0 : decode cX7_asked 0 = .ok (.aload_n 0, 1) := by decide +kernel
theorem dX7_asked_1 : decode cX7_asked 1 = .ok (.getfield 122, 3) := by decide +kernel
theorem dX7_asked_4 : decode cX7_asked 4 = .ok (.lreturn, 1) := by decide +kernel
theorem dX7_counts_0 : decode cX7_counts 0 = .ok (.iconst 0, 1) := by decide +kernel
theorem dX7_counts_1 : decode cX7_counts 1 = .ok (.istore_n 2, 1) := by decide +kernel
theorem dX7_counts_2 : decode cX7_counts 2 = .ok (.iconst 0, 1) := by decide +kernel
theorem dX7_counts_3 : decode cX7_counts 3 = .ok (.istore_n 3, 1) := by decide +kernel
theorem dX7_counts_4 : decode cX7_counts 4 = .ok (.iload_n 3, 1) := by decide +kernel
theorem dX7_counts_5 : decode cX7_counts 5 = .ok (.bipush 7, 2) := by decide +kernel
theorem dX7_counts_7 : decode cX7_counts 7 = .ok (.if_icmp .ge 26, 3) := by decide +kernel
theorem dX7_counts_10 : decode cX7_counts 10 = .ok (.iload_n 2, 1) := by decide +kernel
theorem dX7_counts_11 : decode cX7_counts 11 = .ok (.aload_n 0, 1) := by decide +kernel
theorem dX7_counts_12 : decode cX7_counts 12 = .ok (.getfield 101, 3) := by decide +kernel
theorem dX7_counts_15 : decode cX7_counts 15 = .ok (.iload_n 3, 1) := by decide +kernel
theorem dX7_counts_16 : decode cX7_counts 16 = .ok (.baload, 1) := by decide +kernel
theorem dX7_counts_17 : decode cX7_counts 17 = .ok (.ifCond .eq 7, 3) := by decide +kernel
theorem dX7_counts_20 : decode cX7_counts 20 = .ok (.iconst 1, 1) := by decide +kernel
theorem dX7_counts_21 : decode cX7_counts 21 = .ok (.goto 4, 3) := by decide +kernel
theorem dX7_counts_24 : decode cX7_counts 24 = .ok (.iconst 0, 1) := by decide +kernel
theorem dX7_counts_25 : decode cX7_counts 25 = .ok (.iadd, 1) := by decide +kernel
theorem dX7_counts_26 : decode cX7_counts 26 = .ok (.istore_n 2, 1) := by decide +kernel
theorem dX7_counts_27 : decode cX7_counts 27 = .ok (.iinc 3 1, 3) := by decide +kernel
theorem dX7_counts_30 : decode cX7_counts 30 = .ok (.goto (-26), 3) := by decide +kernel
theorem dX7_counts_33 : decode cX7_counts 33 = .ok (.iload_n 1, 1) := by decide +kernel
theorem dX7_counts_34 : decode cX7_counts 34 = .ok (.ifCond .ne 10, 3) := by decide +kernel
theorem dX7_counts_37 : decode cX7_counts 37 = .ok (.aload_n 0, 1) := by decide +kernel
theorem dX7_counts_38 : decode cX7_counts 38 = .ok (.getfield 129, 3) := by decide +kernel
theorem dX7_counts_41 : decode cX7_counts 41 = .ok (.goto 48, 3) := by decide +kernel
theorem dX7_counts_44 : decode cX7_counts 44 = .ok (.iload_n 1, 1) := by decide +kernel
theorem dX7_counts_45 : decode cX7_counts 45 = .ok (.iconst 1, 1) := by decide +kernel
theorem dX7_counts_46 : decode cX7_counts 46 = .ok (.if_icmp .ne 10, 3) := by decide +kernel
theorem dX7_counts_49 : decode cX7_counts 49 = .ok (.aload_n 0, 1) := by decide +kernel
theorem dX7_counts_50 : decode cX7_counts 50 = .ok (.getfield 164, 3) := by decide +kernel
theorem dX7_counts_53 : decode cX7_counts 53 = .ok (.goto 36, 3) := by decide +kernel
theorem dX7_counts_56 : decode cX7_counts 56 = .ok (.iload_n 1, 1) := by decide +kernel
theorem dX7_counts_57 : decode cX7_counts 57 = .ok (.iconst 2, 1) := by decide +kernel
theorem dX7_counts_58 : decode cX7_counts 58 = .ok (.if_icmp .ne 10, 3) := by decide +kernel
theorem dX7_counts_61 : decode cX7_counts 61 = .ok (.aload_n 0, 1) := by decide +kernel
theorem dX7_counts_62 : decode cX7_counts 62 = .ok (.getfield 179, 3) := by decide +kernel
theorem dX7_counts_65 : decode cX7_counts 65 = .ok (.goto 24, 3) := by decide +kernel
theorem dX7_counts_68 : decode cX7_counts 68 = .ok (.iload_n 1, 1) := by decide +kernel
theorem dX7_counts_69 : decode cX7_counts 69 = .ok (.iconst 3, 1) := by decide +kernel
theorem dX7_counts_70 : decode cX7_counts 70 = .ok (.if_icmp .ne 7, 3) := by decide +kernel
theorem dX7_counts_73 : decode cX7_counts 73 = .ok (.iload_n 2, 1) := by decide +kernel
theorem dX7_counts_74 : decode cX7_counts 74 = .ok (.goto 15, 3) := by decide +kernel
theorem dX7_counts_77 : decode cX7_counts 77 = .ok (.aload_n 0, 1) := by decide +kernel
theorem dX7_counts_78 : decode cX7_counts 78 = .ok (.getfield 182, 3) := by decide +kernel
theorem dX7_counts_81 : decode cX7_counts 81 = .ok (.ifCond .eq 7, 3) := by decide +kernel
theorem dX7_counts_84 : decode cX7_counts 84 = .ok (.iconst 1, 1) := by decide +kernel
theorem dX7_counts_85 : decode cX7_counts 85 = .ok (.goto 4, 3) := by decide +kernel
theorem dX7_counts_88 : decode cX7_counts 88 = .ok (.iconst 0, 1) := by decide +kernel
theorem dX7_counts_89 : decode cX7_counts 89 = .ok (.ireturn, 1) := by decide +kernel
theorem dX7_count_0 : decode cX7_count 0 = .ok (.iload_n 1, 1) := by decide +kernel
theorem dX7_count_1 : decode cX7_count 1 = .ok (.iconst 0, 1) := by decide +kernel
theorem dX7_count_2 : decode cX7_count 2 = .ok (.iconst 4, 1) := by decide +kernel
theorem dX7_count_3 : decode cX7_count 3 = .ok (.invokestatic 125, 3) := by decide +kernel
theorem dX7_count_6 : decode cX7_count 6 = .ok (.ifCond .eq 11, 3) := by decide +kernel
theorem dX7_count_9 : decode cX7_count 9 = .ok (.aload_n 0, 1) := by decide +kernel
theorem dX7_count_10 : decode cX7_count 10 = .ok (.iload_n 1, 1) := by decide +kernel
theorem dX7_count_11 : decode cX7_count 11 = .ok (.invokevirtual 220, 3) := by decide +kernel
theorem dX7_count_14 : decode cX7_count 14 = .ok (.goto 4, 3) := by decide +kernel
theorem dX7_count_17 : decode cX7_count 17 = .ok (.iconst (-1), 1) := by decide +kernel
theorem dX7_count_18 : decode cX7_count 18 = .ok (.ireturn, 1) := by decide +kernel
theorem dX7_finding_0 : decode cX7_finding 0 = .ok (.aload_n 0, 1) := by decide +kernel
theorem dX7_finding_1 : decode cX7_finding 1 = .ok (.getfield 119, 3) := by decide +kernel
theorem dX7_finding_4 : decode cX7_finding 4 = .ok (.ireturn, 1) := by decide +kernel
theorem dX7_findings_0 : decode cX7_findings 0 = .ok (.iload_n 1, 1) := by decide +kernel
theorem dX7_findings_1 : decode cX7_findings 1 = .ok (.iconst 1, 1) := by decide +kernel
theorem dX7_findings_2 : decode cX7_findings 2 = .ok (.iconst 5, 1) := by decide +kernel
theorem dX7_findings_3 : decode cX7_findings 3 = .ok (.invokestatic 125, 3) := by decide +kernel
theorem dX7_findings_6 : decode cX7_findings 6 = .ok (.ifCond .eq 12, 3) := by decide +kernel
theorem dX7_findings_9 : decode cX7_findings 9 = .ok (.aload_n 0, 1) := by decide +kernel
theorem dX7_findings_10 : decode cX7_findings 10 = .ok (.getfield 7, 3) := by decide +kernel
theorem dX7_findings_13 : decode cX7_findings 13 = .ok (.iload_n 1, 1) := by decide +kernel
theorem dX7_findings_14 : decode cX7_findings 14 = .ok (.iaload, 1) := by decide +kernel
theorem dX7_findings_15 : decode cX7_findings 15 = .ok (.goto 4, 3) := by decide +kernel
theorem dX7_findings_18 : decode cX7_findings 18 = .ok (.iconst (-1), 1) := by decide +kernel
theorem dX7_findings_19 : decode cX7_findings 19 = .ok (.ireturn, 1) := by decide +kernel
theorem dX7_digest_0 : decode cX7_digest 0 = .ok (.ldc2_w 223, 3) := by decide +kernel
theorem dX7_digest_3 : decode cX7_digest 3 = .ok (.lstore_n 1, 1) := by decide +kernel
theorem dX7_digest_4 : decode cX7_digest 4 = .ok (.iconst 0, 1) := by decide +kernel
theorem dX7_digest_5 : decode cX7_digest 5 = .ok (.istore_n 3, 1) := by decide +kernel
theorem dX7_digest_6 : decode cX7_digest 6 = .ok (.iload_n 3, 1) := by decide +kernel
theorem dX7_digest_7 : decode cX7_digest 7 = .ok (.bipush 10, 2) := by decide +kernel
theorem dX7_digest_9 : decode cX7_digest 9 = .ok (.if_icmp .ge 55, 3) := by decide +kernel
theorem dX7_digest_12 : decode cX7_digest 12 = .ok (.ldc2_w 225, 3) := by decide +kernel
theorem dX7_digest_15 : decode cX7_digest 15 = .ok (.ldc2_w 225, 3) := by decide +kernel
theorem dX7_digest_18 : decode cX7_digest 18 = .ok (.ldc2_w 225, 3) := by decide +kernel
theorem dX7_digest_21 : decode cX7_digest 21 = .ok (.lload_n 1, 1) := by decide +kernel
theorem dX7_digest_22 : decode cX7_digest 22 = .ok (.lmul, 1) := by decide +kernel
theorem dX7_digest_23 : decode cX7_digest 23 = .ok (.aload_n 0, 1) := by decide +kernel
theorem dX7_digest_24 : decode cX7_digest 24 = .ok (.getfield 20, 3) := by decide +kernel
theorem dX7_digest_27 : decode cX7_digest 27 = .ok (.iload_n 3, 1) := by decide +kernel
theorem dX7_digest_28 : decode cX7_digest 28 = .ok (.iaload, 1) := by decide +kernel
theorem dX7_digest_29 : decode cX7_digest 29 = .ok (.i2l, 1) := by decide +kernel
theorem dX7_digest_30 : decode cX7_digest 30 = .ok (.ladd, 1) := by decide +kernel
theorem dX7_digest_31 : decode cX7_digest 31 = .ok (.lmul, 1) := by decide +kernel
theorem dX7_digest_32 : decode cX7_digest 32 = .ok (.aload_n 0, 1) := by decide +kernel
theorem dX7_digest_33 : decode cX7_digest 33 = .ok (.getfield 23, 3) := by decide +kernel
theorem dX7_digest_36 : decode cX7_digest 36 = .ok (.iload_n 3, 1) := by decide +kernel
theorem dX7_digest_37 : decode cX7_digest 37 = .ok (.iaload, 1) := by decide +kernel
theorem dX7_digest_38 : decode cX7_digest 38 = .ok (.i2l, 1) := by decide +kernel
theorem dX7_digest_39 : decode cX7_digest 39 = .ok (.ladd, 1) := by decide +kernel
theorem dX7_digest_40 : decode cX7_digest 40 = .ok (.lmul, 1) := by decide +kernel
theorem dX7_digest_41 : decode cX7_digest 41 = .ok (.aload_n 0, 1) := by decide +kernel
theorem dX7_digest_42 : decode cX7_digest 42 = .ok (.getfield 26, 3) := by decide +kernel
theorem dX7_digest_45 : decode cX7_digest 45 = .ok (.iload_n 3, 1) := by decide +kernel
theorem dX7_digest_46 : decode cX7_digest 46 = .ok (.baload, 1) := by decide +kernel
theorem dX7_digest_47 : decode cX7_digest 47 = .ok (.ifCond .eq 7, 3) := by decide +kernel
theorem dX7_digest_50 : decode cX7_digest 50 = .ok (.iconst 1, 1) := by decide +kernel
theorem dX7_digest_51 : decode cX7_digest 51 = .ok (.goto 4, 3) := by decide +kernel
theorem dX7_digest_54 : decode cX7_digest 54 = .ok (.iconst 0, 1) := by decide +kernel
theorem dX7_digest_55 : decode cX7_digest 55 = .ok (.i2l, 1) := by decide +kernel
theorem dX7_digest_56 : decode cX7_digest 56 = .ok (.ladd, 1) := by decide +kernel
theorem dX7_digest_57 : decode cX7_digest 57 = .ok (.lstore_n 1, 1) := by decide +kernel
theorem dX7_digest_58 : decode cX7_digest 58 = .ok (.iinc 3 1, 3) := by decide +kernel
theorem dX7_digest_61 : decode cX7_digest 61 = .ok (.goto (-55), 3) := by decide +kernel
theorem dX7_digest_64 : decode cX7_digest 64 = .ok (.iconst 0, 1) := by decide +kernel
theorem dX7_digest_65 : decode cX7_digest 65 = .ok (.istore_n 3, 1) := by decide +kernel
theorem dX7_digest_66 : decode cX7_digest 66 = .ok (.iload_n 3, 1) := by decide +kernel
theorem dX7_digest_67 : decode cX7_digest 67 = .ok (.iconst 4, 1) := by decide +kernel
theorem dX7_digest_68 : decode cX7_digest 68 = .ok (.if_icmp .ge 57, 3) := by decide +kernel
theorem dX7_digest_71 : decode cX7_digest 71 = .ok (.iconst 0, 1) := by decide +kernel
theorem dX7_digest_72 : decode cX7_digest 72 = .ok (.istore 4, 2) := by decide +kernel
theorem dX7_digest_74 : decode cX7_digest 74 = .ok (.iload 4, 2) := by decide +kernel
theorem dX7_digest_76 : decode cX7_digest 76 = .ok (.iconst 4, 1) := by decide +kernel
theorem dX7_digest_77 : decode cX7_digest 77 = .ok (.if_icmp .ge 28, 3) := by decide +kernel
theorem dX7_digest_80 : decode cX7_digest 80 = .ok (.ldc2_w 225, 3) := by decide +kernel
theorem dX7_digest_83 : decode cX7_digest 83 = .ok (.lload_n 1, 1) := by decide +kernel
theorem dX7_digest_84 : decode cX7_digest 84 = .ok (.lmul, 1) := by decide +kernel
theorem dX7_digest_85 : decode cX7_digest 85 = .ok (.aload_n 0, 1) := by decide +kernel
theorem dX7_digest_86 : decode cX7_digest 86 = .ok (.getfield 30, 3) := by decide +kernel
theorem dX7_digest_89 : decode cX7_digest 89 = .ok (.iconst 4, 1) := by decide +kernel
theorem dX7_digest_90 : decode cX7_digest 90 = .ok (.iload_n 3, 1) := by decide +kernel
theorem dX7_digest_91 : decode cX7_digest 91 = .ok (.imul, 1) := by decide +kernel
theorem dX7_digest_92 : decode cX7_digest 92 = .ok (.iload 4, 2) := by decide +kernel
theorem dX7_digest_94 : decode cX7_digest 94 = .ok (.iadd, 1) := by decide +kernel
theorem dX7_digest_95 : decode cX7_digest 95 = .ok (.iaload, 1) := by decide +kernel
theorem dX7_digest_96 : decode cX7_digest 96 = .ok (.i2l, 1) := by decide +kernel
theorem dX7_digest_97 : decode cX7_digest 97 = .ok (.ladd, 1) := by decide +kernel
theorem dX7_digest_98 : decode cX7_digest 98 = .ok (.lstore_n 1, 1) := by decide +kernel
theorem dX7_digest_99 : decode cX7_digest 99 = .ok (.iinc 4 1, 3) := by decide +kernel
theorem dX7_digest_102 : decode cX7_digest 102 = .ok (.goto (-28), 3) := by decide +kernel
theorem dX7_digest_105 : decode cX7_digest 105 = .ok (.ldc2_w 225, 3) := by decide +kernel
theorem dX7_digest_108 : decode cX7_digest 108 = .ok (.lload_n 1, 1) := by decide +kernel
theorem dX7_digest_109 : decode cX7_digest 109 = .ok (.lmul, 1) := by decide +kernel
theorem dX7_digest_110 : decode cX7_digest 110 = .ok (.aload_n 0, 1) := by decide +kernel
theorem dX7_digest_111 : decode cX7_digest 111 = .ok (.getfield 33, 3) := by decide +kernel
theorem dX7_digest_114 : decode cX7_digest 114 = .ok (.iload_n 3, 1) := by decide +kernel
theorem dX7_digest_115 : decode cX7_digest 115 = .ok (.iaload, 1) := by decide +kernel
theorem dX7_digest_116 : decode cX7_digest 116 = .ok (.i2l, 1) := by decide +kernel
theorem dX7_digest_117 : decode cX7_digest 117 = .ok (.ladd, 1) := by decide +kernel
theorem dX7_digest_118 : decode cX7_digest 118 = .ok (.lstore_n 1, 1) := by decide +kernel
theorem dX7_digest_119 : decode cX7_digest 119 = .ok (.iinc 3 1, 3) := by decide +kernel
theorem dX7_digest_122 : decode cX7_digest 122 = .ok (.goto (-56), 3) := by decide +kernel
theorem dX7_digest_125 : decode cX7_digest 125 = .ok (.iconst 0, 1) := by decide +kernel
theorem dX7_digest_126 : decode cX7_digest 126 = .ok (.istore_n 3, 1) := by decide +kernel
theorem dX7_digest_127 : decode cX7_digest 127 = .ok (.iload_n 3, 1) := by decide +kernel
theorem dX7_digest_128 : decode cX7_digest 128 = .ok (.iconst 4, 1) := by decide +kernel
theorem dX7_digest_129 : decode cX7_digest 129 = .ok (.if_icmp .ge 35, 3) := by decide +kernel
theorem dX7_digest_132 : decode cX7_digest 132 = .ok (.ldc2_w 225, 3) := by decide +kernel
theorem dX7_digest_135 : decode cX7_digest 135 = .ok (.ldc2_w 225, 3) := by decide +kernel
theorem dX7_digest_138 : decode cX7_digest 138 = .ok (.lload_n 1, 1) := by decide +kernel
theorem dX7_digest_139 : decode cX7_digest 139 = .ok (.lmul, 1) := by decide +kernel
theorem dX7_digest_140 : decode cX7_digest 140 = .ok (.aload_n 0, 1) := by decide +kernel
theorem dX7_digest_141 : decode cX7_digest 141 = .ok (.getfield 65, 3) := by decide +kernel
theorem dX7_digest_144 : decode cX7_digest 144 = .ok (.iload_n 3, 1) := by decide +kernel
theorem dX7_digest_145 : decode cX7_digest 145 = .ok (.iaload, 1) := by decide +kernel
theorem dX7_digest_146 : decode cX7_digest 146 = .ok (.i2l, 1) := by decide +kernel
theorem dX7_digest_147 : decode cX7_digest 147 = .ok (.ladd, 1) := by decide +kernel
theorem dX7_digest_148 : decode cX7_digest 148 = .ok (.lmul, 1) := by decide +kernel
theorem dX7_digest_149 : decode cX7_digest 149 = .ok (.aload_n 0, 1) := by decide +kernel
theorem dX7_digest_150 : decode cX7_digest 150 = .ok (.getfield 68, 3) := by decide +kernel
theorem dX7_digest_153 : decode cX7_digest 153 = .ok (.iload_n 3, 1) := by decide +kernel
theorem dX7_digest_154 : decode cX7_digest 154 = .ok (.iaload, 1) := by decide +kernel
theorem dX7_digest_155 : decode cX7_digest 155 = .ok (.i2l, 1) := by decide +kernel
theorem dX7_digest_156 : decode cX7_digest 156 = .ok (.ladd, 1) := by decide +kernel
theorem dX7_digest_157 : decode cX7_digest 157 = .ok (.lstore_n 1, 1) := by decide +kernel
theorem dX7_digest_158 : decode cX7_digest 158 = .ok (.iinc 3 1, 3) := by decide +kernel
theorem dX7_digest_161 : decode cX7_digest 161 = .ok (.goto (-34), 3) := by decide +kernel
theorem dX7_digest_164 : decode cX7_digest 164 = .ok (.iconst 0, 1) := by decide +kernel
theorem dX7_digest_165 : decode cX7_digest 165 = .ok (.istore_n 3, 1) := by decide +kernel
theorem dX7_digest_166 : decode cX7_digest 166 = .ok (.iload_n 3, 1) := by decide +kernel
theorem dX7_digest_167 : decode cX7_digest 167 = .ok (.iconst 3, 1) := by decide +kernel
theorem dX7_digest_168 : decode cX7_digest 168 = .ok (.if_icmp .ge 35, 3) := by decide +kernel
theorem dX7_digest_171 : decode cX7_digest 171 = .ok (.ldc2_w 225, 3) := by decide +kernel
theorem dX7_digest_174 : decode cX7_digest 174 = .ok (.ldc2_w 225, 3) := by decide +kernel
theorem dX7_digest_177 : decode cX7_digest 177 = .ok (.lload_n 1, 1) := by decide +kernel
theorem dX7_digest_178 : decode cX7_digest 178 = .ok (.lmul, 1) := by decide +kernel
theorem dX7_digest_179 : decode cX7_digest 179 = .ok (.aload_n 0, 1) := by decide +kernel
theorem dX7_digest_180 : decode cX7_digest 180 = .ok (.iload_n 3, 1) := by decide +kernel
theorem dX7_digest_181 : decode cX7_digest 181 = .ok (.iconst 0, 1) := by decide +kernel
theorem dX7_digest_182 : decode cX7_digest 182 = .ok (.invokevirtual 207, 3) := by decide +kernel
theorem dX7_digest_185 : decode cX7_digest 185 = .ok (.i2l, 1) := by decide +kernel
theorem dX7_digest_186 : decode cX7_digest 186 = .ok (.ladd, 1) := by decide +kernel
theorem dX7_digest_187 : decode cX7_digest 187 = .ok (.lmul, 1) := by decide +kernel
theorem dX7_digest_188 : decode cX7_digest 188 = .ok (.aload_n 0, 1) := by decide +kernel
theorem dX7_digest_189 : decode cX7_digest 189 = .ok (.iload_n 3, 1) := by decide +kernel
theorem dX7_digest_190 : decode cX7_digest 190 = .ok (.iconst 1, 1) := by decide +kernel
theorem dX7_digest_191 : decode cX7_digest 191 = .ok (.invokevirtual 207, 3) := by decide +kernel
theorem dX7_digest_194 : decode cX7_digest 194 = .ok (.i2l, 1) := by decide +kernel
theorem dX7_digest_195 : decode cX7_digest 195 = .ok (.ladd, 1) := by decide +kernel
theorem dX7_digest_196 : decode cX7_digest 196 = .ok (.lstore_n 1, 1) := by decide +kernel
theorem dX7_digest_197 : decode cX7_digest 197 = .ok (.iinc 3 1, 3) := by decide +kernel
theorem dX7_digest_200 : decode cX7_digest 200 = .ok (.goto (-34), 3) := by decide +kernel
theorem dX7_digest_203 : decode cX7_digest 203 = .ok (.iconst 0, 1) := by decide +kernel
theorem dX7_digest_204 : decode cX7_digest 204 = .ok (.istore_n 3, 1) := by decide +kernel
theorem dX7_digest_205 : decode cX7_digest 205 = .ok (.iload_n 3, 1) := by decide +kernel
theorem dX7_digest_206 : decode cX7_digest 206 = .ok (.bipush 7, 2) := by decide +kernel
theorem dX7_digest_208 : decode cX7_digest 208 = .ok (.if_icmp .ge 71, 3) := by decide +kernel
theorem dX7_digest_211 : decode cX7_digest 211 = .ok (.aload_n 0, 1) := by decide +kernel
theorem dX7_digest_212 : decode cX7_digest 212 = .ok (.getfield 101, 3) := by decide +kernel
theorem dX7_digest_215 : decode cX7_digest 215 = .ok (.iload_n 3, 1) := by decide +kernel
theorem dX7_digest_216 : decode cX7_digest 216 = .ok (.baload, 1) := by decide +kernel
theorem dX7_digest_217 : decode cX7_digest 217 = .ok (.ifCond .ne 11, 3) := by decide +kernel
theorem dX7_digest_220 : decode cX7_digest 220 = .ok (.ldc2_w 225, 3) := by decide +kernel
theorem dX7_digest_223 : decode cX7_digest 223 = .ok (.lload_n 1, 1) := by decide +kernel
theorem dX7_digest_224 : decode cX7_digest 224 = .ok (.lmul, 1) := by decide +kernel
theorem dX7_digest_225 : decode cX7_digest 225 = .ok (.lconst 1, 1) := by decide +kernel
theorem dX7_digest_226 : decode cX7_digest 226 = .ok (.lsub, 1) := by decide +kernel
theorem dX7_digest_227 : decode cX7_digest 227 = .ok (.lstore_n 1, 1) := by decide +kernel
theorem dX7_digest_228 : decode cX7_digest 228 = .ok (.iconst 0, 1) := by decide +kernel
theorem dX7_digest_229 : decode cX7_digest 229 = .ok (.istore 4, 2) := by decide +kernel
theorem dX7_digest_231 : decode cX7_digest 231 = .ok (.iload 4, 2) := by decide +kernel
theorem dX7_digest_233 : decode cX7_digest 233 = .ok (.bipush 24, 2) := by decide +kernel
theorem dX7_digest_235 : decode cX7_digest 235 = .ok (.if_icmp .ge 38, 3) := by decide +kernel
theorem dX7_digest_238 : decode cX7_digest 238 = .ok (.aload_n 0, 1) := by decide +kernel
theorem dX7_digest_239 : decode cX7_digest 239 = .ok (.getfield 101, 3) := by decide +kernel
theorem dX7_digest_242 : decode cX7_digest 242 = .ok (.iload_n 3, 1) := by decide +kernel
theorem dX7_digest_243 : decode cX7_digest 243 = .ok (.baload, 1) := by decide +kernel
theorem dX7_digest_244 : decode cX7_digest 244 = .ok (.ifCond .eq 29, 3) := by decide +kernel
theorem dX7_digest_247 : decode cX7_digest 247 = .ok (.ldc2_w 225, 3) := by decide +kernel
theorem dX7_digest_250 : decode cX7_digest 250 = .ok (.lload_n 1, 1) := by decide +kernel
theorem dX7_digest_251 : decode cX7_digest 251 = .ok (.lmul, 1) := by decide +kernel
theorem dX7_digest_252 : decode cX7_digest 252 = .ok (.aload_n 0, 1) := by decide +kernel
theorem dX7_digest_253 : decode cX7_digest 253 = .ok (.getfield 104, 3) := by decide +kernel
theorem dX7_digest_256 : decode cX7_digest 256 = .ok (.bipush 24, 2) := by decide +kernel
theorem dX7_digest_258 : decode cX7_digest 258 = .ok (.iload_n 3, 1) := by decide +kernel
theorem dX7_digest_259 : decode cX7_digest 259 = .ok (.imul, 1) := by decide +kernel
theorem dX7_digest_260 : decode cX7_digest 260 = .ok (.iload 4, 2) := by decide +kernel
theorem dX7_digest_262 : decode cX7_digest 262 = .ok (.iadd, 1) := by decide +kernel
theorem dX7_digest_263 : decode cX7_digest 263 = .ok (.iaload, 1) := by decide +kernel
theorem dX7_digest_264 : decode cX7_digest 264 = .ok (.i2l, 1) := by decide +kernel
theorem dX7_digest_265 : decode cX7_digest 265 = .ok (.ladd, 1) := by decide +kernel
theorem dX7_digest_266 : decode cX7_digest 266 = .ok (.lstore_n 1, 1) := by decide +kernel
theorem dX7_digest_267 : decode cX7_digest 267 = .ok (.iinc 4 1, 3) := by decide +kernel
theorem dX7_digest_270 : decode cX7_digest 270 = .ok (.goto (-39), 3) := by decide +kernel
theorem dX7_digest_273 : decode cX7_digest 273 = .ok (.iinc 3 1, 3) := by decide +kernel
theorem dX7_digest_276 : decode cX7_digest 276 = .ok (.goto (-71), 3) := by decide +kernel
theorem dX7_digest_279 : decode cX7_digest 279 = .ok (.iconst 0, 1) := by decide +kernel
theorem dX7_digest_280 : decode cX7_digest 280 = .ok (.istore_n 3, 1) := by decide +kernel
theorem dX7_digest_281 : decode cX7_digest 281 = .ok (.iload_n 3, 1) := by decide +kernel
theorem dX7_digest_282 : decode cX7_digest 282 = .ok (.bipush 24, 2) := by decide +kernel
theorem dX7_digest_284 : decode cX7_digest 284 = .ok (.if_icmp .ge 23, 3) := by decide +kernel
theorem dX7_digest_287 : decode cX7_digest 287 = .ok (.ldc2_w 225, 3) := by decide +kernel
theorem dX7_digest_290 : decode cX7_digest 290 = .ok (.lload_n 1, 1) := by decide +kernel
theorem dX7_digest_291 : decode cX7_digest 291 = .ok (.lmul, 1) := by decide +kernel
theorem dX7_digest_292 : decode cX7_digest 292 = .ok (.aload_n 0, 1) := by decide +kernel
theorem dX7_digest_293 : decode cX7_digest 293 = .ok (.getfield 107, 3) := by decide +kernel
theorem dX7_digest_296 : decode cX7_digest 296 = .ok (.iload_n 3, 1) := by decide +kernel
theorem dX7_digest_297 : decode cX7_digest 297 = .ok (.iaload, 1) := by decide +kernel
theorem dX7_digest_298 : decode cX7_digest 298 = .ok (.i2l, 1) := by decide +kernel
theorem dX7_digest_299 : decode cX7_digest 299 = .ok (.ladd, 1) := by decide +kernel
theorem dX7_digest_300 : decode cX7_digest 300 = .ok (.lstore_n 1, 1) := by decide +kernel
theorem dX7_digest_301 : decode cX7_digest 301 = .ok (.iinc 3 1, 3) := by decide +kernel
theorem dX7_digest_304 : decode cX7_digest 304 = .ok (.goto (-23), 3) := by decide +kernel
theorem dX7_digest_307 : decode cX7_digest 307 = .ok (.iconst 0, 1) := by decide +kernel
theorem dX7_digest_308 : decode cX7_digest 308 = .ok (.istore_n 3, 1) := by decide +kernel
theorem dX7_digest_309 : decode cX7_digest 309 = .ok (.iload_n 3, 1) := by decide +kernel
theorem dX7_digest_310 : decode cX7_digest 310 = .ok (.iconst 4, 1) := by decide +kernel
theorem dX7_digest_311 : decode cX7_digest 311 = .ok (.if_icmp .gt 22, 3) := by decide +kernel
theorem dX7_digest_314 : decode cX7_digest 314 = .ok (.ldc2_w 225, 3) := by decide +kernel
theorem dX7_digest_317 : decode cX7_digest 317 = .ok (.lload_n 1, 1) := by decide +kernel
theorem dX7_digest_318 : decode cX7_digest 318 = .ok (.lmul, 1) := by decide +kernel
theorem dX7_digest_319 : decode cX7_digest 319 = .ok (.aload_n 0, 1) := by decide +kernel
theorem dX7_digest_320 : decode cX7_digest 320 = .ok (.iload_n 3, 1) := by decide +kernel
theorem dX7_digest_321 : decode cX7_digest 321 = .ok (.invokevirtual 220, 3) := by decide +kernel
theorem dX7_digest_324 : decode cX7_digest 324 = .ok (.i2l, 1) := by decide +kernel
theorem dX7_digest_325 : decode cX7_digest 325 = .ok (.ladd, 1) := by decide +kernel
theorem dX7_digest_326 : decode cX7_digest 326 = .ok (.lstore_n 1, 1) := by decide +kernel
theorem dX7_digest_327 : decode cX7_digest 327 = .ok (.iinc 3 1, 3) := by decide +kernel
theorem dX7_digest_330 : decode cX7_digest 330 = .ok (.goto (-21), 3) := by decide +kernel
theorem dX7_digest_333 : decode cX7_digest 333 = .ok (.lload_n 1, 1) := by decide +kernel
theorem dX7_digest_334 : decode cX7_digest 334 = .ok (.lreturn, 1) := by decide +kernel
theorem dJ9_abs_0f7a4_0 : decode cJ9_abs_0f7a4 0 = .ok (.iload_n 0, 1) := by decide +kernel
theorem dJ9_abs_0f7a4_1 : decode cJ9_abs_0f7a4 1 = .ok (.ifCond .ge 8, 3) := by decide +kernel
theorem dJ9_abs_0f7a4_4 : decode cJ9_abs_0f7a4 4 = .ok (.iload_n 0, 1) := by decide +kernel
theorem dJ9_abs_0f7a4_5 : decode cJ9_abs_0f7a4 5 = .ok (.ineg, 1) := by decide +kernel
theorem dJ9_abs_0f7a4_6 : decode cJ9_abs_0f7a4 6 = .ok (.goto 4, 3) := by decide +kernel
theorem dJ9_abs_0f7a4_9 : decode cJ9_abs_0f7a4 9 = .ok (.iload_n 0, 1) := by decide +kernel
theorem dJ9_abs_0f7a4_10 : decode cJ9_abs_0f7a4 10 = .ok (.ireturn, 1) := by decide +kernel
theorem dJ9_max_7cf53_0 : decode cJ9_max_7cf53 0 = .ok (.iload_n 0, 1) := by decide +kernel
theorem dJ9_max_7cf53_1 : decode cJ9_max_7cf53 1 = .ok (.iload_n 1, 1) := by decide +kernel
theorem dJ9_max_7cf53_2 : decode cJ9_max_7cf53 2 = .ok (.if_icmp .lt 7, 3) := by decide +kernel
theorem dJ9_max_7cf53_5 : decode cJ9_max_7cf53 5 = .ok (.iload_n 0, 1) := by decide +kernel
theorem dJ9_max_7cf53_6 : decode cJ9_max_7cf53 6 = .ok (.goto 4, 3) := by decide +kernel
theorem dJ9_max_7cf53_9 : decode cJ9_max_7cf53 9 = .ok (.iload_n 1, 1) := by decide +kernel
theorem dJ9_max_7cf53_10 : decode cJ9_max_7cf53 10 = .ok (.ireturn, 1) := by decide +kernel
theorem dJ9_min_7cf53_0 : decode cJ9_min_7cf53 0 = .ok (.iload_n 0, 1) := by decide +kernel
theorem dJ9_min_7cf53_1 : decode cJ9_min_7cf53 1 = .ok (.iload_n 1, 1) := by decide +kernel
theorem dJ9_min_7cf53_2 : decode cJ9_min_7cf53 2 = .ok (.if_icmp .gt 7, 3) := by decide +kernel
theorem dJ9_min_7cf53_5 : decode cJ9_min_7cf53 5 = .ok (.iload_n 0, 1) := by decide +kernel
theorem dJ9_min_7cf53_6 : decode cJ9_min_7cf53 6 = .ok (.goto 4, 3) := by decide +kernel
theorem dJ9_min_7cf53_9 : decode cJ9_min_7cf53 9 = .ok (.iload_n 1, 1) := by decide +kernel
theorem dJ9_min_7cf53_10 : decode cJ9_min_7cf53 10 = .ok (.ireturn, 1) := by decide +kernel
theorem dJ9_min_f86c9_0 : decode cJ9_min_f86c9 0 = .ok (.lload_n 0, 1) := by decide +kernel
theorem dJ9_min_f86c9_1 : decode cJ9_min_f86c9 1 = .ok (.lload_n 2, 1) := by decide +kernel
theorem dJ9_min_f86c9_2 : decode cJ9_min_f86c9 2 = .ok (.lcmp, 1) := by decide +kernel
theorem dJ9_min_f86c9_3 : decode cJ9_min_f86c9 3 = .ok (.ifCond .gt 7, 3) := by decide +kernel
theorem dJ9_min_f86c9_6 : decode cJ9_min_f86c9 6 = .ok (.lload_n 0, 1) := by decide +kernel
theorem dJ9_min_f86c9_7 : decode cJ9_min_f86c9 7 = .ok (.goto 4, 3) := by decide +kernel
theorem dJ9_min_f86c9_10 : decode cJ9_min_f86c9 10 = .ok (.lload_n 2, 1) := by decide +kernel
theorem dJ9_min_f86c9_11 : decode cJ9_min_f86c9 11 = .ok (.lreturn, 1) := by decide +kernel
theorem dJ7_fill_d0a16_0 : decode cJ7_fill_d0a16 0 = .ok (.iconst 0, 1) := by decide +kernel
theorem dJ7_fill_d0a16_1 : decode cJ7_fill_d0a16 1 = .ok (.istore_n 3, 1) := by decide +kernel
theorem dJ7_fill_d0a16_2 : decode cJ7_fill_d0a16 2 = .ok (.aload_n 0, 1) := by decide +kernel
theorem dJ7_fill_d0a16_3 : decode cJ7_fill_d0a16 3 = .ok (.arraylength, 1) := by decide +kernel
theorem dJ7_fill_d0a16_4 : decode cJ7_fill_d0a16 4 = .ok (.istore 4, 2) := by decide +kernel
theorem dJ7_fill_d0a16_6 : decode cJ7_fill_d0a16 6 = .ok (.iload_n 3, 1) := by decide +kernel
theorem dJ7_fill_d0a16_7 : decode cJ7_fill_d0a16 7 = .ok (.iload 4, 2) := by decide +kernel
theorem dJ7_fill_d0a16_9 : decode cJ7_fill_d0a16 9 = .ok (.if_icmp .ge 13, 3) := by decide +kernel
theorem dJ7_fill_d0a16_12 : decode cJ7_fill_d0a16 12 = .ok (.aload_n 0, 1) := by decide +kernel
theorem dJ7_fill_d0a16_13 : decode cJ7_fill_d0a16 13 = .ok (.iload_n 3, 1) := by decide +kernel
theorem dJ7_fill_d0a16_14 : decode cJ7_fill_d0a16 14 = .ok (.lload_n 1, 1) := by decide +kernel
theorem dJ7_fill_d0a16_15 : decode cJ7_fill_d0a16 15 = .ok (.lastore, 1) := by decide +kernel
theorem dJ7_fill_d0a16_16 : decode cJ7_fill_d0a16 16 = .ok (.iinc 3 1, 3) := by decide +kernel
theorem dJ7_fill_d0a16_19 : decode cJ7_fill_d0a16 19 = .ok (.goto (-13), 3) := by decide +kernel
theorem dJ7_fill_d0a16_22 : decode cJ7_fill_d0a16 22 = .ok (.return_, 1) := by decide +kernel
theorem dJ7_fill_53178_0 : decode cJ7_fill_53178 0 = .ok (.iconst 0, 1) := by decide +kernel
theorem dJ7_fill_53178_1 : decode cJ7_fill_53178 1 = .ok (.istore_n 2, 1) := by decide +kernel
theorem dJ7_fill_53178_2 : decode cJ7_fill_53178 2 = .ok (.aload_n 0, 1) := by decide +kernel
theorem dJ7_fill_53178_3 : decode cJ7_fill_53178 3 = .ok (.arraylength, 1) := by decide +kernel
theorem dJ7_fill_53178_4 : decode cJ7_fill_53178 4 = .ok (.istore_n 3, 1) := by decide +kernel
theorem dJ7_fill_53178_5 : decode cJ7_fill_53178 5 = .ok (.iload_n 2, 1) := by decide +kernel
theorem dJ7_fill_53178_6 : decode cJ7_fill_53178 6 = .ok (.iload_n 3, 1) := by decide +kernel
theorem dJ7_fill_53178_7 : decode cJ7_fill_53178 7 = .ok (.if_icmp .ge 13, 3) := by decide +kernel
theorem dJ7_fill_53178_10 : decode cJ7_fill_53178 10 = .ok (.aload_n 0, 1) := by decide +kernel
theorem dJ7_fill_53178_11 : decode cJ7_fill_53178 11 = .ok (.iload_n 2, 1) := by decide +kernel
theorem dJ7_fill_53178_12 : decode cJ7_fill_53178 12 = .ok (.iload_n 1, 1) := by decide +kernel
theorem dJ7_fill_53178_13 : decode cJ7_fill_53178 13 = .ok (.iastore, 1) := by decide +kernel
theorem dJ7_fill_53178_14 : decode cJ7_fill_53178 14 = .ok (.iinc 2 1, 3) := by decide +kernel
theorem dJ7_fill_53178_17 : decode cJ7_fill_53178 17 = .ok (.goto (-12), 3) := by decide +kernel
theorem dJ7_fill_53178_20 : decode cJ7_fill_53178 20 = .ok (.return_, 1) := by decide +kernel
theorem dL_law_0 : decode cL_law 0 = .ok (.new 7, 3) := by decide +kernel
theorem dL_law_3 : decode cL_law 3 = .ok (.dup, 1) := by decide +kernel
theorem dL_law_4 : decode cL_law 4 = .ok (.invokespecial 9, 3) := by decide +kernel
theorem dL_law_7 : decode cL_law 7 = .ok (.astore_n 1, 1) := by decide +kernel
theorem dL_law_8 : decode cL_law 8 = .ok (.new 10, 3) := by decide +kernel
theorem dL_law_11 : decode cL_law 11 = .ok (.dup, 1) := by decide +kernel
theorem dL_law_12 : decode cL_law 12 = .ok (.invokespecial 12, 3) := by decide +kernel
theorem dL_law_15 : decode cL_law 15 = .ok (.astore_n 2, 1) := by decide +kernel
theorem dL_law_16 : decode cL_law 16 = .ok (.iconst 0, 1) := by decide +kernel
theorem dL_law_17 : decode cL_law 17 = .ok (.istore_n 3, 1) := by decide +kernel
theorem dL_law_18 : decode cL_law 18 = .ok (.iload_n 3, 1) := by decide +kernel
theorem dL_law_19 : decode cL_law 19 = .ok (.aload_n 0, 1) := by decide +kernel
theorem dL_law_20 : decode cL_law 20 = .ok (.arraylength, 1) := by decide +kernel
theorem dL_law_21 : decode cL_law 21 = .ok (.bipush 6, 2) := by decide +kernel
theorem dL_law_23 : decode cL_law 23 = .ok (.isub, 1) := by decide +kernel
theorem dL_law_24 : decode cL_law 24 = .ok (.if_icmp .gt 1233, 3) := by decide +kernel
theorem dL_law_27 : decode cL_law 27 = .ok (.aload_n 0, 1) := by decide +kernel
theorem dL_law_28 : decode cL_law 28 = .ok (.iload_n 3, 1) := by decide +kernel
theorem dL_law_29 : decode cL_law 29 = .ok (.iaload, 1) := by decide +kernel
theorem dL_law_30 : decode cL_law 30 = .ok (.bipush 63, 2) := by decide +kernel
theorem dL_law_32 : decode cL_law 32 = .ok (.iand, 1) := by decide +kernel
theorem dL_law_33 : decode cL_law 33 = .ok (.tableswitch 1218 0 38 #[171, 214, 237, 270, 283, 306, 319, 372, 415, 438, 461, 474, 507, 540, 579, 592, 605, 648, 661, 694, 727, 750, 773, 786, 819, 852, 885, 908, 951, 974, 1037, 1070, 1103, 1117, 1131, 1145, 1168, 1181, 1204], 171) := by decide +kernel
theorem dL_law_204 : decode cL_law 204 = .ok (.aload_n 1, 1) := by decide +kernel
theorem dL_law_205 : decode cL_law 205 = .ok (.aload_n 0, 1) := by decide +kernel
theorem dL_law_206 : decode cL_law 206 = .ok (.iload_n 3, 1) := by decide +kernel
theorem dL_law_207 : decode cL_law 207 = .ok (.iconst 1, 1) := by decide +kernel
theorem dL_law_208 : decode cL_law 208 = .ok (.iadd, 1) := by decide +kernel
theorem dL_law_209 : decode cL_law 209 = .ok (.iaload, 1) := by decide +kernel
theorem dL_law_210 : decode cL_law 210 = .ok (.aload_n 0, 1) := by decide +kernel
theorem dL_law_211 : decode cL_law 211 = .ok (.iload_n 3, 1) := by decide +kernel
theorem dL_law_212 : decode cL_law 212 = .ok (.iconst 2, 1) := by decide +kernel
theorem dL_law_213 : decode cL_law 213 = .ok (.iadd, 1) := by decide +kernel
theorem dL_law_214 : decode cL_law 214 = .ok (.iaload, 1) := by decide +kernel
theorem dL_law_215 : decode cL_law 215 = .ok (.aload_n 0, 1) := by decide +kernel
theorem dL_law_216 : decode cL_law 216 = .ok (.iload_n 3, 1) := by decide +kernel
theorem dL_law_217 : decode cL_law 217 = .ok (.iconst 3, 1) := by decide +kernel
theorem dL_law_218 : decode cL_law 218 = .ok (.iadd, 1) := by decide +kernel
theorem dL_law_219 : decode cL_law 219 = .ok (.iaload, 1) := by decide +kernel
theorem dL_law_220 : decode cL_law 220 = .ok (.invokevirtual 13, 3) := by decide +kernel
theorem dL_law_223 : decode cL_law 223 = .ok (.aload_n 2, 1) := by decide +kernel
theorem dL_law_224 : decode cL_law 224 = .ok (.aload_n 0, 1) := by decide +kernel
theorem dL_law_225 : decode cL_law 225 = .ok (.iload_n 3, 1) := by decide +kernel
theorem dL_law_226 : decode cL_law 226 = .ok (.iconst 1, 1) := by decide +kernel
theorem dL_law_227 : decode cL_law 227 = .ok (.iadd, 1) := by decide +kernel
theorem dL_law_228 : decode cL_law 228 = .ok (.iaload, 1) := by decide +kernel
theorem dL_law_229 : decode cL_law 229 = .ok (.aload_n 0, 1) := by decide +kernel
theorem dL_law_230 : decode cL_law 230 = .ok (.iload_n 3, 1) := by decide +kernel
theorem dL_law_231 : decode cL_law 231 = .ok (.iconst 2, 1) := by decide +kernel
theorem dL_law_232 : decode cL_law 232 = .ok (.iadd, 1) := by decide +kernel
theorem dL_law_233 : decode cL_law 233 = .ok (.iaload, 1) := by decide +kernel
theorem dL_law_234 : decode cL_law 234 = .ok (.aload_n 0, 1) := by decide +kernel
theorem dL_law_235 : decode cL_law 235 = .ok (.iload_n 3, 1) := by decide +kernel
theorem dL_law_236 : decode cL_law 236 = .ok (.iconst 3, 1) := by decide +kernel
theorem dL_law_237 : decode cL_law 237 = .ok (.iadd, 1) := by decide +kernel
theorem dL_law_238 : decode cL_law 238 = .ok (.iaload, 1) := by decide +kernel
theorem dL_law_239 : decode cL_law 239 = .ok (.invokevirtual 17, 3) := by decide +kernel
theorem dL_law_242 : decode cL_law 242 = .ok (.if_icmp .eq 1009, 3) := by decide +kernel
theorem dL_law_245 : decode cL_law 245 = .ok (.iconst 0, 1) := by decide +kernel
theorem dL_law_246 : decode cL_law 246 = .ok (.ireturn, 1) := by decide +kernel
theorem dL_law_247 : decode cL_law 247 = .ok (.aload_n 1, 1) := by decide +kernel
theorem dL_law_248 : decode cL_law 248 = .ok (.aload_n 0, 1) := by decide +kernel
theorem dL_law_249 : decode cL_law 249 = .ok (.iload_n 3, 1) := by decide +kernel
theorem dL_law_250 : decode cL_law 250 = .ok (.iconst 1, 1) := by decide +kernel
theorem dL_law_251 : decode cL_law 251 = .ok (.iadd, 1) := by decide +kernel
theorem dL_law_252 : decode cL_law 252 = .ok (.iaload, 1) := by decide +kernel
theorem dL_law_253 : decode cL_law 253 = .ok (.invokevirtual 18, 3) := by decide +kernel
theorem dL_law_256 : decode cL_law 256 = .ok (.aload_n 2, 1) := by decide +kernel
theorem dL_law_257 : decode cL_law 257 = .ok (.aload_n 0, 1) := by decide +kernel
theorem dL_law_258 : decode cL_law 258 = .ok (.iload_n 3, 1) := by decide +kernel
theorem dL_law_259 : decode cL_law 259 = .ok (.iconst 1, 1) := by decide +kernel
theorem dL_law_260 : decode cL_law 260 = .ok (.iadd, 1) := by decide +kernel
theorem dL_law_261 : decode cL_law 261 = .ok (.iaload, 1) := by decide +kernel
theorem dL_law_262 : decode cL_law 262 = .ok (.invokevirtual 22, 3) := by decide +kernel
theorem dL_law_265 : decode cL_law 265 = .ok (.if_icmp .eq 986, 3) := by decide +kernel
theorem dL_law_268 : decode cL_law 268 = .ok (.iconst 0, 1) := by decide +kernel
theorem dL_law_269 : decode cL_law 269 = .ok (.ireturn, 1) := by decide +kernel
theorem dL_law_270 : decode cL_law 270 = .ok (.aload_n 1, 1) := by decide +kernel
theorem dL_law_271 : decode cL_law 271 = .ok (.aload_n 0, 1) := by decide +kernel
theorem dL_law_272 : decode cL_law 272 = .ok (.iload_n 3, 1) := by decide +kernel
theorem dL_law_273 : decode cL_law 273 = .ok (.iconst 1, 1) := by decide +kernel
theorem dL_law_274 : decode cL_law 274 = .ok (.iadd, 1) := by decide +kernel
theorem dL_law_275 : decode cL_law 275 = .ok (.iaload, 1) := by decide +kernel
theorem dL_law_276 : decode cL_law 276 = .ok (.aload_n 0, 1) := by decide +kernel
theorem dL_law_277 : decode cL_law 277 = .ok (.iload_n 3, 1) := by decide +kernel
theorem dL_law_278 : decode cL_law 278 = .ok (.iconst 2, 1) := by decide +kernel
theorem dL_law_279 : decode cL_law 279 = .ok (.iadd, 1) := by decide +kernel
theorem dL_law_280 : decode cL_law 280 = .ok (.iaload, 1) := by decide +kernel
theorem dL_law_281 : decode cL_law 281 = .ok (.invokevirtual 23, 3) := by decide +kernel
theorem dL_law_284 : decode cL_law 284 = .ok (.aload_n 2, 1) := by decide +kernel
theorem dL_law_285 : decode cL_law 285 = .ok (.aload_n 0, 1) := by decide +kernel
theorem dL_law_286 : decode cL_law 286 = .ok (.iload_n 3, 1) := by decide +kernel
theorem dL_law_287 : decode cL_law 287 = .ok (.iconst 1, 1) := by decide +kernel
theorem dL_law_288 : decode cL_law 288 = .ok (.iadd, 1) := by decide +kernel
theorem dL_law_289 : decode cL_law 289 = .ok (.iaload, 1) := by decide +kernel
theorem dL_law_290 : decode cL_law 290 = .ok (.aload_n 0, 1) := by decide +kernel
theorem dL_law_291 : decode cL_law 291 = .ok (.iload_n 3, 1) := by decide +kernel
theorem dL_law_292 : decode cL_law 292 = .ok (.iconst 2, 1) := by decide +kernel
theorem dL_law_293 : decode cL_law 293 = .ok (.iadd, 1) := by decide +kernel
theorem dL_law_294 : decode cL_law 294 = .ok (.iaload, 1) := by decide +kernel
theorem dL_law_295 : decode cL_law 295 = .ok (.invokevirtual 27, 3) := by decide +kernel
theorem dL_law_298 : decode cL_law 298 = .ok (.if_icmp .eq 953, 3) := by decide +kernel
theorem dL_law_301 : decode cL_law 301 = .ok (.iconst 0, 1) := by decide +kernel
theorem dL_law_302 : decode cL_law 302 = .ok (.ireturn, 1) := by decide +kernel
theorem dL_law_303 : decode cL_law 303 = .ok (.aload_n 1, 1) := by decide +kernel
theorem dL_law_304 : decode cL_law 304 = .ok (.invokevirtual 28, 3) := by decide +kernel
theorem dL_law_307 : decode cL_law 307 = .ok (.aload_n 2, 1) := by decide +kernel
theorem dL_law_308 : decode cL_law 308 = .ok (.invokevirtual 32, 3) := by decide +kernel
theorem dL_law_311 : decode cL_law 311 = .ok (.if_icmp .eq 940, 3) := by decide +kernel
theorem dL_law_314 : decode cL_law 314 = .ok (.iconst 0, 1) := by decide +kernel
theorem dL_law_315 : decode cL_law 315 = .ok (.ireturn, 1) := by decide +kernel
theorem dL_law_316 : decode cL_law 316 = .ok (.aload_n 1, 1) := by decide +kernel
theorem dL_law_317 : decode cL_law 317 = .ok (.aload_n 0, 1) := by decide +kernel
theorem dL_law_318 : decode cL_law 318 = .ok (.iload_n 3, 1) := by decide +kernel
theorem dL_law_319 : decode cL_law 319 = .ok (.iconst 1, 1) := by decide +kernel
theorem dL_law_320 : decode cL_law 320 = .ok (.iadd, 1) := by decide +kernel
theorem dL_law_321 : decode cL_law 321 = .ok (.iaload, 1) := by decide +kernel
theorem dL_law_322 : decode cL_law 322 = .ok (.invokevirtual 33, 3) := by decide +kernel
theorem dL_law_325 : decode cL_law 325 = .ok (.aload_n 2, 1) := by decide +kernel
theorem dL_law_326 : decode cL_law 326 = .ok (.aload_n 0, 1) := by decide +kernel
theorem dL_law_327 : decode cL_law 327 = .ok (.iload_n 3, 1) := by decide +kernel
theorem dL_law_328 : decode cL_law 328 = .ok (.iconst 1, 1) := by decide +kernel
theorem dL_law_329 : decode cL_law 329 = .ok (.iadd, 1) := by decide +kernel
theorem dL_law_330 : decode cL_law 330 = .ok (.iaload, 1) := by decide +kernel
theorem dL_law_331 : decode cL_law 331 = .ok (.invokevirtual 36, 3) := by decide +kernel
theorem dL_law_334 : decode cL_law 334 = .ok (.if_icmp .eq 917, 3) := by decide +kernel
theorem dL_law_337 : decode cL_law 337 = .ok (.iconst 0, 1) := by decide +kernel
theorem dL_law_338 : decode cL_law 338 = .ok (.ireturn, 1) := by decide +kernel
theorem dL_law_339 : decode cL_law 339 = .ok (.aload_n 1, 1) := by decide +kernel
theorem dL_law_340 : decode cL_law 340 = .ok (.invokevirtual 37, 3) := by decide +kernel
theorem dL_law_343 : decode cL_law 343 = .ok (.aload_n 2, 1) := by decide +kernel
theorem dL_law_344 : decode cL_law 344 = .ok (.invokevirtual 40, 3) := by decide +kernel
theorem dL_law_347 : decode cL_law 347 = .ok (.if_icmp .eq 904, 3) := by decide +kernel
theorem dL_law_350 : decode cL_law 350 = .ok (.iconst 0, 1) := by decide +kernel
theorem dL_law_351 : decode cL_law 351 = .ok (.ireturn, 1) := by decide +kernel
theorem dL_law_352 : decode cL_law 352 = .ok (.aload_n 1, 1) := by decide +kernel
theorem dL_law_353 : decode cL_law 353 = .ok (.aload_n 0, 1) := by decide +kernel
theorem dL_law_354 : decode cL_law 354 = .ok (.iload_n 3, 1) := by decide +kernel
theorem dL_law_355 : decode cL_law 355 = .ok (.iconst 1, 1) := by decide +kernel
theorem dL_law_356 : decode cL_law 356 = .ok (.iadd, 1) := by decide +kernel
theorem dL_law_357 : decode cL_law 357 = .ok (.iaload, 1) := by decide +kernel
theorem dL_law_358 : decode cL_law 358 = .ok (.aload_n 0, 1) := by decide +kernel
theorem dL_law_359 : decode cL_law 359 = .ok (.iload_n 3, 1) := by decide +kernel
theorem dL_law_360 : decode cL_law 360 = .ok (.iconst 2, 1) := by decide +kernel
theorem dL_law_361 : decode cL_law 361 = .ok (.iadd, 1) := by decide +kernel
theorem dL_law_362 : decode cL_law 362 = .ok (.iaload, 1) := by decide +kernel
theorem dL_law_363 : decode cL_law 363 = .ok (.aload_n 0, 1) := by decide +kernel
theorem dL_law_364 : decode cL_law 364 = .ok (.iload_n 3, 1) := by decide +kernel
theorem dL_law_365 : decode cL_law 365 = .ok (.iconst 3, 1) := by decide +kernel
theorem dL_law_366 : decode cL_law 366 = .ok (.iadd, 1) := by decide +kernel
theorem dL_law_367 : decode cL_law 367 = .ok (.iaload, 1) := by decide +kernel
theorem dL_law_368 : decode cL_law 368 = .ok (.aload_n 0, 1) := by decide +kernel
theorem dL_law_369 : decode cL_law 369 = .ok (.iload_n 3, 1) := by decide +kernel
theorem dL_law_370 : decode cL_law 370 = .ok (.iconst 4, 1) := by decide +kernel
theorem dL_law_371 : decode cL_law 371 = .ok (.iadd, 1) := by decide +kernel
theorem dL_law_372 : decode cL_law 372 = .ok (.iaload, 1) := by decide +kernel
theorem dL_law_373 : decode cL_law 373 = .ok (.invokevirtual 41, 3) := by decide +kernel
theorem dL_law_376 : decode cL_law 376 = .ok (.aload_n 2, 1) := by decide +kernel
theorem dL_law_377 : decode cL_law 377 = .ok (.aload_n 0, 1) := by decide +kernel
theorem dL_law_378 : decode cL_law 378 = .ok (.iload_n 3, 1) := by decide +kernel
theorem dL_law_379 : decode cL_law 379 = .ok (.iconst 1, 1) := by decide +kernel
theorem dL_law_380 : decode cL_law 380 = .ok (.iadd, 1) := by decide +kernel
theorem dL_law_381 : decode cL_law 381 = .ok (.iaload, 1) := by decide +kernel
theorem dL_law_382 : decode cL_law 382 = .ok (.aload_n 0, 1) := by decide +kernel
theorem dL_law_383 : decode cL_law 383 = .ok (.iload_n 3, 1) := by decide +kernel
theorem dL_law_384 : decode cL_law 384 = .ok (.iconst 2, 1) := by decide +kernel
theorem dL_law_385 : decode cL_law 385 = .ok (.iadd, 1) := by decide +kernel
theorem dL_law_386 : decode cL_law 386 = .ok (.iaload, 1) := by decide +kernel
theorem dL_law_387 : decode cL_law 387 = .ok (.aload_n 0, 1) := by decide +kernel
theorem dL_law_388 : decode cL_law 388 = .ok (.iload_n 3, 1) := by decide +kernel
theorem dL_law_389 : decode cL_law 389 = .ok (.iconst 3, 1) := by decide +kernel
theorem dL_law_390 : decode cL_law 390 = .ok (.iadd, 1) := by decide +kernel
theorem dL_law_391 : decode cL_law 391 = .ok (.iaload, 1) := by decide +kernel
theorem dL_law_392 : decode cL_law 392 = .ok (.aload_n 0, 1) := by decide +kernel
theorem dL_law_393 : decode cL_law 393 = .ok (.iload_n 3, 1) := by decide +kernel
theorem dL_law_394 : decode cL_law 394 = .ok (.iconst 4, 1) := by decide +kernel
theorem dL_law_395 : decode cL_law 395 = .ok (.iadd, 1) := by decide +kernel
theorem dL_law_396 : decode cL_law 396 = .ok (.iaload, 1) := by decide +kernel
theorem dL_law_397 : decode cL_law 397 = .ok (.invokevirtual 45, 3) := by decide +kernel
theorem dL_law_400 : decode cL_law 400 = .ok (.if_icmp .eq 851, 3) := by decide +kernel
theorem dL_law_403 : decode cL_law 403 = .ok (.iconst 0, 1) := by decide +kernel
theorem dL_law_404 : decode cL_law 404 = .ok (.ireturn, 1) := by decide +kernel
theorem dL_law_405 : decode cL_law 405 = .ok (.aload_n 1, 1) := by decide +kernel
theorem dL_law_406 : decode cL_law 406 = .ok (.aload_n 0, 1) := by decide +kernel
theorem dL_law_407 : decode cL_law 407 = .ok (.iload_n 3, 1) := by decide +kernel
theorem dL_law_408 : decode cL_law 408 = .ok (.iconst 1, 1) := by decide +kernel
theorem dL_law_409 : decode cL_law 409 = .ok (.iadd, 1) := by decide +kernel
theorem dL_law_410 : decode cL_law 410 = .ok (.iaload, 1) := by decide +kernel
theorem dL_law_411 : decode cL_law 411 = .ok (.aload_n 0, 1) := by decide +kernel
theorem dL_law_412 : decode cL_law 412 = .ok (.iload_n 3, 1) := by decide +kernel
theorem dL_law_413 : decode cL_law 413 = .ok (.iconst 2, 1) := by decide +kernel
theorem dL_law_414 : decode cL_law 414 = .ok (.iadd, 1) := by decide +kernel
theorem dL_law_415 : decode cL_law 415 = .ok (.iaload, 1) := by decide +kernel
theorem dL_law_416 : decode cL_law 416 = .ok (.aload_n 0, 1) := by decide +kernel
theorem dL_law_417 : decode cL_law 417 = .ok (.iload_n 3, 1) := by decide +kernel
theorem dL_law_418 : decode cL_law 418 = .ok (.iconst 3, 1) := by decide +kernel
theorem dL_law_419 : decode cL_law 419 = .ok (.iadd, 1) := by decide +kernel
theorem dL_law_420 : decode cL_law 420 = .ok (.iaload, 1) := by decide +kernel
theorem dL_law_421 : decode cL_law 421 = .ok (.invokevirtual 46, 3) := by decide +kernel
theorem dL_law_424 : decode cL_law 424 = .ok (.aload_n 2, 1) := by decide +kernel
theorem dL_law_425 : decode cL_law 425 = .ok (.aload_n 0, 1) := by decide +kernel
theorem dL_law_426 : decode cL_law 426 = .ok (.iload_n 3, 1) := by decide +kernel
theorem dL_law_427 : decode cL_law 427 = .ok (.iconst 1, 1) := by decide +kernel
theorem dL_law_428 : decode cL_law 428 = .ok (.iadd, 1) := by decide +kernel
theorem dL_law_429 : decode cL_law 429 = .ok (.iaload, 1) := by decide +kernel
theorem dL_law_430 : decode cL_law 430 = .ok (.aload_n 0, 1) := by decide +kernel
theorem dL_law_431 : decode cL_law 431 = .ok (.iload_n 3, 1) := by decide +kernel
theorem dL_law_432 : decode cL_law 432 = .ok (.iconst 2, 1) := by decide +kernel
theorem dL_law_433 : decode cL_law 433 = .ok (.iadd, 1) := by decide +kernel
theorem dL_law_434 : decode cL_law 434 = .ok (.iaload, 1) := by decide +kernel
theorem dL_law_435 : decode cL_law 435 = .ok (.aload_n 0, 1) := by decide +kernel
theorem dL_law_436 : decode cL_law 436 = .ok (.iload_n 3, 1) := by decide +kernel
theorem dL_law_437 : decode cL_law 437 = .ok (.iconst 3, 1) := by decide +kernel
theorem dL_law_438 : decode cL_law 438 = .ok (.iadd, 1) := by decide +kernel
theorem dL_law_439 : decode cL_law 439 = .ok (.iaload, 1) := by decide +kernel
theorem dL_law_440 : decode cL_law 440 = .ok (.invokevirtual 49, 3) := by decide +kernel
theorem dL_law_443 : decode cL_law 443 = .ok (.if_icmp .eq 808, 3) := by decide +kernel
theorem dL_law_446 : decode cL_law 446 = .ok (.iconst 0, 1) := by decide +kernel
theorem dL_law_447 : decode cL_law 447 = .ok (.ireturn, 1) := by decide +kernel
theorem dL_law_448 : decode cL_law 448 = .ok (.aload_n 1, 1) := by decide +kernel
theorem dL_law_449 : decode cL_law 449 = .ok (.aload_n 0, 1) := by decide +kernel
theorem dL_law_450 : decode cL_law 450 = .ok (.iload_n 3, 1) := by decide +kernel
theorem dL_law_451 : decode cL_law 451 = .ok (.iconst 1, 1) := by decide +kernel
theorem dL_law_452 : decode cL_law 452 = .ok (.iadd, 1) := by decide +kernel
theorem dL_law_453 : decode cL_law 453 = .ok (.iaload, 1) := by decide +kernel
theorem dL_law_454 : decode cL_law 454 = .ok (.invokevirtual 50, 3) := by decide +kernel
theorem dL_law_457 : decode cL_law 457 = .ok (.aload_n 2, 1) := by decide +kernel
theorem dL_law_458 : decode cL_law 458 = .ok (.aload_n 0, 1) := by decide +kernel
theorem dL_law_459 : decode cL_law 459 = .ok (.iload_n 3, 1) := by decide +kernel
theorem dL_law_460 : decode cL_law 460 = .ok (.iconst 1, 1) := by decide +kernel
theorem dL_law_461 : decode cL_law 461 = .ok (.iadd, 1) := by decide +kernel
theorem dL_law_462 : decode cL_law 462 = .ok (.iaload, 1) := by decide +kernel
theorem dL_law_463 : decode cL_law 463 = .ok (.invokevirtual 53, 3) := by decide +kernel
theorem dL_law_466 : decode cL_law 466 = .ok (.if_icmp .eq 785, 3) := by decide +kernel
theorem dL_law_469 : decode cL_law 469 = .ok (.iconst 0, 1) := by decide +kernel
theorem dL_law_470 : decode cL_law 470 = .ok (.ireturn, 1) := by decide +kernel
theorem dL_law_471 : decode cL_law 471 = .ok (.aload_n 1, 1) := by decide +kernel
theorem dL_law_472 : decode cL_law 472 = .ok (.aload_n 0, 1) := by decide +kernel
theorem dL_law_473 : decode cL_law 473 = .ok (.iload_n 3, 1) := by decide +kernel
theorem dL_law_474 : decode cL_law 474 = .ok (.iconst 1, 1) := by decide +kernel
theorem dL_law_475 : decode cL_law 475 = .ok (.iadd, 1) := by decide +kernel
theorem dL_law_476 : decode cL_law 476 = .ok (.iaload, 1) := by decide +kernel
theorem dL_law_477 : decode cL_law 477 = .ok (.invokevirtual 54, 3) := by decide +kernel
theorem dL_law_480 : decode cL_law 480 = .ok (.aload_n 2, 1) := by decide +kernel
theorem dL_law_481 : decode cL_law 481 = .ok (.aload_n 0, 1) := by decide +kernel
theorem dL_law_482 : decode cL_law 482 = .ok (.iload_n 3, 1) := by decide +kernel
theorem dL_law_483 : decode cL_law 483 = .ok (.iconst 1, 1) := by decide +kernel
theorem dL_law_484 : decode cL_law 484 = .ok (.iadd, 1) := by decide +kernel
theorem dL_law_485 : decode cL_law 485 = .ok (.iaload, 1) := by decide +kernel
theorem dL_law_486 : decode cL_law 486 = .ok (.invokevirtual 57, 3) := by decide +kernel
theorem dL_law_489 : decode cL_law 489 = .ok (.if_icmp .eq 762, 3) := by decide +kernel
theorem dL_law_492 : decode cL_law 492 = .ok (.iconst 0, 1) := by decide +kernel
theorem dL_law_493 : decode cL_law 493 = .ok (.ireturn, 1) := by decide +kernel
theorem dL_law_494 : decode cL_law 494 = .ok (.aload_n 1, 1) := by decide +kernel
theorem dL_law_495 : decode cL_law 495 = .ok (.invokevirtual 58, 3) := by decide +kernel
theorem dL_law_498 : decode cL_law 498 = .ok (.aload_n 2, 1) := by decide +kernel
theorem dL_law_499 : decode cL_law 499 = .ok (.invokevirtual 61, 3) := by decide +kernel
theorem dL_law_502 : decode cL_law 502 = .ok (.if_icmp .eq 749, 3) := by decide +kernel
theorem dL_law_505 : decode cL_law 505 = .ok (.iconst 0, 1) := by decide +kernel
theorem dL_law_506 : decode cL_law 506 = .ok (.ireturn, 1) := by decide +kernel
theorem dL_law_507 : decode cL_law 507 = .ok (.aload_n 1, 1) := by decide +kernel
theorem dL_law_508 : decode cL_law 508 = .ok (.aload_n 0, 1) := by decide +kernel
theorem dL_law_509 : decode cL_law 509 = .ok (.iload_n 3, 1) := by decide +kernel
theorem dL_law_510 : decode cL_law 510 = .ok (.iconst 1, 1) := by decide +kernel
theorem dL_law_511 : decode cL_law 511 = .ok (.iadd, 1) := by decide +kernel
theorem dL_law_512 : decode cL_law 512 = .ok (.iaload, 1) := by decide +kernel
theorem dL_law_513 : decode cL_law 513 = .ok (.aload_n 0, 1) := by decide +kernel
theorem dL_law_514 : decode cL_law 514 = .ok (.iload_n 3, 1) := by decide +kernel
theorem dL_law_515 : decode cL_law 515 = .ok (.iconst 2, 1) := by decide +kernel
theorem dL_law_516 : decode cL_law 516 = .ok (.iadd, 1) := by decide +kernel
theorem dL_law_517 : decode cL_law 517 = .ok (.iaload, 1) := by decide +kernel
theorem dL_law_518 : decode cL_law 518 = .ok (.invokevirtual 62, 3) := by decide +kernel
theorem dL_law_521 : decode cL_law 521 = .ok (.aload_n 2, 1) := by decide +kernel
theorem dL_law_522 : decode cL_law 522 = .ok (.aload_n 0, 1) := by decide +kernel
theorem dL_law_523 : decode cL_law 523 = .ok (.iload_n 3, 1) := by decide +kernel
theorem dL_law_524 : decode cL_law 524 = .ok (.iconst 1, 1) := by decide +kernel
theorem dL_law_525 : decode cL_law 525 = .ok (.iadd, 1) := by decide +kernel
theorem dL_law_526 : decode cL_law 526 = .ok (.iaload, 1) := by decide +kernel
theorem dL_law_527 : decode cL_law 527 = .ok (.aload_n 0, 1) := by decide +kernel
theorem dL_law_528 : decode cL_law 528 = .ok (.iload_n 3, 1) := by decide +kernel
theorem dL_law_529 : decode cL_law 529 = .ok (.iconst 2, 1) := by decide +kernel
theorem dL_law_530 : decode cL_law 530 = .ok (.iadd, 1) := by decide +kernel
theorem dL_law_531 : decode cL_law 531 = .ok (.iaload, 1) := by decide +kernel
theorem dL_law_532 : decode cL_law 532 = .ok (.invokevirtual 65, 3) := by decide +kernel
theorem dL_law_535 : decode cL_law 535 = .ok (.if_icmp .eq 716, 3) := by decide +kernel
theorem dL_law_538 : decode cL_law 538 = .ok (.iconst 0, 1) := by decide +kernel
theorem dL_law_539 : decode cL_law 539 = .ok (.ireturn, 1) := by decide +kernel
theorem dL_law_540 : decode cL_law 540 = .ok (.aload_n 1, 1) := by decide +kernel
theorem dL_law_541 : decode cL_law 541 = .ok (.aload_n 0, 1) := by decide +kernel
theorem dL_law_542 : decode cL_law 542 = .ok (.iload_n 3, 1) := by decide +kernel
theorem dL_law_543 : decode cL_law 543 = .ok (.iconst 1, 1) := by decide +kernel
theorem dL_law_544 : decode cL_law 544 = .ok (.iadd, 1) := by decide +kernel
theorem dL_law_545 : decode cL_law 545 = .ok (.iaload, 1) := by decide +kernel
theorem dL_law_546 : decode cL_law 546 = .ok (.aload_n 0, 1) := by decide +kernel
theorem dL_law_547 : decode cL_law 547 = .ok (.iload_n 3, 1) := by decide +kernel
theorem dL_law_548 : decode cL_law 548 = .ok (.iconst 2, 1) := by decide +kernel
theorem dL_law_549 : decode cL_law 549 = .ok (.iadd, 1) := by decide +kernel
theorem dL_law_550 : decode cL_law 550 = .ok (.iaload, 1) := by decide +kernel
theorem dL_law_551 : decode cL_law 551 = .ok (.invokevirtual 66, 3) := by decide +kernel
theorem dL_law_554 : decode cL_law 554 = .ok (.aload_n 2, 1) := by decide +kernel
theorem dL_law_555 : decode cL_law 555 = .ok (.aload_n 0, 1) := by decide +kernel
theorem dL_law_556 : decode cL_law 556 = .ok (.iload_n 3, 1) := by decide +kernel
theorem dL_law_557 : decode cL_law 557 = .ok (.iconst 1, 1) := by decide +kernel
theorem dL_law_558 : decode cL_law 558 = .ok (.iadd, 1) := by decide +kernel
theorem dL_law_559 : decode cL_law 559 = .ok (.iaload, 1) := by decide +kernel
theorem dL_law_560 : decode cL_law 560 = .ok (.aload_n 0, 1) := by decide +kernel
theorem dL_law_561 : decode cL_law 561 = .ok (.iload_n 3, 1) := by decide +kernel
theorem dL_law_562 : decode cL_law 562 = .ok (.iconst 2, 1) := by decide +kernel
theorem dL_law_563 : decode cL_law 563 = .ok (.iadd, 1) := by decide +kernel
theorem dL_law_564 : decode cL_law 564 = .ok (.iaload, 1) := by decide +kernel
theorem dL_law_565 : decode cL_law 565 = .ok (.invokevirtual 69, 3) := by decide +kernel
theorem dL_law_568 : decode cL_law 568 = .ok (.if_icmp .eq 683, 3) := by decide +kernel
theorem dL_law_571 : decode cL_law 571 = .ok (.iconst 0, 1) := by decide +kernel
theorem dL_law_572 : decode cL_law 572 = .ok (.ireturn, 1) := by decide +kernel
theorem dL_law_573 : decode cL_law 573 = .ok (.aload_n 1, 1) := by decide +kernel
theorem dL_law_574 : decode cL_law 574 = .ok (.aload_n 0, 1) := by decide +kernel
theorem dL_law_575 : decode cL_law 575 = .ok (.iload_n 3, 1) := by decide +kernel
theorem dL_law_576 : decode cL_law 576 = .ok (.iconst 1, 1) := by decide +kernel
theorem dL_law_577 : decode cL_law 577 = .ok (.iadd, 1) := by decide +kernel
theorem dL_law_578 : decode cL_law 578 = .ok (.iaload, 1) := by decide +kernel
theorem dL_law_579 : decode cL_law 579 = .ok (.ifCond .eq 7, 3) := by decide +kernel
theorem dL_law_582 : decode cL_law 582 = .ok (.iconst 1, 1) := by decide +kernel
theorem dL_law_583 : decode cL_law 583 = .ok (.goto 4, 3) := by decide +kernel
theorem dL_law_586 : decode cL_law 586 = .ok (.iconst 0, 1) := by decide +kernel
theorem dL_law_587 : decode cL_law 587 = .ok (.invokevirtual 70, 3) := by decide +kernel
theorem dL_law_590 : decode cL_law 590 = .ok (.aload_n 2, 1) := by decide +kernel
theorem dL_law_591 : decode cL_law 591 = .ok (.aload_n 0, 1) := by decide +kernel
theorem dL_law_592 : decode cL_law 592 = .ok (.iload_n 3, 1) := by decide +kernel
theorem dL_law_593 : decode cL_law 593 = .ok (.iconst 1, 1) := by decide +kernel
theorem dL_law_594 : decode cL_law 594 = .ok (.iadd, 1) := by decide +kernel
theorem dL_law_595 : decode cL_law 595 = .ok (.iaload, 1) := by decide +kernel
theorem dL_law_596 : decode cL_law 596 = .ok (.ifCond .eq 7, 3) := by decide +kernel
theorem dL_law_599 : decode cL_law 599 = .ok (.iconst 1, 1) := by decide +kernel
theorem dL_law_600 : decode cL_law 600 = .ok (.goto 4, 3) := by decide +kernel
theorem dL_law_603 : decode cL_law 603 = .ok (.iconst 0, 1) := by decide +kernel
theorem dL_law_604 : decode cL_law 604 = .ok (.invokevirtual 74, 3) := by decide +kernel
theorem dL_law_607 : decode cL_law 607 = .ok (.if_icmp .eq 644, 3) := by decide +kernel
theorem dL_law_610 : decode cL_law 610 = .ok (.iconst 0, 1) := by decide +kernel
theorem dL_law_611 : decode cL_law 611 = .ok (.ireturn, 1) := by decide +kernel
theorem dL_law_612 : decode cL_law 612 = .ok (.aload_n 1, 1) := by decide +kernel
theorem dL_law_613 : decode cL_law 613 = .ok (.invokevirtual 75, 3) := by decide +kernel
theorem dL_law_616 : decode cL_law 616 = .ok (.aload_n 2, 1) := by decide +kernel
theorem dL_law_617 : decode cL_law 617 = .ok (.invokevirtual 78, 3) := by decide +kernel
theorem dL_law_620 : decode cL_law 620 = .ok (.if_icmp .eq 631, 3) := by decide +kernel
theorem dL_law_623 : decode cL_law 623 = .ok (.iconst 0, 1) := by decide +kernel
theorem dL_law_624 : decode cL_law 624 = .ok (.ireturn, 1) := by decide +kernel
theorem dL_law_625 : decode cL_law 625 = .ok (.aload_n 1, 1) := by decide +kernel
theorem dL_law_626 : decode cL_law 626 = .ok (.invokevirtual 79, 3) := by decide +kernel
theorem dL_law_629 : decode cL_law 629 = .ok (.aload_n 2, 1) := by decide +kernel
theorem dL_law_630 : decode cL_law 630 = .ok (.invokevirtual 82, 3) := by decide +kernel
theorem dL_law_633 : decode cL_law 633 = .ok (.if_icmp .eq 618, 3) := by decide +kernel
theorem dL_law_636 : decode cL_law 636 = .ok (.iconst 0, 1) := by decide +kernel
theorem dL_law_637 : decode cL_law 637 = .ok (.ireturn, 1) := by decide +kernel
theorem dL_law_638 : decode cL_law 638 = .ok (.aload_n 1, 1) := by decide +kernel
theorem dL_law_639 : decode cL_law 639 = .ok (.aload_n 0, 1) := by decide +kernel
theorem dL_law_640 : decode cL_law 640 = .ok (.iload_n 3, 1) := by decide +kernel
theorem dL_law_641 : decode cL_law 641 = .ok (.iconst 1, 1) := by decide +kernel
theorem dL_law_642 : decode cL_law 642 = .ok (.iadd, 1) := by decide +kernel
theorem dL_law_643 : decode cL_law 643 = .ok (.iaload, 1) := by decide +kernel
theorem dL_law_644 : decode cL_law 644 = .ok (.aload_n 0, 1) := by decide +kernel
theorem dL_law_645 : decode cL_law 645 = .ok (.iload_n 3, 1) := by decide +kernel
theorem dL_law_646 : decode cL_law 646 = .ok (.iconst 2, 1) := by decide +kernel
theorem dL_law_647 : decode cL_law 647 = .ok (.iadd, 1) := by decide +kernel
theorem dL_law_648 : decode cL_law 648 = .ok (.iaload, 1) := by decide +kernel
theorem dL_law_649 : decode cL_law 649 = .ok (.aload_n 0, 1) := by decide +kernel
theorem dL_law_650 : decode cL_law 650 = .ok (.iload_n 3, 1) := by decide +kernel
theorem dL_law_651 : decode cL_law 651 = .ok (.iconst 3, 1) := by decide +kernel
theorem dL_law_652 : decode cL_law 652 = .ok (.iadd, 1) := by decide +kernel
theorem dL_law_653 : decode cL_law 653 = .ok (.iaload, 1) := by decide +kernel
theorem dL_law_654 : decode cL_law 654 = .ok (.invokevirtual 83, 3) := by decide +kernel
theorem dL_law_657 : decode cL_law 657 = .ok (.aload_n 2, 1) := by decide +kernel
theorem dL_law_658 : decode cL_law 658 = .ok (.aload_n 0, 1) := by decide +kernel
theorem dL_law_659 : decode cL_law 659 = .ok (.iload_n 3, 1) := by decide +kernel
theorem dL_law_660 : decode cL_law 660 = .ok (.iconst 1, 1) := by decide +kernel
theorem dL_law_661 : decode cL_law 661 = .ok (.iadd, 1) := by decide +kernel
theorem dL_law_662 : decode cL_law 662 = .ok (.iaload, 1) := by decide +kernel
theorem dL_law_663 : decode cL_law 663 = .ok (.aload_n 0, 1) := by decide +kernel
theorem dL_law_664 : decode cL_law 664 = .ok (.iload_n 3, 1) := by decide +kernel
theorem dL_law_665 : decode cL_law 665 = .ok (.iconst 2, 1) := by decide +kernel
theorem dL_law_666 : decode cL_law 666 = .ok (.iadd, 1) := by decide +kernel
theorem dL_law_667 : decode cL_law 667 = .ok (.iaload, 1) := by decide +kernel
theorem dL_law_668 : decode cL_law 668 = .ok (.aload_n 0, 1) := by decide +kernel
theorem dL_law_669 : decode cL_law 669 = .ok (.iload_n 3, 1) := by decide +kernel
theorem dL_law_670 : decode cL_law 670 = .ok (.iconst 3, 1) := by decide +kernel
theorem dL_law_671 : decode cL_law 671 = .ok (.iadd, 1) := by decide +kernel
theorem dL_law_672 : decode cL_law 672 = .ok (.iaload, 1) := by decide +kernel
theorem dL_law_673 : decode cL_law 673 = .ok (.invokevirtual 86, 3) := by decide +kernel
theorem dL_law_676 : decode cL_law 676 = .ok (.if_icmp .eq 575, 3) := by decide +kernel
theorem dL_law_679 : decode cL_law 679 = .ok (.iconst 0, 1) := by decide +kernel
theorem dL_law_680 : decode cL_law 680 = .ok (.ireturn, 1) := by decide +kernel
theorem dL_law_681 : decode cL_law 681 = .ok (.aload_n 1, 1) := by decide +kernel
theorem dL_law_682 : decode cL_law 682 = .ok (.invokevirtual 87, 3) := by decide +kernel
theorem dL_law_685 : decode cL_law 685 = .ok (.aload_n 2, 1) := by decide +kernel
theorem dL_law_686 : decode cL_law 686 = .ok (.invokevirtual 90, 3) := by decide +kernel
theorem dL_law_689 : decode cL_law 689 = .ok (.if_icmp .eq 562, 3) := by decide +kernel
theorem dL_law_692 : decode cL_law 692 = .ok (.iconst 0, 1) := by decide +kernel
theorem dL_law_693 : decode cL_law 693 = .ok (.ireturn, 1) := by decide +kernel
theorem dL_law_694 : decode cL_law 694 = .ok (.aload_n 1, 1) := by decide +kernel
theorem dL_law_695 : decode cL_law 695 = .ok (.aload_n 0, 1) := by decide +kernel
theorem dL_law_696 : decode cL_law 696 = .ok (.iload_n 3, 1) := by decide +kernel
theorem dL_law_697 : decode cL_law 697 = .ok (.iconst 1, 1) := by decide +kernel
theorem dL_law_698 : decode cL_law 698 = .ok (.iadd, 1) := by decide +kernel
theorem dL_law_699 : decode cL_law 699 = .ok (.iaload, 1) := by decide +kernel
theorem dL_law_700 : decode cL_law 700 = .ok (.aload_n 0, 1) := by decide +kernel
theorem dL_law_701 : decode cL_law 701 = .ok (.iload_n 3, 1) := by decide +kernel
theorem dL_law_702 : decode cL_law 702 = .ok (.iconst 2, 1) := by decide +kernel
theorem dL_law_703 : decode cL_law 703 = .ok (.iadd, 1) := by decide +kernel
theorem dL_law_704 : decode cL_law 704 = .ok (.iaload, 1) := by decide +kernel
theorem dL_law_705 : decode cL_law 705 = .ok (.invokevirtual 91, 3) := by decide +kernel
theorem dL_law_708 : decode cL_law 708 = .ok (.aload_n 2, 1) := by decide +kernel
theorem dL_law_709 : decode cL_law 709 = .ok (.aload_n 0, 1) := by decide +kernel
theorem dL_law_710 : decode cL_law 710 = .ok (.iload_n 3, 1) := by decide +kernel
theorem dL_law_711 : decode cL_law 711 = .ok (.iconst 1, 1) := by decide +kernel
theorem dL_law_712 : decode cL_law 712 = .ok (.iadd, 1) := by decide +kernel
theorem dL_law_713 : decode cL_law 713 = .ok (.iaload, 1) := by decide +kernel
theorem dL_law_714 : decode cL_law 714 = .ok (.aload_n 0, 1) := by decide +kernel
theorem dL_law_715 : decode cL_law 715 = .ok (.iload_n 3, 1) := by decide +kernel
theorem dL_law_716 : decode cL_law 716 = .ok (.iconst 2, 1) := by decide +kernel
theorem dL_law_717 : decode cL_law 717 = .ok (.iadd, 1) := by decide +kernel
theorem dL_law_718 : decode cL_law 718 = .ok (.iaload, 1) := by decide +kernel
theorem dL_law_719 : decode cL_law 719 = .ok (.invokevirtual 94, 3) := by decide +kernel
theorem dL_law_722 : decode cL_law 722 = .ok (.if_icmp .eq 529, 3) := by decide +kernel
theorem dL_law_725 : decode cL_law 725 = .ok (.iconst 0, 1) := by decide +kernel
theorem dL_law_726 : decode cL_law 726 = .ok (.ireturn, 1) := by decide +kernel
theorem dL_law_727 : decode cL_law 727 = .ok (.aload_n 1, 1) := by decide +kernel
theorem dL_law_728 : decode cL_law 728 = .ok (.aload_n 0, 1) := by decide +kernel
theorem dL_law_729 : decode cL_law 729 = .ok (.iload_n 3, 1) := by decide +kernel
theorem dL_law_730 : decode cL_law 730 = .ok (.iconst 1, 1) := by decide +kernel
theorem dL_law_731 : decode cL_law 731 = .ok (.iadd, 1) := by decide +kernel
theorem dL_law_732 : decode cL_law 732 = .ok (.iaload, 1) := by decide +kernel
theorem dL_law_733 : decode cL_law 733 = .ok (.aload_n 0, 1) := by decide +kernel
theorem dL_law_734 : decode cL_law 734 = .ok (.iload_n 3, 1) := by decide +kernel
theorem dL_law_735 : decode cL_law 735 = .ok (.iconst 2, 1) := by decide +kernel
theorem dL_law_736 : decode cL_law 736 = .ok (.iadd, 1) := by decide +kernel
theorem dL_law_737 : decode cL_law 737 = .ok (.iaload, 1) := by decide +kernel
theorem dL_law_738 : decode cL_law 738 = .ok (.invokevirtual 95, 3) := by decide +kernel
theorem dL_law_741 : decode cL_law 741 = .ok (.aload_n 2, 1) := by decide +kernel
theorem dL_law_742 : decode cL_law 742 = .ok (.aload_n 0, 1) := by decide +kernel
theorem dL_law_743 : decode cL_law 743 = .ok (.iload_n 3, 1) := by decide +kernel
theorem dL_law_744 : decode cL_law 744 = .ok (.iconst 1, 1) := by decide +kernel
theorem dL_law_745 : decode cL_law 745 = .ok (.iadd, 1) := by decide +kernel
theorem dL_law_746 : decode cL_law 746 = .ok (.iaload, 1) := by decide +kernel
theorem dL_law_747 : decode cL_law 747 = .ok (.aload_n 0, 1) := by decide +kernel
theorem dL_law_748 : decode cL_law 748 = .ok (.iload_n 3, 1) := by decide +kernel
theorem dL_law_749 : decode cL_law 749 = .ok (.iconst 2, 1) := by decide +kernel
theorem dL_law_750 : decode cL_law 750 = .ok (.iadd, 1) := by decide +kernel
theorem dL_law_751 : decode cL_law 751 = .ok (.iaload, 1) := by decide +kernel
theorem dL_law_752 : decode cL_law 752 = .ok (.invokevirtual 98, 3) := by decide +kernel
theorem dL_law_755 : decode cL_law 755 = .ok (.if_icmp .eq 496, 3) := by decide +kernel
theorem dL_law_758 : decode cL_law 758 = .ok (.iconst 0, 1) := by decide +kernel
theorem dL_law_759 : decode cL_law 759 = .ok (.ireturn, 1) := by decide +kernel
theorem dL_law_760 : decode cL_law 760 = .ok (.aload_n 1, 1) := by decide +kernel
theorem dL_law_761 : decode cL_law 761 = .ok (.aload_n 0, 1) := by decide +kernel
theorem dL_law_762 : decode cL_law 762 = .ok (.iload_n 3, 1) := by decide +kernel
theorem dL_law_763 : decode cL_law 763 = .ok (.iconst 1, 1) := by decide +kernel
theorem dL_law_764 : decode cL_law 764 = .ok (.iadd, 1) := by decide +kernel
theorem dL_law_765 : decode cL_law 765 = .ok (.iaload, 1) := by decide +kernel
theorem dL_law_766 : decode cL_law 766 = .ok (.invokevirtual 99, 3) := by decide +kernel
theorem dL_law_769 : decode cL_law 769 = .ok (.aload_n 2, 1) := by decide +kernel
theorem dL_law_770 : decode cL_law 770 = .ok (.aload_n 0, 1) := by decide +kernel
theorem dL_law_771 : decode cL_law 771 = .ok (.iload_n 3, 1) := by decide +kernel
theorem dL_law_772 : decode cL_law 772 = .ok (.iconst 1, 1) := by decide +kernel
theorem dL_law_773 : decode cL_law 773 = .ok (.iadd, 1) := by decide +kernel
theorem dL_law_774 : decode cL_law 774 = .ok (.iaload, 1) := by decide +kernel
theorem dL_law_775 : decode cL_law 775 = .ok (.invokevirtual 102, 3) := by decide +kernel
theorem dL_law_778 : decode cL_law 778 = .ok (.if_icmp .eq 473, 3) := by decide +kernel
theorem dL_law_781 : decode cL_law 781 = .ok (.iconst 0, 1) := by decide +kernel
theorem dL_law_782 : decode cL_law 782 = .ok (.ireturn, 1) := by decide +kernel
theorem dL_law_783 : decode cL_law 783 = .ok (.aload_n 1, 1) := by decide +kernel
theorem dL_law_784 : decode cL_law 784 = .ok (.aload_n 0, 1) := by decide +kernel
theorem dL_law_785 : decode cL_law 785 = .ok (.iload_n 3, 1) := by decide +kernel
theorem dL_law_786 : decode cL_law 786 = .ok (.iconst 1, 1) := by decide +kernel
theorem dL_law_787 : decode cL_law 787 = .ok (.iadd, 1) := by decide +kernel
theorem dL_law_788 : decode cL_law 788 = .ok (.iaload, 1) := by decide +kernel
theorem dL_law_789 : decode cL_law 789 = .ok (.invokevirtual 103, 3) := by decide +kernel
theorem dL_law_792 : decode cL_law 792 = .ok (.aload_n 2, 1) := by decide +kernel
theorem dL_law_793 : decode cL_law 793 = .ok (.aload_n 0, 1) := by decide +kernel
theorem dL_law_794 : decode cL_law 794 = .ok (.iload_n 3, 1) := by decide +kernel
theorem dL_law_795 : decode cL_law 795 = .ok (.iconst 1, 1) := by decide +kernel
theorem dL_law_796 : decode cL_law 796 = .ok (.iadd, 1) := by decide +kernel
theorem dL_law_797 : decode cL_law 797 = .ok (.iaload, 1) := by decide +kernel
theorem dL_law_798 : decode cL_law 798 = .ok (.invokevirtual 106, 3) := by decide +kernel
theorem dL_law_801 : decode cL_law 801 = .ok (.if_icmp .eq 450, 3) := by decide +kernel
theorem dL_law_804 : decode cL_law 804 = .ok (.iconst 0, 1) := by decide +kernel
theorem dL_law_805 : decode cL_law 805 = .ok (.ireturn, 1) := by decide +kernel
theorem dL_law_806 : decode cL_law 806 = .ok (.aload_n 1, 1) := by decide +kernel
theorem dL_law_807 : decode cL_law 807 = .ok (.invokevirtual 107, 3) := by decide +kernel
theorem dL_law_810 : decode cL_law 810 = .ok (.aload_n 2, 1) := by decide +kernel
theorem dL_law_811 : decode cL_law 811 = .ok (.invokevirtual 110, 3) := by decide +kernel
theorem dL_law_814 : decode cL_law 814 = .ok (.if_icmp .eq 437, 3) := by decide +kernel
theorem dL_law_817 : decode cL_law 817 = .ok (.iconst 0, 1) := by decide +kernel
theorem dL_law_818 : decode cL_law 818 = .ok (.ireturn, 1) := by decide +kernel
theorem dL_law_819 : decode cL_law 819 = .ok (.aload_n 1, 1) := by decide +kernel
theorem dL_law_820 : decode cL_law 820 = .ok (.aload_n 0, 1) := by decide +kernel
theorem dL_law_821 : decode cL_law 821 = .ok (.iload_n 3, 1) := by decide +kernel
theorem dL_law_822 : decode cL_law 822 = .ok (.iconst 1, 1) := by decide +kernel
theorem dL_law_823 : decode cL_law 823 = .ok (.iadd, 1) := by decide +kernel
theorem dL_law_824 : decode cL_law 824 = .ok (.iaload, 1) := by decide +kernel
theorem dL_law_825 : decode cL_law 825 = .ok (.aload_n 0, 1) := by decide +kernel
theorem dL_law_826 : decode cL_law 826 = .ok (.iload_n 3, 1) := by decide +kernel
theorem dL_law_827 : decode cL_law 827 = .ok (.iconst 2, 1) := by decide +kernel
theorem dL_law_828 : decode cL_law 828 = .ok (.iadd, 1) := by decide +kernel
theorem dL_law_829 : decode cL_law 829 = .ok (.iaload, 1) := by decide +kernel
theorem dL_law_830 : decode cL_law 830 = .ok (.invokevirtual 111, 3) := by decide +kernel
theorem dL_law_833 : decode cL_law 833 = .ok (.aload_n 2, 1) := by decide +kernel
theorem dL_law_834 : decode cL_law 834 = .ok (.aload_n 0, 1) := by decide +kernel
theorem dL_law_835 : decode cL_law 835 = .ok (.iload_n 3, 1) := by decide +kernel
theorem dL_law_836 : decode cL_law 836 = .ok (.iconst 1, 1) := by decide +kernel
theorem dL_law_837 : decode cL_law 837 = .ok (.iadd, 1) := by decide +kernel
theorem dL_law_838 : decode cL_law 838 = .ok (.iaload, 1) := by decide +kernel
theorem dL_law_839 : decode cL_law 839 = .ok (.aload_n 0, 1) := by decide +kernel
theorem dL_law_840 : decode cL_law 840 = .ok (.iload_n 3, 1) := by decide +kernel
theorem dL_law_841 : decode cL_law 841 = .ok (.iconst 2, 1) := by decide +kernel
theorem dL_law_842 : decode cL_law 842 = .ok (.iadd, 1) := by decide +kernel
theorem dL_law_843 : decode cL_law 843 = .ok (.iaload, 1) := by decide +kernel
theorem dL_law_844 : decode cL_law 844 = .ok (.invokevirtual 114, 3) := by decide +kernel
theorem dL_law_847 : decode cL_law 847 = .ok (.if_icmp .eq 404, 3) := by decide +kernel
theorem dL_law_850 : decode cL_law 850 = .ok (.iconst 0, 1) := by decide +kernel
theorem dL_law_851 : decode cL_law 851 = .ok (.ireturn, 1) := by decide +kernel
theorem dL_law_852 : decode cL_law 852 = .ok (.aload_n 1, 1) := by decide +kernel
theorem dL_law_853 : decode cL_law 853 = .ok (.aload_n 0, 1) := by decide +kernel
theorem dL_law_854 : decode cL_law 854 = .ok (.iload_n 3, 1) := by decide +kernel
theorem dL_law_855 : decode cL_law 855 = .ok (.iconst 1, 1) := by decide +kernel
theorem dL_law_856 : decode cL_law 856 = .ok (.iadd, 1) := by decide +kernel
theorem dL_law_857 : decode cL_law 857 = .ok (.iaload, 1) := by decide +kernel
theorem dL_law_858 : decode cL_law 858 = .ok (.aload_n 0, 1) := by decide +kernel
theorem dL_law_859 : decode cL_law 859 = .ok (.iload_n 3, 1) := by decide +kernel
theorem dL_law_860 : decode cL_law 860 = .ok (.iconst 2, 1) := by decide +kernel
theorem dL_law_861 : decode cL_law 861 = .ok (.iadd, 1) := by decide +kernel
theorem dL_law_862 : decode cL_law 862 = .ok (.iaload, 1) := by decide +kernel
theorem dL_law_863 : decode cL_law 863 = .ok (.invokevirtual 115, 3) := by decide +kernel
theorem dL_law_866 : decode cL_law 866 = .ok (.aload_n 2, 1) := by decide +kernel
theorem dL_law_867 : decode cL_law 867 = .ok (.aload_n 0, 1) := by decide +kernel
theorem dL_law_868 : decode cL_law 868 = .ok (.iload_n 3, 1) := by decide +kernel
theorem dL_law_869 : decode cL_law 869 = .ok (.iconst 1, 1) := by decide +kernel
theorem dL_law_870 : decode cL_law 870 = .ok (.iadd, 1) := by decide +kernel
theorem dL_law_871 : decode cL_law 871 = .ok (.iaload, 1) := by decide +kernel
theorem dL_law_872 : decode cL_law 872 = .ok (.aload_n 0, 1) := by decide +kernel
theorem dL_law_873 : decode cL_law 873 = .ok (.iload_n 3, 1) := by decide +kernel
theorem dL_law_874 : decode cL_law 874 = .ok (.iconst 2, 1) := by decide +kernel
theorem dL_law_875 : decode cL_law 875 = .ok (.iadd, 1) := by decide +kernel
theorem dL_law_876 : decode cL_law 876 = .ok (.iaload, 1) := by decide +kernel
theorem dL_law_877 : decode cL_law 877 = .ok (.invokevirtual 118, 3) := by decide +kernel
theorem dL_law_880 : decode cL_law 880 = .ok (.if_icmp .eq 371, 3) := by decide +kernel
theorem dL_law_883 : decode cL_law 883 = .ok (.iconst 0, 1) := by decide +kernel
theorem dL_law_884 : decode cL_law 884 = .ok (.ireturn, 1) := by decide +kernel
theorem dL_law_885 : decode cL_law 885 = .ok (.aload_n 1, 1) := by decide +kernel
theorem dL_law_886 : decode cL_law 886 = .ok (.aload_n 0, 1) := by decide +kernel
theorem dL_law_887 : decode cL_law 887 = .ok (.iload_n 3, 1) := by decide +kernel
theorem dL_law_888 : decode cL_law 888 = .ok (.iconst 1, 1) := by decide +kernel
theorem dL_law_889 : decode cL_law 889 = .ok (.iadd, 1) := by decide +kernel
theorem dL_law_890 : decode cL_law 890 = .ok (.iaload, 1) := by decide +kernel
theorem dL_law_891 : decode cL_law 891 = .ok (.aload_n 0, 1) := by decide +kernel
theorem dL_law_892 : decode cL_law 892 = .ok (.iload_n 3, 1) := by decide +kernel
theorem dL_law_893 : decode cL_law 893 = .ok (.iconst 2, 1) := by decide +kernel
theorem dL_law_894 : decode cL_law 894 = .ok (.iadd, 1) := by decide +kernel
theorem dL_law_895 : decode cL_law 895 = .ok (.iaload, 1) := by decide +kernel
theorem dL_law_896 : decode cL_law 896 = .ok (.invokevirtual 119, 3) := by decide +kernel
theorem dL_law_899 : decode cL_law 899 = .ok (.aload_n 2, 1) := by decide +kernel
theorem dL_law_900 : decode cL_law 900 = .ok (.aload_n 0, 1) := by decide +kernel
theorem dL_law_901 : decode cL_law 901 = .ok (.iload_n 3, 1) := by decide +kernel
theorem dL_law_902 : decode cL_law 902 = .ok (.iconst 1, 1) := by decide +kernel
theorem dL_law_903 : decode cL_law 903 = .ok (.iadd, 1) := by decide +kernel
theorem dL_law_904 : decode cL_law 904 = .ok (.iaload, 1) := by decide +kernel
theorem dL_law_905 : decode cL_law 905 = .ok (.aload_n 0, 1) := by decide +kernel
theorem dL_law_906 : decode cL_law 906 = .ok (.iload_n 3, 1) := by decide +kernel
theorem dL_law_907 : decode cL_law 907 = .ok (.iconst 2, 1) := by decide +kernel
theorem dL_law_908 : decode cL_law 908 = .ok (.iadd, 1) := by decide +kernel
theorem dL_law_909 : decode cL_law 909 = .ok (.iaload, 1) := by decide +kernel
theorem dL_law_910 : decode cL_law 910 = .ok (.invokevirtual 122, 3) := by decide +kernel
theorem dL_law_913 : decode cL_law 913 = .ok (.if_icmp .eq 338, 3) := by decide +kernel
theorem dL_law_916 : decode cL_law 916 = .ok (.iconst 0, 1) := by decide +kernel
theorem dL_law_917 : decode cL_law 917 = .ok (.ireturn, 1) := by decide +kernel
theorem dL_law_918 : decode cL_law 918 = .ok (.aload_n 1, 1) := by decide +kernel
theorem dL_law_919 : decode cL_law 919 = .ok (.aload_n 0, 1) := by decide +kernel
theorem dL_law_920 : decode cL_law 920 = .ok (.iload_n 3, 1) := by decide +kernel
theorem dL_law_921 : decode cL_law 921 = .ok (.iconst 1, 1) := by decide +kernel
theorem dL_law_922 : decode cL_law 922 = .ok (.iadd, 1) := by decide +kernel
theorem dL_law_923 : decode cL_law 923 = .ok (.iaload, 1) := by decide +kernel
theorem dL_law_924 : decode cL_law 924 = .ok (.invokevirtual 123, 3) := by decide +kernel
theorem dL_law_927 : decode cL_law 927 = .ok (.aload_n 2, 1) := by decide +kernel
theorem dL_law_928 : decode cL_law 928 = .ok (.aload_n 0, 1) := by decide +kernel
theorem dL_law_929 : decode cL_law 929 = .ok (.iload_n 3, 1) := by decide +kernel
theorem dL_law_930 : decode cL_law 930 = .ok (.iconst 1, 1) := by decide +kernel
theorem dL_law_931 : decode cL_law 931 = .ok (.iadd, 1) := by decide +kernel
theorem dL_law_932 : decode cL_law 932 = .ok (.iaload, 1) := by decide +kernel
theorem dL_law_933 : decode cL_law 933 = .ok (.invokevirtual 126, 3) := by decide +kernel
theorem dL_law_936 : decode cL_law 936 = .ok (.if_icmp .eq 315, 3) := by decide +kernel
theorem dL_law_939 : decode cL_law 939 = .ok (.iconst 0, 1) := by decide +kernel
theorem dL_law_940 : decode cL_law 940 = .ok (.ireturn, 1) := by decide +kernel
theorem dL_law_941 : decode cL_law 941 = .ok (.aload_n 1, 1) := by decide +kernel
theorem dL_law_942 : decode cL_law 942 = .ok (.aload_n 0, 1) := by decide +kernel
theorem dL_law_943 : decode cL_law 943 = .ok (.iload_n 3, 1) := by decide +kernel
theorem dL_law_944 : decode cL_law 944 = .ok (.iconst 1, 1) := by decide +kernel
theorem dL_law_945 : decode cL_law 945 = .ok (.iadd, 1) := by decide +kernel
theorem dL_law_946 : decode cL_law 946 = .ok (.iaload, 1) := by decide +kernel
theorem dL_law_947 : decode cL_law 947 = .ok (.aload_n 0, 1) := by decide +kernel
theorem dL_law_948 : decode cL_law 948 = .ok (.iload_n 3, 1) := by decide +kernel
theorem dL_law_949 : decode cL_law 949 = .ok (.iconst 2, 1) := by decide +kernel
theorem dL_law_950 : decode cL_law 950 = .ok (.iadd, 1) := by decide +kernel
theorem dL_law_951 : decode cL_law 951 = .ok (.iaload, 1) := by decide +kernel
theorem dL_law_952 : decode cL_law 952 = .ok (.aload_n 0, 1) := by decide +kernel
theorem dL_law_953 : decode cL_law 953 = .ok (.iload_n 3, 1) := by decide +kernel
theorem dL_law_954 : decode cL_law 954 = .ok (.iconst 3, 1) := by decide +kernel
theorem dL_law_955 : decode cL_law 955 = .ok (.iadd, 1) := by decide +kernel
theorem dL_law_956 : decode cL_law 956 = .ok (.iaload, 1) := by decide +kernel
theorem dL_law_957 : decode cL_law 957 = .ok (.invokevirtual 127, 3) := by decide +kernel
theorem dL_law_960 : decode cL_law 960 = .ok (.aload_n 2, 1) := by decide +kernel
theorem dL_law_961 : decode cL_law 961 = .ok (.aload_n 0, 1) := by decide +kernel
theorem dL_law_962 : decode cL_law 962 = .ok (.iload_n 3, 1) := by decide +kernel
theorem dL_law_963 : decode cL_law 963 = .ok (.iconst 1, 1) := by decide +kernel
theorem dL_law_964 : decode cL_law 964 = .ok (.iadd, 1) := by decide +kernel
theorem dL_law_965 : decode cL_law 965 = .ok (.iaload, 1) := by decide +kernel
theorem dL_law_966 : decode cL_law 966 = .ok (.aload_n 0, 1) := by decide +kernel
theorem dL_law_967 : decode cL_law 967 = .ok (.iload_n 3, 1) := by decide +kernel
theorem dL_law_968 : decode cL_law 968 = .ok (.iconst 2, 1) := by decide +kernel
theorem dL_law_969 : decode cL_law 969 = .ok (.iadd, 1) := by decide +kernel
theorem dL_law_970 : decode cL_law 970 = .ok (.iaload, 1) := by decide +kernel
theorem dL_law_971 : decode cL_law 971 = .ok (.aload_n 0, 1) := by decide +kernel
theorem dL_law_972 : decode cL_law 972 = .ok (.iload_n 3, 1) := by decide +kernel
theorem dL_law_973 : decode cL_law 973 = .ok (.iconst 3, 1) := by decide +kernel
theorem dL_law_974 : decode cL_law 974 = .ok (.iadd, 1) := by decide +kernel
theorem dL_law_975 : decode cL_law 975 = .ok (.iaload, 1) := by decide +kernel
theorem dL_law_976 : decode cL_law 976 = .ok (.invokevirtual 130, 3) := by decide +kernel
theorem dL_law_979 : decode cL_law 979 = .ok (.if_icmp .eq 272, 3) := by decide +kernel
theorem dL_law_982 : decode cL_law 982 = .ok (.iconst 0, 1) := by decide +kernel
theorem dL_law_983 : decode cL_law 983 = .ok (.ireturn, 1) := by decide +kernel
theorem dL_law_984 : decode cL_law 984 = .ok (.aload_n 1, 1) := by decide +kernel
theorem dL_law_985 : decode cL_law 985 = .ok (.aload_n 0, 1) := by decide +kernel
theorem dL_law_986 : decode cL_law 986 = .ok (.iload_n 3, 1) := by decide +kernel
theorem dL_law_987 : decode cL_law 987 = .ok (.iconst 1, 1) := by decide +kernel
theorem dL_law_988 : decode cL_law 988 = .ok (.iadd, 1) := by decide +kernel
theorem dL_law_989 : decode cL_law 989 = .ok (.iaload, 1) := by decide +kernel
theorem dL_law_990 : decode cL_law 990 = .ok (.invokevirtual 131, 3) := by decide +kernel
theorem dL_law_993 : decode cL_law 993 = .ok (.aload_n 2, 1) := by decide +kernel
theorem dL_law_994 : decode cL_law 994 = .ok (.aload_n 0, 1) := by decide +kernel
theorem dL_law_995 : decode cL_law 995 = .ok (.iload_n 3, 1) := by decide +kernel
theorem dL_law_996 : decode cL_law 996 = .ok (.iconst 1, 1) := by decide +kernel
theorem dL_law_997 : decode cL_law 997 = .ok (.iadd, 1) := by decide +kernel
theorem dL_law_998 : decode cL_law 998 = .ok (.iaload, 1) := by decide +kernel
theorem dL_law_999 : decode cL_law 999 = .ok (.invokevirtual 134, 3) := by decide +kernel
theorem dL_law_1002 : decode cL_law 1002 = .ok (.if_icmp .eq 249, 3) := by decide +kernel
theorem dL_law_1005 : decode cL_law 1005 = .ok (.iconst 0, 1) := by decide +kernel
theorem dL_law_1006 : decode cL_law 1006 = .ok (.ireturn, 1) := by decide +kernel
theorem dL_law_1007 : decode cL_law 1007 = .ok (.aload_n 1, 1) := by decide +kernel
theorem dL_law_1008 : decode cL_law 1008 = .ok (.aload_n 0, 1) := by decide +kernel
theorem dL_law_1009 : decode cL_law 1009 = .ok (.iload_n 3, 1) := by decide +kernel
theorem dL_law_1010 : decode cL_law 1010 = .ok (.iconst 1, 1) := by decide +kernel
theorem dL_law_1011 : decode cL_law 1011 = .ok (.iadd, 1) := by decide +kernel
theorem dL_law_1012 : decode cL_law 1012 = .ok (.iaload, 1) := by decide +kernel
theorem dL_law_1013 : decode cL_law 1013 = .ok (.aload_n 0, 1) := by decide +kernel
theorem dL_law_1014 : decode cL_law 1014 = .ok (.iload_n 3, 1) := by decide +kernel
theorem dL_law_1015 : decode cL_law 1015 = .ok (.iconst 2, 1) := by decide +kernel
theorem dL_law_1016 : decode cL_law 1016 = .ok (.iadd, 1) := by decide +kernel
theorem dL_law_1017 : decode cL_law 1017 = .ok (.iaload, 1) := by decide +kernel
theorem dL_law_1018 : decode cL_law 1018 = .ok (.aload_n 0, 1) := by decide +kernel
theorem dL_law_1019 : decode cL_law 1019 = .ok (.iload_n 3, 1) := by decide +kernel
theorem dL_law_1020 : decode cL_law 1020 = .ok (.iconst 3, 1) := by decide +kernel
theorem dL_law_1021 : decode cL_law 1021 = .ok (.iadd, 1) := by decide +kernel
theorem dL_law_1022 : decode cL_law 1022 = .ok (.iaload, 1) := by decide +kernel
theorem dL_law_1023 : decode cL_law 1023 = .ok (.aload_n 0, 1) := by decide +kernel
theorem dL_law_1024 : decode cL_law 1024 = .ok (.iload_n 3, 1) := by decide +kernel
theorem dL_law_1025 : decode cL_law 1025 = .ok (.iconst 4, 1) := by decide +kernel
theorem dL_law_1026 : decode cL_law 1026 = .ok (.iadd, 1) := by decide +kernel
theorem dL_law_1027 : decode cL_law 1027 = .ok (.iaload, 1) := by decide +kernel
theorem dL_law_1028 : decode cL_law 1028 = .ok (.aload_n 0, 1) := by decide +kernel
theorem dL_law_1029 : decode cL_law 1029 = .ok (.iload_n 3, 1) := by decide +kernel
theorem dL_law_1030 : decode cL_law 1030 = .ok (.iconst 5, 1) := by decide +kernel
theorem dL_law_1031 : decode cL_law 1031 = .ok (.iadd, 1) := by decide +kernel
theorem dL_law_1032 : decode cL_law 1032 = .ok (.iaload, 1) := by decide +kernel
theorem dL_law_1033 : decode cL_law 1033 = .ok (.invokevirtual 135, 3) := by decide +kernel
theorem dL_law_1036 : decode cL_law 1036 = .ok (.aload_n 2, 1) := by decide +kernel
theorem dL_law_1037 : decode cL_law 1037 = .ok (.aload_n 0, 1) := by decide +kernel
theorem dL_law_1038 : decode cL_law 1038 = .ok (.iload_n 3, 1) := by decide +kernel
theorem dL_law_1039 : decode cL_law 1039 = .ok (.iconst 1, 1) := by decide +kernel
theorem dL_law_1040 : decode cL_law 1040 = .ok (.iadd, 1) := by decide +kernel
theorem dL_law_1041 : decode cL_law 1041 = .ok (.iaload, 1) := by decide +kernel
theorem dL_law_1042 : decode cL_law 1042 = .ok (.aload_n 0, 1) := by decide +kernel
theorem dL_law_1043 : decode cL_law 1043 = .ok (.iload_n 3, 1) := by decide +kernel
theorem dL_law_1044 : decode cL_law 1044 = .ok (.iconst 2, 1) := by decide +kernel
theorem dL_law_1045 : decode cL_law 1045 = .ok (.iadd, 1) := by decide +kernel
theorem dL_law_1046 : decode cL_law 1046 = .ok (.iaload, 1) := by decide +kernel
theorem dL_law_1047 : decode cL_law 1047 = .ok (.aload_n 0, 1) := by decide +kernel
theorem dL_law_1048 : decode cL_law 1048 = .ok (.iload_n 3, 1) := by decide +kernel
theorem dL_law_1049 : decode cL_law 1049 = .ok (.iconst 3, 1) := by decide +kernel
theorem dL_law_1050 : decode cL_law 1050 = .ok (.iadd, 1) := by decide +kernel
theorem dL_law_1051 : decode cL_law 1051 = .ok (.iaload, 1) := by decide +kernel
theorem dL_law_1052 : decode cL_law 1052 = .ok (.aload_n 0, 1) := by decide +kernel
theorem dL_law_1053 : decode cL_law 1053 = .ok (.iload_n 3, 1) := by decide +kernel
theorem dL_law_1054 : decode cL_law 1054 = .ok (.iconst 4, 1) := by decide +kernel
theorem dL_law_1055 : decode cL_law 1055 = .ok (.iadd, 1) := by decide +kernel
theorem dL_law_1056 : decode cL_law 1056 = .ok (.iaload, 1) := by decide +kernel
theorem dL_law_1057 : decode cL_law 1057 = .ok (.aload_n 0, 1) := by decide +kernel
theorem dL_law_1058 : decode cL_law 1058 = .ok (.iload_n 3, 1) := by decide +kernel
theorem dL_law_1059 : decode cL_law 1059 = .ok (.iconst 5, 1) := by decide +kernel
theorem dL_law_1060 : decode cL_law 1060 = .ok (.iadd, 1) := by decide +kernel
theorem dL_law_1061 : decode cL_law 1061 = .ok (.iaload, 1) := by decide +kernel
theorem dL_law_1062 : decode cL_law 1062 = .ok (.invokevirtual 139, 3) := by decide +kernel
theorem dL_law_1065 : decode cL_law 1065 = .ok (.if_icmp .eq 186, 3) := by decide +kernel
theorem dL_law_1068 : decode cL_law 1068 = .ok (.iconst 0, 1) := by decide +kernel
theorem dL_law_1069 : decode cL_law 1069 = .ok (.ireturn, 1) := by decide +kernel
theorem dL_law_1070 : decode cL_law 1070 = .ok (.aload_n 1, 1) := by decide +kernel
theorem dL_law_1071 : decode cL_law 1071 = .ok (.aload_n 0, 1) := by decide +kernel
theorem dL_law_1072 : decode cL_law 1072 = .ok (.iload_n 3, 1) := by decide +kernel
theorem dL_law_1073 : decode cL_law 1073 = .ok (.iconst 1, 1) := by decide +kernel
theorem dL_law_1074 : decode cL_law 1074 = .ok (.iadd, 1) := by decide +kernel
theorem dL_law_1075 : decode cL_law 1075 = .ok (.iaload, 1) := by decide +kernel
theorem dL_law_1076 : decode cL_law 1076 = .ok (.aload_n 0, 1) := by decide +kernel
theorem dL_law_1077 : decode cL_law 1077 = .ok (.iload_n 3, 1) := by decide +kernel
theorem dL_law_1078 : decode cL_law 1078 = .ok (.iconst 2, 1) := by decide +kernel
theorem dL_law_1079 : decode cL_law 1079 = .ok (.iadd, 1) := by decide +kernel
theorem dL_law_1080 : decode cL_law 1080 = .ok (.iaload, 1) := by decide +kernel
theorem dL_law_1081 : decode cL_law 1081 = .ok (.invokevirtual 140, 3) := by decide +kernel
theorem dL_law_1084 : decode cL_law 1084 = .ok (.aload_n 2, 1) := by decide +kernel
theorem dL_law_1085 : decode cL_law 1085 = .ok (.aload_n 0, 1) := by decide +kernel
theorem dL_law_1086 : decode cL_law 1086 = .ok (.iload_n 3, 1) := by decide +kernel
theorem dL_law_1087 : decode cL_law 1087 = .ok (.iconst 1, 1) := by decide +kernel
theorem dL_law_1088 : decode cL_law 1088 = .ok (.iadd, 1) := by decide +kernel
theorem dL_law_1089 : decode cL_law 1089 = .ok (.iaload, 1) := by decide +kernel
theorem dL_law_1090 : decode cL_law 1090 = .ok (.aload_n 0, 1) := by decide +kernel
theorem dL_law_1091 : decode cL_law 1091 = .ok (.iload_n 3, 1) := by decide +kernel
theorem dL_law_1092 : decode cL_law 1092 = .ok (.iconst 2, 1) := by decide +kernel
theorem dL_law_1093 : decode cL_law 1093 = .ok (.iadd, 1) := by decide +kernel
theorem dL_law_1094 : decode cL_law 1094 = .ok (.iaload, 1) := by decide +kernel
theorem dL_law_1095 : decode cL_law 1095 = .ok (.invokevirtual 143, 3) := by decide +kernel
theorem dL_law_1098 : decode cL_law 1098 = .ok (.if_icmp .eq 153, 3) := by decide +kernel
theorem dL_law_1101 : decode cL_law 1101 = .ok (.iconst 0, 1) := by decide +kernel
theorem dL_law_1102 : decode cL_law 1102 = .ok (.ireturn, 1) := by decide +kernel
theorem dL_law_1103 : decode cL_law 1103 = .ok (.aload_n 1, 1) := by decide +kernel
theorem dL_law_1104 : decode cL_law 1104 = .ok (.aload_n 0, 1) := by decide +kernel
theorem dL_law_1105 : decode cL_law 1105 = .ok (.iload_n 3, 1) := by decide +kernel
theorem dL_law_1106 : decode cL_law 1106 = .ok (.iconst 1, 1) := by decide +kernel
theorem dL_law_1107 : decode cL_law 1107 = .ok (.iadd, 1) := by decide +kernel
theorem dL_law_1108 : decode cL_law 1108 = .ok (.iaload, 1) := by decide +kernel
theorem dL_law_1109 : decode cL_law 1109 = .ok (.aload_n 0, 1) := by decide +kernel
theorem dL_law_1110 : decode cL_law 1110 = .ok (.iload_n 3, 1) := by decide +kernel
theorem dL_law_1111 : decode cL_law 1111 = .ok (.iconst 2, 1) := by decide +kernel
theorem dL_law_1112 : decode cL_law 1112 = .ok (.iadd, 1) := by decide +kernel
theorem dL_law_1113 : decode cL_law 1113 = .ok (.iaload, 1) := by decide +kernel
theorem dL_law_1114 : decode cL_law 1114 = .ok (.invokevirtual 144, 3) := by decide +kernel
theorem dL_law_1117 : decode cL_law 1117 = .ok (.aload_n 2, 1) := by decide +kernel
theorem dL_law_1118 : decode cL_law 1118 = .ok (.aload_n 0, 1) := by decide +kernel
theorem dL_law_1119 : decode cL_law 1119 = .ok (.iload_n 3, 1) := by decide +kernel
theorem dL_law_1120 : decode cL_law 1120 = .ok (.iconst 1, 1) := by decide +kernel
theorem dL_law_1121 : decode cL_law 1121 = .ok (.iadd, 1) := by decide +kernel
theorem dL_law_1122 : decode cL_law 1122 = .ok (.iaload, 1) := by decide +kernel
theorem dL_law_1123 : decode cL_law 1123 = .ok (.aload_n 0, 1) := by decide +kernel
theorem dL_law_1124 : decode cL_law 1124 = .ok (.iload_n 3, 1) := by decide +kernel
theorem dL_law_1125 : decode cL_law 1125 = .ok (.iconst 2, 1) := by decide +kernel
theorem dL_law_1126 : decode cL_law 1126 = .ok (.iadd, 1) := by decide +kernel
theorem dL_law_1127 : decode cL_law 1127 = .ok (.iaload, 1) := by decide +kernel
theorem dL_law_1128 : decode cL_law 1128 = .ok (.invokevirtual 147, 3) := by decide +kernel
theorem dL_law_1131 : decode cL_law 1131 = .ok (.if_icmp .eq 120, 3) := by decide +kernel
theorem dL_law_1134 : decode cL_law 1134 = .ok (.iconst 0, 1) := by decide +kernel
theorem dL_law_1135 : decode cL_law 1135 = .ok (.ireturn, 1) := by decide +kernel
theorem dL_law_1136 : decode cL_law 1136 = .ok (.aload_n 1, 1) := by decide +kernel
theorem dL_law_1137 : decode cL_law 1137 = .ok (.invokevirtual 148, 3) := by decide +kernel
theorem dL_law_1140 : decode cL_law 1140 = .ok (.aload_n 2, 1) := by decide +kernel
theorem dL_law_1141 : decode cL_law 1141 = .ok (.invokevirtual 152, 3) := by decide +kernel
theorem dL_law_1144 : decode cL_law 1144 = .ok (.lcmp, 1) := by decide +kernel
theorem dL_law_1145 : decode cL_law 1145 = .ok (.ifCond .eq 106, 3) := by decide +kernel
theorem dL_law_1148 : decode cL_law 1148 = .ok (.iconst 0, 1) := by decide +kernel
theorem dL_law_1149 : decode cL_law 1149 = .ok (.ireturn, 1) := by decide +kernel
theorem dL_law_1150 : decode cL_law 1150 = .ok (.aload_n 1, 1) := by decide +kernel
theorem dL_law_1151 : decode cL_law 1151 = .ok (.invokevirtual 153, 3) := by decide +kernel
theorem dL_law_1154 : decode cL_law 1154 = .ok (.aload_n 2, 1) := by decide +kernel
theorem dL_law_1155 : decode cL_law 1155 = .ok (.invokevirtual 156, 3) := by decide +kernel
theorem dL_law_1158 : decode cL_law 1158 = .ok (.lcmp, 1) := by decide +kernel
theorem dL_law_1159 : decode cL_law 1159 = .ok (.ifCond .eq 92, 3) := by decide +kernel
theorem dL_law_1162 : decode cL_law 1162 = .ok (.iconst 0, 1) := by decide +kernel
theorem dL_law_1163 : decode cL_law 1163 = .ok (.ireturn, 1) := by decide +kernel
theorem dL_law_1164 : decode cL_law 1164 = .ok (.aload_n 1, 1) := by decide +kernel
theorem dL_law_1165 : decode cL_law 1165 = .ok (.invokevirtual 157, 3) := by decide +kernel
theorem dL_law_1168 : decode cL_law 1168 = .ok (.aload_n 2, 1) := by decide +kernel
theorem dL_law_1169 : decode cL_law 1169 = .ok (.invokevirtual 160, 3) := by decide +kernel
theorem dL_law_1172 : decode cL_law 1172 = .ok (.lcmp, 1) := by decide +kernel
theorem dL_law_1173 : decode cL_law 1173 = .ok (.ifCond .eq 78, 3) := by decide +kernel
theorem dL_law_1176 : decode cL_law 1176 = .ok (.iconst 0, 1) := by decide +kernel
theorem dL_law_1177 : decode cL_law 1177 = .ok (.ireturn, 1) := by decide +kernel
theorem dL_law_1178 : decode cL_law 1178 = .ok (.aload_n 1, 1) := by decide +kernel
theorem dL_law_1179 : decode cL_law 1179 = .ok (.aload_n 0, 1) := by decide +kernel
theorem dL_law_1180 : decode cL_law 1180 = .ok (.iload_n 3, 1) := by decide +kernel
theorem dL_law_1181 : decode cL_law 1181 = .ok (.iconst 1, 1) := by decide +kernel
theorem dL_law_1182 : decode cL_law 1182 = .ok (.iadd, 1) := by decide +kernel
theorem dL_law_1183 : decode cL_law 1183 = .ok (.iaload, 1) := by decide +kernel
theorem dL_law_1184 : decode cL_law 1184 = .ok (.invokevirtual 161, 3) := by decide +kernel
theorem dL_law_1187 : decode cL_law 1187 = .ok (.aload_n 2, 1) := by decide +kernel
theorem dL_law_1188 : decode cL_law 1188 = .ok (.aload_n 0, 1) := by decide +kernel
theorem dL_law_1189 : decode cL_law 1189 = .ok (.iload_n 3, 1) := by decide +kernel
theorem dL_law_1190 : decode cL_law 1190 = .ok (.iconst 1, 1) := by decide +kernel
theorem dL_law_1191 : decode cL_law 1191 = .ok (.iadd, 1) := by decide +kernel
theorem dL_law_1192 : decode cL_law 1192 = .ok (.iaload, 1) := by decide +kernel
theorem dL_law_1193 : decode cL_law 1193 = .ok (.invokevirtual 164, 3) := by decide +kernel
theorem dL_law_1196 : decode cL_law 1196 = .ok (.if_icmp .eq 55, 3) := by decide +kernel
theorem dL_law_1199 : decode cL_law 1199 = .ok (.iconst 0, 1) := by decide +kernel
theorem dL_law_1200 : decode cL_law 1200 = .ok (.ireturn, 1) := by decide +kernel
theorem dL_law_1201 : decode cL_law 1201 = .ok (.aload_n 1, 1) := by decide +kernel
theorem dL_law_1202 : decode cL_law 1202 = .ok (.invokevirtual 165, 3) := by decide +kernel
theorem dL_law_1205 : decode cL_law 1205 = .ok (.aload_n 2, 1) := by decide +kernel
theorem dL_law_1206 : decode cL_law 1206 = .ok (.invokevirtual 168, 3) := by decide +kernel
theorem dL_law_1209 : decode cL_law 1209 = .ok (.if_icmp .eq 42, 3) := by decide +kernel
theorem dL_law_1212 : decode cL_law 1212 = .ok (.iconst 0, 1) := by decide +kernel
theorem dL_law_1213 : decode cL_law 1213 = .ok (.ireturn, 1) := by decide +kernel
theorem dL_law_1214 : decode cL_law 1214 = .ok (.aload_n 1, 1) := by decide +kernel
theorem dL_law_1215 : decode cL_law 1215 = .ok (.aload_n 0, 1) := by decide +kernel
theorem dL_law_1216 : decode cL_law 1216 = .ok (.iload_n 3, 1) := by decide +kernel
theorem dL_law_1217 : decode cL_law 1217 = .ok (.iconst 1, 1) := by decide +kernel
theorem dL_law_1218 : decode cL_law 1218 = .ok (.iadd, 1) := by decide +kernel
theorem dL_law_1219 : decode cL_law 1219 = .ok (.iaload, 1) := by decide +kernel
theorem dL_law_1220 : decode cL_law 1220 = .ok (.invokevirtual 169, 3) := by decide +kernel
theorem dL_law_1223 : decode cL_law 1223 = .ok (.aload_n 2, 1) := by decide +kernel
theorem dL_law_1224 : decode cL_law 1224 = .ok (.aload_n 0, 1) := by decide +kernel
theorem dL_law_1225 : decode cL_law 1225 = .ok (.iload_n 3, 1) := by decide +kernel
theorem dL_law_1226 : decode cL_law 1226 = .ok (.iconst 1, 1) := by decide +kernel
theorem dL_law_1227 : decode cL_law 1227 = .ok (.iadd, 1) := by decide +kernel
theorem dL_law_1228 : decode cL_law 1228 = .ok (.iaload, 1) := by decide +kernel
theorem dL_law_1229 : decode cL_law 1229 = .ok (.invokevirtual 172, 3) := by decide +kernel
theorem dL_law_1232 : decode cL_law 1232 = .ok (.if_icmp .eq 19, 3) := by decide +kernel
theorem dL_law_1235 : decode cL_law 1235 = .ok (.iconst 0, 1) := by decide +kernel
theorem dL_law_1236 : decode cL_law 1236 = .ok (.ireturn, 1) := by decide +kernel
theorem dL_law_1237 : decode cL_law 1237 = .ok (.aload_n 1, 1) := by decide +kernel
theorem dL_law_1238 : decode cL_law 1238 = .ok (.invokevirtual 173, 3) := by decide +kernel
theorem dL_law_1241 : decode cL_law 1241 = .ok (.aload_n 2, 1) := by decide +kernel
theorem dL_law_1242 : decode cL_law 1242 = .ok (.invokevirtual 176, 3) := by decide +kernel
theorem dL_law_1245 : decode cL_law 1245 = .ok (.lcmp, 1) := by decide +kernel
theorem dL_law_1246 : decode cL_law 1246 = .ok (.ifCond .eq 5, 3) := by decide +kernel
theorem dL_law_1249 : decode cL_law 1249 = .ok (.iconst 0, 1) := by decide +kernel
theorem dL_law_1250 : decode cL_law 1250 = .ok (.ireturn, 1) := by decide +kernel
theorem dL_law_1251 : decode cL_law 1251 = .ok (.iinc 3 6, 3) := by decide +kernel
theorem dL_law_1254 : decode cL_law 1254 = .ok (.goto (-1236), 3) := by decide +kernel
theorem dL_law_1257 : decode cL_law 1257 = .ok (.iconst 1, 1) := by decide +kernel
theorem dL_law_1258 : decode cL_law 1258 = .ok (.ireturn, 1) := by decide +kernel
end
section
/-! THE STATE: one memory of ints and longs over numbered cells; the world's shape is fixed -/
abbrev Mm : Type := (Nat → Nat → Int32) × (Nat → Nat → Int64)
def gI (M : Mm) (k j : Nat) : Int32 := M.1 k j
def gJ (M : Mm) (k j : Nat) : Int64 := M.2 k j
def sI (M : Mm) (k j : Nat) (v : Int32) : Mm := (fun k' j' => if k' = k ∧ j' = j then v else M.1 k' j', M.2)
def sJ (M : Mm) (k j : Nat) (v : Int64) : Mm := (M.1, fun k' j' => if k' = k ∧ j' = j then v else M.2 k' j')
/-- a row of cell k becomes f -/
def sA (M : Mm) (k : Nat) (f : Nat → Int32) : Mm := (fun k' j' => if k' = k then f j' else M.1 k' j', M.2)
def sAJ (M : Mm) (k : Nat) (f : Nat → Int64) : Mm := (M.1, fun k' j' => if k' = k then f j' else M.2 k' j')
theorem gI_sI (M : Mm) (k j k' j' : Nat) (v : Int32) : gI (sI M k j v) k' j' = if k' = k ∧ j' = j then v else gI M k' j' := rfl
theorem gJ_sJ (M : Mm) (k j k' j' : Nat) (v : Int64) : gJ (sJ M k j v) k' j' = if k' = k ∧ j' = j then v else gJ M k' j' := rfl
theorem gI_sJ (M : Mm) (k j k' j' : Nat) (v : Int64) : gI (sJ M k j v) k' j' = gI M k' j' := rfl
theorem gJ_sI (M : Mm) (k j k' j' : Nat) (v : Int32) : gJ (sI M k j v) k' j' = gJ M k' j' := rfl
theorem gI_sA (M : Mm) (k k' j' : Nat) (f : Nat → Int32) : gI (sA M k f) k' j' = if k' = k then f j' else gI M k' j' := rfl
theorem gJ_sA (M : Mm) (k k' j' : Nat) (f : Nat → Int32) : gJ (sA M k f) k' j' = gJ M k' j' := rfl
theorem gI_sAJ (M : Mm) (k k' j' : Nat) (f : Nat → Int64) : gI (sAJ M k f) k' j' = gI M k' j' := rfl
theorem gJ_sAJ (M : Mm) (k k' j' : Nat) (f : Nat → Int64) : gJ (sAJ M k f) k' j' = if k' = k then f j' else gJ M k' j' := rfl
abbrev Sh : Type := (Nat × List Nat) ⊕ (Nat × Nat × Nat)
def SH : List Sh := [.inl (6, [4, 5, 6, 7, 8, 9, 1, 1, 1]),
  .inl (2, [10, 11, 12, 13, 0]),
  .inl (0, [14, 19, 20, 21, 22, 0, 0, 0, 0, 0, 0, 0]),
  .inl (3, [23, 24, 25, 26, 27, 28, 0, 0, 0]),
  .inl (5, [29, 30, 31, 32, 33, 34, 0]),
  .inl (4, [35, 36, 44, 45, 0]),
  .inl (1, [46, 0]),
  .inr (0, 10, 0),
  .inr (0, 10, 0),
  .inr (2, 10, 0),
  .inr (0, 30, 0),
  .inr (3, 4, 12),
  .inr (0, 4, 0),
  .inr (0, 4, 0),
  .inr (0, 4, 0),
  .inr (0, 4, 0),
  .inr (0, 4, 0),
  .inr (0, 200, 0),
  .inr (0, 200, 0),
  .inr (0, 200, 0),
  .inr (0, 4, 0),
  .inr (0, 4, 0),
  .inr (0, 4, 0),
  .inr (0, 4, 0),
  .inr (0, 7, 0),
  .inr (1, 5, 0),
  .inr (0, 500, 0),
  .inr (0, 500, 0),
  .inr (0, 3, 0),
  .inr (0, 3, 0),
  .inr (0, 500, 0),
  .inr (0, 500, 0),
  .inr (2, 7, 0),
  .inr (3, 7, 34),
  .inr (0, 24, 0),
  .inr (0, 24, 0),
  .inr (0, 24, 0),
  .inr (0, 24, 0),
  .inr (0, 24, 0),
  .inr (0, 24, 0),
  .inr (0, 24, 0),
  .inr (0, 24, 0),
  .inr (1, 25, 0),
  .inr (0, 6, 0),
  .inl (7, [0, 48, 1, 1, 1, 0, 49, 50, 51, 52, 53, 54, 0, 0, 0, 0, 0, 55, 56, 57, 58, 0, 0, 0, 59, 60, 61, 62, 63, 64, 0, 0, 65, 66, 67, 0, 68, 69, 70, 71, 72, 73, 74, 75]),
  .inr (0, 6, 0),
  .inr (0, 30, 0),
  .inr (0, 10, 0),
  .inr (0, 10, 0),
  .inr (2, 10, 0),
  .inr (0, 16, 0),
  .inr (0, 4, 0),
  .inr (0, 200, 0),
  .inr (1, 200, 0),
  .inr (1, 200, 0),
  .inr (0, 200, 0),
  .inr (0, 5, 0),
  .inr (0, 5, 0),
  .inr (0, 4, 0),
  .inr (0, 4, 0),
  .inr (0, 7, 0),
  .inr (1, 5, 0),
  .inr (0, 500, 0),
  .inr (0, 500, 0),
  .inr (0, 500, 0),
  .inr (0, 500, 0),
  .inr (0, 500, 0),
  .inr (2, 7, 0),
  .inr (0, 168, 0),
  .inr (0, 24, 0),
  .inr (0, 24, 0),
  .inr (0, 26, 0),
  .inr (0, 26, 0)]
def fv (a : Nat → Nat) (M : Mm) (k j f : Nat) : Value := match f with
  | 0 => .int (gI M k j)
  | 1 => .long (gJ M k j)
  | 2 => .null
  | r + 3 => .ref (a r)
def ca (a : Nat → Nat) (M : Mm) (k t n r : Nat) : (Nat → Int32) ⊕ (Nat → Int64) ⊕ (Nat → UInt32) ⊕ (Nat → UInt64) ⊕ (Nat → Option Nat) := match t with
  | 1 => .inr (.inl (gJ M k))
  | 3 => .inr (.inr (.inr (.inr (fun i => if i < n then some (a (r + i)) else none))))
  | _ => .inl (gI M k)
def ce (ct : Nat → ClassId) (a : Nat → Nat) (M : Mm) (k : Nat) (x : Sh) : va_E := match x with
  | .inl (ci, fs) => .inr (ci, fs.mapIdx (fun j f => fv a M k j f))
  | .inr (t, n, r) => .inl (ct t, n, ca a M k t n r)
def wd (ct : Nat → ClassId) (a : Nat → Nat) (M : Mm) : va_W := SH.mapIdx (fun k x => (a k, ce ct a M k x))
def tyl (ct : Nat → ClassId) : List (ClassId × FieldType) := [(ct 0, .int), (ct 1, .long), (ct 2, .boolean), (ct 3, .array .int)]
def tbw : List Cond := lw_tbl.filter goodWord
theorem wd_get {ct : Nat → ClassId} {a : Nat → Nat} {M : Mm} {k : Nat} {x : Sh} (h : SH[k]? = some x) : (wd ct a M)[k]? = some (a k, ce ct a M k x) := by
  simp [wd, List.getElem?_mapIdx, h]
theorem wd_len {ct : Nat → ClassId} {a : Nat → Nat} {M : Mm} : (wd ct a M).length = SH.length := by simp [wd]
theorem fv_ne {a : Nat → Nat} {M M' : Mm} {k j f : Nat} (h1 : gI M k j = gI M' k j) (h2 : gJ M k j = gJ M' k j) : fv a M k j f = fv a M' k j f := by
  match f with
  | 0 => simp [fv, h1]
  | 1 => simp [fv, h2]
  | 2 => rfl
  | r + 3 => rfl
theorem ce_ne {ct : Nat → ClassId} {a : Nat → Nat} {M M' : Mm} {k : Nat} (h1 : ∀ j, gI M k j = gI M' k j) (h2 : ∀ j, gJ M k j = gJ M' k j) (x : Sh) : ce ct a M k x = ce ct a M' k x := by
  have e1 : gI M k = gI M' k := funext h1
  have e2 : gJ M k = gJ M' k := funext h2
  obtain ⟨ci, fs⟩ | ⟨t, n, r⟩ := x
  · simp only [ce]
    have e : (fun j f => fv a M k j f) = (fun j f => fv a M' k j f) := funext fun j => funext fun f => fv_ne (h1 j) (h2 j)
    rw [e]
  · simp only [ce, ca, e1, e2]
/-- a write into one cell -/
theorem wd_set {ct : Nat → ClassId} {a : Nat → Nat} {M M' : Mm} {k : Nat} {x : Sh} (h : SH[k]? = some x) (h1 : ∀ i j, i ≠ k → gI M i j = gI M' i j) (h2 : ∀ i j, i ≠ k → gJ M i j = gJ M' i j) : (wd ct a M).set k (a k, ce ct a M' k x) = wd ct a M' := by
  apply List.ext_getElem?
  intro i
  by_cases hi : i = k
  · subst hi
    have hl : i < SH.length := (List.getElem?_eq_some_iff.mp h).1
    rw [List.getElem?_set_self (by rw [wd_len]; exact hl), wd_get h]
  · rw [List.getElem?_set_ne (fun e => hi e.symm)]
    simp only [wd, List.getElem?_mapIdx]
    cases hx : SH[i]? with
    | none => rfl
    | some y => simp only [Option.map_some]; rw [ce_ne (fun j => h1 i j hi) (fun j => h2 i j hi)]
theorem fs_setI {a : Nat → Nat} {M : Mm} {k j : Nat} {fs : List Nat} (hf : fs[j]? = some 0) (v : Int32) : (fs.mapIdx (fun j f => fv a M k j f)).set j (.int v) = fs.mapIdx (fun j' f => fv a (sI M k j v) k j' f) := by
  apply List.ext_getElem?
  intro i
  by_cases hi : i = j
  · subst hi
    have hl : i < fs.length := (List.getElem?_eq_some_iff.mp hf).1
    rw [List.getElem?_set_self (by simpa using hl), List.getElem?_mapIdx, hf]
    simp [fv, gI_sI]
  · rw [List.getElem?_set_ne (fun e => hi e.symm), List.getElem?_mapIdx, List.getElem?_mapIdx]
    cases fs[i]? with
    | none => rfl
    | some f => exact congrArg some (fv_ne (M' := sI M k j v) (by simp [gI_sI, hi]) rfl)
theorem fs_setJ {a : Nat → Nat} {M : Mm} {k j : Nat} {fs : List Nat} (hf : fs[j]? = some 1) (v : Int64) : (fs.mapIdx (fun j f => fv a M k j f)).set j (.long v) = fs.mapIdx (fun j' f => fv a (sJ M k j v) k j' f) := by
  apply List.ext_getElem?
  intro i
  by_cases hi : i = j
  · subst hi
    have hl : i < fs.length := (List.getElem?_eq_some_iff.mp hf).1
    rw [List.getElem?_set_self (by simpa using hl), List.getElem?_mapIdx, hf]
    simp [fv, gJ_sJ]
  · rw [List.getElem?_set_ne (fun e => hi e.symm), List.getElem?_mapIdx, List.getElem?_mapIdx]
    cases fs[i]? with
    | none => rfl
    | some f => exact congrArg some (fv_ne (M' := sJ M k j v) rfl (by simp [gJ_sJ, hi]))
theorem ca_upd {M : Mm} {k i : Nat} {v : Int32} : upd (gI M k) i v = gI (sI M k i v) k := by
  funext j
  simp [upd, gI_sI]
theorem ca_updL {M : Mm} {k i : Nat} {v : Int64} : vp_updL (gJ M k) i v = gJ (sJ M k i v) k := by
  funext j
  simp [vp_updL, gJ_sJ]
/-! locals by their places -/
def lvl : Nat → List (Option Value) → List (Nat × Value)
  | _, [] => []
  | i, none :: r => lvl (i + 1) r
  | i, some v :: r => (i, v) :: lvl (i + 1) r
theorem lvl_mem {v : Value} {j : Nat} : ∀ (lv : List (Option Value)) (i : Nat), (j, v) ∈ lvl i lv ↔ ∃ n, j = i + n ∧ lv[n]? = some (some v)
  | [], i => by simp [lvl]
  | none :: r, i => by
    rw [show lvl i (none :: r) = lvl (i + 1) r from rfl, lvl_mem r (i + 1)]
    constructor
    · rintro ⟨n, h1, h2⟩
      exact ⟨n + 1, by omega, by simpa using h2⟩
    · rintro ⟨n, h1, h2⟩
      cases n with
      | zero => simp at h2
      | succ n => exact ⟨n, by omega, by simpa using h2⟩
  | some w :: r, i => by
    rw [show lvl i (some w :: r) = (i, w) :: lvl (i + 1) r from rfl, List.mem_cons, lvl_mem r (i + 1)]
    constructor
    · rintro (h | ⟨n, h1, h2⟩)
      · cases h
        exact ⟨0, by omega, by simp⟩
      · exact ⟨n + 1, by omega, by simpa using h2⟩
    · rintro ⟨n, h1, h2⟩
      cases n with
      | zero =>
        have e : w = v := by simpa using h2
        exact Or.inl (by rw [e, h1]; rfl)
      | succ n => exact Or.inr ⟨n, by omega, by simpa using h2⟩
theorem lvl_at {ls : Array Slot} {nL i : Nat} {lv : List (Option Value)} {v : Value} (h : lv_has ls nL (lvl 0 lv)) (hi : lv[i]? = some (some v)) : ls[i]? = some (.val v) :=
  h.2.2 (i, v) ((lvl_mem lv 0).mpr ⟨i, by omega, hi⟩)
/-- a store of one word at i does no harm to the place before it -/
def okS (lv : List (Option Value)) (i : Nat) : Prop := ∀ w, i ≠ 0 → lv[i - 1]? = some (some w) → w.category = 1
theorem lvl_set1 {ls : Array Slot} {nL i : Nat} {lv : List (Option Value)} {v : Value} (hl : i < lv.length) (ho : okS lv i) (h : lv_has ls nL ((i, v) :: (lvl 0 lv).filter (fun q => !(q.1 == i) && !(q.1 + 1 == i && q.2.category == 2)))) : lv_has ls nL (lvl 0 (lv.set i (some v))) := by
  refine ⟨h.1, h.2.1, fun q hq => ?_⟩
  obtain ⟨j, w⟩ := q
  obtain ⟨n, h1, h2⟩ := (lvl_mem _ 0).mp hq
  have e : j = n := by omega
  subst e
  by_cases hj : j = i
  · subst hj
    rw [List.getElem?_set_self hl] at h2
    cases h2
    exact h.2.2 _ List.mem_cons_self
  · rw [List.getElem?_set_ne (fun e => hj e.symm)] at h2
    refine h.2.2 (j, w) (List.mem_cons_of_mem _ (List.mem_filter.mpr ⟨(lvl_mem _ 0).mpr ⟨j, by omega, h2⟩, ?_⟩))
    by_cases h3 : j + 1 = i
    · have := ho w (by omega) (by rw [← h3]; simpa using h2)
      simp [hj, this]
    · simp [hj, h3]
theorem lvl_set2 {ls : Array Slot} {nL i : Nat} {lv : List (Option Value)} {v : Value} (hl : i + 1 < lv.length) (ho : okS lv i) (h : lv_has ls nL ((i, v) :: (lvl 0 lv).filter (fun q => !(q.1 == i) && (!(q.1 == i + 1) && !(q.1 + 1 == i && q.2.category == 2))))) : lv_has ls nL (lvl 0 ((lv.set i (some v)).set (i + 1) none)) := by
  refine ⟨h.1, h.2.1, fun q hq => ?_⟩
  obtain ⟨j, w⟩ := q
  obtain ⟨n, h1, h2⟩ := (lvl_mem _ 0).mp hq
  have e : j = n := by omega
  subst e
  by_cases hk : j = i + 1
  · subst hk
    rw [List.getElem?_set_self (by simpa using hl)] at h2
    cases h2
  rw [List.getElem?_set_ne (fun e => hk e.symm)] at h2
  by_cases hj : j = i
  · subst hj
    rw [List.getElem?_set_self (by omega)] at h2
    cases h2
    exact h.2.2 _ List.mem_cons_self
  · rw [List.getElem?_set_ne (fun e => hj e.symm)] at h2
    refine h.2.2 (j, w) (List.mem_cons_of_mem _ (List.mem_filter.mpr ⟨(lvl_mem _ 0).mpr ⟨j, by omega, h2⟩, ?_⟩))
    by_cases h3 : j + 1 = i
    · have := ho w (by omega) (by rw [← h3]; simpa using h2)
      simp [hj, hk, this]
    · simp [hj, h3, hk]
/-- the locals at a method's entry -/
def lvA : List Value → List (Option Value)
  | [] => []
  | v :: r => if v.category = 2 then some v :: none :: lvA r else some v :: lvA r
theorem lvl_none (n : Nat) : ∀ i, lvl i (List.replicate n none) = [] := by
  induction n with
  | zero => intro i; rfl
  | succ n ih => intro i; exact ih (i + 1)
theorem lvl_lvA (n : Nat) : ∀ (vs : List Value) (i : Nat), lvl i (lvA vs ++ List.replicate n none) = lv_args i vs
  | [], i => by simp [lvA, lv_args, lvl_none]
  | v :: r, i => by
    by_cases h : v.category = 2
    · simp [lvA, h, lvl, lv_args, lvl_lvA n r]
    · simp [lvA, h, lvl, lv_args, lvl_lvA n r]
/-! what every method stands in -/
def kinds : Nat → Int32 := fun j => match j with
  | 2 => 1
  | 3 => 2
  | _ => 0
def Kd (A : Nat → Prop) (U : State) (H : Heap) : Prop := ∃ t : Nat, va_Z "KilnLine$Kiln" "KINDS" "[I" (.ref t) A U H ∧ va_T .int t 4 (fun j => .int (kinds j)) A U H
def nws : List Cond := [.methodLinkNest "KilnLine$Heap" 42 ⟨"KilnLine", "fold", "(JJ)J"⟩ "KilnLine", .methodLinkNest "KilnLine$Blend" 88 ⟨"KilnLine", "fold", "(JJ)J"⟩ "KilnLine", .methodLinkNest "KilnLine$Kiln" 77 ⟨"KilnLine", "fold", "(JJ)J"⟩ "KilnLine", .methodLinkNest "KilnLine$Silos" 43 ⟨"KilnLine", "fold", "(JJ)J"⟩ "KilnLine", .methodLinkNest "KilnLine$Prices" 71 ⟨"KilnLine", "fold", "(JJ)J"⟩ "KilnLine"]
def NW (U : State) : Prop := ∀ w ∈ nws, va_Nw w U
def Aa (a : Nat → Nat) (sz : Nat) : Nat → Prop := fun q => (∃ k, k < SH.length ∧ q = a k) ∨ sz ≤ q
def wdD (A : Nat → Prop) (a : Nat → Nat) : Prop := (∀ i j, i < SH.length → j < SH.length → a i = a j → i = j) ∧ ∀ k, k < SH.length → A (a k)
theorem wd_at {ct : Nat → ClassId} {a : Nat → Nat} {M : Mm} {k : Nat} {q : Nat × va_E} (h : (wd ct a M)[k]? = some q) : k < SH.length ∧ q.1 = a k := by
  have hl := (List.getElem?_eq_some_iff.mp h).1
  rw [wd_len] at hl
  refine ⟨hl, ?_⟩
  simp only [wd, List.getElem?_mapIdx] at h
  cases hx : SH[k]? with
  | none => rw [hx] at h; cases h
  | some y => rw [hx] at h; cases h; rfl
theorem wdD.toD {A : Nat → Prop} {a : Nat → Nat} (h : wdD A a) (ct : Nat → ClassId) (M : Mm) : va_D A (wd ct a M) := by
  refine ⟨fun i j p q hi hj e => ?_, fun k q hk => ?_⟩
  · obtain ⟨l1, e1⟩ := wd_at hi
    obtain ⟨l2, e2⟩ := wd_at hj
    exact h.1 i j l1 l2 (by rw [← e1, ← e2, e])
  · obtain ⟨l1, e1⟩ := wd_at hk
    rw [e1]
    exact h.2 k l1
def Cx (p : Program) (s : State) (m : MethodId) (args : Array Value) (meth : Method) (c : Code) (cc : ByteArray) (nL : Nat) (own : String) (ret : Option FieldType) (D : va_G) (A : Nat → Prop) (ct : Nat → ClassId) (a : Nat → Nat) : Prop :=
  CallFix p m c cc nL s args tbw own ∧ va_K D vwCl (tyl ct) s ∧ wdD A a ∧ (∀ q, s.heap.size ≤ q → A q) ∧ Kd A s s.heap ∧ NW s ∧ meth.locks = false ∧ meth.sig.returnType = ret
def KW (p : Program) (l : Launch) (e : Env) (R : Room) (s : State) (m : MethodId) (args : Array Value) (below : List Frame) (meth : Method) (c : Code) (cells slots : Nat) (Q : State → Prop) (D : va_G) (A : Nat → Prop) (ct : Nat → ClassId) (a : Nat → Nat) (nL : Nat) (M : Mm) (pc : Nat) (lv : List (Option Value)) (st : List Value) : Prop :=
  ∀ (H : Heap) (locs : List Loc) (ls : Array Slot), va_P D vwCl (wd ct a M) H → va_S A s.heap H locs → lv_has ls nL (lvl 0 lv) → W p l e R s m args below meth c H locs cells slots Q (F0 m pc ls st)

section LY
variable {p : Program} {l : Launch} {e : Env} {R : Room} {s : State} {m : MethodId} {args : Array Value} {below : List Frame} {meth : Method} {c : Code} {cells slots : Nat} {Q : State → Prop} {D : va_G} {A : Nat → Prop} {ct : Nat → ClassId} {a : Nat → Nat} {nL : Nat} {M : Mm} {pc : Nat} {lv : List (Option Value)} {st : List Value} {cc : ByteArray} {own : String} {ret : Option FieldType}

theorem q_iadd {x y : Int32} (C : Cx p s m args meth c cc nL own ret D A ct a) (hd : decode cc pc = .ok (.iadd, 1))  (k : KW p l e R s m args below meth c cells slots Q D A ct a nL M (pc + 1) lv (.int (x + y) :: st)) : KW p l e R s m args below meth c cells slots Q D A ct a nL M pc lv (.int y :: .int x :: st) := fun H locs ls hP hS hl => lv_iadd C.1.1 C.1.2.1 hd  (k H locs ls hP hS hl)
theorem q_isub {x y : Int32} (C : Cx p s m args meth c cc nL own ret D A ct a) (hd : decode cc pc = .ok (.isub, 1))  (k : KW p l e R s m args below meth c cells slots Q D A ct a nL M (pc + 1) lv (.int (x - y) :: st)) : KW p l e R s m args below meth c cells slots Q D A ct a nL M pc lv (.int y :: .int x :: st) := fun H locs ls hP hS hl => lv_isub C.1.1 C.1.2.1 hd  (k H locs ls hP hS hl)
theorem q_imul {x y : Int32} (C : Cx p s m args meth c cc nL own ret D A ct a) (hd : decode cc pc = .ok (.imul, 1))  (k : KW p l e R s m args below meth c cells slots Q D A ct a nL M (pc + 1) lv (.int (x * y) :: st)) : KW p l e R s m args below meth c cells slots Q D A ct a nL M pc lv (.int y :: .int x :: st) := fun H locs ls hP hS hl => lv_imul C.1.1 C.1.2.1 hd  (k H locs ls hP hS hl)
theorem q_iand {x y : Int32} (C : Cx p s m args meth c cc nL own ret D A ct a) (hd : decode cc pc = .ok (.iand, 1))  (k : KW p l e R s m args below meth c cells slots Q D A ct a nL M (pc + 1) lv (.int (x &&& y) :: st)) : KW p l e R s m args below meth c cells slots Q D A ct a nL M pc lv (.int y :: .int x :: st) := fun H locs ls hP hS hl => lv_iand C.1.1 C.1.2.1 hd  (k H locs ls hP hS hl)
theorem q_ior {x y : Int32} (C : Cx p s m args meth c cc nL own ret D A ct a) (hd : decode cc pc = .ok (.ior, 1))  (k : KW p l e R s m args below meth c cells slots Q D A ct a nL M (pc + 1) lv (.int (x ||| y) :: st)) : KW p l e R s m args below meth c cells slots Q D A ct a nL M pc lv (.int y :: .int x :: st) := fun H locs ls hP hS hl => lv_ior C.1.1 C.1.2.1 hd  (k H locs ls hP hS hl)
theorem q_ishl {x y : Int32} (C : Cx p s m args meth c cc nL own ret D A ct a) (hd : decode cc pc = .ok (.ishl, 1))  (k : KW p l e R s m args below meth c cells slots Q D A ct a nL M (pc + 1) lv (.int (x <<< (y &&& 31)) :: st)) : KW p l e R s m args below meth c cells slots Q D A ct a nL M pc lv (.int y :: .int x :: st) := fun H locs ls hP hS hl => lv_ishl C.1.1 C.1.2.1 hd  (k H locs ls hP hS hl)
theorem q_ladd {x y : Int64} (C : Cx p s m args meth c cc nL own ret D A ct a) (hd : decode cc pc = .ok (.ladd, 1))  (k : KW p l e R s m args below meth c cells slots Q D A ct a nL M (pc + 1) lv (.long (x + y) :: st)) : KW p l e R s m args below meth c cells slots Q D A ct a nL M pc lv (.long y :: .long x :: st) := fun H locs ls hP hS hl => lv_ladd C.1.1 C.1.2.1 hd  (k H locs ls hP hS hl)
theorem q_lsub {x y : Int64} (C : Cx p s m args meth c cc nL own ret D A ct a) (hd : decode cc pc = .ok (.lsub, 1))  (k : KW p l e R s m args below meth c cells slots Q D A ct a nL M (pc + 1) lv (.long (x - y) :: st)) : KW p l e R s m args below meth c cells slots Q D A ct a nL M pc lv (.long y :: .long x :: st) := fun H locs ls hP hS hl => lv_lsub C.1.1 C.1.2.1 hd  (k H locs ls hP hS hl)
theorem q_lmul {x y : Int64} (C : Cx p s m args meth c cc nL own ret D A ct a) (hd : decode cc pc = .ok (.lmul, 1))  (k : KW p l e R s m args below meth c cells slots Q D A ct a nL M (pc + 1) lv (.long (x * y) :: st)) : KW p l e R s m args below meth c cells slots Q D A ct a nL M pc lv (.long y :: .long x :: st) := fun H locs ls hP hS hl => lv_lmul C.1.1 C.1.2.1 hd  (k H locs ls hP hS hl)
theorem q_land {x y : Int64} (C : Cx p s m args meth c cc nL own ret D A ct a) (hd : decode cc pc = .ok (.land, 1))  (k : KW p l e R s m args below meth c cells slots Q D A ct a nL M (pc + 1) lv (.long (x &&& y) :: st)) : KW p l e R s m args below meth c cells slots Q D A ct a nL M pc lv (.long y :: .long x :: st) := fun H locs ls hP hS hl => lv_land C.1.1 C.1.2.1 hd  (k H locs ls hP hS hl)
theorem q_idiv {x y : Int32} (C : Cx p s m args meth c cc nL own ret D A ct a) (hd : decode cc pc = .ok (.idiv, 1)) (hne : ¬ y = 0) (k : KW p l e R s m args below meth c cells slots Q D A ct a nL M (pc + 1) lv (.int (x / y) :: st)) : KW p l e R s m args below meth c cells slots Q D A ct a nL M pc lv (.int y :: .int x :: st) := fun H locs ls hP hS hl => lv_idiv C.1.1 C.1.2.1 hd hne (k H locs ls hP hS hl)
theorem q_irem {x y : Int32} (C : Cx p s m args meth c cc nL own ret D A ct a) (hd : decode cc pc = .ok (.irem, 1)) (hne : ¬ y = 0) (k : KW p l e R s m args below meth c cells slots Q D A ct a nL M (pc + 1) lv (.int (x - x / y * y) :: st)) : KW p l e R s m args below meth c cells slots Q D A ct a nL M pc lv (.int y :: .int x :: st) := fun H locs ls hP hS hl => lv_irem C.1.1 C.1.2.1 hd hne (k H locs ls hP hS hl)
theorem q_ldiv {x y : Int64} (C : Cx p s m args meth c cc nL own ret D A ct a) (hd : decode cc pc = .ok (.ldiv, 1)) (hne : ¬ y = 0) (k : KW p l e R s m args below meth c cells slots Q D A ct a nL M (pc + 1) lv (.long (x / y) :: st)) : KW p l e R s m args below meth c cells slots Q D A ct a nL M pc lv (.long y :: .long x :: st) := fun H locs ls hP hS hl => lv_ldiv C.1.1 C.1.2.1 hd hne (k H locs ls hP hS hl)
theorem q_lrem {x y : Int64} (C : Cx p s m args meth c cc nL own ret D A ct a) (hd : decode cc pc = .ok (.lrem, 1)) (hne : ¬ y = 0) (k : KW p l e R s m args below meth c cells slots Q D A ct a nL M (pc + 1) lv (.long (x - x / y * y) :: st)) : KW p l e R s m args below meth c cells slots Q D A ct a nL M pc lv (.long y :: .long x :: st) := fun H locs ls hP hS hl => lv_lrem C.1.1 C.1.2.1 hd hne (k H locs ls hP hS hl)
theorem q_ineg {x : Int32} (C : Cx p s m args meth c cc nL own ret D A ct a) (hd : decode cc pc = .ok (.ineg, 1))  (k : KW p l e R s m args below meth c cells slots Q D A ct a nL M (pc + 1) lv (.int (-x) :: st)) : KW p l e R s m args below meth c cells slots Q D A ct a nL M pc lv (.int x :: st) := fun H locs ls hP hS hl => lv_ineg C.1.1 C.1.2.1 hd  (k H locs ls hP hS hl)
theorem q_i2l {x : Int32} (C : Cx p s m args meth c cc nL own ret D A ct a) (hd : decode cc pc = .ok (.i2l, 1))  (k : KW p l e R s m args below meth c cells slots Q D A ct a nL M (pc + 1) lv (.long x.toInt64 :: st)) : KW p l e R s m args below meth c cells slots Q D A ct a nL M pc lv (.int x :: st) := fun H locs ls hP hS hl => lv_i2l C.1.1 C.1.2.1 hd rfl (k H locs ls hP hS hl)
theorem q_l2i {x : Int64} (C : Cx p s m args meth c cc nL own ret D A ct a) (hd : decode cc pc = .ok (.l2i, 1))  (k : KW p l e R s m args below meth c cells slots Q D A ct a nL M (pc + 1) lv (.int x.toInt32 :: st)) : KW p l e R s m args below meth c cells slots Q D A ct a nL M pc lv (.long x :: st) := fun H locs ls hP hS hl => lv_l2i C.1.1 C.1.2.1 hd rfl (k H locs ls hP hS hl)
theorem q_lshl {x : Int64} {y : Int32} (C : Cx p s m args meth c cc nL own ret D A ct a) (hd : decode cc pc = .ok (.lshl, 1))  (k : KW p l e R s m args below meth c cells slots Q D A ct a nL M (pc + 1) lv (.long (x <<< (y.toInt64 &&& 63)) :: st)) : KW p l e R s m args below meth c cells slots Q D A ct a nL M pc lv (.int y :: .long x :: st) := fun H locs ls hP hS hl => lv_lshl C.1.1 C.1.2.1 hd rfl (k H locs ls hP hS hl)
theorem q_lshr {x : Int64} {y : Int32} (C : Cx p s m args meth c cc nL own ret D A ct a) (hd : decode cc pc = .ok (.lshr, 1))  (k : KW p l e R s m args below meth c cells slots Q D A ct a nL M (pc + 1) lv (.long (x >>> (y.toInt64 &&& 63)) :: st)) : KW p l e R s m args below meth c cells slots Q D A ct a nL M pc lv (.int y :: .long x :: st) := fun H locs ls hP hS hl => lv_lshr C.1.1 C.1.2.1 hd rfl (k H locs ls hP hS hl)
theorem q_lcmp {x y : Int64} (C : Cx p s m args meth c cc nL own ret D A ct a) (hd : decode cc pc = .ok (.lcmp, 1))  (k : KW p l e R s m args below meth c cells slots Q D A ct a nL M (pc + 1) lv (.int (lg_cmp x y) :: st)) : KW p l e R s m args below meth c cells slots Q D A ct a nL M pc lv (.long y :: .long x :: st) := fun H locs ls hP hS hl => W.lcmp C.1.1 C.1.2.1 hd  (k H locs ls hP hS hl)
theorem q_iconst {n : Int} {v : Int32} (C : Cx p s m args meth c cc nL own ret D A ct a) (hd : decode cc pc = .ok (.iconst n, 1)) (hv : Int32.ofInt n = v) (k : KW p l e R s m args below meth c cells slots Q D A ct a nL M (pc + 1) lv (.int v :: st)) : KW p l e R s m args below meth c cells slots Q D A ct a nL M pc lv (st) := fun H locs ls hP hS hl => lv_iconst C.1.1 C.1.2.1 hd hv (k H locs ls hP hS hl)
theorem q_bipush {n : Int} {v : Int32} (C : Cx p s m args meth c cc nL own ret D A ct a) (hd : decode cc pc = .ok (.bipush n, 2)) (hv : (Int8.ofInt n).toInt32 = v) (k : KW p l e R s m args below meth c cells slots Q D A ct a nL M (pc + 2) lv (.int v :: st)) : KW p l e R s m args below meth c cells slots Q D A ct a nL M pc lv (st) := fun H locs ls hP hS hl => lv_bipush C.1.1 C.1.2.1 hd hv (k H locs ls hP hS hl)
theorem q_sipush {n : Int} {v : Int32} (C : Cx p s m args meth c cc nL own ret D A ct a) (hd : decode cc pc = .ok (.sipush n, 3)) (hv : (Int16.ofInt n).toInt32 = v) (k : KW p l e R s m args below meth c cells slots Q D A ct a nL M (pc + 3) lv (.int v :: st)) : KW p l e R s m args below meth c cells slots Q D A ct a nL M pc lv (st) := fun H locs ls hP hS hl => lv_sipush C.1.1 C.1.2.1 hd hv (k H locs ls hP hS hl)
theorem q_lconst {n : Fin 2} {v : Int64} (C : Cx p s m args meth c cc nL own ret D A ct a) (hd : decode cc pc = .ok (.lconst n, 1)) (hv : Int64.ofNat (n : Nat) = v) (k : KW p l e R s m args below meth c cells slots Q D A ct a nL M (pc + 1) lv (.long v :: st)) : KW p l e R s m args below meth c cells slots Q D A ct a nL M pc lv (st) := fun H locs ls hP hS hl => lv_lconst C.1.1 C.1.2.1 hd hv (k H locs ls hP hS hl)
theorem q_dup {va : Value} (C : Cx p s m args meth c cc nL own ret D A ct a) (hd : decode cc pc = .ok (.dup, 1)) (h1 : va.category = 1) (k : KW p l e R s m args below meth c cells slots Q D A ct a nL M (pc + 1) lv (va :: va :: st)) : KW p l e R s m args below meth c cells slots Q D A ct a nL M pc lv (va :: st) := fun H locs ls hP hS hl => lv_dup C.1.1 C.1.2.1 hd h1 (k H locs ls hP hS hl)
theorem q_dup2 {va vb : Value} (C : Cx p s m args meth c cc nL own ret D A ct a) (hd : decode cc pc = .ok (.dup2, 1)) (h1 : va.category = 1) (h2 : vb.category = 1) (k : KW p l e R s m args below meth c cells slots Q D A ct a nL M (pc + 1) lv (va :: vb :: va :: vb :: st)) : KW p l e R s m args below meth c cells slots Q D A ct a nL M pc lv (va :: vb :: st) := fun H locs ls hP hS hl => lv_dup2_11 C.1.1 C.1.2.1 hd h1 h2 (k H locs ls hP hS hl)
theorem q_dup2L {va : Value} (C : Cx p s m args meth c cc nL own ret D A ct a) (hd : decode cc pc = .ok (.dup2, 1)) (h1 : va.category = 2) (k : KW p l e R s m args below meth c cells slots Q D A ct a nL M (pc + 1) lv (va :: va :: st)) : KW p l e R s m args below meth c cells slots Q D A ct a nL M pc lv (va :: st) := fun H locs ls hP hS hl => lv_dup2_2 C.1.1 C.1.2.1 hd h1 (k H locs ls hP hS hl)
theorem q_ldc {v : Int32} {index : Nat} (C : Cx p s m args meth c cc nL own ret D A ct a) (hd : decode cc pc = .ok (.ldc index, 2)) (hm : Cond.constant own index v ∈ tbw) (k : KW p l e R s m args below meth c cells slots Q D A ct a nL M (pc + 2) lv (.int v :: st)) : KW p l e R s m args below meth c cells slots Q D A ct a nL M pc lv st := fun H locs ls hP hS hl => lv_ldc C.1.1 C.1.2.1 C.1.2.2.2.1 (C.1.2.2.2.2 _ hm) hd (k H locs ls hP hS hl)
theorem q_ldc2 {v : Int64} {index : Nat} (C : Cx p s m args meth c cc nL own ret D A ct a) (hd : decode cc pc = .ok (.ldc2_w index, 3)) (hm : Cond.constantLong own index v ∈ tbw) (k : KW p l e R s m args below meth c cells slots Q D A ct a nL M (pc + 3) lv (.long v :: st)) : KW p l e R s m args below meth c cells slots Q D A ct a nL M pc lv st := fun H locs ls hP hS hl => lv_ldc2 C.1.1 C.1.2.1 C.1.2.2.2.1 (C.1.2.2.2.2 _ hm) hd (k H locs ls hP hS hl)
theorem q_goto {off : Int} {tgt : Nat} (C : Cx p s m args meth c cc nL own ret D A ct a) (hd : decode cc pc = .ok (.goto off, 3)) (ht : (pc : Int) + off = (tgt : Int)) (k : KW p l e R s m args below meth c cells slots Q D A ct a nL M tgt lv st) : KW p l e R s m args below meth c cells slots Q D A ct a nL M pc lv st := fun H locs ls hP hS hl => lv_goto C.1.1 C.1.2.1 hd ht (k H locs ls hP hS hl)
theorem q_if_eq {x : Int32} {off : Int} {tgt : Nat} (C : Cx p s m args meth c cc nL own ret D A ct a) (hd : decode cc pc = .ok (.ifCond .eq off, 3)) (ht : (pc : Int) + off = (tgt : Int)) (kt : x = 0 → KW p l e R s m args below meth c cells slots Q D A ct a nL M tgt lv st) (kf : ¬ x = 0 → KW p l e R s m args below meth c cells slots Q D A ct a nL M (pc + 3) lv st) : KW p l e R s m args below meth c cells slots Q D A ct a nL M pc lv (.int x :: st) := fun H locs ls hP hS hl => lv_if_eq C.1.1 C.1.2.1 hd ht (fun h => kt h H locs ls hP hS hl) (fun h => kf h H locs ls hP hS hl)
theorem q_icmp_eq {x y : Int32} {off : Int} {tgt : Nat} (C : Cx p s m args meth c cc nL own ret D A ct a) (hd : decode cc pc = .ok (.if_icmp .eq off, 3)) (ht : (pc : Int) + off = (tgt : Int)) (kt : x = y → KW p l e R s m args below meth c cells slots Q D A ct a nL M tgt lv st) (kf : ¬ x = y → KW p l e R s m args below meth c cells slots Q D A ct a nL M (pc + 3) lv st) : KW p l e R s m args below meth c cells slots Q D A ct a nL M pc lv (.int y :: .int x :: st) := fun H locs ls hP hS hl => lv_icmp_eq C.1.1 C.1.2.1 hd ht (fun h => kt h H locs ls hP hS hl) (fun h => kf h H locs ls hP hS hl)
theorem q_if_ne {x : Int32} {off : Int} {tgt : Nat} (C : Cx p s m args meth c cc nL own ret D A ct a) (hd : decode cc pc = .ok (.ifCond .ne off, 3)) (ht : (pc : Int) + off = (tgt : Int)) (kt : ¬ x = 0 → KW p l e R s m args below meth c cells slots Q D A ct a nL M tgt lv st) (kf : x = 0 → KW p l e R s m args below meth c cells slots Q D A ct a nL M (pc + 3) lv st) : KW p l e R s m args below meth c cells slots Q D A ct a nL M pc lv (.int x :: st) := fun H locs ls hP hS hl => lv_if_ne C.1.1 C.1.2.1 hd ht (fun h => kt h H locs ls hP hS hl) (fun h => kf h H locs ls hP hS hl)
theorem q_icmp_ne {x y : Int32} {off : Int} {tgt : Nat} (C : Cx p s m args meth c cc nL own ret D A ct a) (hd : decode cc pc = .ok (.if_icmp .ne off, 3)) (ht : (pc : Int) + off = (tgt : Int)) (kt : ¬ x = y → KW p l e R s m args below meth c cells slots Q D A ct a nL M tgt lv st) (kf : x = y → KW p l e R s m args below meth c cells slots Q D A ct a nL M (pc + 3) lv st) : KW p l e R s m args below meth c cells slots Q D A ct a nL M pc lv (.int y :: .int x :: st) := fun H locs ls hP hS hl => lv_icmp_ne C.1.1 C.1.2.1 hd ht (fun h => kt h H locs ls hP hS hl) (fun h => kf h H locs ls hP hS hl)
theorem q_if_lt {x : Int32} {off : Int} {tgt : Nat} (C : Cx p s m args meth c cc nL own ret D A ct a) (hd : decode cc pc = .ok (.ifCond .lt off, 3)) (ht : (pc : Int) + off = (tgt : Int)) (kt : x < 0 → KW p l e R s m args below meth c cells slots Q D A ct a nL M tgt lv st) (kf : ¬ x < 0 → KW p l e R s m args below meth c cells slots Q D A ct a nL M (pc + 3) lv st) : KW p l e R s m args below meth c cells slots Q D A ct a nL M pc lv (.int x :: st) := fun H locs ls hP hS hl => lv_if_lt C.1.1 C.1.2.1 hd ht (fun h => kt h H locs ls hP hS hl) (fun h => kf h H locs ls hP hS hl)
theorem q_icmp_lt {x y : Int32} {off : Int} {tgt : Nat} (C : Cx p s m args meth c cc nL own ret D A ct a) (hd : decode cc pc = .ok (.if_icmp .lt off, 3)) (ht : (pc : Int) + off = (tgt : Int)) (kt : x < y → KW p l e R s m args below meth c cells slots Q D A ct a nL M tgt lv st) (kf : ¬ x < y → KW p l e R s m args below meth c cells slots Q D A ct a nL M (pc + 3) lv st) : KW p l e R s m args below meth c cells slots Q D A ct a nL M pc lv (.int y :: .int x :: st) := fun H locs ls hP hS hl => lv_icmp_lt C.1.1 C.1.2.1 hd ht (fun h => kt h H locs ls hP hS hl) (fun h => kf h H locs ls hP hS hl)
theorem q_if_ge {x : Int32} {off : Int} {tgt : Nat} (C : Cx p s m args meth c cc nL own ret D A ct a) (hd : decode cc pc = .ok (.ifCond .ge off, 3)) (ht : (pc : Int) + off = (tgt : Int)) (kt : 0 ≤ x → KW p l e R s m args below meth c cells slots Q D A ct a nL M tgt lv st) (kf : ¬ 0 ≤ x → KW p l e R s m args below meth c cells slots Q D A ct a nL M (pc + 3) lv st) : KW p l e R s m args below meth c cells slots Q D A ct a nL M pc lv (.int x :: st) := fun H locs ls hP hS hl => lv_if_ge C.1.1 C.1.2.1 hd ht (fun h => kt h H locs ls hP hS hl) (fun h => kf h H locs ls hP hS hl)
theorem q_icmp_ge {x y : Int32} {off : Int} {tgt : Nat} (C : Cx p s m args meth c cc nL own ret D A ct a) (hd : decode cc pc = .ok (.if_icmp .ge off, 3)) (ht : (pc : Int) + off = (tgt : Int)) (kt : y ≤ x → KW p l e R s m args below meth c cells slots Q D A ct a nL M tgt lv st) (kf : ¬ y ≤ x → KW p l e R s m args below meth c cells slots Q D A ct a nL M (pc + 3) lv st) : KW p l e R s m args below meth c cells slots Q D A ct a nL M pc lv (.int y :: .int x :: st) := fun H locs ls hP hS hl => lv_icmp_ge C.1.1 C.1.2.1 hd ht (fun h => kt h H locs ls hP hS hl) (fun h => kf h H locs ls hP hS hl)
theorem q_if_gt {x : Int32} {off : Int} {tgt : Nat} (C : Cx p s m args meth c cc nL own ret D A ct a) (hd : decode cc pc = .ok (.ifCond .gt off, 3)) (ht : (pc : Int) + off = (tgt : Int)) (kt : 0 < x → KW p l e R s m args below meth c cells slots Q D A ct a nL M tgt lv st) (kf : ¬ 0 < x → KW p l e R s m args below meth c cells slots Q D A ct a nL M (pc + 3) lv st) : KW p l e R s m args below meth c cells slots Q D A ct a nL M pc lv (.int x :: st) := fun H locs ls hP hS hl => lv_if_gt C.1.1 C.1.2.1 hd ht (fun h => kt h H locs ls hP hS hl) (fun h => kf h H locs ls hP hS hl)
theorem q_icmp_gt {x y : Int32} {off : Int} {tgt : Nat} (C : Cx p s m args meth c cc nL own ret D A ct a) (hd : decode cc pc = .ok (.if_icmp .gt off, 3)) (ht : (pc : Int) + off = (tgt : Int)) (kt : y < x → KW p l e R s m args below meth c cells slots Q D A ct a nL M tgt lv st) (kf : ¬ y < x → KW p l e R s m args below meth c cells slots Q D A ct a nL M (pc + 3) lv st) : KW p l e R s m args below meth c cells slots Q D A ct a nL M pc lv (.int y :: .int x :: st) := fun H locs ls hP hS hl => lv_icmp_gt C.1.1 C.1.2.1 hd ht (fun h => kt h H locs ls hP hS hl) (fun h => kf h H locs ls hP hS hl)
theorem q_if_le {x : Int32} {off : Int} {tgt : Nat} (C : Cx p s m args meth c cc nL own ret D A ct a) (hd : decode cc pc = .ok (.ifCond .le off, 3)) (ht : (pc : Int) + off = (tgt : Int)) (kt : x ≤ 0 → KW p l e R s m args below meth c cells slots Q D A ct a nL M tgt lv st) (kf : ¬ x ≤ 0 → KW p l e R s m args below meth c cells slots Q D A ct a nL M (pc + 3) lv st) : KW p l e R s m args below meth c cells slots Q D A ct a nL M pc lv (.int x :: st) := fun H locs ls hP hS hl => lv_if_le C.1.1 C.1.2.1 hd ht (fun h => kt h H locs ls hP hS hl) (fun h => kf h H locs ls hP hS hl)
theorem q_icmp_le {x y : Int32} {off : Int} {tgt : Nat} (C : Cx p s m args meth c cc nL own ret D A ct a) (hd : decode cc pc = .ok (.if_icmp .le off, 3)) (ht : (pc : Int) + off = (tgt : Int)) (kt : x ≤ y → KW p l e R s m args below meth c cells slots Q D A ct a nL M tgt lv st) (kf : ¬ x ≤ y → KW p l e R s m args below meth c cells slots Q D A ct a nL M (pc + 3) lv st) : KW p l e R s m args below meth c cells slots Q D A ct a nL M pc lv (.int y :: .int x :: st) := fun H locs ls hP hS hl => lv_icmp_le C.1.1 C.1.2.1 hd ht (fun h => kt h H locs ls hP hS hl) (fun h => kf h H locs ls hP hS hl)
theorem q_iload0 {r : List (Option Value)} {v : Int32} (C : Cx p s m args meth c cc nL own ret D A ct a) (hd : decode cc pc = .ok (.iload_n 0, 1)) (k : KW p l e R s m args below meth c cells slots Q D A ct a nL M (pc + 1) (some (.int v) :: r) (.int v :: st)) : KW p l e R s m args below meth c cells slots Q D A ct a nL M pc (some (.int v) :: r) st := fun H locs ls hP hS hl => lv_iload_n (i := 0) C.1.1 C.1.2.1 hd rfl (lvl_at hl rfl) (k H locs ls hP hS hl)
theorem q_lload0 {r : List (Option Value)} {v : Int64} (C : Cx p s m args meth c cc nL own ret D A ct a) (hd : decode cc pc = .ok (.lload_n 0, 1)) (k : KW p l e R s m args below meth c cells slots Q D A ct a nL M (pc + 1) (some (.long v) :: r) (.long v :: st)) : KW p l e R s m args below meth c cells slots Q D A ct a nL M pc (some (.long v) :: r) st := fun H locs ls hP hS hl => lv_lload_n (i := 0) C.1.1 C.1.2.1 hd rfl (lvl_at hl rfl) (k H locs ls hP hS hl)
theorem q_aload0 {r : List (Option Value)} {v : Nat} (C : Cx p s m args meth c cc nL own ret D A ct a) (hd : decode cc pc = .ok (.aload_n 0, 1)) (k : KW p l e R s m args below meth c cells slots Q D A ct a nL M (pc + 1) (some (.ref v) :: r) (.ref v :: st)) : KW p l e R s m args below meth c cells slots Q D A ct a nL M pc (some (.ref v) :: r) st := fun H locs ls hP hS hl => lv_aload_n (i := 0) C.1.1 C.1.2.1 hd rfl (lvl_at hl rfl) (k H locs ls hP hS hl)
theorem q_istore0 {r : List (Option Value)} {y : Option Value} {v : Int32} (C : Cx p s m args meth c cc nL own ret D A ct a) (hd : decode cc pc = .ok (.istore_n 0, 1)) (hn : 0 < nL) (ho : okS (y :: r) 0) (k : KW p l e R s m args below meth c cells slots Q D A ct a nL M (pc + 1) (some (.int v) :: r) st) : KW p l e R s m args below meth c cells slots Q D A ct a nL M pc (y :: r) (.int v :: st) := fun H locs ls hP hS hl => lv_istore_n (i := 0) (nL := nL) C.1.1 C.1.2.1 hd rfl hl hn rfl (fun ls2 hl2 => k H locs ls2 hP hS (lvl_set1 (i := 0) (lv := y :: r) (v := .int v) (by simp only [List.length_cons]; omega) ho hl2))
theorem q_astore0 {r : List (Option Value)} {y : Option Value} {v : Nat} (C : Cx p s m args meth c cc nL own ret D A ct a) (hd : decode cc pc = .ok (.astore_n 0, 1)) (hn : 0 < nL) (ho : okS (y :: r) 0) (k : KW p l e R s m args below meth c cells slots Q D A ct a nL M (pc + 1) (some (.ref v) :: r) st) : KW p l e R s m args below meth c cells slots Q D A ct a nL M pc (y :: r) (.ref v :: st) := fun H locs ls hP hS hl => lv_astore_n (i := 0) (nL := nL) C.1.1 C.1.2.1 hd rfl hl hn rfl (fun ls2 hl2 => k H locs ls2 hP hS (lvl_set1 (i := 0) (lv := y :: r) (v := .ref v) (by simp only [List.length_cons]; omega) ho hl2))
theorem q_lstore0 {r : List (Option Value)} {y z : Option Value} {v : Int64} (C : Cx p s m args meth c cc nL own ret D A ct a) (hd : decode cc pc = .ok (.lstore_n 0, 1)) (hn : 0 + 1 < nL) (ho : okS (y :: z :: r) 0) (k : KW p l e R s m args below meth c cells slots Q D A ct a nL M (pc + 1) (some (.long v) :: none :: r) st) : KW p l e R s m args below meth c cells slots Q D A ct a nL M pc (y :: z :: r) (.long v :: st) := fun H locs ls hP hS hl => lv_lstore_n (i := 0) (nL := nL) C.1.1 C.1.2.1 hd rfl hl hn rfl (fun ls2 hl2 => k H locs ls2 hP hS (lvl_set2 (i := 0) (lv := y :: z :: r) (v := .long v) (by simp only [List.length_cons]; omega) ho hl2))
theorem q_iinc0 {r : List (Option Value)} {x : Int32} {n : Int} {dv : Int32} (C : Cx p s m args meth c cc nL own ret D A ct a) (hd : decode cc pc = .ok (.iinc 0 n, 3)) (hv : Int32.ofInt n = dv) (hn : 0 < nL) (ho : okS (some (.int x) :: r) 0) (k : KW p l e R s m args below meth c cells slots Q D A ct a nL M (pc + 3) (some (.int (x + dv)) :: r) st) : KW p l e R s m args below meth c cells slots Q D A ct a nL M pc (some (.int x) :: r) st := fun H locs ls hP hS hl => by
  subst hv
  obtain ⟨k0, hk0⟩ := List.getElem?_of_mem ((lvl_mem (v := .int x) (j := 0) (some (.int x) :: r) 0).mpr ⟨0, by omega, rfl⟩)
  exact lv_iinc (i := 0) (nL := nL) C.1.1 C.1.2.1 hd hl hk0 rfl hn rfl (fun ls2 hl2 => k H locs ls2 hP hS (lvl_set1 (i := 0) (lv := some (.int x) :: r) (v := .int (x + Int32.ofInt n)) (by simp only [List.length_cons]; omega) ho hl2))
theorem q_iload1 {x0 : Option Value} {r : List (Option Value)} {v : Int32} (C : Cx p s m args meth c cc nL own ret D A ct a) (hd : decode cc pc = .ok (.iload_n 1, 1)) (k : KW p l e R s m args below meth c cells slots Q D A ct a nL M (pc + 1) (x0 :: some (.int v) :: r) (.int v :: st)) : KW p l e R s m args below meth c cells slots Q D A ct a nL M pc (x0 :: some (.int v) :: r) st := fun H locs ls hP hS hl => lv_iload_n (i := 1) C.1.1 C.1.2.1 hd rfl (lvl_at hl rfl) (k H locs ls hP hS hl)
theorem q_lload1 {x0 : Option Value} {r : List (Option Value)} {v : Int64} (C : Cx p s m args meth c cc nL own ret D A ct a) (hd : decode cc pc = .ok (.lload_n 1, 1)) (k : KW p l e R s m args below meth c cells slots Q D A ct a nL M (pc + 1) (x0 :: some (.long v) :: r) (.long v :: st)) : KW p l e R s m args below meth c cells slots Q D A ct a nL M pc (x0 :: some (.long v) :: r) st := fun H locs ls hP hS hl => lv_lload_n (i := 1) C.1.1 C.1.2.1 hd rfl (lvl_at hl rfl) (k H locs ls hP hS hl)
theorem q_aload1 {x0 : Option Value} {r : List (Option Value)} {v : Nat} (C : Cx p s m args meth c cc nL own ret D A ct a) (hd : decode cc pc = .ok (.aload_n 1, 1)) (k : KW p l e R s m args below meth c cells slots Q D A ct a nL M (pc + 1) (x0 :: some (.ref v) :: r) (.ref v :: st)) : KW p l e R s m args below meth c cells slots Q D A ct a nL M pc (x0 :: some (.ref v) :: r) st := fun H locs ls hP hS hl => lv_aload_n (i := 1) C.1.1 C.1.2.1 hd rfl (lvl_at hl rfl) (k H locs ls hP hS hl)
theorem q_istore1 {x0 : Option Value} {r : List (Option Value)} {y : Option Value} {v : Int32} (C : Cx p s m args meth c cc nL own ret D A ct a) (hd : decode cc pc = .ok (.istore_n 1, 1)) (hn : 1 < nL) (ho : okS (x0 :: y :: r) 1) (k : KW p l e R s m args below meth c cells slots Q D A ct a nL M (pc + 1) (x0 :: some (.int v) :: r) st) : KW p l e R s m args below meth c cells slots Q D A ct a nL M pc (x0 :: y :: r) (.int v :: st) := fun H locs ls hP hS hl => lv_istore_n (i := 1) (nL := nL) C.1.1 C.1.2.1 hd rfl hl hn rfl (fun ls2 hl2 => k H locs ls2 hP hS (lvl_set1 (i := 1) (lv := x0 :: y :: r) (v := .int v) (by simp only [List.length_cons]; omega) ho hl2))
theorem q_astore1 {x0 : Option Value} {r : List (Option Value)} {y : Option Value} {v : Nat} (C : Cx p s m args meth c cc nL own ret D A ct a) (hd : decode cc pc = .ok (.astore_n 1, 1)) (hn : 1 < nL) (ho : okS (x0 :: y :: r) 1) (k : KW p l e R s m args below meth c cells slots Q D A ct a nL M (pc + 1) (x0 :: some (.ref v) :: r) st) : KW p l e R s m args below meth c cells slots Q D A ct a nL M pc (x0 :: y :: r) (.ref v :: st) := fun H locs ls hP hS hl => lv_astore_n (i := 1) (nL := nL) C.1.1 C.1.2.1 hd rfl hl hn rfl (fun ls2 hl2 => k H locs ls2 hP hS (lvl_set1 (i := 1) (lv := x0 :: y :: r) (v := .ref v) (by simp only [List.length_cons]; omega) ho hl2))
theorem q_lstore1 {x0 : Option Value} {r : List (Option Value)} {y z : Option Value} {v : Int64} (C : Cx p s m args meth c cc nL own ret D A ct a) (hd : decode cc pc = .ok (.lstore_n 1, 1)) (hn : 1 + 1 < nL) (ho : okS (x0 :: y :: z :: r) 1) (k : KW p l e R s m args below meth c cells slots Q D A ct a nL M (pc + 1) (x0 :: some (.long v) :: none :: r) st) : KW p l e R s m args below meth c cells slots Q D A ct a nL M pc (x0 :: y :: z :: r) (.long v :: st) := fun H locs ls hP hS hl => lv_lstore_n (i := 1) (nL := nL) C.1.1 C.1.2.1 hd rfl hl hn rfl (fun ls2 hl2 => k H locs ls2 hP hS (lvl_set2 (i := 1) (lv := x0 :: y :: z :: r) (v := .long v) (by simp only [List.length_cons]; omega) ho hl2))
theorem q_iinc1 {x0 : Option Value} {r : List (Option Value)} {x : Int32} {n : Int} {dv : Int32} (C : Cx p s m args meth c cc nL own ret D A ct a) (hd : decode cc pc = .ok (.iinc 1 n, 3)) (hv : Int32.ofInt n = dv) (hn : 1 < nL) (ho : okS (x0 :: some (.int x) :: r) 1) (k : KW p l e R s m args below meth c cells slots Q D A ct a nL M (pc + 3) (x0 :: some (.int (x + dv)) :: r) st) : KW p l e R s m args below meth c cells slots Q D A ct a nL M pc (x0 :: some (.int x) :: r) st := fun H locs ls hP hS hl => by
  subst hv
  obtain ⟨k0, hk0⟩ := List.getElem?_of_mem ((lvl_mem (v := .int x) (j := 1) (x0 :: some (.int x) :: r) 0).mpr ⟨1, by omega, rfl⟩)
  exact lv_iinc (i := 1) (nL := nL) C.1.1 C.1.2.1 hd hl hk0 rfl hn rfl (fun ls2 hl2 => k H locs ls2 hP hS (lvl_set1 (i := 1) (lv := x0 :: some (.int x) :: r) (v := .int (x + Int32.ofInt n)) (by simp only [List.length_cons]; omega) ho hl2))
theorem q_iload2 {x0 x1 : Option Value} {r : List (Option Value)} {v : Int32} (C : Cx p s m args meth c cc nL own ret D A ct a) (hd : decode cc pc = .ok (.iload_n 2, 1)) (k : KW p l e R s m args below meth c cells slots Q D A ct a nL M (pc + 1) (x0 :: x1 :: some (.int v) :: r) (.int v :: st)) : KW p l e R s m args below meth c cells slots Q D A ct a nL M pc (x0 :: x1 :: some (.int v) :: r) st := fun H locs ls hP hS hl => lv_iload_n (i := 2) C.1.1 C.1.2.1 hd rfl (lvl_at hl rfl) (k H locs ls hP hS hl)
theorem q_lload2 {x0 x1 : Option Value} {r : List (Option Value)} {v : Int64} (C : Cx p s m args meth c cc nL own ret D A ct a) (hd : decode cc pc = .ok (.lload_n 2, 1)) (k : KW p l e R s m args below meth c cells slots Q D A ct a nL M (pc + 1) (x0 :: x1 :: some (.long v) :: r) (.long v :: st)) : KW p l e R s m args below meth c cells slots Q D A ct a nL M pc (x0 :: x1 :: some (.long v) :: r) st := fun H locs ls hP hS hl => lv_lload_n (i := 2) C.1.1 C.1.2.1 hd rfl (lvl_at hl rfl) (k H locs ls hP hS hl)
theorem q_aload2 {x0 x1 : Option Value} {r : List (Option Value)} {v : Nat} (C : Cx p s m args meth c cc nL own ret D A ct a) (hd : decode cc pc = .ok (.aload_n 2, 1)) (k : KW p l e R s m args below meth c cells slots Q D A ct a nL M (pc + 1) (x0 :: x1 :: some (.ref v) :: r) (.ref v :: st)) : KW p l e R s m args below meth c cells slots Q D A ct a nL M pc (x0 :: x1 :: some (.ref v) :: r) st := fun H locs ls hP hS hl => lv_aload_n (i := 2) C.1.1 C.1.2.1 hd rfl (lvl_at hl rfl) (k H locs ls hP hS hl)
theorem q_istore2 {x0 x1 : Option Value} {r : List (Option Value)} {y : Option Value} {v : Int32} (C : Cx p s m args meth c cc nL own ret D A ct a) (hd : decode cc pc = .ok (.istore_n 2, 1)) (hn : 2 < nL) (ho : okS (x0 :: x1 :: y :: r) 2) (k : KW p l e R s m args below meth c cells slots Q D A ct a nL M (pc + 1) (x0 :: x1 :: some (.int v) :: r) st) : KW p l e R s m args below meth c cells slots Q D A ct a nL M pc (x0 :: x1 :: y :: r) (.int v :: st) := fun H locs ls hP hS hl => lv_istore_n (i := 2) (nL := nL) C.1.1 C.1.2.1 hd rfl hl hn rfl (fun ls2 hl2 => k H locs ls2 hP hS (lvl_set1 (i := 2) (lv := x0 :: x1 :: y :: r) (v := .int v) (by simp only [List.length_cons]; omega) ho hl2))
theorem q_astore2 {x0 x1 : Option Value} {r : List (Option Value)} {y : Option Value} {v : Nat} (C : Cx p s m args meth c cc nL own ret D A ct a) (hd : decode cc pc = .ok (.astore_n 2, 1)) (hn : 2 < nL) (ho : okS (x0 :: x1 :: y :: r) 2) (k : KW p l e R s m args below meth c cells slots Q D A ct a nL M (pc + 1) (x0 :: x1 :: some (.ref v) :: r) st) : KW p l e R s m args below meth c cells slots Q D A ct a nL M pc (x0 :: x1 :: y :: r) (.ref v :: st) := fun H locs ls hP hS hl => lv_astore_n (i := 2) (nL := nL) C.1.1 C.1.2.1 hd rfl hl hn rfl (fun ls2 hl2 => k H locs ls2 hP hS (lvl_set1 (i := 2) (lv := x0 :: x1 :: y :: r) (v := .ref v) (by simp only [List.length_cons]; omega) ho hl2))
theorem q_lstore2 {x0 x1 : Option Value} {r : List (Option Value)} {y z : Option Value} {v : Int64} (C : Cx p s m args meth c cc nL own ret D A ct a) (hd : decode cc pc = .ok (.lstore_n 2, 1)) (hn : 2 + 1 < nL) (ho : okS (x0 :: x1 :: y :: z :: r) 2) (k : KW p l e R s m args below meth c cells slots Q D A ct a nL M (pc + 1) (x0 :: x1 :: some (.long v) :: none :: r) st) : KW p l e R s m args below meth c cells slots Q D A ct a nL M pc (x0 :: x1 :: y :: z :: r) (.long v :: st) := fun H locs ls hP hS hl => lv_lstore_n (i := 2) (nL := nL) C.1.1 C.1.2.1 hd rfl hl hn rfl (fun ls2 hl2 => k H locs ls2 hP hS (lvl_set2 (i := 2) (lv := x0 :: x1 :: y :: z :: r) (v := .long v) (by simp only [List.length_cons]; omega) ho hl2))
theorem q_iinc2 {x0 x1 : Option Value} {r : List (Option Value)} {x : Int32} {n : Int} {dv : Int32} (C : Cx p s m args meth c cc nL own ret D A ct a) (hd : decode cc pc = .ok (.iinc 2 n, 3)) (hv : Int32.ofInt n = dv) (hn : 2 < nL) (ho : okS (x0 :: x1 :: some (.int x) :: r) 2) (k : KW p l e R s m args below meth c cells slots Q D A ct a nL M (pc + 3) (x0 :: x1 :: some (.int (x + dv)) :: r) st) : KW p l e R s m args below meth c cells slots Q D A ct a nL M pc (x0 :: x1 :: some (.int x) :: r) st := fun H locs ls hP hS hl => by
  subst hv
  obtain ⟨k0, hk0⟩ := List.getElem?_of_mem ((lvl_mem (v := .int x) (j := 2) (x0 :: x1 :: some (.int x) :: r) 0).mpr ⟨2, by omega, rfl⟩)
  exact lv_iinc (i := 2) (nL := nL) C.1.1 C.1.2.1 hd hl hk0 rfl hn rfl (fun ls2 hl2 => k H locs ls2 hP hS (lvl_set1 (i := 2) (lv := x0 :: x1 :: some (.int x) :: r) (v := .int (x + Int32.ofInt n)) (by simp only [List.length_cons]; omega) ho hl2))
theorem q_iload3 {x0 x1 x2 : Option Value} {r : List (Option Value)} {v : Int32} (C : Cx p s m args meth c cc nL own ret D A ct a) (hd : decode cc pc = .ok (.iload_n 3, 1)) (k : KW p l e R s m args below meth c cells slots Q D A ct a nL M (pc + 1) (x0 :: x1 :: x2 :: some (.int v) :: r) (.int v :: st)) : KW p l e R s m args below meth c cells slots Q D A ct a nL M pc (x0 :: x1 :: x2 :: some (.int v) :: r) st := fun H locs ls hP hS hl => lv_iload_n (i := 3) C.1.1 C.1.2.1 hd rfl (lvl_at hl rfl) (k H locs ls hP hS hl)
theorem q_lload3 {x0 x1 x2 : Option Value} {r : List (Option Value)} {v : Int64} (C : Cx p s m args meth c cc nL own ret D A ct a) (hd : decode cc pc = .ok (.lload_n 3, 1)) (k : KW p l e R s m args below meth c cells slots Q D A ct a nL M (pc + 1) (x0 :: x1 :: x2 :: some (.long v) :: r) (.long v :: st)) : KW p l e R s m args below meth c cells slots Q D A ct a nL M pc (x0 :: x1 :: x2 :: some (.long v) :: r) st := fun H locs ls hP hS hl => lv_lload_n (i := 3) C.1.1 C.1.2.1 hd rfl (lvl_at hl rfl) (k H locs ls hP hS hl)
theorem q_aload3 {x0 x1 x2 : Option Value} {r : List (Option Value)} {v : Nat} (C : Cx p s m args meth c cc nL own ret D A ct a) (hd : decode cc pc = .ok (.aload_n 3, 1)) (k : KW p l e R s m args below meth c cells slots Q D A ct a nL M (pc + 1) (x0 :: x1 :: x2 :: some (.ref v) :: r) (.ref v :: st)) : KW p l e R s m args below meth c cells slots Q D A ct a nL M pc (x0 :: x1 :: x2 :: some (.ref v) :: r) st := fun H locs ls hP hS hl => lv_aload_n (i := 3) C.1.1 C.1.2.1 hd rfl (lvl_at hl rfl) (k H locs ls hP hS hl)
theorem q_istore3 {x0 x1 x2 : Option Value} {r : List (Option Value)} {y : Option Value} {v : Int32} (C : Cx p s m args meth c cc nL own ret D A ct a) (hd : decode cc pc = .ok (.istore_n 3, 1)) (hn : 3 < nL) (ho : okS (x0 :: x1 :: x2 :: y :: r) 3) (k : KW p l e R s m args below meth c cells slots Q D A ct a nL M (pc + 1) (x0 :: x1 :: x2 :: some (.int v) :: r) st) : KW p l e R s m args below meth c cells slots Q D A ct a nL M pc (x0 :: x1 :: x2 :: y :: r) (.int v :: st) := fun H locs ls hP hS hl => lv_istore_n (i := 3) (nL := nL) C.1.1 C.1.2.1 hd rfl hl hn rfl (fun ls2 hl2 => k H locs ls2 hP hS (lvl_set1 (i := 3) (lv := x0 :: x1 :: x2 :: y :: r) (v := .int v) (by simp only [List.length_cons]; omega) ho hl2))
theorem q_astore3 {x0 x1 x2 : Option Value} {r : List (Option Value)} {y : Option Value} {v : Nat} (C : Cx p s m args meth c cc nL own ret D A ct a) (hd : decode cc pc = .ok (.astore_n 3, 1)) (hn : 3 < nL) (ho : okS (x0 :: x1 :: x2 :: y :: r) 3) (k : KW p l e R s m args below meth c cells slots Q D A ct a nL M (pc + 1) (x0 :: x1 :: x2 :: some (.ref v) :: r) st) : KW p l e R s m args below meth c cells slots Q D A ct a nL M pc (x0 :: x1 :: x2 :: y :: r) (.ref v :: st) := fun H locs ls hP hS hl => lv_astore_n (i := 3) (nL := nL) C.1.1 C.1.2.1 hd rfl hl hn rfl (fun ls2 hl2 => k H locs ls2 hP hS (lvl_set1 (i := 3) (lv := x0 :: x1 :: x2 :: y :: r) (v := .ref v) (by simp only [List.length_cons]; omega) ho hl2))
theorem q_lstore3 {x0 x1 x2 : Option Value} {r : List (Option Value)} {y z : Option Value} {v : Int64} (C : Cx p s m args meth c cc nL own ret D A ct a) (hd : decode cc pc = .ok (.lstore_n 3, 1)) (hn : 3 + 1 < nL) (ho : okS (x0 :: x1 :: x2 :: y :: z :: r) 3) (k : KW p l e R s m args below meth c cells slots Q D A ct a nL M (pc + 1) (x0 :: x1 :: x2 :: some (.long v) :: none :: r) st) : KW p l e R s m args below meth c cells slots Q D A ct a nL M pc (x0 :: x1 :: x2 :: y :: z :: r) (.long v :: st) := fun H locs ls hP hS hl => lv_lstore_n (i := 3) (nL := nL) C.1.1 C.1.2.1 hd rfl hl hn rfl (fun ls2 hl2 => k H locs ls2 hP hS (lvl_set2 (i := 3) (lv := x0 :: x1 :: x2 :: y :: z :: r) (v := .long v) (by simp only [List.length_cons]; omega) ho hl2))
theorem q_iinc3 {x0 x1 x2 : Option Value} {r : List (Option Value)} {x : Int32} {n : Int} {dv : Int32} (C : Cx p s m args meth c cc nL own ret D A ct a) (hd : decode cc pc = .ok (.iinc 3 n, 3)) (hv : Int32.ofInt n = dv) (hn : 3 < nL) (ho : okS (x0 :: x1 :: x2 :: some (.int x) :: r) 3) (k : KW p l e R s m args below meth c cells slots Q D A ct a nL M (pc + 3) (x0 :: x1 :: x2 :: some (.int (x + dv)) :: r) st) : KW p l e R s m args below meth c cells slots Q D A ct a nL M pc (x0 :: x1 :: x2 :: some (.int x) :: r) st := fun H locs ls hP hS hl => by
  subst hv
  obtain ⟨k0, hk0⟩ := List.getElem?_of_mem ((lvl_mem (v := .int x) (j := 3) (x0 :: x1 :: x2 :: some (.int x) :: r) 0).mpr ⟨3, by omega, rfl⟩)
  exact lv_iinc (i := 3) (nL := nL) C.1.1 C.1.2.1 hd hl hk0 rfl hn rfl (fun ls2 hl2 => k H locs ls2 hP hS (lvl_set1 (i := 3) (lv := x0 :: x1 :: x2 :: some (.int x) :: r) (v := .int (x + Int32.ofInt n)) (by simp only [List.length_cons]; omega) ho hl2))
theorem q_iload4 {x0 x1 x2 x3 : Option Value} {r : List (Option Value)} {v : Int32} (C : Cx p s m args meth c cc nL own ret D A ct a) (hd : decode cc pc = .ok (.iload 4, 2)) (k : KW p l e R s m args below meth c cells slots Q D A ct a nL M (pc + 2) (x0 :: x1 :: x2 :: x3 :: some (.int v) :: r) (.int v :: st)) : KW p l e R s m args below meth c cells slots Q D A ct a nL M pc (x0 :: x1 :: x2 :: x3 :: some (.int v) :: r) st := fun H locs ls hP hS hl => lv_iload (i := 4) C.1.1 C.1.2.1 hd (lvl_at hl rfl) (k H locs ls hP hS hl)
theorem q_lload4 {x0 x1 x2 x3 : Option Value} {r : List (Option Value)} {v : Int64} (C : Cx p s m args meth c cc nL own ret D A ct a) (hd : decode cc pc = .ok (.lload 4, 2)) (k : KW p l e R s m args below meth c cells slots Q D A ct a nL M (pc + 2) (x0 :: x1 :: x2 :: x3 :: some (.long v) :: r) (.long v :: st)) : KW p l e R s m args below meth c cells slots Q D A ct a nL M pc (x0 :: x1 :: x2 :: x3 :: some (.long v) :: r) st := fun H locs ls hP hS hl => lv_lload (i := 4) C.1.1 C.1.2.1 hd (lvl_at hl rfl) (k H locs ls hP hS hl)
theorem q_aload4 {x0 x1 x2 x3 : Option Value} {r : List (Option Value)} {v : Nat} (C : Cx p s m args meth c cc nL own ret D A ct a) (hd : decode cc pc = .ok (.aload 4, 2)) (k : KW p l e R s m args below meth c cells slots Q D A ct a nL M (pc + 2) (x0 :: x1 :: x2 :: x3 :: some (.ref v) :: r) (.ref v :: st)) : KW p l e R s m args below meth c cells slots Q D A ct a nL M pc (x0 :: x1 :: x2 :: x3 :: some (.ref v) :: r) st := fun H locs ls hP hS hl => lv_aload (i := 4) C.1.1 C.1.2.1 hd (lvl_at hl rfl) (k H locs ls hP hS hl)
theorem q_istore4 {x0 x1 x2 x3 : Option Value} {r : List (Option Value)} {y : Option Value} {v : Int32} (C : Cx p s m args meth c cc nL own ret D A ct a) (hd : decode cc pc = .ok (.istore 4, 2)) (hn : 4 < nL) (ho : okS (x0 :: x1 :: x2 :: x3 :: y :: r) 4) (k : KW p l e R s m args below meth c cells slots Q D A ct a nL M (pc + 2) (x0 :: x1 :: x2 :: x3 :: some (.int v) :: r) st) : KW p l e R s m args below meth c cells slots Q D A ct a nL M pc (x0 :: x1 :: x2 :: x3 :: y :: r) (.int v :: st) := fun H locs ls hP hS hl => lv_istore (i := 4) (nL := nL) C.1.1 C.1.2.1 hd hl hn rfl (fun ls2 hl2 => k H locs ls2 hP hS (lvl_set1 (i := 4) (lv := x0 :: x1 :: x2 :: x3 :: y :: r) (v := .int v) (by simp only [List.length_cons]; omega) ho hl2))
theorem q_astore4 {x0 x1 x2 x3 : Option Value} {r : List (Option Value)} {y : Option Value} {v : Nat} (C : Cx p s m args meth c cc nL own ret D A ct a) (hd : decode cc pc = .ok (.astore 4, 2)) (hn : 4 < nL) (ho : okS (x0 :: x1 :: x2 :: x3 :: y :: r) 4) (k : KW p l e R s m args below meth c cells slots Q D A ct a nL M (pc + 2) (x0 :: x1 :: x2 :: x3 :: some (.ref v) :: r) st) : KW p l e R s m args below meth c cells slots Q D A ct a nL M pc (x0 :: x1 :: x2 :: x3 :: y :: r) (.ref v :: st) := fun H locs ls hP hS hl => lv_astore (i := 4) (nL := nL) C.1.1 C.1.2.1 hd hl hn rfl (fun ls2 hl2 => k H locs ls2 hP hS (lvl_set1 (i := 4) (lv := x0 :: x1 :: x2 :: x3 :: y :: r) (v := .ref v) (by simp only [List.length_cons]; omega) ho hl2))
theorem q_lstore4 {x0 x1 x2 x3 : Option Value} {r : List (Option Value)} {y z : Option Value} {v : Int64} (C : Cx p s m args meth c cc nL own ret D A ct a) (hd : decode cc pc = .ok (.lstore 4, 2)) (hn : 4 + 1 < nL) (ho : okS (x0 :: x1 :: x2 :: x3 :: y :: z :: r) 4) (k : KW p l e R s m args below meth c cells slots Q D A ct a nL M (pc + 2) (x0 :: x1 :: x2 :: x3 :: some (.long v) :: none :: r) st) : KW p l e R s m args below meth c cells slots Q D A ct a nL M pc (x0 :: x1 :: x2 :: x3 :: y :: z :: r) (.long v :: st) := fun H locs ls hP hS hl => lv_lstore (i := 4) (nL := nL) C.1.1 C.1.2.1 hd hl hn rfl (fun ls2 hl2 => k H locs ls2 hP hS (lvl_set2 (i := 4) (lv := x0 :: x1 :: x2 :: x3 :: y :: z :: r) (v := .long v) (by simp only [List.length_cons]; omega) ho hl2))
theorem q_iinc4 {x0 x1 x2 x3 : Option Value} {r : List (Option Value)} {x : Int32} {n : Int} {dv : Int32} (C : Cx p s m args meth c cc nL own ret D A ct a) (hd : decode cc pc = .ok (.iinc 4 n, 3)) (hv : Int32.ofInt n = dv) (hn : 4 < nL) (ho : okS (x0 :: x1 :: x2 :: x3 :: some (.int x) :: r) 4) (k : KW p l e R s m args below meth c cells slots Q D A ct a nL M (pc + 3) (x0 :: x1 :: x2 :: x3 :: some (.int (x + dv)) :: r) st) : KW p l e R s m args below meth c cells slots Q D A ct a nL M pc (x0 :: x1 :: x2 :: x3 :: some (.int x) :: r) st := fun H locs ls hP hS hl => by
  subst hv
  obtain ⟨k0, hk0⟩ := List.getElem?_of_mem ((lvl_mem (v := .int x) (j := 4) (x0 :: x1 :: x2 :: x3 :: some (.int x) :: r) 0).mpr ⟨4, by omega, rfl⟩)
  exact lv_iinc (i := 4) (nL := nL) C.1.1 C.1.2.1 hd hl hk0 rfl hn rfl (fun ls2 hl2 => k H locs ls2 hP hS (lvl_set1 (i := 4) (lv := x0 :: x1 :: x2 :: x3 :: some (.int x) :: r) (v := .int (x + Int32.ofInt n)) (by simp only [List.length_cons]; omega) ho hl2))
theorem q_iload5 {x0 x1 x2 x3 x4 : Option Value} {r : List (Option Value)} {v : Int32} (C : Cx p s m args meth c cc nL own ret D A ct a) (hd : decode cc pc = .ok (.iload 5, 2)) (k : KW p l e R s m args below meth c cells slots Q D A ct a nL M (pc + 2) (x0 :: x1 :: x2 :: x3 :: x4 :: some (.int v) :: r) (.int v :: st)) : KW p l e R s m args below meth c cells slots Q D A ct a nL M pc (x0 :: x1 :: x2 :: x3 :: x4 :: some (.int v) :: r) st := fun H locs ls hP hS hl => lv_iload (i := 5) C.1.1 C.1.2.1 hd (lvl_at hl rfl) (k H locs ls hP hS hl)
theorem q_lload5 {x0 x1 x2 x3 x4 : Option Value} {r : List (Option Value)} {v : Int64} (C : Cx p s m args meth c cc nL own ret D A ct a) (hd : decode cc pc = .ok (.lload 5, 2)) (k : KW p l e R s m args below meth c cells slots Q D A ct a nL M (pc + 2) (x0 :: x1 :: x2 :: x3 :: x4 :: some (.long v) :: r) (.long v :: st)) : KW p l e R s m args below meth c cells slots Q D A ct a nL M pc (x0 :: x1 :: x2 :: x3 :: x4 :: some (.long v) :: r) st := fun H locs ls hP hS hl => lv_lload (i := 5) C.1.1 C.1.2.1 hd (lvl_at hl rfl) (k H locs ls hP hS hl)
theorem q_aload5 {x0 x1 x2 x3 x4 : Option Value} {r : List (Option Value)} {v : Nat} (C : Cx p s m args meth c cc nL own ret D A ct a) (hd : decode cc pc = .ok (.aload 5, 2)) (k : KW p l e R s m args below meth c cells slots Q D A ct a nL M (pc + 2) (x0 :: x1 :: x2 :: x3 :: x4 :: some (.ref v) :: r) (.ref v :: st)) : KW p l e R s m args below meth c cells slots Q D A ct a nL M pc (x0 :: x1 :: x2 :: x3 :: x4 :: some (.ref v) :: r) st := fun H locs ls hP hS hl => lv_aload (i := 5) C.1.1 C.1.2.1 hd (lvl_at hl rfl) (k H locs ls hP hS hl)
theorem q_istore5 {x0 x1 x2 x3 x4 : Option Value} {r : List (Option Value)} {y : Option Value} {v : Int32} (C : Cx p s m args meth c cc nL own ret D A ct a) (hd : decode cc pc = .ok (.istore 5, 2)) (hn : 5 < nL) (ho : okS (x0 :: x1 :: x2 :: x3 :: x4 :: y :: r) 5) (k : KW p l e R s m args below meth c cells slots Q D A ct a nL M (pc + 2) (x0 :: x1 :: x2 :: x3 :: x4 :: some (.int v) :: r) st) : KW p l e R s m args below meth c cells slots Q D A ct a nL M pc (x0 :: x1 :: x2 :: x3 :: x4 :: y :: r) (.int v :: st) := fun H locs ls hP hS hl => lv_istore (i := 5) (nL := nL) C.1.1 C.1.2.1 hd hl hn rfl (fun ls2 hl2 => k H locs ls2 hP hS (lvl_set1 (i := 5) (lv := x0 :: x1 :: x2 :: x3 :: x4 :: y :: r) (v := .int v) (by simp only [List.length_cons]; omega) ho hl2))
theorem q_astore5 {x0 x1 x2 x3 x4 : Option Value} {r : List (Option Value)} {y : Option Value} {v : Nat} (C : Cx p s m args meth c cc nL own ret D A ct a) (hd : decode cc pc = .ok (.astore 5, 2)) (hn : 5 < nL) (ho : okS (x0 :: x1 :: x2 :: x3 :: x4 :: y :: r) 5) (k : KW p l e R s m args below meth c cells slots Q D A ct a nL M (pc + 2) (x0 :: x1 :: x2 :: x3 :: x4 :: some (.ref v) :: r) st) : KW p l e R s m args below meth c cells slots Q D A ct a nL M pc (x0 :: x1 :: x2 :: x3 :: x4 :: y :: r) (.ref v :: st) := fun H locs ls hP hS hl => lv_astore (i := 5) (nL := nL) C.1.1 C.1.2.1 hd hl hn rfl (fun ls2 hl2 => k H locs ls2 hP hS (lvl_set1 (i := 5) (lv := x0 :: x1 :: x2 :: x3 :: x4 :: y :: r) (v := .ref v) (by simp only [List.length_cons]; omega) ho hl2))
theorem q_lstore5 {x0 x1 x2 x3 x4 : Option Value} {r : List (Option Value)} {y z : Option Value} {v : Int64} (C : Cx p s m args meth c cc nL own ret D A ct a) (hd : decode cc pc = .ok (.lstore 5, 2)) (hn : 5 + 1 < nL) (ho : okS (x0 :: x1 :: x2 :: x3 :: x4 :: y :: z :: r) 5) (k : KW p l e R s m args below meth c cells slots Q D A ct a nL M (pc + 2) (x0 :: x1 :: x2 :: x3 :: x4 :: some (.long v) :: none :: r) st) : KW p l e R s m args below meth c cells slots Q D A ct a nL M pc (x0 :: x1 :: x2 :: x3 :: x4 :: y :: z :: r) (.long v :: st) := fun H locs ls hP hS hl => lv_lstore (i := 5) (nL := nL) C.1.1 C.1.2.1 hd hl hn rfl (fun ls2 hl2 => k H locs ls2 hP hS (lvl_set2 (i := 5) (lv := x0 :: x1 :: x2 :: x3 :: x4 :: y :: z :: r) (v := .long v) (by simp only [List.length_cons]; omega) ho hl2))
theorem q_iinc5 {x0 x1 x2 x3 x4 : Option Value} {r : List (Option Value)} {x : Int32} {n : Int} {dv : Int32} (C : Cx p s m args meth c cc nL own ret D A ct a) (hd : decode cc pc = .ok (.iinc 5 n, 3)) (hv : Int32.ofInt n = dv) (hn : 5 < nL) (ho : okS (x0 :: x1 :: x2 :: x3 :: x4 :: some (.int x) :: r) 5) (k : KW p l e R s m args below meth c cells slots Q D A ct a nL M (pc + 3) (x0 :: x1 :: x2 :: x3 :: x4 :: some (.int (x + dv)) :: r) st) : KW p l e R s m args below meth c cells slots Q D A ct a nL M pc (x0 :: x1 :: x2 :: x3 :: x4 :: some (.int x) :: r) st := fun H locs ls hP hS hl => by
  subst hv
  obtain ⟨k0, hk0⟩ := List.getElem?_of_mem ((lvl_mem (v := .int x) (j := 5) (x0 :: x1 :: x2 :: x3 :: x4 :: some (.int x) :: r) 0).mpr ⟨5, by omega, rfl⟩)
  exact lv_iinc (i := 5) (nL := nL) C.1.1 C.1.2.1 hd hl hk0 rfl hn rfl (fun ls2 hl2 => k H locs ls2 hP hS (lvl_set1 (i := 5) (lv := x0 :: x1 :: x2 :: x3 :: x4 :: some (.int x) :: r) (v := .int (x + Int32.ofInt n)) (by simp only [List.length_cons]; omega) ho hl2))
theorem q_iload6 {x0 x1 x2 x3 x4 x5 : Option Value} {r : List (Option Value)} {v : Int32} (C : Cx p s m args meth c cc nL own ret D A ct a) (hd : decode cc pc = .ok (.iload 6, 2)) (k : KW p l e R s m args below meth c cells slots Q D A ct a nL M (pc + 2) (x0 :: x1 :: x2 :: x3 :: x4 :: x5 :: some (.int v) :: r) (.int v :: st)) : KW p l e R s m args below meth c cells slots Q D A ct a nL M pc (x0 :: x1 :: x2 :: x3 :: x4 :: x5 :: some (.int v) :: r) st := fun H locs ls hP hS hl => lv_iload (i := 6) C.1.1 C.1.2.1 hd (lvl_at hl rfl) (k H locs ls hP hS hl)
theorem q_lload6 {x0 x1 x2 x3 x4 x5 : Option Value} {r : List (Option Value)} {v : Int64} (C : Cx p s m args meth c cc nL own ret D A ct a) (hd : decode cc pc = .ok (.lload 6, 2)) (k : KW p l e R s m args below meth c cells slots Q D A ct a nL M (pc + 2) (x0 :: x1 :: x2 :: x3 :: x4 :: x5 :: some (.long v) :: r) (.long v :: st)) : KW p l e R s m args below meth c cells slots Q D A ct a nL M pc (x0 :: x1 :: x2 :: x3 :: x4 :: x5 :: some (.long v) :: r) st := fun H locs ls hP hS hl => lv_lload (i := 6) C.1.1 C.1.2.1 hd (lvl_at hl rfl) (k H locs ls hP hS hl)
theorem q_aload6 {x0 x1 x2 x3 x4 x5 : Option Value} {r : List (Option Value)} {v : Nat} (C : Cx p s m args meth c cc nL own ret D A ct a) (hd : decode cc pc = .ok (.aload 6, 2)) (k : KW p l e R s m args below meth c cells slots Q D A ct a nL M (pc + 2) (x0 :: x1 :: x2 :: x3 :: x4 :: x5 :: some (.ref v) :: r) (.ref v :: st)) : KW p l e R s m args below meth c cells slots Q D A ct a nL M pc (x0 :: x1 :: x2 :: x3 :: x4 :: x5 :: some (.ref v) :: r) st := fun H locs ls hP hS hl => lv_aload (i := 6) C.1.1 C.1.2.1 hd (lvl_at hl rfl) (k H locs ls hP hS hl)
theorem q_istore6 {x0 x1 x2 x3 x4 x5 : Option Value} {r : List (Option Value)} {y : Option Value} {v : Int32} (C : Cx p s m args meth c cc nL own ret D A ct a) (hd : decode cc pc = .ok (.istore 6, 2)) (hn : 6 < nL) (ho : okS (x0 :: x1 :: x2 :: x3 :: x4 :: x5 :: y :: r) 6) (k : KW p l e R s m args below meth c cells slots Q D A ct a nL M (pc + 2) (x0 :: x1 :: x2 :: x3 :: x4 :: x5 :: some (.int v) :: r) st) : KW p l e R s m args below meth c cells slots Q D A ct a nL M pc (x0 :: x1 :: x2 :: x3 :: x4 :: x5 :: y :: r) (.int v :: st) := fun H locs ls hP hS hl => lv_istore (i := 6) (nL := nL) C.1.1 C.1.2.1 hd hl hn rfl (fun ls2 hl2 => k H locs ls2 hP hS (lvl_set1 (i := 6) (lv := x0 :: x1 :: x2 :: x3 :: x4 :: x5 :: y :: r) (v := .int v) (by simp only [List.length_cons]; omega) ho hl2))
theorem q_astore6 {x0 x1 x2 x3 x4 x5 : Option Value} {r : List (Option Value)} {y : Option Value} {v : Nat} (C : Cx p s m args meth c cc nL own ret D A ct a) (hd : decode cc pc = .ok (.astore 6, 2)) (hn : 6 < nL) (ho : okS (x0 :: x1 :: x2 :: x3 :: x4 :: x5 :: y :: r) 6) (k : KW p l e R s m args below meth c cells slots Q D A ct a nL M (pc + 2) (x0 :: x1 :: x2 :: x3 :: x4 :: x5 :: some (.ref v) :: r) st) : KW p l e R s m args below meth c cells slots Q D A ct a nL M pc (x0 :: x1 :: x2 :: x3 :: x4 :: x5 :: y :: r) (.ref v :: st) := fun H locs ls hP hS hl => lv_astore (i := 6) (nL := nL) C.1.1 C.1.2.1 hd hl hn rfl (fun ls2 hl2 => k H locs ls2 hP hS (lvl_set1 (i := 6) (lv := x0 :: x1 :: x2 :: x3 :: x4 :: x5 :: y :: r) (v := .ref v) (by simp only [List.length_cons]; omega) ho hl2))
theorem q_lstore6 {x0 x1 x2 x3 x4 x5 : Option Value} {r : List (Option Value)} {y z : Option Value} {v : Int64} (C : Cx p s m args meth c cc nL own ret D A ct a) (hd : decode cc pc = .ok (.lstore 6, 2)) (hn : 6 + 1 < nL) (ho : okS (x0 :: x1 :: x2 :: x3 :: x4 :: x5 :: y :: z :: r) 6) (k : KW p l e R s m args below meth c cells slots Q D A ct a nL M (pc + 2) (x0 :: x1 :: x2 :: x3 :: x4 :: x5 :: some (.long v) :: none :: r) st) : KW p l e R s m args below meth c cells slots Q D A ct a nL M pc (x0 :: x1 :: x2 :: x3 :: x4 :: x5 :: y :: z :: r) (.long v :: st) := fun H locs ls hP hS hl => lv_lstore (i := 6) (nL := nL) C.1.1 C.1.2.1 hd hl hn rfl (fun ls2 hl2 => k H locs ls2 hP hS (lvl_set2 (i := 6) (lv := x0 :: x1 :: x2 :: x3 :: x4 :: x5 :: y :: z :: r) (v := .long v) (by simp only [List.length_cons]; omega) ho hl2))
theorem q_iinc6 {x0 x1 x2 x3 x4 x5 : Option Value} {r : List (Option Value)} {x : Int32} {n : Int} {dv : Int32} (C : Cx p s m args meth c cc nL own ret D A ct a) (hd : decode cc pc = .ok (.iinc 6 n, 3)) (hv : Int32.ofInt n = dv) (hn : 6 < nL) (ho : okS (x0 :: x1 :: x2 :: x3 :: x4 :: x5 :: some (.int x) :: r) 6) (k : KW p l e R s m args below meth c cells slots Q D A ct a nL M (pc + 3) (x0 :: x1 :: x2 :: x3 :: x4 :: x5 :: some (.int (x + dv)) :: r) st) : KW p l e R s m args below meth c cells slots Q D A ct a nL M pc (x0 :: x1 :: x2 :: x3 :: x4 :: x5 :: some (.int x) :: r) st := fun H locs ls hP hS hl => by
  subst hv
  obtain ⟨k0, hk0⟩ := List.getElem?_of_mem ((lvl_mem (v := .int x) (j := 6) (x0 :: x1 :: x2 :: x3 :: x4 :: x5 :: some (.int x) :: r) 0).mpr ⟨6, by omega, rfl⟩)
  exact lv_iinc (i := 6) (nL := nL) C.1.1 C.1.2.1 hd hl hk0 rfl hn rfl (fun ls2 hl2 => k H locs ls2 hP hS (lvl_set1 (i := 6) (lv := x0 :: x1 :: x2 :: x3 :: x4 :: x5 :: some (.int x) :: r) (v := .int (x + Int32.ofInt n)) (by simp only [List.length_cons]; omega) ho hl2))
theorem q_iload7 {x0 x1 x2 x3 x4 x5 x6 : Option Value} {r : List (Option Value)} {v : Int32} (C : Cx p s m args meth c cc nL own ret D A ct a) (hd : decode cc pc = .ok (.iload 7, 2)) (k : KW p l e R s m args below meth c cells slots Q D A ct a nL M (pc + 2) (x0 :: x1 :: x2 :: x3 :: x4 :: x5 :: x6 :: some (.int v) :: r) (.int v :: st)) : KW p l e R s m args below meth c cells slots Q D A ct a nL M pc (x0 :: x1 :: x2 :: x3 :: x4 :: x5 :: x6 :: some (.int v) :: r) st := fun H locs ls hP hS hl => lv_iload (i := 7) C.1.1 C.1.2.1 hd (lvl_at hl rfl) (k H locs ls hP hS hl)
theorem q_lload7 {x0 x1 x2 x3 x4 x5 x6 : Option Value} {r : List (Option Value)} {v : Int64} (C : Cx p s m args meth c cc nL own ret D A ct a) (hd : decode cc pc = .ok (.lload 7, 2)) (k : KW p l e R s m args below meth c cells slots Q D A ct a nL M (pc + 2) (x0 :: x1 :: x2 :: x3 :: x4 :: x5 :: x6 :: some (.long v) :: r) (.long v :: st)) : KW p l e R s m args below meth c cells slots Q D A ct a nL M pc (x0 :: x1 :: x2 :: x3 :: x4 :: x5 :: x6 :: some (.long v) :: r) st := fun H locs ls hP hS hl => lv_lload (i := 7) C.1.1 C.1.2.1 hd (lvl_at hl rfl) (k H locs ls hP hS hl)
theorem q_aload7 {x0 x1 x2 x3 x4 x5 x6 : Option Value} {r : List (Option Value)} {v : Nat} (C : Cx p s m args meth c cc nL own ret D A ct a) (hd : decode cc pc = .ok (.aload 7, 2)) (k : KW p l e R s m args below meth c cells slots Q D A ct a nL M (pc + 2) (x0 :: x1 :: x2 :: x3 :: x4 :: x5 :: x6 :: some (.ref v) :: r) (.ref v :: st)) : KW p l e R s m args below meth c cells slots Q D A ct a nL M pc (x0 :: x1 :: x2 :: x3 :: x4 :: x5 :: x6 :: some (.ref v) :: r) st := fun H locs ls hP hS hl => lv_aload (i := 7) C.1.1 C.1.2.1 hd (lvl_at hl rfl) (k H locs ls hP hS hl)
theorem q_istore7 {x0 x1 x2 x3 x4 x5 x6 : Option Value} {r : List (Option Value)} {y : Option Value} {v : Int32} (C : Cx p s m args meth c cc nL own ret D A ct a) (hd : decode cc pc = .ok (.istore 7, 2)) (hn : 7 < nL) (ho : okS (x0 :: x1 :: x2 :: x3 :: x4 :: x5 :: x6 :: y :: r) 7) (k : KW p l e R s m args below meth c cells slots Q D A ct a nL M (pc + 2) (x0 :: x1 :: x2 :: x3 :: x4 :: x5 :: x6 :: some (.int v) :: r) st) : KW p l e R s m args below meth c cells slots Q D A ct a nL M pc (x0 :: x1 :: x2 :: x3 :: x4 :: x5 :: x6 :: y :: r) (.int v :: st) := fun H locs ls hP hS hl => lv_istore (i := 7) (nL := nL) C.1.1 C.1.2.1 hd hl hn rfl (fun ls2 hl2 => k H locs ls2 hP hS (lvl_set1 (i := 7) (lv := x0 :: x1 :: x2 :: x3 :: x4 :: x5 :: x6 :: y :: r) (v := .int v) (by simp only [List.length_cons]; omega) ho hl2))
theorem q_astore7 {x0 x1 x2 x3 x4 x5 x6 : Option Value} {r : List (Option Value)} {y : Option Value} {v : Nat} (C : Cx p s m args meth c cc nL own ret D A ct a) (hd : decode cc pc = .ok (.astore 7, 2)) (hn : 7 < nL) (ho : okS (x0 :: x1 :: x2 :: x3 :: x4 :: x5 :: x6 :: y :: r) 7) (k : KW p l e R s m args below meth c cells slots Q D A ct a nL M (pc + 2) (x0 :: x1 :: x2 :: x3 :: x4 :: x5 :: x6 :: some (.ref v) :: r) st) : KW p l e R s m args below meth c cells slots Q D A ct a nL M pc (x0 :: x1 :: x2 :: x3 :: x4 :: x5 :: x6 :: y :: r) (.ref v :: st) := fun H locs ls hP hS hl => lv_astore (i := 7) (nL := nL) C.1.1 C.1.2.1 hd hl hn rfl (fun ls2 hl2 => k H locs ls2 hP hS (lvl_set1 (i := 7) (lv := x0 :: x1 :: x2 :: x3 :: x4 :: x5 :: x6 :: y :: r) (v := .ref v) (by simp only [List.length_cons]; omega) ho hl2))
theorem q_lstore7 {x0 x1 x2 x3 x4 x5 x6 : Option Value} {r : List (Option Value)} {y z : Option Value} {v : Int64} (C : Cx p s m args meth c cc nL own ret D A ct a) (hd : decode cc pc = .ok (.lstore 7, 2)) (hn : 7 + 1 < nL) (ho : okS (x0 :: x1 :: x2 :: x3 :: x4 :: x5 :: x6 :: y :: z :: r) 7) (k : KW p l e R s m args below meth c cells slots Q D A ct a nL M (pc + 2) (x0 :: x1 :: x2 :: x3 :: x4 :: x5 :: x6 :: some (.long v) :: none :: r) st) : KW p l e R s m args below meth c cells slots Q D A ct a nL M pc (x0 :: x1 :: x2 :: x3 :: x4 :: x5 :: x6 :: y :: z :: r) (.long v :: st) := fun H locs ls hP hS hl => lv_lstore (i := 7) (nL := nL) C.1.1 C.1.2.1 hd hl hn rfl (fun ls2 hl2 => k H locs ls2 hP hS (lvl_set2 (i := 7) (lv := x0 :: x1 :: x2 :: x3 :: x4 :: x5 :: x6 :: y :: z :: r) (v := .long v) (by simp only [List.length_cons]; omega) ho hl2))
theorem q_iinc7 {x0 x1 x2 x3 x4 x5 x6 : Option Value} {r : List (Option Value)} {x : Int32} {n : Int} {dv : Int32} (C : Cx p s m args meth c cc nL own ret D A ct a) (hd : decode cc pc = .ok (.iinc 7 n, 3)) (hv : Int32.ofInt n = dv) (hn : 7 < nL) (ho : okS (x0 :: x1 :: x2 :: x3 :: x4 :: x5 :: x6 :: some (.int x) :: r) 7) (k : KW p l e R s m args below meth c cells slots Q D A ct a nL M (pc + 3) (x0 :: x1 :: x2 :: x3 :: x4 :: x5 :: x6 :: some (.int (x + dv)) :: r) st) : KW p l e R s m args below meth c cells slots Q D A ct a nL M pc (x0 :: x1 :: x2 :: x3 :: x4 :: x5 :: x6 :: some (.int x) :: r) st := fun H locs ls hP hS hl => by
  subst hv
  obtain ⟨k0, hk0⟩ := List.getElem?_of_mem ((lvl_mem (v := .int x) (j := 7) (x0 :: x1 :: x2 :: x3 :: x4 :: x5 :: x6 :: some (.int x) :: r) 0).mpr ⟨7, by omega, rfl⟩)
  exact lv_iinc (i := 7) (nL := nL) C.1.1 C.1.2.1 hd hl hk0 rfl hn rfl (fun ls2 hl2 => k H locs ls2 hP hS (lvl_set1 (i := 7) (lv := x0 :: x1 :: x2 :: x3 :: x4 :: x5 :: x6 :: some (.int x) :: r) (v := .int (x + Int32.ofInt n)) (by simp only [List.length_cons]; omega) ho hl2))
theorem q_iload8 {x0 x1 x2 x3 x4 x5 x6 x7 : Option Value} {r : List (Option Value)} {v : Int32} (C : Cx p s m args meth c cc nL own ret D A ct a) (hd : decode cc pc = .ok (.iload 8, 2)) (k : KW p l e R s m args below meth c cells slots Q D A ct a nL M (pc + 2) (x0 :: x1 :: x2 :: x3 :: x4 :: x5 :: x6 :: x7 :: some (.int v) :: r) (.int v :: st)) : KW p l e R s m args below meth c cells slots Q D A ct a nL M pc (x0 :: x1 :: x2 :: x3 :: x4 :: x5 :: x6 :: x7 :: some (.int v) :: r) st := fun H locs ls hP hS hl => lv_iload (i := 8) C.1.1 C.1.2.1 hd (lvl_at hl rfl) (k H locs ls hP hS hl)
theorem q_lload8 {x0 x1 x2 x3 x4 x5 x6 x7 : Option Value} {r : List (Option Value)} {v : Int64} (C : Cx p s m args meth c cc nL own ret D A ct a) (hd : decode cc pc = .ok (.lload 8, 2)) (k : KW p l e R s m args below meth c cells slots Q D A ct a nL M (pc + 2) (x0 :: x1 :: x2 :: x3 :: x4 :: x5 :: x6 :: x7 :: some (.long v) :: r) (.long v :: st)) : KW p l e R s m args below meth c cells slots Q D A ct a nL M pc (x0 :: x1 :: x2 :: x3 :: x4 :: x5 :: x6 :: x7 :: some (.long v) :: r) st := fun H locs ls hP hS hl => lv_lload (i := 8) C.1.1 C.1.2.1 hd (lvl_at hl rfl) (k H locs ls hP hS hl)
theorem q_aload8 {x0 x1 x2 x3 x4 x5 x6 x7 : Option Value} {r : List (Option Value)} {v : Nat} (C : Cx p s m args meth c cc nL own ret D A ct a) (hd : decode cc pc = .ok (.aload 8, 2)) (k : KW p l e R s m args below meth c cells slots Q D A ct a nL M (pc + 2) (x0 :: x1 :: x2 :: x3 :: x4 :: x5 :: x6 :: x7 :: some (.ref v) :: r) (.ref v :: st)) : KW p l e R s m args below meth c cells slots Q D A ct a nL M pc (x0 :: x1 :: x2 :: x3 :: x4 :: x5 :: x6 :: x7 :: some (.ref v) :: r) st := fun H locs ls hP hS hl => lv_aload (i := 8) C.1.1 C.1.2.1 hd (lvl_at hl rfl) (k H locs ls hP hS hl)
theorem q_istore8 {x0 x1 x2 x3 x4 x5 x6 x7 : Option Value} {r : List (Option Value)} {y : Option Value} {v : Int32} (C : Cx p s m args meth c cc nL own ret D A ct a) (hd : decode cc pc = .ok (.istore 8, 2)) (hn : 8 < nL) (ho : okS (x0 :: x1 :: x2 :: x3 :: x4 :: x5 :: x6 :: x7 :: y :: r) 8) (k : KW p l e R s m args below meth c cells slots Q D A ct a nL M (pc + 2) (x0 :: x1 :: x2 :: x3 :: x4 :: x5 :: x6 :: x7 :: some (.int v) :: r) st) : KW p l e R s m args below meth c cells slots Q D A ct a nL M pc (x0 :: x1 :: x2 :: x3 :: x4 :: x5 :: x6 :: x7 :: y :: r) (.int v :: st) := fun H locs ls hP hS hl => lv_istore (i := 8) (nL := nL) C.1.1 C.1.2.1 hd hl hn rfl (fun ls2 hl2 => k H locs ls2 hP hS (lvl_set1 (i := 8) (lv := x0 :: x1 :: x2 :: x3 :: x4 :: x5 :: x6 :: x7 :: y :: r) (v := .int v) (by simp only [List.length_cons]; omega) ho hl2))
theorem q_astore8 {x0 x1 x2 x3 x4 x5 x6 x7 : Option Value} {r : List (Option Value)} {y : Option Value} {v : Nat} (C : Cx p s m args meth c cc nL own ret D A ct a) (hd : decode cc pc = .ok (.astore 8, 2)) (hn : 8 < nL) (ho : okS (x0 :: x1 :: x2 :: x3 :: x4 :: x5 :: x6 :: x7 :: y :: r) 8) (k : KW p l e R s m args below meth c cells slots Q D A ct a nL M (pc + 2) (x0 :: x1 :: x2 :: x3 :: x4 :: x5 :: x6 :: x7 :: some (.ref v) :: r) st) : KW p l e R s m args below meth c cells slots Q D A ct a nL M pc (x0 :: x1 :: x2 :: x3 :: x4 :: x5 :: x6 :: x7 :: y :: r) (.ref v :: st) := fun H locs ls hP hS hl => lv_astore (i := 8) (nL := nL) C.1.1 C.1.2.1 hd hl hn rfl (fun ls2 hl2 => k H locs ls2 hP hS (lvl_set1 (i := 8) (lv := x0 :: x1 :: x2 :: x3 :: x4 :: x5 :: x6 :: x7 :: y :: r) (v := .ref v) (by simp only [List.length_cons]; omega) ho hl2))
theorem q_lstore8 {x0 x1 x2 x3 x4 x5 x6 x7 : Option Value} {r : List (Option Value)} {y z : Option Value} {v : Int64} (C : Cx p s m args meth c cc nL own ret D A ct a) (hd : decode cc pc = .ok (.lstore 8, 2)) (hn : 8 + 1 < nL) (ho : okS (x0 :: x1 :: x2 :: x3 :: x4 :: x5 :: x6 :: x7 :: y :: z :: r) 8) (k : KW p l e R s m args below meth c cells slots Q D A ct a nL M (pc + 2) (x0 :: x1 :: x2 :: x3 :: x4 :: x5 :: x6 :: x7 :: some (.long v) :: none :: r) st) : KW p l e R s m args below meth c cells slots Q D A ct a nL M pc (x0 :: x1 :: x2 :: x3 :: x4 :: x5 :: x6 :: x7 :: y :: z :: r) (.long v :: st) := fun H locs ls hP hS hl => lv_lstore (i := 8) (nL := nL) C.1.1 C.1.2.1 hd hl hn rfl (fun ls2 hl2 => k H locs ls2 hP hS (lvl_set2 (i := 8) (lv := x0 :: x1 :: x2 :: x3 :: x4 :: x5 :: x6 :: x7 :: y :: z :: r) (v := .long v) (by simp only [List.length_cons]; omega) ho hl2))
theorem q_iinc8 {x0 x1 x2 x3 x4 x5 x6 x7 : Option Value} {r : List (Option Value)} {x : Int32} {n : Int} {dv : Int32} (C : Cx p s m args meth c cc nL own ret D A ct a) (hd : decode cc pc = .ok (.iinc 8 n, 3)) (hv : Int32.ofInt n = dv) (hn : 8 < nL) (ho : okS (x0 :: x1 :: x2 :: x3 :: x4 :: x5 :: x6 :: x7 :: some (.int x) :: r) 8) (k : KW p l e R s m args below meth c cells slots Q D A ct a nL M (pc + 3) (x0 :: x1 :: x2 :: x3 :: x4 :: x5 :: x6 :: x7 :: some (.int (x + dv)) :: r) st) : KW p l e R s m args below meth c cells slots Q D A ct a nL M pc (x0 :: x1 :: x2 :: x3 :: x4 :: x5 :: x6 :: x7 :: some (.int x) :: r) st := fun H locs ls hP hS hl => by
  subst hv
  obtain ⟨k0, hk0⟩ := List.getElem?_of_mem ((lvl_mem (v := .int x) (j := 8) (x0 :: x1 :: x2 :: x3 :: x4 :: x5 :: x6 :: x7 :: some (.int x) :: r) 0).mpr ⟨8, by omega, rfl⟩)
  exact lv_iinc (i := 8) (nL := nL) C.1.1 C.1.2.1 hd hl hk0 rfl hn rfl (fun ls2 hl2 => k H locs ls2 hP hS (lvl_set1 (i := 8) (lv := x0 :: x1 :: x2 :: x3 :: x4 :: x5 :: x6 :: x7 :: some (.int x) :: r) (v := .int (x + Int32.ofInt n)) (by simp only [List.length_cons]; omega) ho hl2))
theorem q_iload9 {x0 x1 x2 x3 x4 x5 x6 x7 x8 : Option Value} {r : List (Option Value)} {v : Int32} (C : Cx p s m args meth c cc nL own ret D A ct a) (hd : decode cc pc = .ok (.iload 9, 2)) (k : KW p l e R s m args below meth c cells slots Q D A ct a nL M (pc + 2) (x0 :: x1 :: x2 :: x3 :: x4 :: x5 :: x6 :: x7 :: x8 :: some (.int v) :: r) (.int v :: st)) : KW p l e R s m args below meth c cells slots Q D A ct a nL M pc (x0 :: x1 :: x2 :: x3 :: x4 :: x5 :: x6 :: x7 :: x8 :: some (.int v) :: r) st := fun H locs ls hP hS hl => lv_iload (i := 9) C.1.1 C.1.2.1 hd (lvl_at hl rfl) (k H locs ls hP hS hl)
theorem q_lload9 {x0 x1 x2 x3 x4 x5 x6 x7 x8 : Option Value} {r : List (Option Value)} {v : Int64} (C : Cx p s m args meth c cc nL own ret D A ct a) (hd : decode cc pc = .ok (.lload 9, 2)) (k : KW p l e R s m args below meth c cells slots Q D A ct a nL M (pc + 2) (x0 :: x1 :: x2 :: x3 :: x4 :: x5 :: x6 :: x7 :: x8 :: some (.long v) :: r) (.long v :: st)) : KW p l e R s m args below meth c cells slots Q D A ct a nL M pc (x0 :: x1 :: x2 :: x3 :: x4 :: x5 :: x6 :: x7 :: x8 :: some (.long v) :: r) st := fun H locs ls hP hS hl => lv_lload (i := 9) C.1.1 C.1.2.1 hd (lvl_at hl rfl) (k H locs ls hP hS hl)
theorem q_aload9 {x0 x1 x2 x3 x4 x5 x6 x7 x8 : Option Value} {r : List (Option Value)} {v : Nat} (C : Cx p s m args meth c cc nL own ret D A ct a) (hd : decode cc pc = .ok (.aload 9, 2)) (k : KW p l e R s m args below meth c cells slots Q D A ct a nL M (pc + 2) (x0 :: x1 :: x2 :: x3 :: x4 :: x5 :: x6 :: x7 :: x8 :: some (.ref v) :: r) (.ref v :: st)) : KW p l e R s m args below meth c cells slots Q D A ct a nL M pc (x0 :: x1 :: x2 :: x3 :: x4 :: x5 :: x6 :: x7 :: x8 :: some (.ref v) :: r) st := fun H locs ls hP hS hl => lv_aload (i := 9) C.1.1 C.1.2.1 hd (lvl_at hl rfl) (k H locs ls hP hS hl)
theorem q_istore9 {x0 x1 x2 x3 x4 x5 x6 x7 x8 : Option Value} {r : List (Option Value)} {y : Option Value} {v : Int32} (C : Cx p s m args meth c cc nL own ret D A ct a) (hd : decode cc pc = .ok (.istore 9, 2)) (hn : 9 < nL) (ho : okS (x0 :: x1 :: x2 :: x3 :: x4 :: x5 :: x6 :: x7 :: x8 :: y :: r) 9) (k : KW p l e R s m args below meth c cells slots Q D A ct a nL M (pc + 2) (x0 :: x1 :: x2 :: x3 :: x4 :: x5 :: x6 :: x7 :: x8 :: some (.int v) :: r) st) : KW p l e R s m args below meth c cells slots Q D A ct a nL M pc (x0 :: x1 :: x2 :: x3 :: x4 :: x5 :: x6 :: x7 :: x8 :: y :: r) (.int v :: st) := fun H locs ls hP hS hl => lv_istore (i := 9) (nL := nL) C.1.1 C.1.2.1 hd hl hn rfl (fun ls2 hl2 => k H locs ls2 hP hS (lvl_set1 (i := 9) (lv := x0 :: x1 :: x2 :: x3 :: x4 :: x5 :: x6 :: x7 :: x8 :: y :: r) (v := .int v) (by simp only [List.length_cons]; omega) ho hl2))
theorem q_astore9 {x0 x1 x2 x3 x4 x5 x6 x7 x8 : Option Value} {r : List (Option Value)} {y : Option Value} {v : Nat} (C : Cx p s m args meth c cc nL own ret D A ct a) (hd : decode cc pc = .ok (.astore 9, 2)) (hn : 9 < nL) (ho : okS (x0 :: x1 :: x2 :: x3 :: x4 :: x5 :: x6 :: x7 :: x8 :: y :: r) 9) (k : KW p l e R s m args below meth c cells slots Q D A ct a nL M (pc + 2) (x0 :: x1 :: x2 :: x3 :: x4 :: x5 :: x6 :: x7 :: x8 :: some (.ref v) :: r) st) : KW p l e R s m args below meth c cells slots Q D A ct a nL M pc (x0 :: x1 :: x2 :: x3 :: x4 :: x5 :: x6 :: x7 :: x8 :: y :: r) (.ref v :: st) := fun H locs ls hP hS hl => lv_astore (i := 9) (nL := nL) C.1.1 C.1.2.1 hd hl hn rfl (fun ls2 hl2 => k H locs ls2 hP hS (lvl_set1 (i := 9) (lv := x0 :: x1 :: x2 :: x3 :: x4 :: x5 :: x6 :: x7 :: x8 :: y :: r) (v := .ref v) (by simp only [List.length_cons]; omega) ho hl2))
theorem q_lstore9 {x0 x1 x2 x3 x4 x5 x6 x7 x8 : Option Value} {r : List (Option Value)} {y z : Option Value} {v : Int64} (C : Cx p s m args meth c cc nL own ret D A ct a) (hd : decode cc pc = .ok (.lstore 9, 2)) (hn : 9 + 1 < nL) (ho : okS (x0 :: x1 :: x2 :: x3 :: x4 :: x5 :: x6 :: x7 :: x8 :: y :: z :: r) 9) (k : KW p l e R s m args below meth c cells slots Q D A ct a nL M (pc + 2) (x0 :: x1 :: x2 :: x3 :: x4 :: x5 :: x6 :: x7 :: x8 :: some (.long v) :: none :: r) st) : KW p l e R s m args below meth c cells slots Q D A ct a nL M pc (x0 :: x1 :: x2 :: x3 :: x4 :: x5 :: x6 :: x7 :: x8 :: y :: z :: r) (.long v :: st) := fun H locs ls hP hS hl => lv_lstore (i := 9) (nL := nL) C.1.1 C.1.2.1 hd hl hn rfl (fun ls2 hl2 => k H locs ls2 hP hS (lvl_set2 (i := 9) (lv := x0 :: x1 :: x2 :: x3 :: x4 :: x5 :: x6 :: x7 :: x8 :: y :: z :: r) (v := .long v) (by simp only [List.length_cons]; omega) ho hl2))
theorem q_iinc9 {x0 x1 x2 x3 x4 x5 x6 x7 x8 : Option Value} {r : List (Option Value)} {x : Int32} {n : Int} {dv : Int32} (C : Cx p s m args meth c cc nL own ret D A ct a) (hd : decode cc pc = .ok (.iinc 9 n, 3)) (hv : Int32.ofInt n = dv) (hn : 9 < nL) (ho : okS (x0 :: x1 :: x2 :: x3 :: x4 :: x5 :: x6 :: x7 :: x8 :: some (.int x) :: r) 9) (k : KW p l e R s m args below meth c cells slots Q D A ct a nL M (pc + 3) (x0 :: x1 :: x2 :: x3 :: x4 :: x5 :: x6 :: x7 :: x8 :: some (.int (x + dv)) :: r) st) : KW p l e R s m args below meth c cells slots Q D A ct a nL M pc (x0 :: x1 :: x2 :: x3 :: x4 :: x5 :: x6 :: x7 :: x8 :: some (.int x) :: r) st := fun H locs ls hP hS hl => by
  subst hv
  obtain ⟨k0, hk0⟩ := List.getElem?_of_mem ((lvl_mem (v := .int x) (j := 9) (x0 :: x1 :: x2 :: x3 :: x4 :: x5 :: x6 :: x7 :: x8 :: some (.int x) :: r) 0).mpr ⟨9, by omega, rfl⟩)
  exact lv_iinc (i := 9) (nL := nL) C.1.1 C.1.2.1 hd hl hk0 rfl hn rfl (fun ls2 hl2 => k H locs ls2 hP hS (lvl_set1 (i := 9) (lv := x0 :: x1 :: x2 :: x3 :: x4 :: x5 :: x6 :: x7 :: x8 :: some (.int x) :: r) (v := .int (x + Int32.ofInt n)) (by simp only [List.length_cons]; omega) ho hl2))
theorem q_iload10 {x0 x1 x2 x3 x4 x5 x6 x7 x8 x9 : Option Value} {r : List (Option Value)} {v : Int32} (C : Cx p s m args meth c cc nL own ret D A ct a) (hd : decode cc pc = .ok (.iload 10, 2)) (k : KW p l e R s m args below meth c cells slots Q D A ct a nL M (pc + 2) (x0 :: x1 :: x2 :: x3 :: x4 :: x5 :: x6 :: x7 :: x8 :: x9 :: some (.int v) :: r) (.int v :: st)) : KW p l e R s m args below meth c cells slots Q D A ct a nL M pc (x0 :: x1 :: x2 :: x3 :: x4 :: x5 :: x6 :: x7 :: x8 :: x9 :: some (.int v) :: r) st := fun H locs ls hP hS hl => lv_iload (i := 10) C.1.1 C.1.2.1 hd (lvl_at hl rfl) (k H locs ls hP hS hl)
theorem q_lload10 {x0 x1 x2 x3 x4 x5 x6 x7 x8 x9 : Option Value} {r : List (Option Value)} {v : Int64} (C : Cx p s m args meth c cc nL own ret D A ct a) (hd : decode cc pc = .ok (.lload 10, 2)) (k : KW p l e R s m args below meth c cells slots Q D A ct a nL M (pc + 2) (x0 :: x1 :: x2 :: x3 :: x4 :: x5 :: x6 :: x7 :: x8 :: x9 :: some (.long v) :: r) (.long v :: st)) : KW p l e R s m args below meth c cells slots Q D A ct a nL M pc (x0 :: x1 :: x2 :: x3 :: x4 :: x5 :: x6 :: x7 :: x8 :: x9 :: some (.long v) :: r) st := fun H locs ls hP hS hl => lv_lload (i := 10) C.1.1 C.1.2.1 hd (lvl_at hl rfl) (k H locs ls hP hS hl)
theorem q_aload10 {x0 x1 x2 x3 x4 x5 x6 x7 x8 x9 : Option Value} {r : List (Option Value)} {v : Nat} (C : Cx p s m args meth c cc nL own ret D A ct a) (hd : decode cc pc = .ok (.aload 10, 2)) (k : KW p l e R s m args below meth c cells slots Q D A ct a nL M (pc + 2) (x0 :: x1 :: x2 :: x3 :: x4 :: x5 :: x6 :: x7 :: x8 :: x9 :: some (.ref v) :: r) (.ref v :: st)) : KW p l e R s m args below meth c cells slots Q D A ct a nL M pc (x0 :: x1 :: x2 :: x3 :: x4 :: x5 :: x6 :: x7 :: x8 :: x9 :: some (.ref v) :: r) st := fun H locs ls hP hS hl => lv_aload (i := 10) C.1.1 C.1.2.1 hd (lvl_at hl rfl) (k H locs ls hP hS hl)
theorem q_istore10 {x0 x1 x2 x3 x4 x5 x6 x7 x8 x9 : Option Value} {r : List (Option Value)} {y : Option Value} {v : Int32} (C : Cx p s m args meth c cc nL own ret D A ct a) (hd : decode cc pc = .ok (.istore 10, 2)) (hn : 10 < nL) (ho : okS (x0 :: x1 :: x2 :: x3 :: x4 :: x5 :: x6 :: x7 :: x8 :: x9 :: y :: r) 10) (k : KW p l e R s m args below meth c cells slots Q D A ct a nL M (pc + 2) (x0 :: x1 :: x2 :: x3 :: x4 :: x5 :: x6 :: x7 :: x8 :: x9 :: some (.int v) :: r) st) : KW p l e R s m args below meth c cells slots Q D A ct a nL M pc (x0 :: x1 :: x2 :: x3 :: x4 :: x5 :: x6 :: x7 :: x8 :: x9 :: y :: r) (.int v :: st) := fun H locs ls hP hS hl => lv_istore (i := 10) (nL := nL) C.1.1 C.1.2.1 hd hl hn rfl (fun ls2 hl2 => k H locs ls2 hP hS (lvl_set1 (i := 10) (lv := x0 :: x1 :: x2 :: x3 :: x4 :: x5 :: x6 :: x7 :: x8 :: x9 :: y :: r) (v := .int v) (by simp only [List.length_cons]; omega) ho hl2))
theorem q_astore10 {x0 x1 x2 x3 x4 x5 x6 x7 x8 x9 : Option Value} {r : List (Option Value)} {y : Option Value} {v : Nat} (C : Cx p s m args meth c cc nL own ret D A ct a) (hd : decode cc pc = .ok (.astore 10, 2)) (hn : 10 < nL) (ho : okS (x0 :: x1 :: x2 :: x3 :: x4 :: x5 :: x6 :: x7 :: x8 :: x9 :: y :: r) 10) (k : KW p l e R s m args below meth c cells slots Q D A ct a nL M (pc + 2) (x0 :: x1 :: x2 :: x3 :: x4 :: x5 :: x6 :: x7 :: x8 :: x9 :: some (.ref v) :: r) st) : KW p l e R s m args below meth c cells slots Q D A ct a nL M pc (x0 :: x1 :: x2 :: x3 :: x4 :: x5 :: x6 :: x7 :: x8 :: x9 :: y :: r) (.ref v :: st) := fun H locs ls hP hS hl => lv_astore (i := 10) (nL := nL) C.1.1 C.1.2.1 hd hl hn rfl (fun ls2 hl2 => k H locs ls2 hP hS (lvl_set1 (i := 10) (lv := x0 :: x1 :: x2 :: x3 :: x4 :: x5 :: x6 :: x7 :: x8 :: x9 :: y :: r) (v := .ref v) (by simp only [List.length_cons]; omega) ho hl2))
theorem q_lstore10 {x0 x1 x2 x3 x4 x5 x6 x7 x8 x9 : Option Value} {r : List (Option Value)} {y z : Option Value} {v : Int64} (C : Cx p s m args meth c cc nL own ret D A ct a) (hd : decode cc pc = .ok (.lstore 10, 2)) (hn : 10 + 1 < nL) (ho : okS (x0 :: x1 :: x2 :: x3 :: x4 :: x5 :: x6 :: x7 :: x8 :: x9 :: y :: z :: r) 10) (k : KW p l e R s m args below meth c cells slots Q D A ct a nL M (pc + 2) (x0 :: x1 :: x2 :: x3 :: x4 :: x5 :: x6 :: x7 :: x8 :: x9 :: some (.long v) :: none :: r) st) : KW p l e R s m args below meth c cells slots Q D A ct a nL M pc (x0 :: x1 :: x2 :: x3 :: x4 :: x5 :: x6 :: x7 :: x8 :: x9 :: y :: z :: r) (.long v :: st) := fun H locs ls hP hS hl => lv_lstore (i := 10) (nL := nL) C.1.1 C.1.2.1 hd hl hn rfl (fun ls2 hl2 => k H locs ls2 hP hS (lvl_set2 (i := 10) (lv := x0 :: x1 :: x2 :: x3 :: x4 :: x5 :: x6 :: x7 :: x8 :: x9 :: y :: z :: r) (v := .long v) (by simp only [List.length_cons]; omega) ho hl2))
theorem q_iinc10 {x0 x1 x2 x3 x4 x5 x6 x7 x8 x9 : Option Value} {r : List (Option Value)} {x : Int32} {n : Int} {dv : Int32} (C : Cx p s m args meth c cc nL own ret D A ct a) (hd : decode cc pc = .ok (.iinc 10 n, 3)) (hv : Int32.ofInt n = dv) (hn : 10 < nL) (ho : okS (x0 :: x1 :: x2 :: x3 :: x4 :: x5 :: x6 :: x7 :: x8 :: x9 :: some (.int x) :: r) 10) (k : KW p l e R s m args below meth c cells slots Q D A ct a nL M (pc + 3) (x0 :: x1 :: x2 :: x3 :: x4 :: x5 :: x6 :: x7 :: x8 :: x9 :: some (.int (x + dv)) :: r) st) : KW p l e R s m args below meth c cells slots Q D A ct a nL M pc (x0 :: x1 :: x2 :: x3 :: x4 :: x5 :: x6 :: x7 :: x8 :: x9 :: some (.int x) :: r) st := fun H locs ls hP hS hl => by
  subst hv
  obtain ⟨k0, hk0⟩ := List.getElem?_of_mem ((lvl_mem (v := .int x) (j := 10) (x0 :: x1 :: x2 :: x3 :: x4 :: x5 :: x6 :: x7 :: x8 :: x9 :: some (.int x) :: r) 0).mpr ⟨10, by omega, rfl⟩)
  exact lv_iinc (i := 10) (nL := nL) C.1.1 C.1.2.1 hd hl hk0 rfl hn rfl (fun ls2 hl2 => k H locs ls2 hP hS (lvl_set1 (i := 10) (lv := x0 :: x1 :: x2 :: x3 :: x4 :: x5 :: x6 :: x7 :: x8 :: x9 :: some (.int x) :: r) (v := .int (x + Int32.ofInt n)) (by simp only [List.length_cons]; omega) ho hl2))
theorem q_iload11 {x0 x1 x2 x3 x4 x5 x6 x7 x8 x9 x10 : Option Value} {r : List (Option Value)} {v : Int32} (C : Cx p s m args meth c cc nL own ret D A ct a) (hd : decode cc pc = .ok (.iload 11, 2)) (k : KW p l e R s m args below meth c cells slots Q D A ct a nL M (pc + 2) (x0 :: x1 :: x2 :: x3 :: x4 :: x5 :: x6 :: x7 :: x8 :: x9 :: x10 :: some (.int v) :: r) (.int v :: st)) : KW p l e R s m args below meth c cells slots Q D A ct a nL M pc (x0 :: x1 :: x2 :: x3 :: x4 :: x5 :: x6 :: x7 :: x8 :: x9 :: x10 :: some (.int v) :: r) st := fun H locs ls hP hS hl => lv_iload (i := 11) C.1.1 C.1.2.1 hd (lvl_at hl rfl) (k H locs ls hP hS hl)
theorem q_lload11 {x0 x1 x2 x3 x4 x5 x6 x7 x8 x9 x10 : Option Value} {r : List (Option Value)} {v : Int64} (C : Cx p s m args meth c cc nL own ret D A ct a) (hd : decode cc pc = .ok (.lload 11, 2)) (k : KW p l e R s m args below meth c cells slots Q D A ct a nL M (pc + 2) (x0 :: x1 :: x2 :: x3 :: x4 :: x5 :: x6 :: x7 :: x8 :: x9 :: x10 :: some (.long v) :: r) (.long v :: st)) : KW p l e R s m args below meth c cells slots Q D A ct a nL M pc (x0 :: x1 :: x2 :: x3 :: x4 :: x5 :: x6 :: x7 :: x8 :: x9 :: x10 :: some (.long v) :: r) st := fun H locs ls hP hS hl => lv_lload (i := 11) C.1.1 C.1.2.1 hd (lvl_at hl rfl) (k H locs ls hP hS hl)
theorem q_aload11 {x0 x1 x2 x3 x4 x5 x6 x7 x8 x9 x10 : Option Value} {r : List (Option Value)} {v : Nat} (C : Cx p s m args meth c cc nL own ret D A ct a) (hd : decode cc pc = .ok (.aload 11, 2)) (k : KW p l e R s m args below meth c cells slots Q D A ct a nL M (pc + 2) (x0 :: x1 :: x2 :: x3 :: x4 :: x5 :: x6 :: x7 :: x8 :: x9 :: x10 :: some (.ref v) :: r) (.ref v :: st)) : KW p l e R s m args below meth c cells slots Q D A ct a nL M pc (x0 :: x1 :: x2 :: x3 :: x4 :: x5 :: x6 :: x7 :: x8 :: x9 :: x10 :: some (.ref v) :: r) st := fun H locs ls hP hS hl => lv_aload (i := 11) C.1.1 C.1.2.1 hd (lvl_at hl rfl) (k H locs ls hP hS hl)
theorem q_istore11 {x0 x1 x2 x3 x4 x5 x6 x7 x8 x9 x10 : Option Value} {r : List (Option Value)} {y : Option Value} {v : Int32} (C : Cx p s m args meth c cc nL own ret D A ct a) (hd : decode cc pc = .ok (.istore 11, 2)) (hn : 11 < nL) (ho : okS (x0 :: x1 :: x2 :: x3 :: x4 :: x5 :: x6 :: x7 :: x8 :: x9 :: x10 :: y :: r) 11) (k : KW p l e R s m args below meth c cells slots Q D A ct a nL M (pc + 2) (x0 :: x1 :: x2 :: x3 :: x4 :: x5 :: x6 :: x7 :: x8 :: x9 :: x10 :: some (.int v) :: r) st) : KW p l e R s m args below meth c cells slots Q D A ct a nL M pc (x0 :: x1 :: x2 :: x3 :: x4 :: x5 :: x6 :: x7 :: x8 :: x9 :: x10 :: y :: r) (.int v :: st) := fun H locs ls hP hS hl => lv_istore (i := 11) (nL := nL) C.1.1 C.1.2.1 hd hl hn rfl (fun ls2 hl2 => k H locs ls2 hP hS (lvl_set1 (i := 11) (lv := x0 :: x1 :: x2 :: x3 :: x4 :: x5 :: x6 :: x7 :: x8 :: x9 :: x10 :: y :: r) (v := .int v) (by simp only [List.length_cons]; omega) ho hl2))
theorem q_astore11 {x0 x1 x2 x3 x4 x5 x6 x7 x8 x9 x10 : Option Value} {r : List (Option Value)} {y : Option Value} {v : Nat} (C : Cx p s m args meth c cc nL own ret D A ct a) (hd : decode cc pc = .ok (.astore 11, 2)) (hn : 11 < nL) (ho : okS (x0 :: x1 :: x2 :: x3 :: x4 :: x5 :: x6 :: x7 :: x8 :: x9 :: x10 :: y :: r) 11) (k : KW p l e R s m args below meth c cells slots Q D A ct a nL M (pc + 2) (x0 :: x1 :: x2 :: x3 :: x4 :: x5 :: x6 :: x7 :: x8 :: x9 :: x10 :: some (.ref v) :: r) st) : KW p l e R s m args below meth c cells slots Q D A ct a nL M pc (x0 :: x1 :: x2 :: x3 :: x4 :: x5 :: x6 :: x7 :: x8 :: x9 :: x10 :: y :: r) (.ref v :: st) := fun H locs ls hP hS hl => lv_astore (i := 11) (nL := nL) C.1.1 C.1.2.1 hd hl hn rfl (fun ls2 hl2 => k H locs ls2 hP hS (lvl_set1 (i := 11) (lv := x0 :: x1 :: x2 :: x3 :: x4 :: x5 :: x6 :: x7 :: x8 :: x9 :: x10 :: y :: r) (v := .ref v) (by simp only [List.length_cons]; omega) ho hl2))
theorem q_lstore11 {x0 x1 x2 x3 x4 x5 x6 x7 x8 x9 x10 : Option Value} {r : List (Option Value)} {y z : Option Value} {v : Int64} (C : Cx p s m args meth c cc nL own ret D A ct a) (hd : decode cc pc = .ok (.lstore 11, 2)) (hn : 11 + 1 < nL) (ho : okS (x0 :: x1 :: x2 :: x3 :: x4 :: x5 :: x6 :: x7 :: x8 :: x9 :: x10 :: y :: z :: r) 11) (k : KW p l e R s m args below meth c cells slots Q D A ct a nL M (pc + 2) (x0 :: x1 :: x2 :: x3 :: x4 :: x5 :: x6 :: x7 :: x8 :: x9 :: x10 :: some (.long v) :: none :: r) st) : KW p l e R s m args below meth c cells slots Q D A ct a nL M pc (x0 :: x1 :: x2 :: x3 :: x4 :: x5 :: x6 :: x7 :: x8 :: x9 :: x10 :: y :: z :: r) (.long v :: st) := fun H locs ls hP hS hl => lv_lstore (i := 11) (nL := nL) C.1.1 C.1.2.1 hd hl hn rfl (fun ls2 hl2 => k H locs ls2 hP hS (lvl_set2 (i := 11) (lv := x0 :: x1 :: x2 :: x3 :: x4 :: x5 :: x6 :: x7 :: x8 :: x9 :: x10 :: y :: z :: r) (v := .long v) (by simp only [List.length_cons]; omega) ho hl2))
theorem q_iinc11 {x0 x1 x2 x3 x4 x5 x6 x7 x8 x9 x10 : Option Value} {r : List (Option Value)} {x : Int32} {n : Int} {dv : Int32} (C : Cx p s m args meth c cc nL own ret D A ct a) (hd : decode cc pc = .ok (.iinc 11 n, 3)) (hv : Int32.ofInt n = dv) (hn : 11 < nL) (ho : okS (x0 :: x1 :: x2 :: x3 :: x4 :: x5 :: x6 :: x7 :: x8 :: x9 :: x10 :: some (.int x) :: r) 11) (k : KW p l e R s m args below meth c cells slots Q D A ct a nL M (pc + 3) (x0 :: x1 :: x2 :: x3 :: x4 :: x5 :: x6 :: x7 :: x8 :: x9 :: x10 :: some (.int (x + dv)) :: r) st) : KW p l e R s m args below meth c cells slots Q D A ct a nL M pc (x0 :: x1 :: x2 :: x3 :: x4 :: x5 :: x6 :: x7 :: x8 :: x9 :: x10 :: some (.int x) :: r) st := fun H locs ls hP hS hl => by
  subst hv
  obtain ⟨k0, hk0⟩ := List.getElem?_of_mem ((lvl_mem (v := .int x) (j := 11) (x0 :: x1 :: x2 :: x3 :: x4 :: x5 :: x6 :: x7 :: x8 :: x9 :: x10 :: some (.int x) :: r) 0).mpr ⟨11, by omega, rfl⟩)
  exact lv_iinc (i := 11) (nL := nL) C.1.1 C.1.2.1 hd hl hk0 rfl hn rfl (fun ls2 hl2 => k H locs ls2 hP hS (lvl_set1 (i := 11) (lv := x0 :: x1 :: x2 :: x3 :: x4 :: x5 :: x6 :: x7 :: x8 :: x9 :: x10 :: some (.int x) :: r) (v := .int (x + Int32.ofInt n)) (by simp only [List.length_cons]; omega) ho hl2))
end LY
end
section
theorem tbw_good {w : Cond} (h : w ∈ tbw) : goodWord w = true := (List.mem_filter.mp h).2
section LY2
variable {p : Program} {l : Launch} {e : Env} {R : Room} {s : State} {m : MethodId} {args : Array Value} {below : List Frame} {meth : Method} {c : Code} {cells slots : Nat} {Q : State → Prop} {D : va_G} {A : Nat → Prop} {ct : Nat → ClassId} {a : Nat → Nat} {nL : Nat} {M : Mm} {pc : Nat} {lv : List (Option Value)} {st : List Value} {cc : ByteArray} {own : String} {ret : Option FieldType}
/-- a field, read -/
theorem q_get {k ci j f N index : Nat} {fs : List Nat} {Cn : String} {T : u_T} (C : Cx p s m args meth c cc nL own ret D A ct a) (hs : SH[k]? = some (.inl (ci, fs))) (hf : fs[j]? = some f) (hc : vwCl[ci]? = some (Cn, T, N)) (hj : j < N) (hin : ∀ w ∈ u_ws Cn T N, w ∈ tbw) (hm : Cond.fieldLink own index (T j).1 (T j).2.1 (T j).2.2.1 ∈ tbw) (hd : decode cc pc = .ok (.getfield index, 3))
    (kk : KW p l e R s m args below meth c cells slots Q D A ct a nL M (pc + 3) lv (fv a M k j f :: st)) : KW p l e R s m args below meth c cells slots Q D A ct a nL M pc lv (.ref (a k) :: st) := fun H locs ls hP hS hl =>
  va_get C.1.1 C.1.2.1 C.1.2.2.2.2 hin C.1.2.2.2.1 C.2.1 hP k (wd_get hs) hc j hj (C.1.2.2.2.2 _ hm) (fun _ h => h) (v := fv a M k j f) (by simp [List.getElem?_mapIdx, hf]) hd (kk H locs ls hP hS hl)
theorem q_putI {k ci j N index : Nat} {fs : List Nat} {Cn : String} {T : u_T} {ty0 : Nat → FieldType} {v : Int32} (C : Cx p s m args meth c cc nL own ret D A ct a) (hs : SH[k]? = some (.inl (ci, fs))) (hf : fs[j]? = some 0) (hc : vwCl[ci]? = some (Cn, T, N)) (hj : j < N) (hin : ∀ w ∈ u_ws Cn T N, w ∈ tbw) (hty : ∀ k, k < N → parseFieldDescriptor (T k).2.2.1 = some (ty0 k)) (hnm : ∀ a, a < N → ∀ b, b < N → a ≠ b → (T a).2.1 ≠ (T b).2.1) (hm : Cond.fieldLink own index (T j).1 (T j).2.1 (T j).2.2.1 ∈ tbw) (hfin : (T j).2.2.2 = false) {ty : FieldType} (hdd : parseFieldDescriptor (T j).2.2.1 = some ty) (hn : narrow ty (.int v) = .int v) (hfit : fits ty (.int v) = true) (hd : decode cc pc = .ok (.putfield index, 3))
    (kk : KW p l e R s m args below meth c cells slots Q D A ct a nL (sI M k j v) (pc + 3) lv st) : KW p l e R s m args below meth c cells slots Q D A ct a nL M pc lv (.int v :: .ref (a k) :: st) := fun H locs ls hP hS hl => by
  refine va_put C.1.1 C.1.2.1 C.1.2.2.2.2 hin ty0 hty hnm C.1.2.2.2.1 C.2.1 hP (C.2.2.1.toD ct M) hS k (wd_get hs) hc j hj (C.1.2.2.2.2 _ hm) (fun _ h => h) hfin hdd hn hfit (by simpa using (List.getElem?_eq_some_iff.mp hf).1) hd (fun H1 locs1 hP1 hD1 hS1 => ?_)
  rw [fs_setI hf] at hP1
  have e := wd_set (ct := ct) (a := a) (M := M) (M' := sI M k j v) hs (fun i j' h => by simp [gI_sI, h]) (fun i j' h => rfl)
  exact kk H1 locs1 ls (by rw [← e]; exact hP1) hS1 hl
theorem q_putJ {k ci j N index : Nat} {fs : List Nat} {Cn : String} {T : u_T} {ty0 : Nat → FieldType} {v : Int64} (C : Cx p s m args meth c cc nL own ret D A ct a) (hs : SH[k]? = some (.inl (ci, fs))) (hf : fs[j]? = some 1) (hc : vwCl[ci]? = some (Cn, T, N)) (hj : j < N) (hin : ∀ w ∈ u_ws Cn T N, w ∈ tbw) (hty : ∀ k, k < N → parseFieldDescriptor (T k).2.2.1 = some (ty0 k)) (hnm : ∀ a, a < N → ∀ b, b < N → a ≠ b → (T a).2.1 ≠ (T b).2.1) (hm : Cond.fieldLink own index (T j).1 (T j).2.1 (T j).2.2.1 ∈ tbw) (hfin : (T j).2.2.2 = false) (hdd : parseFieldDescriptor (T j).2.2.1 = some .long) (hd : decode cc pc = .ok (.putfield index, 3))
    (kk : KW p l e R s m args below meth c cells slots Q D A ct a nL (sJ M k j v) (pc + 3) lv st) : KW p l e R s m args below meth c cells slots Q D A ct a nL M pc lv (.long v :: .ref (a k) :: st) := fun H locs ls hP hS hl => by
  refine va_put C.1.1 C.1.2.1 C.1.2.2.2.2 hin ty0 hty hnm C.1.2.2.2.1 C.2.1 hP (C.2.2.1.toD ct M) hS k (wd_get hs) hc j hj (C.1.2.2.2.2 _ hm) (fun _ h => h) hfin hdd rfl rfl (by simpa using (List.getElem?_eq_some_iff.mp hf).1) hd (fun H1 locs1 hP1 hD1 hS1 => ?_)
  rw [fs_setJ hf] at hP1
  have e := wd_set (ct := ct) (a := a) (M := M) (M' := sJ M k j v) hs (fun i j' h => rfl) (fun i j' h => by simp [gJ_sJ, h])
  exact kk H1 locs1 ls (by rw [← e]; exact hP1) hS1 hl
/-! arrays -/
theorem q_iald {k n r : Nat} {i : Int32} (C : Cx p s m args meth c cc nL own ret D A ct a) (hs : SH[k]? = some (.inr (0, n, r))) (hin : vp_in i n) (hd : decode cc pc = .ok (.iaload, 1)) (kk : KW p l e R s m args below meth c cells slots Q D A ct a nL M (pc + 1) lv (.int (gI M k i.toNatClampNeg) :: st)) : KW p l e R s m args below meth c cells slots Q D A ct a nL M pc lv (.int i :: .ref (a k) :: st) := fun H locs ls hP hS hl =>
  va_iald (f := gI M k) C.1.1 C.1.2.1 C.2.1 hP k 0 (wd_get hs) rfl hin hd (kk H locs ls hP hS hl)
theorem q_zald {k n r : Nat} {i : Int32} (C : Cx p s m args meth c cc nL own ret D A ct a) (hs : SH[k]? = some (.inr (2, n, r))) (hin : vp_in i n) (hd : decode cc pc = .ok (.baload, 1)) (kk : KW p l e R s m args below meth c cells slots Q D A ct a nL M (pc + 1) lv (.int (gI M k i.toNatClampNeg) :: st)) : KW p l e R s m args below meth c cells slots Q D A ct a nL M pc lv (.int i :: .ref (a k) :: st) := fun H locs ls hP hS hl =>
  va_zald (f := gI M k) C.1.1 C.1.2.1 C.2.1 hP k 2 (wd_get hs) rfl hin hd (kk H locs ls hP hS hl)
theorem q_lald {k n r : Nat} {i : Int32} (C : Cx p s m args meth c cc nL own ret D A ct a) (hs : SH[k]? = some (.inr (1, n, r))) (hin : vp_in i n) (hd : decode cc pc = .ok (.laload, 1)) (kk : KW p l e R s m args below meth c cells slots Q D A ct a nL M (pc + 1) lv (.long (gJ M k i.toNatClampNeg) :: st)) : KW p l e R s m args below meth c cells slots Q D A ct a nL M pc lv (.int i :: .ref (a k) :: st) := fun H locs ls hP hS hl =>
  va_lald (f := gJ M k) C.1.1 C.1.2.1 C.2.1 hP k 1 (wd_get hs) rfl hin hd (kk H locs ls hP hS hl)
theorem q_aald {k n r : Nat} {i : Int32} (C : Cx p s m args meth c cc nL own ret D A ct a) (hs : SH[k]? = some (.inr (3, n, r))) (hin : vp_in i n) (hd : decode cc pc = .ok (.aaload, 1)) (kk : KW p l e R s m args below meth c cells slots Q D A ct a nL M (pc + 1) lv (.ref (a (r + i.toNatClampNeg)) :: st)) : KW p l e R s m args below meth c cells slots Q D A ct a nL M pc lv (.int i :: .ref (a k) :: st) := fun H locs ls hP hS hl => by
  have hlt : i.toNatClampNeg < n := Nat.not_le.mp fun q => hin (Or.inr q)
  have ha := hP k _ (wd_get hs)
  exact W.aald (v := .ref (a (r + i.toNatClampNeg))) (ty := .array .int) C.1.1 C.1.2.1 ha ((C.2.1.2 3 (ct 3, .array .int) rfl).1 n (fun j => va_rf (if j < n then some (a (r + j)) else none))) rfl (fun q => by cases q) (by show ¬ (i < 0 ∨ (arrV _ _ _).slots.size ≤ _); rw [arrV_size]; exact hin) (by show (arrV _ _ _).slots[_]? = _; rw [arrV_read _ _ hlt]; simp [hlt, va_rf]) rfl rfl hd (kk H locs ls hP hS hl)
theorem q_iast {k n r : Nat} {i v : Int32} (C : Cx p s m args meth c cc nL own ret D A ct a) (hs : SH[k]? = some (.inr (0, n, r))) (hin : vp_in i n) (hd : decode cc pc = .ok (.iastore, 1)) (kk : KW p l e R s m args below meth c cells slots Q D A ct a nL (sI M k i.toNatClampNeg v) (pc + 1) lv st) : KW p l e R s m args below meth c cells slots Q D A ct a nL M pc lv (.int v :: .int i :: .ref (a k) :: st) := fun H locs ls hP hS hl => by
  refine va_iast (f := gI M k) C.1.1 C.1.2.1 C.2.1 hP (C.2.2.1.toD ct M) hS k 0 (wd_get hs) rfl hin hd (fun H1 locs1 hP1 hD1 hS1 => ?_)
  rw [ca_upd] at hP1
  have e := wd_set (ct := ct) (a := a) (M := M) (M' := sI M k i.toNatClampNeg v) hs (fun i j' h => by simp [gI_sI, h]) (fun i j' h => rfl)
  exact kk H1 locs1 ls (by rw [← e]; exact hP1) hS1 hl
theorem q_zast {k n r : Nat} {i v : Int32} (C : Cx p s m args meth c cc nL own ret D A ct a) (hs : SH[k]? = some (.inr (2, n, r))) (hin : vp_in i n) (hv : vp_nar .boolean v = v) (hd : decode cc pc = .ok (.bastore, 1)) (kk : KW p l e R s m args below meth c cells slots Q D A ct a nL (sI M k i.toNatClampNeg v) (pc + 1) lv st) : KW p l e R s m args below meth c cells slots Q D A ct a nL M pc lv (.int v :: .int i :: .ref (a k) :: st) := fun H locs ls hP hS hl => by
  refine va_zast (f := gI M k) C.1.1 C.1.2.1 C.2.1 hP (C.2.2.1.toD ct M) hS k 2 (wd_get hs) rfl hin hd (fun H1 locs1 hP1 hD1 hS1 => ?_)
  rw [hv, ca_upd] at hP1
  have e := wd_set (ct := ct) (a := a) (M := M) (M' := sI M k i.toNatClampNeg v) hs (fun i j' h => by simp [gI_sI, h]) (fun i j' h => rfl)
  exact kk H1 locs1 ls (by rw [← e]; exact hP1) hS1 hl
theorem q_last {k n r : Nat} {i : Int32} {v : Int64} (C : Cx p s m args meth c cc nL own ret D A ct a) (hs : SH[k]? = some (.inr (1, n, r))) (hin : vp_in i n) (hd : decode cc pc = .ok (.lastore, 1)) (kk : KW p l e R s m args below meth c cells slots Q D A ct a nL (sJ M k i.toNatClampNeg v) (pc + 1) lv st) : KW p l e R s m args below meth c cells slots Q D A ct a nL M pc lv (.long v :: .int i :: .ref (a k) :: st) := fun H locs ls hP hS hl => by
  refine va_last (f := gJ M k) C.1.1 C.1.2.1 C.2.1 hP (C.2.2.1.toD ct M) hS k 1 (wd_get hs) rfl hin hd (fun H1 locs1 hP1 hD1 hS1 => ?_)
  rw [ca_updL] at hP1
  have e := wd_set (ct := ct) (a := a) (M := M) (M' := sJ M k i.toNatClampNeg v) hs (fun i j' h => rfl) (fun i j' h => by simp [gJ_sJ, h])
  exact kk H1 locs1 ls (by rw [← e]; exact hP1) hS1 hl
theorem q_alen {k t n r : Nat} {v : Int32} (C : Cx p s m args meth c cc nL own ret D A ct a) (hs : SH[k]? = some (.inr (t, n, r))) (ht : t < 3) (hv : Int32.ofNat n = v) (hd : decode cc pc = .ok (.arraylength, 1)) (kk : KW p l e R s m args below meth c cells slots Q D A ct a nL M (pc + 1) lv (.int v :: st)) : KW p l e R s m args below meth c cells slots Q D A ct a nL M pc lv (.ref (a k) :: st) := fun H locs ls hP hS hl => by
  have h3 : ∃ ty, (tyl ct)[t]? = some (ct t, ty) := by
    rcases (show t = 0 ∨ t = 1 ∨ t = 2 by omega) with rfl | rfl | rfl
    · exact ⟨_, rfl⟩
    · exact ⟨_, rfl⟩
    · exact ⟨_, rfl⟩
  obtain ⟨ty, hty⟩ := h3
  exact va_alen C.1.1 C.1.2.1 C.2.1 hP k t (wd_get hs) hty hv hd (kk H locs ls hP hS hl)
/-- the constant row of kinds -/
theorem q_getK {index : Nat} (C : Cx p s m args meth c cc nL own ret D A ct a) (hm : Cond.fieldLink own index "KilnLine$Kiln" "KINDS" "[I" ∈ tbw) (hd : decode cc pc = .ok (.getstatic index, 3)) (kk : ∀ t, va_T .int t 4 (fun j => .int (kinds j)) A s s.heap → KW p l e R s m args below meth c cells slots Q D A ct a nL M (pc + 3) lv (.ref t :: st)) : KW p l e R s m args below meth c cells slots Q D A ct a nL M pc lv st := fun H locs ls hP hS hl => by
  obtain ⟨t, h1, h2⟩ := C.2.2.2.2.1
  exact va_gets C.1.1 C.1.2.1 h1 hS C.1.2.2.2.1 (C.1.2.2.2.2 _ hm) (fun _ h => h) hd (kk t h2 H locs ls hP hS hl)
theorem q_kald {t : Nat} {i : Int32} (C : Cx p s m args meth c cc nL own ret D A ct a) (ht : va_T .int t 4 (fun j => .int (kinds j)) A s s.heap) (hin : vp_in i 4) (hd : decode cc pc = .ok (.iaload, 1)) (kk : KW p l e R s m args below meth c cells slots Q D A ct a nL M (pc + 1) lv (.int (kinds i.toNatClampNeg) :: st)) : KW p l e R s m args below meth c cells slots Q D A ct a nL M pc lv (.int i :: .ref t :: st) := fun H locs ls hP hS hl =>
  va_ti C.1.1 C.1.2.1 ht hS hin rfl hd (kk H locs ls hP hS hl)
end LY2
/-! contracts -/
def PW (D : va_G) (ct : Nat → ClassId) (a : Nat → Nat) (M : Mm) (sz : Nat) (U : State) : Prop := U.heap.size = sz ∧ va_P D vwCl (wd ct a M) U.heap ∧ va_K D vwCl (tyl ct) U ∧ wdD (fun _ => True) a ∧ Kd (Aa a sz) U U.heap ∧ NW U
abbrev QcI (D : va_G) (A : Nat → Prop) (ct : Nat → ClassId) (a : Nat → Nat) (r : Int32) (M' : Mm) : Array Value → State → Outcome → State → Prop := va_Qi (fun (r' : Int32) (u : Mm) => r' = r ∧ u = M') (fun u t => va_P D vwCl (wd ct a u) t.heap) A
abbrev QcJ (D : va_G) (A : Nat → Prop) (ct : Nat → ClassId) (a : Nat → Nat) (r : Int64) (M' : Mm) : Array Value → State → Outcome → State → Prop := va_Ql (fun (r' : Int64) (u : Mm) => r' = r ∧ u = M') (fun u t => va_P D vwCl (wd ct a u) t.heap) A
abbrev QcV (D : va_G) (A : Nat → Prop) (ct : Nat → ClassId) (a : Nat → Nat) (M' : Mm) : Array Value → State → Outcome → State → Prop := va_Qv (fun (u : Mm) => u = M') (fun u t => va_P D vwCl (wd ct a u) t.heap) A
def MI (y : MethodName) (cc : ByteArray) (nL : Nat) (ret : Option FieldType) (fr lo : Nat) (as : (Nat → Nat) → List Value) (M : Mm) (r : Int32) (M' : Mm) : Prop :=
  ∀ (l : Launch) (D : va_G) (ct : Nat → ClassId) (a : Nat → Nat) (sz : Nat), Met l y (.code y cc nL ret :: tbw) { frames := fr, cells := 0, slots := 0, locals := lo } (va_Pc (as a) (PW D ct a M sz)) (QcI D (Aa a sz) ct a r M') 0 0 (Aa a sz)
def MJ (y : MethodName) (cc : ByteArray) (nL : Nat) (ret : Option FieldType) (fr lo : Nat) (as : (Nat → Nat) → List Value) (M : Mm) (r : Int64) (M' : Mm) : Prop :=
  ∀ (l : Launch) (D : va_G) (ct : Nat → ClassId) (a : Nat → Nat) (sz : Nat), Met l y (.code y cc nL ret :: tbw) { frames := fr, cells := 0, slots := 0, locals := lo } (va_Pc (as a) (PW D ct a M sz)) (QcJ D (Aa a sz) ct a r M') 0 0 (Aa a sz)
def MV (y : MethodName) (cc : ByteArray) (nL : Nat) (ret : Option FieldType) (fr lo : Nat) (as : (Nat → Nat) → List Value) (M : Mm) (M' : Mm) : Prop :=
  ∀ (l : Launch) (D : va_G) (ct : Nat → ClassId) (a : Nat → Nat) (sz : Nat), Met l y (.code y cc nL ret :: tbw) { frames := fr, cells := 0, slots := 0, locals := lo } (va_Pc (as a) (PW D ct a M sz)) (QcV D (Aa a sz) ct a M') 0 0 (Aa a sz)
theorem nws_shape : ∀ w ∈ nws, ∃ c i x h, w = .methodLinkNest c i x h := by
  intro w hw
  simp only [nws, List.mem_cons, List.not_mem_nil, or_false] at hw
  rcases hw with rfl | rfl | rfl | rfl | rfl <;> exact ⟨_, _, _, _, rfl⟩
theorem NW.warm {s U : State} (hW : s.WarmedH U.vm) (h : NW s) : NW U := fun w hw => by
  obtain ⟨c, i, x, q, rfl⟩ := nws_shape w hw
  exact (h _ hw).warmM hW
theorem NW.same {s U : State} (hv : s.vm = U.vm) (h : NW s) : NW U := fun w hw => by
  obtain ⟨c, i, x, q, rfl⟩ := nws_shape w hw
  exact (h _ hw).same rfl hv
theorem Kd.moved {A : Nat → Prop} {u U : State} {H : Heap} (hvm : u.vm.Alike U.vm) (h : Kd A u H) : Kd A U H := by
  obtain ⟨t, h1, h2⟩ := h
  exact ⟨t, h1.moved hvm, h2.moved hvm⟩
theorem Kd.kept {A : Nat → Prop} {U : State} {H H1 : Heap} (h : Kd A U H) (hq : ∀ a : Nat, a < H.size → ¬ A a → H1[a]? = H[a]?) : Kd A U H1 := by
  obtain ⟨t, h1, h2⟩ := h
  exact ⟨t, h1.kept hq, h2.kept hq⟩
theorem Kd.narrow {A B : Nat → Prop} {U : State} {H : Heap} (h : Kd A U H) (hAB : ∀ q, B q → A q) : Kd B U H := by
  obtain ⟨t, h1, h2⟩ := h
  exact ⟨t, h1.narrow hAB, h2.narrow hAB⟩
theorem PW_blind {D : va_G} {ct : Nat → ClassId} {a : Nat → Nat} {M : Mm} {sz : Nat} {as : List Value} : FrameBlind (va_Pc as (PW D ct a M sz)) := fun v U g mk q => by
  obtain ⟨q0, q1, q2, q3, q4, q5, q6⟩ := q
  exact ⟨q0, q1, q2, va_K.moved (u := U) (U := U.calling g mk v) (Vm.Alike.refl U.vm) q3, q4, q5.moved (U := U.calling g mk v) (Vm.Alike.refl U.vm), NW.same (s := U) (U := U.calling g mk v) rfl q6⟩
section LY3
variable {p : Program} {l : Launch} {e : Env} {R : Room} {s : State} {m : MethodId} {args : Array Value} {below : List Frame} {meth : Method} {c : Code} {cells slots : Nat} {Q : State → Prop} {D : va_G} {A : Nat → Prop} {ct : Nat → ClassId} {a : Nat → Nat} {nL : Nat} {M M' : Mm} {pc : Nat} {lv : List (Option Value)} {st : List Value} {cc : ByteArray} {own : String} {ret : Option FieldType}
theorem Cx.pre (C : Cx p s m args meth c cc nL own ret D A ct a) {H : Heap} {locs : List Loc} (hP : va_P D vwCl (wd ct a M) H) (hS : va_S A s.heap H locs) {U : State} (hU : U.heap = H) (hW : s.WarmedH U.vm) : PW D ct a M H.size U := by
  obtain ⟨-, hK, hD, hA, hKd, hN, -, -⟩ := C
  refine ⟨by rw [hU], by rw [hU]; exact hP, hK.moved hW.alike, ⟨hD.1, fun _ _ => trivial⟩, ?_, hN.warm hW⟩
  rw [hU]
  refine ((hKd.moved hW.alike).kept (H1 := H) (fun q h1 h2 => hS.2.1 q h1 h2)).narrow (fun q hq => ?_)
  rcases hq with ⟨k, hk, rfl⟩ | hq
  · exact hD.2 k hk
  · exact hA q (Nat.le_trans hS.1 hq)
theorem Cx.freeA (C : Cx p s m args meth c cc nL own ret D A ct a) {H : Heap} {locs : List Loc} (hS : va_S A s.heap H locs) : ∀ q, Aa a H.size q → A q := fun q hq => by
  rcases hq with ⟨k, hk, rfl⟩ | hq
  · exact C.2.2.1.2 k hk
  · exact C.2.2.2.1 q (Nat.le_trans hS.1 hq)
def cwB (own : String) (idx : Nat) (y : MethodName) (bytes : ByteArray) (maxL : Nat) (ret : Option FieldType) (n : Nat) : Prop := (Cond.methodLink own idx y ∈ tbw ∧ Cond.code y bytes maxL ret ∈ tbw ∧ Cond.initialized y.cls ∈ tbw) ∧ (y.cls ≠ "java/lang/invoke/MethodHandle" ∧ y.cls ≠ "java/lang/invoke/VarHandle" ∧ (parseMethodDescriptor y.desc).map (fun d => d.parameters.length) = some n)
def cwV' (own : String) (idx : Nat) (y : MethodName) (bytes : ByteArray) (maxL : Nat) (ret : Option FieldType) (n : Nat) : Prop := cwB own idx y bytes maxL ret n ∧ Cond.instanceMethod y ∈ tbw ∧ Cond.selects y.cls y y ∈ tbw
def cwS' (own : String) (idx : Nat) (y : MethodName) (bytes : ByteArray) (maxL : Nat) (ret : Option FieldType) (n : Nat) : Prop := cwB own idx y bytes maxL ret n ∧ Cond.static y ∈ tbw
theorem good_tbw {y : MethodName} {bytes : ByteArray} {maxL : Nat} {ret : Option FieldType} (h : Cond.code y bytes maxL ret ∈ tbw) : GoodIn tbw (Cond.code y bytes maxL ret :: tbw) := fun w hw => by
  have h' : w ∈ tbw := (List.mem_cons.mp hw).elim (fun e => e ▸ h) id
  exact ⟨h', good_of_word (tbw_good h')⟩
theorem cwB.use {own : String} {idx : Nat} {y : MethodName} {bytes : ByteArray} {maxL n fr lo : Nat} {ret : Option FieldType} (h : cwB own idx y bytes maxL ret n) (hts : ∀ w ∈ tbw, w.before args s = true) (hR : fr + 1 ≤ R.frames ∧ 8 + (maxL + 11) + lo ≤ R.locals) : CallB R s args own idx y bytes maxL ret (.code y bytes maxL ret :: tbw) { frames := fr, cells := 0, slots := 0, locals := lo } 0 0 n :=
  callB_of (ws' := tbw) n hts (good_tbw h.1.2.1) rfl rfl rfl (hts _ h.1.2.2) (hts _ h.1.1) h.2 hR
theorem qc_VI {y : MethodName} {bytes : ByteArray} {maxL n fr lo k0 ci idx : Nat} {fs : List Nat} {ret2 : Option FieldType} {as : (Nat → Nat) → List Value} {r : Int32} {stk : List Value} (C : Cx p s m args meth c cc nL own ret D A ct a) (hM : MI y bytes maxL ret2 fr lo (fun a => .ref (a k0) :: as a) M r M') (cw : cwV' own idx y bytes maxL ret2 n) (hs : SH[k0]? = some (.inl (ci, fs))) (hc : vwCl[ci]?.map (fun q => q.1) = some y.cls) (hn : (as a).length = n) (hst : stk = (as a).reverse ++ .ref (a k0) :: st) (hw : (st.map fun v => v.category).sum ≤ 8) (hR : fr + 1 ≤ R.frames ∧ 8 + (maxL + 11) + lo ≤ R.locals) (hcs : cells ≤ R.cells ∧ slots ≤ R.slots) (hd : decode cc pc = .ok (.invokevirtual idx, 3)) (kk : KW p l e R s m args below meth c cells slots Q D A ct a nL M' (pc + 3) lv (.int r :: st)) : KW p l e R s m args below meth c cells slots Q D A ct a nL M pc lv stk := fun H locs ls hP hS hl => by
  subst hst
  obtain ⟨q, hq1, hq2⟩ : ∃ q, vwCl[ci]? = some q ∧ q.1 = y.cls := by
    cases hv : vwCl[ci]? with
    | none => rw [hv] at hc; cases hc
    | some q => rw [hv] at hc; exact ⟨q, rfl, Option.some.inj hc⟩
  have hrecv := va_recv (C.2.1) hP hq1 (wd_get (ct := ct) (a := a) (M := M) hs)
  rw [hq2] at hrecv
  refine va_calli (va_runV (C := y.cls) (As := as a) (rest := st) C.1 (hM l D ct a H.size) ⟨cw.1.use C.1.2.2.2.2 hR, C.1.2.2.2.2 _ cw.2.1, C.1.2.2.2.2 _ cw.2.2⟩ ⟨PW_blind, hrecv, fun U hU hW => ⟨rfl, C.pre hP hS hU hW⟩⟩ rfl hn hl.1 rfl (lv_room hw) hd ⟨hcs.1, hcs.2⟩) hS (fun q _ h => C.freeA hS q h) (C.freeA hS) (fun r' u t H1 locs1 ht hvm hpost hB hz hk hS1 => ?_)
  obtain ⟨rfl, rfl⟩ := hpost
  rw [ht] at hB
  exact kk H1 locs1 ls hB hS1 hl
theorem qc_SI {y : MethodName} {bytes : ByteArray} {maxL n fr lo idx : Nat} {ret2 : Option FieldType} {as : (Nat → Nat) → List Value} {r : Int32} {stk : List Value} (C : Cx p s m args meth c cc nL own ret D A ct a) (hM : MI y bytes maxL ret2 fr lo as M r M') (cw : cwS' own idx y bytes maxL ret2 n) (hn : (as a).length = n) (hst : stk = (as a).reverse ++ st) (hw : (st.map fun v => v.category).sum ≤ 8) (hR : fr + 1 ≤ R.frames ∧ 8 + (maxL + 11) + lo ≤ R.locals) (hcs : cells ≤ R.cells ∧ slots ≤ R.slots) (hd : decode cc pc = .ok (.invokestatic idx, 3)) (kk : KW p l e R s m args below meth c cells slots Q D A ct a nL M' (pc + 3) lv (.int r :: st)) : KW p l e R s m args below meth c cells slots Q D A ct a nL M pc lv stk := fun H locs ls hP hS hl => by
  subst hst
  refine va_calli (va_runS (As := as a) (rest := st) C.1 (hM l D ct a H.size) ⟨cw.1.use C.1.2.2.2.2 hR, C.1.2.2.2.2 _ cw.2⟩ ⟨PW_blind, fun U hU hW => ⟨rfl, C.pre hP hS hU hW⟩⟩ rfl hn hl.1 rfl (lv_room hw) hd ⟨hcs.1, hcs.2⟩) hS (fun q _ h => C.freeA hS q h) (C.freeA hS) (fun r' u t H1 locs1 ht hvm hpost hB hz hk hS1 => ?_)
  obtain ⟨rfl, rfl⟩ := hpost
  rw [ht] at hB
  exact kk H1 locs1 ls hB hS1 hl
theorem qc_VJ {y : MethodName} {bytes : ByteArray} {maxL n fr lo k0 ci idx : Nat} {fs : List Nat} {ret2 : Option FieldType} {as : (Nat → Nat) → List Value} {r : Int64} {stk : List Value} (C : Cx p s m args meth c cc nL own ret D A ct a) (hM : MJ y bytes maxL ret2 fr lo (fun a => .ref (a k0) :: as a) M r M') (cw : cwV' own idx y bytes maxL ret2 n) (hs : SH[k0]? = some (.inl (ci, fs))) (hc : vwCl[ci]?.map (fun q => q.1) = some y.cls) (hn : (as a).length = n) (hst : stk = (as a).reverse ++ .ref (a k0) :: st) (hw : (st.map fun v => v.category).sum ≤ 8) (hR : fr + 1 ≤ R.frames ∧ 8 + (maxL + 11) + lo ≤ R.locals) (hcs : cells ≤ R.cells ∧ slots ≤ R.slots) (hd : decode cc pc = .ok (.invokevirtual idx, 3)) (kk : KW p l e R s m args below meth c cells slots Q D A ct a nL M' (pc + 3) lv (.long r :: st)) : KW p l e R s m args below meth c cells slots Q D A ct a nL M pc lv stk := fun H locs ls hP hS hl => by
  subst hst
  obtain ⟨q, hq1, hq2⟩ : ∃ q, vwCl[ci]? = some q ∧ q.1 = y.cls := by
    cases hv : vwCl[ci]? with
    | none => rw [hv] at hc; cases hc
    | some q => rw [hv] at hc; exact ⟨q, rfl, Option.some.inj hc⟩
  have hrecv := va_recv (C.2.1) hP hq1 (wd_get (ct := ct) (a := a) (M := M) hs)
  rw [hq2] at hrecv
  refine va_calll (va_runV (C := y.cls) (As := as a) (rest := st) C.1 (hM l D ct a H.size) ⟨cw.1.use C.1.2.2.2.2 hR, C.1.2.2.2.2 _ cw.2.1, C.1.2.2.2.2 _ cw.2.2⟩ ⟨PW_blind, hrecv, fun U hU hW => ⟨rfl, C.pre hP hS hU hW⟩⟩ rfl hn hl.1 rfl (lv_room hw) hd ⟨hcs.1, hcs.2⟩) hS (fun q _ h => C.freeA hS q h) (C.freeA hS) (fun r' u t H1 locs1 ht hvm hpost hB hz hk hS1 => ?_)
  obtain ⟨rfl, rfl⟩ := hpost
  rw [ht] at hB
  exact kk H1 locs1 ls hB hS1 hl
theorem qc_SJ {y : MethodName} {bytes : ByteArray} {maxL n fr lo idx : Nat} {ret2 : Option FieldType} {as : (Nat → Nat) → List Value} {r : Int64} {stk : List Value} (C : Cx p s m args meth c cc nL own ret D A ct a) (hM : MJ y bytes maxL ret2 fr lo as M r M') (cw : cwS' own idx y bytes maxL ret2 n) (hn : (as a).length = n) (hst : stk = (as a).reverse ++ st) (hw : (st.map fun v => v.category).sum ≤ 8) (hR : fr + 1 ≤ R.frames ∧ 8 + (maxL + 11) + lo ≤ R.locals) (hcs : cells ≤ R.cells ∧ slots ≤ R.slots) (hd : decode cc pc = .ok (.invokestatic idx, 3)) (kk : KW p l e R s m args below meth c cells slots Q D A ct a nL M' (pc + 3) lv (.long r :: st)) : KW p l e R s m args below meth c cells slots Q D A ct a nL M pc lv stk := fun H locs ls hP hS hl => by
  subst hst
  refine va_calll (va_runS (As := as a) (rest := st) C.1 (hM l D ct a H.size) ⟨cw.1.use C.1.2.2.2.2 hR, C.1.2.2.2.2 _ cw.2⟩ ⟨PW_blind, fun U hU hW => ⟨rfl, C.pre hP hS hU hW⟩⟩ rfl hn hl.1 rfl (lv_room hw) hd ⟨hcs.1, hcs.2⟩) hS (fun q _ h => C.freeA hS q h) (C.freeA hS) (fun r' u t H1 locs1 ht hvm hpost hB hz hk hS1 => ?_)
  obtain ⟨rfl, rfl⟩ := hpost
  rw [ht] at hB
  exact kk H1 locs1 ls hB hS1 hl
theorem qc_VV {y : MethodName} {bytes : ByteArray} {maxL n fr lo k0 ci idx : Nat} {fs : List Nat} {ret2 : Option FieldType} {as : (Nat → Nat) → List Value} {stk : List Value} (C : Cx p s m args meth c cc nL own ret D A ct a) (hM : MV y bytes maxL ret2 fr lo (fun a => .ref (a k0) :: as a) M  M') (cw : cwV' own idx y bytes maxL ret2 n) (hs : SH[k0]? = some (.inl (ci, fs))) (hc : vwCl[ci]?.map (fun q => q.1) = some y.cls) (hn : (as a).length = n) (hst : stk = (as a).reverse ++ .ref (a k0) :: st) (hw : (st.map fun v => v.category).sum ≤ 8) (hR : fr + 1 ≤ R.frames ∧ 8 + (maxL + 11) + lo ≤ R.locals) (hcs : cells ≤ R.cells ∧ slots ≤ R.slots) (hd : decode cc pc = .ok (.invokevirtual idx, 3)) (kk : KW p l e R s m args below meth c cells slots Q D A ct a nL M' (pc + 3) lv (st)) : KW p l e R s m args below meth c cells slots Q D A ct a nL M pc lv stk := fun H locs ls hP hS hl => by
  subst hst
  obtain ⟨q, hq1, hq2⟩ : ∃ q, vwCl[ci]? = some q ∧ q.1 = y.cls := by
    cases hv : vwCl[ci]? with
    | none => rw [hv] at hc; cases hc
    | some q => rw [hv] at hc; exact ⟨q, rfl, Option.some.inj hc⟩
  have hrecv := va_recv (C.2.1) hP hq1 (wd_get (ct := ct) (a := a) (M := M) hs)
  rw [hq2] at hrecv
  refine va_callv (va_runV (C := y.cls) (As := as a) (rest := st) C.1 (hM l D ct a H.size) ⟨cw.1.use C.1.2.2.2.2 hR, C.1.2.2.2.2 _ cw.2.1, C.1.2.2.2.2 _ cw.2.2⟩ ⟨PW_blind, hrecv, fun U hU hW => ⟨rfl, C.pre hP hS hU hW⟩⟩ rfl hn hl.1 rfl (lv_room hw) hd ⟨hcs.1, hcs.2⟩) hS (fun q _ h => C.freeA hS q h) (C.freeA hS) (fun u t H1 locs1 ht hvm hpost hB hz hk hS1 => ?_)
  subst hpost
  rw [ht] at hB
  exact kk H1 locs1 ls hB hS1 hl
theorem qc_SV {y : MethodName} {bytes : ByteArray} {maxL n fr lo idx : Nat} {ret2 : Option FieldType} {as : (Nat → Nat) → List Value} {stk : List Value} (C : Cx p s m args meth c cc nL own ret D A ct a) (hM : MV y bytes maxL ret2 fr lo as M  M') (cw : cwS' own idx y bytes maxL ret2 n) (hn : (as a).length = n) (hst : stk = (as a).reverse ++ st) (hw : (st.map fun v => v.category).sum ≤ 8) (hR : fr + 1 ≤ R.frames ∧ 8 + (maxL + 11) + lo ≤ R.locals) (hcs : cells ≤ R.cells ∧ slots ≤ R.slots) (hd : decode cc pc = .ok (.invokestatic idx, 3)) (kk : KW p l e R s m args below meth c cells slots Q D A ct a nL M' (pc + 3) lv (st)) : KW p l e R s m args below meth c cells slots Q D A ct a nL M pc lv stk := fun H locs ls hP hS hl => by
  subst hst
  refine va_callv (va_runS (As := as a) (rest := st) C.1 (hM l D ct a H.size) ⟨cw.1.use C.1.2.2.2.2 hR, C.1.2.2.2.2 _ cw.2⟩ ⟨PW_blind, fun U hU hW => ⟨rfl, C.pre hP hS hU hW⟩⟩ rfl hn hl.1 rfl (lv_room hw) hd ⟨hcs.1, hcs.2⟩) hS (fun q _ h => C.freeA hS q h) (C.freeA hS) (fun u t H1 locs1 ht hvm hpost hB hz hk hS1 => ?_)
  subst hpost
  rw [ht] at hB
  exact kk H1 locs1 ls hB hS1 hl
theorem qc_NJ {y : MethodName} {bytes : ByteArray} {maxL n fr lo idx : Nat} {ret2 : Option FieldType} {host : String} {as : (Nat → Nat) → List Value} {r : Int64} {stk : List Value} (C : Cx p s m args meth c cc nL own ret D A ct a) (hM : MJ y bytes maxL ret2 fr lo as M r M') (hl0 : Cond.methodLinkNest own idx y host ∈ nws) (hcd : Cond.code y bytes maxL ret2 ∈ tbw) (hsta : Cond.static y ∈ tbw) (hini : Cond.initialized y.cls ∈ tbw) (hdy : y.cls ≠ "java/lang/invoke/MethodHandle" ∧ y.cls ≠ "java/lang/invoke/VarHandle" ∧ (parseMethodDescriptor y.desc).map (fun d => d.parameters.length) = some n) (hn : (as a).length = n) (hst : stk = (as a).reverse ++ st) (hw : (st.map fun v => v.category).sum ≤ 8) (hR : fr + 1 ≤ R.frames ∧ 8 + (maxL + 11) + lo ≤ R.locals) (hcs : cells ≤ R.cells ∧ slots ≤ R.slots) (hd : decode cc pc = .ok (.invokestatic idx, 3)) (kk : KW p l e R s m args below meth c cells slots Q D A ct a nL M' (pc + 3) lv (.long r :: st)) : KW p l e R s m args below meth c cells slots Q D A ct a nL M pc lv stk := fun H locs ls hP hS hl => by
  subst hst
  refine va_calll (va_runSN (As := as a) (rest := st) C.1 (hM l D ct a H.size) ⟨va_cnB (ws' := tbw) n C.1.2.2.2.2 (good_tbw hcd) rfl rfl rfl (C.2.2.2.2.2.1 _ hl0) (C.1.2.2.2.2 _ hini) hdy hR, C.1.2.2.2.2 _ hsta, trivial⟩ ⟨PW_blind, fun U hU hW => ⟨rfl, C.pre hP hS hU hW⟩⟩ rfl hn hl.1 rfl (lv_room hw) hd ⟨hcs.1, hcs.2⟩) hS (fun q _ h => C.freeA hS q h) (C.freeA hS) (fun r' u t H1 locs1 ht hvm hpost hB hz hk hS1 => ?_)
  obtain ⟨rfl, rfl⟩ := hpost
  rw [ht] at hB
  exact kk H1 locs1 ls hB hS1 hl
theorem qc_mmax {idx : Nat} {x y : Int32} (C : Cx p s m args meth c cc nL own ret D A ct a) (h1 : Cond.methodLink own idx Lib.Math.max.name ∈ tbw) (h2 : Cond.static Lib.Math.max.name ∈ tbw) (h3 : Cond.initialized "java/lang/Math" ∈ tbw) (h4 : Cond.code Lib.Math.max.name Lib.Math.max.code 2 (some .int) ∈ tbw) (hR : 1 ≤ R.frames ∧ (st.map fun v => v.category).sum + 13 ≤ R.locals) (hcs : cells ≤ R.cells ∧ slots ≤ R.slots) (hd : decode cc pc = .ok (.invokestatic idx, 3)) (kk : KW p l e R s m args below meth c cells slots Q D A ct a nL M (pc + 3) lv (.int (if x < y then y else x) :: st)) : KW p l e R s m args below meth c cells slots Q D A ct a nL M pc lv (.int y :: .int x :: st) := fun H locs ls hP hS hl =>
  va_mmax C.1.1 C.1.2.1 (by rw [C.1.2.2.1, hl.1]) C.1.2.2.2.1 (C.1.2.2.2.2 _ h1) (C.1.2.2.2.2 _ h2) (C.1.2.2.2.2 _ h3) (C.1.2.2.2.2 _ h4) hR.1 hR.2 hcs.1 hcs.2 hd (kk H locs ls hP hS hl)
theorem qc_mmin {idx : Nat} {x y : Int32} (C : Cx p s m args meth c cc nL own ret D A ct a) (h1 : Cond.methodLink own idx Lib.Math.min.name ∈ tbw) (h2 : Cond.static Lib.Math.min.name ∈ tbw) (h3 : Cond.initialized "java/lang/Math" ∈ tbw) (h4 : Cond.code Lib.Math.min.name Lib.Math.min.code 2 (some .int) ∈ tbw) (hR : 1 ≤ R.frames ∧ (st.map fun v => v.category).sum + 13 ≤ R.locals) (hcs : cells ≤ R.cells ∧ slots ≤ R.slots) (hd : decode cc pc = .ok (.invokestatic idx, 3)) (kk : KW p l e R s m args below meth c cells slots Q D A ct a nL M (pc + 3) lv (.int (if y < x then y else x) :: st)) : KW p l e R s m args below meth c cells slots Q D A ct a nL M pc lv (.int y :: .int x :: st) := fun H locs ls hP hS hl =>
  va_mmin C.1.1 C.1.2.1 (by rw [C.1.2.2.1, hl.1]) C.1.2.2.2.1 (C.1.2.2.2.2 _ h1) (C.1.2.2.2.2 _ h2) (C.1.2.2.2.2 _ h3) (C.1.2.2.2.2 _ h4) hR.1 hR.2 hcs.1 hcs.2 hd (kk H locs ls hP hS hl)
theorem qc_mabs {idx : Nat} {x : Int32} (C : Cx p s m args meth c cc nL own ret D A ct a) (h1 : Cond.methodLink own idx Lib.Math.abs.name ∈ tbw) (h2 : Cond.static Lib.Math.abs.name ∈ tbw) (h3 : Cond.initialized "java/lang/Math" ∈ tbw) (h4 : Cond.code Lib.Math.abs.name Lib.Math.abs.code 1 (some .int) ∈ tbw) (hR : 1 ≤ R.frames ∧ (st.map fun v => v.category).sum + 13 ≤ R.locals) (hcs : cells ≤ R.cells ∧ slots ≤ R.slots) (hd : decode cc pc = .ok (.invokestatic idx, 3)) (kk : KW p l e R s m args below meth c cells slots Q D A ct a nL M (pc + 3) lv (.int (if 0 ≤ x then x else 0 - x) :: st)) : KW p l e R s m args below meth c cells slots Q D A ct a nL M pc lv (.int x :: st) := fun H locs ls hP hS hl =>
  va_mabs C.1.1 C.1.2.1 (by rw [C.1.2.2.1, hl.1]) C.1.2.2.2.1 (C.1.2.2.2.2 _ h1) (C.1.2.2.2.2 _ h2) (C.1.2.2.2.2 _ h3) (C.1.2.2.2.2 _ h4) hR.1 (by have := hR.2; omega) hcs.1 hcs.2 hd (kk H locs ls hP hS hl)
theorem qc_mminL {idx : Nat} {x y : Int64} (C : Cx p s m args meth c cc nL own ret D A ct a) (h1 : Cond.methodLink own idx Lib.MathLoose.min_long.x ∈ tbw) (h2 : Cond.static Lib.MathLoose.min_long.x ∈ tbw) (h3 : Cond.initialized "java/lang/Math" ∈ tbw) (h4 : Cond.code Lib.MathLoose.min_long.x Lib.MathLoose.min_long.code 4 (some .long) ∈ tbw) (hR : 1 ≤ R.frames ∧ (st.map fun v => v.category).sum + 15 ≤ R.locals) (hcs : cells ≤ R.cells ∧ slots ≤ R.slots) (hd : decode cc pc = .ok (.invokestatic idx, 3)) (kk : KW p l e R s m args below meth c cells slots Q D A ct a nL M (pc + 3) lv (.long (if y < x then y else x) :: st)) : KW p l e R s m args below meth c cells slots Q D A ct a nL M pc lv (.long y :: .long x :: st) := fun H locs ls hP hS hl =>
  va_mmin_long C.1.1 C.1.2.1 (by rw [C.1.2.2.1, hl.1]) C.1.2.2.2.1 (C.1.2.2.2.2 _ h1) (C.1.2.2.2.2 _ h2) (C.1.2.2.2.2 _ h3) (C.1.2.2.2.2 _ h4) hR.1 hR.2 hcs.1 hcs.2 hd (kk H locs ls hP hS hl)
theorem qc_copy {idx k0 k1 n0 n1 r0 r1 : Nat} {sp dp n : Int32} (C : Cx p s m args meth c cc nL own ret D A ct a) (hs0 : SH[k0]? = some (.inr (0, n0, r0))) (hs1 : SH[k1]? = some (.inr (0, n1, r1))) (g1 : Cond.methodLink own idx arraycopyName ∈ tbw) (g2 : Cond.native arraycopyName ∈ lw_tbl) (g2' : (Cond.native arraycopyName).before args s = true) (g3 : Cond.static arraycopyName ∈ tbw) (g4 : Cond.initialized "java/lang/System" ∈ tbw) (h1 : ¬ sp < 0) (h2 : ¬ dp < 0) (h3 : ¬ n < 0) (h4 : sp.toNatClampNeg + n.toNatClampNeg ≤ n0) (h5 : dp.toNatClampNeg + n.toNatClampNeg ≤ n1) (hR : 1 ≤ R.frames ∧ (st.map fun v => v.category).sum + (nativeFrameWords "java/lang/System" "arraycopy" 5 + 11) ≤ R.locals) (hd : decode cc pc = .ok (.invokestatic idx, 3)) (kk : KW p l e R s m args below meth c cells slots Q D A ct a nL (sA M k1 (va_cpy (gI M k0) (gI M k1) sp.toNatClampNeg dp.toNatClampNeg n.toNatClampNeg)) (pc + 3) lv st) : KW p l e R s m args below meth c cells slots Q D A ct a nL M pc lv (.int n :: .int dp :: .ref (a k1) :: .int sp :: .ref (a k0) :: st) := fun H locs ls hP hS hl => by
  refine va_copyi (f := gI M k0) (g := gI M k1) (ty := .int) C.1.1 C.1.2.1 (by rw [C.1.2.2.1, hl.1]) C.1.2.2.2.1 (C.1.2.2.2.2 _ g1) g2' (C.1.2.2.2.2 _ g3) (C.1.2.2.2.2 _ g4) C.2.1 hP (C.2.2.1.toD ct M) hS k0 k1 0 0 (wd_get hs0) (wd_get hs1) rfl rfl rfl h1 h2 h3 h4 h5 (fun _ _ => rfl) hR.1 hR.2 hd (fun H1 locs1 hP1 hD1 hS1 => ?_)
  have e0 : va_cpy (gI M k0) (gI M k1) sp.toNatClampNeg dp.toNatClampNeg n.toNatClampNeg = gI (sA M k1 (va_cpy (gI M k0) (gI M k1) sp.toNatClampNeg dp.toNatClampNeg n.toNatClampNeg)) k1 := by funext j; simp [gI_sA]
  rw [e0] at hP1
  have e := wd_set (ct := ct) (a := a) (M := M) (M' := sA M k1 (va_cpy (gI M k0) (gI M k1) sp.toNatClampNeg dp.toNatClampNeg n.toNatClampNeg)) hs1 (fun i j' h => by simp [gI_sA, h]) (fun i j' h => rfl)
  exact kk H1 locs1 ls (by rw [← e]; exact hP1) hS1 hl
theorem q_iret {v r : Int32} (C : Cx p s m args meth c cc nL own (some .int) D A ct a)  (h1 : v = r) (h2 : M = M') (hd : decode cc pc = .ok (.ireturn, 1)) : KW p l e R s m args below meth c 0 0 (MQ below (QcI D A ct a r M') args s 0 0 A) D A ct a nL M pc lv [.int v] := fun H locs ls hP hS hl => by
  subst h1
  subst h2
  exact W.iret (v := v) C.1.1 C.1.2.1 C.2.2.2.2.2.2.2  (fun t ht hW => ⟨⟨v, M, rfl, ⟨rfl, rfl⟩, by show va_P D vwCl (wd ct a M) t.heap; rw [ht]; exact hP⟩, hS.F ht⟩) hS.2.2 hd C.2.2.2.2.2.2.1
theorem q_zret {v r : Int32} (C : Cx p s m args meth c cc nL own (some .boolean) D A ct a) (hn : narrow .boolean (.int v) = .int v) (h1 : v = r) (h2 : M = M') (hd : decode cc pc = .ok (.ireturn, 1)) : KW p l e R s m args below meth c 0 0 (MQ below (QcI D A ct a r M') args s 0 0 A) D A ct a nL M pc lv [.int v] := fun H locs ls hP hS hl => by
  subst h1
  subst h2
  exact W.zret (v := v) C.1.1 C.1.2.1 C.2.2.2.2.2.2.2 hn (fun t ht hW => ⟨⟨v, M, rfl, ⟨rfl, rfl⟩, by show va_P D vwCl (wd ct a M) t.heap; rw [ht]; exact hP⟩, hS.F ht⟩) hS.2.2 hd C.2.2.2.2.2.2.1
theorem q_lret {v r : Int64} (C : Cx p s m args meth c cc nL own (some .long) D A ct a)  (h1 : v = r) (h2 : M = M') (hd : decode cc pc = .ok (.lreturn, 1)) : KW p l e R s m args below meth c 0 0 (MQ below (QcJ D A ct a r M') args s 0 0 A) D A ct a nL M pc lv [.long v] := fun H locs ls hP hS hl => by
  subst h1
  subst h2
  exact W.lret (v := v) C.1.1 C.1.2.1 C.2.2.2.2.2.2.2  (fun t ht hW => ⟨⟨v, M, rfl, ⟨rfl, rfl⟩, by show va_P D vwCl (wd ct a M) t.heap; rw [ht]; exact hP⟩, hS.F ht⟩) hS.2.2 hd C.2.2.2.2.2.2.1
theorem q_vret (C : Cx p s m args meth c cc nL own none D A ct a) (h2 : M = M') (hd : decode cc pc = .ok (.return_, 1)) : KW p l e R s m args below meth c 0 0 (MQ below (QcV D A ct a M') args s 0 0 A) D A ct a nL M pc lv [] := fun H locs ls hP hS hl => by
  subst h2
  exact W.vret C.1.1 C.1.2.1 C.2.2.2.2.2.2.2 (fun t ht hW => ⟨⟨M, rfl, rfl, by show va_P D vwCl (wd ct a M) t.heap; rw [ht]; exact hP⟩, hS.F ht⟩) hS.2.2 hd C.2.2.2.2.2.2.1
end LY3
theorem MI.intro {y : MethodName} {cc : ByteArray} {nL fr lo : Nat} {ret : Option FieldType} {as : (Nat → Nat) → List Value} {M M' : Mm} {r : Int32} {lv0 : (Nat → Nat) → List (Option Value)} (hy : plainName y.cls = true) (hlv : ∀ a, (lg_sl (as a)).length ≤ nL ∧ lvA (as a) ++ List.replicate (nL - (lvA (as a)).length) none = lv0 a)
    (body : ∀ (p : Program) (l : Launch) (e : Env) (s : State) (m : MethodId) (args : Array Value) (below : List Frame) (meth : Method) (c : Code) (D : va_G) (A : Nat → Prop) (ct : Nat → ClassId) (a : Nat → Nat), Cx p s m args meth c cc nL y.cls ret D A ct a → KW p l e { frames := fr, cells := 0, slots := 0, locals := lo } s m args below meth c 0 0 (MQ below (QcI D A ct a r M') args s 0 0 A) D A ct a nL M 0 (lv0 a) []) : MI y cc nL ret fr lo as M r M' := by
  intro l D ct a sz
  refine Met.ofW (cc := cc) (maxL := nL) (ret := ret) hy rfl ?_
  intro p e s m args below meth c s₁ B hml hv
  obtain ⟨rfl, hsz, hP, hK, hD0, hKd, hN⟩ := hv
  subst hsz
  have hts := atoms_spec (ws := .code y cc nL ret :: tbw) B.pre
  have hown : s.vm.findClass y.cls = some m.cls := findClass_of_methodNamed B.named
  have C : Cx p s m (as a).toArray meth c cc nL y.cls ret D (Aa a s.heap.size) ct a := ⟨⟨B.exec, B.bytes, hml, hown, fun w hw => hts w (List.mem_cons_of_mem _ hw)⟩, hK, ⟨hD0.1, fun k hk => Or.inl ⟨k, hk, rfl⟩⟩, fun q hq => Or.inr hq, hKd, hN, B.notSynchronized, B.returns⟩
  have K := body p l e s m (as a).toArray below meth c D (Aa a s.heap.size) ct a C
  have hl := lv_entry (as a) (n := nL) (hlv a).1
  rw [lg_entry_eq]
  generalize (lg_sl (as a) ++ List.replicate (nL - (lg_sl (as a)).length) Slot.unset).toArray = ls at hl ⊢
  refine K s.heap [] ls hP va_S.rf ?_
  rw [← (hlv a).2, lvl_lvA]
  exact hl
theorem MJ.intro {y : MethodName} {cc : ByteArray} {nL fr lo : Nat} {ret : Option FieldType} {as : (Nat → Nat) → List Value} {M M' : Mm} {r : Int64} {lv0 : (Nat → Nat) → List (Option Value)} (hy : plainName y.cls = true) (hlv : ∀ a, (lg_sl (as a)).length ≤ nL ∧ lvA (as a) ++ List.replicate (nL - (lvA (as a)).length) none = lv0 a)
    (body : ∀ (p : Program) (l : Launch) (e : Env) (s : State) (m : MethodId) (args : Array Value) (below : List Frame) (meth : Method) (c : Code) (D : va_G) (A : Nat → Prop) (ct : Nat → ClassId) (a : Nat → Nat), Cx p s m args meth c cc nL y.cls ret D A ct a → KW p l e { frames := fr, cells := 0, slots := 0, locals := lo } s m args below meth c 0 0 (MQ below (QcJ D A ct a r M') args s 0 0 A) D A ct a nL M 0 (lv0 a) []) : MJ y cc nL ret fr lo as M r M' := by
  intro l D ct a sz
  refine Met.ofW (cc := cc) (maxL := nL) (ret := ret) hy rfl ?_
  intro p e s m args below meth c s₁ B hml hv
  obtain ⟨rfl, hsz, hP, hK, hD0, hKd, hN⟩ := hv
  subst hsz
  have hts := atoms_spec (ws := .code y cc nL ret :: tbw) B.pre
  have hown : s.vm.findClass y.cls = some m.cls := findClass_of_methodNamed B.named
  have C : Cx p s m (as a).toArray meth c cc nL y.cls ret D (Aa a s.heap.size) ct a := ⟨⟨B.exec, B.bytes, hml, hown, fun w hw => hts w (List.mem_cons_of_mem _ hw)⟩, hK, ⟨hD0.1, fun k hk => Or.inl ⟨k, hk, rfl⟩⟩, fun q hq => Or.inr hq, hKd, hN, B.notSynchronized, B.returns⟩
  have K := body p l e s m (as a).toArray below meth c D (Aa a s.heap.size) ct a C
  have hl := lv_entry (as a) (n := nL) (hlv a).1
  rw [lg_entry_eq]
  generalize (lg_sl (as a) ++ List.replicate (nL - (lg_sl (as a)).length) Slot.unset).toArray = ls at hl ⊢
  refine K s.heap [] ls hP va_S.rf ?_
  rw [← (hlv a).2, lvl_lvA]
  exact hl
theorem MV.intro {y : MethodName} {cc : ByteArray} {nL fr lo : Nat} {ret : Option FieldType} {as : (Nat → Nat) → List Value} {M M' : Mm} {lv0 : (Nat → Nat) → List (Option Value)} (hy : plainName y.cls = true) (hlv : ∀ a, (lg_sl (as a)).length ≤ nL ∧ lvA (as a) ++ List.replicate (nL - (lvA (as a)).length) none = lv0 a)
    (body : ∀ (p : Program) (l : Launch) (e : Env) (s : State) (m : MethodId) (args : Array Value) (below : List Frame) (meth : Method) (c : Code) (D : va_G) (A : Nat → Prop) (ct : Nat → ClassId) (a : Nat → Nat), Cx p s m args meth c cc nL y.cls ret D A ct a → KW p l e { frames := fr, cells := 0, slots := 0, locals := lo } s m args below meth c 0 0 (MQ below (QcV D A ct a M') args s 0 0 A) D A ct a nL M 0 (lv0 a) []) : MV y cc nL ret fr lo as M M' := by
  intro l D ct a sz
  refine Met.ofW (cc := cc) (maxL := nL) (ret := ret) hy rfl ?_
  intro p e s m args below meth c s₁ B hml hv
  obtain ⟨rfl, hsz, hP, hK, hD0, hKd, hN⟩ := hv
  subst hsz
  have hts := atoms_spec (ws := .code y cc nL ret :: tbw) B.pre
  have hown : s.vm.findClass y.cls = some m.cls := findClass_of_methodNamed B.named
  have C : Cx p s m (as a).toArray meth c cc nL y.cls ret D (Aa a s.heap.size) ct a := ⟨⟨B.exec, B.bytes, hml, hown, fun w hw => hts w (List.mem_cons_of_mem _ hw)⟩, hK, ⟨hD0.1, fun k hk => Or.inl ⟨k, hk, rfl⟩⟩, fun q hq => Or.inr hq, hKd, hN, B.notSynchronized, B.returns⟩
  have K := body p l e s m (as a).toArray below meth c D (Aa a s.heap.size) ct a C
  have hl := lv_entry (as a) (n := nL) (hlv a).1
  rw [lg_entry_eq]
  generalize (lg_sl (as a) ++ List.replicate (nL - (lg_sl (as a)).length) Slot.unset).toArray = ls at hl ⊢
  refine K s.heap [] ls hP va_S.rf ?_
  rw [← (hlv a).2, lvl_lvA]
  exact hl
end
section
theorem iw_X0_0 : ∀ w ∈ u_ws RX0 TX0 12, w ∈ lw_tbl ∧ goodWord w = true := by decide +kernel
theorem iw_X0 : ∀ w ∈ u_ws RX0 TX0 12, w ∈ tbw := fun w h => List.mem_filter.mpr (iw_X0_0 w h)
theorem iw_X1_0 : ∀ w ∈ u_ws RX1 TX1 2, w ∈ lw_tbl ∧ goodWord w = true := by decide +kernel
theorem iw_X1 : ∀ w ∈ u_ws RX1 TX1 2, w ∈ tbw := fun w h => List.mem_filter.mpr (iw_X1_0 w h)
theorem iw_X2_0 : ∀ w ∈ u_ws RX2 TX2 5, w ∈ lw_tbl ∧ goodWord w = true := by decide +kernel
theorem iw_X2 : ∀ w ∈ u_ws RX2 TX2 5, w ∈ tbw := fun w h => List.mem_filter.mpr (iw_X2_0 w h)
theorem iw_X3_0 : ∀ w ∈ u_ws RX3 TX3 9, w ∈ lw_tbl ∧ goodWord w = true := by decide +kernel
theorem iw_X3 : ∀ w ∈ u_ws RX3 TX3 9, w ∈ tbw := fun w h => List.mem_filter.mpr (iw_X3_0 w h)
theorem iw_X4_0 : ∀ w ∈ u_ws RX4 TX4 5, w ∈ lw_tbl ∧ goodWord w = true := by decide +kernel
theorem iw_X4 : ∀ w ∈ u_ws RX4 TX4 5, w ∈ tbw := fun w h => List.mem_filter.mpr (iw_X4_0 w h)
theorem iw_X5_0 : ∀ w ∈ u_ws RX5 TX5 7, w ∈ lw_tbl ∧ goodWord w = true := by decide +kernel
theorem iw_X5 : ∀ w ∈ u_ws RX5 TX5 7, w ∈ tbw := fun w h => List.mem_filter.mpr (iw_X5_0 w h)
theorem iw_X6_0 : ∀ w ∈ u_ws RX6 TX6 9, w ∈ lw_tbl ∧ goodWord w = true := by decide +kernel
theorem iw_X6 : ∀ w ∈ u_ws RX6 TX6 9, w ∈ tbw := fun w h => List.mem_filter.mpr (iw_X6_0 w h)
theorem iw_X7_0 : ∀ w ∈ u_ws RX7 TX7 44, w ∈ lw_tbl ∧ goodWord w = true := by decide +kernel
theorem iw_X7 : ∀ w ∈ u_ws RX7 TX7 44, w ∈ tbw := fun w h => List.mem_filter.mpr (iw_X7_0 w h)
section WD
variable {p : Program} {l : Launch} {e : Env} {R : Room} {s : State} {m : MethodId} {args : Array Value} {below : List Frame} {meth : Method} {c : Code} {cells slots : Nat} {Q : State → Prop} {D : va_G} {A : Nat → Prop} {ct : Nat → ClassId} {a : Nat → Nat} {nL : Nat} {M : Mm} {pc : Nat} {lv : List (Option Value)} {st : List Value} {cc : ByteArray} {ret : Option FieldType}

theorem cw_L_13 : cwV' RL 13 yX6_stroke cX6_stroke 6 (some .int) 3 := ⟨⟨⟨List.mem_filter.mpr ⟨List.mem_of_getElem? (i := 245) (by decide +kernel), by decide +kernel⟩, List.mem_filter.mpr ⟨List.mem_of_getElem? (i := 248) (by decide +kernel), by decide +kernel⟩, List.mem_filter.mpr ⟨List.mem_of_getElem? (i := 27) (by decide +kernel), by decide +kernel⟩⟩, by decide +kernel, by decide +kernel, by decide +kernel⟩, List.mem_filter.mpr ⟨List.mem_of_getElem? (i := 246) (by decide +kernel), by decide +kernel⟩, List.mem_filter.mpr ⟨List.mem_of_getElem? (i := 247) (by decide +kernel), by decide +kernel⟩⟩
theorem cw_L_17 : cwV' RL 17 yX7_stroke cX7_stroke 7 (some .int) 3 := ⟨⟨⟨List.mem_filter.mpr ⟨List.mem_of_getElem? (i := 880) (by decide +kernel), by decide +kernel⟩, List.mem_filter.mpr ⟨List.mem_of_getElem? (i := 883) (by decide +kernel), by decide +kernel⟩, List.mem_filter.mpr ⟨List.mem_of_getElem? (i := 35) (by decide +kernel), by decide +kernel⟩⟩, by decide +kernel, by decide +kernel, by decide +kernel⟩, List.mem_filter.mpr ⟨List.mem_of_getElem? (i := 881) (by decide +kernel), by decide +kernel⟩, List.mem_filter.mpr ⟨List.mem_of_getElem? (i := 882) (by decide +kernel), by decide +kernel⟩⟩
theorem cw_L_18 : cwV' RL 18 yX6_cut cX6_cut 2 (some .int) 1 := ⟨⟨⟨List.mem_filter.mpr ⟨List.mem_of_getElem? (i := 264) (by decide +kernel), by decide +kernel⟩, List.mem_filter.mpr ⟨List.mem_of_getElem? (i := 267) (by decide +kernel), by decide +kernel⟩, List.mem_filter.mpr ⟨List.mem_of_getElem? (i := 27) (by decide +kernel), by decide +kernel⟩⟩, by decide +kernel, by decide +kernel, by decide +kernel⟩, List.mem_filter.mpr ⟨List.mem_of_getElem? (i := 265) (by decide +kernel), by decide +kernel⟩, List.mem_filter.mpr ⟨List.mem_of_getElem? (i := 266) (by decide +kernel), by decide +kernel⟩⟩
theorem cw_L_22 : cwV' RL 22 yX7_cut cX7_cut 3 (some .int) 1 := ⟨⟨⟨List.mem_filter.mpr ⟨List.mem_of_getElem? (i := 887) (by decide +kernel), by decide +kernel⟩, List.mem_filter.mpr ⟨List.mem_of_getElem? (i := 890) (by decide +kernel), by decide +kernel⟩, List.mem_filter.mpr ⟨List.mem_of_getElem? (i := 35) (by decide +kernel), by decide +kernel⟩⟩, by decide +kernel, by decide +kernel, by decide +kernel⟩, List.mem_filter.mpr ⟨List.mem_of_getElem? (i := 888) (by decide +kernel), by decide +kernel⟩, List.mem_filter.mpr ⟨List.mem_of_getElem? (i := 889) (by decide +kernel), by decide +kernel⟩⟩
theorem cw_L_23 : cwV' RL 23 yX6_place cX6_place 3 (some .int) 2 := ⟨⟨⟨List.mem_filter.mpr ⟨List.mem_of_getElem? (i := 280) (by decide +kernel), by decide +kernel⟩, List.mem_filter.mpr ⟨List.mem_of_getElem? (i := 283) (by decide +kernel), by decide +kernel⟩, List.mem_filter.mpr ⟨List.mem_of_getElem? (i := 27) (by decide +kernel), by decide +kernel⟩⟩, by decide +kernel, by decide +kernel, by decide +kernel⟩, List.mem_filter.mpr ⟨List.mem_of_getElem? (i := 281) (by decide +kernel), by decide +kernel⟩, List.mem_filter.mpr ⟨List.mem_of_getElem? (i := 282) (by decide +kernel), by decide +kernel⟩⟩
theorem cw_L_27 : cwV' RL 27 yX7_place cX7_place 3 (some .int) 2 := ⟨⟨⟨List.mem_filter.mpr ⟨List.mem_of_getElem? (i := 891) (by decide +kernel), by decide +kernel⟩, List.mem_filter.mpr ⟨List.mem_of_getElem? (i := 894) (by decide +kernel), by decide +kernel⟩, List.mem_filter.mpr ⟨List.mem_of_getElem? (i := 35) (by decide +kernel), by decide +kernel⟩⟩, by decide +kernel, by decide +kernel, by decide +kernel⟩, List.mem_filter.mpr ⟨List.mem_of_getElem? (i := 892) (by decide +kernel), by decide +kernel⟩, List.mem_filter.mpr ⟨List.mem_of_getElem? (i := 893) (by decide +kernel), by decide +kernel⟩⟩
theorem cw_L_28 : cwV' RL 28 yX6_spread cX6_spread 1 (some .int) 0 := ⟨⟨⟨List.mem_filter.mpr ⟨List.mem_of_getElem? (i := 288) (by decide +kernel), by decide +kernel⟩, List.mem_filter.mpr ⟨List.mem_of_getElem? (i := 291) (by decide +kernel), by decide +kernel⟩, List.mem_filter.mpr ⟨List.mem_of_getElem? (i := 27) (by decide +kernel), by decide +kernel⟩⟩, by decide +kernel, by decide +kernel, by decide +kernel⟩, List.mem_filter.mpr ⟨List.mem_of_getElem? (i := 289) (by decide +kernel), by decide +kernel⟩, List.mem_filter.mpr ⟨List.mem_of_getElem? (i := 290) (by decide +kernel), by decide +kernel⟩⟩
theorem cw_L_32 : cwV' RL 32 yX7_spread cX7_spread 4 (some .int) 0 := ⟨⟨⟨List.mem_filter.mpr ⟨List.mem_of_getElem? (i := 895) (by decide +kernel), by decide +kernel⟩, List.mem_filter.mpr ⟨List.mem_of_getElem? (i := 898) (by decide +kernel), by decide +kernel⟩, List.mem_filter.mpr ⟨List.mem_of_getElem? (i := 35) (by decide +kernel), by decide +kernel⟩⟩, by decide +kernel, by decide +kernel, by decide +kernel⟩, List.mem_filter.mpr ⟨List.mem_of_getElem? (i := 896) (by decide +kernel), by decide +kernel⟩, List.mem_filter.mpr ⟨List.mem_of_getElem? (i := 897) (by decide +kernel), by decide +kernel⟩⟩
theorem cw_L_33 : cwV' RL 33 yX6_strokeSpread cX6_strokeSpread 2 (some .int) 1 := ⟨⟨⟨List.mem_filter.mpr ⟨List.mem_of_getElem? (i := 302) (by decide +kernel), by decide +kernel⟩, List.mem_filter.mpr ⟨List.mem_of_getElem? (i := 305) (by decide +kernel), by decide +kernel⟩, List.mem_filter.mpr ⟨List.mem_of_getElem? (i := 27) (by decide +kernel), by decide +kernel⟩⟩, by decide +kernel, by decide +kernel, by decide +kernel⟩, List.mem_filter.mpr ⟨List.mem_of_getElem? (i := 303) (by decide +kernel), by decide +kernel⟩, List.mem_filter.mpr ⟨List.mem_of_getElem? (i := 304) (by decide +kernel), by decide +kernel⟩⟩
theorem cw_L_36 : cwV' RL 36 yX7_strokeSpread cX7_strokeSpread 2 (some .int) 1 := ⟨⟨⟨List.mem_filter.mpr ⟨List.mem_of_getElem? (i := 899) (by decide +kernel), by decide +kernel⟩, List.mem_filter.mpr ⟨List.mem_of_getElem? (i := 902) (by decide +kernel), by decide +kernel⟩, List.mem_filter.mpr ⟨List.mem_of_getElem? (i := 35) (by decide +kernel), by decide +kernel⟩⟩, by decide +kernel, by decide +kernel, by decide +kernel⟩, List.mem_filter.mpr ⟨List.mem_of_getElem? (i := 900) (by decide +kernel), by decide +kernel⟩, List.mem_filter.mpr ⟨List.mem_of_getElem? (i := 901) (by decide +kernel), by decide +kernel⟩⟩
theorem cw_L_37 : cwV' RL 37 yX6_clear cX6_clear 1 (some .int) 0 := ⟨⟨⟨List.mem_filter.mpr ⟨List.mem_of_getElem? (i := 310) (by decide +kernel), by decide +kernel⟩, List.mem_filter.mpr ⟨List.mem_of_getElem? (i := 313) (by decide +kernel), by decide +kernel⟩, List.mem_filter.mpr ⟨List.mem_of_getElem? (i := 27) (by decide +kernel), by decide +kernel⟩⟩, by decide +kernel, by decide +kernel, by decide +kernel⟩, List.mem_filter.mpr ⟨List.mem_of_getElem? (i := 311) (by decide +kernel), by decide +kernel⟩, List.mem_filter.mpr ⟨List.mem_of_getElem? (i := 312) (by decide +kernel), by decide +kernel⟩⟩
theorem cw_L_40 : cwV' RL 40 yX7_clear cX7_clear 3 (some .int) 0 := ⟨⟨⟨List.mem_filter.mpr ⟨List.mem_of_getElem? (i := 903) (by decide +kernel), by decide +kernel⟩, List.mem_filter.mpr ⟨List.mem_of_getElem? (i := 906) (by decide +kernel), by decide +kernel⟩, List.mem_filter.mpr ⟨List.mem_of_getElem? (i := 35) (by decide +kernel), by decide +kernel⟩⟩, by decide +kernel, by decide +kernel, by decide +kernel⟩, List.mem_filter.mpr ⟨List.mem_of_getElem? (i := 904) (by decide +kernel), by decide +kernel⟩, List.mem_filter.mpr ⟨List.mem_of_getElem? (i := 905) (by decide +kernel), by decide +kernel⟩⟩
theorem cw_L_41 : cwV' RL 41 yX6_stock cX6_stock 5 (some .int) 4 := ⟨⟨⟨List.mem_filter.mpr ⟨List.mem_of_getElem? (i := 318) (by decide +kernel), by decide +kernel⟩, List.mem_filter.mpr ⟨List.mem_of_getElem? (i := 321) (by decide +kernel), by decide +kernel⟩, List.mem_filter.mpr ⟨List.mem_of_getElem? (i := 27) (by decide +kernel), by decide +kernel⟩⟩, by decide +kernel, by decide +kernel, by decide +kernel⟩, List.mem_filter.mpr ⟨List.mem_of_getElem? (i := 319) (by decide +kernel), by decide +kernel⟩, List.mem_filter.mpr ⟨List.mem_of_getElem? (i := 320) (by decide +kernel), by decide +kernel⟩⟩
theorem cw_L_45 : cwV' RL 45 yX7_stock cX7_stock 5 (some .int) 4 := ⟨⟨⟨List.mem_filter.mpr ⟨List.mem_of_getElem? (i := 907) (by decide +kernel), by decide +kernel⟩, List.mem_filter.mpr ⟨List.mem_of_getElem? (i := 910) (by decide +kernel), by decide +kernel⟩, List.mem_filter.mpr ⟨List.mem_of_getElem? (i := 35) (by decide +kernel), by decide +kernel⟩⟩, by decide +kernel, by decide +kernel, by decide +kernel⟩, List.mem_filter.mpr ⟨List.mem_of_getElem? (i := 908) (by decide +kernel), by decide +kernel⟩, List.mem_filter.mpr ⟨List.mem_of_getElem? (i := 909) (by decide +kernel), by decide +kernel⟩⟩
theorem cw_L_46 : cwV' RL 46 yX6_share cX6_share 4 (some .int) 3 := ⟨⟨⟨List.mem_filter.mpr ⟨List.mem_of_getElem? (i := 329) (by decide +kernel), by decide +kernel⟩, List.mem_filter.mpr ⟨List.mem_of_getElem? (i := 332) (by decide +kernel), by decide +kernel⟩, List.mem_filter.mpr ⟨List.mem_of_getElem? (i := 27) (by decide +kernel), by decide +kernel⟩⟩, by decide +kernel, by decide +kernel, by decide +kernel⟩, List.mem_filter.mpr ⟨List.mem_of_getElem? (i := 330) (by decide +kernel), by decide +kernel⟩, List.mem_filter.mpr ⟨List.mem_of_getElem? (i := 331) (by decide +kernel), by decide +kernel⟩⟩
theorem cw_L_49 : cwV' RL 49 yX7_share cX7_share 4 (some .int) 3 := ⟨⟨⟨List.mem_filter.mpr ⟨List.mem_of_getElem? (i := 914) (by decide +kernel), by decide +kernel⟩, List.mem_filter.mpr ⟨List.mem_of_getElem? (i := 917) (by decide +kernel), by decide +kernel⟩, List.mem_filter.mpr ⟨List.mem_of_getElem? (i := 35) (by decide +kernel), by decide +kernel⟩⟩, by decide +kernel, by decide +kernel, by decide +kernel⟩, List.mem_filter.mpr ⟨List.mem_of_getElem? (i := 915) (by decide +kernel), by decide +kernel⟩, List.mem_filter.mpr ⟨List.mem_of_getElem? (i := 916) (by decide +kernel), by decide +kernel⟩⟩
theorem cw_L_50 : cwV' RL 50 yX6_shareOf cX6_shareOf 2 (some .int) 1 := ⟨⟨⟨List.mem_filter.mpr ⟨List.mem_of_getElem? (i := 337) (by decide +kernel), by decide +kernel⟩, List.mem_filter.mpr ⟨List.mem_of_getElem? (i := 340) (by decide +kernel), by decide +kernel⟩, List.mem_filter.mpr ⟨List.mem_of_getElem? (i := 27) (by decide +kernel), by decide +kernel⟩⟩, by decide +kernel, by decide +kernel, by decide +kernel⟩, List.mem_filter.mpr ⟨List.mem_of_getElem? (i := 338) (by decide +kernel), by decide +kernel⟩, List.mem_filter.mpr ⟨List.mem_of_getElem? (i := 339) (by decide +kernel), by decide +kernel⟩⟩
theorem cw_L_53 : cwV' RL 53 yX7_shareOf cX7_shareOf 2 (some .int) 1 := ⟨⟨⟨List.mem_filter.mpr ⟨List.mem_of_getElem? (i := 918) (by decide +kernel), by decide +kernel⟩, List.mem_filter.mpr ⟨List.mem_of_getElem? (i := 921) (by decide +kernel), by decide +kernel⟩, List.mem_filter.mpr ⟨List.mem_of_getElem? (i := 35) (by decide +kernel), by decide +kernel⟩⟩, by decide +kernel, by decide +kernel, by decide +kernel⟩, List.mem_filter.mpr ⟨List.mem_of_getElem? (i := 919) (by decide +kernel), by decide +kernel⟩, List.mem_filter.mpr ⟨List.mem_of_getElem? (i := 920) (by decide +kernel), by decide +kernel⟩⟩
theorem cw_L_54 : cwV' RL 54 yX6_mix cX6_mix 2 (some .int) 1 := ⟨⟨⟨List.mem_filter.mpr ⟨List.mem_of_getElem? (i := 345) (by decide +kernel), by decide +kernel⟩, List.mem_filter.mpr ⟨List.mem_of_getElem? (i := 348) (by decide +kernel), by decide +kernel⟩, List.mem_filter.mpr ⟨List.mem_of_getElem? (i := 27) (by decide +kernel), by decide +kernel⟩⟩, by decide +kernel, by decide +kernel, by decide +kernel⟩, List.mem_filter.mpr ⟨List.mem_of_getElem? (i := 346) (by decide +kernel), by decide +kernel⟩, List.mem_filter.mpr ⟨List.mem_of_getElem? (i := 347) (by decide +kernel), by decide +kernel⟩⟩
theorem cw_L_57 : cwV' RL 57 yX7_mix cX7_mix 2 (some .int) 1 := ⟨⟨⟨List.mem_filter.mpr ⟨List.mem_of_getElem? (i := 922) (by decide +kernel), by decide +kernel⟩, List.mem_filter.mpr ⟨List.mem_of_getElem? (i := 925) (by decide +kernel), by decide +kernel⟩, List.mem_filter.mpr ⟨List.mem_of_getElem? (i := 35) (by decide +kernel), by decide +kernel⟩⟩, by decide +kernel, by decide +kernel, by decide +kernel⟩, List.mem_filter.mpr ⟨List.mem_of_getElem? (i := 923) (by decide +kernel), by decide +kernel⟩, List.mem_filter.mpr ⟨List.mem_of_getElem? (i := 924) (by decide +kernel), by decide +kernel⟩⟩
theorem cw_L_58 : cwV' RL 58 yX6_number cX6_number 4 (some .int) 0 := ⟨⟨⟨List.mem_filter.mpr ⟨List.mem_of_getElem? (i := 353) (by decide +kernel), by decide +kernel⟩, List.mem_filter.mpr ⟨List.mem_of_getElem? (i := 356) (by decide +kernel), by decide +kernel⟩, List.mem_filter.mpr ⟨List.mem_of_getElem? (i := 27) (by decide +kernel), by decide +kernel⟩⟩, by decide +kernel, by decide +kernel, by decide +kernel⟩, List.mem_filter.mpr ⟨List.mem_of_getElem? (i := 354) (by decide +kernel), by decide +kernel⟩, List.mem_filter.mpr ⟨List.mem_of_getElem? (i := 355) (by decide +kernel), by decide +kernel⟩⟩
theorem cw_L_61 : cwV' RL 61 yX7_number cX7_number 5 (some .int) 0 := ⟨⟨⟨List.mem_filter.mpr ⟨List.mem_of_getElem? (i := 930) (by decide +kernel), by decide +kernel⟩, List.mem_filter.mpr ⟨List.mem_of_getElem? (i := 933) (by decide +kernel), by decide +kernel⟩, List.mem_filter.mpr ⟨List.mem_of_getElem? (i := 35) (by decide +kernel), by decide +kernel⟩⟩, by decide +kernel, by decide +kernel, by decide +kernel⟩, List.mem_filter.mpr ⟨List.mem_of_getElem? (i := 931) (by decide +kernel), by decide +kernel⟩, List.mem_filter.mpr ⟨List.mem_of_getElem? (i := 932) (by decide +kernel), by decide +kernel⟩⟩
theorem cw_L_62 : cwV' RL 62 yX6_aim cX6_aim 3 (some .int) 2 := ⟨⟨⟨List.mem_filter.mpr ⟨List.mem_of_getElem? (i := 374) (by decide +kernel), by decide +kernel⟩, List.mem_filter.mpr ⟨List.mem_of_getElem? (i := 377) (by decide +kernel), by decide +kernel⟩, List.mem_filter.mpr ⟨List.mem_of_getElem? (i := 27) (by decide +kernel), by decide +kernel⟩⟩, by decide +kernel, by decide +kernel, by decide +kernel⟩, List.mem_filter.mpr ⟨List.mem_of_getElem? (i := 375) (by decide +kernel), by decide +kernel⟩, List.mem_filter.mpr ⟨List.mem_of_getElem? (i := 376) (by decide +kernel), by decide +kernel⟩⟩
theorem cw_L_65 : cwV' RL 65 yX7_aim cX7_aim 3 (some .int) 2 := ⟨⟨⟨List.mem_filter.mpr ⟨List.mem_of_getElem? (i := 953) (by decide +kernel), by decide +kernel⟩, List.mem_filter.mpr ⟨List.mem_of_getElem? (i := 956) (by decide +kernel), by decide +kernel⟩, List.mem_filter.mpr ⟨List.mem_of_getElem? (i := 35) (by decide +kernel), by decide +kernel⟩⟩, by decide +kernel, by decide +kernel, by decide +kernel⟩, List.mem_filter.mpr ⟨List.mem_of_getElem? (i := 954) (by decide +kernel), by decide +kernel⟩, List.mem_filter.mpr ⟨List.mem_of_getElem? (i := 955) (by decide +kernel), by decide +kernel⟩⟩
theorem cw_L_66 : cwV' RL 66 yX6_rule cX6_rule 3 (some .int) 2 := ⟨⟨⟨List.mem_filter.mpr ⟨List.mem_of_getElem? (i := 382) (by decide +kernel), by decide +kernel⟩, List.mem_filter.mpr ⟨List.mem_of_getElem? (i := 385) (by decide +kernel), by decide +kernel⟩, List.mem_filter.mpr ⟨List.mem_of_getElem? (i := 27) (by decide +kernel), by decide +kernel⟩⟩, by decide +kernel, by decide +kernel, by decide +kernel⟩, List.mem_filter.mpr ⟨List.mem_of_getElem? (i := 383) (by decide +kernel), by decide +kernel⟩, List.mem_filter.mpr ⟨List.mem_of_getElem? (i := 384) (by decide +kernel), by decide +kernel⟩⟩
theorem cw_L_69 : cwV' RL 69 yX7_rule cX7_rule 3 (some .int) 2 := ⟨⟨⟨List.mem_filter.mpr ⟨List.mem_of_getElem? (i := 957) (by decide +kernel), by decide +kernel⟩, List.mem_filter.mpr ⟨List.mem_of_getElem? (i := 960) (by decide +kernel), by decide +kernel⟩, List.mem_filter.mpr ⟨List.mem_of_getElem? (i := 35) (by decide +kernel), by decide +kernel⟩⟩, by decide +kernel, by decide +kernel, by decide +kernel⟩, List.mem_filter.mpr ⟨List.mem_of_getElem? (i := 958) (by decide +kernel), by decide +kernel⟩, List.mem_filter.mpr ⟨List.mem_of_getElem? (i := 959) (by decide +kernel), by decide +kernel⟩⟩
theorem cw_L_70 : cwV' RL 70 yX6_hour cX6_hour 2 (some .int) 1 := ⟨⟨⟨List.mem_filter.mpr ⟨List.mem_of_getElem? (i := 390) (by decide +kernel), by decide +kernel⟩, List.mem_filter.mpr ⟨List.mem_of_getElem? (i := 393) (by decide +kernel), by decide +kernel⟩, List.mem_filter.mpr ⟨List.mem_of_getElem? (i := 27) (by decide +kernel), by decide +kernel⟩⟩, by decide +kernel, by decide +kernel, by decide +kernel⟩, List.mem_filter.mpr ⟨List.mem_of_getElem? (i := 391) (by decide +kernel), by decide +kernel⟩, List.mem_filter.mpr ⟨List.mem_of_getElem? (i := 392) (by decide +kernel), by decide +kernel⟩⟩
theorem cw_L_74 : cwV' RL 74 yX7_hour cX7_hour 4 (some .int) 1 := ⟨⟨⟨List.mem_filter.mpr ⟨List.mem_of_getElem? (i := 961) (by decide +kernel), by decide +kernel⟩, List.mem_filter.mpr ⟨List.mem_of_getElem? (i := 964) (by decide +kernel), by decide +kernel⟩, List.mem_filter.mpr ⟨List.mem_of_getElem? (i := 35) (by decide +kernel), by decide +kernel⟩⟩, by decide +kernel, by decide +kernel, by decide +kernel⟩, List.mem_filter.mpr ⟨List.mem_of_getElem? (i := 962) (by decide +kernel), by decide +kernel⟩, List.mem_filter.mpr ⟨List.mem_of_getElem? (i := 963) (by decide +kernel), by decide +kernel⟩⟩
theorem cw_L_75 : cwV' RL 75 yX6_read cX6_read 1 (some .int) 0 := ⟨⟨⟨List.mem_filter.mpr ⟨List.mem_of_getElem? (i := 421) (by decide +kernel), by decide +kernel⟩, List.mem_filter.mpr ⟨List.mem_of_getElem? (i := 424) (by decide +kernel), by decide +kernel⟩, List.mem_filter.mpr ⟨List.mem_of_getElem? (i := 27) (by decide +kernel), by decide +kernel⟩⟩, by decide +kernel, by decide +kernel, by decide +kernel⟩, List.mem_filter.mpr ⟨List.mem_of_getElem? (i := 422) (by decide +kernel), by decide +kernel⟩, List.mem_filter.mpr ⟨List.mem_of_getElem? (i := 423) (by decide +kernel), by decide +kernel⟩⟩
theorem cw_L_78 : cwV' RL 78 yX7_read cX7_read 1 (some .int) 0 := ⟨⟨⟨List.mem_filter.mpr ⟨List.mem_of_getElem? (i := 970) (by decide +kernel), by decide +kernel⟩, List.mem_filter.mpr ⟨List.mem_of_getElem? (i := 973) (by decide +kernel), by decide +kernel⟩, List.mem_filter.mpr ⟨List.mem_of_getElem? (i := 35) (by decide +kernel), by decide +kernel⟩⟩, by decide +kernel, by decide +kernel, by decide +kernel⟩, List.mem_filter.mpr ⟨List.mem_of_getElem? (i := 971) (by decide +kernel), by decide +kernel⟩, List.mem_filter.mpr ⟨List.mem_of_getElem? (i := 972) (by decide +kernel), by decide +kernel⟩⟩
theorem cw_L_79 : cwV' RL 79 yX6_passed cX6_passed 1 (some .int) 0 := ⟨⟨⟨List.mem_filter.mpr ⟨List.mem_of_getElem? (i := 429) (by decide +kernel), by decide +kernel⟩, List.mem_filter.mpr ⟨List.mem_of_getElem? (i := 432) (by decide +kernel), by decide +kernel⟩, List.mem_filter.mpr ⟨List.mem_of_getElem? (i := 27) (by decide +kernel), by decide +kernel⟩⟩, by decide +kernel, by decide +kernel, by decide +kernel⟩, List.mem_filter.mpr ⟨List.mem_of_getElem? (i := 430) (by decide +kernel), by decide +kernel⟩, List.mem_filter.mpr ⟨List.mem_of_getElem? (i := 431) (by decide +kernel), by decide +kernel⟩⟩
theorem cw_L_82 : cwV' RL 82 yX7_passed cX7_passed 3 (some .int) 0 := ⟨⟨⟨List.mem_filter.mpr ⟨List.mem_of_getElem? (i := 974) (by decide +kernel), by decide +kernel⟩, List.mem_filter.mpr ⟨List.mem_of_getElem? (i := 977) (by decide +kernel), by decide +kernel⟩, List.mem_filter.mpr ⟨List.mem_of_getElem? (i := 35) (by decide +kernel), by decide +kernel⟩⟩, by decide +kernel, by decide +kernel, by decide +kernel⟩, List.mem_filter.mpr ⟨List.mem_of_getElem? (i := 975) (by decide +kernel), by decide +kernel⟩, List.mem_filter.mpr ⟨List.mem_of_getElem? (i := 976) (by decide +kernel), by decide +kernel⟩⟩
theorem cw_L_83 : cwV' RL 83 yX6_step cX6_step 7 (some .int) 3 := ⟨⟨⟨List.mem_filter.mpr ⟨List.mem_of_getElem? (i := 437) (by decide +kernel), by decide +kernel⟩, List.mem_filter.mpr ⟨List.mem_of_getElem? (i := 440) (by decide +kernel), by decide +kernel⟩, List.mem_filter.mpr ⟨List.mem_of_getElem? (i := 27) (by decide +kernel), by decide +kernel⟩⟩, by decide +kernel, by decide +kernel, by decide +kernel⟩, List.mem_filter.mpr ⟨List.mem_of_getElem? (i := 438) (by decide +kernel), by decide +kernel⟩, List.mem_filter.mpr ⟨List.mem_of_getElem? (i := 439) (by decide +kernel), by decide +kernel⟩⟩
theorem cw_L_86 : cwV' RL 86 yX7_step cX7_step 8 (some .int) 3 := ⟨⟨⟨List.mem_filter.mpr ⟨List.mem_of_getElem? (i := 978) (by decide +kernel), by decide +kernel⟩, List.mem_filter.mpr ⟨List.mem_of_getElem? (i := 981) (by decide +kernel), by decide +kernel⟩, List.mem_filter.mpr ⟨List.mem_of_getElem? (i := 35) (by decide +kernel), by decide +kernel⟩⟩, by decide +kernel, by decide +kernel, by decide +kernel⟩, List.mem_filter.mpr ⟨List.mem_of_getElem? (i := 979) (by decide +kernel), by decide +kernel⟩, List.mem_filter.mpr ⟨List.mem_of_getElem? (i := 980) (by decide +kernel), by decide +kernel⟩⟩
theorem cw_L_87 : cwV' RL 87 yX6_start cX6_start 1 (some .int) 0 := ⟨⟨⟨List.mem_filter.mpr ⟨List.mem_of_getElem? (i := 494) (by decide +kernel), by decide +kernel⟩, List.mem_filter.mpr ⟨List.mem_of_getElem? (i := 497) (by decide +kernel), by decide +kernel⟩, List.mem_filter.mpr ⟨List.mem_of_getElem? (i := 27) (by decide +kernel), by decide +kernel⟩⟩, by decide +kernel, by decide +kernel, by decide +kernel⟩, List.mem_filter.mpr ⟨List.mem_of_getElem? (i := 495) (by decide +kernel), by decide +kernel⟩, List.mem_filter.mpr ⟨List.mem_of_getElem? (i := 496) (by decide +kernel), by decide +kernel⟩⟩
theorem cw_L_90 : cwV' RL 90 yX7_start cX7_start 1 (some .int) 0 := ⟨⟨⟨List.mem_filter.mpr ⟨List.mem_of_getElem? (i := 1003) (by decide +kernel), by decide +kernel⟩, List.mem_filter.mpr ⟨List.mem_of_getElem? (i := 1006) (by decide +kernel), by decide +kernel⟩, List.mem_filter.mpr ⟨List.mem_of_getElem? (i := 35) (by decide +kernel), by decide +kernel⟩⟩, by decide +kernel, by decide +kernel, by decide +kernel⟩, List.mem_filter.mpr ⟨List.mem_of_getElem? (i := 1004) (by decide +kernel), by decide +kernel⟩, List.mem_filter.mpr ⟨List.mem_of_getElem? (i := 1005) (by decide +kernel), by decide +kernel⟩⟩
theorem cw_L_91 : cwV' RL 91 yX6_zone cX6_zone 3 (some .int) 2 := ⟨⟨⟨List.mem_filter.mpr ⟨List.mem_of_getElem? (i := 502) (by decide +kernel), by decide +kernel⟩, List.mem_filter.mpr ⟨List.mem_of_getElem? (i := 505) (by decide +kernel), by decide +kernel⟩, List.mem_filter.mpr ⟨List.mem_of_getElem? (i := 27) (by decide +kernel), by decide +kernel⟩⟩, by decide +kernel, by decide +kernel, by decide +kernel⟩, List.mem_filter.mpr ⟨List.mem_of_getElem? (i := 503) (by decide +kernel), by decide +kernel⟩, List.mem_filter.mpr ⟨List.mem_of_getElem? (i := 504) (by decide +kernel), by decide +kernel⟩⟩
theorem cw_L_94 : cwV' RL 94 yX7_zone cX7_zone 3 (some .int) 2 := ⟨⟨⟨List.mem_filter.mpr ⟨List.mem_of_getElem? (i := 1007) (by decide +kernel), by decide +kernel⟩, List.mem_filter.mpr ⟨List.mem_of_getElem? (i := 1010) (by decide +kernel), by decide +kernel⟩, List.mem_filter.mpr ⟨List.mem_of_getElem? (i := 35) (by decide +kernel), by decide +kernel⟩⟩, by decide +kernel, by decide +kernel, by decide +kernel⟩, List.mem_filter.mpr ⟨List.mem_of_getElem? (i := 1008) (by decide +kernel), by decide +kernel⟩, List.mem_filter.mpr ⟨List.mem_of_getElem? (i := 1009) (by decide +kernel), by decide +kernel⟩⟩
theorem cw_L_95 : cwV' RL 95 yX6_warmth cX6_warmth 4 (some .int) 2 := ⟨⟨⟨List.mem_filter.mpr ⟨List.mem_of_getElem? (i := 518) (by decide +kernel), by decide +kernel⟩, List.mem_filter.mpr ⟨List.mem_of_getElem? (i := 521) (by decide +kernel), by decide +kernel⟩, List.mem_filter.mpr ⟨List.mem_of_getElem? (i := 27) (by decide +kernel), by decide +kernel⟩⟩, by decide +kernel, by decide +kernel, by decide +kernel⟩, List.mem_filter.mpr ⟨List.mem_of_getElem? (i := 519) (by decide +kernel), by decide +kernel⟩, List.mem_filter.mpr ⟨List.mem_of_getElem? (i := 520) (by decide +kernel), by decide +kernel⟩⟩
theorem cw_L_98 : cwV' RL 98 yX7_warmth cX7_warmth 3 (some .int) 2 := ⟨⟨⟨List.mem_filter.mpr ⟨List.mem_of_getElem? (i := 1011) (by decide +kernel), by decide +kernel⟩, List.mem_filter.mpr ⟨List.mem_of_getElem? (i := 1014) (by decide +kernel), by decide +kernel⟩, List.mem_filter.mpr ⟨List.mem_of_getElem? (i := 35) (by decide +kernel), by decide +kernel⟩⟩, by decide +kernel, by decide +kernel, by decide +kernel⟩, List.mem_filter.mpr ⟨List.mem_of_getElem? (i := 1012) (by decide +kernel), by decide +kernel⟩, List.mem_filter.mpr ⟨List.mem_of_getElem? (i := 1013) (by decide +kernel), by decide +kernel⟩⟩
theorem cw_L_99 : cwV' RL 99 yX6_out cX6_out 2 (some .int) 1 := ⟨⟨⟨List.mem_filter.mpr ⟨List.mem_of_getElem? (i := 522) (by decide +kernel), by decide +kernel⟩, List.mem_filter.mpr ⟨List.mem_of_getElem? (i := 525) (by decide +kernel), by decide +kernel⟩, List.mem_filter.mpr ⟨List.mem_of_getElem? (i := 27) (by decide +kernel), by decide +kernel⟩⟩, by decide +kernel, by decide +kernel, by decide +kernel⟩, List.mem_filter.mpr ⟨List.mem_of_getElem? (i := 523) (by decide +kernel), by decide +kernel⟩, List.mem_filter.mpr ⟨List.mem_of_getElem? (i := 524) (by decide +kernel), by decide +kernel⟩⟩
theorem cw_L_102 : cwV' RL 102 yX7_out cX7_out 2 (some .int) 1 := ⟨⟨⟨List.mem_filter.mpr ⟨List.mem_of_getElem? (i := 1015) (by decide +kernel), by decide +kernel⟩, List.mem_filter.mpr ⟨List.mem_of_getElem? (i := 1018) (by decide +kernel), by decide +kernel⟩, List.mem_filter.mpr ⟨List.mem_of_getElem? (i := 35) (by decide +kernel), by decide +kernel⟩⟩, by decide +kernel, by decide +kernel, by decide +kernel⟩, List.mem_filter.mpr ⟨List.mem_of_getElem? (i := 1016) (by decide +kernel), by decide +kernel⟩, List.mem_filter.mpr ⟨List.mem_of_getElem? (i := 1017) (by decide +kernel), by decide +kernel⟩⟩
theorem cw_L_103 : cwV' RL 103 yX6_sum cX6_sum 2 (some .int) 1 := ⟨⟨⟨List.mem_filter.mpr ⟨List.mem_of_getElem? (i := 526) (by decide +kernel), by decide +kernel⟩, List.mem_filter.mpr ⟨List.mem_of_getElem? (i := 529) (by decide +kernel), by decide +kernel⟩, List.mem_filter.mpr ⟨List.mem_of_getElem? (i := 27) (by decide +kernel), by decide +kernel⟩⟩, by decide +kernel, by decide +kernel, by decide +kernel⟩, List.mem_filter.mpr ⟨List.mem_of_getElem? (i := 527) (by decide +kernel), by decide +kernel⟩, List.mem_filter.mpr ⟨List.mem_of_getElem? (i := 528) (by decide +kernel), by decide +kernel⟩⟩
theorem cw_L_106 : cwV' RL 106 yX7_sum cX7_sum 2 (some .int) 1 := ⟨⟨⟨List.mem_filter.mpr ⟨List.mem_of_getElem? (i := 1019) (by decide +kernel), by decide +kernel⟩, List.mem_filter.mpr ⟨List.mem_of_getElem? (i := 1022) (by decide +kernel), by decide +kernel⟩, List.mem_filter.mpr ⟨List.mem_of_getElem? (i := 35) (by decide +kernel), by decide +kernel⟩⟩, by decide +kernel, by decide +kernel, by decide +kernel⟩, List.mem_filter.mpr ⟨List.mem_of_getElem? (i := 1020) (by decide +kernel), by decide +kernel⟩, List.mem_filter.mpr ⟨List.mem_of_getElem? (i := 1021) (by decide +kernel), by decide +kernel⟩⟩
theorem cw_L_107 : cwV' RL 107 yX6_first cX6_first 1 (some .int) 0 := ⟨⟨⟨List.mem_filter.mpr ⟨List.mem_of_getElem? (i := 534) (by decide +kernel), by decide +kernel⟩, List.mem_filter.mpr ⟨List.mem_of_getElem? (i := 537) (by decide +kernel), by decide +kernel⟩, List.mem_filter.mpr ⟨List.mem_of_getElem? (i := 27) (by decide +kernel), by decide +kernel⟩⟩, by decide +kernel, by decide +kernel, by decide +kernel⟩, List.mem_filter.mpr ⟨List.mem_of_getElem? (i := 535) (by decide +kernel), by decide +kernel⟩, List.mem_filter.mpr ⟨List.mem_of_getElem? (i := 536) (by decide +kernel), by decide +kernel⟩⟩
theorem cw_L_110 : cwV' RL 110 yX7_first cX7_first 1 (some .int) 0 := ⟨⟨⟨List.mem_filter.mpr ⟨List.mem_of_getElem? (i := 1027) (by decide +kernel), by decide +kernel⟩, List.mem_filter.mpr ⟨List.mem_of_getElem? (i := 1030) (by decide +kernel), by decide +kernel⟩, List.mem_filter.mpr ⟨List.mem_of_getElem? (i := 35) (by decide +kernel), by decide +kernel⟩⟩, by decide +kernel, by decide +kernel, by decide +kernel⟩, List.mem_filter.mpr ⟨List.mem_of_getElem? (i := 1028) (by decide +kernel), by decide +kernel⟩, List.mem_filter.mpr ⟨List.mem_of_getElem? (i := 1029) (by decide +kernel), by decide +kernel⟩⟩
theorem cw_L_111 : cwV' RL 111 yX6_silo cX6_silo 3 (some .int) 2 := ⟨⟨⟨List.mem_filter.mpr ⟨List.mem_of_getElem? (i := 542) (by decide +kernel), by decide +kernel⟩, List.mem_filter.mpr ⟨List.mem_of_getElem? (i := 545) (by decide +kernel), by decide +kernel⟩, List.mem_filter.mpr ⟨List.mem_of_getElem? (i := 27) (by decide +kernel), by decide +kernel⟩⟩, by decide +kernel, by decide +kernel, by decide +kernel⟩, List.mem_filter.mpr ⟨List.mem_of_getElem? (i := 543) (by decide +kernel), by decide +kernel⟩, List.mem_filter.mpr ⟨List.mem_of_getElem? (i := 544) (by decide +kernel), by decide +kernel⟩⟩
theorem cw_L_114 : cwV' RL 114 yX7_silo cX7_silo 3 (some .int) 2 := ⟨⟨⟨List.mem_filter.mpr ⟨List.mem_of_getElem? (i := 1031) (by decide +kernel), by decide +kernel⟩, List.mem_filter.mpr ⟨List.mem_of_getElem? (i := 1034) (by decide +kernel), by decide +kernel⟩, List.mem_filter.mpr ⟨List.mem_of_getElem? (i := 35) (by decide +kernel), by decide +kernel⟩⟩, by decide +kernel, by decide +kernel, by decide +kernel⟩, List.mem_filter.mpr ⟨List.mem_of_getElem? (i := 1032) (by decide +kernel), by decide +kernel⟩, List.mem_filter.mpr ⟨List.mem_of_getElem? (i := 1033) (by decide +kernel), by decide +kernel⟩⟩
theorem cw_L_115 : cwV' RL 115 yX6_bag cX6_bag 3 (some .int) 2 := ⟨⟨⟨List.mem_filter.mpr ⟨List.mem_of_getElem? (i := 554) (by decide +kernel), by decide +kernel⟩, List.mem_filter.mpr ⟨List.mem_of_getElem? (i := 557) (by decide +kernel), by decide +kernel⟩, List.mem_filter.mpr ⟨List.mem_of_getElem? (i := 27) (by decide +kernel), by decide +kernel⟩⟩, by decide +kernel, by decide +kernel, by decide +kernel⟩, List.mem_filter.mpr ⟨List.mem_of_getElem? (i := 555) (by decide +kernel), by decide +kernel⟩, List.mem_filter.mpr ⟨List.mem_of_getElem? (i := 556) (by decide +kernel), by decide +kernel⟩⟩
theorem cw_L_118 : cwV' RL 118 yX7_bag cX7_bag 6 (some .int) 2 := ⟨⟨⟨List.mem_filter.mpr ⟨List.mem_of_getElem? (i := 1039) (by decide +kernel), by decide +kernel⟩, List.mem_filter.mpr ⟨List.mem_of_getElem? (i := 1042) (by decide +kernel), by decide +kernel⟩, List.mem_filter.mpr ⟨List.mem_of_getElem? (i := 35) (by decide +kernel), by decide +kernel⟩⟩, by decide +kernel, by decide +kernel, by decide +kernel⟩, List.mem_filter.mpr ⟨List.mem_of_getElem? (i := 1040) (by decide +kernel), by decide +kernel⟩, List.mem_filter.mpr ⟨List.mem_of_getElem? (i := 1041) (by decide +kernel), by decide +kernel⟩⟩
theorem cw_L_119 : cwV' RL 119 yX6_lot cX6_lot 3 (some .int) 2 := ⟨⟨⟨List.mem_filter.mpr ⟨List.mem_of_getElem? (i := 567) (by decide +kernel), by decide +kernel⟩, List.mem_filter.mpr ⟨List.mem_of_getElem? (i := 570) (by decide +kernel), by decide +kernel⟩, List.mem_filter.mpr ⟨List.mem_of_getElem? (i := 27) (by decide +kernel), by decide +kernel⟩⟩, by decide +kernel, by decide +kernel, by decide +kernel⟩, List.mem_filter.mpr ⟨List.mem_of_getElem? (i := 568) (by decide +kernel), by decide +kernel⟩, List.mem_filter.mpr ⟨List.mem_of_getElem? (i := 569) (by decide +kernel), by decide +kernel⟩⟩
theorem cw_L_122 : cwV' RL 122 yX7_lot cX7_lot 3 (some .int) 2 := ⟨⟨⟨List.mem_filter.mpr ⟨List.mem_of_getElem? (i := 1043) (by decide +kernel), by decide +kernel⟩, List.mem_filter.mpr ⟨List.mem_of_getElem? (i := 1046) (by decide +kernel), by decide +kernel⟩, List.mem_filter.mpr ⟨List.mem_of_getElem? (i := 35) (by decide +kernel), by decide +kernel⟩⟩, by decide +kernel, by decide +kernel, by decide +kernel⟩, List.mem_filter.mpr ⟨List.mem_of_getElem? (i := 1044) (by decide +kernel), by decide +kernel⟩, List.mem_filter.mpr ⟨List.mem_of_getElem? (i := 1045) (by decide +kernel), by decide +kernel⟩⟩
theorem cw_L_123 : cwV' RL 123 yX6_day cX6_day 2 (some .int) 1 := ⟨⟨⟨List.mem_filter.mpr ⟨List.mem_of_getElem? (i := 583) (by decide +kernel), by decide +kernel⟩, List.mem_filter.mpr ⟨List.mem_of_getElem? (i := 586) (by decide +kernel), by decide +kernel⟩, List.mem_filter.mpr ⟨List.mem_of_getElem? (i := 27) (by decide +kernel), by decide +kernel⟩⟩, by decide +kernel, by decide +kernel, by decide +kernel⟩, List.mem_filter.mpr ⟨List.mem_of_getElem? (i := 584) (by decide +kernel), by decide +kernel⟩, List.mem_filter.mpr ⟨List.mem_of_getElem? (i := 585) (by decide +kernel), by decide +kernel⟩⟩
theorem cw_L_126 : cwV' RL 126 yX7_day cX7_day 4 (some .int) 1 := ⟨⟨⟨List.mem_filter.mpr ⟨List.mem_of_getElem? (i := 1047) (by decide +kernel), by decide +kernel⟩, List.mem_filter.mpr ⟨List.mem_of_getElem? (i := 1050) (by decide +kernel), by decide +kernel⟩, List.mem_filter.mpr ⟨List.mem_of_getElem? (i := 35) (by decide +kernel), by decide +kernel⟩⟩, by decide +kernel, by decide +kernel, by decide +kernel⟩, List.mem_filter.mpr ⟨List.mem_of_getElem? (i := 1048) (by decide +kernel), by decide +kernel⟩, List.mem_filter.mpr ⟨List.mem_of_getElem? (i := 1049) (by decide +kernel), by decide +kernel⟩⟩
theorem cw_L_127 : cwV' RL 127 yX6_price cX6_price 4 (some .int) 3 := ⟨⟨⟨List.mem_filter.mpr ⟨List.mem_of_getElem? (i := 592) (by decide +kernel), by decide +kernel⟩, List.mem_filter.mpr ⟨List.mem_of_getElem? (i := 595) (by decide +kernel), by decide +kernel⟩, List.mem_filter.mpr ⟨List.mem_of_getElem? (i := 27) (by decide +kernel), by decide +kernel⟩⟩, by decide +kernel, by decide +kernel, by decide +kernel⟩, List.mem_filter.mpr ⟨List.mem_of_getElem? (i := 593) (by decide +kernel), by decide +kernel⟩, List.mem_filter.mpr ⟨List.mem_of_getElem? (i := 594) (by decide +kernel), by decide +kernel⟩⟩
theorem cw_L_130 : cwV' RL 130 yX7_price cX7_price 5 (some .int) 3 := ⟨⟨⟨List.mem_filter.mpr ⟨List.mem_of_getElem? (i := 1054) (by decide +kernel), by decide +kernel⟩, List.mem_filter.mpr ⟨List.mem_of_getElem? (i := 1057) (by decide +kernel), by decide +kernel⟩, List.mem_filter.mpr ⟨List.mem_of_getElem? (i := 35) (by decide +kernel), by decide +kernel⟩⟩, by decide +kernel, by decide +kernel, by decide +kernel⟩, List.mem_filter.mpr ⟨List.mem_of_getElem? (i := 1055) (by decide +kernel), by decide +kernel⟩, List.mem_filter.mpr ⟨List.mem_of_getElem? (i := 1056) (by decide +kernel), by decide +kernel⟩⟩
theorem cw_L_131 : cwV' RL 131 yX6_tear cX6_tear 2 (some .int) 1 := ⟨⟨⟨List.mem_filter.mpr ⟨List.mem_of_getElem? (i := 604) (by decide +kernel), by decide +kernel⟩, List.mem_filter.mpr ⟨List.mem_of_getElem? (i := 607) (by decide +kernel), by decide +kernel⟩, List.mem_filter.mpr ⟨List.mem_of_getElem? (i := 27) (by decide +kernel), by decide +kernel⟩⟩, by decide +kernel, by decide +kernel, by decide +kernel⟩, List.mem_filter.mpr ⟨List.mem_of_getElem? (i := 605) (by decide +kernel), by decide +kernel⟩, List.mem_filter.mpr ⟨List.mem_of_getElem? (i := 606) (by decide +kernel), by decide +kernel⟩⟩
theorem cw_L_134 : cwV' RL 134 yX7_tear cX7_tear 2 (some .int) 1 := ⟨⟨⟨List.mem_filter.mpr ⟨List.mem_of_getElem? (i := 1058) (by decide +kernel), by decide +kernel⟩, List.mem_filter.mpr ⟨List.mem_of_getElem? (i := 1061) (by decide +kernel), by decide +kernel⟩, List.mem_filter.mpr ⟨List.mem_of_getElem? (i := 35) (by decide +kernel), by decide +kernel⟩⟩, by decide +kernel, by decide +kernel, by decide +kernel⟩, List.mem_filter.mpr ⟨List.mem_of_getElem? (i := 1059) (by decide +kernel), by decide +kernel⟩, List.mem_filter.mpr ⟨List.mem_of_getElem? (i := 1060) (by decide +kernel), by decide +kernel⟩⟩
theorem cw_L_135 : cwV' RL 135 yX6_copy cX6_copy 6 (some .int) 5 := ⟨⟨⟨List.mem_filter.mpr ⟨List.mem_of_getElem? (i := 612) (by decide +kernel), by decide +kernel⟩, List.mem_filter.mpr ⟨List.mem_of_getElem? (i := 615) (by decide +kernel), by decide +kernel⟩, List.mem_filter.mpr ⟨List.mem_of_getElem? (i := 27) (by decide +kernel), by decide +kernel⟩⟩, by decide +kernel, by decide +kernel, by decide +kernel⟩, List.mem_filter.mpr ⟨List.mem_of_getElem? (i := 613) (by decide +kernel), by decide +kernel⟩, List.mem_filter.mpr ⟨List.mem_of_getElem? (i := 614) (by decide +kernel), by decide +kernel⟩⟩
theorem cw_L_139 : cwV' RL 139 yX7_copy cX7_copy 7 (some .int) 5 := ⟨⟨⟨List.mem_filter.mpr ⟨List.mem_of_getElem? (i := 1062) (by decide +kernel), by decide +kernel⟩, List.mem_filter.mpr ⟨List.mem_of_getElem? (i := 1065) (by decide +kernel), by decide +kernel⟩, List.mem_filter.mpr ⟨List.mem_of_getElem? (i := 35) (by decide +kernel), by decide +kernel⟩⟩, by decide +kernel, by decide +kernel, by decide +kernel⟩, List.mem_filter.mpr ⟨List.mem_of_getElem? (i := 1063) (by decide +kernel), by decide +kernel⟩, List.mem_filter.mpr ⟨List.mem_of_getElem? (i := 1064) (by decide +kernel), by decide +kernel⟩⟩
theorem cw_L_140 : cwV' RL 140 yX6_need cX6_need 3 (some .int) 2 := ⟨⟨⟨List.mem_filter.mpr ⟨List.mem_of_getElem? (i := 626) (by decide +kernel), by decide +kernel⟩, List.mem_filter.mpr ⟨List.mem_of_getElem? (i := 629) (by decide +kernel), by decide +kernel⟩, List.mem_filter.mpr ⟨List.mem_of_getElem? (i := 27) (by decide +kernel), by decide +kernel⟩⟩, by decide +kernel, by decide +kernel, by decide +kernel⟩, List.mem_filter.mpr ⟨List.mem_of_getElem? (i := 627) (by decide +kernel), by decide +kernel⟩, List.mem_filter.mpr ⟨List.mem_of_getElem? (i := 628) (by decide +kernel), by decide +kernel⟩⟩
theorem cw_L_143 : cwV' RL 143 yX7_need cX7_need 4 (some .int) 2 := ⟨⟨⟨List.mem_filter.mpr ⟨List.mem_of_getElem? (i := 1067) (by decide +kernel), by decide +kernel⟩, List.mem_filter.mpr ⟨List.mem_of_getElem? (i := 1070) (by decide +kernel), by decide +kernel⟩, List.mem_filter.mpr ⟨List.mem_of_getElem? (i := 35) (by decide +kernel), by decide +kernel⟩⟩, by decide +kernel, by decide +kernel, by decide +kernel⟩, List.mem_filter.mpr ⟨List.mem_of_getElem? (i := 1068) (by decide +kernel), by decide +kernel⟩, List.mem_filter.mpr ⟨List.mem_of_getElem? (i := 1069) (by decide +kernel), by decide +kernel⟩⟩
theorem cw_L_144 : cwV' RL 144 yX6_plan cX6_plan 5 (some .int) 2 := ⟨⟨⟨List.mem_filter.mpr ⟨List.mem_of_getElem? (i := 634) (by decide +kernel), by decide +kernel⟩, List.mem_filter.mpr ⟨List.mem_of_getElem? (i := 637) (by decide +kernel), by decide +kernel⟩, List.mem_filter.mpr ⟨List.mem_of_getElem? (i := 27) (by decide +kernel), by decide +kernel⟩⟩, by decide +kernel, by decide +kernel, by decide +kernel⟩, List.mem_filter.mpr ⟨List.mem_of_getElem? (i := 635) (by decide +kernel), by decide +kernel⟩, List.mem_filter.mpr ⟨List.mem_of_getElem? (i := 636) (by decide +kernel), by decide +kernel⟩⟩
theorem cw_L_147 : cwV' RL 147 yX7_plan cX7_plan 6 (some .int) 2 := ⟨⟨⟨List.mem_filter.mpr ⟨List.mem_of_getElem? (i := 1071) (by decide +kernel), by decide +kernel⟩, List.mem_filter.mpr ⟨List.mem_of_getElem? (i := 1074) (by decide +kernel), by decide +kernel⟩, List.mem_filter.mpr ⟨List.mem_of_getElem? (i := 35) (by decide +kernel), by decide +kernel⟩⟩, by decide +kernel, by decide +kernel, by decide +kernel⟩, List.mem_filter.mpr ⟨List.mem_of_getElem? (i := 1072) (by decide +kernel), by decide +kernel⟩, List.mem_filter.mpr ⟨List.mem_of_getElem? (i := 1073) (by decide +kernel), by decide +kernel⟩⟩
theorem cw_L_148 : cwV' RL 148 yX6_upper cX6_upper 1 (some .long) 0 := ⟨⟨⟨List.mem_filter.mpr ⟨List.mem_of_getElem? (i := 662) (by decide +kernel), by decide +kernel⟩, List.mem_filter.mpr ⟨List.mem_of_getElem? (i := 665) (by decide +kernel), by decide +kernel⟩, List.mem_filter.mpr ⟨List.mem_of_getElem? (i := 27) (by decide +kernel), by decide +kernel⟩⟩, by decide +kernel, by decide +kernel, by decide +kernel⟩, List.mem_filter.mpr ⟨List.mem_of_getElem? (i := 663) (by decide +kernel), by decide +kernel⟩, List.mem_filter.mpr ⟨List.mem_of_getElem? (i := 664) (by decide +kernel), by decide +kernel⟩⟩
theorem cw_L_152 : cwV' RL 152 yX7_upper cX7_upper 1 (some .long) 0 := ⟨⟨⟨List.mem_filter.mpr ⟨List.mem_of_getElem? (i := 1075) (by decide +kernel), by decide +kernel⟩, List.mem_filter.mpr ⟨List.mem_of_getElem? (i := 1078) (by decide +kernel), by decide +kernel⟩, List.mem_filter.mpr ⟨List.mem_of_getElem? (i := 35) (by decide +kernel), by decide +kernel⟩⟩, by decide +kernel, by decide +kernel, by decide +kernel⟩, List.mem_filter.mpr ⟨List.mem_of_getElem? (i := 1076) (by decide +kernel), by decide +kernel⟩, List.mem_filter.mpr ⟨List.mem_of_getElem? (i := 1077) (by decide +kernel), by decide +kernel⟩⟩
theorem cw_L_153 : cwV' RL 153 yX6_lower cX6_lower 1 (some .long) 0 := ⟨⟨⟨List.mem_filter.mpr ⟨List.mem_of_getElem? (i := 666) (by decide +kernel), by decide +kernel⟩, List.mem_filter.mpr ⟨List.mem_of_getElem? (i := 669) (by decide +kernel), by decide +kernel⟩, List.mem_filter.mpr ⟨List.mem_of_getElem? (i := 27) (by decide +kernel), by decide +kernel⟩⟩, by decide +kernel, by decide +kernel, by decide +kernel⟩, List.mem_filter.mpr ⟨List.mem_of_getElem? (i := 667) (by decide +kernel), by decide +kernel⟩, List.mem_filter.mpr ⟨List.mem_of_getElem? (i := 668) (by decide +kernel), by decide +kernel⟩⟩
theorem cw_L_156 : cwV' RL 156 yX7_lower cX7_lower 1 (some .long) 0 := ⟨⟨⟨List.mem_filter.mpr ⟨List.mem_of_getElem? (i := 1079) (by decide +kernel), by decide +kernel⟩, List.mem_filter.mpr ⟨List.mem_of_getElem? (i := 1082) (by decide +kernel), by decide +kernel⟩, List.mem_filter.mpr ⟨List.mem_of_getElem? (i := 35) (by decide +kernel), by decide +kernel⟩⟩, by decide +kernel, by decide +kernel, by decide +kernel⟩, List.mem_filter.mpr ⟨List.mem_of_getElem? (i := 1080) (by decide +kernel), by decide +kernel⟩, List.mem_filter.mpr ⟨List.mem_of_getElem? (i := 1081) (by decide +kernel), by decide +kernel⟩⟩
theorem cw_L_157 : cwV' RL 157 yX6_asked cX6_asked 1 (some .long) 0 := ⟨⟨⟨List.mem_filter.mpr ⟨List.mem_of_getElem? (i := 670) (by decide +kernel), by decide +kernel⟩, List.mem_filter.mpr ⟨List.mem_of_getElem? (i := 673) (by decide +kernel), by decide +kernel⟩, List.mem_filter.mpr ⟨List.mem_of_getElem? (i := 27) (by decide +kernel), by decide +kernel⟩⟩, by decide +kernel, by decide +kernel, by decide +kernel⟩, List.mem_filter.mpr ⟨List.mem_of_getElem? (i := 671) (by decide +kernel), by decide +kernel⟩, List.mem_filter.mpr ⟨List.mem_of_getElem? (i := 672) (by decide +kernel), by decide +kernel⟩⟩
theorem cw_L_160 : cwV' RL 160 yX7_asked cX7_asked 1 (some .long) 0 := ⟨⟨⟨List.mem_filter.mpr ⟨List.mem_of_getElem? (i := 1083) (by decide +kernel), by decide +kernel⟩, List.mem_filter.mpr ⟨List.mem_of_getElem? (i := 1086) (by decide +kernel), by decide +kernel⟩, List.mem_filter.mpr ⟨List.mem_of_getElem? (i := 35) (by decide +kernel), by decide +kernel⟩⟩, by decide +kernel, by decide +kernel, by decide +kernel⟩, List.mem_filter.mpr ⟨List.mem_of_getElem? (i := 1084) (by decide +kernel), by decide +kernel⟩, List.mem_filter.mpr ⟨List.mem_of_getElem? (i := 1085) (by decide +kernel), by decide +kernel⟩⟩
theorem cw_L_161 : cwV' RL 161 yX6_count cX6_count 2 (some .int) 1 := ⟨⟨⟨List.mem_filter.mpr ⟨List.mem_of_getElem? (i := 674) (by decide +kernel), by decide +kernel⟩, List.mem_filter.mpr ⟨List.mem_of_getElem? (i := 677) (by decide +kernel), by decide +kernel⟩, List.mem_filter.mpr ⟨List.mem_of_getElem? (i := 27) (by decide +kernel), by decide +kernel⟩⟩, by decide +kernel, by decide +kernel, by decide +kernel⟩, List.mem_filter.mpr ⟨List.mem_of_getElem? (i := 675) (by decide +kernel), by decide +kernel⟩, List.mem_filter.mpr ⟨List.mem_of_getElem? (i := 676) (by decide +kernel), by decide +kernel⟩⟩
theorem cw_L_164 : cwV' RL 164 yX7_count cX7_count 2 (some .int) 1 := ⟨⟨⟨List.mem_filter.mpr ⟨List.mem_of_getElem? (i := 1087) (by decide +kernel), by decide +kernel⟩, List.mem_filter.mpr ⟨List.mem_of_getElem? (i := 1090) (by decide +kernel), by decide +kernel⟩, List.mem_filter.mpr ⟨List.mem_of_getElem? (i := 35) (by decide +kernel), by decide +kernel⟩⟩, by decide +kernel, by decide +kernel, by decide +kernel⟩, List.mem_filter.mpr ⟨List.mem_of_getElem? (i := 1088) (by decide +kernel), by decide +kernel⟩, List.mem_filter.mpr ⟨List.mem_of_getElem? (i := 1089) (by decide +kernel), by decide +kernel⟩⟩
theorem cw_L_165 : cwV' RL 165 yX6_finding cX6_finding 1 (some .int) 0 := ⟨⟨⟨List.mem_filter.mpr ⟨List.mem_of_getElem? (i := 686) (by decide +kernel), by decide +kernel⟩, List.mem_filter.mpr ⟨List.mem_of_getElem? (i := 689) (by decide +kernel), by decide +kernel⟩, List.mem_filter.mpr ⟨List.mem_of_getElem? (i := 27) (by decide +kernel), by decide +kernel⟩⟩, by decide +kernel, by decide +kernel, by decide +kernel⟩, List.mem_filter.mpr ⟨List.mem_of_getElem? (i := 687) (by decide +kernel), by decide +kernel⟩, List.mem_filter.mpr ⟨List.mem_of_getElem? (i := 688) (by decide +kernel), by decide +kernel⟩⟩
theorem cw_L_168 : cwV' RL 168 yX7_finding cX7_finding 1 (some .int) 0 := ⟨⟨⟨List.mem_filter.mpr ⟨List.mem_of_getElem? (i := 1095) (by decide +kernel), by decide +kernel⟩, List.mem_filter.mpr ⟨List.mem_of_getElem? (i := 1098) (by decide +kernel), by decide +kernel⟩, List.mem_filter.mpr ⟨List.mem_of_getElem? (i := 35) (by decide +kernel), by decide +kernel⟩⟩, by decide +kernel, by decide +kernel, by decide +kernel⟩, List.mem_filter.mpr ⟨List.mem_of_getElem? (i := 1096) (by decide +kernel), by decide +kernel⟩, List.mem_filter.mpr ⟨List.mem_of_getElem? (i := 1097) (by decide +kernel), by decide +kernel⟩⟩
theorem cw_L_169 : cwV' RL 169 yX6_findings cX6_findings 2 (some .int) 1 := ⟨⟨⟨List.mem_filter.mpr ⟨List.mem_of_getElem? (i := 694) (by decide +kernel), by decide +kernel⟩, List.mem_filter.mpr ⟨List.mem_of_getElem? (i := 697) (by decide +kernel), by decide +kernel⟩, List.mem_filter.mpr ⟨List.mem_of_getElem? (i := 27) (by decide +kernel), by decide +kernel⟩⟩, by decide +kernel, by decide +kernel, by decide +kernel⟩, List.mem_filter.mpr ⟨List.mem_of_getElem? (i := 695) (by decide +kernel), by decide +kernel⟩, List.mem_filter.mpr ⟨List.mem_of_getElem? (i := 696) (by decide +kernel), by decide +kernel⟩⟩
theorem cw_L_172 : cwV' RL 172 yX7_findings cX7_findings 2 (some .int) 1 := ⟨⟨⟨List.mem_filter.mpr ⟨List.mem_of_getElem? (i := 1099) (by decide +kernel), by decide +kernel⟩, List.mem_filter.mpr ⟨List.mem_of_getElem? (i := 1102) (by decide +kernel), by decide +kernel⟩, List.mem_filter.mpr ⟨List.mem_of_getElem? (i := 35) (by decide +kernel), by decide +kernel⟩⟩, by decide +kernel, by decide +kernel, by decide +kernel⟩, List.mem_filter.mpr ⟨List.mem_of_getElem? (i := 1100) (by decide +kernel), by decide +kernel⟩, List.mem_filter.mpr ⟨List.mem_of_getElem? (i := 1101) (by decide +kernel), by decide +kernel⟩⟩
theorem cw_L_173 : cwV' RL 173 yX6_digest cX6_digest 4 (some .long) 0 := ⟨⟨⟨List.mem_filter.mpr ⟨List.mem_of_getElem? (i := 702) (by decide +kernel), by decide +kernel⟩, List.mem_filter.mpr ⟨List.mem_of_getElem? (i := 705) (by decide +kernel), by decide +kernel⟩, List.mem_filter.mpr ⟨List.mem_of_getElem? (i := 27) (by decide +kernel), by decide +kernel⟩⟩, by decide +kernel, by decide +kernel, by decide +kernel⟩, List.mem_filter.mpr ⟨List.mem_of_getElem? (i := 703) (by decide +kernel), by decide +kernel⟩, List.mem_filter.mpr ⟨List.mem_of_getElem? (i := 704) (by decide +kernel), by decide +kernel⟩⟩
theorem cw_L_176 : cwV' RL 176 yX7_digest cX7_digest 5 (some .long) 0 := ⟨⟨⟨List.mem_filter.mpr ⟨List.mem_of_getElem? (i := 1103) (by decide +kernel), by decide +kernel⟩, List.mem_filter.mpr ⟨List.mem_of_getElem? (i := 1106) (by decide +kernel), by decide +kernel⟩, List.mem_filter.mpr ⟨List.mem_of_getElem? (i := 35) (by decide +kernel), by decide +kernel⟩⟩, by decide +kernel, by decide +kernel, by decide +kernel⟩, List.mem_filter.mpr ⟨List.mem_of_getElem? (i := 1104) (by decide +kernel), by decide +kernel⟩, List.mem_filter.mpr ⟨List.mem_of_getElem? (i := 1105) (by decide +kernel), by decide +kernel⟩⟩
theorem wf_X0_11 : Cond.fieldLink RX0 11 (TX0 0).1 (TX0 0).2.1 (TX0 0).2.2.1 ∈ tbw := List.mem_filter.mpr ⟨List.mem_of_getElem? (i := 81) (by decide +kernel), by decide +kernel⟩
theorem g_X0_11 (C : Cx p s m args meth c cc nL RX0 ret D A ct a) (hd : decode cc pc = .ok (.getfield 11, 3)) (k : KW p l e R s m args below meth c cells slots Q D A ct a nL M (pc + 3) lv (.ref (a 11) :: st)) : KW p l e R s m args below meth c cells slots Q D A ct a nL M pc lv (.ref (a 2) :: st) := q_get (k := 2) (j := 0) C rfl rfl rfl (by decide) iw_X0 wf_X0_11 hd k
theorem wf_X0_16 : Cond.fieldLink RX0 16 (TX0 1).1 (TX0 1).2.1 (TX0 1).2.2.1 ∈ tbw := List.mem_filter.mpr ⟨List.mem_of_getElem? (i := 82) (by decide +kernel), by decide +kernel⟩
theorem g_X0_16 (C : Cx p s m args meth c cc nL RX0 ret D A ct a) (hd : decode cc pc = .ok (.getfield 16, 3)) (k : KW p l e R s m args below meth c cells slots Q D A ct a nL M (pc + 3) lv (.ref (a 16) :: st)) : KW p l e R s m args below meth c cells slots Q D A ct a nL M pc lv (.ref (a 2) :: st) := q_get (k := 2) (j := 1) C rfl rfl rfl (by decide) iw_X0 wf_X0_16 hd k
theorem wf_X0_20 : Cond.fieldLink RX0 20 (TX0 2).1 (TX0 2).2.1 (TX0 2).2.2.1 ∈ tbw := List.mem_filter.mpr ⟨List.mem_of_getElem? (i := 83) (by decide +kernel), by decide +kernel⟩
theorem g_X0_20 (C : Cx p s m args meth c cc nL RX0 ret D A ct a) (hd : decode cc pc = .ok (.getfield 20, 3)) (k : KW p l e R s m args below meth c cells slots Q D A ct a nL M (pc + 3) lv (.ref (a 17) :: st)) : KW p l e R s m args below meth c cells slots Q D A ct a nL M pc lv (.ref (a 2) :: st) := q_get (k := 2) (j := 2) C rfl rfl rfl (by decide) iw_X0 wf_X0_20 hd k
theorem wf_X0_23 : Cond.fieldLink RX0 23 (TX0 3).1 (TX0 3).2.1 (TX0 3).2.2.1 ∈ tbw := List.mem_filter.mpr ⟨List.mem_of_getElem? (i := 84) (by decide +kernel), by decide +kernel⟩
theorem g_X0_23 (C : Cx p s m args meth c cc nL RX0 ret D A ct a) (hd : decode cc pc = .ok (.getfield 23, 3)) (k : KW p l e R s m args below meth c cells slots Q D A ct a nL M (pc + 3) lv (.ref (a 18) :: st)) : KW p l e R s m args below meth c cells slots Q D A ct a nL M pc lv (.ref (a 2) :: st) := q_get (k := 2) (j := 3) C rfl rfl rfl (by decide) iw_X0 wf_X0_23 hd k
theorem wf_X0_26 : Cond.fieldLink RX0 26 (TX0 4).1 (TX0 4).2.1 (TX0 4).2.2.1 ∈ tbw := List.mem_filter.mpr ⟨List.mem_of_getElem? (i := 85) (by decide +kernel), by decide +kernel⟩
theorem g_X0_26 (C : Cx p s m args meth c cc nL RX0 ret D A ct a) (hd : decode cc pc = .ok (.getfield 26, 3)) (k : KW p l e R s m args below meth c cells slots Q D A ct a nL M (pc + 3) lv (.ref (a 19) :: st)) : KW p l e R s m args below meth c cells slots Q D A ct a nL M pc lv (.ref (a 2) :: st) := q_get (k := 2) (j := 4) C rfl rfl rfl (by decide) iw_X0 wf_X0_26 hd k
theorem wf_X0_29 : Cond.fieldLink RX0 29 (TX0 5).1 (TX0 5).2.1 (TX0 5).2.2.1 ∈ tbw := List.mem_filter.mpr ⟨List.mem_of_getElem? (i := 86) (by decide +kernel), by decide +kernel⟩
theorem g_X0_29 (C : Cx p s m args meth c cc nL RX0 ret D A ct a) (hd : decode cc pc = .ok (.getfield 29, 3)) (k : KW p l e R s m args below meth c cells slots Q D A ct a nL M (pc + 3) lv (.int (gI M 2 5) :: st)) : KW p l e R s m args below meth c cells slots Q D A ct a nL M pc lv (.ref (a 2) :: st) := q_get (k := 2) (j := 5) C rfl rfl rfl (by decide) iw_X0 wf_X0_29 hd k
theorem p_X0_29 {v : Int32} (C : Cx p s m args meth c cc nL RX0 ret D A ct a)  (hd : decode cc pc = .ok (.putfield 29, 3)) (k : KW p l e R s m args below meth c cells slots Q D A ct a nL (sI M 2 5 v) (pc + 3) lv st) : KW p l e R s m args below meth c cells slots Q D A ct a nL M pc lv (.int v :: .ref (a 2) :: st) := q_putI (k := 2) (j := 5) (ty := .int) C rfl rfl rfl (by decide) iw_X0 tyX0_ok nmX0 wf_X0_29 rfl (by decide +kernel) rfl rfl hd k
theorem wf_X0_33 : Cond.fieldLink RX0 33 (TX0 6).1 (TX0 6).2.1 (TX0 6).2.2.1 ∈ tbw := List.mem_filter.mpr ⟨List.mem_of_getElem? (i := 87) (by decide +kernel), by decide +kernel⟩
theorem g_X0_33 (C : Cx p s m args meth c cc nL RX0 ret D A ct a) (hd : decode cc pc = .ok (.getfield 33, 3)) (k : KW p l e R s m args below meth c cells slots Q D A ct a nL M (pc + 3) lv (.int (gI M 2 6) :: st)) : KW p l e R s m args below meth c cells slots Q D A ct a nL M pc lv (.ref (a 2) :: st) := q_get (k := 2) (j := 6) C rfl rfl rfl (by decide) iw_X0 wf_X0_33 hd k
theorem p_X0_33 {v : Int32} (C : Cx p s m args meth c cc nL RX0 ret D A ct a)  (hd : decode cc pc = .ok (.putfield 33, 3)) (k : KW p l e R s m args below meth c cells slots Q D A ct a nL (sI M 2 6 v) (pc + 3) lv st) : KW p l e R s m args below meth c cells slots Q D A ct a nL M pc lv (.int v :: .ref (a 2) :: st) := q_putI (k := 2) (j := 6) (ty := .int) C rfl rfl rfl (by decide) iw_X0 tyX0_ok nmX0 wf_X0_33 rfl (by decide +kernel) rfl rfl hd k
theorem wf_X0_36 : Cond.fieldLink RX0 36 (TX0 7).1 (TX0 7).2.1 (TX0 7).2.2.1 ∈ tbw := List.mem_filter.mpr ⟨List.mem_of_getElem? (i := 88) (by decide +kernel), by decide +kernel⟩
theorem g_X0_36 (C : Cx p s m args meth c cc nL RX0 ret D A ct a) (hd : decode cc pc = .ok (.getfield 36, 3)) (k : KW p l e R s m args below meth c cells slots Q D A ct a nL M (pc + 3) lv (.int (gI M 2 7) :: st)) : KW p l e R s m args below meth c cells slots Q D A ct a nL M pc lv (.ref (a 2) :: st) := q_get (k := 2) (j := 7) C rfl rfl rfl (by decide) iw_X0 wf_X0_36 hd k
theorem p_X0_36 {v : Int32} (C : Cx p s m args meth c cc nL RX0 ret D A ct a)  (hd : decode cc pc = .ok (.putfield 36, 3)) (k : KW p l e R s m args below meth c cells slots Q D A ct a nL (sI M 2 7 v) (pc + 3) lv st) : KW p l e R s m args below meth c cells slots Q D A ct a nL M pc lv (.int v :: .ref (a 2) :: st) := q_putI (k := 2) (j := 7) (ty := .int) C rfl rfl rfl (by decide) iw_X0 tyX0_ok nmX0 wf_X0_36 rfl (by decide +kernel) rfl rfl hd k
theorem wf_X0_39 : Cond.fieldLink RX0 39 (TX0 8).1 (TX0 8).2.1 (TX0 8).2.2.1 ∈ tbw := List.mem_filter.mpr ⟨List.mem_of_getElem? (i := 89) (by decide +kernel), by decide +kernel⟩
theorem g_X0_39 (C : Cx p s m args meth c cc nL RX0 ret D A ct a) (hd : decode cc pc = .ok (.getfield 39, 3)) (k : KW p l e R s m args below meth c cells slots Q D A ct a nL M (pc + 3) lv (.int (gI M 2 8) :: st)) : KW p l e R s m args below meth c cells slots Q D A ct a nL M pc lv (.ref (a 2) :: st) := q_get (k := 2) (j := 8) C rfl rfl rfl (by decide) iw_X0 wf_X0_39 hd k
theorem p_X0_39 {v : Int32} (C : Cx p s m args meth c cc nL RX0 ret D A ct a)  (hd : decode cc pc = .ok (.putfield 39, 3)) (k : KW p l e R s m args below meth c cells slots Q D A ct a nL (sI M 2 8 v) (pc + 3) lv st) : KW p l e R s m args below meth c cells slots Q D A ct a nL M pc lv (.int v :: .ref (a 2) :: st) := q_putI (k := 2) (j := 8) (ty := .int) C rfl rfl rfl (by decide) iw_X0 tyX0_ok nmX0 wf_X0_39 rfl (by decide +kernel) rfl rfl hd k
theorem wf_X0_42 : Cond.fieldLink RX0 42 (TX0 9).1 (TX0 9).2.1 (TX0 9).2.2.1 ∈ tbw := List.mem_filter.mpr ⟨List.mem_of_getElem? (i := 90) (by decide +kernel), by decide +kernel⟩
theorem g_X0_42 (C : Cx p s m args meth c cc nL RX0 ret D A ct a) (hd : decode cc pc = .ok (.getfield 42, 3)) (k : KW p l e R s m args below meth c cells slots Q D A ct a nL M (pc + 3) lv (.int (gI M 2 9) :: st)) : KW p l e R s m args below meth c cells slots Q D A ct a nL M pc lv (.ref (a 2) :: st) := q_get (k := 2) (j := 9) C rfl rfl rfl (by decide) iw_X0 wf_X0_42 hd k
theorem p_X0_42 {v : Int32} (C : Cx p s m args meth c cc nL RX0 ret D A ct a)  (hd : decode cc pc = .ok (.putfield 42, 3)) (k : KW p l e R s m args below meth c cells slots Q D A ct a nL (sI M 2 9 v) (pc + 3) lv st) : KW p l e R s m args below meth c cells slots Q D A ct a nL M pc lv (.int v :: .ref (a 2) :: st) := q_putI (k := 2) (j := 9) (ty := .int) C rfl rfl rfl (by decide) iw_X0 tyX0_ok nmX0 wf_X0_42 rfl (by decide +kernel) rfl rfl hd k
theorem wf_X0_45 : Cond.fieldLink RX0 45 (TX0 10).1 (TX0 10).2.1 (TX0 10).2.2.1 ∈ tbw := List.mem_filter.mpr ⟨List.mem_of_getElem? (i := 91) (by decide +kernel), by decide +kernel⟩
theorem g_X0_45 (C : Cx p s m args meth c cc nL RX0 ret D A ct a) (hd : decode cc pc = .ok (.getfield 45, 3)) (k : KW p l e R s m args below meth c cells slots Q D A ct a nL M (pc + 3) lv (.int (gI M 2 10) :: st)) : KW p l e R s m args below meth c cells slots Q D A ct a nL M pc lv (.ref (a 2) :: st) := q_get (k := 2) (j := 10) C rfl rfl rfl (by decide) iw_X0 wf_X0_45 hd k
theorem p_X0_45 {v : Int32} (C : Cx p s m args meth c cc nL RX0 ret D A ct a)  (hd : decode cc pc = .ok (.putfield 45, 3)) (k : KW p l e R s m args below meth c cells slots Q D A ct a nL (sI M 2 10 v) (pc + 3) lv st) : KW p l e R s m args below meth c cells slots Q D A ct a nL M pc lv (.int v :: .ref (a 2) :: st) := q_putI (k := 2) (j := 10) (ty := .int) C rfl rfl rfl (by decide) iw_X0 tyX0_ok nmX0 wf_X0_45 rfl (by decide +kernel) rfl rfl hd k
theorem wf_X0_48 : Cond.fieldLink RX0 48 (TX0 11).1 (TX0 11).2.1 (TX0 11).2.2.1 ∈ tbw := List.mem_filter.mpr ⟨List.mem_of_getElem? (i := 92) (by decide +kernel), by decide +kernel⟩
theorem g_X0_48 (C : Cx p s m args meth c cc nL RX0 ret D A ct a) (hd : decode cc pc = .ok (.getfield 48, 3)) (k : KW p l e R s m args below meth c cells slots Q D A ct a nL M (pc + 3) lv (.int (gI M 2 11) :: st)) : KW p l e R s m args below meth c cells slots Q D A ct a nL M pc lv (.ref (a 2) :: st) := q_get (k := 2) (j := 11) C rfl rfl rfl (by decide) iw_X0 wf_X0_48 hd k
theorem p_X0_48 {v : Int32} (C : Cx p s m args meth c cc nL RX0 ret D A ct a)  (hd : decode cc pc = .ok (.putfield 48, 3)) (k : KW p l e R s m args below meth c cells slots Q D A ct a nL (sI M 2 11 v) (pc + 3) lv st) : KW p l e R s m args below meth c cells slots Q D A ct a nL M pc lv (.int v :: .ref (a 2) :: st) := q_putI (k := 2) (j := 11) (ty := .int) C rfl rfl rfl (by decide) iw_X0 tyX0_ok nmX0 wf_X0_48 rfl (by decide +kernel) rfl rfl hd k
theorem cw_X0_51 : cwS' RX0 51 yJ7_fill_53178 cJ7_fill_53178 4 none 2 := ⟨⟨⟨List.mem_filter.mpr ⟨List.mem_of_getElem? (i := 78) (by decide +kernel), by decide +kernel⟩, List.mem_filter.mpr ⟨List.mem_of_getElem? (i := 80) (by decide +kernel), by decide +kernel⟩, List.mem_filter.mpr ⟨List.mem_of_getElem? (i := 30) (by decide +kernel), by decide +kernel⟩⟩, by decide +kernel, by decide +kernel, by decide +kernel⟩, List.mem_filter.mpr ⟨List.mem_of_getElem? (i := 79) (by decide +kernel), by decide +kernel⟩⟩
theorem cw_X0_57 : cwV' RX0 57 yX0_part cX0_part 4 (some .int) 1 := ⟨⟨⟨List.mem_filter.mpr ⟨List.mem_of_getElem? (i := 361) (by decide +kernel), by decide +kernel⟩, List.mem_filter.mpr ⟨List.mem_of_getElem? (i := 352) (by decide +kernel), by decide +kernel⟩, List.mem_filter.mpr ⟨List.mem_of_getElem? (i := 29) (by decide +kernel), by decide +kernel⟩⟩, by decide +kernel, by decide +kernel, by decide +kernel⟩, List.mem_filter.mpr ⟨List.mem_of_getElem? (i := 350) (by decide +kernel), by decide +kernel⟩, List.mem_filter.mpr ⟨List.mem_of_getElem? (i := 351) (by decide +kernel), by decide +kernel⟩⟩
theorem cw_X0_61 : cwV' RX0 61 yX0_takeSample cX0_takeSample 2 none 1 := ⟨⟨⟨List.mem_filter.mpr ⟨List.mem_of_getElem? (i := 402) (by decide +kernel), by decide +kernel⟩, List.mem_filter.mpr ⟨List.mem_of_getElem? (i := 405) (by decide +kernel), by decide +kernel⟩, List.mem_filter.mpr ⟨List.mem_of_getElem? (i := 29) (by decide +kernel), by decide +kernel⟩⟩, by decide +kernel, by decide +kernel, by decide +kernel⟩, List.mem_filter.mpr ⟨List.mem_of_getElem? (i := 404) (by decide +kernel), by decide +kernel⟩, List.mem_filter.mpr ⟨List.mem_of_getElem? (i := 0) (by decide +kernel), by decide +kernel⟩⟩
theorem cw_X0_65 : cwV' RX0 65 yX0_readYoungest cX0_readYoungest 3 (some .int) 0 := ⟨⟨⟨List.mem_filter.mpr ⟨List.mem_of_getElem? (i := 408) (by decide +kernel), by decide +kernel⟩, List.mem_filter.mpr ⟨List.mem_of_getElem? (i := 411) (by decide +kernel), by decide +kernel⟩, List.mem_filter.mpr ⟨List.mem_of_getElem? (i := 29) (by decide +kernel), by decide +kernel⟩⟩, by decide +kernel, by decide +kernel, by decide +kernel⟩, List.mem_filter.mpr ⟨List.mem_of_getElem? (i := 410) (by decide +kernel), by decide +kernel⟩, List.mem_filter.mpr ⟨List.mem_of_getElem? (i := 1) (by decide +kernel), by decide +kernel⟩⟩
theorem cw_X0_69 : cwV' RX0 69 yX0_correct cX0_correct 6 (some .int) 1 := ⟨⟨⟨List.mem_filter.mpr ⟨List.mem_of_getElem? (i := 412) (by decide +kernel), by decide +kernel⟩, List.mem_filter.mpr ⟨List.mem_of_getElem? (i := 415) (by decide +kernel), by decide +kernel⟩, List.mem_filter.mpr ⟨List.mem_of_getElem? (i := 29) (by decide +kernel), by decide +kernel⟩⟩, by decide +kernel, by decide +kernel, by decide +kernel⟩, List.mem_filter.mpr ⟨List.mem_of_getElem? (i := 414) (by decide +kernel), by decide +kernel⟩, List.mem_filter.mpr ⟨List.mem_of_getElem? (i := 2) (by decide +kernel), by decide +kernel⟩⟩
theorem cw_X0_72 : cwV' RX0 72 yX0_numberUpper cX0_numberUpper 1 (some .int) 0 := ⟨⟨⟨List.mem_filter.mpr ⟨List.mem_of_getElem? (i := 406) (by decide +kernel), by decide +kernel⟩, List.mem_filter.mpr ⟨List.mem_of_getElem? (i := 360) (by decide +kernel), by decide +kernel⟩, List.mem_filter.mpr ⟨List.mem_of_getElem? (i := 29) (by decide +kernel), by decide +kernel⟩⟩, by decide +kernel, by decide +kernel, by decide +kernel⟩, List.mem_filter.mpr ⟨List.mem_of_getElem? (i := 358) (by decide +kernel), by decide +kernel⟩, List.mem_filter.mpr ⟨List.mem_of_getElem? (i := 359) (by decide +kernel), by decide +kernel⟩⟩
theorem cw_X0_75 : cwV' RX0 75 yX0_numberLower cX0_numberLower 1 (some .int) 0 := ⟨⟨⟨List.mem_filter.mpr ⟨List.mem_of_getElem? (i := 407) (by decide +kernel), by decide +kernel⟩, List.mem_filter.mpr ⟨List.mem_of_getElem? (i := 365) (by decide +kernel), by decide +kernel⟩, List.mem_filter.mpr ⟨List.mem_of_getElem? (i := 29) (by decide +kernel), by decide +kernel⟩⟩, by decide +kernel, by decide +kernel, by decide +kernel⟩, List.mem_filter.mpr ⟨List.mem_of_getElem? (i := 363) (by decide +kernel), by decide +kernel⟩, List.mem_filter.mpr ⟨List.mem_of_getElem? (i := 364) (by decide +kernel), by decide +kernel⟩⟩
theorem cw_X0_78 : cwV' RX0 78 yX0_shift cX0_shift 4 (some .boolean) 2 := ⟨⟨⟨List.mem_filter.mpr ⟨List.mem_of_getElem? (i := 416) (by decide +kernel), by decide +kernel⟩, List.mem_filter.mpr ⟨List.mem_of_getElem? (i := 419) (by decide +kernel), by decide +kernel⟩, List.mem_filter.mpr ⟨List.mem_of_getElem? (i := 29) (by decide +kernel), by decide +kernel⟩⟩, by decide +kernel, by decide +kernel, by decide +kernel⟩, List.mem_filter.mpr ⟨List.mem_of_getElem? (i := 418) (by decide +kernel), by decide +kernel⟩, List.mem_filter.mpr ⟨List.mem_of_getElem? (i := 3) (by decide +kernel), by decide +kernel⟩⟩
theorem wm_X0_82 : Cond.methodLink RX0 82 Lib.Math.min.name ∈ tbw := List.mem_filter.mpr ⟨List.mem_of_getElem? (i := 420) (by decide +kernel), by decide +kernel⟩
theorem wf_X1_9 : Cond.fieldLink RX1 9 (TX1 0).1 (TX1 0).2.1 (TX1 0).2.2.1 ∈ tbw := List.mem_filter.mpr ⟨List.mem_of_getElem? (i := 210) (by decide +kernel), by decide +kernel⟩
theorem g_X1_9 (C : Cx p s m args meth c cc nL RX1 ret D A ct a) (hd : decode cc pc = .ok (.getfield 9, 3)) (k : KW p l e R s m args below meth c cells slots Q D A ct a nL M (pc + 3) lv (.ref (a 43) :: st)) : KW p l e R s m args below meth c cells slots Q D A ct a nL M pc lv (.ref (a 6) :: st) := q_get (k := 6) (j := 0) C rfl rfl rfl (by decide) iw_X1 wf_X1_9 hd k
theorem wf_X1_15 : Cond.fieldLink RX1 15 (TX1 1).1 (TX1 1).2.1 (TX1 1).2.2.1 ∈ tbw := List.mem_filter.mpr ⟨List.mem_of_getElem? (i := 211) (by decide +kernel), by decide +kernel⟩
theorem g_X1_15 (C : Cx p s m args meth c cc nL RX1 ret D A ct a) (hd : decode cc pc = .ok (.getfield 15, 3)) (k : KW p l e R s m args below meth c cells slots Q D A ct a nL M (pc + 3) lv (.int (gI M 6 1) :: st)) : KW p l e R s m args below meth c cells slots Q D A ct a nL M pc lv (.ref (a 6) :: st) := q_get (k := 6) (j := 1) C rfl rfl rfl (by decide) iw_X1 wf_X1_15 hd k
theorem p_X1_15 {v : Int32} (C : Cx p s m args meth c cc nL RX1 ret D A ct a)  (hd : decode cc pc = .ok (.putfield 15, 3)) (k : KW p l e R s m args below meth c cells slots Q D A ct a nL (sI M 6 1 v) (pc + 3) lv st) : KW p l e R s m args below meth c cells slots Q D A ct a nL M pc lv (.int v :: .ref (a 6) :: st) := q_putI (k := 6) (j := 1) (ty := .int) C rfl rfl rfl (by decide) iw_X1 tyX1_ok nmX1 wf_X1_15 rfl (by decide +kernel) rfl rfl hd k
theorem wf_X2_9 : Cond.fieldLink RX2 9 (TX2 0).1 (TX2 0).2.1 (TX2 0).2.2.1 ∈ tbw := List.mem_filter.mpr ⟨List.mem_of_getElem? (i := 52) (by decide +kernel), by decide +kernel⟩
theorem g_X2_9 (C : Cx p s m args meth c cc nL RX2 ret D A ct a) (hd : decode cc pc = .ok (.getfield 9, 3)) (k : KW p l e R s m args below meth c cells slots Q D A ct a nL M (pc + 3) lv (.ref (a 7) :: st)) : KW p l e R s m args below meth c cells slots Q D A ct a nL M pc lv (.ref (a 1) :: st) := q_get (k := 1) (j := 0) C rfl rfl rfl (by decide) iw_X2 wf_X2_9 hd k
theorem wf_X2_15 : Cond.fieldLink RX2 15 (TX2 1).1 (TX2 1).2.1 (TX2 1).2.2.1 ∈ tbw := List.mem_filter.mpr ⟨List.mem_of_getElem? (i := 53) (by decide +kernel), by decide +kernel⟩
theorem g_X2_15 (C : Cx p s m args meth c cc nL RX2 ret D A ct a) (hd : decode cc pc = .ok (.getfield 15, 3)) (k : KW p l e R s m args below meth c cells slots Q D A ct a nL M (pc + 3) lv (.ref (a 8) :: st)) : KW p l e R s m args below meth c cells slots Q D A ct a nL M pc lv (.ref (a 1) :: st) := q_get (k := 1) (j := 1) C rfl rfl rfl (by decide) iw_X2 wf_X2_15 hd k
theorem wf_X2_18 : Cond.fieldLink RX2 18 (TX2 2).1 (TX2 2).2.1 (TX2 2).2.2.1 ∈ tbw := List.mem_filter.mpr ⟨List.mem_of_getElem? (i := 54) (by decide +kernel), by decide +kernel⟩
theorem g_X2_18 (C : Cx p s m args meth c cc nL RX2 ret D A ct a) (hd : decode cc pc = .ok (.getfield 18, 3)) (k : KW p l e R s m args below meth c cells slots Q D A ct a nL M (pc + 3) lv (.ref (a 9) :: st)) : KW p l e R s m args below meth c cells slots Q D A ct a nL M pc lv (.ref (a 1) :: st) := q_get (k := 1) (j := 2) C rfl rfl rfl (by decide) iw_X2 wf_X2_18 hd k
theorem wf_X2_22 : Cond.fieldLink RX2 22 (TX2 3).1 (TX2 3).2.1 (TX2 3).2.2.1 ∈ tbw := List.mem_filter.mpr ⟨List.mem_of_getElem? (i := 55) (by decide +kernel), by decide +kernel⟩
theorem g_X2_22 (C : Cx p s m args meth c cc nL RX2 ret D A ct a) (hd : decode cc pc = .ok (.getfield 22, 3)) (k : KW p l e R s m args below meth c cells slots Q D A ct a nL M (pc + 3) lv (.ref (a 10) :: st)) : KW p l e R s m args below meth c cells slots Q D A ct a nL M pc lv (.ref (a 1) :: st) := q_get (k := 1) (j := 3) C rfl rfl rfl (by decide) iw_X2 wf_X2_22 hd k
theorem wf_X2_25 : Cond.fieldLink RX2 25 (TX2 4).1 (TX2 4).2.1 (TX2 4).2.2.1 ∈ tbw := List.mem_filter.mpr ⟨List.mem_of_getElem? (i := 56) (by decide +kernel), by decide +kernel⟩
theorem g_X2_25 (C : Cx p s m args meth c cc nL RX2 ret D A ct a) (hd : decode cc pc = .ok (.getfield 25, 3)) (k : KW p l e R s m args below meth c cells slots Q D A ct a nL M (pc + 3) lv (.int (gI M 1 4) :: st)) : KW p l e R s m args below meth c cells slots Q D A ct a nL M pc lv (.ref (a 1) :: st) := q_get (k := 1) (j := 4) C rfl rfl rfl (by decide) iw_X2 wf_X2_25 hd k
theorem p_X2_25 {v : Int32} (C : Cx p s m args meth c cc nL RX2 ret D A ct a)  (hd : decode cc pc = .ok (.putfield 25, 3)) (k : KW p l e R s m args below meth c cells slots Q D A ct a nL (sI M 1 4 v) (pc + 3) lv st) : KW p l e R s m args below meth c cells slots Q D A ct a nL M pc lv (.int v :: .ref (a 1) :: st) := q_putI (k := 1) (j := 4) (ty := .int) C rfl rfl rfl (by decide) iw_X2 tyX2_ok nmX2 wf_X2_25 rfl (by decide +kernel) rfl rfl hd k
theorem wm_X2_29 : Cond.methodLink RX2 29 Lib.Math.abs.name ∈ tbw := List.mem_filter.mpr ⟨List.mem_of_getElem? (i := 261) (by decide +kernel), by decide +kernel⟩
theorem wm_X2_35 : Cond.methodLink RX2 35 Lib.Math.min.name ∈ tbw := List.mem_filter.mpr ⟨List.mem_of_getElem? (i := 296) (by decide +kernel), by decide +kernel⟩
theorem wm_X2_39 : Cond.methodLink RX2 39 Lib.Math.max.name ∈ tbw := List.mem_filter.mpr ⟨List.mem_of_getElem? (i := 299) (by decide +kernel), by decide +kernel⟩
theorem wf_X3_9 : Cond.fieldLink RX3 9 (TX3 0).1 (TX3 0).2.1 (TX3 0).2.2.1 ∈ tbw := List.mem_filter.mpr ⟨List.mem_of_getElem? (i := 124) (by decide +kernel), by decide +kernel⟩
theorem g_X3_9 (C : Cx p s m args meth c cc nL RX3 ret D A ct a) (hd : decode cc pc = .ok (.getfield 9, 3)) (k : KW p l e R s m args below meth c cells slots Q D A ct a nL M (pc + 3) lv (.ref (a 20) :: st)) : KW p l e R s m args below meth c cells slots Q D A ct a nL M pc lv (.ref (a 3) :: st) := q_get (k := 3) (j := 0) C rfl rfl rfl (by decide) iw_X3 wf_X3_9 hd k
theorem wf_X3_15 : Cond.fieldLink RX3 15 (TX3 1).1 (TX3 1).2.1 (TX3 1).2.2.1 ∈ tbw := List.mem_filter.mpr ⟨List.mem_of_getElem? (i := 125) (by decide +kernel), by decide +kernel⟩
theorem g_X3_15 (C : Cx p s m args meth c cc nL RX3 ret D A ct a) (hd : decode cc pc = .ok (.getfield 15, 3)) (k : KW p l e R s m args below meth c cells slots Q D A ct a nL M (pc + 3) lv (.ref (a 21) :: st)) : KW p l e R s m args below meth c cells slots Q D A ct a nL M pc lv (.ref (a 3) :: st) := q_get (k := 3) (j := 1) C rfl rfl rfl (by decide) iw_X3 wf_X3_15 hd k
theorem wf_X3_18 : Cond.fieldLink RX3 18 (TX3 2).1 (TX3 2).2.1 (TX3 2).2.2.1 ∈ tbw := List.mem_filter.mpr ⟨List.mem_of_getElem? (i := 126) (by decide +kernel), by decide +kernel⟩
theorem g_X3_18 (C : Cx p s m args meth c cc nL RX3 ret D A ct a) (hd : decode cc pc = .ok (.getfield 18, 3)) (k : KW p l e R s m args below meth c cells slots Q D A ct a nL M (pc + 3) lv (.ref (a 22) :: st)) : KW p l e R s m args below meth c cells slots Q D A ct a nL M pc lv (.ref (a 3) :: st) := q_get (k := 3) (j := 2) C rfl rfl rfl (by decide) iw_X3 wf_X3_18 hd k
theorem wf_X3_21 : Cond.fieldLink RX3 21 (TX3 3).1 (TX3 3).2.1 (TX3 3).2.2.1 ∈ tbw := List.mem_filter.mpr ⟨List.mem_of_getElem? (i := 127) (by decide +kernel), by decide +kernel⟩
theorem g_X3_21 (C : Cx p s m args meth c cc nL RX3 ret D A ct a) (hd : decode cc pc = .ok (.getfield 21, 3)) (k : KW p l e R s m args below meth c cells slots Q D A ct a nL M (pc + 3) lv (.ref (a 23) :: st)) : KW p l e R s m args below meth c cells slots Q D A ct a nL M pc lv (.ref (a 3) :: st) := q_get (k := 3) (j := 3) C rfl rfl rfl (by decide) iw_X3 wf_X3_21 hd k
theorem wf_X3_24 : Cond.fieldLink RX3 24 (TX3 4).1 (TX3 4).2.1 (TX3 4).2.2.1 ∈ tbw := List.mem_filter.mpr ⟨List.mem_of_getElem? (i := 128) (by decide +kernel), by decide +kernel⟩
theorem g_X3_24 (C : Cx p s m args meth c cc nL RX3 ret D A ct a) (hd : decode cc pc = .ok (.getfield 24, 3)) (k : KW p l e R s m args below meth c cells slots Q D A ct a nL M (pc + 3) lv (.ref (a 24) :: st)) : KW p l e R s m args below meth c cells slots Q D A ct a nL M pc lv (.ref (a 3) :: st) := q_get (k := 3) (j := 4) C rfl rfl rfl (by decide) iw_X3 wf_X3_24 hd k
theorem wf_X3_27 : Cond.fieldLink RX3 27 (TX3 5).1 (TX3 5).2.1 (TX3 5).2.2.1 ∈ tbw := List.mem_filter.mpr ⟨List.mem_of_getElem? (i := 129) (by decide +kernel), by decide +kernel⟩
theorem g_X3_27 (C : Cx p s m args meth c cc nL RX3 ret D A ct a) (hd : decode cc pc = .ok (.getfield 27, 3)) (k : KW p l e R s m args below meth c cells slots Q D A ct a nL M (pc + 3) lv (.ref (a 25) :: st)) : KW p l e R s m args below meth c cells slots Q D A ct a nL M pc lv (.ref (a 3) :: st) := q_get (k := 3) (j := 5) C rfl rfl rfl (by decide) iw_X3 wf_X3_27 hd k
theorem wf_X3_31 : Cond.fieldLink RX3 31 (TX3 6).1 (TX3 6).2.1 (TX3 6).2.2.1 ∈ tbw := List.mem_filter.mpr ⟨List.mem_of_getElem? (i := 130) (by decide +kernel), by decide +kernel⟩
theorem g_X3_31 (C : Cx p s m args meth c cc nL RX3 ret D A ct a) (hd : decode cc pc = .ok (.getfield 31, 3)) (k : KW p l e R s m args below meth c cells slots Q D A ct a nL M (pc + 3) lv (.int (gI M 3 6) :: st)) : KW p l e R s m args below meth c cells slots Q D A ct a nL M pc lv (.ref (a 3) :: st) := q_get (k := 3) (j := 6) C rfl rfl rfl (by decide) iw_X3 wf_X3_31 hd k
theorem p_X3_31 {v : Int32} (C : Cx p s m args meth c cc nL RX3 ret D A ct a)  (hd : decode cc pc = .ok (.putfield 31, 3)) (k : KW p l e R s m args below meth c cells slots Q D A ct a nL (sI M 3 6 v) (pc + 3) lv st) : KW p l e R s m args below meth c cells slots Q D A ct a nL M pc lv (.int v :: .ref (a 3) :: st) := q_putI (k := 3) (j := 6) (ty := .int) C rfl rfl rfl (by decide) iw_X3 tyX3_ok nmX3 wf_X3_31 rfl (by decide +kernel) rfl rfl hd k
theorem wf_X3_35 : Cond.fieldLink RX3 35 (TX3 7).1 (TX3 7).2.1 (TX3 7).2.2.1 ∈ tbw := List.mem_filter.mpr ⟨List.mem_of_getElem? (i := 131) (by decide +kernel), by decide +kernel⟩
theorem g_X3_35 (C : Cx p s m args meth c cc nL RX3 ret D A ct a) (hd : decode cc pc = .ok (.getfield 35, 3)) (k : KW p l e R s m args below meth c cells slots Q D A ct a nL M (pc + 3) lv (.int (gI M 3 7) :: st)) : KW p l e R s m args below meth c cells slots Q D A ct a nL M pc lv (.ref (a 3) :: st) := q_get (k := 3) (j := 7) C rfl rfl rfl (by decide) iw_X3 wf_X3_35 hd k
theorem p_X3_35 {v : Int32} (C : Cx p s m args meth c cc nL RX3 ret D A ct a)  (hd : decode cc pc = .ok (.putfield 35, 3)) (k : KW p l e R s m args below meth c cells slots Q D A ct a nL (sI M 3 7 v) (pc + 3) lv st) : KW p l e R s m args below meth c cells slots Q D A ct a nL M pc lv (.int v :: .ref (a 3) :: st) := q_putI (k := 3) (j := 7) (ty := .int) C rfl rfl rfl (by decide) iw_X3 tyX3_ok nmX3 wf_X3_35 rfl (by decide +kernel) rfl rfl hd k
theorem wf_X3_38 : Cond.fieldLink RX3 38 (TX3 8).1 (TX3 8).2.1 (TX3 8).2.2.1 ∈ tbw := List.mem_filter.mpr ⟨List.mem_of_getElem? (i := 132) (by decide +kernel), by decide +kernel⟩
theorem g_X3_38 (C : Cx p s m args meth c cc nL RX3 ret D A ct a) (hd : decode cc pc = .ok (.getfield 38, 3)) (k : KW p l e R s m args below meth c cells slots Q D A ct a nL M (pc + 3) lv (.int (gI M 3 8) :: st)) : KW p l e R s m args below meth c cells slots Q D A ct a nL M pc lv (.ref (a 3) :: st) := q_get (k := 3) (j := 8) C rfl rfl rfl (by decide) iw_X3 wf_X3_38 hd k
theorem p_X3_38 {v : Int32} (C : Cx p s m args meth c cc nL RX3 ret D A ct a) (hz : narrow .boolean (.int v) = .int v) (hf : fits .boolean (.int v) = true) (hd : decode cc pc = .ok (.putfield 38, 3)) (k : KW p l e R s m args below meth c cells slots Q D A ct a nL (sI M 3 8 v) (pc + 3) lv st) : KW p l e R s m args below meth c cells slots Q D A ct a nL M pc lv (.int v :: .ref (a 3) :: st) := q_putI (k := 3) (j := 8) (ty := .boolean) C rfl rfl rfl (by decide) iw_X3 tyX3_ok nmX3 wf_X3_38 rfl (by decide +kernel) hz hf hd k
theorem wf_X3_42 : Cond.fieldLink RX3 42 "KilnLine$Kiln" "KINDS" "[I" ∈ tbw := List.mem_filter.mpr ⟨List.mem_of_getElem? (i := 454) (by decide +kernel), by decide +kernel⟩
theorem cw_X3_45 : cwV' RX3 45 yX3_passGas cX3_passGas 5 (some .int) 1 := ⟨⟨⟨List.mem_filter.mpr ⟨List.mem_of_getElem? (i := 450) (by decide +kernel), by decide +kernel⟩, List.mem_filter.mpr ⟨List.mem_of_getElem? (i := 453) (by decide +kernel), by decide +kernel⟩, List.mem_filter.mpr ⟨List.mem_of_getElem? (i := 31) (by decide +kernel), by decide +kernel⟩⟩, by decide +kernel, by decide +kernel, by decide +kernel⟩, List.mem_filter.mpr ⟨List.mem_of_getElem? (i := 452) (by decide +kernel), by decide +kernel⟩, List.mem_filter.mpr ⟨List.mem_of_getElem? (i := 4) (by decide +kernel), by decide +kernel⟩⟩
theorem cw_X3_49 : cwV' RX3 49 yX3_handOn cX3_handOn 3 none 1 := ⟨⟨⟨List.mem_filter.mpr ⟨List.mem_of_getElem? (i := 456) (by decide +kernel), by decide +kernel⟩, List.mem_filter.mpr ⟨List.mem_of_getElem? (i := 459) (by decide +kernel), by decide +kernel⟩, List.mem_filter.mpr ⟨List.mem_of_getElem? (i := 31) (by decide +kernel), by decide +kernel⟩⟩, by decide +kernel, by decide +kernel, by decide +kernel⟩, List.mem_filter.mpr ⟨List.mem_of_getElem? (i := 458) (by decide +kernel), by decide +kernel⟩, List.mem_filter.mpr ⟨List.mem_of_getElem? (i := 5) (by decide +kernel), by decide +kernel⟩⟩
theorem cw_X3_53 : cwV' RX3 53 yX3_tellOut cX3_tellOut 3 none 0 := ⟨⟨⟨List.mem_filter.mpr ⟨List.mem_of_getElem? (i := 461) (by decide +kernel), by decide +kernel⟩, List.mem_filter.mpr ⟨List.mem_of_getElem? (i := 464) (by decide +kernel), by decide +kernel⟩, List.mem_filter.mpr ⟨List.mem_of_getElem? (i := 31) (by decide +kernel), by decide +kernel⟩⟩, by decide +kernel, by decide +kernel, by decide +kernel⟩, List.mem_filter.mpr ⟨List.mem_of_getElem? (i := 463) (by decide +kernel), by decide +kernel⟩, List.mem_filter.mpr ⟨List.mem_of_getElem? (i := 6) (by decide +kernel), by decide +kernel⟩⟩
theorem cw_X3_56 : cwV' RX3 56 yX3_findCause cX3_findCause 4 none 1 := ⟨⟨⟨List.mem_filter.mpr ⟨List.mem_of_getElem? (i := 465) (by decide +kernel), by decide +kernel⟩, List.mem_filter.mpr ⟨List.mem_of_getElem? (i := 468) (by decide +kernel), by decide +kernel⟩, List.mem_filter.mpr ⟨List.mem_of_getElem? (i := 31) (by decide +kernel), by decide +kernel⟩⟩, by decide +kernel, by decide +kernel, by decide +kernel⟩, List.mem_filter.mpr ⟨List.mem_of_getElem? (i := 467) (by decide +kernel), by decide +kernel⟩, List.mem_filter.mpr ⟨List.mem_of_getElem? (i := 7) (by decide +kernel), by decide +kernel⟩⟩
theorem cw_X3_59 : cwV' RX3 59 yX3_addSums cX3_addSums 3 none 2 := ⟨⟨⟨List.mem_filter.mpr ⟨List.mem_of_getElem? (i := 482) (by decide +kernel), by decide +kernel⟩, List.mem_filter.mpr ⟨List.mem_of_getElem? (i := 485) (by decide +kernel), by decide +kernel⟩, List.mem_filter.mpr ⟨List.mem_of_getElem? (i := 31) (by decide +kernel), by decide +kernel⟩⟩, by decide +kernel, by decide +kernel, by decide +kernel⟩, List.mem_filter.mpr ⟨List.mem_of_getElem? (i := 484) (by decide +kernel), by decide +kernel⟩, List.mem_filter.mpr ⟨List.mem_of_getElem? (i := 11) (by decide +kernel), by decide +kernel⟩⟩
theorem wk_X3_63 : Cond.constantLong RX3 63 (100) ∈ tbw := List.mem_filter.mpr ⟨List.mem_of_getElem? (i := 460) (by decide +kernel), by decide +kernel⟩
theorem cw_X3_65 : cwV' RX3 65 yX3_leastTooHot cX3_leastTooHot 2 (some .int) 0 := ⟨⟨⟨List.mem_filter.mpr ⟨List.mem_of_getElem? (i := 469) (by decide +kernel), by decide +kernel⟩, List.mem_filter.mpr ⟨List.mem_of_getElem? (i := 472) (by decide +kernel), by decide +kernel⟩, List.mem_filter.mpr ⟨List.mem_of_getElem? (i := 31) (by decide +kernel), by decide +kernel⟩⟩, by decide +kernel, by decide +kernel, by decide +kernel⟩, List.mem_filter.mpr ⟨List.mem_of_getElem? (i := 471) (by decide +kernel), by decide +kernel⟩, List.mem_filter.mpr ⟨List.mem_of_getElem? (i := 8) (by decide +kernel), by decide +kernel⟩⟩
theorem cw_X3_69 : cwV' RX3 69 yX3_leastTooMuch cX3_leastTooMuch 2 (some .int) 0 := ⟨⟨⟨List.mem_filter.mpr ⟨List.mem_of_getElem? (i := 474) (by decide +kernel), by decide +kernel⟩, List.mem_filter.mpr ⟨List.mem_of_getElem? (i := 477) (by decide +kernel), by decide +kernel⟩, List.mem_filter.mpr ⟨List.mem_of_getElem? (i := 31) (by decide +kernel), by decide +kernel⟩⟩, by decide +kernel, by decide +kernel, by decide +kernel⟩, List.mem_filter.mpr ⟨List.mem_of_getElem? (i := 476) (by decide +kernel), by decide +kernel⟩, List.mem_filter.mpr ⟨List.mem_of_getElem? (i := 9) (by decide +kernel), by decide +kernel⟩⟩
theorem cw_X3_72 : cwV' RX3 72 yX3_setCause cX3_setCause 3 none 2 := ⟨⟨⟨List.mem_filter.mpr ⟨List.mem_of_getElem? (i := 478) (by decide +kernel), by decide +kernel⟩, List.mem_filter.mpr ⟨List.mem_of_getElem? (i := 481) (by decide +kernel), by decide +kernel⟩, List.mem_filter.mpr ⟨List.mem_of_getElem? (i := 31) (by decide +kernel), by decide +kernel⟩⟩, by decide +kernel, by decide +kernel, by decide +kernel⟩, List.mem_filter.mpr ⟨List.mem_of_getElem? (i := 480) (by decide +kernel), by decide +kernel⟩, List.mem_filter.mpr ⟨List.mem_of_getElem? (i := 10) (by decide +kernel), by decide +kernel⟩⟩
theorem wk_X3_75 : Cond.constantLong RX3 75 (200) ∈ tbw := List.mem_filter.mpr ⟨List.mem_of_getElem? (i := 473) (by decide +kernel), by decide +kernel⟩
theorem wf_X4_9 : Cond.fieldLink RX4 9 (TX4 0).1 (TX4 0).2.1 (TX4 0).2.2.1 ∈ tbw := List.mem_filter.mpr ⟨List.mem_of_getElem? (i := 188) (by decide +kernel), by decide +kernel⟩
theorem g_X4_9 (C : Cx p s m args meth c cc nL RX4 ret D A ct a) (hd : decode cc pc = .ok (.getfield 9, 3)) (k : KW p l e R s m args below meth c cells slots Q D A ct a nL M (pc + 3) lv (.ref (a 32) :: st)) : KW p l e R s m args below meth c cells slots Q D A ct a nL M pc lv (.ref (a 5) :: st) := q_get (k := 5) (j := 0) C rfl rfl rfl (by decide) iw_X4 wf_X4_9 hd k
theorem wf_X4_17 : Cond.fieldLink RX4 17 (TX4 1).1 (TX4 1).2.1 (TX4 1).2.2.1 ∈ tbw := List.mem_filter.mpr ⟨List.mem_of_getElem? (i := 189) (by decide +kernel), by decide +kernel⟩
theorem g_X4_17 (C : Cx p s m args meth c cc nL RX4 ret D A ct a) (hd : decode cc pc = .ok (.getfield 17, 3)) (k : KW p l e R s m args below meth c cells slots Q D A ct a nL M (pc + 3) lv (.ref (a 33) :: st)) : KW p l e R s m args below meth c cells slots Q D A ct a nL M pc lv (.ref (a 5) :: st) := q_get (k := 5) (j := 1) C rfl rfl rfl (by decide) iw_X4 wf_X4_17 hd k
theorem wf_X4_20 : Cond.fieldLink RX4 20 (TX4 2).1 (TX4 2).2.1 (TX4 2).2.2.1 ∈ tbw := List.mem_filter.mpr ⟨List.mem_of_getElem? (i := 190) (by decide +kernel), by decide +kernel⟩
theorem g_X4_20 (C : Cx p s m args meth c cc nL RX4 ret D A ct a) (hd : decode cc pc = .ok (.getfield 20, 3)) (k : KW p l e R s m args below meth c cells slots Q D A ct a nL M (pc + 3) lv (.ref (a 41) :: st)) : KW p l e R s m args below meth c cells slots Q D A ct a nL M pc lv (.ref (a 5) :: st) := q_get (k := 5) (j := 2) C rfl rfl rfl (by decide) iw_X4 wf_X4_20 hd k
theorem wf_X4_24 : Cond.fieldLink RX4 24 (TX4 3).1 (TX4 3).2.1 (TX4 3).2.2.1 ∈ tbw := List.mem_filter.mpr ⟨List.mem_of_getElem? (i := 191) (by decide +kernel), by decide +kernel⟩
theorem g_X4_24 (C : Cx p s m args meth c cc nL RX4 ret D A ct a) (hd : decode cc pc = .ok (.getfield 24, 3)) (k : KW p l e R s m args below meth c cells slots Q D A ct a nL M (pc + 3) lv (.ref (a 42) :: st)) : KW p l e R s m args below meth c cells slots Q D A ct a nL M pc lv (.ref (a 5) :: st) := q_get (k := 5) (j := 3) C rfl rfl rfl (by decide) iw_X4 wf_X4_24 hd k
theorem wf_X4_28 : Cond.fieldLink RX4 28 (TX4 4).1 (TX4 4).2.1 (TX4 4).2.2.1 ∈ tbw := List.mem_filter.mpr ⟨List.mem_of_getElem? (i := 192) (by decide +kernel), by decide +kernel⟩
theorem g_X4_28 (C : Cx p s m args meth c cc nL RX4 ret D A ct a) (hd : decode cc pc = .ok (.getfield 28, 3)) (k : KW p l e R s m args below meth c cells slots Q D A ct a nL M (pc + 3) lv (.int (gI M 5 4) :: st)) : KW p l e R s m args below meth c cells slots Q D A ct a nL M pc lv (.ref (a 5) :: st) := q_get (k := 5) (j := 4) C rfl rfl rfl (by decide) iw_X4 wf_X4_28 hd k
theorem p_X4_28 {v : Int32} (C : Cx p s m args meth c cc nL RX4 ret D A ct a)  (hd : decode cc pc = .ok (.putfield 28, 3)) (k : KW p l e R s m args below meth c cells slots Q D A ct a nL (sI M 5 4 v) (pc + 3) lv st) : KW p l e R s m args below meth c cells slots Q D A ct a nL M pc lv (.int v :: .ref (a 5) :: st) := q_putI (k := 5) (j := 4) (ty := .int) C rfl rfl rfl (by decide) iw_X4 tyX4_ok nmX4 wf_X4_28 rfl (by decide +kernel) rfl rfl hd k
theorem cw_X4_32 : cwS' RX4 32 yJ7_fill_53178 cJ7_fill_53178 4 none 2 := ⟨⟨⟨List.mem_filter.mpr ⟨List.mem_of_getElem? (i := 591) (by decide +kernel), by decide +kernel⟩, List.mem_filter.mpr ⟨List.mem_of_getElem? (i := 80) (by decide +kernel), by decide +kernel⟩, List.mem_filter.mpr ⟨List.mem_of_getElem? (i := 30) (by decide +kernel), by decide +kernel⟩⟩, by decide +kernel, by decide +kernel, by decide +kernel⟩, List.mem_filter.mpr ⟨List.mem_of_getElem? (i := 79) (by decide +kernel), by decide +kernel⟩⟩
theorem wm_X4_38 : Cond.methodLink RX4 38 arraycopyName ∈ tbw := List.mem_filter.mpr ⟨List.mem_of_getElem? (i := 623) (by decide +kernel), by decide +kernel⟩
theorem wk_X4_44 : Cond.constantLong RX4 44 (1152921504606846976) ∈ tbw := List.mem_filter.mpr ⟨List.mem_of_getElem? (i := 642) (by decide +kernel), by decide +kernel⟩
theorem cw_X4_46 : cwS' RX4 46 yJ7_fill_d0a16 cJ7_fill_d0a16 5 none 2 := ⟨⟨⟨List.mem_filter.mpr ⟨List.mem_of_getElem? (i := 643) (by decide +kernel), by decide +kernel⟩, List.mem_filter.mpr ⟨List.mem_of_getElem? (i := 645) (by decide +kernel), by decide +kernel⟩, List.mem_filter.mpr ⟨List.mem_of_getElem? (i := 30) (by decide +kernel), by decide +kernel⟩⟩, by decide +kernel, by decide +kernel, by decide +kernel⟩, List.mem_filter.mpr ⟨List.mem_of_getElem? (i := 644) (by decide +kernel), by decide +kernel⟩⟩
theorem wm_X4_49 : Cond.methodLink RX4 49 Lib.MathLoose.min_long.x ∈ tbw := List.mem_filter.mpr ⟨List.mem_of_getElem? (i := 646) (by decide +kernel), by decide +kernel⟩
theorem cw_X4_55 : cwV' RX4 55 yX4_leastPrice cX4_leastPrice 4 (some .long) 0 := ⟨⟨⟨List.mem_filter.mpr ⟨List.mem_of_getElem? (i := 649) (by decide +kernel), by decide +kernel⟩, List.mem_filter.mpr ⟨List.mem_of_getElem? (i := 652) (by decide +kernel), by decide +kernel⟩, List.mem_filter.mpr ⟨List.mem_of_getElem? (i := 33) (by decide +kernel), by decide +kernel⟩⟩, by decide +kernel, by decide +kernel, by decide +kernel⟩, List.mem_filter.mpr ⟨List.mem_of_getElem? (i := 651) (by decide +kernel), by decide +kernel⟩, List.mem_filter.mpr ⟨List.mem_of_getElem? (i := 13) (by decide +kernel), by decide +kernel⟩⟩
theorem cw_X4_59 : cwS' RX4 59 yX4_priceOf cX4_priceOf 2 (some .long) 1 := ⟨⟨⟨List.mem_filter.mpr ⟨List.mem_of_getElem? (i := 653) (by decide +kernel), by decide +kernel⟩, List.mem_filter.mpr ⟨List.mem_of_getElem? (i := 655) (by decide +kernel), by decide +kernel⟩, List.mem_filter.mpr ⟨List.mem_of_getElem? (i := 33) (by decide +kernel), by decide +kernel⟩⟩, by decide +kernel, by decide +kernel, by decide +kernel⟩, List.mem_filter.mpr ⟨List.mem_of_getElem? (i := 654) (by decide +kernel), by decide +kernel⟩⟩
theorem wk_X4_63 : Cond.constantLong RX4 63 (16777215) ∈ tbw := List.mem_filter.mpr ⟨List.mem_of_getElem? (i := 661) (by decide +kernel), by decide +kernel⟩
theorem cw_X4_65 : cwS' RX4 65 yX4_foldRow cX4_foldRow 9 (some .long) 2 := ⟨⟨⟨List.mem_filter.mpr ⟨List.mem_of_getElem? (i := 734) (by decide +kernel), by decide +kernel⟩, List.mem_filter.mpr ⟨List.mem_of_getElem? (i := 736) (by decide +kernel), by decide +kernel⟩, List.mem_filter.mpr ⟨List.mem_of_getElem? (i := 33) (by decide +kernel), by decide +kernel⟩⟩, by decide +kernel, by decide +kernel, by decide +kernel⟩, List.mem_filter.mpr ⟨List.mem_of_getElem? (i := 735) (by decide +kernel), by decide +kernel⟩⟩
theorem wk_X4_69 : Cond.constantLong RX4 69 (-1) ∈ tbw := List.mem_filter.mpr ⟨List.mem_of_getElem? (i := 738) (by decide +kernel), by decide +kernel⟩
theorem wf_X5_9 : Cond.fieldLink RX5 9 (TX5 0).1 (TX5 0).2.1 (TX5 0).2.2.1 ∈ tbw := List.mem_filter.mpr ⟨List.mem_of_getElem? (i := 159) (by decide +kernel), by decide +kernel⟩
theorem g_X5_9 (C : Cx p s m args meth c cc nL RX5 ret D A ct a) (hd : decode cc pc = .ok (.getfield 9, 3)) (k : KW p l e R s m args below meth c cells slots Q D A ct a nL M (pc + 3) lv (.ref (a 26) :: st)) : KW p l e R s m args below meth c cells slots Q D A ct a nL M pc lv (.ref (a 4) :: st) := q_get (k := 4) (j := 0) C rfl rfl rfl (by decide) iw_X5 wf_X5_9 hd k
theorem wf_X5_15 : Cond.fieldLink RX5 15 (TX5 1).1 (TX5 1).2.1 (TX5 1).2.2.1 ∈ tbw := List.mem_filter.mpr ⟨List.mem_of_getElem? (i := 160) (by decide +kernel), by decide +kernel⟩
theorem g_X5_15 (C : Cx p s m args meth c cc nL RX5 ret D A ct a) (hd : decode cc pc = .ok (.getfield 15, 3)) (k : KW p l e R s m args below meth c cells slots Q D A ct a nL M (pc + 3) lv (.ref (a 27) :: st)) : KW p l e R s m args below meth c cells slots Q D A ct a nL M pc lv (.ref (a 4) :: st) := q_get (k := 4) (j := 1) C rfl rfl rfl (by decide) iw_X5 wf_X5_15 hd k
theorem wf_X5_18 : Cond.fieldLink RX5 18 (TX5 2).1 (TX5 2).2.1 (TX5 2).2.2.1 ∈ tbw := List.mem_filter.mpr ⟨List.mem_of_getElem? (i := 161) (by decide +kernel), by decide +kernel⟩
theorem g_X5_18 (C : Cx p s m args meth c cc nL RX5 ret D A ct a) (hd : decode cc pc = .ok (.getfield 18, 3)) (k : KW p l e R s m args below meth c cells slots Q D A ct a nL M (pc + 3) lv (.ref (a 28) :: st)) : KW p l e R s m args below meth c cells slots Q D A ct a nL M pc lv (.ref (a 4) :: st) := q_get (k := 4) (j := 2) C rfl rfl rfl (by decide) iw_X5 wf_X5_18 hd k
theorem wf_X5_21 : Cond.fieldLink RX5 21 (TX5 3).1 (TX5 3).2.1 (TX5 3).2.2.1 ∈ tbw := List.mem_filter.mpr ⟨List.mem_of_getElem? (i := 162) (by decide +kernel), by decide +kernel⟩
theorem g_X5_21 (C : Cx p s m args meth c cc nL RX5 ret D A ct a) (hd : decode cc pc = .ok (.getfield 21, 3)) (k : KW p l e R s m args below meth c cells slots Q D A ct a nL M (pc + 3) lv (.ref (a 29) :: st)) : KW p l e R s m args below meth c cells slots Q D A ct a nL M pc lv (.ref (a 4) :: st) := q_get (k := 4) (j := 3) C rfl rfl rfl (by decide) iw_X5 wf_X5_21 hd k
theorem wf_X5_24 : Cond.fieldLink RX5 24 (TX5 4).1 (TX5 4).2.1 (TX5 4).2.2.1 ∈ tbw := List.mem_filter.mpr ⟨List.mem_of_getElem? (i := 163) (by decide +kernel), by decide +kernel⟩
theorem g_X5_24 (C : Cx p s m args meth c cc nL RX5 ret D A ct a) (hd : decode cc pc = .ok (.getfield 24, 3)) (k : KW p l e R s m args below meth c cells slots Q D A ct a nL M (pc + 3) lv (.ref (a 30) :: st)) : KW p l e R s m args below meth c cells slots Q D A ct a nL M pc lv (.ref (a 4) :: st) := q_get (k := 4) (j := 4) C rfl rfl rfl (by decide) iw_X5 wf_X5_24 hd k
theorem wf_X5_27 : Cond.fieldLink RX5 27 (TX5 5).1 (TX5 5).2.1 (TX5 5).2.2.1 ∈ tbw := List.mem_filter.mpr ⟨List.mem_of_getElem? (i := 164) (by decide +kernel), by decide +kernel⟩
theorem g_X5_27 (C : Cx p s m args meth c cc nL RX5 ret D A ct a) (hd : decode cc pc = .ok (.getfield 27, 3)) (k : KW p l e R s m args below meth c cells slots Q D A ct a nL M (pc + 3) lv (.ref (a 31) :: st)) : KW p l e R s m args below meth c cells slots Q D A ct a nL M pc lv (.ref (a 4) :: st) := q_get (k := 4) (j := 5) C rfl rfl rfl (by decide) iw_X5 wf_X5_27 hd k
theorem wf_X5_30 : Cond.fieldLink RX5 30 (TX5 6).1 (TX5 6).2.1 (TX5 6).2.2.1 ∈ tbw := List.mem_filter.mpr ⟨List.mem_of_getElem? (i := 165) (by decide +kernel), by decide +kernel⟩
theorem g_X5_30 (C : Cx p s m args meth c cc nL RX5 ret D A ct a) (hd : decode cc pc = .ok (.getfield 30, 3)) (k : KW p l e R s m args below meth c cells slots Q D A ct a nL M (pc + 3) lv (.int (gI M 4 6) :: st)) : KW p l e R s m args below meth c cells slots Q D A ct a nL M pc lv (.ref (a 4) :: st) := q_get (k := 4) (j := 6) C rfl rfl rfl (by decide) iw_X5 wf_X5_30 hd k
theorem p_X5_30 {v : Int32} (C : Cx p s m args meth c cc nL RX5 ret D A ct a)  (hd : decode cc pc = .ok (.putfield 30, 3)) (k : KW p l e R s m args below meth c cells slots Q D A ct a nL (sI M 4 6 v) (pc + 3) lv st) : KW p l e R s m args below meth c cells slots Q D A ct a nL M pc lv (.int v :: .ref (a 4) :: st) := q_putI (k := 4) (j := 6) (ty := .int) C rfl rfl rfl (by decide) iw_X5 tyX5_ok nmX5 wf_X5_30 rfl (by decide +kernel) rfl rfl hd k
theorem cw_X5_34 : cwV' RX5 34 yX5_takeOf cX5_takeOf 5 (some .int) 2 := ⟨⟨⟨List.mem_filter.mpr ⟨List.mem_of_getElem? (i := 562) (by decide +kernel), by decide +kernel⟩, List.mem_filter.mpr ⟨List.mem_of_getElem? (i := 565) (by decide +kernel), by decide +kernel⟩, List.mem_filter.mpr ⟨List.mem_of_getElem? (i := 32) (by decide +kernel), by decide +kernel⟩⟩, by decide +kernel, by decide +kernel, by decide +kernel⟩, List.mem_filter.mpr ⟨List.mem_of_getElem? (i := 564) (by decide +kernel), by decide +kernel⟩, List.mem_filter.mpr ⟨List.mem_of_getElem? (i := 12) (by decide +kernel), by decide +kernel⟩⟩
theorem wm_X5_38 : Cond.methodLink RX5 38 Lib.Math.min.name ∈ tbw := List.mem_filter.mpr ⟨List.mem_of_getElem? (i := 566) (by decide +kernel), by decide +kernel⟩
theorem wf_X6_10 : Cond.fieldLink RX6 10 (TX6 0).1 (TX6 0).2.1 (TX6 0).2.2.1 ∈ tbw := List.mem_filter.mpr ⟨List.mem_of_getElem? (i := 217) (by decide +kernel), by decide +kernel⟩
theorem g_X6_10 (C : Cx p s m args meth c cc nL RX6 ret D A ct a) (hd : decode cc pc = .ok (.getfield 10, 3)) (k : KW p l e R s m args below meth c cells slots Q D A ct a nL M (pc + 3) lv (.ref (a 1) :: st)) : KW p l e R s m args below meth c cells slots Q D A ct a nL M pc lv (.ref (a 0) :: st) := q_get (k := 0) (j := 0) C rfl rfl rfl (by decide) iw_X6 wf_X6_10 hd k
theorem wf_X6_19 : Cond.fieldLink RX6 19 (TX6 1).1 (TX6 1).2.1 (TX6 1).2.2.1 ∈ tbw := List.mem_filter.mpr ⟨List.mem_of_getElem? (i := 218) (by decide +kernel), by decide +kernel⟩
theorem g_X6_19 (C : Cx p s m args meth c cc nL RX6 ret D A ct a) (hd : decode cc pc = .ok (.getfield 19, 3)) (k : KW p l e R s m args below meth c cells slots Q D A ct a nL M (pc + 3) lv (.ref (a 2) :: st)) : KW p l e R s m args below meth c cells slots Q D A ct a nL M pc lv (.ref (a 0) :: st) := q_get (k := 0) (j := 1) C rfl rfl rfl (by decide) iw_X6 wf_X6_19 hd k
theorem wf_X6_26 : Cond.fieldLink RX6 26 (TX6 2).1 (TX6 2).2.1 (TX6 2).2.2.1 ∈ tbw := List.mem_filter.mpr ⟨List.mem_of_getElem? (i := 219) (by decide +kernel), by decide +kernel⟩
theorem g_X6_26 (C : Cx p s m args meth c cc nL RX6 ret D A ct a) (hd : decode cc pc = .ok (.getfield 26, 3)) (k : KW p l e R s m args below meth c cells slots Q D A ct a nL M (pc + 3) lv (.ref (a 3) :: st)) : KW p l e R s m args below meth c cells slots Q D A ct a nL M pc lv (.ref (a 0) :: st) := q_get (k := 0) (j := 2) C rfl rfl rfl (by decide) iw_X6 wf_X6_26 hd k
theorem wf_X6_33 : Cond.fieldLink RX6 33 (TX6 3).1 (TX6 3).2.1 (TX6 3).2.2.1 ∈ tbw := List.mem_filter.mpr ⟨List.mem_of_getElem? (i := 220) (by decide +kernel), by decide +kernel⟩
theorem g_X6_33 (C : Cx p s m args meth c cc nL RX6 ret D A ct a) (hd : decode cc pc = .ok (.getfield 33, 3)) (k : KW p l e R s m args below meth c cells slots Q D A ct a nL M (pc + 3) lv (.ref (a 4) :: st)) : KW p l e R s m args below meth c cells slots Q D A ct a nL M pc lv (.ref (a 0) :: st) := q_get (k := 0) (j := 3) C rfl rfl rfl (by decide) iw_X6 wf_X6_33 hd k
theorem wf_X6_40 : Cond.fieldLink RX6 40 (TX6 4).1 (TX6 4).2.1 (TX6 4).2.2.1 ∈ tbw := List.mem_filter.mpr ⟨List.mem_of_getElem? (i := 221) (by decide +kernel), by decide +kernel⟩
theorem g_X6_40 (C : Cx p s m args meth c cc nL RX6 ret D A ct a) (hd : decode cc pc = .ok (.getfield 40, 3)) (k : KW p l e R s m args below meth c cells slots Q D A ct a nL M (pc + 3) lv (.ref (a 5) :: st)) : KW p l e R s m args below meth c cells slots Q D A ct a nL M pc lv (.ref (a 0) :: st) := q_get (k := 0) (j := 4) C rfl rfl rfl (by decide) iw_X6 wf_X6_40 hd k
theorem wf_X6_47 : Cond.fieldLink RX6 47 (TX6 5).1 (TX6 5).2.1 (TX6 5).2.2.1 ∈ tbw := List.mem_filter.mpr ⟨List.mem_of_getElem? (i := 222) (by decide +kernel), by decide +kernel⟩
theorem g_X6_47 (C : Cx p s m args meth c cc nL RX6 ret D A ct a) (hd : decode cc pc = .ok (.getfield 47, 3)) (k : KW p l e R s m args below meth c cells slots Q D A ct a nL M (pc + 3) lv (.ref (a 6) :: st)) : KW p l e R s m args below meth c cells slots Q D A ct a nL M pc lv (.ref (a 0) :: st) := q_get (k := 0) (j := 5) C rfl rfl rfl (by decide) iw_X6 wf_X6_47 hd k
theorem wf_X6_51 : Cond.fieldLink RX6 51 (TX6 6).1 (TX6 6).2.1 (TX6 6).2.2.1 ∈ tbw := List.mem_filter.mpr ⟨List.mem_of_getElem? (i := 223) (by decide +kernel), by decide +kernel⟩
theorem g_X6_51 (C : Cx p s m args meth c cc nL RX6 ret D A ct a) (hd : decode cc pc = .ok (.getfield 51, 3)) (k : KW p l e R s m args below meth c cells slots Q D A ct a nL M (pc + 3) lv (.long (gJ M 0 6) :: st)) : KW p l e R s m args below meth c cells slots Q D A ct a nL M pc lv (.ref (a 0) :: st) := q_get (k := 0) (j := 6) C rfl rfl rfl (by decide) iw_X6 wf_X6_51 hd k
theorem p_X6_51 {v : Int64} (C : Cx p s m args meth c cc nL RX6 ret D A ct a) (hd : decode cc pc = .ok (.putfield 51, 3)) (k : KW p l e R s m args below meth c cells slots Q D A ct a nL (sJ M 0 6 v) (pc + 3) lv st) : KW p l e R s m args below meth c cells slots Q D A ct a nL M pc lv (.long v :: .ref (a 0) :: st) := q_putJ (k := 0) (j := 6) C rfl rfl rfl (by decide) iw_X6 tyX6_ok nmX6 wf_X6_51 rfl (by decide +kernel) hd k
theorem wf_X6_55 : Cond.fieldLink RX6 55 (TX6 7).1 (TX6 7).2.1 (TX6 7).2.2.1 ∈ tbw := List.mem_filter.mpr ⟨List.mem_of_getElem? (i := 224) (by decide +kernel), by decide +kernel⟩
theorem g_X6_55 (C : Cx p s m args meth c cc nL RX6 ret D A ct a) (hd : decode cc pc = .ok (.getfield 55, 3)) (k : KW p l e R s m args below meth c cells slots Q D A ct a nL M (pc + 3) lv (.long (gJ M 0 7) :: st)) : KW p l e R s m args below meth c cells slots Q D A ct a nL M pc lv (.ref (a 0) :: st) := q_get (k := 0) (j := 7) C rfl rfl rfl (by decide) iw_X6 wf_X6_55 hd k
theorem p_X6_55 {v : Int64} (C : Cx p s m args meth c cc nL RX6 ret D A ct a) (hd : decode cc pc = .ok (.putfield 55, 3)) (k : KW p l e R s m args below meth c cells slots Q D A ct a nL (sJ M 0 7 v) (pc + 3) lv st) : KW p l e R s m args below meth c cells slots Q D A ct a nL M pc lv (.long v :: .ref (a 0) :: st) := q_putJ (k := 0) (j := 7) C rfl rfl rfl (by decide) iw_X6 tyX6_ok nmX6 wf_X6_55 rfl (by decide +kernel) hd k
theorem wf_X6_58 : Cond.fieldLink RX6 58 (TX6 8).1 (TX6 8).2.1 (TX6 8).2.2.1 ∈ tbw := List.mem_filter.mpr ⟨List.mem_of_getElem? (i := 225) (by decide +kernel), by decide +kernel⟩
theorem g_X6_58 (C : Cx p s m args meth c cc nL RX6 ret D A ct a) (hd : decode cc pc = .ok (.getfield 58, 3)) (k : KW p l e R s m args below meth c cells slots Q D A ct a nL M (pc + 3) lv (.long (gJ M 0 8) :: st)) : KW p l e R s m args below meth c cells slots Q D A ct a nL M pc lv (.ref (a 0) :: st) := q_get (k := 0) (j := 8) C rfl rfl rfl (by decide) iw_X6 wf_X6_58 hd k
theorem p_X6_58 {v : Int64} (C : Cx p s m args meth c cc nL RX6 ret D A ct a) (hd : decode cc pc = .ok (.putfield 58, 3)) (k : KW p l e R s m args below meth c cells slots Q D A ct a nL (sJ M 0 8 v) (pc + 3) lv st) : KW p l e R s m args below meth c cells slots Q D A ct a nL M pc lv (.long v :: .ref (a 0) :: st) := q_putJ (k := 0) (j := 8) C rfl rfl rfl (by decide) iw_X6 tyX6_ok nmX6 wf_X6_58 rfl (by decide +kernel) hd k
theorem wk_X6_61 : Cond.constantLong RX6 61 (9) ∈ tbw := List.mem_filter.mpr ⟨List.mem_of_getElem? (i := 249) (by decide +kernel), by decide +kernel⟩
theorem cw_X6_63 : cwS' RX6 63 yX6_within cX6_within 3 (some .boolean) 3 := ⟨⟨⟨List.mem_filter.mpr ⟨List.mem_of_getElem? (i := 250) (by decide +kernel), by decide +kernel⟩, List.mem_filter.mpr ⟨List.mem_of_getElem? (i := 252) (by decide +kernel), by decide +kernel⟩, List.mem_filter.mpr ⟨List.mem_of_getElem? (i := 27) (by decide +kernel), by decide +kernel⟩⟩, by decide +kernel, by decide +kernel, by decide +kernel⟩, List.mem_filter.mpr ⟨List.mem_of_getElem? (i := 251) (by decide +kernel), by decide +kernel⟩⟩
theorem cw_X6_67 : cwV' RX6 67 yX2_strokes cX2_strokes 1 (some .int) 0 := ⟨⟨⟨List.mem_filter.mpr ⟨List.mem_of_getElem? (i := 253) (by decide +kernel), by decide +kernel⟩, List.mem_filter.mpr ⟨List.mem_of_getElem? (i := 256) (by decide +kernel), by decide +kernel⟩, List.mem_filter.mpr ⟨List.mem_of_getElem? (i := 28) (by decide +kernel), by decide +kernel⟩⟩, by decide +kernel, by decide +kernel, by decide +kernel⟩, List.mem_filter.mpr ⟨List.mem_of_getElem? (i := 254) (by decide +kernel), by decide +kernel⟩, List.mem_filter.mpr ⟨List.mem_of_getElem? (i := 255) (by decide +kernel), by decide +kernel⟩⟩
theorem cw_X6_71 : cwV' RX6 71 yX2_lay cX2_lay 6 (some .int) 3 := ⟨⟨⟨List.mem_filter.mpr ⟨List.mem_of_getElem? (i := 257) (by decide +kernel), by decide +kernel⟩, List.mem_filter.mpr ⟨List.mem_of_getElem? (i := 260) (by decide +kernel), by decide +kernel⟩, List.mem_filter.mpr ⟨List.mem_of_getElem? (i := 28) (by decide +kernel), by decide +kernel⟩⟩, by decide +kernel, by decide +kernel, by decide +kernel⟩, List.mem_filter.mpr ⟨List.mem_of_getElem? (i := 258) (by decide +kernel), by decide +kernel⟩, List.mem_filter.mpr ⟨List.mem_of_getElem? (i := 259) (by decide +kernel), by decide +kernel⟩⟩
theorem cw_X6_75 : cwV' RX6 75 yX2_isCut cX2_isCut 2 (some .boolean) 1 := ⟨⟨⟨List.mem_filter.mpr ⟨List.mem_of_getElem? (i := 268) (by decide +kernel), by decide +kernel⟩, List.mem_filter.mpr ⟨List.mem_of_getElem? (i := 271) (by decide +kernel), by decide +kernel⟩, List.mem_filter.mpr ⟨List.mem_of_getElem? (i := 28) (by decide +kernel), by decide +kernel⟩⟩, by decide +kernel, by decide +kernel, by decide +kernel⟩, List.mem_filter.mpr ⟨List.mem_of_getElem? (i := 269) (by decide +kernel), by decide +kernel⟩, List.mem_filter.mpr ⟨List.mem_of_getElem? (i := 270) (by decide +kernel), by decide +kernel⟩⟩
theorem cw_X6_79 : cwV' RX6 79 yX2_limeOn cX2_limeOn 2 (some .int) 1 := ⟨⟨⟨List.mem_filter.mpr ⟨List.mem_of_getElem? (i := 272) (by decide +kernel), by decide +kernel⟩, List.mem_filter.mpr ⟨List.mem_of_getElem? (i := 275) (by decide +kernel), by decide +kernel⟩, List.mem_filter.mpr ⟨List.mem_of_getElem? (i := 28) (by decide +kernel), by decide +kernel⟩⟩, by decide +kernel, by decide +kernel, by decide +kernel⟩, List.mem_filter.mpr ⟨List.mem_of_getElem? (i := 273) (by decide +kernel), by decide +kernel⟩, List.mem_filter.mpr ⟨List.mem_of_getElem? (i := 274) (by decide +kernel), by decide +kernel⟩⟩
theorem cw_X6_83 : cwV' RX6 83 yX2_take cX2_take 3 (some .int) 1 := ⟨⟨⟨List.mem_filter.mpr ⟨List.mem_of_getElem? (i := 276) (by decide +kernel), by decide +kernel⟩, List.mem_filter.mpr ⟨List.mem_of_getElem? (i := 279) (by decide +kernel), by decide +kernel⟩, List.mem_filter.mpr ⟨List.mem_of_getElem? (i := 28) (by decide +kernel), by decide +kernel⟩⟩, by decide +kernel, by decide +kernel, by decide +kernel⟩, List.mem_filter.mpr ⟨List.mem_of_getElem? (i := 277) (by decide +kernel), by decide +kernel⟩, List.mem_filter.mpr ⟨List.mem_of_getElem? (i := 278) (by decide +kernel), by decide +kernel⟩⟩
theorem cw_X6_86 : cwV' RX6 86 yX2_tonsOn cX2_tonsOn 2 (some .int) 1 := ⟨⟨⟨List.mem_filter.mpr ⟨List.mem_of_getElem? (i := 284) (by decide +kernel), by decide +kernel⟩, List.mem_filter.mpr ⟨List.mem_of_getElem? (i := 287) (by decide +kernel), by decide +kernel⟩, List.mem_filter.mpr ⟨List.mem_of_getElem? (i := 28) (by decide +kernel), by decide +kernel⟩⟩, by decide +kernel, by decide +kernel, by decide +kernel⟩, List.mem_filter.mpr ⟨List.mem_of_getElem? (i := 285) (by decide +kernel), by decide +kernel⟩, List.mem_filter.mpr ⟨List.mem_of_getElem? (i := 286) (by decide +kernel), by decide +kernel⟩⟩
theorem cw_X6_89 : cwV' RX6 89 yX2_spreadNow cX2_spreadNow 4 (some .int) 0 := ⟨⟨⟨List.mem_filter.mpr ⟨List.mem_of_getElem? (i := 292) (by decide +kernel), by decide +kernel⟩, List.mem_filter.mpr ⟨List.mem_of_getElem? (i := 295) (by decide +kernel), by decide +kernel⟩, List.mem_filter.mpr ⟨List.mem_of_getElem? (i := 28) (by decide +kernel), by decide +kernel⟩⟩, by decide +kernel, by decide +kernel, by decide +kernel⟩, List.mem_filter.mpr ⟨List.mem_of_getElem? (i := 293) (by decide +kernel), by decide +kernel⟩, List.mem_filter.mpr ⟨List.mem_of_getElem? (i := 294) (by decide +kernel), by decide +kernel⟩⟩
theorem cw_X6_92 : cwV' RX6 92 yX2_spreadLaid cX2_spreadLaid 2 (some .int) 1 := ⟨⟨⟨List.mem_filter.mpr ⟨List.mem_of_getElem? (i := 306) (by decide +kernel), by decide +kernel⟩, List.mem_filter.mpr ⟨List.mem_of_getElem? (i := 309) (by decide +kernel), by decide +kernel⟩, List.mem_filter.mpr ⟨List.mem_of_getElem? (i := 28) (by decide +kernel), by decide +kernel⟩⟩, by decide +kernel, by decide +kernel, by decide +kernel⟩, List.mem_filter.mpr ⟨List.mem_of_getElem? (i := 307) (by decide +kernel), by decide +kernel⟩, List.mem_filter.mpr ⟨List.mem_of_getElem? (i := 308) (by decide +kernel), by decide +kernel⟩⟩
theorem cw_X6_95 : cwV' RX6 95 yX2_empty cX2_empty 3 (some .int) 0 := ⟨⟨⟨List.mem_filter.mpr ⟨List.mem_of_getElem? (i := 314) (by decide +kernel), by decide +kernel⟩, List.mem_filter.mpr ⟨List.mem_of_getElem? (i := 317) (by decide +kernel), by decide +kernel⟩, List.mem_filter.mpr ⟨List.mem_of_getElem? (i := 28) (by decide +kernel), by decide +kernel⟩⟩, by decide +kernel, by decide +kernel, by decide +kernel⟩, List.mem_filter.mpr ⟨List.mem_of_getElem? (i := 315) (by decide +kernel), by decide +kernel⟩, List.mem_filter.mpr ⟨List.mem_of_getElem? (i := 316) (by decide +kernel), by decide +kernel⟩⟩
theorem cw_X6_98 : cwS' RX6 98 yX6_fitWhole cX6_fitWhole 3 (some .boolean) 3 := ⟨⟨⟨List.mem_filter.mpr ⟨List.mem_of_getElem? (i := 322) (by decide +kernel), by decide +kernel⟩, List.mem_filter.mpr ⟨List.mem_of_getElem? (i := 324) (by decide +kernel), by decide +kernel⟩, List.mem_filter.mpr ⟨List.mem_of_getElem? (i := 27) (by decide +kernel), by decide +kernel⟩⟩, by decide +kernel, by decide +kernel, by decide +kernel⟩, List.mem_filter.mpr ⟨List.mem_of_getElem? (i := 323) (by decide +kernel), by decide +kernel⟩⟩
theorem cw_X6_101 : cwV' RX6 101 yX0_setParts cX0_setParts 5 none 4 := ⟨⟨⟨List.mem_filter.mpr ⟨List.mem_of_getElem? (i := 325) (by decide +kernel), by decide +kernel⟩, List.mem_filter.mpr ⟨List.mem_of_getElem? (i := 328) (by decide +kernel), by decide +kernel⟩, List.mem_filter.mpr ⟨List.mem_of_getElem? (i := 29) (by decide +kernel), by decide +kernel⟩⟩, by decide +kernel, by decide +kernel, by decide +kernel⟩, List.mem_filter.mpr ⟨List.mem_of_getElem? (i := 326) (by decide +kernel), by decide +kernel⟩, List.mem_filter.mpr ⟨List.mem_of_getElem? (i := 327) (by decide +kernel), by decide +kernel⟩⟩
theorem cw_X6_105 : cwV' RX6 105 yX0_setShares cX0_setShares 4 none 3 := ⟨⟨⟨List.mem_filter.mpr ⟨List.mem_of_getElem? (i := 333) (by decide +kernel), by decide +kernel⟩, List.mem_filter.mpr ⟨List.mem_of_getElem? (i := 336) (by decide +kernel), by decide +kernel⟩, List.mem_filter.mpr ⟨List.mem_of_getElem? (i := 29) (by decide +kernel), by decide +kernel⟩⟩, by decide +kernel, by decide +kernel, by decide +kernel⟩, List.mem_filter.mpr ⟨List.mem_of_getElem? (i := 334) (by decide +kernel), by decide +kernel⟩, List.mem_filter.mpr ⟨List.mem_of_getElem? (i := 335) (by decide +kernel), by decide +kernel⟩⟩
theorem cw_X6_109 : cwV' RX6 109 yX0_sharesOf cX0_sharesOf 2 (some .int) 1 := ⟨⟨⟨List.mem_filter.mpr ⟨List.mem_of_getElem? (i := 341) (by decide +kernel), by decide +kernel⟩, List.mem_filter.mpr ⟨List.mem_of_getElem? (i := 344) (by decide +kernel), by decide +kernel⟩, List.mem_filter.mpr ⟨List.mem_of_getElem? (i := 29) (by decide +kernel), by decide +kernel⟩⟩, by decide +kernel, by decide +kernel, by decide +kernel⟩, List.mem_filter.mpr ⟨List.mem_of_getElem? (i := 342) (by decide +kernel), by decide +kernel⟩, List.mem_filter.mpr ⟨List.mem_of_getElem? (i := 343) (by decide +kernel), by decide +kernel⟩⟩
theorem cw_X6_112 : cwV' RX6 112 yX0_part cX0_part 4 (some .int) 1 := ⟨⟨⟨List.mem_filter.mpr ⟨List.mem_of_getElem? (i := 349) (by decide +kernel), by decide +kernel⟩, List.mem_filter.mpr ⟨List.mem_of_getElem? (i := 352) (by decide +kernel), by decide +kernel⟩, List.mem_filter.mpr ⟨List.mem_of_getElem? (i := 29) (by decide +kernel), by decide +kernel⟩⟩, by decide +kernel, by decide +kernel, by decide +kernel⟩, List.mem_filter.mpr ⟨List.mem_of_getElem? (i := 350) (by decide +kernel), by decide +kernel⟩, List.mem_filter.mpr ⟨List.mem_of_getElem? (i := 351) (by decide +kernel), by decide +kernel⟩⟩
theorem cw_X6_115 : cwV' RX6 115 yX0_numberUpper cX0_numberUpper 1 (some .int) 0 := ⟨⟨⟨List.mem_filter.mpr ⟨List.mem_of_getElem? (i := 357) (by decide +kernel), by decide +kernel⟩, List.mem_filter.mpr ⟨List.mem_of_getElem? (i := 360) (by decide +kernel), by decide +kernel⟩, List.mem_filter.mpr ⟨List.mem_of_getElem? (i := 29) (by decide +kernel), by decide +kernel⟩⟩, by decide +kernel, by decide +kernel, by decide +kernel⟩, List.mem_filter.mpr ⟨List.mem_of_getElem? (i := 358) (by decide +kernel), by decide +kernel⟩, List.mem_filter.mpr ⟨List.mem_of_getElem? (i := 359) (by decide +kernel), by decide +kernel⟩⟩
theorem cw_X6_118 : cwV' RX6 118 yX0_numberLower cX0_numberLower 1 (some .int) 0 := ⟨⟨⟨List.mem_filter.mpr ⟨List.mem_of_getElem? (i := 362) (by decide +kernel), by decide +kernel⟩, List.mem_filter.mpr ⟨List.mem_of_getElem? (i := 365) (by decide +kernel), by decide +kernel⟩, List.mem_filter.mpr ⟨List.mem_of_getElem? (i := 29) (by decide +kernel), by decide +kernel⟩⟩, by decide +kernel, by decide +kernel, by decide +kernel⟩, List.mem_filter.mpr ⟨List.mem_of_getElem? (i := 363) (by decide +kernel), by decide +kernel⟩, List.mem_filter.mpr ⟨List.mem_of_getElem? (i := 364) (by decide +kernel), by decide +kernel⟩⟩
theorem cw_X6_121 : cwV' RX6 121 yX1_answer cX1_answer 2 (some .int) 1 := ⟨⟨⟨List.mem_filter.mpr ⟨List.mem_of_getElem? (i := 366) (by decide +kernel), by decide +kernel⟩, List.mem_filter.mpr ⟨List.mem_of_getElem? (i := 369) (by decide +kernel), by decide +kernel⟩, List.mem_filter.mpr ⟨List.mem_of_getElem? (i := 34) (by decide +kernel), by decide +kernel⟩⟩, by decide +kernel, by decide +kernel, by decide +kernel⟩, List.mem_filter.mpr ⟨List.mem_of_getElem? (i := 367) (by decide +kernel), by decide +kernel⟩, List.mem_filter.mpr ⟨List.mem_of_getElem? (i := 368) (by decide +kernel), by decide +kernel⟩⟩
theorem cw_X6_124 : cwS' RX6 124 yX6_commonDivisor cX6_commonDivisor 6 (some .int) 2 := ⟨⟨⟨List.mem_filter.mpr ⟨List.mem_of_getElem? (i := 370) (by decide +kernel), by decide +kernel⟩, List.mem_filter.mpr ⟨List.mem_of_getElem? (i := 372) (by decide +kernel), by decide +kernel⟩, List.mem_filter.mpr ⟨List.mem_of_getElem? (i := 27) (by decide +kernel), by decide +kernel⟩⟩, by decide +kernel, by decide +kernel, by decide +kernel⟩, List.mem_filter.mpr ⟨List.mem_of_getElem? (i := 371) (by decide +kernel), by decide +kernel⟩⟩
theorem cw_X6_128 : cwV' RX6 128 yX0_setAim cX0_setAim 3 none 2 := ⟨⟨⟨List.mem_filter.mpr ⟨List.mem_of_getElem? (i := 378) (by decide +kernel), by decide +kernel⟩, List.mem_filter.mpr ⟨List.mem_of_getElem? (i := 381) (by decide +kernel), by decide +kernel⟩, List.mem_filter.mpr ⟨List.mem_of_getElem? (i := 29) (by decide +kernel), by decide +kernel⟩⟩, by decide +kernel, by decide +kernel, by decide +kernel⟩, List.mem_filter.mpr ⟨List.mem_of_getElem? (i := 379) (by decide +kernel), by decide +kernel⟩, List.mem_filter.mpr ⟨List.mem_of_getElem? (i := 380) (by decide +kernel), by decide +kernel⟩⟩
theorem cw_X6_132 : cwV' RX6 132 yX0_setRule cX0_setRule 3 none 2 := ⟨⟨⟨List.mem_filter.mpr ⟨List.mem_of_getElem? (i := 386) (by decide +kernel), by decide +kernel⟩, List.mem_filter.mpr ⟨List.mem_of_getElem? (i := 389) (by decide +kernel), by decide +kernel⟩, List.mem_filter.mpr ⟨List.mem_of_getElem? (i := 29) (by decide +kernel), by decide +kernel⟩⟩, by decide +kernel, by decide +kernel, by decide +kernel⟩, List.mem_filter.mpr ⟨List.mem_of_getElem? (i := 387) (by decide +kernel), by decide +kernel⟩, List.mem_filter.mpr ⟨List.mem_of_getElem? (i := 388) (by decide +kernel), by decide +kernel⟩⟩
theorem cw_X6_135 : cwV' RX6 135 yX0_hours cX0_hours 1 (some .int) 0 := ⟨⟨⟨List.mem_filter.mpr ⟨List.mem_of_getElem? (i := 394) (by decide +kernel), by decide +kernel⟩, List.mem_filter.mpr ⟨List.mem_of_getElem? (i := 397) (by decide +kernel), by decide +kernel⟩, List.mem_filter.mpr ⟨List.mem_of_getElem? (i := 29) (by decide +kernel), by decide +kernel⟩⟩, by decide +kernel, by decide +kernel, by decide +kernel⟩, List.mem_filter.mpr ⟨List.mem_of_getElem? (i := 395) (by decide +kernel), by decide +kernel⟩, List.mem_filter.mpr ⟨List.mem_of_getElem? (i := 396) (by decide +kernel), by decide +kernel⟩⟩
theorem cw_X6_138 : cwV' RX6 138 yX0_passHour cX0_passHour 2 (some .int) 1 := ⟨⟨⟨List.mem_filter.mpr ⟨List.mem_of_getElem? (i := 398) (by decide +kernel), by decide +kernel⟩, List.mem_filter.mpr ⟨List.mem_of_getElem? (i := 401) (by decide +kernel), by decide +kernel⟩, List.mem_filter.mpr ⟨List.mem_of_getElem? (i := 29) (by decide +kernel), by decide +kernel⟩⟩, by decide +kernel, by decide +kernel, by decide +kernel⟩, List.mem_filter.mpr ⟨List.mem_of_getElem? (i := 399) (by decide +kernel), by decide +kernel⟩, List.mem_filter.mpr ⟨List.mem_of_getElem? (i := 400) (by decide +kernel), by decide +kernel⟩⟩
theorem cw_X6_142 : cwV' RX6 142 yX0_latestRead cX0_latestRead 1 (some .int) 0 := ⟨⟨⟨List.mem_filter.mpr ⟨List.mem_of_getElem? (i := 425) (by decide +kernel), by decide +kernel⟩, List.mem_filter.mpr ⟨List.mem_of_getElem? (i := 428) (by decide +kernel), by decide +kernel⟩, List.mem_filter.mpr ⟨List.mem_of_getElem? (i := 29) (by decide +kernel), by decide +kernel⟩⟩, by decide +kernel, by decide +kernel, by decide +kernel⟩, List.mem_filter.mpr ⟨List.mem_of_getElem? (i := 426) (by decide +kernel), by decide +kernel⟩, List.mem_filter.mpr ⟨List.mem_of_getElem? (i := 427) (by decide +kernel), by decide +kernel⟩⟩
theorem cw_X6_145 : cwV' RX6 145 yX0_passedOver cX0_passedOver 1 (some .int) 0 := ⟨⟨⟨List.mem_filter.mpr ⟨List.mem_of_getElem? (i := 433) (by decide +kernel), by decide +kernel⟩, List.mem_filter.mpr ⟨List.mem_of_getElem? (i := 436) (by decide +kernel), by decide +kernel⟩, List.mem_filter.mpr ⟨List.mem_of_getElem? (i := 29) (by decide +kernel), by decide +kernel⟩⟩, by decide +kernel, by decide +kernel, by decide +kernel⟩, List.mem_filter.mpr ⟨List.mem_of_getElem? (i := 434) (by decide +kernel), by decide +kernel⟩, List.mem_filter.mpr ⟨List.mem_of_getElem? (i := 435) (by decide +kernel), by decide +kernel⟩⟩
theorem wk_X6_148 : Cond.constant RX6 148 (100000) ∈ tbw := List.mem_filter.mpr ⟨List.mem_of_getElem? (i := 441) (by decide +kernel), by decide +kernel⟩
theorem cw_X6_149 : cwV' RX6 149 yX3_steps cX3_steps 1 (some .int) 0 := ⟨⟨⟨List.mem_filter.mpr ⟨List.mem_of_getElem? (i := 442) (by decide +kernel), by decide +kernel⟩, List.mem_filter.mpr ⟨List.mem_of_getElem? (i := 445) (by decide +kernel), by decide +kernel⟩, List.mem_filter.mpr ⟨List.mem_of_getElem? (i := 31) (by decide +kernel), by decide +kernel⟩⟩, by decide +kernel, by decide +kernel, by decide +kernel⟩, List.mem_filter.mpr ⟨List.mem_of_getElem? (i := 443) (by decide +kernel), by decide +kernel⟩, List.mem_filter.mpr ⟨List.mem_of_getElem? (i := 444) (by decide +kernel), by decide +kernel⟩⟩
theorem cw_X6_152 : cwV' RX6 152 yX3_burn cX3_burn 5 (some .int) 3 := ⟨⟨⟨List.mem_filter.mpr ⟨List.mem_of_getElem? (i := 446) (by decide +kernel), by decide +kernel⟩, List.mem_filter.mpr ⟨List.mem_of_getElem? (i := 449) (by decide +kernel), by decide +kernel⟩, List.mem_filter.mpr ⟨List.mem_of_getElem? (i := 31) (by decide +kernel), by decide +kernel⟩⟩, by decide +kernel, by decide +kernel, by decide +kernel⟩, List.mem_filter.mpr ⟨List.mem_of_getElem? (i := 447) (by decide +kernel), by decide +kernel⟩, List.mem_filter.mpr ⟨List.mem_of_getElem? (i := 448) (by decide +kernel), by decide +kernel⟩⟩
theorem cw_X6_155 : cwV' RX6 155 yX3_latest cX3_latest 2 (some .int) 1 := ⟨⟨⟨List.mem_filter.mpr ⟨List.mem_of_getElem? (i := 486) (by decide +kernel), by decide +kernel⟩, List.mem_filter.mpr ⟨List.mem_of_getElem? (i := 489) (by decide +kernel), by decide +kernel⟩, List.mem_filter.mpr ⟨List.mem_of_getElem? (i := 31) (by decide +kernel), by decide +kernel⟩⟩, by decide +kernel, by decide +kernel, by decide +kernel⟩, List.mem_filter.mpr ⟨List.mem_of_getElem? (i := 487) (by decide +kernel), by decide +kernel⟩, List.mem_filter.mpr ⟨List.mem_of_getElem? (i := 488) (by decide +kernel), by decide +kernel⟩⟩
theorem cw_X6_158 : cwV' RX6 158 yX5_store cX5_store 4 none 3 := ⟨⟨⟨List.mem_filter.mpr ⟨List.mem_of_getElem? (i := 490) (by decide +kernel), by decide +kernel⟩, List.mem_filter.mpr ⟨List.mem_of_getElem? (i := 493) (by decide +kernel), by decide +kernel⟩, List.mem_filter.mpr ⟨List.mem_of_getElem? (i := 32) (by decide +kernel), by decide +kernel⟩⟩, by decide +kernel, by decide +kernel, by decide +kernel⟩, List.mem_filter.mpr ⟨List.mem_of_getElem? (i := 491) (by decide +kernel), by decide +kernel⟩, List.mem_filter.mpr ⟨List.mem_of_getElem? (i := 492) (by decide +kernel), by decide +kernel⟩⟩
theorem cw_X6_161 : cwV' RX6 161 yX3_restart cX3_restart 1 (some .int) 0 := ⟨⟨⟨List.mem_filter.mpr ⟨List.mem_of_getElem? (i := 498) (by decide +kernel), by decide +kernel⟩, List.mem_filter.mpr ⟨List.mem_of_getElem? (i := 501) (by decide +kernel), by decide +kernel⟩, List.mem_filter.mpr ⟨List.mem_of_getElem? (i := 31) (by decide +kernel), by decide +kernel⟩⟩, by decide +kernel, by decide +kernel, by decide +kernel⟩, List.mem_filter.mpr ⟨List.mem_of_getElem? (i := 499) (by decide +kernel), by decide +kernel⟩, List.mem_filter.mpr ⟨List.mem_of_getElem? (i := 500) (by decide +kernel), by decide +kernel⟩⟩
theorem cw_X6_164 : cwV' RX6 164 yX3_kindOf cX3_kindOf 2 (some .int) 1 := ⟨⟨⟨List.mem_filter.mpr ⟨List.mem_of_getElem? (i := 506) (by decide +kernel), by decide +kernel⟩, List.mem_filter.mpr ⟨List.mem_of_getElem? (i := 509) (by decide +kernel), by decide +kernel⟩, List.mem_filter.mpr ⟨List.mem_of_getElem? (i := 31) (by decide +kernel), by decide +kernel⟩⟩, by decide +kernel, by decide +kernel, by decide +kernel⟩, List.mem_filter.mpr ⟨List.mem_of_getElem? (i := 507) (by decide +kernel), by decide +kernel⟩, List.mem_filter.mpr ⟨List.mem_of_getElem? (i := 508) (by decide +kernel), by decide +kernel⟩⟩
theorem cw_X6_167 : cwV' RX6 167 yX3_stuffIn cX3_stuffIn 2 (some .int) 1 := ⟨⟨⟨List.mem_filter.mpr ⟨List.mem_of_getElem? (i := 510) (by decide +kernel), by decide +kernel⟩, List.mem_filter.mpr ⟨List.mem_of_getElem? (i := 513) (by decide +kernel), by decide +kernel⟩, List.mem_filter.mpr ⟨List.mem_of_getElem? (i := 31) (by decide +kernel), by decide +kernel⟩⟩, by decide +kernel, by decide +kernel, by decide +kernel⟩, List.mem_filter.mpr ⟨List.mem_of_getElem? (i := 511) (by decide +kernel), by decide +kernel⟩, List.mem_filter.mpr ⟨List.mem_of_getElem? (i := 512) (by decide +kernel), by decide +kernel⟩⟩
theorem cw_X6_170 : cwV' RX6 170 yX3_heatIn cX3_heatIn 2 (some .int) 1 := ⟨⟨⟨List.mem_filter.mpr ⟨List.mem_of_getElem? (i := 514) (by decide +kernel), by decide +kernel⟩, List.mem_filter.mpr ⟨List.mem_of_getElem? (i := 517) (by decide +kernel), by decide +kernel⟩, List.mem_filter.mpr ⟨List.mem_of_getElem? (i := 31) (by decide +kernel), by decide +kernel⟩⟩, by decide +kernel, by decide +kernel, by decide +kernel⟩, List.mem_filter.mpr ⟨List.mem_of_getElem? (i := 515) (by decide +kernel), by decide +kernel⟩, List.mem_filter.mpr ⟨List.mem_of_getElem? (i := 516) (by decide +kernel), by decide +kernel⟩⟩
theorem cw_X6_173 : cwV' RX6 173 yX3_inAll cX3_inAll 2 (some .long) 1 := ⟨⟨⟨List.mem_filter.mpr ⟨List.mem_of_getElem? (i := 530) (by decide +kernel), by decide +kernel⟩, List.mem_filter.mpr ⟨List.mem_of_getElem? (i := 533) (by decide +kernel), by decide +kernel⟩, List.mem_filter.mpr ⟨List.mem_of_getElem? (i := 31) (by decide +kernel), by decide +kernel⟩⟩, by decide +kernel, by decide +kernel, by decide +kernel⟩, List.mem_filter.mpr ⟨List.mem_of_getElem? (i := 531) (by decide +kernel), by decide +kernel⟩, List.mem_filter.mpr ⟨List.mem_of_getElem? (i := 532) (by decide +kernel), by decide +kernel⟩⟩
theorem cw_X6_177 : cwV' RX6 177 yX3_firstCaused cX3_firstCaused 1 (some .int) 0 := ⟨⟨⟨List.mem_filter.mpr ⟨List.mem_of_getElem? (i := 538) (by decide +kernel), by decide +kernel⟩, List.mem_filter.mpr ⟨List.mem_of_getElem? (i := 541) (by decide +kernel), by decide +kernel⟩, List.mem_filter.mpr ⟨List.mem_of_getElem? (i := 31) (by decide +kernel), by decide +kernel⟩⟩, by decide +kernel, by decide +kernel, by decide +kernel⟩, List.mem_filter.mpr ⟨List.mem_of_getElem? (i := 539) (by decide +kernel), by decide +kernel⟩, List.mem_filter.mpr ⟨List.mem_of_getElem? (i := 540) (by decide +kernel), by decide +kernel⟩⟩
theorem cw_X6_180 : cwV' RX6 180 yX5_tonsIn cX5_tonsIn 2 (some .int) 1 := ⟨⟨⟨List.mem_filter.mpr ⟨List.mem_of_getElem? (i := 546) (by decide +kernel), by decide +kernel⟩, List.mem_filter.mpr ⟨List.mem_of_getElem? (i := 549) (by decide +kernel), by decide +kernel⟩, List.mem_filter.mpr ⟨List.mem_of_getElem? (i := 32) (by decide +kernel), by decide +kernel⟩⟩, by decide +kernel, by decide +kernel, by decide +kernel⟩, List.mem_filter.mpr ⟨List.mem_of_getElem? (i := 547) (by decide +kernel), by decide +kernel⟩, List.mem_filter.mpr ⟨List.mem_of_getElem? (i := 548) (by decide +kernel), by decide +kernel⟩⟩
theorem cw_X6_183 : cwV' RX6 183 yX5_lotsIn cX5_lotsIn 2 (some .int) 1 := ⟨⟨⟨List.mem_filter.mpr ⟨List.mem_of_getElem? (i := 550) (by decide +kernel), by decide +kernel⟩, List.mem_filter.mpr ⟨List.mem_of_getElem? (i := 553) (by decide +kernel), by decide +kernel⟩, List.mem_filter.mpr ⟨List.mem_of_getElem? (i := 32) (by decide +kernel), by decide +kernel⟩⟩, by decide +kernel, by decide +kernel, by decide +kernel⟩, List.mem_filter.mpr ⟨List.mem_of_getElem? (i := 551) (by decide +kernel), by decide +kernel⟩, List.mem_filter.mpr ⟨List.mem_of_getElem? (i := 552) (by decide +kernel), by decide +kernel⟩⟩
theorem cw_X6_186 : cwV' RX6 186 yX5_fill cX5_fill 5 (some .int) 2 := ⟨⟨⟨List.mem_filter.mpr ⟨List.mem_of_getElem? (i := 558) (by decide +kernel), by decide +kernel⟩, List.mem_filter.mpr ⟨List.mem_of_getElem? (i := 561) (by decide +kernel), by decide +kernel⟩, List.mem_filter.mpr ⟨List.mem_of_getElem? (i := 32) (by decide +kernel), by decide +kernel⟩⟩, by decide +kernel, by decide +kernel, by decide +kernel⟩, List.mem_filter.mpr ⟨List.mem_of_getElem? (i := 559) (by decide +kernel), by decide +kernel⟩, List.mem_filter.mpr ⟨List.mem_of_getElem? (i := 560) (by decide +kernel), by decide +kernel⟩⟩
theorem cw_X6_189 : cwV' RX6 189 yX5_lotsInBag cX5_lotsInBag 1 (some .int) 0 := ⟨⟨⟨List.mem_filter.mpr ⟨List.mem_of_getElem? (i := 571) (by decide +kernel), by decide +kernel⟩, List.mem_filter.mpr ⟨List.mem_of_getElem? (i := 574) (by decide +kernel), by decide +kernel⟩, List.mem_filter.mpr ⟨List.mem_of_getElem? (i := 32) (by decide +kernel), by decide +kernel⟩⟩, by decide +kernel, by decide +kernel, by decide +kernel⟩, List.mem_filter.mpr ⟨List.mem_of_getElem? (i := 572) (by decide +kernel), by decide +kernel⟩, List.mem_filter.mpr ⟨List.mem_of_getElem? (i := 573) (by decide +kernel), by decide +kernel⟩⟩
theorem cw_X6_192 : cwV' RX6 192 yX5_stepInBag cX5_stepInBag 2 (some .int) 1 := ⟨⟨⟨List.mem_filter.mpr ⟨List.mem_of_getElem? (i := 575) (by decide +kernel), by decide +kernel⟩, List.mem_filter.mpr ⟨List.mem_of_getElem? (i := 578) (by decide +kernel), by decide +kernel⟩, List.mem_filter.mpr ⟨List.mem_of_getElem? (i := 32) (by decide +kernel), by decide +kernel⟩⟩, by decide +kernel, by decide +kernel, by decide +kernel⟩, List.mem_filter.mpr ⟨List.mem_of_getElem? (i := 576) (by decide +kernel), by decide +kernel⟩, List.mem_filter.mpr ⟨List.mem_of_getElem? (i := 577) (by decide +kernel), by decide +kernel⟩⟩
theorem cw_X6_195 : cwV' RX6 195 yX5_tonsInBag cX5_tonsInBag 2 (some .int) 1 := ⟨⟨⟨List.mem_filter.mpr ⟨List.mem_of_getElem? (i := 579) (by decide +kernel), by decide +kernel⟩, List.mem_filter.mpr ⟨List.mem_of_getElem? (i := 582) (by decide +kernel), by decide +kernel⟩, List.mem_filter.mpr ⟨List.mem_of_getElem? (i := 32) (by decide +kernel), by decide +kernel⟩⟩, by decide +kernel, by decide +kernel, by decide +kernel⟩, List.mem_filter.mpr ⟨List.mem_of_getElem? (i := 580) (by decide +kernel), by decide +kernel⟩, List.mem_filter.mpr ⟨List.mem_of_getElem? (i := 581) (by decide +kernel), by decide +kernel⟩⟩
theorem cw_X6_198 : cwV' RX6 198 yX4_layRow cX4_layRow 3 (some .int) 1 := ⟨⟨⟨List.mem_filter.mpr ⟨List.mem_of_getElem? (i := 587) (by decide +kernel), by decide +kernel⟩, List.mem_filter.mpr ⟨List.mem_of_getElem? (i := 590) (by decide +kernel), by decide +kernel⟩, List.mem_filter.mpr ⟨List.mem_of_getElem? (i := 33) (by decide +kernel), by decide +kernel⟩⟩, by decide +kernel, by decide +kernel, by decide +kernel⟩, List.mem_filter.mpr ⟨List.mem_of_getElem? (i := 588) (by decide +kernel), by decide +kernel⟩, List.mem_filter.mpr ⟨List.mem_of_getElem? (i := 589) (by decide +kernel), by decide +kernel⟩⟩
theorem cw_X6_201 : cwV' RX6 201 yX4_has cX4_has 2 (some .boolean) 1 := ⟨⟨⟨List.mem_filter.mpr ⟨List.mem_of_getElem? (i := 596) (by decide +kernel), by decide +kernel⟩, List.mem_filter.mpr ⟨List.mem_of_getElem? (i := 599) (by decide +kernel), by decide +kernel⟩, List.mem_filter.mpr ⟨List.mem_of_getElem? (i := 33) (by decide +kernel), by decide +kernel⟩⟩, by decide +kernel, by decide +kernel, by decide +kernel⟩, List.mem_filter.mpr ⟨List.mem_of_getElem? (i := 597) (by decide +kernel), by decide +kernel⟩, List.mem_filter.mpr ⟨List.mem_of_getElem? (i := 598) (by decide +kernel), by decide +kernel⟩⟩
theorem cw_X6_204 : cwV' RX6 204 yX4_set cX4_set 5 (some .int) 3 := ⟨⟨⟨List.mem_filter.mpr ⟨List.mem_of_getElem? (i := 600) (by decide +kernel), by decide +kernel⟩, List.mem_filter.mpr ⟨List.mem_of_getElem? (i := 603) (by decide +kernel), by decide +kernel⟩, List.mem_filter.mpr ⟨List.mem_of_getElem? (i := 33) (by decide +kernel), by decide +kernel⟩⟩, by decide +kernel, by decide +kernel, by decide +kernel⟩, List.mem_filter.mpr ⟨List.mem_of_getElem? (i := 601) (by decide +kernel), by decide +kernel⟩, List.mem_filter.mpr ⟨List.mem_of_getElem? (i := 602) (by decide +kernel), by decide +kernel⟩⟩
theorem cw_X6_207 : cwV' RX6 207 yX4_drop cX4_drop 2 none 1 := ⟨⟨⟨List.mem_filter.mpr ⟨List.mem_of_getElem? (i := 608) (by decide +kernel), by decide +kernel⟩, List.mem_filter.mpr ⟨List.mem_of_getElem? (i := 611) (by decide +kernel), by decide +kernel⟩, List.mem_filter.mpr ⟨List.mem_of_getElem? (i := 33) (by decide +kernel), by decide +kernel⟩⟩, by decide +kernel, by decide +kernel, by decide +kernel⟩, List.mem_filter.mpr ⟨List.mem_of_getElem? (i := 609) (by decide +kernel), by decide +kernel⟩, List.mem_filter.mpr ⟨List.mem_of_getElem? (i := 610) (by decide +kernel), by decide +kernel⟩⟩
theorem cw_X6_211 : cwS' RX6 211 yX6_hasHours cX6_hasHours 2 (some .boolean) 2 := ⟨⟨⟨List.mem_filter.mpr ⟨List.mem_of_getElem? (i := 616) (by decide +kernel), by decide +kernel⟩, List.mem_filter.mpr ⟨List.mem_of_getElem? (i := 618) (by decide +kernel), by decide +kernel⟩, List.mem_filter.mpr ⟨List.mem_of_getElem? (i := 27) (by decide +kernel), by decide +kernel⟩⟩, by decide +kernel, by decide +kernel, by decide +kernel⟩, List.mem_filter.mpr ⟨List.mem_of_getElem? (i := 617) (by decide +kernel), by decide +kernel⟩⟩
theorem cw_X6_215 : cwV' RX6 215 yX4_move cX4_move 6 none 5 := ⟨⟨⟨List.mem_filter.mpr ⟨List.mem_of_getElem? (i := 619) (by decide +kernel), by decide +kernel⟩, List.mem_filter.mpr ⟨List.mem_of_getElem? (i := 622) (by decide +kernel), by decide +kernel⟩, List.mem_filter.mpr ⟨List.mem_of_getElem? (i := 33) (by decide +kernel), by decide +kernel⟩⟩, by decide +kernel, by decide +kernel, by decide +kernel⟩, List.mem_filter.mpr ⟨List.mem_of_getElem? (i := 620) (by decide +kernel), by decide +kernel⟩, List.mem_filter.mpr ⟨List.mem_of_getElem? (i := 621) (by decide +kernel), by decide +kernel⟩⟩
theorem cw_X6_219 : cwV' RX6 219 yX4_setNeed cX4_setNeed 4 (some .int) 2 := ⟨⟨⟨List.mem_filter.mpr ⟨List.mem_of_getElem? (i := 630) (by decide +kernel), by decide +kernel⟩, List.mem_filter.mpr ⟨List.mem_of_getElem? (i := 633) (by decide +kernel), by decide +kernel⟩, List.mem_filter.mpr ⟨List.mem_of_getElem? (i := 33) (by decide +kernel), by decide +kernel⟩⟩, by decide +kernel, by decide +kernel, by decide +kernel⟩, List.mem_filter.mpr ⟨List.mem_of_getElem? (i := 631) (by decide +kernel), by decide +kernel⟩, List.mem_filter.mpr ⟨List.mem_of_getElem? (i := 632) (by decide +kernel), by decide +kernel⟩⟩
theorem cw_X6_222 : cwV' RX6 222 yX4_cheapest cX4_cheapest 7 (some .long) 2 := ⟨⟨⟨List.mem_filter.mpr ⟨List.mem_of_getElem? (i := 638) (by decide +kernel), by decide +kernel⟩, List.mem_filter.mpr ⟨List.mem_of_getElem? (i := 641) (by decide +kernel), by decide +kernel⟩, List.mem_filter.mpr ⟨List.mem_of_getElem? (i := 33) (by decide +kernel), by decide +kernel⟩⟩, by decide +kernel, by decide +kernel, by decide +kernel⟩, List.mem_filter.mpr ⟨List.mem_of_getElem? (i := 639) (by decide +kernel), by decide +kernel⟩, List.mem_filter.mpr ⟨List.mem_of_getElem? (i := 640) (by decide +kernel), by decide +kernel⟩⟩
theorem wk_X6_226 : Cond.constantLong RX6 226 (1152921504606846976) ∈ tbw := List.mem_filter.mpr ⟨List.mem_of_getElem? (i := 656) (by decide +kernel), by decide +kernel⟩
theorem cw_X6_228 : cwS' RX6 228 yX4_priceOf cX4_priceOf 2 (some .long) 1 := ⟨⟨⟨List.mem_filter.mpr ⟨List.mem_of_getElem? (i := 657) (by decide +kernel), by decide +kernel⟩, List.mem_filter.mpr ⟨List.mem_of_getElem? (i := 655) (by decide +kernel), by decide +kernel⟩, List.mem_filter.mpr ⟨List.mem_of_getElem? (i := 33) (by decide +kernel), by decide +kernel⟩⟩, by decide +kernel, by decide +kernel, by decide +kernel⟩, List.mem_filter.mpr ⟨List.mem_of_getElem? (i := 654) (by decide +kernel), by decide +kernel⟩⟩
theorem cw_X6_232 : cwS' RX6 232 yX4_bitsOf cX4_bitsOf 2 (some .int) 1 := ⟨⟨⟨List.mem_filter.mpr ⟨List.mem_of_getElem? (i := 658) (by decide +kernel), by decide +kernel⟩, List.mem_filter.mpr ⟨List.mem_of_getElem? (i := 660) (by decide +kernel), by decide +kernel⟩, List.mem_filter.mpr ⟨List.mem_of_getElem? (i := 33) (by decide +kernel), by decide +kernel⟩⟩, by decide +kernel, by decide +kernel, by decide +kernel⟩, List.mem_filter.mpr ⟨List.mem_of_getElem? (i := 659) (by decide +kernel), by decide +kernel⟩⟩
theorem cw_X6_236 : cwV' RX6 236 yX4_rows cX4_rows 1 (some .int) 0 := ⟨⟨⟨List.mem_filter.mpr ⟨List.mem_of_getElem? (i := 678) (by decide +kernel), by decide +kernel⟩, List.mem_filter.mpr ⟨List.mem_of_getElem? (i := 681) (by decide +kernel), by decide +kernel⟩, List.mem_filter.mpr ⟨List.mem_of_getElem? (i := 33) (by decide +kernel), by decide +kernel⟩⟩, by decide +kernel, by decide +kernel, by decide +kernel⟩, List.mem_filter.mpr ⟨List.mem_of_getElem? (i := 679) (by decide +kernel), by decide +kernel⟩, List.mem_filter.mpr ⟨List.mem_of_getElem? (i := 680) (by decide +kernel), by decide +kernel⟩⟩
theorem cw_X6_239 : cwV' RX6 239 yX3_isStopped cX3_isStopped 1 (some .boolean) 0 := ⟨⟨⟨List.mem_filter.mpr ⟨List.mem_of_getElem? (i := 682) (by decide +kernel), by decide +kernel⟩, List.mem_filter.mpr ⟨List.mem_of_getElem? (i := 685) (by decide +kernel), by decide +kernel⟩, List.mem_filter.mpr ⟨List.mem_of_getElem? (i := 31) (by decide +kernel), by decide +kernel⟩⟩, by decide +kernel, by decide +kernel, by decide +kernel⟩, List.mem_filter.mpr ⟨List.mem_of_getElem? (i := 683) (by decide +kernel), by decide +kernel⟩, List.mem_filter.mpr ⟨List.mem_of_getElem? (i := 684) (by decide +kernel), by decide +kernel⟩⟩
theorem cw_X6_243 : cwV' RX6 243 yX1_latest cX1_latest 1 (some .int) 0 := ⟨⟨⟨List.mem_filter.mpr ⟨List.mem_of_getElem? (i := 690) (by decide +kernel), by decide +kernel⟩, List.mem_filter.mpr ⟨List.mem_of_getElem? (i := 693) (by decide +kernel), by decide +kernel⟩, List.mem_filter.mpr ⟨List.mem_of_getElem? (i := 34) (by decide +kernel), by decide +kernel⟩⟩, by decide +kernel, by decide +kernel, by decide +kernel⟩, List.mem_filter.mpr ⟨List.mem_of_getElem? (i := 691) (by decide +kernel), by decide +kernel⟩, List.mem_filter.mpr ⟨List.mem_of_getElem? (i := 692) (by decide +kernel), by decide +kernel⟩⟩
theorem cw_X6_245 : cwV' RX6 245 yX1_times cX1_times 2 (some .int) 1 := ⟨⟨⟨List.mem_filter.mpr ⟨List.mem_of_getElem? (i := 698) (by decide +kernel), by decide +kernel⟩, List.mem_filter.mpr ⟨List.mem_of_getElem? (i := 701) (by decide +kernel), by decide +kernel⟩, List.mem_filter.mpr ⟨List.mem_of_getElem? (i := 34) (by decide +kernel), by decide +kernel⟩⟩, by decide +kernel, by decide +kernel, by decide +kernel⟩, List.mem_filter.mpr ⟨List.mem_of_getElem? (i := 699) (by decide +kernel), by decide +kernel⟩, List.mem_filter.mpr ⟨List.mem_of_getElem? (i := 700) (by decide +kernel), by decide +kernel⟩⟩
theorem wk_X6_248 : Cond.constantLong RX6 248 (17) ∈ tbw := List.mem_filter.mpr ⟨List.mem_of_getElem? (i := 706) (by decide +kernel), by decide +kernel⟩
theorem cw_X6_250 : cwV' RX6 250 yX2_foldInto cX2_foldInto 6 (some .long) 1 := ⟨⟨⟨List.mem_filter.mpr ⟨List.mem_of_getElem? (i := 707) (by decide +kernel), by decide +kernel⟩, List.mem_filter.mpr ⟨List.mem_of_getElem? (i := 710) (by decide +kernel), by decide +kernel⟩, List.mem_filter.mpr ⟨List.mem_of_getElem? (i := 28) (by decide +kernel), by decide +kernel⟩⟩, by decide +kernel, by decide +kernel, by decide +kernel⟩, List.mem_filter.mpr ⟨List.mem_of_getElem? (i := 708) (by decide +kernel), by decide +kernel⟩, List.mem_filter.mpr ⟨List.mem_of_getElem? (i := 709) (by decide +kernel), by decide +kernel⟩⟩
theorem cw_X6_253 : cwV' RX6 253 yX0_foldInto cX0_foldInto 7 (some .long) 1 := ⟨⟨⟨List.mem_filter.mpr ⟨List.mem_of_getElem? (i := 715) (by decide +kernel), by decide +kernel⟩, List.mem_filter.mpr ⟨List.mem_of_getElem? (i := 718) (by decide +kernel), by decide +kernel⟩, List.mem_filter.mpr ⟨List.mem_of_getElem? (i := 29) (by decide +kernel), by decide +kernel⟩⟩, by decide +kernel, by decide +kernel, by decide +kernel⟩, List.mem_filter.mpr ⟨List.mem_of_getElem? (i := 716) (by decide +kernel), by decide +kernel⟩, List.mem_filter.mpr ⟨List.mem_of_getElem? (i := 717) (by decide +kernel), by decide +kernel⟩⟩
theorem cw_X6_254 : cwV' RX6 254 yX3_foldInto cX3_foldInto 6 (some .long) 1 := ⟨⟨⟨List.mem_filter.mpr ⟨List.mem_of_getElem? (i := 720) (by decide +kernel), by decide +kernel⟩, List.mem_filter.mpr ⟨List.mem_of_getElem? (i := 723) (by decide +kernel), by decide +kernel⟩, List.mem_filter.mpr ⟨List.mem_of_getElem? (i := 31) (by decide +kernel), by decide +kernel⟩⟩, by decide +kernel, by decide +kernel, by decide +kernel⟩, List.mem_filter.mpr ⟨List.mem_of_getElem? (i := 721) (by decide +kernel), by decide +kernel⟩, List.mem_filter.mpr ⟨List.mem_of_getElem? (i := 722) (by decide +kernel), by decide +kernel⟩⟩
theorem cw_X6_255 : cwV' RX6 255 yX5_foldInto cX5_foldInto 6 (some .long) 1 := ⟨⟨⟨List.mem_filter.mpr ⟨List.mem_of_getElem? (i := 725) (by decide +kernel), by decide +kernel⟩, List.mem_filter.mpr ⟨List.mem_of_getElem? (i := 728) (by decide +kernel), by decide +kernel⟩, List.mem_filter.mpr ⟨List.mem_of_getElem? (i := 32) (by decide +kernel), by decide +kernel⟩⟩, by decide +kernel, by decide +kernel, by decide +kernel⟩, List.mem_filter.mpr ⟨List.mem_of_getElem? (i := 726) (by decide +kernel), by decide +kernel⟩, List.mem_filter.mpr ⟨List.mem_of_getElem? (i := 727) (by decide +kernel), by decide +kernel⟩⟩
theorem cw_X6_256 : cwV' RX6 256 yX4_foldInto cX4_foldInto 6 (some .long) 1 := ⟨⟨⟨List.mem_filter.mpr ⟨List.mem_of_getElem? (i := 730) (by decide +kernel), by decide +kernel⟩, List.mem_filter.mpr ⟨List.mem_of_getElem? (i := 733) (by decide +kernel), by decide +kernel⟩, List.mem_filter.mpr ⟨List.mem_of_getElem? (i := 33) (by decide +kernel), by decide +kernel⟩⟩, by decide +kernel, by decide +kernel, by decide +kernel⟩, List.mem_filter.mpr ⟨List.mem_of_getElem? (i := 731) (by decide +kernel), by decide +kernel⟩, List.mem_filter.mpr ⟨List.mem_of_getElem? (i := 732) (by decide +kernel), by decide +kernel⟩⟩
theorem cw_X6_257 : cwV' RX6 257 yX6_count cX6_count 2 (some .int) 1 := ⟨⟨⟨List.mem_filter.mpr ⟨List.mem_of_getElem? (i := 739) (by decide +kernel), by decide +kernel⟩, List.mem_filter.mpr ⟨List.mem_of_getElem? (i := 677) (by decide +kernel), by decide +kernel⟩, List.mem_filter.mpr ⟨List.mem_of_getElem? (i := 27) (by decide +kernel), by decide +kernel⟩⟩, by decide +kernel, by decide +kernel, by decide +kernel⟩, List.mem_filter.mpr ⟨List.mem_of_getElem? (i := 675) (by decide +kernel), by decide +kernel⟩, List.mem_filter.mpr ⟨List.mem_of_getElem? (i := 676) (by decide +kernel), by decide +kernel⟩⟩
theorem cw_X6_260 : cwS' RX6 260 yX6_fold cX6_fold 4 (some .long) 2 := ⟨⟨⟨List.mem_filter.mpr ⟨List.mem_of_getElem? (i := 740) (by decide +kernel), by decide +kernel⟩, List.mem_filter.mpr ⟨List.mem_of_getElem? (i := 713) (by decide +kernel), by decide +kernel⟩, List.mem_filter.mpr ⟨List.mem_of_getElem? (i := 27) (by decide +kernel), by decide +kernel⟩⟩, by decide +kernel, by decide +kernel, by decide +kernel⟩, List.mem_filter.mpr ⟨List.mem_of_getElem? (i := 712) (by decide +kernel), by decide +kernel⟩⟩
theorem wk_X6_264 : Cond.constantLong RX6 264 (31) ∈ tbw := List.mem_filter.mpr ⟨List.mem_of_getElem? (i := 714) (by decide +kernel), by decide +kernel⟩
theorem wm_X6_266 : Cond.methodLink RX6 266 Lib.Math.max.name ∈ tbw := List.mem_filter.mpr ⟨List.mem_of_getElem? (i := 373) (by decide +kernel), by decide +kernel⟩
theorem wf_X7_7 : Cond.fieldLink RX7 7 (TX7 1).1 (TX7 1).2.1 (TX7 1).2.2.1 ∈ tbw := List.mem_filter.mpr ⟨List.mem_of_getElem? (i := 748) (by decide +kernel), by decide +kernel⟩
theorem g_X7_7 (C : Cx p s m args meth c cc nL RX7 ret D A ct a) (hd : decode cc pc = .ok (.getfield 7, 3)) (k : KW p l e R s m args below meth c cells slots Q D A ct a nL M (pc + 3) lv (.ref (a 45) :: st)) : KW p l e R s m args below meth c cells slots Q D A ct a nL M pc lv (.ref (a 44) :: st) := q_get (k := 44) (j := 1) C rfl rfl rfl (by decide) iw_X7 wf_X7_7 hd k
theorem wf_X7_13 : Cond.fieldLink RX7 13 (TX7 4).1 (TX7 4).2.1 (TX7 4).2.2.1 ∈ tbw := List.mem_filter.mpr ⟨List.mem_of_getElem? (i := 751) (by decide +kernel), by decide +kernel⟩
theorem g_X7_13 (C : Cx p s m args meth c cc nL RX7 ret D A ct a) (hd : decode cc pc = .ok (.getfield 13, 3)) (k : KW p l e R s m args below meth c cells slots Q D A ct a nL M (pc + 3) lv (.long (gJ M 44 4) :: st)) : KW p l e R s m args below meth c cells slots Q D A ct a nL M pc lv (.ref (a 44) :: st) := q_get (k := 44) (j := 4) C rfl rfl rfl (by decide) iw_X7 wf_X7_13 hd k
theorem p_X7_13 {v : Int64} (C : Cx p s m args meth c cc nL RX7 ret D A ct a) (hd : decode cc pc = .ok (.putfield 13, 3)) (k : KW p l e R s m args below meth c cells slots Q D A ct a nL (sJ M 44 4 v) (pc + 3) lv st) : KW p l e R s m args below meth c cells slots Q D A ct a nL M pc lv (.long v :: .ref (a 44) :: st) := q_putJ (k := 44) (j := 4) C rfl rfl rfl (by decide) iw_X7 tyX7_ok nmX7 wf_X7_13 rfl (by decide +kernel) hd k
theorem wf_X7_17 : Cond.fieldLink RX7 17 (TX7 6).1 (TX7 6).2.1 (TX7 6).2.2.1 ∈ tbw := List.mem_filter.mpr ⟨List.mem_of_getElem? (i := 753) (by decide +kernel), by decide +kernel⟩
theorem g_X7_17 (C : Cx p s m args meth c cc nL RX7 ret D A ct a) (hd : decode cc pc = .ok (.getfield 17, 3)) (k : KW p l e R s m args below meth c cells slots Q D A ct a nL M (pc + 3) lv (.ref (a 46) :: st)) : KW p l e R s m args below meth c cells slots Q D A ct a nL M pc lv (.ref (a 44) :: st) := q_get (k := 44) (j := 6) C rfl rfl rfl (by decide) iw_X7 wf_X7_17 hd k
theorem wf_X7_20 : Cond.fieldLink RX7 20 (TX7 7).1 (TX7 7).2.1 (TX7 7).2.2.1 ∈ tbw := List.mem_filter.mpr ⟨List.mem_of_getElem? (i := 754) (by decide +kernel), by decide +kernel⟩
theorem g_X7_20 (C : Cx p s m args meth c cc nL RX7 ret D A ct a) (hd : decode cc pc = .ok (.getfield 20, 3)) (k : KW p l e R s m args below meth c cells slots Q D A ct a nL M (pc + 3) lv (.ref (a 47) :: st)) : KW p l e R s m args below meth c cells slots Q D A ct a nL M pc lv (.ref (a 44) :: st) := q_get (k := 44) (j := 7) C rfl rfl rfl (by decide) iw_X7 wf_X7_20 hd k
theorem wf_X7_23 : Cond.fieldLink RX7 23 (TX7 8).1 (TX7 8).2.1 (TX7 8).2.2.1 ∈ tbw := List.mem_filter.mpr ⟨List.mem_of_getElem? (i := 755) (by decide +kernel), by decide +kernel⟩
theorem g_X7_23 (C : Cx p s m args meth c cc nL RX7 ret D A ct a) (hd : decode cc pc = .ok (.getfield 23, 3)) (k : KW p l e R s m args below meth c cells slots Q D A ct a nL M (pc + 3) lv (.ref (a 48) :: st)) : KW p l e R s m args below meth c cells slots Q D A ct a nL M pc lv (.ref (a 44) :: st) := q_get (k := 44) (j := 8) C rfl rfl rfl (by decide) iw_X7 wf_X7_23 hd k
theorem wf_X7_26 : Cond.fieldLink RX7 26 (TX7 9).1 (TX7 9).2.1 (TX7 9).2.2.1 ∈ tbw := List.mem_filter.mpr ⟨List.mem_of_getElem? (i := 756) (by decide +kernel), by decide +kernel⟩
theorem g_X7_26 (C : Cx p s m args meth c cc nL RX7 ret D A ct a) (hd : decode cc pc = .ok (.getfield 26, 3)) (k : KW p l e R s m args below meth c cells slots Q D A ct a nL M (pc + 3) lv (.ref (a 49) :: st)) : KW p l e R s m args below meth c cells slots Q D A ct a nL M pc lv (.ref (a 44) :: st) := q_get (k := 44) (j := 9) C rfl rfl rfl (by decide) iw_X7 wf_X7_26 hd k
theorem wf_X7_30 : Cond.fieldLink RX7 30 (TX7 10).1 (TX7 10).2.1 (TX7 10).2.2.1 ∈ tbw := List.mem_filter.mpr ⟨List.mem_of_getElem? (i := 757) (by decide +kernel), by decide +kernel⟩
theorem g_X7_30 (C : Cx p s m args meth c cc nL RX7 ret D A ct a) (hd : decode cc pc = .ok (.getfield 30, 3)) (k : KW p l e R s m args below meth c cells slots Q D A ct a nL M (pc + 3) lv (.ref (a 50) :: st)) : KW p l e R s m args below meth c cells slots Q D A ct a nL M pc lv (.ref (a 44) :: st) := q_get (k := 44) (j := 10) C rfl rfl rfl (by decide) iw_X7 wf_X7_30 hd k
theorem wf_X7_33 : Cond.fieldLink RX7 33 (TX7 11).1 (TX7 11).2.1 (TX7 11).2.2.1 ∈ tbw := List.mem_filter.mpr ⟨List.mem_of_getElem? (i := 758) (by decide +kernel), by decide +kernel⟩
theorem g_X7_33 (C : Cx p s m args meth c cc nL RX7 ret D A ct a) (hd : decode cc pc = .ok (.getfield 33, 3)) (k : KW p l e R s m args below meth c cells slots Q D A ct a nL M (pc + 3) lv (.ref (a 51) :: st)) : KW p l e R s m args below meth c cells slots Q D A ct a nL M pc lv (.ref (a 44) :: st) := q_get (k := 44) (j := 11) C rfl rfl rfl (by decide) iw_X7 wf_X7_33 hd k
theorem wf_X7_36 : Cond.fieldLink RX7 36 (TX7 12).1 (TX7 12).2.1 (TX7 12).2.2.1 ∈ tbw := List.mem_filter.mpr ⟨List.mem_of_getElem? (i := 759) (by decide +kernel), by decide +kernel⟩
theorem g_X7_36 (C : Cx p s m args meth c cc nL RX7 ret D A ct a) (hd : decode cc pc = .ok (.getfield 36, 3)) (k : KW p l e R s m args below meth c cells slots Q D A ct a nL M (pc + 3) lv (.int (gI M 44 12) :: st)) : KW p l e R s m args below meth c cells slots Q D A ct a nL M pc lv (.ref (a 44) :: st) := q_get (k := 44) (j := 12) C rfl rfl rfl (by decide) iw_X7 wf_X7_36 hd k
theorem p_X7_36 {v : Int32} (C : Cx p s m args meth c cc nL RX7 ret D A ct a)  (hd : decode cc pc = .ok (.putfield 36, 3)) (k : KW p l e R s m args below meth c cells slots Q D A ct a nL (sI M 44 12 v) (pc + 3) lv st) : KW p l e R s m args below meth c cells slots Q D A ct a nL M pc lv (.int v :: .ref (a 44) :: st) := q_putI (k := 44) (j := 12) (ty := .int) C rfl rfl rfl (by decide) iw_X7 tyX7_ok nmX7 wf_X7_36 rfl (by decide +kernel) rfl rfl hd k
theorem wf_X7_40 : Cond.fieldLink RX7 40 (TX7 13).1 (TX7 13).2.1 (TX7 13).2.2.1 ∈ tbw := List.mem_filter.mpr ⟨List.mem_of_getElem? (i := 760) (by decide +kernel), by decide +kernel⟩
theorem g_X7_40 (C : Cx p s m args meth c cc nL RX7 ret D A ct a) (hd : decode cc pc = .ok (.getfield 40, 3)) (k : KW p l e R s m args below meth c cells slots Q D A ct a nL M (pc + 3) lv (.int (gI M 44 13) :: st)) : KW p l e R s m args below meth c cells slots Q D A ct a nL M pc lv (.ref (a 44) :: st) := q_get (k := 44) (j := 13) C rfl rfl rfl (by decide) iw_X7 wf_X7_40 hd k
theorem p_X7_40 {v : Int32} (C : Cx p s m args meth c cc nL RX7 ret D A ct a)  (hd : decode cc pc = .ok (.putfield 40, 3)) (k : KW p l e R s m args below meth c cells slots Q D A ct a nL (sI M 44 13 v) (pc + 3) lv st) : KW p l e R s m args below meth c cells slots Q D A ct a nL M pc lv (.int v :: .ref (a 44) :: st) := q_putI (k := 44) (j := 13) (ty := .int) C rfl rfl rfl (by decide) iw_X7 tyX7_ok nmX7 wf_X7_40 rfl (by decide +kernel) rfl rfl hd k
theorem wf_X7_43 : Cond.fieldLink RX7 43 (TX7 14).1 (TX7 14).2.1 (TX7 14).2.2.1 ∈ tbw := List.mem_filter.mpr ⟨List.mem_of_getElem? (i := 761) (by decide +kernel), by decide +kernel⟩
theorem g_X7_43 (C : Cx p s m args meth c cc nL RX7 ret D A ct a) (hd : decode cc pc = .ok (.getfield 43, 3)) (k : KW p l e R s m args below meth c cells slots Q D A ct a nL M (pc + 3) lv (.int (gI M 44 14) :: st)) : KW p l e R s m args below meth c cells slots Q D A ct a nL M pc lv (.ref (a 44) :: st) := q_get (k := 44) (j := 14) C rfl rfl rfl (by decide) iw_X7 wf_X7_43 hd k
theorem p_X7_43 {v : Int32} (C : Cx p s m args meth c cc nL RX7 ret D A ct a)  (hd : decode cc pc = .ok (.putfield 43, 3)) (k : KW p l e R s m args below meth c cells slots Q D A ct a nL (sI M 44 14 v) (pc + 3) lv st) : KW p l e R s m args below meth c cells slots Q D A ct a nL M pc lv (.int v :: .ref (a 44) :: st) := q_putI (k := 44) (j := 14) (ty := .int) C rfl rfl rfl (by decide) iw_X7 tyX7_ok nmX7 wf_X7_43 rfl (by decide +kernel) rfl rfl hd k
theorem wf_X7_46 : Cond.fieldLink RX7 46 (TX7 15).1 (TX7 15).2.1 (TX7 15).2.2.1 ∈ tbw := List.mem_filter.mpr ⟨List.mem_of_getElem? (i := 762) (by decide +kernel), by decide +kernel⟩
theorem g_X7_46 (C : Cx p s m args meth c cc nL RX7 ret D A ct a) (hd : decode cc pc = .ok (.getfield 46, 3)) (k : KW p l e R s m args below meth c cells slots Q D A ct a nL M (pc + 3) lv (.int (gI M 44 15) :: st)) : KW p l e R s m args below meth c cells slots Q D A ct a nL M pc lv (.ref (a 44) :: st) := q_get (k := 44) (j := 15) C rfl rfl rfl (by decide) iw_X7 wf_X7_46 hd k
theorem p_X7_46 {v : Int32} (C : Cx p s m args meth c cc nL RX7 ret D A ct a)  (hd : decode cc pc = .ok (.putfield 46, 3)) (k : KW p l e R s m args below meth c cells slots Q D A ct a nL (sI M 44 15 v) (pc + 3) lv st) : KW p l e R s m args below meth c cells slots Q D A ct a nL M pc lv (.int v :: .ref (a 44) :: st) := q_putI (k := 44) (j := 15) (ty := .int) C rfl rfl rfl (by decide) iw_X7 tyX7_ok nmX7 wf_X7_46 rfl (by decide +kernel) rfl rfl hd k
theorem wf_X7_49 : Cond.fieldLink RX7 49 (TX7 17).1 (TX7 17).2.1 (TX7 17).2.2.1 ∈ tbw := List.mem_filter.mpr ⟨List.mem_of_getElem? (i := 764) (by decide +kernel), by decide +kernel⟩
theorem g_X7_49 (C : Cx p s m args meth c cc nL RX7 ret D A ct a) (hd : decode cc pc = .ok (.getfield 49, 3)) (k : KW p l e R s m args below meth c cells slots Q D A ct a nL M (pc + 3) lv (.ref (a 52) :: st)) : KW p l e R s m args below meth c cells slots Q D A ct a nL M pc lv (.ref (a 44) :: st) := q_get (k := 44) (j := 17) C rfl rfl rfl (by decide) iw_X7 wf_X7_49 hd k
theorem wf_X7_52 : Cond.fieldLink RX7 52 (TX7 18).1 (TX7 18).2.1 (TX7 18).2.2.1 ∈ tbw := List.mem_filter.mpr ⟨List.mem_of_getElem? (i := 765) (by decide +kernel), by decide +kernel⟩
theorem g_X7_52 (C : Cx p s m args meth c cc nL RX7 ret D A ct a) (hd : decode cc pc = .ok (.getfield 52, 3)) (k : KW p l e R s m args below meth c cells slots Q D A ct a nL M (pc + 3) lv (.ref (a 53) :: st)) : KW p l e R s m args below meth c cells slots Q D A ct a nL M pc lv (.ref (a 44) :: st) := q_get (k := 44) (j := 18) C rfl rfl rfl (by decide) iw_X7 wf_X7_52 hd k
theorem wf_X7_56 : Cond.fieldLink RX7 56 (TX7 19).1 (TX7 19).2.1 (TX7 19).2.2.1 ∈ tbw := List.mem_filter.mpr ⟨List.mem_of_getElem? (i := 766) (by decide +kernel), by decide +kernel⟩
theorem g_X7_56 (C : Cx p s m args meth c cc nL RX7 ret D A ct a) (hd : decode cc pc = .ok (.getfield 56, 3)) (k : KW p l e R s m args below meth c cells slots Q D A ct a nL M (pc + 3) lv (.ref (a 54) :: st)) : KW p l e R s m args below meth c cells slots Q D A ct a nL M pc lv (.ref (a 44) :: st) := q_get (k := 44) (j := 19) C rfl rfl rfl (by decide) iw_X7 wf_X7_56 hd k
theorem wf_X7_59 : Cond.fieldLink RX7 59 (TX7 20).1 (TX7 20).2.1 (TX7 20).2.2.1 ∈ tbw := List.mem_filter.mpr ⟨List.mem_of_getElem? (i := 767) (by decide +kernel), by decide +kernel⟩
theorem g_X7_59 (C : Cx p s m args meth c cc nL RX7 ret D A ct a) (hd : decode cc pc = .ok (.getfield 59, 3)) (k : KW p l e R s m args below meth c cells slots Q D A ct a nL M (pc + 3) lv (.ref (a 55) :: st)) : KW p l e R s m args below meth c cells slots Q D A ct a nL M pc lv (.ref (a 44) :: st) := q_get (k := 44) (j := 20) C rfl rfl rfl (by decide) iw_X7 wf_X7_59 hd k
theorem wf_X7_62 : Cond.fieldLink RX7 62 (TX7 21).1 (TX7 21).2.1 (TX7 21).2.2.1 ∈ tbw := List.mem_filter.mpr ⟨List.mem_of_getElem? (i := 768) (by decide +kernel), by decide +kernel⟩
theorem g_X7_62 (C : Cx p s m args meth c cc nL RX7 ret D A ct a) (hd : decode cc pc = .ok (.getfield 62, 3)) (k : KW p l e R s m args below meth c cells slots Q D A ct a nL M (pc + 3) lv (.int (gI M 44 21) :: st)) : KW p l e R s m args below meth c cells slots Q D A ct a nL M pc lv (.ref (a 44) :: st) := q_get (k := 44) (j := 21) C rfl rfl rfl (by decide) iw_X7 wf_X7_62 hd k
theorem p_X7_62 {v : Int32} (C : Cx p s m args meth c cc nL RX7 ret D A ct a)  (hd : decode cc pc = .ok (.putfield 62, 3)) (k : KW p l e R s m args below meth c cells slots Q D A ct a nL (sI M 44 21 v) (pc + 3) lv st) : KW p l e R s m args below meth c cells slots Q D A ct a nL M pc lv (.int v :: .ref (a 44) :: st) := q_putI (k := 44) (j := 21) (ty := .int) C rfl rfl rfl (by decide) iw_X7 tyX7_ok nmX7 wf_X7_62 rfl (by decide +kernel) rfl rfl hd k
theorem wf_X7_65 : Cond.fieldLink RX7 65 (TX7 24).1 (TX7 24).2.1 (TX7 24).2.2.1 ∈ tbw := List.mem_filter.mpr ⟨List.mem_of_getElem? (i := 771) (by decide +kernel), by decide +kernel⟩
theorem g_X7_65 (C : Cx p s m args meth c cc nL RX7 ret D A ct a) (hd : decode cc pc = .ok (.getfield 65, 3)) (k : KW p l e R s m args below meth c cells slots Q D A ct a nL M (pc + 3) lv (.ref (a 56) :: st)) : KW p l e R s m args below meth c cells slots Q D A ct a nL M pc lv (.ref (a 44) :: st) := q_get (k := 44) (j := 24) C rfl rfl rfl (by decide) iw_X7 wf_X7_65 hd k
theorem wf_X7_68 : Cond.fieldLink RX7 68 (TX7 25).1 (TX7 25).2.1 (TX7 25).2.2.1 ∈ tbw := List.mem_filter.mpr ⟨List.mem_of_getElem? (i := 772) (by decide +kernel), by decide +kernel⟩
theorem g_X7_68 (C : Cx p s m args meth c cc nL RX7 ret D A ct a) (hd : decode cc pc = .ok (.getfield 68, 3)) (k : KW p l e R s m args below meth c cells slots Q D A ct a nL M (pc + 3) lv (.ref (a 57) :: st)) : KW p l e R s m args below meth c cells slots Q D A ct a nL M pc lv (.ref (a 44) :: st) := q_get (k := 44) (j := 25) C rfl rfl rfl (by decide) iw_X7 wf_X7_68 hd k
theorem wf_X7_71 : Cond.fieldLink RX7 71 (TX7 26).1 (TX7 26).2.1 (TX7 26).2.2.1 ∈ tbw := List.mem_filter.mpr ⟨List.mem_of_getElem? (i := 773) (by decide +kernel), by decide +kernel⟩
theorem g_X7_71 (C : Cx p s m args meth c cc nL RX7 ret D A ct a) (hd : decode cc pc = .ok (.getfield 71, 3)) (k : KW p l e R s m args below meth c cells slots Q D A ct a nL M (pc + 3) lv (.ref (a 58) :: st)) : KW p l e R s m args below meth c cells slots Q D A ct a nL M pc lv (.ref (a 44) :: st) := q_get (k := 44) (j := 26) C rfl rfl rfl (by decide) iw_X7 wf_X7_71 hd k
theorem wf_X7_74 : Cond.fieldLink RX7 74 (TX7 27).1 (TX7 27).2.1 (TX7 27).2.2.1 ∈ tbw := List.mem_filter.mpr ⟨List.mem_of_getElem? (i := 774) (by decide +kernel), by decide +kernel⟩
theorem g_X7_74 (C : Cx p s m args meth c cc nL RX7 ret D A ct a) (hd : decode cc pc = .ok (.getfield 74, 3)) (k : KW p l e R s m args below meth c cells slots Q D A ct a nL M (pc + 3) lv (.ref (a 59) :: st)) : KW p l e R s m args below meth c cells slots Q D A ct a nL M pc lv (.ref (a 44) :: st) := q_get (k := 44) (j := 27) C rfl rfl rfl (by decide) iw_X7 wf_X7_74 hd k
theorem wf_X7_77 : Cond.fieldLink RX7 77 (TX7 28).1 (TX7 28).2.1 (TX7 28).2.2.1 ∈ tbw := List.mem_filter.mpr ⟨List.mem_of_getElem? (i := 775) (by decide +kernel), by decide +kernel⟩
theorem g_X7_77 (C : Cx p s m args meth c cc nL RX7 ret D A ct a) (hd : decode cc pc = .ok (.getfield 77, 3)) (k : KW p l e R s m args below meth c cells slots Q D A ct a nL M (pc + 3) lv (.ref (a 60) :: st)) : KW p l e R s m args below meth c cells slots Q D A ct a nL M pc lv (.ref (a 44) :: st) := q_get (k := 44) (j := 28) C rfl rfl rfl (by decide) iw_X7 wf_X7_77 hd k
theorem wf_X7_80 : Cond.fieldLink RX7 80 (TX7 29).1 (TX7 29).2.1 (TX7 29).2.2.1 ∈ tbw := List.mem_filter.mpr ⟨List.mem_of_getElem? (i := 776) (by decide +kernel), by decide +kernel⟩
theorem g_X7_80 (C : Cx p s m args meth c cc nL RX7 ret D A ct a) (hd : decode cc pc = .ok (.getfield 80, 3)) (k : KW p l e R s m args below meth c cells slots Q D A ct a nL M (pc + 3) lv (.ref (a 61) :: st)) : KW p l e R s m args below meth c cells slots Q D A ct a nL M pc lv (.ref (a 44) :: st) := q_get (k := 44) (j := 29) C rfl rfl rfl (by decide) iw_X7 wf_X7_80 hd k
theorem wf_X7_83 : Cond.fieldLink RX7 83 (TX7 30).1 (TX7 30).2.1 (TX7 30).2.2.1 ∈ tbw := List.mem_filter.mpr ⟨List.mem_of_getElem? (i := 777) (by decide +kernel), by decide +kernel⟩
theorem g_X7_83 (C : Cx p s m args meth c cc nL RX7 ret D A ct a) (hd : decode cc pc = .ok (.getfield 83, 3)) (k : KW p l e R s m args below meth c cells slots Q D A ct a nL M (pc + 3) lv (.int (gI M 44 30) :: st)) : KW p l e R s m args below meth c cells slots Q D A ct a nL M pc lv (.ref (a 44) :: st) := q_get (k := 44) (j := 30) C rfl rfl rfl (by decide) iw_X7 wf_X7_83 hd k
theorem p_X7_83 {v : Int32} (C : Cx p s m args meth c cc nL RX7 ret D A ct a)  (hd : decode cc pc = .ok (.putfield 83, 3)) (k : KW p l e R s m args below meth c cells slots Q D A ct a nL (sI M 44 30 v) (pc + 3) lv st) : KW p l e R s m args below meth c cells slots Q D A ct a nL M pc lv (.int v :: .ref (a 44) :: st) := q_putI (k := 44) (j := 30) (ty := .int) C rfl rfl rfl (by decide) iw_X7 tyX7_ok nmX7 wf_X7_83 rfl (by decide +kernel) rfl rfl hd k
theorem wf_X7_86 : Cond.fieldLink RX7 86 (TX7 32).1 (TX7 32).2.1 (TX7 32).2.2.1 ∈ tbw := List.mem_filter.mpr ⟨List.mem_of_getElem? (i := 779) (by decide +kernel), by decide +kernel⟩
theorem g_X7_86 (C : Cx p s m args meth c cc nL RX7 ret D A ct a) (hd : decode cc pc = .ok (.getfield 86, 3)) (k : KW p l e R s m args below meth c cells slots Q D A ct a nL M (pc + 3) lv (.ref (a 62) :: st)) : KW p l e R s m args below meth c cells slots Q D A ct a nL M pc lv (.ref (a 44) :: st) := q_get (k := 44) (j := 32) C rfl rfl rfl (by decide) iw_X7 wf_X7_86 hd k
theorem wf_X7_89 : Cond.fieldLink RX7 89 (TX7 33).1 (TX7 33).2.1 (TX7 33).2.2.1 ∈ tbw := List.mem_filter.mpr ⟨List.mem_of_getElem? (i := 780) (by decide +kernel), by decide +kernel⟩
theorem g_X7_89 (C : Cx p s m args meth c cc nL RX7 ret D A ct a) (hd : decode cc pc = .ok (.getfield 89, 3)) (k : KW p l e R s m args below meth c cells slots Q D A ct a nL M (pc + 3) lv (.ref (a 63) :: st)) : KW p l e R s m args below meth c cells slots Q D A ct a nL M pc lv (.ref (a 44) :: st) := q_get (k := 44) (j := 33) C rfl rfl rfl (by decide) iw_X7 wf_X7_89 hd k
theorem wf_X7_92 : Cond.fieldLink RX7 92 (TX7 34).1 (TX7 34).2.1 (TX7 34).2.2.1 ∈ tbw := List.mem_filter.mpr ⟨List.mem_of_getElem? (i := 781) (by decide +kernel), by decide +kernel⟩
theorem g_X7_92 (C : Cx p s m args meth c cc nL RX7 ret D A ct a) (hd : decode cc pc = .ok (.getfield 92, 3)) (k : KW p l e R s m args below meth c cells slots Q D A ct a nL M (pc + 3) lv (.ref (a 64) :: st)) : KW p l e R s m args below meth c cells slots Q D A ct a nL M pc lv (.ref (a 44) :: st) := q_get (k := 44) (j := 34) C rfl rfl rfl (by decide) iw_X7 wf_X7_92 hd k
theorem wf_X7_95 : Cond.fieldLink RX7 95 (TX7 36).1 (TX7 36).2.1 (TX7 36).2.2.1 ∈ tbw := List.mem_filter.mpr ⟨List.mem_of_getElem? (i := 783) (by decide +kernel), by decide +kernel⟩
theorem g_X7_95 (C : Cx p s m args meth c cc nL RX7 ret D A ct a) (hd : decode cc pc = .ok (.getfield 95, 3)) (k : KW p l e R s m args below meth c cells slots Q D A ct a nL M (pc + 3) lv (.ref (a 65) :: st)) : KW p l e R s m args below meth c cells slots Q D A ct a nL M pc lv (.ref (a 44) :: st) := q_get (k := 44) (j := 36) C rfl rfl rfl (by decide) iw_X7 wf_X7_95 hd k
theorem wf_X7_98 : Cond.fieldLink RX7 98 (TX7 37).1 (TX7 37).2.1 (TX7 37).2.2.1 ∈ tbw := List.mem_filter.mpr ⟨List.mem_of_getElem? (i := 784) (by decide +kernel), by decide +kernel⟩
theorem g_X7_98 (C : Cx p s m args meth c cc nL RX7 ret D A ct a) (hd : decode cc pc = .ok (.getfield 98, 3)) (k : KW p l e R s m args below meth c cells slots Q D A ct a nL M (pc + 3) lv (.ref (a 66) :: st)) : KW p l e R s m args below meth c cells slots Q D A ct a nL M pc lv (.ref (a 44) :: st) := q_get (k := 44) (j := 37) C rfl rfl rfl (by decide) iw_X7 wf_X7_98 hd k
theorem wf_X7_101 : Cond.fieldLink RX7 101 (TX7 38).1 (TX7 38).2.1 (TX7 38).2.2.1 ∈ tbw := List.mem_filter.mpr ⟨List.mem_of_getElem? (i := 785) (by decide +kernel), by decide +kernel⟩
theorem g_X7_101 (C : Cx p s m args meth c cc nL RX7 ret D A ct a) (hd : decode cc pc = .ok (.getfield 101, 3)) (k : KW p l e R s m args below meth c cells slots Q D A ct a nL M (pc + 3) lv (.ref (a 67) :: st)) : KW p l e R s m args below meth c cells slots Q D A ct a nL M pc lv (.ref (a 44) :: st) := q_get (k := 44) (j := 38) C rfl rfl rfl (by decide) iw_X7 wf_X7_101 hd k
theorem wf_X7_104 : Cond.fieldLink RX7 104 (TX7 39).1 (TX7 39).2.1 (TX7 39).2.2.1 ∈ tbw := List.mem_filter.mpr ⟨List.mem_of_getElem? (i := 786) (by decide +kernel), by decide +kernel⟩
theorem g_X7_104 (C : Cx p s m args meth c cc nL RX7 ret D A ct a) (hd : decode cc pc = .ok (.getfield 104, 3)) (k : KW p l e R s m args below meth c cells slots Q D A ct a nL M (pc + 3) lv (.ref (a 68) :: st)) : KW p l e R s m args below meth c cells slots Q D A ct a nL M pc lv (.ref (a 44) :: st) := q_get (k := 44) (j := 39) C rfl rfl rfl (by decide) iw_X7 wf_X7_104 hd k
theorem wf_X7_107 : Cond.fieldLink RX7 107 (TX7 40).1 (TX7 40).2.1 (TX7 40).2.2.1 ∈ tbw := List.mem_filter.mpr ⟨List.mem_of_getElem? (i := 787) (by decide +kernel), by decide +kernel⟩
theorem g_X7_107 (C : Cx p s m args meth c cc nL RX7 ret D A ct a) (hd : decode cc pc = .ok (.getfield 107, 3)) (k : KW p l e R s m args below meth c cells slots Q D A ct a nL M (pc + 3) lv (.ref (a 69) :: st)) : KW p l e R s m args below meth c cells slots Q D A ct a nL M pc lv (.ref (a 44) :: st) := q_get (k := 44) (j := 40) C rfl rfl rfl (by decide) iw_X7 wf_X7_107 hd k
theorem wf_X7_110 : Cond.fieldLink RX7 110 (TX7 41).1 (TX7 41).2.1 (TX7 41).2.2.1 ∈ tbw := List.mem_filter.mpr ⟨List.mem_of_getElem? (i := 788) (by decide +kernel), by decide +kernel⟩
theorem g_X7_110 (C : Cx p s m args meth c cc nL RX7 ret D A ct a) (hd : decode cc pc = .ok (.getfield 110, 3)) (k : KW p l e R s m args below meth c cells slots Q D A ct a nL M (pc + 3) lv (.ref (a 70) :: st)) : KW p l e R s m args below meth c cells slots Q D A ct a nL M pc lv (.ref (a 44) :: st) := q_get (k := 44) (j := 41) C rfl rfl rfl (by decide) iw_X7 wf_X7_110 hd k
theorem wf_X7_113 : Cond.fieldLink RX7 113 (TX7 42).1 (TX7 42).2.1 (TX7 42).2.2.1 ∈ tbw := List.mem_filter.mpr ⟨List.mem_of_getElem? (i := 789) (by decide +kernel), by decide +kernel⟩
theorem g_X7_113 (C : Cx p s m args meth c cc nL RX7 ret D A ct a) (hd : decode cc pc = .ok (.getfield 113, 3)) (k : KW p l e R s m args below meth c cells slots Q D A ct a nL M (pc + 3) lv (.ref (a 71) :: st)) : KW p l e R s m args below meth c cells slots Q D A ct a nL M pc lv (.ref (a 44) :: st) := q_get (k := 44) (j := 42) C rfl rfl rfl (by decide) iw_X7 wf_X7_113 hd k
theorem wf_X7_116 : Cond.fieldLink RX7 116 (TX7 43).1 (TX7 43).2.1 (TX7 43).2.2.1 ∈ tbw := List.mem_filter.mpr ⟨List.mem_of_getElem? (i := 790) (by decide +kernel), by decide +kernel⟩
theorem g_X7_116 (C : Cx p s m args meth c cc nL RX7 ret D A ct a) (hd : decode cc pc = .ok (.getfield 116, 3)) (k : KW p l e R s m args below meth c cells slots Q D A ct a nL M (pc + 3) lv (.ref (a 72) :: st)) : KW p l e R s m args below meth c cells slots Q D A ct a nL M pc lv (.ref (a 44) :: st) := q_get (k := 44) (j := 43) C rfl rfl rfl (by decide) iw_X7 wf_X7_116 hd k
theorem wf_X7_119 : Cond.fieldLink RX7 119 (TX7 0).1 (TX7 0).2.1 (TX7 0).2.2.1 ∈ tbw := List.mem_filter.mpr ⟨List.mem_of_getElem? (i := 747) (by decide +kernel), by decide +kernel⟩
theorem g_X7_119 (C : Cx p s m args meth c cc nL RX7 ret D A ct a) (hd : decode cc pc = .ok (.getfield 119, 3)) (k : KW p l e R s m args below meth c cells slots Q D A ct a nL M (pc + 3) lv (.int (gI M 44 0) :: st)) : KW p l e R s m args below meth c cells slots Q D A ct a nL M pc lv (.ref (a 44) :: st) := q_get (k := 44) (j := 0) C rfl rfl rfl (by decide) iw_X7 wf_X7_119 hd k
theorem p_X7_119 {v : Int32} (C : Cx p s m args meth c cc nL RX7 ret D A ct a)  (hd : decode cc pc = .ok (.putfield 119, 3)) (k : KW p l e R s m args below meth c cells slots Q D A ct a nL (sI M 44 0 v) (pc + 3) lv st) : KW p l e R s m args below meth c cells slots Q D A ct a nL M pc lv (.int v :: .ref (a 44) :: st) := q_putI (k := 44) (j := 0) (ty := .int) C rfl rfl rfl (by decide) iw_X7 tyX7_ok nmX7 wf_X7_119 rfl (by decide +kernel) rfl rfl hd k
theorem wf_X7_122 : Cond.fieldLink RX7 122 (TX7 2).1 (TX7 2).2.1 (TX7 2).2.2.1 ∈ tbw := List.mem_filter.mpr ⟨List.mem_of_getElem? (i := 749) (by decide +kernel), by decide +kernel⟩
theorem g_X7_122 (C : Cx p s m args meth c cc nL RX7 ret D A ct a) (hd : decode cc pc = .ok (.getfield 122, 3)) (k : KW p l e R s m args below meth c cells slots Q D A ct a nL M (pc + 3) lv (.long (gJ M 44 2) :: st)) : KW p l e R s m args below meth c cells slots Q D A ct a nL M pc lv (.ref (a 44) :: st) := q_get (k := 44) (j := 2) C rfl rfl rfl (by decide) iw_X7 wf_X7_122 hd k
theorem p_X7_122 {v : Int64} (C : Cx p s m args meth c cc nL RX7 ret D A ct a) (hd : decode cc pc = .ok (.putfield 122, 3)) (k : KW p l e R s m args below meth c cells slots Q D A ct a nL (sJ M 44 2 v) (pc + 3) lv st) : KW p l e R s m args below meth c cells slots Q D A ct a nL M pc lv (.long v :: .ref (a 44) :: st) := q_putJ (k := 44) (j := 2) C rfl rfl rfl (by decide) iw_X7 tyX7_ok nmX7 wf_X7_122 rfl (by decide +kernel) hd k
theorem cw_X7_125 : cwS' RX7 125 yX7_in cX7_in 3 (some .boolean) 3 := ⟨⟨⟨List.mem_filter.mpr ⟨List.mem_of_getElem? (i := 884) (by decide +kernel), by decide +kernel⟩, List.mem_filter.mpr ⟨List.mem_of_getElem? (i := 886) (by decide +kernel), by decide +kernel⟩, List.mem_filter.mpr ⟨List.mem_of_getElem? (i := 35) (by decide +kernel), by decide +kernel⟩⟩, by decide +kernel, by decide +kernel, by decide +kernel⟩, List.mem_filter.mpr ⟨List.mem_of_getElem? (i := 885) (by decide +kernel), by decide +kernel⟩⟩
theorem wf_X7_129 : Cond.fieldLink RX7 129 (TX7 5).1 (TX7 5).2.1 (TX7 5).2.2.1 ∈ tbw := List.mem_filter.mpr ⟨List.mem_of_getElem? (i := 752) (by decide +kernel), by decide +kernel⟩
theorem g_X7_129 (C : Cx p s m args meth c cc nL RX7 ret D A ct a) (hd : decode cc pc = .ok (.getfield 129, 3)) (k : KW p l e R s m args below meth c cells slots Q D A ct a nL M (pc + 3) lv (.int (gI M 44 5) :: st)) : KW p l e R s m args below meth c cells slots Q D A ct a nL M pc lv (.ref (a 44) :: st) := q_get (k := 44) (j := 5) C rfl rfl rfl (by decide) iw_X7 wf_X7_129 hd k
theorem p_X7_129 {v : Int32} (C : Cx p s m args meth c cc nL RX7 ret D A ct a)  (hd : decode cc pc = .ok (.putfield 129, 3)) (k : KW p l e R s m args below meth c cells slots Q D A ct a nL (sI M 44 5 v) (pc + 3) lv st) : KW p l e R s m args below meth c cells slots Q D A ct a nL M pc lv (.int v :: .ref (a 44) :: st) := q_putI (k := 44) (j := 5) (ty := .int) C rfl rfl rfl (by decide) iw_X7 tyX7_ok nmX7 wf_X7_129 rfl (by decide +kernel) rfl rfl hd k
theorem cw_X7_132 : cwS' RX7 132 yX7_areParts cX7_areParts 3 (some .boolean) 3 := ⟨⟨⟨List.mem_filter.mpr ⟨List.mem_of_getElem? (i := 911) (by decide +kernel), by decide +kernel⟩, List.mem_filter.mpr ⟨List.mem_of_getElem? (i := 913) (by decide +kernel), by decide +kernel⟩, List.mem_filter.mpr ⟨List.mem_of_getElem? (i := 35) (by decide +kernel), by decide +kernel⟩⟩, by decide +kernel, by decide +kernel, by decide +kernel⟩, List.mem_filter.mpr ⟨List.mem_of_getElem? (i := 912) (by decide +kernel), by decide +kernel⟩⟩
theorem cw_X7_135 : cwV' RX7 135 yX7_mixed cX7_mixed 4 (some .int) 1 := ⟨⟨⟨List.mem_filter.mpr ⟨List.mem_of_getElem? (i := 926) (by decide +kernel), by decide +kernel⟩, List.mem_filter.mpr ⟨List.mem_of_getElem? (i := 929) (by decide +kernel), by decide +kernel⟩, List.mem_filter.mpr ⟨List.mem_of_getElem? (i := 35) (by decide +kernel), by decide +kernel⟩⟩, by decide +kernel, by decide +kernel, by decide +kernel⟩, List.mem_filter.mpr ⟨List.mem_of_getElem? (i := 928) (by decide +kernel), by decide +kernel⟩, List.mem_filter.mpr ⟨List.mem_of_getElem? (i := 14) (by decide +kernel), by decide +kernel⟩⟩
theorem wk_X7_139 : Cond.constantLong RX7 139 (10) ∈ tbw := List.mem_filter.mpr ⟨List.mem_of_getElem? (i := 949) (by decide +kernel), by decide +kernel⟩
theorem wk_X7_141 : Cond.constantLong RX7 141 (28) ∈ tbw := List.mem_filter.mpr ⟨List.mem_of_getElem? (i := 938) (by decide +kernel), by decide +kernel⟩
theorem wk_X7_143 : Cond.constantLong RX7 143 (12) ∈ tbw := List.mem_filter.mpr ⟨List.mem_of_getElem? (i := 939) (by decide +kernel), by decide +kernel⟩
theorem wk_X7_145 : Cond.constantLong RX7 145 (7) ∈ tbw := List.mem_filter.mpr ⟨List.mem_of_getElem? (i := 940) (by decide +kernel), by decide +kernel⟩
theorem cw_X7_147 : cwV' RX7 147 yX7_numberLower cX7_numberLower 1 (some .long) 0 := ⟨⟨⟨List.mem_filter.mpr ⟨List.mem_of_getElem? (i := 934) (by decide +kernel), by decide +kernel⟩, List.mem_filter.mpr ⟨List.mem_of_getElem? (i := 937) (by decide +kernel), by decide +kernel⟩, List.mem_filter.mpr ⟨List.mem_of_getElem? (i := 35) (by decide +kernel), by decide +kernel⟩⟩, by decide +kernel, by decide +kernel, by decide +kernel⟩, List.mem_filter.mpr ⟨List.mem_of_getElem? (i := 936) (by decide +kernel), by decide +kernel⟩, List.mem_filter.mpr ⟨List.mem_of_getElem? (i := 15) (by decide +kernel), by decide +kernel⟩⟩
theorem cw_X7_151 : cwV' RX7 151 yX7_meets cX7_meets 2 (some .int) 1 := ⟨⟨⟨List.mem_filter.mpr ⟨List.mem_of_getElem? (i := 941) (by decide +kernel), by decide +kernel⟩, List.mem_filter.mpr ⟨List.mem_of_getElem? (i := 944) (by decide +kernel), by decide +kernel⟩, List.mem_filter.mpr ⟨List.mem_of_getElem? (i := 35) (by decide +kernel), by decide +kernel⟩⟩, by decide +kernel, by decide +kernel, by decide +kernel⟩, List.mem_filter.mpr ⟨List.mem_of_getElem? (i := 943) (by decide +kernel), by decide +kernel⟩, List.mem_filter.mpr ⟨List.mem_of_getElem? (i := 16) (by decide +kernel), by decide +kernel⟩⟩
theorem cw_X7_154 : cwV' RX7 154 yX7_numberUpper cX7_numberUpper 1 (some .long) 0 := ⟨⟨⟨List.mem_filter.mpr ⟨List.mem_of_getElem? (i := 945) (by decide +kernel), by decide +kernel⟩, List.mem_filter.mpr ⟨List.mem_of_getElem? (i := 948) (by decide +kernel), by decide +kernel⟩, List.mem_filter.mpr ⟨List.mem_of_getElem? (i := 35) (by decide +kernel), by decide +kernel⟩⟩, by decide +kernel, by decide +kernel, by decide +kernel⟩, List.mem_filter.mpr ⟨List.mem_of_getElem? (i := 947) (by decide +kernel), by decide +kernel⟩, List.mem_filter.mpr ⟨List.mem_of_getElem? (i := 17) (by decide +kernel), by decide +kernel⟩⟩
theorem cw_X7_157 : cwS' RX7 157 yX7_divisor cX7_divisor 10 (some .long) 2 := ⟨⟨⟨List.mem_filter.mpr ⟨List.mem_of_getElem? (i := 950) (by decide +kernel), by decide +kernel⟩, List.mem_filter.mpr ⟨List.mem_of_getElem? (i := 952) (by decide +kernel), by decide +kernel⟩, List.mem_filter.mpr ⟨List.mem_of_getElem? (i := 35) (by decide +kernel), by decide +kernel⟩⟩, by decide +kernel, by decide +kernel, by decide +kernel⟩, List.mem_filter.mpr ⟨List.mem_of_getElem? (i := 951) (by decide +kernel), by decide +kernel⟩⟩
theorem wf_X7_161 : Cond.fieldLink RX7 161 (TX7 3).1 (TX7 3).2.1 (TX7 3).2.2.1 ∈ tbw := List.mem_filter.mpr ⟨List.mem_of_getElem? (i := 750) (by decide +kernel), by decide +kernel⟩
theorem g_X7_161 (C : Cx p s m args meth c cc nL RX7 ret D A ct a) (hd : decode cc pc = .ok (.getfield 161, 3)) (k : KW p l e R s m args below meth c cells slots Q D A ct a nL M (pc + 3) lv (.long (gJ M 44 3) :: st)) : KW p l e R s m args below meth c cells slots Q D A ct a nL M pc lv (.ref (a 44) :: st) := q_get (k := 44) (j := 3) C rfl rfl rfl (by decide) iw_X7 wf_X7_161 hd k
theorem p_X7_161 {v : Int64} (C : Cx p s m args meth c cc nL RX7 ret D A ct a) (hd : decode cc pc = .ok (.putfield 161, 3)) (k : KW p l e R s m args below meth c cells slots Q D A ct a nL (sJ M 44 3 v) (pc + 3) lv st) : KW p l e R s m args below meth c cells slots Q D A ct a nL M pc lv (.long v :: .ref (a 44) :: st) := q_putJ (k := 44) (j := 3) C rfl rfl rfl (by decide) iw_X7 tyX7_ok nmX7 wf_X7_161 rfl (by decide +kernel) hd k
theorem wf_X7_164 : Cond.fieldLink RX7 164 (TX7 16).1 (TX7 16).2.1 (TX7 16).2.2.1 ∈ tbw := List.mem_filter.mpr ⟨List.mem_of_getElem? (i := 763) (by decide +kernel), by decide +kernel⟩
theorem g_X7_164 (C : Cx p s m args meth c cc nL RX7 ret D A ct a) (hd : decode cc pc = .ok (.getfield 164, 3)) (k : KW p l e R s m args below meth c cells slots Q D A ct a nL M (pc + 3) lv (.int (gI M 44 16) :: st)) : KW p l e R s m args below meth c cells slots Q D A ct a nL M pc lv (.ref (a 44) :: st) := q_get (k := 44) (j := 16) C rfl rfl rfl (by decide) iw_X7 wf_X7_164 hd k
theorem p_X7_164 {v : Int32} (C : Cx p s m args meth c cc nL RX7 ret D A ct a)  (hd : decode cc pc = .ok (.putfield 164, 3)) (k : KW p l e R s m args below meth c cells slots Q D A ct a nL (sI M 44 16 v) (pc + 3) lv st) : KW p l e R s m args below meth c cells slots Q D A ct a nL M pc lv (.int v :: .ref (a 44) :: st) := q_putI (k := 44) (j := 16) (ty := .int) C rfl rfl rfl (by decide) iw_X7 tyX7_ok nmX7 wf_X7_164 rfl (by decide +kernel) rfl rfl hd k
theorem wk_X7_167 : Cond.constant RX7 167 (100000) ∈ tbw := List.mem_filter.mpr ⟨List.mem_of_getElem? (i := 965) (by decide +kernel), by decide +kernel⟩
theorem cw_X7_168 : cwV' RX7 168 yX7_steer cX7_steer 8 (some .int) 2 := ⟨⟨⟨List.mem_filter.mpr ⟨List.mem_of_getElem? (i := 966) (by decide +kernel), by decide +kernel⟩, List.mem_filter.mpr ⟨List.mem_of_getElem? (i := 969) (by decide +kernel), by decide +kernel⟩, List.mem_filter.mpr ⟨List.mem_of_getElem? (i := 35) (by decide +kernel), by decide +kernel⟩⟩, by decide +kernel, by decide +kernel, by decide +kernel⟩, List.mem_filter.mpr ⟨List.mem_of_getElem? (i := 968) (by decide +kernel), by decide +kernel⟩, List.mem_filter.mpr ⟨List.mem_of_getElem? (i := 18) (by decide +kernel), by decide +kernel⟩⟩
theorem cw_X7_172 : cwS' RX7 172 yX7_kindOf cX7_kindOf 1 (some .int) 1 := ⟨⟨⟨List.mem_filter.mpr ⟨List.mem_of_getElem? (i := 986) (by decide +kernel), by decide +kernel⟩, List.mem_filter.mpr ⟨List.mem_of_getElem? (i := 988) (by decide +kernel), by decide +kernel⟩, List.mem_filter.mpr ⟨List.mem_of_getElem? (i := 35) (by decide +kernel), by decide +kernel⟩⟩, by decide +kernel, by decide +kernel, by decide +kernel⟩, List.mem_filter.mpr ⟨List.mem_of_getElem? (i := 987) (by decide +kernel), by decide +kernel⟩⟩
theorem wk_X7_175 : Cond.constantLong RX7 175 (100) ∈ tbw := List.mem_filter.mpr ⟨List.mem_of_getElem? (i := 993) (by decide +kernel), by decide +kernel⟩
theorem wk_X7_177 : Cond.constantLong RX7 177 (200) ∈ tbw := List.mem_filter.mpr ⟨List.mem_of_getElem? (i := 1002) (by decide +kernel), by decide +kernel⟩
theorem wf_X7_179 : Cond.fieldLink RX7 179 (TX7 22).1 (TX7 22).2.1 (TX7 22).2.2.1 ∈ tbw := List.mem_filter.mpr ⟨List.mem_of_getElem? (i := 769) (by decide +kernel), by decide +kernel⟩
theorem g_X7_179 (C : Cx p s m args meth c cc nL RX7 ret D A ct a) (hd : decode cc pc = .ok (.getfield 179, 3)) (k : KW p l e R s m args below meth c cells slots Q D A ct a nL M (pc + 3) lv (.int (gI M 44 22) :: st)) : KW p l e R s m args below meth c cells slots Q D A ct a nL M pc lv (.ref (a 44) :: st) := q_get (k := 44) (j := 22) C rfl rfl rfl (by decide) iw_X7 wf_X7_179 hd k
theorem p_X7_179 {v : Int32} (C : Cx p s m args meth c cc nL RX7 ret D A ct a)  (hd : decode cc pc = .ok (.putfield 179, 3)) (k : KW p l e R s m args below meth c cells slots Q D A ct a nL (sI M 44 22 v) (pc + 3) lv st) : KW p l e R s m args below meth c cells slots Q D A ct a nL M pc lv (.int v :: .ref (a 44) :: st) := q_putI (k := 44) (j := 22) (ty := .int) C rfl rfl rfl (by decide) iw_X7 tyX7_ok nmX7 wf_X7_179 rfl (by decide +kernel) rfl rfl hd k
theorem wf_X7_182 : Cond.fieldLink RX7 182 (TX7 23).1 (TX7 23).2.1 (TX7 23).2.2.1 ∈ tbw := List.mem_filter.mpr ⟨List.mem_of_getElem? (i := 770) (by decide +kernel), by decide +kernel⟩
theorem g_X7_182 (C : Cx p s m args meth c cc nL RX7 ret D A ct a) (hd : decode cc pc = .ok (.getfield 182, 3)) (k : KW p l e R s m args below meth c cells slots Q D A ct a nL M (pc + 3) lv (.int (gI M 44 23) :: st)) : KW p l e R s m args below meth c cells slots Q D A ct a nL M pc lv (.ref (a 44) :: st) := q_get (k := 44) (j := 23) C rfl rfl rfl (by decide) iw_X7 wf_X7_182 hd k
theorem p_X7_182 {v : Int32} (C : Cx p s m args meth c cc nL RX7 ret D A ct a) (hz : narrow .boolean (.int v) = .int v) (hf : fits .boolean (.int v) = true) (hd : decode cc pc = .ok (.putfield 182, 3)) (k : KW p l e R s m args below meth c cells slots Q D A ct a nL (sI M 44 23 v) (pc + 3) lv st) : KW p l e R s m args below meth c cells slots Q D A ct a nL M pc lv (.int v :: .ref (a 44) :: st) := q_putI (k := 44) (j := 23) (ty := .boolean) C rfl rfl rfl (by decide) iw_X7 tyX7_ok nmX7 wf_X7_182 rfl (by decide +kernel) hz hf hd k
theorem cw_X7_186 : cwV' RX7 186 yX7_taken cX7_taken 4 (some .int) 2 := ⟨⟨⟨List.mem_filter.mpr ⟨List.mem_of_getElem? (i := 982) (by decide +kernel), by decide +kernel⟩, List.mem_filter.mpr ⟨List.mem_of_getElem? (i := 985) (by decide +kernel), by decide +kernel⟩, List.mem_filter.mpr ⟨List.mem_of_getElem? (i := 35) (by decide +kernel), by decide +kernel⟩⟩, by decide +kernel, by decide +kernel, by decide +kernel⟩, List.mem_filter.mpr ⟨List.mem_of_getElem? (i := 984) (by decide +kernel), by decide +kernel⟩, List.mem_filter.mpr ⟨List.mem_of_getElem? (i := 19) (by decide +kernel), by decide +kernel⟩⟩
theorem cw_X7_190 : cwV' RX7 190 yX7_handOn cX7_handOn 4 none 2 := ⟨⟨⟨List.mem_filter.mpr ⟨List.mem_of_getElem? (i := 989) (by decide +kernel), by decide +kernel⟩, List.mem_filter.mpr ⟨List.mem_of_getElem? (i := 992) (by decide +kernel), by decide +kernel⟩, List.mem_filter.mpr ⟨List.mem_of_getElem? (i := 35) (by decide +kernel), by decide +kernel⟩⟩, by decide +kernel, by decide +kernel, by decide +kernel⟩, List.mem_filter.mpr ⟨List.mem_of_getElem? (i := 991) (by decide +kernel), by decide +kernel⟩, List.mem_filter.mpr ⟨List.mem_of_getElem? (i := 20) (by decide +kernel), by decide +kernel⟩⟩
theorem cw_X7_194 : cwV' RX7 194 yX7_addLot cX7_addLot 3 none 2 := ⟨⟨⟨List.mem_filter.mpr ⟨List.mem_of_getElem? (i := 994) (by decide +kernel), by decide +kernel⟩, List.mem_filter.mpr ⟨List.mem_of_getElem? (i := 997) (by decide +kernel), by decide +kernel⟩, List.mem_filter.mpr ⟨List.mem_of_getElem? (i := 35) (by decide +kernel), by decide +kernel⟩⟩, by decide +kernel, by decide +kernel, by decide +kernel⟩, List.mem_filter.mpr ⟨List.mem_of_getElem? (i := 996) (by decide +kernel), by decide +kernel⟩, List.mem_filter.mpr ⟨List.mem_of_getElem? (i := 21) (by decide +kernel), by decide +kernel⟩⟩
theorem cw_X7_197 : cwV' RX7 197 yX7_causeOf cX7_causeOf 3 (some .int) 1 := ⟨⟨⟨List.mem_filter.mpr ⟨List.mem_of_getElem? (i := 998) (by decide +kernel), by decide +kernel⟩, List.mem_filter.mpr ⟨List.mem_of_getElem? (i := 1001) (by decide +kernel), by decide +kernel⟩, List.mem_filter.mpr ⟨List.mem_of_getElem? (i := 35) (by decide +kernel), by decide +kernel⟩⟩, by decide +kernel, by decide +kernel, by decide +kernel⟩, List.mem_filter.mpr ⟨List.mem_of_getElem? (i := 1000) (by decide +kernel), by decide +kernel⟩, List.mem_filter.mpr ⟨List.mem_of_getElem? (i := 22) (by decide +kernel), by decide +kernel⟩⟩
theorem cw_X7_200 : cwV' RX7 200 yX7_tell cX7_tell 4 (some .int) 2 := ⟨⟨⟨List.mem_filter.mpr ⟨List.mem_of_getElem? (i := 1023) (by decide +kernel), by decide +kernel⟩, List.mem_filter.mpr ⟨List.mem_of_getElem? (i := 1026) (by decide +kernel), by decide +kernel⟩, List.mem_filter.mpr ⟨List.mem_of_getElem? (i := 35) (by decide +kernel), by decide +kernel⟩⟩, by decide +kernel, by decide +kernel, by decide +kernel⟩, List.mem_filter.mpr ⟨List.mem_of_getElem? (i := 1025) (by decide +kernel), by decide +kernel⟩, List.mem_filter.mpr ⟨List.mem_of_getElem? (i := 23) (by decide +kernel), by decide +kernel⟩⟩
theorem wf_X7_204 : Cond.fieldLink RX7 204 (TX7 31).1 (TX7 31).2.1 (TX7 31).2.2.1 ∈ tbw := List.mem_filter.mpr ⟨List.mem_of_getElem? (i := 778) (by decide +kernel), by decide +kernel⟩
theorem g_X7_204 (C : Cx p s m args meth c cc nL RX7 ret D A ct a) (hd : decode cc pc = .ok (.getfield 204, 3)) (k : KW p l e R s m args below meth c cells slots Q D A ct a nL M (pc + 3) lv (.int (gI M 44 31) :: st)) : KW p l e R s m args below meth c cells slots Q D A ct a nL M pc lv (.ref (a 44) :: st) := q_get (k := 44) (j := 31) C rfl rfl rfl (by decide) iw_X7 wf_X7_204 hd k
theorem p_X7_204 {v : Int32} (C : Cx p s m args meth c cc nL RX7 ret D A ct a)  (hd : decode cc pc = .ok (.putfield 204, 3)) (k : KW p l e R s m args below meth c cells slots Q D A ct a nL (sI M 44 31 v) (pc + 3) lv st) : KW p l e R s m args below meth c cells slots Q D A ct a nL M pc lv (.int v :: .ref (a 44) :: st) := q_putI (k := 44) (j := 31) (ty := .int) C rfl rfl rfl (by decide) iw_X7 tyX7_ok nmX7 wf_X7_204 rfl (by decide +kernel) rfl rfl hd k
theorem cw_X7_207 : cwV' RX7 207 yX7_inSilo cX7_inSilo 5 (some .int) 2 := ⟨⟨⟨List.mem_filter.mpr ⟨List.mem_of_getElem? (i := 1035) (by decide +kernel), by decide +kernel⟩, List.mem_filter.mpr ⟨List.mem_of_getElem? (i := 1038) (by decide +kernel), by decide +kernel⟩, List.mem_filter.mpr ⟨List.mem_of_getElem? (i := 35) (by decide +kernel), by decide +kernel⟩⟩, by decide +kernel, by decide +kernel, by decide +kernel⟩, List.mem_filter.mpr ⟨List.mem_of_getElem? (i := 1037) (by decide +kernel), by decide +kernel⟩, List.mem_filter.mpr ⟨List.mem_of_getElem? (i := 24) (by decide +kernel), by decide +kernel⟩⟩
theorem wf_X7_211 : Cond.fieldLink RX7 211 (TX7 35).1 (TX7 35).2.1 (TX7 35).2.2.1 ∈ tbw := List.mem_filter.mpr ⟨List.mem_of_getElem? (i := 782) (by decide +kernel), by decide +kernel⟩
theorem g_X7_211 (C : Cx p s m args meth c cc nL RX7 ret D A ct a) (hd : decode cc pc = .ok (.getfield 211, 3)) (k : KW p l e R s m args below meth c cells slots Q D A ct a nL M (pc + 3) lv (.int (gI M 44 35) :: st)) : KW p l e R s m args below meth c cells slots Q D A ct a nL M pc lv (.ref (a 44) :: st) := q_get (k := 44) (j := 35) C rfl rfl rfl (by decide) iw_X7 wf_X7_211 hd k
theorem p_X7_211 {v : Int32} (C : Cx p s m args meth c cc nL RX7 ret D A ct a)  (hd : decode cc pc = .ok (.putfield 211, 3)) (k : KW p l e R s m args below meth c cells slots Q D A ct a nL (sI M 44 35 v) (pc + 3) lv st) : KW p l e R s m args below meth c cells slots Q D A ct a nL M pc lv (.int v :: .ref (a 44) :: st) := q_putI (k := 44) (j := 35) (ty := .int) C rfl rfl rfl (by decide) iw_X7 tyX7_ok nmX7 wf_X7_211 rfl (by decide +kernel) rfl rfl hd k
theorem cw_X7_214 : cwS' RX7 214 yX7_isADay cX7_isADay 1 (some .boolean) 1 := ⟨⟨⟨List.mem_filter.mpr ⟨List.mem_of_getElem? (i := 1051) (by decide +kernel), by decide +kernel⟩, List.mem_filter.mpr ⟨List.mem_of_getElem? (i := 1053) (by decide +kernel), by decide +kernel⟩, List.mem_filter.mpr ⟨List.mem_of_getElem? (i := 35) (by decide +kernel), by decide +kernel⟩⟩, by decide +kernel, by decide +kernel, by decide +kernel⟩, List.mem_filter.mpr ⟨List.mem_of_getElem? (i := 1052) (by decide +kernel), by decide +kernel⟩⟩
theorem wk_X7_218 : Cond.constantLong RX7 218 (24) ∈ tbw := List.mem_filter.mpr ⟨List.mem_of_getElem? (i := 1066) (by decide +kernel), by decide +kernel⟩
theorem cw_X7_220 : cwV' RX7 220 yX7_counts cX7_counts 4 (some .int) 1 := ⟨⟨⟨List.mem_filter.mpr ⟨List.mem_of_getElem? (i := 1091) (by decide +kernel), by decide +kernel⟩, List.mem_filter.mpr ⟨List.mem_of_getElem? (i := 1094) (by decide +kernel), by decide +kernel⟩, List.mem_filter.mpr ⟨List.mem_of_getElem? (i := 35) (by decide +kernel), by decide +kernel⟩⟩, by decide +kernel, by decide +kernel, by decide +kernel⟩, List.mem_filter.mpr ⟨List.mem_of_getElem? (i := 1093) (by decide +kernel), by decide +kernel⟩, List.mem_filter.mpr ⟨List.mem_of_getElem? (i := 25) (by decide +kernel), by decide +kernel⟩⟩
theorem wk_X7_223 : Cond.constantLong RX7 223 (17) ∈ tbw := List.mem_filter.mpr ⟨List.mem_of_getElem? (i := 1107) (by decide +kernel), by decide +kernel⟩
theorem wk_X7_225 : Cond.constantLong RX7 225 (31) ∈ tbw := List.mem_filter.mpr ⟨List.mem_of_getElem? (i := 1108) (by decide +kernel), by decide +kernel⟩
theorem ws_max : Cond.static Lib.Math.max.name ∈ tbw ∧ Cond.initialized "java/lang/Math" ∈ tbw ∧ Cond.code Lib.Math.max.name Lib.Math.max.code 2 (some .int) ∈ tbw := ⟨List.mem_filter.mpr ⟨List.mem_of_getElem? (i := 300) (by decide +kernel), by decide +kernel⟩, List.mem_filter.mpr ⟨List.mem_of_getElem? (i := 36) (by decide +kernel), by decide +kernel⟩, List.mem_filter.mpr ⟨List.mem_of_getElem? (i := 301) (by decide +kernel), by decide +kernel⟩⟩
theorem ws_min : Cond.static Lib.Math.min.name ∈ tbw ∧ Cond.initialized "java/lang/Math" ∈ tbw ∧ Cond.code Lib.Math.min.name Lib.Math.min.code 2 (some .int) ∈ tbw := ⟨List.mem_filter.mpr ⟨List.mem_of_getElem? (i := 297) (by decide +kernel), by decide +kernel⟩, List.mem_filter.mpr ⟨List.mem_of_getElem? (i := 36) (by decide +kernel), by decide +kernel⟩, List.mem_filter.mpr ⟨List.mem_of_getElem? (i := 298) (by decide +kernel), by decide +kernel⟩⟩
theorem ws_abs : Cond.static Lib.Math.abs.name ∈ tbw ∧ Cond.initialized "java/lang/Math" ∈ tbw ∧ Cond.code Lib.Math.abs.name Lib.Math.abs.code 1 (some .int) ∈ tbw := ⟨List.mem_filter.mpr ⟨List.mem_of_getElem? (i := 262) (by decide +kernel), by decide +kernel⟩, List.mem_filter.mpr ⟨List.mem_of_getElem? (i := 36) (by decide +kernel), by decide +kernel⟩, List.mem_filter.mpr ⟨List.mem_of_getElem? (i := 263) (by decide +kernel), by decide +kernel⟩⟩
theorem ws_minL : Cond.static Lib.MathLoose.min_long.x ∈ tbw ∧ Cond.initialized "java/lang/Math" ∈ tbw ∧ Cond.code Lib.MathLoose.min_long.x Lib.MathLoose.min_long.code 4 (some .long) ∈ tbw := ⟨List.mem_filter.mpr ⟨List.mem_of_getElem? (i := 647) (by decide +kernel), by decide +kernel⟩, List.mem_filter.mpr ⟨List.mem_of_getElem? (i := 36) (by decide +kernel), by decide +kernel⟩, List.mem_filter.mpr ⟨List.mem_of_getElem? (i := 648) (by decide +kernel), by decide +kernel⟩⟩
theorem ws_fold : Cond.code yX6_fold cX6_fold 4 (some .long) ∈ tbw ∧ Cond.static yX6_fold ∈ tbw ∧ Cond.initialized yX6_fold.cls ∈ tbw := ⟨List.mem_filter.mpr ⟨List.mem_of_getElem? (i := 713) (by decide +kernel), by decide +kernel⟩, List.mem_filter.mpr ⟨List.mem_of_getElem? (i := 712) (by decide +kernel), by decide +kernel⟩, List.mem_filter.mpr ⟨List.mem_of_getElem? (i := 27) (by decide +kernel), by decide +kernel⟩⟩
end WD
end
section
/-! loops, joins, indices -/
def itr {σ : Type} (f : Nat → σ → σ) : Nat → σ → σ
  | 0, s => s
  | n + 1, s => f n (itr f n s)
def itd {σ : Type} (f : Nat → σ → σ) : Nat → σ → σ
  | 0, s => s
  | n + 1, s => itd f n (f n s)
theorem nI_down (i : Nat) : nI (i + 1) + (-1) = nI i := by
  have h := nI_pred i
  rw [← h, Int32.sub_eq_add_neg]
theorem vin2 {x y : Int32} {n : Nat} (h1 : 0 ≤ x) (h2 : x ≤ y) (h3 : y.toInt < n) : vp_in x n := by
  rw [vp_in_iff]
  have a1 := Int32.le_iff_toInt_le.mp h1
  have a2 := Int32.le_iff_toInt_le.mp h2
  have e0 : (0 : Int32).toInt = 0 := by decide
  rw [e0] at a1
  omega
def bz (v : Int32) : Prop := narrow .boolean (.int v) = .int v
theorem bz_and {v : Int32} (h : bz v) : v &&& 1 = v := by
  have h1 : Value.int (v &&& 1) = Value.int v := h
  exact Value.int.inj h1
theorem bz_nar {v : Int32} (h : bz v) : vp_nar .boolean v = v := by
  have e : vp_nar .boolean v = v &&& 1 := rfl
  rw [e, bz_and h]
theorem bz_if {c : Prop} [Decidable c] {x y : Int32} (hx : bz x) (hy : bz y) : bz (if c then x else y) := by
  split
  · exact hx
  · exact hy
theorem bz_0 : bz 0 := congrArg Value.int (by decide : (0 &&& 1 : Int32) = 0)
theorem bz_1 : bz 1 := congrArg Value.int (by decide : (1 &&& 1 : Int32) = 1)
theorem bz_01 {v : Int32} (h : v = 0 ∨ v = 1) : bz v := by
  rcases h with rfl | rfl
  · exact bz_0
  · exact bz_1
theorem bzf_0 : fits .boolean (.int 0) = true := by decide
theorem bzf_1 : fits .boolean (.int 1) = true := by decide
theorem bzf_if {c : Prop} [Decidable c] {x y : Int32} (hx : fits .boolean (.int x) = true) (hy : fits .boolean (.int y) = true) : fits .boolean (.int (if c then x else y)) = true := by
  split
  · exact hx
  · exact hy
section LY4
variable {p : Program} {l : Launch} {e : Env} {R : Room} {s : State} {m : MethodId} {args : Array Value} {below : List Frame} {meth : Method} {c : Code} {cells slots : Nat} {Q : State → Prop} {D : va_G} {A : Nat → Prop} {ct : Nat → ClassId} {a : Nat → Nat} {nL : Nat} {M : Mm} {pc : Nat} {lv : List (Option Value)} {st : List Value} {cc : ByteArray} {own : String} {ret : Option FieldType}
theorem q_cut (M1 : Mm) (pc1 : Nat) (lv1 : List (Option Value)) (st1 : List Value) (h : KW p l e R s m args below meth c cells slots Q D A ct a nL M1 pc1 lv1 st1 → KW p l e R s m args below meth c cells slots Q D A ct a nL M pc lv st) (k : KW p l e R s m args below meth c cells slots Q D A ct a nL M1 pc1 lv1 st1) : KW p l e R s m args below meth c cells slots Q D A ct a nL M pc lv st := h k
theorem q_ialdX {k n r j : Nat} {i : Int32} (C : Cx p s m args meth c cc nL own ret D A ct a) (hs : SH[k]? = some (.inr (0, n, r))) (hj : i.toNatClampNeg = j) (hin : vp_in i n) (hd : decode cc pc = .ok (.iaload, 1)) (kk : KW p l e R s m args below meth c cells slots Q D A ct a nL M (pc + 1) lv (.int (gI M k j) :: st)) : KW p l e R s m args below meth c cells slots Q D A ct a nL M pc lv (.int i :: .ref (a k) :: st) := by
  subst hj; exact q_iald C hs hin hd kk
theorem q_zaldX {k n r j : Nat} {i : Int32} (C : Cx p s m args meth c cc nL own ret D A ct a) (hs : SH[k]? = some (.inr (2, n, r))) (hj : i.toNatClampNeg = j) (hin : vp_in i n) (hd : decode cc pc = .ok (.baload, 1)) (kk : KW p l e R s m args below meth c cells slots Q D A ct a nL M (pc + 1) lv (.int (gI M k j) :: st)) : KW p l e R s m args below meth c cells slots Q D A ct a nL M pc lv (.int i :: .ref (a k) :: st) := by
  subst hj; exact q_zald C hs hin hd kk
theorem q_laldX {k n r j : Nat} {i : Int32} (C : Cx p s m args meth c cc nL own ret D A ct a) (hs : SH[k]? = some (.inr (1, n, r))) (hj : i.toNatClampNeg = j) (hin : vp_in i n) (hd : decode cc pc = .ok (.laload, 1)) (kk : KW p l e R s m args below meth c cells slots Q D A ct a nL M (pc + 1) lv (.long (gJ M k j) :: st)) : KW p l e R s m args below meth c cells slots Q D A ct a nL M pc lv (.int i :: .ref (a k) :: st) := by
  subst hj; exact q_lald C hs hin hd kk
theorem q_aaldX {k n r j : Nat} {i : Int32} (C : Cx p s m args meth c cc nL own ret D A ct a) (hs : SH[k]? = some (.inr (3, n, r))) (hj : i.toNatClampNeg = j) (hin : vp_in i n) (hd : decode cc pc = .ok (.aaload, 1)) (kk : KW p l e R s m args below meth c cells slots Q D A ct a nL M (pc + 1) lv (.ref (a (r + j)) :: st)) : KW p l e R s m args below meth c cells slots Q D A ct a nL M pc lv (.int i :: .ref (a k) :: st) := by
  subst hj; exact q_aald C hs hin hd kk
theorem q_iastX {k n r j : Nat} {i v : Int32} (C : Cx p s m args meth c cc nL own ret D A ct a) (hs : SH[k]? = some (.inr (0, n, r))) (hj : i.toNatClampNeg = j) (hin : vp_in i n) (hd : decode cc pc = .ok (.iastore, 1)) (kk : KW p l e R s m args below meth c cells slots Q D A ct a nL (sI M k j v) (pc + 1) lv st) : KW p l e R s m args below meth c cells slots Q D A ct a nL M pc lv (.int v :: .int i :: .ref (a k) :: st) := by
  subst hj; exact q_iast C hs hin hd kk
theorem q_zastX {k n r j : Nat} {i v : Int32} (C : Cx p s m args meth c cc nL own ret D A ct a) (hs : SH[k]? = some (.inr (2, n, r))) (hj : i.toNatClampNeg = j) (hin : vp_in i n) (hv : bz v) (hd : decode cc pc = .ok (.bastore, 1)) (kk : KW p l e R s m args below meth c cells slots Q D A ct a nL (sI M k j v) (pc + 1) lv st) : KW p l e R s m args below meth c cells slots Q D A ct a nL M pc lv (.int v :: .int i :: .ref (a k) :: st) := by
  subst hj; exact q_zast C hs hin (bz_nar hv) hd kk
theorem q_lastX {k n r j : Nat} {i : Int32} {v : Int64} (C : Cx p s m args meth c cc nL own ret D A ct a) (hs : SH[k]? = some (.inr (1, n, r))) (hj : i.toNatClampNeg = j) (hin : vp_in i n) (hd : decode cc pc = .ok (.lastore, 1)) (kk : KW p l e R s m args below meth c cells slots Q D A ct a nL (sJ M k j v) (pc + 1) lv st) : KW p l e R s m args below meth c cells slots Q D A ct a nL M pc lv (.long v :: .int i :: .ref (a k) :: st) := by
  subst hj; exact q_last C hs hin hd kk
theorem q_loop {σ : Type} (N : Nat) (f : Nat → σ → σ) (Mf : σ → Mm) (lf : Int32 → σ → List (Option Value)) (s0 : σ) (step : ∀ i z, i < N → KW p l e R s m args below meth c cells slots Q D A ct a nL (Mf (f i z)) pc (lf (nI i + 1) (f i z)) st → KW p l e R s m args below meth c cells slots Q D A ct a nL (Mf z) pc (lf (nI i) z) st) (done : KW p l e R s m args below meth c cells slots Q D A ct a nL (Mf (itr f N s0)) pc (lf (nI N) (itr f N s0)) st) : KW p l e R s m args below meth c cells slots Q D A ct a nL (Mf s0) pc (lf 0 s0) st := by
  have key : ∀ j, j ≤ N → KW p l e R s m args below meth c cells slots Q D A ct a nL (Mf (itr f (N - j) s0)) pc (lf (nI (N - j)) (itr f (N - j) s0)) st := by
    intro j
    induction j with
    | zero => intro _; exact done
    | succ j ih =>
      intro hj
      have h1 := ih (by omega)
      have e : N - j = (N - (j + 1)) + 1 := by omega
      rw [e, nI_succ] at h1
      exact step (N - (j + 1)) _ (by omega) h1
  have h := key N (Nat.le_refl N)
  rw [Nat.sub_self] at h
  exact h
theorem q_loopI {σ : Type} (I : Nat → σ → Prop) (N : Nat) (f : Nat → σ → σ) (Mf : σ → Mm) (lf : Int32 → σ → List (Option Value)) (s0 : σ) (h0 : I 0 s0) (hI : ∀ i z, i < N → I i z → I (i + 1) (f i z)) (step : ∀ i z, i < N → I i z → KW p l e R s m args below meth c cells slots Q D A ct a nL (Mf (f i z)) pc (lf (nI i + 1) (f i z)) st → KW p l e R s m args below meth c cells slots Q D A ct a nL (Mf z) pc (lf (nI i) z) st) (done : I N (itr f N s0) → KW p l e R s m args below meth c cells slots Q D A ct a nL (Mf (itr f N s0)) pc (lf (nI N) (itr f N s0)) st) : KW p l e R s m args below meth c cells slots Q D A ct a nL (Mf s0) pc (lf 0 s0) st := by
  have hI' : ∀ i, i ≤ N → I i (itr f i s0) := by
    intro i
    induction i with
    | zero => intro _; exact h0
    | succ i ih => intro hi; exact hI i _ (by omega) (ih (by omega))
  have key : ∀ j, j ≤ N → KW p l e R s m args below meth c cells slots Q D A ct a nL (Mf (itr f (N - j) s0)) pc (lf (nI (N - j)) (itr f (N - j) s0)) st := by
    intro j
    induction j with
    | zero => intro _; exact done (hI' N (Nat.le_refl N))
    | succ j ih =>
      intro hj
      have h1 := ih (by omega)
      have e : N - j = (N - (j + 1)) + 1 := by omega
      rw [e, nI_succ] at h1
      exact step (N - (j + 1)) _ (by omega) (hI' _ (by omega)) h1
  have h := key N (Nat.le_refl N)
  rw [Nat.sub_self] at h
  exact h
/-- downward: the counter is N - 1, .., 0 -/
theorem q_loopD {σ : Type} (N : Nat) (f : Nat → σ → σ) (Mf : σ → Mm) (lf : Int32 → σ → List (Option Value)) (s0 : σ) {x0 : Int32} (hx : x0 = nI N + (-1)) (step : ∀ i z, i < N → KW p l e R s m args below meth c cells slots Q D A ct a nL (Mf (f i z)) pc (lf (nI i + (-1)) (f i z)) st → KW p l e R s m args below meth c cells slots Q D A ct a nL (Mf z) pc (lf (nI i) z) st) (done : KW p l e R s m args below meth c cells slots Q D A ct a nL (Mf (itd f N s0)) pc (lf (-1) (itd f N s0)) st) : KW p l e R s m args below meth c cells slots Q D A ct a nL (Mf s0) pc (lf x0 s0) st := by
  subst hx
  have key : ∀ n, n ≤ N → ∀ s1, KW p l e R s m args below meth c cells slots Q D A ct a nL (Mf (itd f n s1)) pc (lf (-1) (itd f n s1)) st → KW p l e R s m args below meth c cells slots Q D A ct a nL (Mf s1) pc (lf (nI n + (-1)) s1) st := by
    intro n
    induction n with
    | zero =>
      intro _ s1 h
      have e : nI 0 + (-1) = -1 := by decide
      rw [e]
      exact h
    | succ n ih =>
      intro hn s1 h
      rw [nI_down]
      exact step n s1 (by omega) (ih (by omega) (f n s1) h)
  exact key N (Nat.le_refl N) s0 done
end LY4
/-- pairs of a contract's end -/
theorem q_p2 {α β : Type} {o : α × β} {x : α} {y : β} (h : o = (x, y)) : x = o.1 ∧ y = o.2 := by subst h; exact ⟨rfl, rfl⟩
end
section
theorem sh_12 {j : Nat} (h : j < 4) : SH[12 + j]? = some (.inr (0, 4, 0)) := by
  rcases (show j = 0 ∨ j = 1 ∨ j = 2 ∨ j = 3 by omega) with rfl | rfl | rfl | rfl <;> rfl
theorem sh_34 {j : Nat} (h : j < 7) : SH[34 + j]? = some (.inr (0, 24, 0)) := by
  rcases (show j = 0 ∨ j = 1 ∨ j = 2 ∨ j = 3 ∨ j = 4 ∨ j = 5 ∨ j = 6 by omega) with rfl | rfl | rfl | rfl | rfl | rfl | rfl <;> rfl
theorem vin_lt {x : Int32} {n : Nat} (h : vp_in x n) : x.toNatClampNeg < n := Nat.not_le.mp fun q => h (Or.inr q)
theorem hdy_fold : yX6_fold.cls ≠ "java/lang/invoke/MethodHandle" ∧ yX6_fold.cls ≠ "java/lang/invoke/VarHandle" ∧ (parseMethodDescriptor yX6_fold.desc).map (fun d => d.parameters.length) = some 2 := by decide +kernel
theorem nl_X0 : Cond.methodLinkNest RX0 88 yX6_fold "KilnLine" ∈ nws := by decide +kernel
theorem nl_X2 : Cond.methodLinkNest RX2 42 yX6_fold "KilnLine" ∈ nws := by decide +kernel
theorem nl_X3 : Cond.methodLinkNest RX3 77 yX6_fold "KilnLine" ∈ nws := by decide +kernel
theorem nl_X4 : Cond.methodLinkNest RX4 71 yX6_fold "KilnLine" ∈ nws := by decide +kernel
theorem nl_X5 : Cond.methodLinkNest RX5 43 yX6_fold "KilnLine" ∈ nws := by decide +kernel
section LY5
variable {p : Program} {l : Launch} {e : Env} {R : Room} {s : State} {m : MethodId} {args : Array Value} {below : List Frame} {meth : Method} {c : Code} {cells slots : Nat} {Q : State → Prop} {D : va_G} {A : Nat → Prop} {ct : Nat → ClassId} {a : Nat → Nat} {nL : Nat} {M : Mm} {pc : Nat} {lv : List (Option Value)} {st : List Value} {cc : ByteArray} {own : String} {ret : Option FieldType}
theorem q_kaldX {t j : Nat} {i : Int32} (C : Cx p s m args meth c cc nL own ret D A ct a) (ht : va_T .int t 4 (fun j => .int (kinds j)) A s s.heap) (hj : i.toNatClampNeg = j) (hin : vp_in i 4) (hd : decode cc pc = .ok (.iaload, 1)) (kk : KW p l e R s m args below meth c cells slots Q D A ct a nL M (pc + 1) lv (.int (kinds j) :: st)) : KW p l e R s m args below meth c cells slots Q D A ct a nL M pc lv (.int i :: .ref t :: st) := by
  subst hj; exact q_kald C ht hin hd kk
end LY5
def lsub : List (Option Value) → List (Option Value) → Prop
  | [], [] => True
  | none :: r, _ :: q => lsub r q
  | some v :: r, x :: q => x = some v ∧ lsub r q
  | _, _ => False
theorem lsub_mem : ∀ (l q : List (Option Value)), lsub l q → ∀ (n : Nat) (v : Value), l[n]? = some (some v) → q[n]? = some (some v)
  | [], [], _, n, v, h => by simp at h
  | none :: r, x :: q, hs, n, v, h => by
    cases n with
    | zero => simp at h
    | succ n => simpa using lsub_mem r q hs n v (by simpa using h)
  | some w :: r, x :: q, hs, n, v, h => by
    cases n with
    | zero =>
      have e : w = v := by simpa using h
      rw [hs.1, e]; rfl
    | succ n => simpa using lsub_mem r q hs.2 n v (by simpa using h)
  | [], _ :: _, hs, _, _, _ => by simp [lsub] at hs
  | none :: _, [], hs, _, _, _ => by simp [lsub] at hs
  | some _ :: _, [], hs, _, _, _ => by simp [lsub] at hs
section LY6
variable {p : Program} {l : Launch} {e : Env} {R : Room} {s : State} {m : MethodId} {args : Array Value} {below : List Frame} {meth : Method} {c : Code} {cells slots : Nat} {Q : State → Prop} {D : va_G} {A : Nat → Prop} {ct : Nat → ClassId} {a : Nat → Nat} {nL : Nat} {M : Mm} {pc : Nat} {lv : List (Option Value)} {st : List Value}
theorem q_drop (lv' : List (Option Value)) (hs : lsub lv' lv) (k : KW p l e R s m args below meth c cells slots Q D A ct a nL M pc lv' st) : KW p l e R s m args below meth c cells slots Q D A ct a nL M pc lv st := fun H locs ls hP hS hl => k H locs ls hP hS ⟨hl.1, hl.2.1, fun q hq => by
  obtain ⟨j, w⟩ := q
  obtain ⟨n, h1, h2⟩ := (lvl_mem _ 0).mp hq
  exact hl.2.2 (j, w) ((lvl_mem _ 0).mpr ⟨n, h1, lsub_mem lv' lv hs n w h2⟩)⟩
end LY6
theorem itr_keepI {f : Nat → Mm → Mm} {k j : Nat} (h : ∀ i z, gI (f i z) k j = gI z k j) : ∀ (n : Nat) (z : Mm), gI (itr f n z) k j = gI z k j
  | 0, _ => rfl
  | n + 1, z => by rw [show itr f (n + 1) z = f n (itr f n z) from rfl, h, itr_keepI h n z]
theorem itr_keepJ {f : Nat → Mm → Mm} {k j : Nat} (h : ∀ i z, gJ (f i z) k j = gJ z k j) : ∀ (n : Nat) (z : Mm), gJ (itr f n z) k j = gJ z k j
  | 0, _ => rfl
  | n + 1, z => by rw [show itr f (n + 1) z = f n (itr f n z) from rfl, h, itr_keepJ h n z]
theorem itd_keepI {f : Nat → Mm → Mm} {k j : Nat} (h : ∀ i z, gI (f i z) k j = gI z k j) : ∀ (n : Nat) (z : Mm), gI (itd f n z) k j = gI z k j
  | 0, _ => rfl
  | n + 1, z => by rw [show itd f (n + 1) z = itd f n (f n z) from rfl, itd_keepI h n, h]
/-- a property of the state that every round keeps -/
theorem itr_inv {σ : Type} {f : Nat → σ → σ} (I : Nat → σ → Prop) {N : Nat} (hI : ∀ i z, i < N → I i z → I (i + 1) (f i z)) {z : σ} (h0 : I 0 z) : ∀ n, n ≤ N → I n (itr f n z)
  | 0, _ => h0
  | n + 1, hn => hI n _ (by omega) (itr_inv I hI h0 n (by omega))
theorem itd_inv {σ : Type} {f : Nat → σ → σ} (I : Nat → σ → Prop) (hI : ∀ i z, I (i + 1) z → I i (f i z)) : ∀ (n : Nat) (z : σ), I n z → I 0 (itd f n z)
  | 0, _, h => h
  | n + 1, z, h => itd_inv I hI n (f n z) (hI n z h)
/-- two loops side by side -/
theorem itr_rel {σ τ : Type} {f : Nat → σ → σ} {g : Nat → τ → τ} (I : Nat → σ → τ → Prop) {N : Nat} (hI : ∀ i z w, i < N → I i z w → I (i + 1) (f i z) (g i w)) {z : σ} {w : τ} (h0 : I 0 z w) : ∀ n, n ≤ N → I n (itr f n z) (itr g n w)
  | 0, _ => h0
  | n + 1, hn => hI n _ _ (by omega) (itr_rel I hI h0 n (by omega))
theorem itd_rel {σ τ : Type} {f : Nat → σ → σ} {g : Nat → τ → τ} (I : Nat → σ → τ → Prop) (hI : ∀ i z w, I (i + 1) z w → I i (f i z) (g i w)) : ∀ (n : Nat) (z : σ) (w : τ), I n z w → I 0 (itd f n z) (itd g n w)
  | 0, _, _, h => h
  | n + 1, z, w, h => itd_rel I hI n (f n z) (g n w) (hI n z w h)
theorem gI_ite {c : Prop} [Decidable c] {A B : Mm} {k j : Nat} : gI (if c then A else B) k j = if c then gI A k j else gI B k j := by split <;> rfl
theorem gJ_ite {c : Prop} [Decidable c] {A B : Mm} {k j : Nat} : gJ (if c then A else B) k j = if c then gJ A k j else gJ B k j := by split <;> rfl
end
section
def f_X6_within (u1 : Int32) (u2 : Int32) (u3 : Int32) : Int32 := (if u1 < u2 then (0 : Int32) else (if u3 < u1 then (0 : Int32) else (1 : Int32)))
set_option maxHeartbeats 4000000 in
set_option maxRecDepth 100000 in
theorem c_X6_within (M : Mm) (u1 : Int32) (u2 : Int32) (u3 : Int32)  : MI yX6_within cX6_within 3 (some .boolean) 0 0 (fun a => [.int u1, .int u2, .int u3]) M (f_X6_within u1 u2 u3) M := by
  refine MI.intro (lv0 := fun a => [some (.int u1), some (.int u2), some (.int u3)]) (by decide) (fun a => ⟨(Nat.le_of_ble_eq_true rfl), rfl⟩) ?_
  intro p9 l9 e9 s9 m9 g9 b9 h9 c9 D9 A9 ct a C
  have C : Cx p9 s9 m9 g9 h9 c9 cX6_within 3 RX6 (some .boolean) D9 A9 ct a := C
  refine q_iload0 C dX6_within_0 ?_
  refine q_iload1 C dX6_within_1 ?_
  refine q_cut M 15 [none, none, none] [.int (if u1 < u2 then (0 : Int32) else (if u3 < u1 then (0 : Int32) else (1 : Int32)))] (fun hJ => ?_) ?_
  · refine q_icmp_lt (tgt := 14) C dX6_within_2 (by decide) (fun c1 => ?_) (fun c1 => ?_)
    · refine q_iconst (v := 0) C dX6_within_14 (by decide) ?_
      refine q_drop [none, none, none] (by repeat' (first | exact trivial | rfl | constructor)) ?_
      (try simp only [if_pos c1] at hJ); exact hJ
    · refine q_iload0 C dX6_within_5 ?_
      refine q_iload2 C dX6_within_6 ?_
      refine q_icmp_gt (tgt := 14) C dX6_within_7 (by decide) (fun c2 => ?_) (fun c2 => ?_)
      · refine q_iconst (v := 0) C dX6_within_14 (by decide) ?_
        refine q_drop [none, none, none] (by repeat' (first | exact trivial | rfl | constructor)) ?_
        (try simp only [if_neg c1, if_pos c2] at hJ); exact hJ
      · refine q_iconst (v := 1) C dX6_within_10 (by decide) ?_
        refine q_goto (tgt := 15) C dX6_within_11 (by decide) ?_
        refine q_drop [none, none, none] (by repeat' (first | exact trivial | rfl | constructor)) ?_
        (try simp only [if_neg c1, if_neg c2] at hJ); exact hJ
  exact q_zret C (by repeat' first | exact bz_0 | exact bz_1 | assumption | apply bz_if) rfl rfl dX6_within_15
def f_X6_fitWhole (u1 : Int32) (u2 : Int32) (u3 : Int32) : Int32 := (if (f_X6_within u1 (0 : Int32) (1000 : Int32)) = 0 then (0 : Int32) else (if (f_X6_within u2 (0 : Int32) (1000 : Int32)) = 0 then (0 : Int32) else (if (f_X6_within u3 (0 : Int32) (1000 : Int32)) = 0 then (0 : Int32) else (if (1000 : Int32) < ((u1 + u2) + u3) then (0 : Int32) else (1 : Int32)))))
set_option maxHeartbeats 4000000 in
set_option maxRecDepth 100000 in
theorem c_X6_fitWhole (M : Mm) (u1 : Int32) (u2 : Int32) (u3 : Int32)  : MI yX6_fitWhole cX6_fitWhole 3 (some .boolean) 1 22 (fun a => [.int u1, .int u2, .int u3]) M (f_X6_fitWhole u1 u2 u3) M := by
  refine MI.intro (lv0 := fun a => [some (.int u1), some (.int u2), some (.int u3)]) (by decide) (fun a => ⟨(Nat.le_of_ble_eq_true rfl), rfl⟩) ?_
  intro p9 l9 e9 s9 m9 g9 b9 h9 c9 D9 A9 ct a C
  have C : Cx p9 s9 m9 g9 h9 c9 cX6_fitWhole 3 RX6 (some .boolean) D9 A9 ct a := C
  refine q_iload0 C dX6_fitWhole_0 ?_
  refine q_iconst (v := 0) C dX6_fitWhole_1 (by decide) ?_
  refine q_sipush (v := 1000) C dX6_fitWhole_2 (by decide) ?_
  refine qc_SI C (c_X6_within _ _ _ _) cw_X6_63 rfl rfl (Nat.le_of_ble_eq_true rfl) ⟨(Nat.le_of_ble_eq_true rfl), (Nat.le_of_ble_eq_true rfl)⟩ ⟨Nat.zero_le _, Nat.zero_le _⟩ dX6_fitWhole_5 ?_
  refine q_cut M 49 [none, none, none] [.int (if (f_X6_within u1 (0 : Int32) (1000 : Int32)) = 0 then (0 : Int32) else (if (f_X6_within u2 (0 : Int32) (1000 : Int32)) = 0 then (0 : Int32) else (if (f_X6_within u3 (0 : Int32) (1000 : Int32)) = 0 then (0 : Int32) else (if (1000 : Int32) < ((u1 + u2) + u3) then (0 : Int32) else (1 : Int32)))))] (fun hJ => ?_) ?_
  · refine q_if_eq (tgt := 48) C dX6_fitWhole_8 (by decide) (fun c1 => ?_) (fun c1 => ?_)
    · refine q_iconst (v := 0) C dX6_fitWhole_48 (by decide) ?_
      refine q_drop [none, none, none] (by repeat' (first | exact trivial | rfl | constructor)) ?_
      (try simp only [if_pos c1] at hJ); exact hJ
    · refine q_iload1 C dX6_fitWhole_11 ?_
      refine q_iconst (v := 0) C dX6_fitWhole_12 (by decide) ?_
      refine q_sipush (v := 1000) C dX6_fitWhole_13 (by decide) ?_
      refine qc_SI C (c_X6_within _ _ _ _) cw_X6_63 rfl rfl (Nat.le_of_ble_eq_true rfl) ⟨(Nat.le_of_ble_eq_true rfl), (Nat.le_of_ble_eq_true rfl)⟩ ⟨Nat.zero_le _, Nat.zero_le _⟩ dX6_fitWhole_16 ?_
      refine q_if_eq (tgt := 48) C dX6_fitWhole_19 (by decide) (fun c2 => ?_) (fun c2 => ?_)
      · refine q_iconst (v := 0) C dX6_fitWhole_48 (by decide) ?_
        refine q_drop [none, none, none] (by repeat' (first | exact trivial | rfl | constructor)) ?_
        (try simp only [if_neg c1, if_pos c2] at hJ); exact hJ
      · refine q_iload2 C dX6_fitWhole_22 ?_
        refine q_iconst (v := 0) C dX6_fitWhole_23 (by decide) ?_
        refine q_sipush (v := 1000) C dX6_fitWhole_24 (by decide) ?_
        refine qc_SI C (c_X6_within _ _ _ _) cw_X6_63 rfl rfl (Nat.le_of_ble_eq_true rfl) ⟨(Nat.le_of_ble_eq_true rfl), (Nat.le_of_ble_eq_true rfl)⟩ ⟨Nat.zero_le _, Nat.zero_le _⟩ dX6_fitWhole_27 ?_
        refine q_if_eq (tgt := 48) C dX6_fitWhole_30 (by decide) (fun c3 => ?_) (fun c3 => ?_)
        · refine q_iconst (v := 0) C dX6_fitWhole_48 (by decide) ?_
          refine q_drop [none, none, none] (by repeat' (first | exact trivial | rfl | constructor)) ?_
          (try simp only [if_neg c1, if_neg c2, if_pos c3] at hJ); exact hJ
        · refine q_iload0 C dX6_fitWhole_33 ?_
          refine q_iload1 C dX6_fitWhole_34 ?_
          refine q_iadd C dX6_fitWhole_35 ?_
          refine q_iload2 C dX6_fitWhole_36 ?_
          refine q_iadd C dX6_fitWhole_37 ?_
          refine q_sipush (v := 1000) C dX6_fitWhole_38 (by decide) ?_
          refine q_icmp_gt (tgt := 48) C dX6_fitWhole_41 (by decide) (fun c4 => ?_) (fun c4 => ?_)
          · refine q_iconst (v := 0) C dX6_fitWhole_48 (by decide) ?_
            refine q_drop [none, none, none] (by repeat' (first | exact trivial | rfl | constructor)) ?_
            (try simp only [if_neg c1, if_neg c2, if_neg c3, if_pos c4] at hJ); exact hJ
          · refine q_iconst (v := 1) C dX6_fitWhole_44 (by decide) ?_
            refine q_goto (tgt := 49) C dX6_fitWhole_45 (by decide) ?_
            refine q_drop [none, none, none] (by repeat' (first | exact trivial | rfl | constructor)) ?_
            (try simp only [if_neg c1, if_neg c2, if_neg c3, if_neg c4] at hJ); exact hJ
  exact q_zret C (by repeat' first | exact bz_0 | exact bz_1 | assumption | apply bz_if) rfl rfl dX6_fitWhole_49
def f_X6_hasHours (u1 : Int32) (u2 : Int32) : Int32 := (if (f_X6_within u1 (0 : Int32) (24 : Int32)) = 0 then (0 : Int32) else (if ((24 : Int32) - u1) < u2 then (0 : Int32) else (1 : Int32)))
set_option maxHeartbeats 4000000 in
set_option maxRecDepth 100000 in
theorem c_X6_hasHours (M : Mm) (u1 : Int32) (u2 : Int32)  : MI yX6_hasHours cX6_hasHours 2 (some .boolean) 1 22 (fun a => [.int u1, .int u2]) M (f_X6_hasHours u1 u2) M := by
  refine MI.intro (lv0 := fun a => [some (.int u1), some (.int u2)]) (by decide) (fun a => ⟨(Nat.le_of_ble_eq_true rfl), rfl⟩) ?_
  intro p9 l9 e9 s9 m9 g9 b9 h9 c9 D9 A9 ct a C
  have C : Cx p9 s9 m9 g9 h9 c9 cX6_hasHours 2 RX6 (some .boolean) D9 A9 ct a := C
  refine q_iload0 C dX6_hasHours_0 ?_
  refine q_iconst (v := 0) C dX6_hasHours_1 (by decide) ?_
  refine q_bipush (v := 24) C dX6_hasHours_2 (by decide) ?_
  refine qc_SI C (c_X6_within _ _ _ _) cw_X6_63 rfl rfl (Nat.le_of_ble_eq_true rfl) ⟨(Nat.le_of_ble_eq_true rfl), (Nat.le_of_ble_eq_true rfl)⟩ ⟨Nat.zero_le _, Nat.zero_le _⟩ dX6_hasHours_4 ?_
  refine q_cut M 23 [none, none] [.int (if (f_X6_within u1 (0 : Int32) (24 : Int32)) = 0 then (0 : Int32) else (if ((24 : Int32) - u1) < u2 then (0 : Int32) else (1 : Int32)))] (fun hJ => ?_) ?_
  · refine q_if_eq (tgt := 22) C dX6_hasHours_7 (by decide) (fun c1 => ?_) (fun c1 => ?_)
    · refine q_iconst (v := 0) C dX6_hasHours_22 (by decide) ?_
      refine q_drop [none, none] (by repeat' (first | exact trivial | rfl | constructor)) ?_
      (try simp only [if_pos c1] at hJ); exact hJ
    · refine q_iload1 C dX6_hasHours_10 ?_
      refine q_bipush (v := 24) C dX6_hasHours_11 (by decide) ?_
      refine q_iload0 C dX6_hasHours_13 ?_
      refine q_isub C dX6_hasHours_14 ?_
      refine q_icmp_gt (tgt := 22) C dX6_hasHours_15 (by decide) (fun c2 => ?_) (fun c2 => ?_)
      · refine q_iconst (v := 0) C dX6_hasHours_22 (by decide) ?_
        refine q_drop [none, none] (by repeat' (first | exact trivial | rfl | constructor)) ?_
        (try simp only [if_neg c1, if_pos c2] at hJ); exact hJ
      · refine q_iconst (v := 1) C dX6_hasHours_18 (by decide) ?_
        refine q_goto (tgt := 23) C dX6_hasHours_19 (by decide) ?_
        refine q_drop [none, none] (by repeat' (first | exact trivial | rfl | constructor)) ?_
        (try simp only [if_neg c1, if_neg c2] at hJ); exact hJ
  exact q_zret C (by repeat' first | exact bz_0 | exact bz_1 | assumption | apply bz_if) rfl rfl dX6_hasHours_23
def f_X6_fold (u1 : Int64) (u2 : Int64) : Int64 := (((31 : Int64) * u1) + u2)
set_option maxHeartbeats 4000000 in
set_option maxRecDepth 100000 in
theorem c_X6_fold (M : Mm) (u1 : Int64) (u2 : Int64)  : MJ yX6_fold cX6_fold 4 (some .long) 0 0 (fun a => [.long u1, .long u2]) M (f_X6_fold u1 u2) M := by
  refine MJ.intro (lv0 := fun a => [some (.long u1), none, some (.long u2), none]) (by decide) (fun a => ⟨(Nat.le_of_ble_eq_true rfl), rfl⟩) ?_
  intro p9 l9 e9 s9 m9 g9 b9 h9 c9 D9 A9 ct a C
  have C : Cx p9 s9 m9 g9 h9 c9 cX6_fold 4 RX6 (some .long) D9 A9 ct a := C
  refine q_ldc2 C dX6_fold_0 wk_X6_264 ?_
  refine q_lload0 C dX6_fold_3 ?_
  refine q_lmul C dX6_fold_4 ?_
  refine q_lload2 C dX6_fold_5 ?_
  refine q_ladd C dX6_fold_6 ?_
  exact q_lret C rfl rfl dX6_fold_7
def f_X1_answer (M : Mm) (u1 : Int32) : Int32 × Mm := ((-3 : Int32), (sI (sI M 6 1 u1) 43 (u1).toNatClampNeg ((gI (sI M 6 1 u1) 43 (u1).toNatClampNeg) + (1 : Int32))))
set_option maxHeartbeats 4000000 in
set_option maxRecDepth 100000 in
theorem c_X1_answer (M : Mm) (u1 : Int32) (h1 : vp_in u1 6) : MI yX1_answer cX1_answer 2 (some .int) 0 0 (fun a => [.ref (a 6), .int u1]) M (f_X1_answer M u1).1 (f_X1_answer M u1).2 := by
  refine MI.intro (lv0 := fun a => [some (.ref (a 6)), some (.int u1)]) (by decide) (fun a => ⟨(Nat.le_of_ble_eq_true rfl), rfl⟩) ?_
  intro p9 l9 e9 s9 m9 g9 b9 h9 c9 D9 A9 ct a C
  have C : Cx p9 s9 m9 g9 h9 c9 cX1_answer 2 RX1 (some .int) D9 A9 ct a := C
  refine q_aload0 C dX1_answer_0 ?_
  refine q_iload1 C dX1_answer_1 ?_
  refine p_X1_15 C  dX1_answer_2 ?_
  refine q_aload0 C dX1_answer_5 ?_
  refine g_X1_9 C dX1_answer_6 ?_
  refine q_iload1 C dX1_answer_9 ?_
  refine q_dup2 C dX1_answer_10 rfl rfl ?_
  refine q_ialdX (j := (u1).toNatClampNeg) C rfl rfl (by first | assumption | (unfold vp_in; decide) | exact vp_in_nI (by omega) (by decide) | exact vp_in_nI (by omega) (by omega)) dX1_answer_11 ?_
  refine q_iconst (v := 1) C dX1_answer_12 (by decide) ?_
  refine q_iadd C dX1_answer_13 ?_
  refine q_iastX (j := (u1).toNatClampNeg) C rfl rfl (by first | assumption | (unfold vp_in; decide) | exact vp_in_nI (by omega) (by decide) | exact vp_in_nI (by omega) (by omega)) dX1_answer_14 ?_
  refine q_bipush (v := -3) C dX1_answer_15 (by decide) ?_
  exact q_iret C rfl rfl dX1_answer_17
def f_X1_latest (M : Mm)  : Int32 := (gI M 6 1)
set_option maxHeartbeats 4000000 in
set_option maxRecDepth 100000 in
theorem c_X1_latest (M : Mm)   : MI yX1_latest cX1_latest 1 (some .int) 0 0 (fun a => [.ref (a 6)]) M (f_X1_latest M) M := by
  refine MI.intro (lv0 := fun a => [some (.ref (a 6))]) (by decide) (fun a => ⟨(Nat.le_of_ble_eq_true rfl), rfl⟩) ?_
  intro p9 l9 e9 s9 m9 g9 b9 h9 c9 D9 A9 ct a C
  have C : Cx p9 s9 m9 g9 h9 c9 cX1_latest 1 RX1 (some .int) D9 A9 ct a := C
  refine q_aload0 C dX1_latest_0 ?_
  refine g_X1_15 C dX1_latest_1 ?_
  exact q_iret C rfl rfl dX1_latest_4
def f_X1_times (M : Mm) (u1 : Int32) : Int32 := (gI M 43 (u1).toNatClampNeg)
set_option maxHeartbeats 4000000 in
set_option maxRecDepth 100000 in
theorem c_X1_times (M : Mm) (u1 : Int32) (h1 : vp_in u1 6) : MI yX1_times cX1_times 2 (some .int) 0 0 (fun a => [.ref (a 6), .int u1]) M (f_X1_times M u1) M := by
  refine MI.intro (lv0 := fun a => [some (.ref (a 6)), some (.int u1)]) (by decide) (fun a => ⟨(Nat.le_of_ble_eq_true rfl), rfl⟩) ?_
  intro p9 l9 e9 s9 m9 g9 b9 h9 c9 D9 A9 ct a C
  have C : Cx p9 s9 m9 g9 h9 c9 cX1_times 2 RX1 (some .int) D9 A9 ct a := C
  refine q_aload0 C dX1_times_0 ?_
  refine g_X1_9 C dX1_times_1 ?_
  refine q_iload1 C dX1_times_4 ?_
  refine q_ialdX (j := (u1).toNatClampNeg) C rfl rfl (by first | assumption | (unfold vp_in; decide) | exact vp_in_nI (by omega) (by decide) | exact vp_in_nI (by omega) (by omega)) dX1_times_5 ?_
  exact q_iret C rfl rfl dX1_times_6
end
section
def f_X2_strokes (M : Mm)  : Int32 := (gI M 1 4)
set_option maxHeartbeats 4000000 in
set_option maxRecDepth 100000 in
theorem c_X2_strokes (M : Mm)   : MI yX2_strokes cX2_strokes 1 (some .int) 0 0 (fun a => [.ref (a 1)]) M (f_X2_strokes M) M := by
  refine MI.intro (lv0 := fun a => [some (.ref (a 1))]) (by decide) (fun a => ⟨(Nat.le_of_ble_eq_true rfl), rfl⟩) ?_
  intro p9 l9 e9 s9 m9 g9 b9 h9 c9 D9 A9 ct a C
  have C : Cx p9 s9 m9 g9 h9 c9 cX2_strokes 1 RX2 (some .int) D9 A9 ct a := C
  refine q_aload0 C dX2_strokes_0 ?_
  refine g_X2_25 C dX2_strokes_1 ?_
  exact q_iret C rfl rfl dX2_strokes_4
def f_X2_isCut (M : Mm) (u1 : Int32) : Int32 := (gI M 9 (u1).toNatClampNeg)
set_option maxHeartbeats 4000000 in
set_option maxRecDepth 100000 in
theorem c_X2_isCut (M : Mm) (u1 : Int32) (h1 : vp_in u1 10) (hz : bz (gI M 9 u1.toNatClampNeg)) : MI yX2_isCut cX2_isCut 2 (some .boolean) 0 0 (fun a => [.ref (a 1), .int u1]) M (f_X2_isCut M u1) M := by
  refine MI.intro (lv0 := fun a => [some (.ref (a 1)), some (.int u1)]) (by decide) (fun a => ⟨(Nat.le_of_ble_eq_true rfl), rfl⟩) ?_
  intro p9 l9 e9 s9 m9 g9 b9 h9 c9 D9 A9 ct a C
  have C : Cx p9 s9 m9 g9 h9 c9 cX2_isCut 2 RX2 (some .boolean) D9 A9 ct a := C
  refine q_aload0 C dX2_isCut_0 ?_
  refine g_X2_18 C dX2_isCut_1 ?_
  refine q_iload1 C dX2_isCut_4 ?_
  refine q_zaldX (j := (u1).toNatClampNeg) C rfl rfl (by first | assumption | (unfold vp_in; decide) | exact vp_in_nI (by omega) (by decide) | exact vp_in_nI (by omega) (by omega)) dX2_isCut_5 ?_
  exact q_zret C (by repeat' first | exact bz_0 | exact bz_1 | assumption | apply bz_if) rfl rfl dX2_isCut_6
def f_X2_tonsOn (M : Mm) (u1 : Int32) : Int32 := (gI M 7 (u1).toNatClampNeg)
set_option maxHeartbeats 4000000 in
set_option maxRecDepth 100000 in
theorem c_X2_tonsOn (M : Mm) (u1 : Int32) (h1 : vp_in u1 10) : MI yX2_tonsOn cX2_tonsOn 2 (some .int) 0 0 (fun a => [.ref (a 1), .int u1]) M (f_X2_tonsOn M u1) M := by
  refine MI.intro (lv0 := fun a => [some (.ref (a 1)), some (.int u1)]) (by decide) (fun a => ⟨(Nat.le_of_ble_eq_true rfl), rfl⟩) ?_
  intro p9 l9 e9 s9 m9 g9 b9 h9 c9 D9 A9 ct a C
  have C : Cx p9 s9 m9 g9 h9 c9 cX2_tonsOn 2 RX2 (some .int) D9 A9 ct a := C
  refine q_aload0 C dX2_tonsOn_0 ?_
  refine g_X2_9 C dX2_tonsOn_1 ?_
  refine q_iload1 C dX2_tonsOn_4 ?_
  refine q_ialdX (j := (u1).toNatClampNeg) C rfl rfl (by first | assumption | (unfold vp_in; decide) | exact vp_in_nI (by omega) (by decide) | exact vp_in_nI (by omega) (by omega)) dX2_tonsOn_5 ?_
  exact q_iret C rfl rfl dX2_tonsOn_6
def f_X2_limeOn (M : Mm) (u1 : Int32) : Int32 := (gI M 8 (u1).toNatClampNeg)
set_option maxHeartbeats 4000000 in
set_option maxRecDepth 100000 in
theorem c_X2_limeOn (M : Mm) (u1 : Int32) (h1 : vp_in u1 10) : MI yX2_limeOn cX2_limeOn 2 (some .int) 0 0 (fun a => [.ref (a 1), .int u1]) M (f_X2_limeOn M u1) M := by
  refine MI.intro (lv0 := fun a => [some (.ref (a 1)), some (.int u1)]) (by decide) (fun a => ⟨(Nat.le_of_ble_eq_true rfl), rfl⟩) ?_
  intro p9 l9 e9 s9 m9 g9 b9 h9 c9 D9 A9 ct a C
  have C : Cx p9 s9 m9 g9 h9 c9 cX2_limeOn 2 RX2 (some .int) D9 A9 ct a := C
  refine q_aload0 C dX2_limeOn_0 ?_
  refine g_X2_15 C dX2_limeOn_1 ?_
  refine q_iload1 C dX2_limeOn_4 ?_
  refine q_ialdX (j := (u1).toNatClampNeg) C rfl rfl (by first | assumption | (unfold vp_in; decide) | exact vp_in_nI (by omega) (by decide) | exact vp_in_nI (by omega) (by omega)) dX2_limeOn_5 ?_
  exact q_iret C rfl rfl dX2_limeOn_6
def f_X2_spreadLaid (M : Mm) (u1 : Int32) : Int32 := (gI M 10 (u1).toNatClampNeg)
set_option maxHeartbeats 4000000 in
set_option maxRecDepth 100000 in
theorem c_X2_spreadLaid (M : Mm) (u1 : Int32) (h1 : vp_in u1 30) : MI yX2_spreadLaid cX2_spreadLaid 2 (some .int) 0 0 (fun a => [.ref (a 1), .int u1]) M (f_X2_spreadLaid M u1) M := by
  refine MI.intro (lv0 := fun a => [some (.ref (a 1)), some (.int u1)]) (by decide) (fun a => ⟨(Nat.le_of_ble_eq_true rfl), rfl⟩) ?_
  intro p9 l9 e9 s9 m9 g9 b9 h9 c9 D9 A9 ct a C
  have C : Cx p9 s9 m9 g9 h9 c9 cX2_spreadLaid 2 RX2 (some .int) D9 A9 ct a := C
  refine q_aload0 C dX2_spreadLaid_0 ?_
  refine g_X2_22 C dX2_spreadLaid_1 ?_
  refine q_iload1 C dX2_spreadLaid_4 ?_
  refine q_ialdX (j := (u1).toNatClampNeg) C rfl rfl (by first | assumption | (unfold vp_in; decide) | exact vp_in_nI (by omega) (by decide) | exact vp_in_nI (by omega) (by omega)) dX2_spreadLaid_5 ?_
  exact q_iret C rfl rfl dX2_spreadLaid_6
def f_X2_take (M : Mm) (u1 : Int32) : Int32 × Mm := ((gI M 7 (u1).toNatClampNeg), (sI (sI (sI M 7 (u1).toNatClampNeg (0 : Int32)) 8 (u1).toNatClampNeg (0 : Int32)) 9 (u1).toNatClampNeg (1 : Int32)))
set_option maxHeartbeats 4000000 in
set_option maxRecDepth 100000 in
theorem c_X2_take (M : Mm) (u1 : Int32) (h1 : vp_in u1 10) : MI yX2_take cX2_take 3 (some .int) 0 0 (fun a => [.ref (a 1), .int u1]) M (f_X2_take M u1).1 (f_X2_take M u1).2 := by
  refine MI.intro (lv0 := fun a => [some (.ref (a 1)), some (.int u1), none]) (by decide) (fun a => ⟨(Nat.le_of_ble_eq_true rfl), rfl⟩) ?_
  intro p9 l9 e9 s9 m9 g9 b9 h9 c9 D9 A9 ct a C
  have C : Cx p9 s9 m9 g9 h9 c9 cX2_take 3 RX2 (some .int) D9 A9 ct a := C
  refine q_aload0 C dX2_take_0 ?_
  refine g_X2_9 C dX2_take_1 ?_
  refine q_iload1 C dX2_take_4 ?_
  refine q_ialdX (j := (u1).toNatClampNeg) C rfl rfl (by first | assumption | (unfold vp_in; decide) | exact vp_in_nI (by omega) (by decide) | exact vp_in_nI (by omega) (by omega)) dX2_take_5 ?_
  refine q_istore2 C dX2_take_6 (by decide) (by intro w h0 h; first | exact absurd rfl h0 | (cases h <;> rfl)) ?_
  refine q_aload0 C dX2_take_7 ?_
  refine g_X2_9 C dX2_take_8 ?_
  refine q_iload1 C dX2_take_11 ?_
  refine q_iconst (v := 0) C dX2_take_12 (by decide) ?_
  refine q_iastX (j := (u1).toNatClampNeg) C rfl rfl (by first | assumption | (unfold vp_in; decide) | exact vp_in_nI (by omega) (by decide) | exact vp_in_nI (by omega) (by omega)) dX2_take_13 ?_
  refine q_aload0 C dX2_take_14 ?_
  refine g_X2_15 C dX2_take_15 ?_
  refine q_iload1 C dX2_take_18 ?_
  refine q_iconst (v := 0) C dX2_take_19 (by decide) ?_
  refine q_iastX (j := (u1).toNatClampNeg) C rfl rfl (by first | assumption | (unfold vp_in; decide) | exact vp_in_nI (by omega) (by decide) | exact vp_in_nI (by omega) (by omega)) dX2_take_20 ?_
  refine q_aload0 C dX2_take_21 ?_
  refine g_X2_18 C dX2_take_22 ?_
  refine q_iload1 C dX2_take_25 ?_
  refine q_iconst (v := 1) C dX2_take_26 (by decide) ?_
  refine q_zastX (j := (u1).toNatClampNeg) C rfl rfl (by first | assumption | (unfold vp_in; decide) | exact vp_in_nI (by omega) (by decide) | exact vp_in_nI (by omega) (by omega)) (by repeat' first | exact bz_0 | exact bz_1 | assumption | apply bz_if) dX2_take_27 ?_
  refine q_iload2 C dX2_take_28 ?_
  exact q_iret C rfl rfl dX2_take_29
def m_X2_lay_1 (M : Mm) (u1 : Int32) (u2 : Int32) (u3 : Int32) (i1 : Nat) (z1 : Mm) : Mm := (if (gI z1 9 i1) = 0 then (sI (sI z1 7 i1 ((gI z1 7 i1) + u1)) 8 i1 ((gI (sI z1 7 i1 ((gI z1 7 i1) + u1)) 8 i1) + (u2 + (u3 * (if (if ((gI M 1 4) - (gI M 1 4) / (2 : Int32) * (2 : Int32)) = (1 : Int32) then (1 : Int32) else (0 : Int32)) = 0 then (nI i1) else ((9 : Int32) - (nI i1))))))) else z1)
def b_X2_lay_1 (M : Mm) (u1 : Int32) (u2 : Int32) (u3 : Int32) (i1 : Nat) (z1 : Mm) : Mm := (m_X2_lay_1 M u1 u2 u3 i1 z1)
def m_X2_lay_3 (M : Mm) (u1 : Int32) (u2 : Int32) (u3 : Int32) : Mm := (sI (sI (itr (b_X2_lay_1 M u1 u2 u3) 10 M) 10 ((gI (itr (b_X2_lay_1 M u1 u2 u3) 10 M) 1 4)).toNatClampNeg ((if 0 ≤ u3 then u3 else 0 - u3) * (9 : Int32))) 1 4 ((gI (sI (itr (b_X2_lay_1 M u1 u2 u3) 10 M) 10 ((gI (itr (b_X2_lay_1 M u1 u2 u3) 10 M) 1 4)).toNatClampNeg ((if 0 ≤ u3 then u3 else 0 - u3) * (9 : Int32))) 1 4) + (1 : Int32)))
def f_X2_lay (M : Mm) (u1 : Int32) (u2 : Int32) (u3 : Int32) : Int32 × Mm := ((gI (m_X2_lay_3 M u1 u2 u3) 1 4), (m_X2_lay_3 M u1 u2 u3))
set_option maxHeartbeats 4000000 in
set_option maxRecDepth 100000 in
theorem c_X2_lay (M : Mm) (u1 : Int32) (u2 : Int32) (u3 : Int32) (hs : vp_in (gI M 1 4) 30) : MI yX2_lay cX2_lay 6 (some .int) 1 23 (fun a => [.ref (a 1), .int u1, .int u2, .int u3]) M (f_X2_lay M u1 u2 u3).1 (f_X2_lay M u1 u2 u3).2 := by
  refine MI.intro (lv0 := fun a => [some (.ref (a 1)), some (.int u1), some (.int u2), some (.int u3), none, none]) (by decide) (fun a => ⟨(Nat.le_of_ble_eq_true rfl), rfl⟩) ?_
  intro p9 l9 e9 s9 m9 g9 b9 h9 c9 D9 A9 ct a C
  have C : Cx p9 s9 m9 g9 h9 c9 cX2_lay 6 RX2 (some .int) D9 A9 ct a := C
  refine q_aload0 C dX2_lay_0 ?_
  refine g_X2_25 C dX2_lay_1 ?_
  refine q_iconst (v := 2) C dX2_lay_4 (by decide) ?_
  refine q_irem C dX2_lay_5 (by first | assumption | (unfold vp_in; decide) | decide | exact vp_in_nI (by omega) (by decide) | omega) ?_
  refine q_iconst (v := 1) C dX2_lay_6 (by decide) ?_
  refine q_cut M 15 [some (.ref (a 1)), some (.int u1), some (.int u2), some (.int u3), none, none] [.int (if ((gI M 1 4) - (gI M 1 4) / (2 : Int32) * (2 : Int32)) = (1 : Int32) then (1 : Int32) else (0 : Int32))] (fun hJ => ?_) ?_
  · refine q_icmp_ne (tgt := 14) C dX2_lay_7 (by decide) (fun c1 => ?_) (fun c1 => ?_)
    · refine q_iconst (v := 0) C dX2_lay_14 (by decide) ?_
      (try simp only [if_neg c1] at hJ); exact hJ
    · refine q_iconst (v := 1) C dX2_lay_10 (by decide) ?_
      refine q_goto (tgt := 15) C dX2_lay_11 (by decide) ?_
      (try simp only [if_pos c1] at hJ); exact hJ
  refine q_istore4 C dX2_lay_15 (by decide) (by intro w h0 h; first | exact absurd rfl h0 | (cases h <;> rfl)) ?_
  refine q_iconst (v := 0) C dX2_lay_17 (by decide) ?_
  refine q_istore5 C dX2_lay_18 (by decide) (by intro w h0 h; first | exact absurd rfl h0 | (cases h <;> rfl)) ?_
  refine q_loop 10 (b_X2_lay_1 M u1 u2 u3) (fun zz => zz) (fun xx zz => [some (.ref (a 1)), some (.int u1), some (.int u2), some (.int u3), some (.int (if ((gI M 1 4) - (gI M 1 4) / (2 : Int32) * (2 : Int32)) = (1 : Int32) then (1 : Int32) else (0 : Int32))), some (.int xx)]) M  (fun i1 z1 hi1 ih1 => ?_) ?_
  · refine q_iload5 C dX2_lay_20 ?_
    refine q_bipush (v := 10) C dX2_lay_22 (by decide) ?_
    refine q_icmp_ge (tgt := 83) C dX2_lay_24 (by decide) (fun c2 => absurd c2 (nI_ge (b := 10) (by omega) (by omega))) (fun c2 => ?_)
    refine q_aload0 C dX2_lay_27 ?_
    refine g_X2_18 C dX2_lay_28 ?_
    refine q_iload5 C dX2_lay_31 ?_
    refine q_zaldX (j := i1) C rfl (nI_clamp (by omega)) (by first | assumption | (unfold vp_in; decide) | exact vp_in_nI (by omega) (by decide) | exact vp_in_nI (by omega) (by omega)) dX2_lay_33 ?_
    refine q_cut (if (gI z1 9 i1) = 0 then (sI (sI z1 7 i1 ((gI z1 7 i1) + u1)) 8 i1 ((gI (sI z1 7 i1 ((gI z1 7 i1) + u1)) 8 i1) + (u2 + (u3 * (if (if ((gI M 1 4) - (gI M 1 4) / (2 : Int32) * (2 : Int32)) = (1 : Int32) then (1 : Int32) else (0 : Int32)) = 0 then (nI i1) else ((9 : Int32) - (nI i1))))))) else z1) 77 [some (.ref (a 1)), some (.int u1), some (.int u2), some (.int u3), some (.int (if ((gI M 1 4) - (gI M 1 4) / (2 : Int32) * (2 : Int32)) = (1 : Int32) then (1 : Int32) else (0 : Int32))), some (.int (nI i1))] [] (fun hJ => ?_) ?_
    · refine q_if_ne (tgt := 77) C dX2_lay_34 (by decide) (fun c3 => ?_) (fun c3 => ?_)
      · (try simp only [if_neg c3] at hJ); exact hJ
      · refine q_aload0 C dX2_lay_37 ?_
        refine g_X2_9 C dX2_lay_38 ?_
        refine q_iload5 C dX2_lay_41 ?_
        refine q_dup2 C dX2_lay_43 rfl rfl ?_
        refine q_ialdX (j := i1) C rfl (nI_clamp (by omega)) (by first | assumption | (unfold vp_in; decide) | exact vp_in_nI (by omega) (by decide) | exact vp_in_nI (by omega) (by omega)) dX2_lay_44 ?_
        refine q_iload1 C dX2_lay_45 ?_
        refine q_iadd C dX2_lay_46 ?_
        refine q_iastX (j := i1) C rfl (nI_clamp (by omega)) (by first | assumption | (unfold vp_in; decide) | exact vp_in_nI (by omega) (by decide) | exact vp_in_nI (by omega) (by omega)) dX2_lay_47 ?_
        refine q_aload0 C dX2_lay_48 ?_
        refine g_X2_15 C dX2_lay_49 ?_
        refine q_iload5 C dX2_lay_52 ?_
        refine q_dup2 C dX2_lay_54 rfl rfl ?_
        refine q_ialdX (j := i1) C rfl (nI_clamp (by omega)) (by first | assumption | (unfold vp_in; decide) | exact vp_in_nI (by omega) (by decide) | exact vp_in_nI (by omega) (by omega)) dX2_lay_55 ?_
        refine q_iload2 C dX2_lay_56 ?_
        refine q_iload3 C dX2_lay_57 ?_
        refine q_iload4 C dX2_lay_58 ?_
        refine q_cut (sI z1 7 i1 ((gI z1 7 i1) + u1)) 73 [some (.ref (a 1)), some (.int u1), some (.int u2), some (.int u3), some (.int (if ((gI M 1 4) - (gI M 1 4) / (2 : Int32) * (2 : Int32)) = (1 : Int32) then (1 : Int32) else (0 : Int32))), some (.int (nI i1))] [.int (if (if ((gI M 1 4) - (gI M 1 4) / (2 : Int32) * (2 : Int32)) = (1 : Int32) then (1 : Int32) else (0 : Int32)) = 0 then (nI i1) else ((9 : Int32) - (nI i1))), .int u3, .int u2, .int (gI (sI z1 7 i1 ((gI z1 7 i1) + u1)) 8 i1), .int (nI i1), .ref (a 8)] (fun hJ => ?_) ?_
        · refine q_if_eq (tgt := 71) C dX2_lay_60 (by decide) (fun c4 => ?_) (fun c4 => ?_)
          · refine q_iload5 C dX2_lay_71 ?_
            (try simp only [if_pos c4] at hJ); exact hJ
          · refine q_bipush (v := 9) C dX2_lay_63 (by decide) ?_
            refine q_iload5 C dX2_lay_65 ?_
            refine q_isub C dX2_lay_67 ?_
            refine q_goto (tgt := 73) C dX2_lay_68 (by decide) ?_
            (try simp only [if_neg c4] at hJ); exact hJ
        refine q_imul C dX2_lay_73 ?_
        refine q_iadd C dX2_lay_74 ?_
        refine q_iadd C dX2_lay_75 ?_
        refine q_iastX (j := i1) C rfl (nI_clamp (by omega)) (by first | assumption | (unfold vp_in; decide) | exact vp_in_nI (by omega) (by decide) | exact vp_in_nI (by omega) (by omega)) dX2_lay_76 ?_
        (try simp only [if_pos c3] at hJ); exact hJ
    refine q_cut (m_X2_lay_1 M u1 u2 u3 i1 z1) 77 [some (.ref (a 1)), some (.int u1), some (.int u2), some (.int u3), some (.int (if ((gI M 1 4) - (gI M 1 4) / (2 : Int32) * (2 : Int32)) = (1 : Int32) then (1 : Int32) else (0 : Int32))), some (.int (nI i1))] [] (fun hJ => hJ) ?_
    refine q_iinc5 (dv := 1) C dX2_lay_77 (by decide) (by decide) (by intro w h0 h; first | exact absurd rfl h0 | (cases h <;> rfl)) ?_
    refine q_goto (tgt := 20) C dX2_lay_80 (by decide) ?_
    exact ih1
  refine q_iload5 C dX2_lay_20 ?_
  refine q_bipush (v := 10) C dX2_lay_22 (by decide) ?_
  refine q_icmp_ge (tgt := 83) C dX2_lay_24 (by decide) (fun c5 => ?_) (fun c5 => absurd (Int32.le_refl _) c5)
  refine q_aload0 C dX2_lay_83 ?_
  refine g_X2_22 C dX2_lay_84 ?_
  refine q_aload0 C dX2_lay_87 ?_
  refine g_X2_25 C dX2_lay_88 ?_
  refine q_iload3 C dX2_lay_91 ?_
  refine qc_mabs C wm_X2_29 ws_abs.1 ws_abs.2.1 ws_abs.2.2 ⟨(Nat.le_of_ble_eq_true rfl), (Nat.le_of_ble_eq_true rfl)⟩ ⟨Nat.zero_le _, Nat.zero_le _⟩ dX2_lay_92 ?_
  refine q_bipush (v := 9) C dX2_lay_95 (by decide) ?_
  refine q_imul C dX2_lay_97 ?_
  refine q_iastX (j := ((gI (itr (b_X2_lay_1 M u1 u2 u3) 10 M) 1 4)).toNatClampNeg) C rfl rfl (by rw [itr_keepI (fun i z => by simp [b_X2_lay_1, m_X2_lay_1, gI_ite, gI_sI])]; exact hs) dX2_lay_98 ?_
  refine q_aload0 C dX2_lay_99 ?_
  refine q_dup C dX2_lay_100 rfl ?_
  refine g_X2_25 C dX2_lay_101 ?_
  refine q_iconst (v := 1) C dX2_lay_104 (by decide) ?_
  refine q_iadd C dX2_lay_105 ?_
  refine p_X2_25 C  dX2_lay_106 ?_
  refine q_cut (m_X2_lay_3 M u1 u2 u3) 109 [some (.ref (a 1)), some (.int u1), some (.int u2), some (.int u3), some (.int (if ((gI M 1 4) - (gI M 1 4) / (2 : Int32) * (2 : Int32)) = (1 : Int32) then (1 : Int32) else (0 : Int32))), some (.int (nI 10))] [] (fun hJ => hJ) ?_
  refine q_aload0 C dX2_lay_109 ?_
  refine g_X2_25 C dX2_lay_110 ?_
  exact q_iret C rfl rfl dX2_lay_113
def b_X2_spreadNow_1 (M : Mm) (i1 : Nat) (z1 : Int32 × Int32) : Int32 × Int32 := ((if (gI M 9 i1) = 0 then (if z1.1 = (-9 : Int32) then (gI M 8 i1) else (if (gI M 8 i1) < z1.1 then (gI M 8 i1) else z1.1)) else z1.1), (if (gI M 9 i1) = 0 then (if z1.2 < (gI M 8 i1) then (gI M 8 i1) else z1.2) else z1.2))
def l_X2_spreadNow_1 (M : Mm) (z1 : Int32 × Int32) : Int32 × Int32 := itr (b_X2_spreadNow_1 M) 10 z1
def f_X2_spreadNow (M : Mm)  : Int32 := (if (l_X2_spreadNow_1 M ((-9 : Int32), (-9 : Int32))).1 = (-9 : Int32) then (-9 : Int32) else ((l_X2_spreadNow_1 M ((-9 : Int32), (-9 : Int32))).2 - (l_X2_spreadNow_1 M ((-9 : Int32), (-9 : Int32))).1))
set_option maxHeartbeats 4000000 in
set_option maxRecDepth 100000 in
theorem c_X2_spreadNow (M : Mm)   : MI yX2_spreadNow cX2_spreadNow 4 (some .int) 1 23 (fun a => [.ref (a 1)]) M (f_X2_spreadNow M) M := by
  refine MI.intro (lv0 := fun a => [some (.ref (a 1)), none, none, none]) (by decide) (fun a => ⟨(Nat.le_of_ble_eq_true rfl), rfl⟩) ?_
  intro p9 l9 e9 s9 m9 g9 b9 h9 c9 D9 A9 ct a C
  have C : Cx p9 s9 m9 g9 h9 c9 cX2_spreadNow 4 RX2 (some .int) D9 A9 ct a := C
  refine q_bipush (v := -9) C dX2_spreadNow_0 (by decide) ?_
  refine q_istore1 C dX2_spreadNow_2 (by decide) (by intro w h0 h; first | exact absurd rfl h0 | (cases h <;> rfl)) ?_
  refine q_bipush (v := -9) C dX2_spreadNow_3 (by decide) ?_
  refine q_istore2 C dX2_spreadNow_5 (by decide) (by intro w h0 h; first | exact absurd rfl h0 | (cases h <;> rfl)) ?_
  refine q_iconst (v := 0) C dX2_spreadNow_6 (by decide) ?_
  refine q_istore3 C dX2_spreadNow_7 (by decide) (by intro w h0 h; first | exact absurd rfl h0 | (cases h <;> rfl)) ?_
  refine q_loop 10 (b_X2_spreadNow_1 M) (fun zz => M) (fun xx zz => [some (.ref (a 1)), some (.int zz.1), some (.int zz.2), some (.int xx)]) ((-9 : Int32), (-9 : Int32))  (fun i1 z1 hi1 ih1 => ?_) ?_
  · refine q_iload3 C dX2_spreadNow_8 ?_
    refine q_bipush (v := 10) C dX2_spreadNow_9 (by decide) ?_
    refine q_icmp_ge (tgt := 66) C dX2_spreadNow_11 (by decide) (fun c1 => absurd c1 (nI_ge (b := 10) (by omega) (by omega))) (fun c1 => ?_)
    refine q_aload0 C dX2_spreadNow_14 ?_
    refine g_X2_18 C dX2_spreadNow_15 ?_
    refine q_iload3 C dX2_spreadNow_18 ?_
    refine q_zaldX (j := i1) C rfl (nI_clamp (by omega)) (by first | assumption | (unfold vp_in; decide) | exact vp_in_nI (by omega) (by decide) | exact vp_in_nI (by omega) (by omega)) dX2_spreadNow_19 ?_
    refine q_cut M 60 [some (.ref (a 1)), some (.int (if (gI M 9 i1) = 0 then (if z1.1 = (-9 : Int32) then (gI M 8 i1) else (if (gI M 8 i1) < z1.1 then (gI M 8 i1) else z1.1)) else z1.1)), some (.int (if (gI M 9 i1) = 0 then (if z1.2 < (gI M 8 i1) then (gI M 8 i1) else z1.2) else z1.2)), some (.int (nI i1))] [] (fun hJ => ?_) ?_
    · refine q_if_ne (tgt := 60) C dX2_spreadNow_20 (by decide) (fun c2 => ?_) (fun c2 => ?_)
      · (try simp only [if_neg c2] at hJ); exact hJ
      · refine q_iload1 C dX2_spreadNow_23 ?_
        refine q_bipush (v := -9) C dX2_spreadNow_24 (by decide) ?_
        refine q_cut M 48 [some (.ref (a 1)), none, some (.int z1.2), some (.int (nI i1))] [.int (if z1.1 = (-9 : Int32) then (gI M 8 i1) else (if (gI M 8 i1) < z1.1 then (gI M 8 i1) else z1.1))] (fun hJ => ?_) ?_
        · refine q_icmp_ne (tgt := 38) C dX2_spreadNow_26 (by decide) (fun c3 => ?_) (fun c3 => ?_)
          · refine q_iload1 C dX2_spreadNow_38 ?_
            refine q_aload0 C dX2_spreadNow_39 ?_
            refine g_X2_15 C dX2_spreadNow_40 ?_
            refine q_iload3 C dX2_spreadNow_43 ?_
            refine q_ialdX (j := i1) C rfl (nI_clamp (by omega)) (by first | assumption | (unfold vp_in; decide) | exact vp_in_nI (by omega) (by decide) | exact vp_in_nI (by omega) (by omega)) dX2_spreadNow_44 ?_
            refine qc_mmin C wm_X2_35 ws_min.1 ws_min.2.1 ws_min.2.2 ⟨(Nat.le_of_ble_eq_true rfl), (Nat.le_of_ble_eq_true rfl)⟩ ⟨Nat.zero_le _, Nat.zero_le _⟩ dX2_spreadNow_45 ?_
            refine q_drop [some (.ref (a 1)), none, some (.int z1.2), some (.int (nI i1))] (by repeat' (first | exact trivial | rfl | constructor)) ?_
            (try simp only [if_neg c3] at hJ); exact hJ
          · refine q_aload0 C dX2_spreadNow_29 ?_
            refine g_X2_15 C dX2_spreadNow_30 ?_
            refine q_iload3 C dX2_spreadNow_33 ?_
            refine q_ialdX (j := i1) C rfl (nI_clamp (by omega)) (by first | assumption | (unfold vp_in; decide) | exact vp_in_nI (by omega) (by decide) | exact vp_in_nI (by omega) (by omega)) dX2_spreadNow_34 ?_
            refine q_goto (tgt := 48) C dX2_spreadNow_35 (by decide) ?_
            refine q_drop [some (.ref (a 1)), none, some (.int z1.2), some (.int (nI i1))] (by repeat' (first | exact trivial | rfl | constructor)) ?_
            (try simp only [if_pos c3] at hJ); exact hJ
        refine q_istore1 C dX2_spreadNow_48 (by decide) (by intro w h0 h; first | exact absurd rfl h0 | (cases h <;> rfl)) ?_
        refine q_iload2 C dX2_spreadNow_49 ?_
        refine q_aload0 C dX2_spreadNow_50 ?_
        refine g_X2_15 C dX2_spreadNow_51 ?_
        refine q_iload3 C dX2_spreadNow_54 ?_
        refine q_ialdX (j := i1) C rfl (nI_clamp (by omega)) (by first | assumption | (unfold vp_in; decide) | exact vp_in_nI (by omega) (by decide) | exact vp_in_nI (by omega) (by omega)) dX2_spreadNow_55 ?_
        refine qc_mmax C wm_X2_39 ws_max.1 ws_max.2.1 ws_max.2.2 ⟨(Nat.le_of_ble_eq_true rfl), (Nat.le_of_ble_eq_true rfl)⟩ ⟨Nat.zero_le _, Nat.zero_le _⟩ dX2_spreadNow_56 ?_
        refine q_istore2 C dX2_spreadNow_59 (by decide) (by intro w h0 h; first | exact absurd rfl h0 | (cases h <;> rfl)) ?_
        (try simp only [if_pos c2] at hJ); exact hJ
    refine q_iinc3 (dv := 1) C dX2_spreadNow_60 (by decide) (by decide) (by intro w h0 h; first | exact absurd rfl h0 | (cases h <;> rfl)) ?_
    refine q_goto (tgt := 8) C dX2_spreadNow_63 (by decide) ?_
    exact ih1
  refine q_cut M 8 [some (.ref (a 1)), some (.int (l_X2_spreadNow_1 M ((-9 : Int32), (-9 : Int32))).1), some (.int (l_X2_spreadNow_1 M ((-9 : Int32), (-9 : Int32))).2), some (.int (nI 10))] [] (fun hJ => hJ) ?_
  refine q_iload3 C dX2_spreadNow_8 ?_
  refine q_bipush (v := 10) C dX2_spreadNow_9 (by decide) ?_
  refine q_icmp_ge (tgt := 66) C dX2_spreadNow_11 (by decide) (fun c4 => ?_) (fun c4 => absurd (Int32.le_refl _) c4)
  refine q_iload1 C dX2_spreadNow_66 ?_
  refine q_bipush (v := -9) C dX2_spreadNow_67 (by decide) ?_
  refine q_cut M 80 [none, none, none, none] [.int (if (l_X2_spreadNow_1 M ((-9 : Int32), (-9 : Int32))).1 = (-9 : Int32) then (-9 : Int32) else ((l_X2_spreadNow_1 M ((-9 : Int32), (-9 : Int32))).2 - (l_X2_spreadNow_1 M ((-9 : Int32), (-9 : Int32))).1))] (fun hJ => ?_) ?_
  · refine q_icmp_ne (tgt := 77) C dX2_spreadNow_69 (by decide) (fun c5 => ?_) (fun c5 => ?_)
    · refine q_iload2 C dX2_spreadNow_77 ?_
      refine q_iload1 C dX2_spreadNow_78 ?_
      refine q_isub C dX2_spreadNow_79 ?_
      refine q_drop [none, none, none, none] (by repeat' (first | exact trivial | rfl | constructor)) ?_
      (try simp only [if_neg c5] at hJ); exact hJ
    · refine q_bipush (v := -9) C dX2_spreadNow_72 (by decide) ?_
      refine q_goto (tgt := 80) C dX2_spreadNow_74 (by decide) ?_
      refine q_drop [none, none, none, none] (by repeat' (first | exact trivial | rfl | constructor)) ?_
      (try simp only [if_pos c5] at hJ); exact hJ
  exact q_iret C rfl rfl dX2_spreadNow_80
def b_X2_empty_1  (i1 : Nat) (z1 : Mm) : Mm := (sI (sI (sI z1 7 i1 (0 : Int32)) 8 i1 (0 : Int32)) 9 i1 (0 : Int32))
def f_X2_empty (M : Mm)  : Int32 × Mm := ((gI M 1 4), (sI (itr b_X2_empty_1 10 M) 1 4 (0 : Int32)))
set_option maxHeartbeats 4000000 in
set_option maxRecDepth 100000 in
theorem c_X2_empty (M : Mm)   : MI yX2_empty cX2_empty 3 (some .int) 0 0 (fun a => [.ref (a 1)]) M (f_X2_empty M).1 (f_X2_empty M).2 := by
  refine MI.intro (lv0 := fun a => [some (.ref (a 1)), none, none]) (by decide) (fun a => ⟨(Nat.le_of_ble_eq_true rfl), rfl⟩) ?_
  intro p9 l9 e9 s9 m9 g9 b9 h9 c9 D9 A9 ct a C
  have C : Cx p9 s9 m9 g9 h9 c9 cX2_empty 3 RX2 (some .int) D9 A9 ct a := C
  refine q_aload0 C dX2_empty_0 ?_
  refine g_X2_25 C dX2_empty_1 ?_
  refine q_istore1 C dX2_empty_4 (by decide) (by intro w h0 h; first | exact absurd rfl h0 | (cases h <;> rfl)) ?_
  refine q_iconst (v := 0) C dX2_empty_5 (by decide) ?_
  refine q_istore2 C dX2_empty_6 (by decide) (by intro w h0 h; first | exact absurd rfl h0 | (cases h <;> rfl)) ?_
  refine q_loop 10 b_X2_empty_1 (fun zz => zz) (fun xx zz => [some (.ref (a 1)), some (.int (gI M 1 4)), some (.int xx)]) M  (fun i1 z1 hi1 ih1 => ?_) ?_
  · refine q_iload2 C dX2_empty_7 ?_
    refine q_bipush (v := 10) C dX2_empty_8 (by decide) ?_
    refine q_icmp_ge (tgt := 40) C dX2_empty_10 (by decide) (fun c1 => absurd c1 (nI_ge (b := 10) (by omega) (by omega))) (fun c1 => ?_)
    refine q_aload0 C dX2_empty_13 ?_
    refine g_X2_9 C dX2_empty_14 ?_
    refine q_iload2 C dX2_empty_17 ?_
    refine q_iconst (v := 0) C dX2_empty_18 (by decide) ?_
    refine q_iastX (j := i1) C rfl (nI_clamp (by omega)) (by first | assumption | (unfold vp_in; decide) | exact vp_in_nI (by omega) (by decide) | exact vp_in_nI (by omega) (by omega)) dX2_empty_19 ?_
    refine q_aload0 C dX2_empty_20 ?_
    refine g_X2_15 C dX2_empty_21 ?_
    refine q_iload2 C dX2_empty_24 ?_
    refine q_iconst (v := 0) C dX2_empty_25 (by decide) ?_
    refine q_iastX (j := i1) C rfl (nI_clamp (by omega)) (by first | assumption | (unfold vp_in; decide) | exact vp_in_nI (by omega) (by decide) | exact vp_in_nI (by omega) (by omega)) dX2_empty_26 ?_
    refine q_aload0 C dX2_empty_27 ?_
    refine g_X2_18 C dX2_empty_28 ?_
    refine q_iload2 C dX2_empty_31 ?_
    refine q_iconst (v := 0) C dX2_empty_32 (by decide) ?_
    refine q_zastX (j := i1) C rfl (nI_clamp (by omega)) (by first | assumption | (unfold vp_in; decide) | exact vp_in_nI (by omega) (by decide) | exact vp_in_nI (by omega) (by omega)) (by repeat' first | exact bz_0 | exact bz_1 | assumption | apply bz_if) dX2_empty_33 ?_
    refine q_iinc2 (dv := 1) C dX2_empty_34 (by decide) (by decide) (by intro w h0 h; first | exact absurd rfl h0 | (cases h <;> rfl)) ?_
    refine q_goto (tgt := 7) C dX2_empty_37 (by decide) ?_
    exact ih1
  refine q_iload2 C dX2_empty_7 ?_
  refine q_bipush (v := 10) C dX2_empty_8 (by decide) ?_
  refine q_icmp_ge (tgt := 40) C dX2_empty_10 (by decide) (fun c2 => ?_) (fun c2 => absurd (Int32.le_refl _) c2)
  refine q_aload0 C dX2_empty_40 ?_
  refine q_iconst (v := 0) C dX2_empty_41 (by decide) ?_
  refine p_X2_25 C  dX2_empty_42 ?_
  refine q_iload1 C dX2_empty_45 ?_
  exact q_iret C rfl rfl dX2_empty_46
def b_X2_foldInto_1 (M : Mm) (i1 : Nat) (z1 : Int64) : Int64 := (f_X6_fold (f_X6_fold (f_X6_fold z1 ((gI M 7 i1)).toInt64) ((gI M 8 i1)).toInt64) (if (gI M 9 i1) = 0 then (0 : Int64) else (1 : Int64)))
def f_X2_foldInto (M : Mm) (u1 : Int64) : Int64 := (itr (b_X2_foldInto_1 M) 10 u1)
set_option maxHeartbeats 4000000 in
set_option maxRecDepth 100000 in
theorem c_X2_foldInto (M : Mm) (u1 : Int64)  : MJ yX2_foldInto cX2_foldInto 6 (some .long) 1 23 (fun a => [.ref (a 1), .long u1]) M (f_X2_foldInto M u1) M := by
  refine MJ.intro (lv0 := fun a => [some (.ref (a 1)), some (.long u1), none, none, none, none]) (by decide) (fun a => ⟨(Nat.le_of_ble_eq_true rfl), rfl⟩) ?_
  intro p9 l9 e9 s9 m9 g9 b9 h9 c9 D9 A9 ct a C
  have C : Cx p9 s9 m9 g9 h9 c9 cX2_foldInto 6 RX2 (some .long) D9 A9 ct a := C
  refine q_lload1 C dX2_foldInto_0 ?_
  refine q_lstore3 C dX2_foldInto_1 (by decide) (by intro w h0 h; first | exact absurd rfl h0 | (cases h <;> rfl)) ?_
  refine q_iconst (v := 0) C dX2_foldInto_2 (by decide) ?_
  refine q_istore5 C dX2_foldInto_3 (by decide) (by intro w h0 h; first | exact absurd rfl h0 | (cases h <;> rfl)) ?_
  refine q_drop [some (.ref (a 1)), none, none, some (.long u1), none, some (.int (0 : Int32))] (by repeat' (first | exact trivial | rfl | constructor)) ?_
  refine q_loop 10 (b_X2_foldInto_1 M) (fun zz => M) (fun xx zz => [some (.ref (a 1)), none, none, some (.long zz), none, some (.int xx)]) u1  (fun i1 z1 hi1 ih1 => ?_) ?_
  · refine q_iload5 C dX2_foldInto_5 ?_
    refine q_bipush (v := 10) C dX2_foldInto_7 (by decide) ?_
    refine q_icmp_ge (tgt := 64) C dX2_foldInto_9 (by decide) (fun c1 => absurd c1 (nI_ge (b := 10) (by omega) (by omega))) (fun c1 => ?_)
    refine q_lload3 C dX2_foldInto_12 ?_
    refine q_aload0 C dX2_foldInto_13 ?_
    refine g_X2_9 C dX2_foldInto_14 ?_
    refine q_iload5 C dX2_foldInto_17 ?_
    refine q_ialdX (j := i1) C rfl (nI_clamp (by omega)) (by first | assumption | (unfold vp_in; decide) | exact vp_in_nI (by omega) (by decide) | exact vp_in_nI (by omega) (by omega)) dX2_foldInto_19 ?_
    refine q_i2l C dX2_foldInto_20 ?_
    refine qc_NJ C (c_X6_fold _ _ _) nl_X2 ws_fold.1 ws_fold.2.1 ws_fold.2.2 hdy_fold rfl rfl (Nat.le_of_ble_eq_true rfl) ⟨(Nat.le_of_ble_eq_true rfl), (Nat.le_of_ble_eq_true rfl)⟩ ⟨Nat.zero_le _, Nat.zero_le _⟩ dX2_foldInto_21 ?_
    refine q_lstore3 C dX2_foldInto_24 (by decide) (by intro w h0 h; first | exact absurd rfl h0 | (cases h <;> rfl)) ?_
    refine q_lload3 C dX2_foldInto_25 ?_
    refine q_aload0 C dX2_foldInto_26 ?_
    refine g_X2_15 C dX2_foldInto_27 ?_
    refine q_iload5 C dX2_foldInto_30 ?_
    refine q_ialdX (j := i1) C rfl (nI_clamp (by omega)) (by first | assumption | (unfold vp_in; decide) | exact vp_in_nI (by omega) (by decide) | exact vp_in_nI (by omega) (by omega)) dX2_foldInto_32 ?_
    refine q_i2l C dX2_foldInto_33 ?_
    refine qc_NJ C (c_X6_fold _ _ _) nl_X2 ws_fold.1 ws_fold.2.1 ws_fold.2.2 hdy_fold rfl rfl (Nat.le_of_ble_eq_true rfl) ⟨(Nat.le_of_ble_eq_true rfl), (Nat.le_of_ble_eq_true rfl)⟩ ⟨Nat.zero_le _, Nat.zero_le _⟩ dX2_foldInto_34 ?_
    refine q_lstore3 C dX2_foldInto_37 (by decide) (by intro w h0 h; first | exact absurd rfl h0 | (cases h <;> rfl)) ?_
    refine q_lload3 C dX2_foldInto_38 ?_
    refine q_aload0 C dX2_foldInto_39 ?_
    refine g_X2_18 C dX2_foldInto_40 ?_
    refine q_iload5 C dX2_foldInto_43 ?_
    refine q_zaldX (j := i1) C rfl (nI_clamp (by omega)) (by first | assumption | (unfold vp_in; decide) | exact vp_in_nI (by omega) (by decide) | exact vp_in_nI (by omega) (by omega)) dX2_foldInto_45 ?_
    refine q_cut M 54 [some (.ref (a 1)), none, none, none, none, some (.int (nI i1))] [.long (if (gI M 9 i1) = 0 then (0 : Int64) else (1 : Int64)), .long (f_X6_fold (f_X6_fold z1 ((gI M 7 i1)).toInt64) ((gI M 8 i1)).toInt64)] (fun hJ => ?_) ?_
    · refine q_if_eq (tgt := 53) C dX2_foldInto_46 (by decide) (fun c2 => ?_) (fun c2 => ?_)
      · refine q_lconst (v := 0) C dX2_foldInto_53 (by decide) ?_
        refine q_drop [some (.ref (a 1)), none, none, none, none, some (.int (nI i1))] (by repeat' (first | exact trivial | rfl | constructor)) ?_
        (try simp only [if_pos c2] at hJ); exact hJ
      · refine q_lconst (v := 1) C dX2_foldInto_49 (by decide) ?_
        refine q_goto (tgt := 54) C dX2_foldInto_50 (by decide) ?_
        refine q_drop [some (.ref (a 1)), none, none, none, none, some (.int (nI i1))] (by repeat' (first | exact trivial | rfl | constructor)) ?_
        (try simp only [if_neg c2] at hJ); exact hJ
    refine qc_NJ C (c_X6_fold _ _ _) nl_X2 ws_fold.1 ws_fold.2.1 ws_fold.2.2 hdy_fold rfl rfl (Nat.le_of_ble_eq_true rfl) ⟨(Nat.le_of_ble_eq_true rfl), (Nat.le_of_ble_eq_true rfl)⟩ ⟨Nat.zero_le _, Nat.zero_le _⟩ dX2_foldInto_54 ?_
    refine q_lstore3 C dX2_foldInto_57 (by decide) (by intro w h0 h; first | exact absurd rfl h0 | (cases h <;> rfl)) ?_
    refine q_iinc5 (dv := 1) C dX2_foldInto_58 (by decide) (by decide) (by intro w h0 h; first | exact absurd rfl h0 | (cases h <;> rfl)) ?_
    refine q_goto (tgt := 5) C dX2_foldInto_61 (by decide) ?_
    exact ih1
  refine q_iload5 C dX2_foldInto_5 ?_
  refine q_bipush (v := 10) C dX2_foldInto_7 (by decide) ?_
  refine q_icmp_ge (tgt := 64) C dX2_foldInto_9 (by decide) (fun c3 => ?_) (fun c3 => absurd (Int32.le_refl _) c3)
  refine q_lload3 C dX2_foldInto_64 ?_
  exact q_lret C rfl rfl dX2_foldInto_65
end
section
def b_J7_fill_53178_1 (u1 : Nat) (u2 : Int32) (i1 : Nat) (z1 : Mm) : Mm := (sI z1 u1 i1 u2)
def f_J7_fill_53178 (M : Mm) (u1 nu1 : Nat) (u2 : Int32) : Mm := (itr (b_J7_fill_53178_1 u1 u2) nu1 M)
set_option maxHeartbeats 4000000 in
set_option maxRecDepth 100000 in
theorem c_J7_fill_53178 (M : Mm) (u1 nu1 : Nat) (u2 : Int32) (hs_u1 : SH[u1]? = some (.inr (0, nu1, 0))) (hn : nu1 < 2147483648) : MV yJ7_fill_53178 cJ7_fill_53178 4 none 0 0 (fun a => [.ref (a u1), .int u2]) M (f_J7_fill_53178 M u1 nu1 u2) := by
  refine MV.intro (lv0 := fun a => [some (.ref (a u1)), some (.int u2), none, none]) (by decide) (fun a => ⟨(Nat.le_of_ble_eq_true rfl), rfl⟩) ?_
  intro p9 l9 e9 s9 m9 g9 b9 h9 c9 D9 A9 ct a C
  have C : Cx p9 s9 m9 g9 h9 c9 cJ7_fill_53178 4 RJ7 none D9 A9 ct a := C
  refine q_iconst (v := 0) C dJ7_fill_53178_0 (by decide) ?_
  refine q_istore2 C dJ7_fill_53178_1 (by decide) (by intro w h0 h; first | exact absurd rfl h0 | (cases h <;> rfl)) ?_
  refine q_aload0 C dJ7_fill_53178_2 ?_
  refine q_alen (v := nI nu1) C hs_u1 (by decide) rfl dJ7_fill_53178_3 ?_
  refine q_istore3 C dJ7_fill_53178_4 (by decide) (by intro w h0 h; first | exact absurd rfl h0 | (cases h <;> rfl)) ?_
  refine q_loop nu1 (b_J7_fill_53178_1 u1 u2) (fun zz => zz) (fun xx zz => [some (.ref (a u1)), some (.int u2), some (.int xx), some (.int (nI nu1))]) M  (fun i1 z1 hi1 ih1 => ?_) ?_
  · refine q_iload2 C dJ7_fill_53178_5 ?_
    refine q_iload3 C dJ7_fill_53178_6 ?_
    refine q_icmp_ge (tgt := 20) C dJ7_fill_53178_7 (by decide) (fun c1 => absurd c1 (nI_ge (b := nu1) (by omega) (by omega))) (fun c1 => ?_)
    refine q_aload0 C dJ7_fill_53178_10 ?_
    refine q_iload2 C dJ7_fill_53178_11 ?_
    refine q_iload1 C dJ7_fill_53178_12 ?_
    refine q_iastX (j := i1) C hs_u1 (nI_clamp (by omega)) (by first | assumption | (unfold vp_in; decide) | exact vp_in_nI (by omega) (by decide) | exact vp_in_nI (by omega) (by omega)) dJ7_fill_53178_13 ?_
    refine q_iinc2 (dv := 1) C dJ7_fill_53178_14 (by decide) (by decide) (by intro w h0 h; first | exact absurd rfl h0 | (cases h <;> rfl)) ?_
    refine q_goto (tgt := 5) C dJ7_fill_53178_17 (by decide) ?_
    exact ih1
  refine q_iload2 C dJ7_fill_53178_5 ?_
  refine q_iload3 C dJ7_fill_53178_6 ?_
  refine q_icmp_ge (tgt := 20) C dJ7_fill_53178_7 (by decide) (fun c2 => ?_) (fun c2 => absurd (Int32.le_refl _) c2)
  exact q_vret C rfl dJ7_fill_53178_20
def f_X0_hours (M : Mm)  : Int32 := (gI M 2 5)
set_option maxHeartbeats 4000000 in
set_option maxRecDepth 100000 in
theorem c_X0_hours (M : Mm)   : MI yX0_hours cX0_hours 1 (some .int) 0 0 (fun a => [.ref (a 2)]) M (f_X0_hours M) M := by
  refine MI.intro (lv0 := fun a => [some (.ref (a 2))]) (by decide) (fun a => ⟨(Nat.le_of_ble_eq_true rfl), rfl⟩) ?_
  intro p9 l9 e9 s9 m9 g9 b9 h9 c9 D9 A9 ct a C
  have C : Cx p9 s9 m9 g9 h9 c9 cX0_hours 1 RX0 (some .int) D9 A9 ct a := C
  refine q_aload0 C dX0_hours_0 ?_
  refine g_X0_29 C dX0_hours_1 ?_
  exact q_iret C rfl rfl dX0_hours_4
def f_X0_latestRead (M : Mm)  : Int32 := (gI M 2 6)
set_option maxHeartbeats 4000000 in
set_option maxRecDepth 100000 in
theorem c_X0_latestRead (M : Mm)   : MI yX0_latestRead cX0_latestRead 1 (some .int) 0 0 (fun a => [.ref (a 2)]) M (f_X0_latestRead M) M := by
  refine MI.intro (lv0 := fun a => [some (.ref (a 2))]) (by decide) (fun a => ⟨(Nat.le_of_ble_eq_true rfl), rfl⟩) ?_
  intro p9 l9 e9 s9 m9 g9 b9 h9 c9 D9 A9 ct a C
  have C : Cx p9 s9 m9 g9 h9 c9 cX0_latestRead 1 RX0 (some .int) D9 A9 ct a := C
  refine q_aload0 C dX0_latestRead_0 ?_
  refine g_X0_33 C dX0_latestRead_1 ?_
  exact q_iret C rfl rfl dX0_latestRead_4
def f_X0_passedOver (M : Mm)  : Int32 := (gI M 2 7)
set_option maxHeartbeats 4000000 in
set_option maxRecDepth 100000 in
theorem c_X0_passedOver (M : Mm)   : MI yX0_passedOver cX0_passedOver 1 (some .int) 0 0 (fun a => [.ref (a 2)]) M (f_X0_passedOver M) M := by
  refine MI.intro (lv0 := fun a => [some (.ref (a 2))]) (by decide) (fun a => ⟨(Nat.le_of_ble_eq_true rfl), rfl⟩) ?_
  intro p9 l9 e9 s9 m9 g9 b9 h9 c9 D9 A9 ct a C
  have C : Cx p9 s9 m9 g9 h9 c9 cX0_passedOver 1 RX0 (some .int) D9 A9 ct a := C
  refine q_aload0 C dX0_passedOver_0 ?_
  refine g_X0_36 C dX0_passedOver_1 ?_
  exact q_iret C rfl rfl dX0_passedOver_4
def f_X0_sharesOf (M : Mm) (u1 : Int32) : Int32 := (gI M 16 (u1).toNatClampNeg)
set_option maxHeartbeats 4000000 in
set_option maxRecDepth 100000 in
theorem c_X0_sharesOf (M : Mm) (u1 : Int32) (h1 : vp_in u1 4) : MI yX0_sharesOf cX0_sharesOf 2 (some .int) 0 0 (fun a => [.ref (a 2), .int u1]) M (f_X0_sharesOf M u1) M := by
  refine MI.intro (lv0 := fun a => [some (.ref (a 2)), some (.int u1)]) (by decide) (fun a => ⟨(Nat.le_of_ble_eq_true rfl), rfl⟩) ?_
  intro p9 l9 e9 s9 m9 g9 b9 h9 c9 D9 A9 ct a C
  have C : Cx p9 s9 m9 g9 h9 c9 cX0_sharesOf 2 RX0 (some .int) D9 A9 ct a := C
  refine q_aload0 C dX0_sharesOf_0 ?_
  refine g_X0_16 C dX0_sharesOf_1 ?_
  refine q_iload1 C dX0_sharesOf_4 ?_
  refine q_ialdX (j := (u1).toNatClampNeg) C rfl rfl (by first | assumption | (unfold vp_in; decide) | exact vp_in_nI (by omega) (by decide) | exact vp_in_nI (by omega) (by omega)) dX0_sharesOf_5 ?_
  exact q_iret C rfl rfl dX0_sharesOf_6
def f_X0_setParts (M : Mm) (u1 : Int32) (u2 : Int32) (u3 : Int32) (u4 : Int32) : Mm := (sI (sI (sI (sI M (12 + (u1).toNatClampNeg) 0 u2) (12 + (u1).toNatClampNeg) 1 u3) (12 + (u1).toNatClampNeg) 2 u4) (12 + (u1).toNatClampNeg) 3 ((((1000 : Int32) - u2) - u3) - u4))
set_option maxHeartbeats 4000000 in
set_option maxRecDepth 100000 in
theorem c_X0_setParts (M : Mm) (u1 : Int32) (u2 : Int32) (u3 : Int32) (u4 : Int32) (h1 : vp_in u1 4) : MV yX0_setParts cX0_setParts 5 none 0 0 (fun a => [.ref (a 2), .int u1, .int u2, .int u3, .int u4]) M (f_X0_setParts M u1 u2 u3 u4) := by
  refine MV.intro (lv0 := fun a => [some (.ref (a 2)), some (.int u1), some (.int u2), some (.int u3), some (.int u4)]) (by decide) (fun a => ⟨(Nat.le_of_ble_eq_true rfl), rfl⟩) ?_
  intro p9 l9 e9 s9 m9 g9 b9 h9 c9 D9 A9 ct a C
  have C : Cx p9 s9 m9 g9 h9 c9 cX0_setParts 5 RX0 none D9 A9 ct a := C
  refine q_aload0 C dX0_setParts_0 ?_
  refine g_X0_11 C dX0_setParts_1 ?_
  refine q_iload1 C dX0_setParts_4 ?_
  refine q_aaldX (j := (u1).toNatClampNeg) C rfl rfl (by first | assumption | (unfold vp_in; decide) | exact vp_in_nI (by omega) (by decide) | exact vp_in_nI (by omega) (by omega)) dX0_setParts_5 ?_
  refine q_iconst (v := 0) C dX0_setParts_6 (by decide) ?_
  refine q_iload2 C dX0_setParts_7 ?_
  refine q_iastX (j := 0) C (sh_12 (by first | omega | exact vin_lt (by assumption))) (by decide) (by first | assumption | (unfold vp_in; decide) | exact vp_in_nI (by omega) (by decide) | exact vp_in_nI (by omega) (by omega)) dX0_setParts_8 ?_
  refine q_aload0 C dX0_setParts_9 ?_
  refine g_X0_11 C dX0_setParts_10 ?_
  refine q_iload1 C dX0_setParts_13 ?_
  refine q_aaldX (j := (u1).toNatClampNeg) C rfl rfl (by first | assumption | (unfold vp_in; decide) | exact vp_in_nI (by omega) (by decide) | exact vp_in_nI (by omega) (by omega)) dX0_setParts_14 ?_
  refine q_iconst (v := 1) C dX0_setParts_15 (by decide) ?_
  refine q_iload3 C dX0_setParts_16 ?_
  refine q_iastX (j := 1) C (sh_12 (by first | omega | exact vin_lt (by assumption))) (by decide) (by first | assumption | (unfold vp_in; decide) | exact vp_in_nI (by omega) (by decide) | exact vp_in_nI (by omega) (by omega)) dX0_setParts_17 ?_
  refine q_aload0 C dX0_setParts_18 ?_
  refine g_X0_11 C dX0_setParts_19 ?_
  refine q_iload1 C dX0_setParts_22 ?_
  refine q_aaldX (j := (u1).toNatClampNeg) C rfl rfl (by first | assumption | (unfold vp_in; decide) | exact vp_in_nI (by omega) (by decide) | exact vp_in_nI (by omega) (by omega)) dX0_setParts_23 ?_
  refine q_iconst (v := 2) C dX0_setParts_24 (by decide) ?_
  refine q_iload4 C dX0_setParts_25 ?_
  refine q_iastX (j := 2) C (sh_12 (by first | omega | exact vin_lt (by assumption))) (by decide) (by first | assumption | (unfold vp_in; decide) | exact vp_in_nI (by omega) (by decide) | exact vp_in_nI (by omega) (by omega)) dX0_setParts_27 ?_
  refine q_aload0 C dX0_setParts_28 ?_
  refine g_X0_11 C dX0_setParts_29 ?_
  refine q_iload1 C dX0_setParts_32 ?_
  refine q_aaldX (j := (u1).toNatClampNeg) C rfl rfl (by first | assumption | (unfold vp_in; decide) | exact vp_in_nI (by omega) (by decide) | exact vp_in_nI (by omega) (by omega)) dX0_setParts_33 ?_
  refine q_iconst (v := 3) C dX0_setParts_34 (by decide) ?_
  refine q_sipush (v := 1000) C dX0_setParts_35 (by decide) ?_
  refine q_iload2 C dX0_setParts_38 ?_
  refine q_isub C dX0_setParts_39 ?_
  refine q_iload3 C dX0_setParts_40 ?_
  refine q_isub C dX0_setParts_41 ?_
  refine q_iload4 C dX0_setParts_42 ?_
  refine q_isub C dX0_setParts_44 ?_
  refine q_iastX (j := 3) C (sh_12 (by first | omega | exact vin_lt (by assumption))) (by decide) (by first | assumption | (unfold vp_in; decide) | exact vp_in_nI (by omega) (by decide) | exact vp_in_nI (by omega) (by omega)) dX0_setParts_45 ?_
  exact q_vret C rfl dX0_setParts_46
def f_X0_setShares (M : Mm) (u1 : Int32) (u2 : Int32) (u3 : Int32) : Mm := (sI (sI (sI (sI M 16 0 u1) 16 1 u2) 16 2 u3) 16 3 ((((1000 : Int32) - u1) - u2) - u3))
set_option maxHeartbeats 4000000 in
set_option maxRecDepth 100000 in
theorem c_X0_setShares (M : Mm) (u1 : Int32) (u2 : Int32) (u3 : Int32)  : MV yX0_setShares cX0_setShares 4 none 0 0 (fun a => [.ref (a 2), .int u1, .int u2, .int u3]) M (f_X0_setShares M u1 u2 u3) := by
  refine MV.intro (lv0 := fun a => [some (.ref (a 2)), some (.int u1), some (.int u2), some (.int u3)]) (by decide) (fun a => ⟨(Nat.le_of_ble_eq_true rfl), rfl⟩) ?_
  intro p9 l9 e9 s9 m9 g9 b9 h9 c9 D9 A9 ct a C
  have C : Cx p9 s9 m9 g9 h9 c9 cX0_setShares 4 RX0 none D9 A9 ct a := C
  refine q_aload0 C dX0_setShares_0 ?_
  refine g_X0_16 C dX0_setShares_1 ?_
  refine q_iconst (v := 0) C dX0_setShares_4 (by decide) ?_
  refine q_iload1 C dX0_setShares_5 ?_
  refine q_iastX (j := 0) C rfl (by decide) (by first | assumption | (unfold vp_in; decide) | exact vp_in_nI (by omega) (by decide) | exact vp_in_nI (by omega) (by omega)) dX0_setShares_6 ?_
  refine q_aload0 C dX0_setShares_7 ?_
  refine g_X0_16 C dX0_setShares_8 ?_
  refine q_iconst (v := 1) C dX0_setShares_11 (by decide) ?_
  refine q_iload2 C dX0_setShares_12 ?_
  refine q_iastX (j := 1) C rfl (by decide) (by first | assumption | (unfold vp_in; decide) | exact vp_in_nI (by omega) (by decide) | exact vp_in_nI (by omega) (by omega)) dX0_setShares_13 ?_
  refine q_aload0 C dX0_setShares_14 ?_
  refine g_X0_16 C dX0_setShares_15 ?_
  refine q_iconst (v := 2) C dX0_setShares_18 (by decide) ?_
  refine q_iload3 C dX0_setShares_19 ?_
  refine q_iastX (j := 2) C rfl (by decide) (by first | assumption | (unfold vp_in; decide) | exact vp_in_nI (by omega) (by decide) | exact vp_in_nI (by omega) (by omega)) dX0_setShares_20 ?_
  refine q_aload0 C dX0_setShares_21 ?_
  refine g_X0_16 C dX0_setShares_22 ?_
  refine q_iconst (v := 3) C dX0_setShares_25 (by decide) ?_
  refine q_sipush (v := 1000) C dX0_setShares_26 (by decide) ?_
  refine q_iload1 C dX0_setShares_29 ?_
  refine q_isub C dX0_setShares_30 ?_
  refine q_iload2 C dX0_setShares_31 ?_
  refine q_isub C dX0_setShares_32 ?_
  refine q_iload3 C dX0_setShares_33 ?_
  refine q_isub C dX0_setShares_34 ?_
  refine q_iastX (j := 3) C rfl (by decide) (by first | assumption | (unfold vp_in; decide) | exact vp_in_nI (by omega) (by decide) | exact vp_in_nI (by omega) (by omega)) dX0_setShares_35 ?_
  exact q_vret C rfl dX0_setShares_36
def f_X0_setAim (M : Mm) (u1 : Int32) (u2 : Int32) : Mm := (sI (sI M 2 8 u1) 2 9 u2)
set_option maxHeartbeats 4000000 in
set_option maxRecDepth 100000 in
theorem c_X0_setAim (M : Mm) (u1 : Int32) (u2 : Int32)  : MV yX0_setAim cX0_setAim 3 none 0 0 (fun a => [.ref (a 2), .int u1, .int u2]) M (f_X0_setAim M u1 u2) := by
  refine MV.intro (lv0 := fun a => [some (.ref (a 2)), some (.int u1), some (.int u2)]) (by decide) (fun a => ⟨(Nat.le_of_ble_eq_true rfl), rfl⟩) ?_
  intro p9 l9 e9 s9 m9 g9 b9 h9 c9 D9 A9 ct a C
  have C : Cx p9 s9 m9 g9 h9 c9 cX0_setAim 3 RX0 none D9 A9 ct a := C
  refine q_aload0 C dX0_setAim_0 ?_
  refine q_iload1 C dX0_setAim_1 ?_
  refine p_X0_39 C  dX0_setAim_2 ?_
  refine q_aload0 C dX0_setAim_5 ?_
  refine q_iload2 C dX0_setAim_6 ?_
  refine p_X0_42 C  dX0_setAim_7 ?_
  exact q_vret C rfl dX0_setAim_10
def f_X0_setRule (M : Mm) (u1 : Int32) (u2 : Int32) : Mm := (sI (sI M 2 10 u1) 2 11 u2)
set_option maxHeartbeats 4000000 in
set_option maxRecDepth 100000 in
theorem c_X0_setRule (M : Mm) (u1 : Int32) (u2 : Int32)  : MV yX0_setRule cX0_setRule 3 none 0 0 (fun a => [.ref (a 2), .int u1, .int u2]) M (f_X0_setRule M u1 u2) := by
  refine MV.intro (lv0 := fun a => [some (.ref (a 2)), some (.int u1), some (.int u2)]) (by decide) (fun a => ⟨(Nat.le_of_ble_eq_true rfl), rfl⟩) ?_
  intro p9 l9 e9 s9 m9 g9 b9 h9 c9 D9 A9 ct a C
  have C : Cx p9 s9 m9 g9 h9 c9 cX0_setRule 3 RX0 none D9 A9 ct a := C
  refine q_aload0 C dX0_setRule_0 ?_
  refine q_iload1 C dX0_setRule_1 ?_
  refine p_X0_45 C  dX0_setRule_2 ?_
  refine q_aload0 C dX0_setRule_5 ?_
  refine q_iload2 C dX0_setRule_6 ?_
  refine p_X0_48 C  dX0_setRule_7 ?_
  exact q_vret C rfl dX0_setRule_10
def b_X0_part_1 (M : Mm) (u1 : Int32) (i1 : Nat) (z1 : Int32) : Int32 := (z1 + ((gI M 16 i1) * (gI M (12 + i1) (u1).toNatClampNeg)))
def f_X0_part (M : Mm) (u1 : Int32) : Int32 := (itr (b_X0_part_1 M u1) 4 (0 : Int32))
set_option maxHeartbeats 4000000 in
set_option maxRecDepth 100000 in
theorem c_X0_part (M : Mm) (u1 : Int32) (h1 : vp_in u1 4) : MI yX0_part cX0_part 4 (some .int) 0 0 (fun a => [.ref (a 2), .int u1]) M (f_X0_part M u1) M := by
  refine MI.intro (lv0 := fun a => [some (.ref (a 2)), some (.int u1), none, none]) (by decide) (fun a => ⟨(Nat.le_of_ble_eq_true rfl), rfl⟩) ?_
  intro p9 l9 e9 s9 m9 g9 b9 h9 c9 D9 A9 ct a C
  have C : Cx p9 s9 m9 g9 h9 c9 cX0_part 4 RX0 (some .int) D9 A9 ct a := C
  refine q_iconst (v := 0) C dX0_part_0 (by decide) ?_
  refine q_istore2 C dX0_part_1 (by decide) (by intro w h0 h; first | exact absurd rfl h0 | (cases h <;> rfl)) ?_
  refine q_iconst (v := 0) C dX0_part_2 (by decide) ?_
  refine q_istore3 C dX0_part_3 (by decide) (by intro w h0 h; first | exact absurd rfl h0 | (cases h <;> rfl)) ?_
  refine q_loop 4 (b_X0_part_1 M u1) (fun zz => M) (fun xx zz => [some (.ref (a 2)), some (.int u1), some (.int zz), some (.int xx)]) (0 : Int32)  (fun i1 z1 hi1 ih1 => ?_) ?_
  · refine q_iload3 C dX0_part_4 ?_
    refine q_iconst (v := 4) C dX0_part_5 (by decide) ?_
    refine q_icmp_ge (tgt := 33) C dX0_part_6 (by decide) (fun c1 => absurd c1 (nI_ge (b := 4) (by omega) (by omega))) (fun c1 => ?_)
    refine q_iload2 C dX0_part_9 ?_
    refine q_aload0 C dX0_part_10 ?_
    refine g_X0_16 C dX0_part_11 ?_
    refine q_iload3 C dX0_part_14 ?_
    refine q_ialdX (j := i1) C rfl (nI_clamp (by omega)) (by first | assumption | (unfold vp_in; decide) | exact vp_in_nI (by omega) (by decide) | exact vp_in_nI (by omega) (by omega)) dX0_part_15 ?_
    refine q_aload0 C dX0_part_16 ?_
    refine g_X0_11 C dX0_part_17 ?_
    refine q_iload3 C dX0_part_20 ?_
    refine q_aaldX (j := i1) C rfl (nI_clamp (by omega)) (by first | assumption | (unfold vp_in; decide) | exact vp_in_nI (by omega) (by decide) | exact vp_in_nI (by omega) (by omega)) dX0_part_21 ?_
    refine q_iload1 C dX0_part_22 ?_
    refine q_ialdX (j := (u1).toNatClampNeg) C (sh_12 (by first | omega | exact vin_lt (by assumption))) rfl (by first | assumption | (unfold vp_in; decide) | exact vp_in_nI (by omega) (by decide) | exact vp_in_nI (by omega) (by omega)) dX0_part_23 ?_
    refine q_imul C dX0_part_24 ?_
    refine q_iadd C dX0_part_25 ?_
    refine q_istore2 C dX0_part_26 (by decide) (by intro w h0 h; first | exact absurd rfl h0 | (cases h <;> rfl)) ?_
    refine q_iinc3 (dv := 1) C dX0_part_27 (by decide) (by decide) (by intro w h0 h; first | exact absurd rfl h0 | (cases h <;> rfl)) ?_
    refine q_goto (tgt := 4) C dX0_part_30 (by decide) ?_
    exact ih1
  refine q_iload3 C dX0_part_4 ?_
  refine q_iconst (v := 4) C dX0_part_5 (by decide) ?_
  refine q_icmp_ge (tgt := 33) C dX0_part_6 (by decide) (fun c2 => ?_) (fun c2 => absurd (Int32.le_refl _) c2)
  refine q_iload2 C dX0_part_33 ?_
  exact q_iret C rfl rfl dX0_part_34
def f_X0_numberUpper (M : Mm)  : Int32 := ((10 : Int32) * (f_X0_part M (0 : Int32)))
set_option maxHeartbeats 4000000 in
set_option maxRecDepth 100000 in
theorem c_X0_numberUpper (M : Mm)   : MI yX0_numberUpper cX0_numberUpper 1 (some .int) 1 23 (fun a => [.ref (a 2)]) M (f_X0_numberUpper M) M := by
  refine MI.intro (lv0 := fun a => [some (.ref (a 2))]) (by decide) (fun a => ⟨(Nat.le_of_ble_eq_true rfl), rfl⟩) ?_
  intro p9 l9 e9 s9 m9 g9 b9 h9 c9 D9 A9 ct a C
  have C : Cx p9 s9 m9 g9 h9 c9 cX0_numberUpper 1 RX0 (some .int) D9 A9 ct a := C
  refine q_bipush (v := 10) C dX0_numberUpper_0 (by decide) ?_
  refine q_aload0 C dX0_numberUpper_2 ?_
  refine q_iconst (v := 0) C dX0_numberUpper_3 (by decide) ?_
  refine qc_VI C (c_X0_part _ _ (by first | assumption | (unfold vp_in; decide) | decide | exact vp_in_nI (by omega) (by decide) | omega)) cw_X0_57 rfl rfl rfl rfl (Nat.le_of_ble_eq_true rfl) ⟨(Nat.le_of_ble_eq_true rfl), (Nat.le_of_ble_eq_true rfl)⟩ ⟨Nat.zero_le _, Nat.zero_le _⟩ dX0_numberUpper_4 ?_
  refine q_imul C dX0_numberUpper_7 ?_
  exact q_iret C rfl rfl dX0_numberUpper_8
def f_X0_numberLower (M : Mm)  : Int32 := ((((28 : Int32) * (f_X0_part M (1 : Int32))) + ((12 : Int32) * (f_X0_part M (2 : Int32)))) + ((7 : Int32) * (f_X0_part M (3 : Int32))))
set_option maxHeartbeats 4000000 in
set_option maxRecDepth 100000 in
theorem c_X0_numberLower (M : Mm)   : MI yX0_numberLower cX0_numberLower 1 (some .int) 1 23 (fun a => [.ref (a 2)]) M (f_X0_numberLower M) M := by
  refine MI.intro (lv0 := fun a => [some (.ref (a 2))]) (by decide) (fun a => ⟨(Nat.le_of_ble_eq_true rfl), rfl⟩) ?_
  intro p9 l9 e9 s9 m9 g9 b9 h9 c9 D9 A9 ct a C
  have C : Cx p9 s9 m9 g9 h9 c9 cX0_numberLower 1 RX0 (some .int) D9 A9 ct a := C
  refine q_bipush (v := 28) C dX0_numberLower_0 (by decide) ?_
  refine q_aload0 C dX0_numberLower_2 ?_
  refine q_iconst (v := 1) C dX0_numberLower_3 (by decide) ?_
  refine qc_VI C (c_X0_part _ _ (by first | assumption | (unfold vp_in; decide) | decide | exact vp_in_nI (by omega) (by decide) | omega)) cw_X0_57 rfl rfl rfl rfl (Nat.le_of_ble_eq_true rfl) ⟨(Nat.le_of_ble_eq_true rfl), (Nat.le_of_ble_eq_true rfl)⟩ ⟨Nat.zero_le _, Nat.zero_le _⟩ dX0_numberLower_4 ?_
  refine q_imul C dX0_numberLower_7 ?_
  refine q_bipush (v := 12) C dX0_numberLower_8 (by decide) ?_
  refine q_aload0 C dX0_numberLower_10 ?_
  refine q_iconst (v := 2) C dX0_numberLower_11 (by decide) ?_
  refine qc_VI C (c_X0_part _ _ (by first | assumption | (unfold vp_in; decide) | decide | exact vp_in_nI (by omega) (by decide) | omega)) cw_X0_57 rfl rfl rfl rfl (Nat.le_of_ble_eq_true rfl) ⟨(Nat.le_of_ble_eq_true rfl), (Nat.le_of_ble_eq_true rfl)⟩ ⟨Nat.zero_le _, Nat.zero_le _⟩ dX0_numberLower_12 ?_
  refine q_imul C dX0_numberLower_15 ?_
  refine q_iadd C dX0_numberLower_16 ?_
  refine q_bipush (v := 7) C dX0_numberLower_17 (by decide) ?_
  refine q_aload0 C dX0_numberLower_19 ?_
  refine q_iconst (v := 3) C dX0_numberLower_20 (by decide) ?_
  refine qc_VI C (c_X0_part _ _ (by first | assumption | (unfold vp_in; decide) | decide | exact vp_in_nI (by omega) (by decide) | omega)) cw_X0_57 rfl rfl rfl rfl (Nat.le_of_ble_eq_true rfl) ⟨(Nat.le_of_ble_eq_true rfl), (Nat.le_of_ble_eq_true rfl)⟩ ⟨Nat.zero_le _, Nat.zero_le _⟩ dX0_numberLower_21 ?_
  refine q_imul C dX0_numberLower_24 ?_
  refine q_iadd C dX0_numberLower_25 ?_
  exact q_iret C rfl rfl dX0_numberLower_26
def m_X0_takeSample_1 (M : Mm) (u1 : Int32) : Mm := (sI (sI M 17 ((gI M 2 5)).toNatClampNeg (if u1 = 0 then ((gI M 2 5) + (gI M 2 10)) else (-1 : Int32))) 18 ((gI (sI M 17 ((gI M 2 5)).toNatClampNeg (if u1 = 0 then ((gI M 2 5) + (gI M 2 10)) else (-1 : Int32))) 2 5)).toNatClampNeg (f_X0_numberUpper (sI M 17 ((gI M 2 5)).toNatClampNeg (if u1 = 0 then ((gI M 2 5) + (gI M 2 10)) else (-1 : Int32)))))
def f_X0_takeSample (M : Mm) (u1 : Int32) : Mm := (sI (m_X0_takeSample_1 M u1) 19 ((gI (m_X0_takeSample_1 M u1) 2 5)).toNatClampNeg (f_X0_numberLower (m_X0_takeSample_1 M u1)))
set_option maxHeartbeats 4000000 in
set_option maxRecDepth 100000 in
theorem c_X0_takeSample (M : Mm) (u1 : Int32) (hs : vp_in (gI M 2 5) 200) : MV yX0_takeSample cX0_takeSample 2 none 2 43 (fun a => [.ref (a 2), .int u1]) M (f_X0_takeSample M u1) := by
  refine MV.intro (lv0 := fun a => [some (.ref (a 2)), some (.int u1)]) (by decide) (fun a => ⟨(Nat.le_of_ble_eq_true rfl), rfl⟩) ?_
  intro p9 l9 e9 s9 m9 g9 b9 h9 c9 D9 A9 ct a C
  have C : Cx p9 s9 m9 g9 h9 c9 cX0_takeSample 2 RX0 none D9 A9 ct a := C
  refine q_aload0 C dX0_takeSample_0 ?_
  refine g_X0_20 C dX0_takeSample_1 ?_
  refine q_aload0 C dX0_takeSample_4 ?_
  refine g_X0_29 C dX0_takeSample_5 ?_
  refine q_iload1 C dX0_takeSample_8 ?_
  refine q_cut M 25 [some (.ref (a 2)), none] [.int (if u1 = 0 then ((gI M 2 5) + (gI M 2 10)) else (-1 : Int32)), .int (gI M 2 5), .ref (a 17)] (fun hJ => ?_) ?_
  · refine q_if_eq (tgt := 16) C dX0_takeSample_9 (by decide) (fun c1 => ?_) (fun c1 => ?_)
    · refine q_aload0 C dX0_takeSample_16 ?_
      refine g_X0_29 C dX0_takeSample_17 ?_
      refine q_aload0 C dX0_takeSample_20 ?_
      refine g_X0_45 C dX0_takeSample_21 ?_
      refine q_iadd C dX0_takeSample_24 ?_
      refine q_drop [some (.ref (a 2)), none] (by repeat' (first | exact trivial | rfl | constructor)) ?_
      (try simp only [if_pos c1] at hJ); exact hJ
    · refine q_iconst (v := -1) C dX0_takeSample_12 (by decide) ?_
      refine q_goto (tgt := 25) C dX0_takeSample_13 (by decide) ?_
      refine q_drop [some (.ref (a 2)), none] (by repeat' (first | exact trivial | rfl | constructor)) ?_
      (try simp only [if_neg c1] at hJ); exact hJ
  refine q_iastX (j := ((gI M 2 5)).toNatClampNeg) C rfl rfl (by first | assumption | (unfold vp_in; decide) | exact vp_in_nI (by omega) (by decide) | exact vp_in_nI (by omega) (by omega)) dX0_takeSample_25 ?_
  refine q_aload0 C dX0_takeSample_26 ?_
  refine g_X0_23 C dX0_takeSample_27 ?_
  refine q_aload0 C dX0_takeSample_30 ?_
  refine g_X0_29 C dX0_takeSample_31 ?_
  refine q_aload0 C dX0_takeSample_34 ?_
  refine qc_VI C (c_X0_numberUpper _ ) cw_X0_72 rfl rfl rfl rfl (Nat.le_of_ble_eq_true rfl) ⟨(Nat.le_of_ble_eq_true rfl), (Nat.le_of_ble_eq_true rfl)⟩ ⟨Nat.zero_le _, Nat.zero_le _⟩ dX0_takeSample_35 ?_
  refine q_iastX (j := ((gI (sI M 17 ((gI M 2 5)).toNatClampNeg (if u1 = 0 then ((gI M 2 5) + (gI M 2 10)) else (-1 : Int32))) 2 5)).toNatClampNeg) C rfl rfl (by first | assumption | (unfold vp_in; decide) | exact vp_in_nI (by omega) (by decide) | exact vp_in_nI (by omega) (by omega)) dX0_takeSample_38 ?_
  refine q_cut (m_X0_takeSample_1 M u1) 39 [some (.ref (a 2)), none] [] (fun hJ => hJ) ?_
  refine q_aload0 C dX0_takeSample_39 ?_
  refine g_X0_26 C dX0_takeSample_40 ?_
  refine q_aload0 C dX0_takeSample_43 ?_
  refine g_X0_29 C dX0_takeSample_44 ?_
  refine q_aload0 C dX0_takeSample_47 ?_
  refine qc_VI C (c_X0_numberLower _ ) cw_X0_75 rfl rfl rfl rfl (Nat.le_of_ble_eq_true rfl) ⟨(Nat.le_of_ble_eq_true rfl), (Nat.le_of_ble_eq_true rfl)⟩ ⟨Nat.zero_le _, Nat.zero_le _⟩ dX0_takeSample_48 ?_
  refine q_iastX (j := ((gI (m_X0_takeSample_1 M u1) 2 5)).toNatClampNeg) C rfl rfl (by first | assumption | (unfold vp_in; decide) | exact vp_in_nI (by omega) (by decide) | exact vp_in_nI (by omega) (by omega)) dX0_takeSample_51 ?_
  exact q_vret C rfl dX0_takeSample_52
def m_X0_shift_1 (M : Mm) (u1 : Int32) : Mm := (sI M 16 (u1).toNatClampNeg ((gI M 16 (u1).toNatClampNeg) - (if (gI M 16 (u1).toNatClampNeg) < (gI M 2 11) then (gI M 16 (u1).toNatClampNeg) else (gI M 2 11))))
def m_X0_shift_2 (M : Mm) (u1 : Int32) (u2 : Int32) : Mm := (sI (m_X0_shift_1 M u1) 16 (u2).toNatClampNeg ((gI (m_X0_shift_1 M u1) 16 (u2).toNatClampNeg) + (if (gI M 16 (u1).toNatClampNeg) < (gI M 2 11) then (gI M 16 (u1).toNatClampNeg) else (gI M 2 11))))
def f_X0_shift (M : Mm) (u1 : Int32) (u2 : Int32) : Int32 × Mm := ((if (if (gI M 16 (u1).toNatClampNeg) < (gI M 2 11) then (gI M 16 (u1).toNatClampNeg) else (gI M 2 11)) ≤ 0 then (0 : Int32) else (1 : Int32)), (m_X0_shift_2 M u1 u2))
set_option maxHeartbeats 4000000 in
set_option maxRecDepth 100000 in
theorem c_X0_shift (M : Mm) (u1 : Int32) (u2 : Int32) (h1 : vp_in u1 4) (h2 : vp_in u2 4) : MI yX0_shift cX0_shift 4 (some .boolean) 1 23 (fun a => [.ref (a 2), .int u1, .int u2]) M (f_X0_shift M u1 u2).1 (f_X0_shift M u1 u2).2 := by
  refine MI.intro (lv0 := fun a => [some (.ref (a 2)), some (.int u1), some (.int u2), none]) (by decide) (fun a => ⟨(Nat.le_of_ble_eq_true rfl), rfl⟩) ?_
  intro p9 l9 e9 s9 m9 g9 b9 h9 c9 D9 A9 ct a C
  have C : Cx p9 s9 m9 g9 h9 c9 cX0_shift 4 RX0 (some .boolean) D9 A9 ct a := C
  refine q_aload0 C dX0_shift_0 ?_
  refine g_X0_48 C dX0_shift_1 ?_
  refine q_aload0 C dX0_shift_4 ?_
  refine g_X0_16 C dX0_shift_5 ?_
  refine q_iload1 C dX0_shift_8 ?_
  refine q_ialdX (j := (u1).toNatClampNeg) C rfl rfl (by first | assumption | (unfold vp_in; decide) | exact vp_in_nI (by omega) (by decide) | exact vp_in_nI (by omega) (by omega)) dX0_shift_9 ?_
  refine qc_mmin C wm_X0_82 ws_min.1 ws_min.2.1 ws_min.2.2 ⟨(Nat.le_of_ble_eq_true rfl), (Nat.le_of_ble_eq_true rfl)⟩ ⟨Nat.zero_le _, Nat.zero_le _⟩ dX0_shift_10 ?_
  refine q_istore3 C dX0_shift_13 (by decide) (by intro w h0 h; first | exact absurd rfl h0 | (cases h <;> rfl)) ?_
  refine q_aload0 C dX0_shift_14 ?_
  refine g_X0_16 C dX0_shift_15 ?_
  refine q_iload1 C dX0_shift_18 ?_
  refine q_dup2 C dX0_shift_19 rfl rfl ?_
  refine q_ialdX (j := (u1).toNatClampNeg) C rfl rfl (by first | assumption | (unfold vp_in; decide) | exact vp_in_nI (by omega) (by decide) | exact vp_in_nI (by omega) (by omega)) dX0_shift_20 ?_
  refine q_iload3 C dX0_shift_21 ?_
  refine q_isub C dX0_shift_22 ?_
  refine q_iastX (j := (u1).toNatClampNeg) C rfl rfl (by first | assumption | (unfold vp_in; decide) | exact vp_in_nI (by omega) (by decide) | exact vp_in_nI (by omega) (by omega)) dX0_shift_23 ?_
  refine q_cut (m_X0_shift_1 M u1) 24 [some (.ref (a 2)), some (.int u1), some (.int u2), some (.int (if (gI M 16 (u1).toNatClampNeg) < (gI M 2 11) then (gI M 16 (u1).toNatClampNeg) else (gI M 2 11)))] [] (fun hJ => hJ) ?_
  refine q_aload0 C dX0_shift_24 ?_
  refine g_X0_16 C dX0_shift_25 ?_
  refine q_iload2 C dX0_shift_28 ?_
  refine q_dup2 C dX0_shift_29 rfl rfl ?_
  refine q_ialdX (j := (u2).toNatClampNeg) C rfl rfl (by first | assumption | (unfold vp_in; decide) | exact vp_in_nI (by omega) (by decide) | exact vp_in_nI (by omega) (by omega)) dX0_shift_30 ?_
  refine q_iload3 C dX0_shift_31 ?_
  refine q_iadd C dX0_shift_32 ?_
  refine q_iastX (j := (u2).toNatClampNeg) C rfl rfl (by first | assumption | (unfold vp_in; decide) | exact vp_in_nI (by omega) (by decide) | exact vp_in_nI (by omega) (by omega)) dX0_shift_33 ?_
  refine q_cut (m_X0_shift_2 M u1 u2) 34 [some (.ref (a 2)), some (.int u1), some (.int u2), some (.int (if (gI M 16 (u1).toNatClampNeg) < (gI M 2 11) then (gI M 16 (u1).toNatClampNeg) else (gI M 2 11)))] [] (fun hJ => hJ) ?_
  refine q_iload3 C dX0_shift_34 ?_
  refine q_cut (m_X0_shift_2 M u1 u2) 43 [none, none, none, none] [.int (if (if (gI M 16 (u1).toNatClampNeg) < (gI M 2 11) then (gI M 16 (u1).toNatClampNeg) else (gI M 2 11)) ≤ 0 then (0 : Int32) else (1 : Int32))] (fun hJ => ?_) ?_
  · refine q_if_le (tgt := 42) C dX0_shift_35 (by decide) (fun c1 => ?_) (fun c1 => ?_)
    · refine q_iconst (v := 0) C dX0_shift_42 (by decide) ?_
      refine q_drop [none, none, none, none] (by repeat' (first | exact trivial | rfl | constructor)) ?_
      (try simp only [if_pos c1] at hJ); exact hJ
    · refine q_iconst (v := 1) C dX0_shift_38 (by decide) ?_
      refine q_goto (tgt := 43) C dX0_shift_39 (by decide) ?_
      refine q_drop [none, none, none, none] (by repeat' (first | exact trivial | rfl | constructor)) ?_
      (try simp only [if_neg c1] at hJ); exact hJ
  exact q_zret C (by repeat' first | exact bz_0 | exact bz_1 | assumption | apply bz_if) rfl rfl dX0_shift_43
def f_X0_correct (M : Mm) (u1 : Int32) : Int32 × Mm := (if (gI M 19 (u1).toNatClampNeg) = 0 then ((1 : Int32), M) else (if 0 ≤ (lg_cmp (((gI M 18 (u1).toNatClampNeg)).toInt64 * ((gI M 2 9)).toInt64) (((gI M 19 (u1).toNatClampNeg)).toInt64 * ((gI M 2 8)).toInt64)) then (if (lg_cmp (((gI M 18 (u1).toNatClampNeg)).toInt64 * ((gI M 2 9)).toInt64) (((gI M 19 (u1).toNatClampNeg)).toInt64 * ((gI M 2 8)).toInt64)) ≤ 0 then ((1 : Int32), M) else ((if (f_X0_shift M (0 : Int32) (1 : Int32)).1 = 0 then (1 : Int32) else (3 : Int32)), (f_X0_shift M (0 : Int32) (1 : Int32)).2)) else ((if (f_X0_shift M (1 : Int32) (0 : Int32)).1 = 0 then (1 : Int32) else (2 : Int32)), (f_X0_shift M (1 : Int32) (0 : Int32)).2)))
set_option maxHeartbeats 4000000 in
set_option maxRecDepth 100000 in
theorem c_X0_correct (M : Mm) (u1 : Int32) (h1 : vp_in u1 200) : MI yX0_correct cX0_correct 6 (some .int) 2 46 (fun a => [.ref (a 2), .int u1]) M (f_X0_correct M u1).1 (f_X0_correct M u1).2 := by
  refine MI.intro (lv0 := fun a => [some (.ref (a 2)), some (.int u1), none, none, none, none]) (by decide) (fun a => ⟨(Nat.le_of_ble_eq_true rfl), rfl⟩) ?_
  intro p9 l9 e9 s9 m9 g9 b9 h9 c9 D9 A9 ct a C
  have C : Cx p9 s9 m9 g9 h9 c9 cX0_correct 6 RX0 (some .int) D9 A9 ct a := C
  refine q_aload0 C dX0_correct_0 ?_
  refine g_X0_26 C dX0_correct_1 ?_
  refine q_iload1 C dX0_correct_4 ?_
  refine q_ialdX (j := (u1).toNatClampNeg) C rfl rfl (by first | assumption | (unfold vp_in; decide) | exact vp_in_nI (by omega) (by decide) | exact vp_in_nI (by omega) (by omega)) dX0_correct_5 ?_
  refine q_if_ne (tgt := 11) C dX0_correct_6 (by decide) (fun c1 => ?_) (fun c1 => ?_)
  · refine q_aload0 C dX0_correct_11 ?_
    refine g_X0_23 C dX0_correct_12 ?_
    refine q_iload1 C dX0_correct_15 ?_
    refine q_ialdX (j := (u1).toNatClampNeg) C rfl rfl (by first | assumption | (unfold vp_in; decide) | exact vp_in_nI (by omega) (by decide) | exact vp_in_nI (by omega) (by omega)) dX0_correct_16 ?_
    refine q_i2l C dX0_correct_17 ?_
    refine q_aload0 C dX0_correct_18 ?_
    refine g_X0_42 C dX0_correct_19 ?_
    refine q_i2l C dX0_correct_22 ?_
    refine q_lmul C dX0_correct_23 ?_
    refine q_lstore2 C dX0_correct_24 (by decide) (by intro w h0 h; first | exact absurd rfl h0 | (cases h <;> rfl)) ?_
    refine q_aload0 C dX0_correct_25 ?_
    refine g_X0_26 C dX0_correct_26 ?_
    refine q_iload1 C dX0_correct_29 ?_
    refine q_ialdX (j := (u1).toNatClampNeg) C rfl rfl (by first | assumption | (unfold vp_in; decide) | exact vp_in_nI (by omega) (by decide) | exact vp_in_nI (by omega) (by omega)) dX0_correct_30 ?_
    refine q_i2l C dX0_correct_31 ?_
    refine q_aload0 C dX0_correct_32 ?_
    refine g_X0_39 C dX0_correct_33 ?_
    refine q_i2l C dX0_correct_36 ?_
    refine q_lmul C dX0_correct_37 ?_
    refine q_lstore4 C dX0_correct_38 (by decide) (by intro w h0 h; first | exact absurd rfl h0 | (cases h <;> rfl)) ?_
    refine q_lload2 C dX0_correct_40 ?_
    refine q_lload4 C dX0_correct_41 ?_
    refine q_lcmp C dX0_correct_43 ?_
    refine q_if_ge (tgt := 62) C dX0_correct_44 (by decide) (fun c2 => ?_) (fun c2 => ?_)
    · refine q_lload2 C dX0_correct_62 ?_
      refine q_lload4 C dX0_correct_63 ?_
      refine q_lcmp C dX0_correct_65 ?_
      refine q_if_le (tgt := 84) C dX0_correct_66 (by decide) (fun c3 => ?_) (fun c3 => ?_)
      · refine q_iconst (v := 1) C dX0_correct_84 (by decide) ?_
        exact q_iret C (by first | rfl | (rw [f_X0_correct, if_neg c1, if_pos c2, if_pos c3]; done) | (rw [f_X0_correct, if_neg c1, if_pos c2, if_pos c3]; rfl) | (simp only [f_X0_correct, if_neg c1, if_pos c2, if_pos c3]; done)) (by first | rfl | (rw [f_X0_correct, if_neg c1, if_pos c2, if_pos c3]; done) | (rw [f_X0_correct, if_neg c1, if_pos c2, if_pos c3]; rfl) | (simp only [f_X0_correct, if_neg c1, if_pos c2, if_pos c3]; done)) dX0_correct_85
      · refine q_aload0 C dX0_correct_69 ?_
        refine q_iconst (v := 0) C dX0_correct_70 (by decide) ?_
        refine q_iconst (v := 1) C dX0_correct_71 (by decide) ?_
        refine qc_VI C (c_X0_shift _ _ _ (by first | assumption | (unfold vp_in; decide) | decide | exact vp_in_nI (by omega) (by decide) | omega) (by first | assumption | (unfold vp_in; decide) | decide | exact vp_in_nI (by omega) (by decide) | omega)) cw_X0_78 rfl rfl rfl rfl (Nat.le_of_ble_eq_true rfl) ⟨(Nat.le_of_ble_eq_true rfl), (Nat.le_of_ble_eq_true rfl)⟩ ⟨Nat.zero_le _, Nat.zero_le _⟩ dX0_correct_72 ?_
        refine q_cut (f_X0_shift M (0 : Int32) (1 : Int32)).2 83 [none, none, none, none, none, none] [.int (if (f_X0_shift M (0 : Int32) (1 : Int32)).1 = 0 then (1 : Int32) else (3 : Int32))] (fun hJ => ?_) ?_
        · refine q_if_eq (tgt := 82) C dX0_correct_75 (by decide) (fun c4 => ?_) (fun c4 => ?_)
          · refine q_iconst (v := 1) C dX0_correct_82 (by decide) ?_
            refine q_drop [none, none, none, none, none, none] (by repeat' (first | exact trivial | rfl | constructor)) ?_
            (try simp only [if_pos c4] at hJ); exact hJ
          · refine q_iconst (v := 3) C dX0_correct_78 (by decide) ?_
            refine q_goto (tgt := 83) C dX0_correct_79 (by decide) ?_
            refine q_drop [none, none, none, none, none, none] (by repeat' (first | exact trivial | rfl | constructor)) ?_
            (try simp only [if_neg c4] at hJ); exact hJ
        exact q_iret C (by first | rfl | (rw [f_X0_correct, if_neg c1, if_pos c2, if_neg c3]; done) | (rw [f_X0_correct, if_neg c1, if_pos c2, if_neg c3]; rfl) | (simp only [f_X0_correct, if_neg c1, if_pos c2, if_neg c3]; done)) (by first | rfl | (rw [f_X0_correct, if_neg c1, if_pos c2, if_neg c3]; done) | (rw [f_X0_correct, if_neg c1, if_pos c2, if_neg c3]; rfl) | (simp only [f_X0_correct, if_neg c1, if_pos c2, if_neg c3]; done)) dX0_correct_83
    · refine q_aload0 C dX0_correct_47 ?_
      refine q_iconst (v := 1) C dX0_correct_48 (by decide) ?_
      refine q_iconst (v := 0) C dX0_correct_49 (by decide) ?_
      refine qc_VI C (c_X0_shift _ _ _ (by first | assumption | (unfold vp_in; decide) | decide | exact vp_in_nI (by omega) (by decide) | omega) (by first | assumption | (unfold vp_in; decide) | decide | exact vp_in_nI (by omega) (by decide) | omega)) cw_X0_78 rfl rfl rfl rfl (Nat.le_of_ble_eq_true rfl) ⟨(Nat.le_of_ble_eq_true rfl), (Nat.le_of_ble_eq_true rfl)⟩ ⟨Nat.zero_le _, Nat.zero_le _⟩ dX0_correct_50 ?_
      refine q_cut (f_X0_shift M (1 : Int32) (0 : Int32)).2 61 [none, none, none, none, none, none] [.int (if (f_X0_shift M (1 : Int32) (0 : Int32)).1 = 0 then (1 : Int32) else (2 : Int32))] (fun hJ => ?_) ?_
      · refine q_if_eq (tgt := 60) C dX0_correct_53 (by decide) (fun c5 => ?_) (fun c5 => ?_)
        · refine q_iconst (v := 1) C dX0_correct_60 (by decide) ?_
          refine q_drop [none, none, none, none, none, none] (by repeat' (first | exact trivial | rfl | constructor)) ?_
          (try simp only [if_pos c5] at hJ); exact hJ
        · refine q_iconst (v := 2) C dX0_correct_56 (by decide) ?_
          refine q_goto (tgt := 61) C dX0_correct_57 (by decide) ?_
          refine q_drop [none, none, none, none, none, none] (by repeat' (first | exact trivial | rfl | constructor)) ?_
          (try simp only [if_neg c5] at hJ); exact hJ
      exact q_iret C (by first | rfl | (rw [f_X0_correct, if_neg c1, if_neg c2]; done) | (rw [f_X0_correct, if_neg c1, if_neg c2]; rfl) | (simp only [f_X0_correct, if_neg c1, if_neg c2]; done)) (by first | rfl | (rw [f_X0_correct, if_neg c1, if_neg c2]; done) | (rw [f_X0_correct, if_neg c1, if_neg c2]; rfl) | (simp only [f_X0_correct, if_neg c1, if_neg c2]; done)) dX0_correct_61
  · refine q_iconst (v := 1) C dX0_correct_9 (by decide) ?_
    exact q_iret C (by first | rfl | (rw [f_X0_correct, if_pos c1]; done) | (rw [f_X0_correct, if_pos c1]; rfl) | (simp only [f_X0_correct, if_pos c1]; done)) (by first | rfl | (rw [f_X0_correct, if_pos c1]; done) | (rw [f_X0_correct, if_pos c1]; rfl) | (simp only [f_X0_correct, if_pos c1]; done)) dX0_correct_10
def b_X0_foldInto_2 (M : Mm) (i1 : Nat) (i2 : Nat) (z2 : Int64) : Int64 := (f_X6_fold z2 ((gI M (12 + i1) i2)).toInt64)
def b_X0_foldInto_1 (M : Mm) (i1 : Nat) (z1 : Int64) : Int64 := (f_X6_fold (itr (b_X0_foldInto_2 M i1) 4 z1) ((gI M 16 i1)).toInt64)
def f_X0_foldInto (M : Mm) (u1 : Int64) : Int64 := (itr (b_X0_foldInto_1 M) 4 u1)
set_option maxHeartbeats 4000000 in
set_option maxRecDepth 100000 in
theorem c_X0_foldInto (M : Mm) (u1 : Int64)  : MJ yX0_foldInto cX0_foldInto 7 (some .long) 1 23 (fun a => [.ref (a 2), .long u1]) M (f_X0_foldInto M u1) M := by
  refine MJ.intro (lv0 := fun a => [some (.ref (a 2)), some (.long u1), none, none, none, none, none]) (by decide) (fun a => ⟨(Nat.le_of_ble_eq_true rfl), rfl⟩) ?_
  intro p9 l9 e9 s9 m9 g9 b9 h9 c9 D9 A9 ct a C
  have C : Cx p9 s9 m9 g9 h9 c9 cX0_foldInto 7 RX0 (some .long) D9 A9 ct a := C
  refine q_lload1 C dX0_foldInto_0 ?_
  refine q_lstore3 C dX0_foldInto_1 (by decide) (by intro w h0 h; first | exact absurd rfl h0 | (cases h <;> rfl)) ?_
  refine q_iconst (v := 0) C dX0_foldInto_2 (by decide) ?_
  refine q_istore5 C dX0_foldInto_3 (by decide) (by intro w h0 h; first | exact absurd rfl h0 | (cases h <;> rfl)) ?_
  refine q_drop [some (.ref (a 2)), none, none, some (.long u1), none, some (.int (0 : Int32)), none] (by repeat' (first | exact trivial | rfl | constructor)) ?_
  refine q_loop 4 (b_X0_foldInto_1 M) (fun zz => M) (fun xx zz => [some (.ref (a 2)), none, none, some (.long zz), none, some (.int xx), none]) u1  (fun i1 z1 hi1 ih1 => ?_) ?_
  · refine q_iload5 C dX0_foldInto_5 ?_
    refine q_iconst (v := 4) C dX0_foldInto_7 (by decide) ?_
    refine q_icmp_ge (tgt := 61) C dX0_foldInto_8 (by decide) (fun c1 => absurd c1 (nI_ge (b := 4) (by omega) (by omega))) (fun c1 => ?_)
    refine q_iconst (v := 0) C dX0_foldInto_11 (by decide) ?_
    refine q_istore6 C dX0_foldInto_12 (by decide) (by intro w h0 h; first | exact absurd rfl h0 | (cases h <;> rfl)) ?_
    refine q_loop 4 (b_X0_foldInto_2 M i1) (fun zz => M) (fun xx zz => [some (.ref (a 2)), none, none, some (.long zz), none, some (.int (nI i1)), some (.int xx)]) z1  (fun i2 z2 hi2 ih2 => ?_) ?_
    · refine q_iload6 C dX0_foldInto_14 ?_
      refine q_iconst (v := 4) C dX0_foldInto_16 (by decide) ?_
      refine q_icmp_ge (tgt := 42) C dX0_foldInto_17 (by decide) (fun c2 => absurd c2 (nI_ge (b := 4) (by omega) (by omega))) (fun c2 => ?_)
      refine q_lload3 C dX0_foldInto_20 ?_
      refine q_aload0 C dX0_foldInto_21 ?_
      refine g_X0_11 C dX0_foldInto_22 ?_
      refine q_iload5 C dX0_foldInto_25 ?_
      refine q_aaldX (j := i1) C rfl (nI_clamp (by omega)) (by first | assumption | (unfold vp_in; decide) | exact vp_in_nI (by omega) (by decide) | exact vp_in_nI (by omega) (by omega)) dX0_foldInto_27 ?_
      refine q_iload6 C dX0_foldInto_28 ?_
      refine q_ialdX (j := i2) C (sh_12 (by first | omega | exact vin_lt (by assumption))) (nI_clamp (by omega)) (by first | assumption | (unfold vp_in; decide) | exact vp_in_nI (by omega) (by decide) | exact vp_in_nI (by omega) (by omega)) dX0_foldInto_30 ?_
      refine q_i2l C dX0_foldInto_31 ?_
      refine qc_NJ C (c_X6_fold _ _ _) nl_X0 ws_fold.1 ws_fold.2.1 ws_fold.2.2 hdy_fold rfl rfl (Nat.le_of_ble_eq_true rfl) ⟨(Nat.le_of_ble_eq_true rfl), (Nat.le_of_ble_eq_true rfl)⟩ ⟨Nat.zero_le _, Nat.zero_le _⟩ dX0_foldInto_32 ?_
      refine q_lstore3 C dX0_foldInto_35 (by decide) (by intro w h0 h; first | exact absurd rfl h0 | (cases h <;> rfl)) ?_
      refine q_iinc6 (dv := 1) C dX0_foldInto_36 (by decide) (by decide) (by intro w h0 h; first | exact absurd rfl h0 | (cases h <;> rfl)) ?_
      refine q_goto (tgt := 14) C dX0_foldInto_39 (by decide) ?_
      exact ih2
    refine q_iload6 C dX0_foldInto_14 ?_
    refine q_iconst (v := 4) C dX0_foldInto_16 (by decide) ?_
    refine q_icmp_ge (tgt := 42) C dX0_foldInto_17 (by decide) (fun c3 => ?_) (fun c3 => absurd (Int32.le_refl _) c3)
    refine q_lload3 C dX0_foldInto_42 ?_
    refine q_aload0 C dX0_foldInto_43 ?_
    refine g_X0_16 C dX0_foldInto_44 ?_
    refine q_iload5 C dX0_foldInto_47 ?_
    refine q_ialdX (j := i1) C rfl (nI_clamp (by omega)) (by first | assumption | (unfold vp_in; decide) | exact vp_in_nI (by omega) (by decide) | exact vp_in_nI (by omega) (by omega)) dX0_foldInto_49 ?_
    refine q_i2l C dX0_foldInto_50 ?_
    refine qc_NJ C (c_X6_fold _ _ _) nl_X0 ws_fold.1 ws_fold.2.1 ws_fold.2.2 hdy_fold rfl rfl (Nat.le_of_ble_eq_true rfl) ⟨(Nat.le_of_ble_eq_true rfl), (Nat.le_of_ble_eq_true rfl)⟩ ⟨Nat.zero_le _, Nat.zero_le _⟩ dX0_foldInto_51 ?_
    refine q_lstore3 C dX0_foldInto_54 (by decide) (by intro w h0 h; first | exact absurd rfl h0 | (cases h <;> rfl)) ?_
    refine q_iinc5 (dv := 1) C dX0_foldInto_55 (by decide) (by decide) (by intro w h0 h; first | exact absurd rfl h0 | (cases h <;> rfl)) ?_
    refine q_goto (tgt := 5) C dX0_foldInto_58 (by decide) ?_
    refine q_drop [some (.ref (a 2)), none, none, some (.long (f_X6_fold (itr (b_X0_foldInto_2 M i1) 4 z1) ((gI M 16 i1)).toInt64)), none, some (.int ((nI i1) + 1)), none] (by repeat' (first | exact trivial | rfl | constructor)) ?_
    exact ih1
  refine q_iload5 C dX0_foldInto_5 ?_
  refine q_iconst (v := 4) C dX0_foldInto_7 (by decide) ?_
  refine q_icmp_ge (tgt := 61) C dX0_foldInto_8 (by decide) (fun c4 => ?_) (fun c4 => absurd (Int32.le_refl _) c4)
  refine q_lload3 C dX0_foldInto_61 ?_
  exact q_lret C rfl rfl dX0_foldInto_62
end
