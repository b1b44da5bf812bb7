section
-- ===== PART A: goes FIRST, ahead of the names: the tables' words, and 'selects' of the private methods out of them =====
/-- a private method of a class that the tables say can be made, by its rows of tables_1 -/
def lw_okq (q : MethodName × Nat) : Prop := (q.1.cls ≠ "java/lang/invoke/MethodHandle" ∧ q.1.cls ≠ "java/lang/invoke/VarHandle") ∧ Cond.instantiable q.1.cls q.2 ∈ tables_1 ∧ Cond.privateMethod q.1 ∈ tables_1 ∧ Cond.instanceMethod q.1 ∈ tables_1
theorem lw_p0 : lw_okq (⟨"SwapGo", "hasSlotLeft", "(I)Z"⟩, 8) := ⟨⟨by decide +kernel, by decide +kernel⟩, List.mem_of_getElem? (i := 17) (by decide +kernel), List.mem_of_getElem? (i := 254) (by decide +kernel), List.mem_of_getElem? (i := 255) (by decide +kernel)⟩
theorem lw_p1 : lw_okq (⟨"SwapGo", "givenIn", "(I)I"⟩, 8) := ⟨⟨by decide +kernel, by decide +kernel⟩, List.mem_of_getElem? (i := 17) (by decide +kernel), List.mem_of_getElem? (i := 296) (by decide +kernel), List.mem_of_getElem? (i := 297) (by decide +kernel)⟩
theorem lw_p2 : lw_okq (⟨"SwapGo", "isReady", "(I)Z"⟩, 8) := ⟨⟨by decide +kernel, by decide +kernel⟩, List.mem_of_getElem? (i := 17) (by decide +kernel), List.mem_of_getElem? (i := 300) (by decide +kernel), List.mem_of_getElem? (i := 301) (by decide +kernel)⟩
theorem lw_p3 : lw_okq (⟨"SwapGo", "canComeBack", "(II)Z"⟩, 8) := ⟨⟨by decide +kernel, by decide +kernel⟩, List.mem_of_getElem? (i := 17) (by decide +kernel), List.mem_of_getElem? (i := 320) (by decide +kernel), List.mem_of_getElem? (i := 321) (by decide +kernel)⟩
theorem lw_p4 : lw_okq (⟨"SwapGo", "passHour", "()V"⟩, 8) := ⟨⟨by decide +kernel, by decide +kernel⟩, List.mem_of_getElem? (i := 17) (by decide +kernel), List.mem_of_getElem? (i := 341) (by decide +kernel), List.mem_of_getElem? (i := 342) (by decide +kernel)⟩
theorem lw_p5 : lw_okq (⟨"SwapGo", "priceNow", "()I"⟩, 8) := ⟨⟨by decide +kernel, by decide +kernel⟩, List.mem_of_getElem? (i := 17) (by decide +kernel), List.mem_of_getElem? (i := 345) (by decide +kernel), List.mem_of_getElem? (i := 346) (by decide +kernel)⟩
theorem lw_p6 : lw_okq (⟨"SwapGo", "chargeIn", "(II)V"⟩, 8) := ⟨⟨by decide +kernel, by decide +kernel⟩, List.mem_of_getElem? (i := 17) (by decide +kernel), List.mem_of_getElem? (i := 356) (by decide +kernel), List.mem_of_getElem? (i := 357) (by decide +kernel)⟩
theorem lw_p7 : lw_okq (⟨"SwapGo", "countReadyIn", "(I)I"⟩, 8) := ⟨⟨by decide +kernel, by decide +kernel⟩, List.mem_of_getElem? (i := 17) (by decide +kernel), List.mem_of_getElem? (i := 360) (by decide +kernel), List.mem_of_getElem? (i := 361) (by decide +kernel)⟩
theorem lw_p8 : lw_okq (⟨"SwapGo", "nextToCharge", "(I)I"⟩, 8) := ⟨⟨by decide +kernel, by decide +kernel⟩, List.mem_of_getElem? (i := 17) (by decide +kernel), List.mem_of_getElem? (i := 364) (by decide +kernel), List.mem_of_getElem? (i := 365) (by decide +kernel)⟩
theorem lw_p9 : lw_okq (⟨"SwapGo$ChargePlan", "begin", "([II)V"⟩, 7) := ⟨⟨by decide +kernel, by decide +kernel⟩, List.mem_of_getElem? (i := 116) (by decide +kernel), List.mem_of_getElem? (i := 411) (by decide +kernel), List.mem_of_getElem? (i := 412) (by decide +kernel)⟩
theorem lw_p10 : lw_okq (⟨"SwapGo$ChargePlan", "cheapestUnfilled", "()I"⟩, 7) := ⟨⟨by decide +kernel, by decide +kernel⟩, List.mem_of_getElem? (i := 116) (by decide +kernel), List.mem_of_getElem? (i := 416) (by decide +kernel), List.mem_of_getElem? (i := 417) (by decide +kernel)⟩
theorem lw_p11 : lw_okq (⟨"SwapGo$ChargePlan", "fill", "(II)V"⟩, 7) := ⟨⟨by decide +kernel, by decide +kernel⟩, List.mem_of_getElem? (i := 116) (by decide +kernel), List.mem_of_getElem? (i := 420) (by decide +kernel), List.mem_of_getElem? (i := 421) (by decide +kernel)⟩
theorem lw_p12 : lw_okq (⟨"SwapGo$ChargePlan", "keepDraft", "()I"⟩, 7) := ⟨⟨by decide +kernel, by decide +kernel⟩, List.mem_of_getElem? (i := 116) (by decide +kernel), List.mem_of_getElem? (i := 425) (by decide +kernel), List.mem_of_getElem? (i := 426) (by decide +kernel)⟩
theorem lw_p13 : lw_okq (⟨"SwapGo$VanRound", "extend", "(LSwapGo$Spots;IIIII)V"⟩, 8) := ⟨⟨by decide +kernel, by decide +kernel⟩, List.mem_of_getElem? (i := 147) (by decide +kernel), List.mem_of_getElem? (i := 453) (by decide +kernel), List.mem_of_getElem? (i := 454) (by decide +kernel)⟩
theorem lw_p14 : lw_okq (⟨"SwapGo$VanRound", "keepRow", "(I)V"⟩, 8) := ⟨⟨by decide +kernel, by decide +kernel⟩, List.mem_of_getElem? (i := 147) (by decide +kernel), List.mem_of_getElem? (i := 457) (by decide +kernel), List.mem_of_getElem? (i := 458) (by decide +kernel)⟩
theorem lw_p15 : lw_okq (⟨"SwapGo$NewPlaces", "measureCabinetWays", "(LSwapGo$Spots;)V"⟩, 4) := ⟨⟨by decide +kernel, by decide +kernel⟩, List.mem_of_getElem? (i := 180) (by decide +kernel), List.mem_of_getElem? (i := 486) (by decide +kernel), List.mem_of_getElem? (i := 487) (by decide +kernel)⟩
def lw_privs_1 : List (MethodName × Nat) := [(⟨"SwapGo", "hasSlotLeft", "(I)Z"⟩, 8), (⟨"SwapGo", "givenIn", "(I)I"⟩, 8), (⟨"SwapGo", "isReady", "(I)Z"⟩, 8), (⟨"SwapGo", "canComeBack", "(II)Z"⟩, 8), (⟨"SwapGo", "passHour", "()V"⟩, 8), (⟨"SwapGo", "priceNow", "()I"⟩, 8), (⟨"SwapGo", "chargeIn", "(II)V"⟩, 8), (⟨"SwapGo", "countReadyIn", "(I)I"⟩, 8), (⟨"SwapGo", "nextToCharge", "(I)I"⟩, 8), (⟨"SwapGo$ChargePlan", "begin", "([II)V"⟩, 7), (⟨"SwapGo$ChargePlan", "cheapestUnfilled", "()I"⟩, 7), (⟨"SwapGo$ChargePlan", "fill", "(II)V"⟩, 7), (⟨"SwapGo$ChargePlan", "keepDraft", "()I"⟩, 7), (⟨"SwapGo$VanRound", "extend", "(LSwapGo$Spots;IIIII)V"⟩, 8), (⟨"SwapGo$VanRound", "keepRow", "(I)V"⟩, 8), (⟨"SwapGo$NewPlaces", "measureCabinetWays", "(LSwapGo$Spots;)V"⟩, 4)]
theorem lw_r1 : ∀ q ∈ lw_privs_1, lw_okq q := List.forall_mem_cons.mpr ⟨lw_p0, List.forall_mem_cons.mpr ⟨lw_p1, List.forall_mem_cons.mpr ⟨lw_p2, List.forall_mem_cons.mpr ⟨lw_p3, List.forall_mem_cons.mpr ⟨lw_p4, List.forall_mem_cons.mpr ⟨lw_p5, List.forall_mem_cons.mpr ⟨lw_p6, List.forall_mem_cons.mpr ⟨lw_p7, List.forall_mem_cons.mpr ⟨lw_p8, List.forall_mem_cons.mpr ⟨lw_p9, List.forall_mem_cons.mpr ⟨lw_p10, List.forall_mem_cons.mpr ⟨lw_p11, List.forall_mem_cons.mpr ⟨lw_p12, List.forall_mem_cons.mpr ⟨lw_p13, List.forall_mem_cons.mpr ⟨lw_p14, List.forall_mem_cons.mpr ⟨lw_p15, fun _ h => absurd h List.not_mem_nil⟩⟩⟩⟩⟩⟩⟩⟩⟩⟩⟩⟩⟩⟩⟩⟩
theorem lw_p16 : lw_okq (⟨"SwapGo$NewPlaces", "sumOfWays", "(I)I"⟩, 4) := ⟨⟨by decide +kernel, by decide +kernel⟩, List.mem_of_getElem? (i := 180) (by decide +kernel), List.mem_of_getElem? (i := 498) (by decide +kernel), List.mem_of_getElem? (i := 499) (by decide +kernel)⟩
theorem lw_p17 : lw_okq (⟨"java/lang/Throwable", "fillInStackTrace", "(I)Ljava/lang/Throwable;"⟩, 6) := ⟨⟨by decide +kernel, by decide +kernel⟩, List.mem_of_getElem? (i := 553) (by decide +kernel), List.mem_of_getElem? (i := 551) (by decide +kernel), List.mem_of_getElem? (i := 552) (by decide +kernel)⟩
theorem lw_p18 : lw_okq (⟨"SwapGoModel", "isCabinet", "(I)Z"⟩, 30) := ⟨⟨by decide +kernel, by decide +kernel⟩, List.mem_of_getElem? (i := 584) (by decide +kernel), List.mem_of_getElem? (i := 696) (by decide +kernel), List.mem_of_getElem? (i := 697) (by decide +kernel)⟩
theorem lw_p19 : lw_okq (⟨"SwapGoModel", "hasSlot", "(I)Z"⟩, 30) := ⟨⟨by decide +kernel, by decide +kernel⟩, List.mem_of_getElem? (i := 584) (by decide +kernel), List.mem_of_getElem? (i := 700) (by decide +kernel), List.mem_of_getElem? (i := 701) (by decide +kernel)⟩
theorem lw_p20 : lw_okq (⟨"SwapGoModel", "inside", "(I)I"⟩, 30) := ⟨⟨by decide +kernel, by decide +kernel⟩, List.mem_of_getElem? (i := 584) (by decide +kernel), List.mem_of_getElem? (i := 704) (by decide +kernel), List.mem_of_getElem? (i := 705) (by decide +kernel)⟩
theorem lw_p21 : lw_okq (⟨"SwapGoModel", "isPack", "(I)Z"⟩, 30) := ⟨⟨by decide +kernel, by decide +kernel⟩, List.mem_of_getElem? (i := 584) (by decide +kernel), List.mem_of_getElem? (i := 727) (by decide +kernel), List.mem_of_getElem? (i := 728) (by decide +kernel)⟩
theorem lw_p22 : lw_okq (⟨"SwapGoModel", "given", "(I)I"⟩, 30) := ⟨⟨by decide +kernel, by decide +kernel⟩, List.mem_of_getElem? (i := 584) (by decide +kernel), List.mem_of_getElem? (i := 735) (by decide +kernel), List.mem_of_getElem? (i := 736) (by decide +kernel)⟩
theorem lw_p23 : lw_okq (⟨"SwapGoModel", "isReady", "(I)Z"⟩, 30) := ⟨⟨by decide +kernel, by decide +kernel⟩, List.mem_of_getElem? (i := 584) (by decide +kernel), List.mem_of_getElem? (i := 739) (by decide +kernel), List.mem_of_getElem? (i := 740) (by decide +kernel)⟩
theorem lw_p24 : lw_okq (⟨"SwapGoModel", "isFit", "(I)Z"⟩, 30) := ⟨⟨by decide +kernel, by decide +kernel⟩, List.mem_of_getElem? (i := 584) (by decide +kernel), List.mem_of_getElem? (i := 743) (by decide +kernel), List.mem_of_getElem? (i := 744) (by decide +kernel)⟩
theorem lw_p25 : lw_okq (⟨"SwapGoModel", "isAhead", "(II)Z"⟩, 30) := ⟨⟨by decide +kernel, by decide +kernel⟩, List.mem_of_getElem? (i := 584) (by decide +kernel), List.mem_of_getElem? (i := 747) (by decide +kernel), List.mem_of_getElem? (i := 748) (by decide +kernel)⟩
theorem lw_p26 : lw_okq (⟨"SwapGoModel", "mayCome", "(II)Z"⟩, 30) := ⟨⟨by decide +kernel, by decide +kernel⟩, List.mem_of_getElem? (i := 584) (by decide +kernel), List.mem_of_getElem? (i := 755) (by decide +kernel), List.mem_of_getElem? (i := 756) (by decide +kernel)⟩
theorem lw_p27 : lw_okq (⟨"SwapGoModel", "goHour", "()V"⟩, 30) := ⟨⟨by decide +kernel, by decide +kernel⟩, List.mem_of_getElem? (i := 584) (by decide +kernel), List.mem_of_getElem? (i := 771) (by decide +kernel), List.mem_of_getElem? (i := 772) (by decide +kernel)⟩
theorem lw_p28 : lw_okq (⟨"SwapGoModel", "line", "(I)I"⟩, 30) := ⟨⟨by decide +kernel, by decide +kernel⟩, List.mem_of_getElem? (i := 584) (by decide +kernel), List.mem_of_getElem? (i := 775) (by decide +kernel), List.mem_of_getElem? (i := 776) (by decide +kernel)⟩
theorem lw_p29 : lw_okq (⟨"SwapGoModel", "readyIn", "(I)I"⟩, 30) := ⟨⟨by decide +kernel, by decide +kernel⟩, List.mem_of_getElem? (i := 584) (by decide +kernel), List.mem_of_getElem? (i := 779) (by decide +kernel), List.mem_of_getElem? (i := 780) (by decide +kernel)⟩
theorem lw_p30 : lw_okq (⟨"SwapGoModel", "goOn", "(IIIIIII)V"⟩, 30) := ⟨⟨by decide +kernel, by decide +kernel⟩, List.mem_of_getElem? (i := 584) (by decide +kernel), List.mem_of_getElem? (i := 821) (by decide +kernel), List.mem_of_getElem? (i := 822) (by decide +kernel)⟩
theorem lw_p31 : lw_okq (⟨"SwapGoModel", "sumOf", "(I)I"⟩, 30) := ⟨⟨by decide +kernel, by decide +kernel⟩, List.mem_of_getElem? (i := 584) (by decide +kernel), List.mem_of_getElem? (i := 842) (by decide +kernel), List.mem_of_getElem? (i := 843) (by decide +kernel)⟩
def lw_privs_2 : List (MethodName × Nat) := [(⟨"SwapGo$NewPlaces", "sumOfWays", "(I)I"⟩, 4), (⟨"java/lang/Throwable", "fillInStackTrace", "(I)Ljava/lang/Throwable;"⟩, 6), (⟨"SwapGoModel", "isCabinet", "(I)Z"⟩, 30), (⟨"SwapGoModel", "hasSlot", "(I)Z"⟩, 30), (⟨"SwapGoModel", "inside", "(I)I"⟩, 30), (⟨"SwapGoModel", "isPack", "(I)Z"⟩, 30), (⟨"SwapGoModel", "given", "(I)I"⟩, 30), (⟨"SwapGoModel", "isReady", "(I)Z"⟩, 30), (⟨"SwapGoModel", "isFit", "(I)Z"⟩, 30), (⟨"SwapGoModel", "isAhead", "(II)Z"⟩, 30), (⟨"SwapGoModel", "mayCome", "(II)Z"⟩, 30), (⟨"SwapGoModel", "goHour", "()V"⟩, 30), (⟨"SwapGoModel", "line", "(I)I"⟩, 30), (⟨"SwapGoModel", "readyIn", "(I)I"⟩, 30), (⟨"SwapGoModel", "goOn", "(IIIIIII)V"⟩, 30), (⟨"SwapGoModel", "sumOf", "(I)I"⟩, 30)]
theorem lw_r2 : ∀ q ∈ lw_privs_2, lw_okq q := List.forall_mem_cons.mpr ⟨lw_p16, List.forall_mem_cons.mpr ⟨lw_p17, List.forall_mem_cons.mpr ⟨lw_p18, List.forall_mem_cons.mpr ⟨lw_p19, List.forall_mem_cons.mpr ⟨lw_p20, List.forall_mem_cons.mpr ⟨lw_p21, List.forall_mem_cons.mpr ⟨lw_p22, List.forall_mem_cons.mpr ⟨lw_p23, List.forall_mem_cons.mpr ⟨lw_p24, List.forall_mem_cons.mpr ⟨lw_p25, List.forall_mem_cons.mpr ⟨lw_p26, List.forall_mem_cons.mpr ⟨lw_p27, List.forall_mem_cons.mpr ⟨lw_p28, List.forall_mem_cons.mpr ⟨lw_p29, List.forall_mem_cons.mpr ⟨lw_p30, List.forall_mem_cons.mpr ⟨lw_p31, fun _ h => absurd h List.not_mem_nil⟩⟩⟩⟩⟩⟩⟩⟩⟩⟩⟩⟩⟩⟩⟩⟩
def lw_privs : List (MethodName × Nat) := lw_privs_1 ++ (lw_privs_2)
def lw_tbl : List Cond := k2_sels lw_privs ++ tables_1
theorem lw_privs_ok : ∀ q ∈ lw_privs, lw_okq q := by
  show ∀ q ∈ lw_privs_1 ++ (lw_privs_2), lw_okq q
  exact List.forall_mem_append.mpr ⟨lw_r1, lw_r2⟩
-- ===== end of PART A; then your names; then what follows =====
def RX0 : String := "SwapGo$Cabinets"
def TX0 : u_T := fun k => match k with
  | 0 => ("SwapGo$Cabinets", "spots", "LSwapGo$Spots;", true)
  | 1 => ("SwapGo$Cabinets", "slots", "[I", true)
  | 2 => ("SwapGo$Cabinets", "lines", "[I", true)
  | 3 => ("SwapGo$Cabinets", "needed", "[I", true)
  | 4 => ("SwapGo$Cabinets", "bill", "[I", true)
  | _ => ("SwapGo$Cabinets", "wished", "[I", true)
def tyX0 : Nat → FieldType := fun k => match k with
  | 0 => .object "SwapGo$Spots"
  | 1 => .array .int
  | 2 => .array .int
  | 3 => .array .int
  | 4 => .array .int
  | _ => .array .int
abbrev wsX00 : List Cond := u_ws RX0 TX0 6
theorem nmX0 : ∀ a, a < 6 → ∀ b, b < 6 → a ≠ b → (TX0 a).2.1 ≠ (TX0 b).2.1 := by decide +kernel
theorem tyX0_ok : ∀ k, k < 6 → parseFieldDescriptor (TX0 k).2.2.1 = some (tyX0 k) := by decide +kernel
abbrev cX0_init : ByteArray := prog_2_method_1_code
def yX0_init : MethodName := ⟨RX0, "<init>", "()V"⟩
abbrev cX0_size : ByteArray := prog_2_method_2_code
def yX0_size : MethodName := ⟨RX0, "size", "()I"⟩
abbrev cX0_has : ByteArray := prog_2_method_3_code
def yX0_has : MethodName := ⟨RX0, "has", "(I)Z"⟩
abbrev cX0_add : ByteArray := prog_2_method_4_code
def yX0_add : MethodName := ⟨RX0, "add", "(IIIII)I"⟩
def RX1 : String := "SwapGo$ChargePlan"
def TX1 : u_T := fun k => match k with
  | 0 => ("SwapGo$ChargePlan", "needs", "[I", true)
  | 1 => ("SwapGo$ChargePlan", "draft", "[I", true)
  | 2 => ("SwapGo$ChargePlan", "unmet", "[I", true)
  | 3 => ("SwapGo$ChargePlan", "hourPrices", "[I", true)
  | 4 => ("SwapGo$ChargePlan", "kept", "[I", true)
  | 5 => ("SwapGo$ChargePlan", "size", "I", false)
  | _ => ("SwapGo$ChargePlan", "keptSize", "I", false)
def tyX1 : Nat → FieldType := fun k => match k with
  | 0 => .array .int
  | 1 => .array .int
  | 2 => .array .int
  | 3 => .array .int
  | 4 => .array .int
  | 5 => .int
  | _ => .int
abbrev wsX10 : List Cond := u_ws RX1 TX1 7
theorem nmX1 : ∀ a, a < 7 → ∀ b, b < 7 → a ≠ b → (TX1 a).2.1 ≠ (TX1 b).2.1 := by decide +kernel
theorem tyX1_ok : ∀ k, k < 7 → parseFieldDescriptor (TX1 k).2.2.1 = some (tyX1 k) := by decide +kernel
abbrev cX1_init : ByteArray := prog_3_method_1_code
def yX1_init : MethodName := ⟨RX1, "<init>", "()V"⟩
abbrev cX1_addNeed : ByteArray := prog_3_method_2_code
def yX1_addNeed : MethodName := ⟨RX1, "addNeed", "(I)I"⟩
abbrev cX1_keepLeast : ByteArray := prog_3_method_3_code
def yX1_keepLeast : MethodName := ⟨RX1, "keepLeast", "([III)I"⟩
abbrev cX1_begin : ByteArray := prog_3_method_4_code
def yX1_begin : MethodName := ⟨RX1, "begin", "([II)V"⟩
abbrev cX1_cheapestUnfilled : ByteArray := prog_3_method_5_code
def yX1_cheapestUnfilled : MethodName := ⟨RX1, "cheapestUnfilled", "()I"⟩
abbrev cX1_fill : ByteArray := prog_3_method_6_code
def yX1_fill : MethodName := ⟨RX1, "fill", "(II)V"⟩
abbrev cX1_keepDraft : ByteArray := prog_3_method_7_code
def yX1_keepDraft : MethodName := ⟨RX1, "keepDraft", "()I"⟩
def RX2 : String := "SwapGo$NewPlaces"
def TX2 : u_T := fun k => match k with
  | 0 => ("SwapGo$NewPlaces", "riders", "LSwapGo$Spots;", true)
  | 1 => ("SwapGo$NewPlaces", "sites", "LSwapGo$Spots;", true)
  | 2 => ("SwapGo$NewPlaces", "cabinetWays", "[I", true)
  | _ => ("SwapGo$NewPlaces", "kept", "I", false)
def tyX2 : Nat → FieldType := fun k => match k with
  | 0 => .object "SwapGo$Spots"
  | 1 => .object "SwapGo$Spots"
  | 2 => .array .int
  | _ => .int
abbrev wsX20 : List Cond := u_ws RX2 TX2 4
theorem nmX2 : ∀ a, a < 4 → ∀ b, b < 4 → a ≠ b → (TX2 a).2.1 ≠ (TX2 b).2.1 := by decide +kernel
theorem tyX2_ok : ∀ k, k < 4 → parseFieldDescriptor (TX2 k).2.2.1 = some (tyX2 k) := by decide +kernel
abbrev cX2_init : ByteArray := prog_4_method_1_code
def yX2_init : MethodName := ⟨RX2, "<init>", "()V"⟩
abbrev cX2_keepBest : ByteArray := prog_4_method_2_code
def yX2_keepBest : MethodName := ⟨RX2, "keepBest", "(ILSwapGo$Spots;)I"⟩
abbrev cX2_isFirstRow : ByteArray := prog_4_method_3_code
def yX2_isFirstRow : MethodName := ⟨RX2, "isFirstRow", "(II)Z"⟩
abbrev cX2_measureCabinetWays : ByteArray := prog_4_method_4_code
def yX2_measureCabinetWays : MethodName := ⟨RX2, "measureCabinetWays", "(LSwapGo$Spots;)V"⟩
abbrev cX2_sumOfWays : ByteArray := prog_4_method_5_code
def yX2_sumOfWays : MethodName := ⟨RX2, "sumOfWays", "(I)I"⟩
def RX3 : String := "SwapGo$Packs"
def TX3 : u_T := fun k => match k with
  | 0 => ("SwapGo$Packs", "charge", "[I", true)
  | 1 => ("SwapGo$Packs", "age", "[I", true)
  | 2 => ("SwapGo$Packs", "sickness", "[Z", true)
  | 3 => ("SwapGo$Packs", "home", "[I", true)
  | 4 => ("SwapGo$Packs", "lastHour", "[I", true)
  | _ => ("SwapGo$Packs", "size", "I", false)
def tyX3 : Nat → FieldType := fun k => match k with
  | 0 => .array .int
  | 1 => .array .int
  | 2 => .array .boolean
  | 3 => .array .int
  | 4 => .array .int
  | _ => .int
abbrev wsX30 : List Cond := u_ws RX3 TX3 6
theorem nmX3 : ∀ a, a < 6 → ∀ b, b < 6 → a ≠ b → (TX3 a).2.1 ≠ (TX3 b).2.1 := by decide +kernel
theorem tyX3_ok : ∀ k, k < 6 → parseFieldDescriptor (TX3 k).2.2.1 = some (tyX3 k) := by decide +kernel
abbrev cX3_init : ByteArray := prog_5_method_1_code
def yX3_init : MethodName := ⟨RX3, "<init>", "()V"⟩
abbrev cX3_has : ByteArray := prog_5_method_2_code
def yX3_has : MethodName := ⟨RX3, "has", "(I)Z"⟩
abbrev cX3_add : ByteArray := prog_5_method_3_code
def yX3_add : MethodName := ⟨RX3, "add", "(II)I"⟩
abbrev cX3_isOut : ByteArray := prog_5_method_4_code
def yX3_isOut : MethodName := ⟨RX3, "isOut", "(I)Z"⟩
abbrev cX3_isFit : ByteArray := prog_5_method_5_code
def yX3_isFit : MethodName := ⟨RX3, "isFit", "(II)Z"⟩
abbrev cX3_former : ByteArray := prog_5_method_6_code
def yX3_former : MethodName := ⟨RX3, "former", "(II)I"⟩
abbrev cX3_comeBack : ByteArray := prog_5_method_7_code
def yX3_comeBack : MethodName := ⟨RX3, "comeBack", "(III)V"⟩
abbrev cX3_load : ByteArray := prog_5_method_8_code
def yX3_load : MethodName := ⟨RX3, "load", "(III)V"⟩
abbrev cX3_countIn : ByteArray := prog_5_method_9_code
def yX3_countIn : MethodName := ⟨RX3, "countIn", "(I)I"⟩
abbrev cX3_countSick : ByteArray := prog_5_method_10_code
def yX3_countSick : MethodName := ⟨RX3, "countSick", "()I"⟩
abbrev cX3_countOld : ByteArray := prog_5_method_11_code
def yX3_countOld : MethodName := ⟨RX3, "countOld", "(I)I"⟩
def RX4 : String := "SwapGo$Spots"
def TX4 : u_T := fun k => match k with
  | 0 => ("SwapGo$Spots", "xs", "[I", true)
  | 1 => ("SwapGo$Spots", "ys", "[I", true)
  | _ => ("SwapGo$Spots", "size", "I", false)
def tyX4 : Nat → FieldType := fun k => match k with
  | 0 => .array .int
  | 1 => .array .int
  | _ => .int
abbrev wsX40 : List Cond := u_ws RX4 TX4 3
theorem nmX4 : ∀ a, a < 3 → ∀ b, b < 3 → a ≠ b → (TX4 a).2.1 ≠ (TX4 b).2.1 := by decide +kernel
theorem tyX4_ok : ∀ k, k < 3 → parseFieldDescriptor (TX4 k).2.2.1 = some (tyX4 k) := by decide +kernel
abbrev cX4_init : ByteArray := prog_6_method_1_code
def yX4_init : MethodName := ⟨RX4, "<init>", "(I)V"⟩
abbrev cX4_add : ByteArray := prog_6_method_2_code
def yX4_add : MethodName := ⟨RX4, "add", "(II)I"⟩
abbrev cX4_distance : ByteArray := prog_6_method_3_code
def yX4_distance : MethodName := ⟨RX4, "distance", "(III)I"⟩
def RX5 : String := "SwapGo$VanRound"
def TX5 : u_T := fun k => match k with
  | 0 => ("SwapGo$VanRound", "surplus", "[I", true)
  | 1 => ("SwapGo$VanRound", "isVisited", "[Z", true)
  | 2 => ("SwapGo$VanRound", "row", "[I", true)
  | 3 => ("SwapGo$VanRound", "kept", "[I", true)
  | 4 => ("SwapGo$VanRound", "keptSize", "I", false)
  | 5 => ("SwapGo$VanRound", "van", "I", false)
  | 6 => ("SwapGo$VanRound", "stops", "I", false)
  | _ => ("SwapGo$VanRound", "shortest", "I", false)
def tyX5 : Nat → FieldType := fun k => match k with
  | 0 => .array .int
  | 1 => .array .boolean
  | 2 => .array .int
  | 3 => .array .int
  | 4 => .int
  | 5 => .int
  | 6 => .int
  | _ => .int
abbrev wsX50 : List Cond := u_ws RX5 TX5 8
theorem nmX5 : ∀ a, a < 8 → ∀ b, b < 8 → a ≠ b → (TX5 a).2.1 ≠ (TX5 b).2.1 := by decide +kernel
theorem tyX5_ok : ∀ k, k < 8 → parseFieldDescriptor (TX5 k).2.2.1 = some (tyX5 k) := by decide +kernel
abbrev cX5_init : ByteArray := prog_7_method_1_code
def yX5_init : MethodName := ⟨RX5, "<init>", "()V"⟩
abbrev cX5_begin : ByteArray := prog_7_method_2_code
def yX5_begin : MethodName := ⟨RX5, "begin", "(I)V"⟩
abbrev cX5_addSurplus : ByteArray := prog_7_method_3_code
def yX5_addSurplus : MethodName := ⟨RX5, "addSurplus", "(II)V"⟩
abbrev cX5_keepShortest : ByteArray := prog_7_method_4_code
def yX5_keepShortest : MethodName := ⟨RX5, "keepShortest", "(LSwapGo$Spots;)I"⟩
abbrev cX5_extend : ByteArray := prog_7_method_5_code
def yX5_extend : MethodName := ⟨RX5, "extend", "(LSwapGo$Spots;IIIII)V"⟩
abbrev cX5_keepRow : ByteArray := prog_7_method_6_code
def yX5_keepRow : MethodName := ⟨RX5, "keepRow", "(I)V"⟩
def RX6 : String := "SwapGo"
def TX6 : u_T := fun k => match k with
  | 0 => ("SwapGo", "settings", "[I", true)
  | 1 => ("SwapGo", "prices", "[I", true)
  | 2 => ("SwapGo", "cabinets", "LSwapGo$Cabinets;", true)
  | 3 => ("SwapGo", "packs", "LSwapGo$Packs;", true)
  | 4 => ("SwapGo", "chargePlan", "LSwapGo$ChargePlan;", true)
  | 5 => ("SwapGo", "vanRound", "LSwapGo$VanRound;", true)
  | 6 => ("SwapGo", "newPlaces", "LSwapGo$NewPlaces;", true)
  | _ => ("SwapGo", "hour", "I", false)
def tyX6 : Nat → FieldType := fun k => match k with
  | 0 => .array .int
  | 1 => .array .int
  | 2 => .object "SwapGo$Cabinets"
  | 3 => .object "SwapGo$Packs"
  | 4 => .object "SwapGo$ChargePlan"
  | 5 => .object "SwapGo$VanRound"
  | 6 => .object "SwapGo$NewPlaces"
  | _ => .int
abbrev wsX60 : List Cond := u_ws RX6 TX6 8
theorem nmX6 : ∀ a, a < 8 → ∀ b, b < 8 → a ≠ b → (TX6 a).2.1 ≠ (TX6 b).2.1 := by decide +kernel
theorem tyX6_ok : ∀ k, k < 8 → parseFieldDescriptor (TX6 k).2.2.1 = some (tyX6 k) := by decide +kernel
abbrev cX6_init : ByteArray := prog_1_method_1_code
def yX6_init : MethodName := ⟨RX6, "<init>", "()V"⟩
abbrev cX6_cabinet : ByteArray := prog_1_method_2_code
def yX6_cabinet : MethodName := ⟨RX6, "cabinet", "(IIIII)I"⟩
abbrev cX6_pack : ByteArray := prog_1_method_3_code
def yX6_pack : MethodName := ⟨RX6, "pack", "(II)I"⟩
abbrev cX6_set : ByteArray := prog_1_method_4_code
def yX6_set : MethodName := ⟨RX6, "set", "(II)I"⟩
abbrev cX6_price : ByteArray := prog_1_method_5_code
def yX6_price : MethodName := ⟨RX6, "price", "(II)Z"⟩
abbrev cX6_sick : ByteArray := prog_1_method_6_code
def yX6_sick : MethodName := ⟨RX6, "sick", "(IZ)Z"⟩
abbrev cX6_take : ByteArray := prog_1_method_7_code
def yX6_take : MethodName := ⟨RX6, "take", "(I)I"⟩
abbrev cX6_swap : ByteArray := prog_1_method_8_code
def yX6_swap : MethodName := ⟨RX6, "swap", "(III)I"⟩
abbrev cX6_bring : ByteArray := prog_1_method_9_code
def yX6_bring : MethodName := ⟨RX6, "bring", "(III)I"⟩
abbrev cX6_move : ByteArray := prog_1_method_10_code
def yX6_move : MethodName := ⟨RX6, "move", "(II)Z"⟩
abbrev cX6_run : ByteArray := prog_1_method_11_code
def yX6_run : MethodName := ⟨RX6, "run", "(I)I"⟩
abbrev cX6_count : ByteArray := prog_1_method_12_code
def yX6_count : MethodName := ⟨RX6, "count", "(I)I"⟩
abbrev cX6_of : ByteArray := prog_1_method_13_code
def yX6_of : MethodName := ⟨RX6, "of", "(II)I"⟩
abbrev cX6_in : ByteArray := prog_1_method_14_code
def yX6_in : MethodName := ⟨RX6, "in", "(II)I"⟩
abbrev cX6_need : ByteArray := prog_1_method_15_code
def yX6_need : MethodName := ⟨RX6, "need", "(I)I"⟩
abbrev cX6_clear : ByteArray := prog_1_method_16_code
def yX6_clear : MethodName := ⟨RX6, "clear", "()I"⟩
abbrev cX6_plan : ByteArray := prog_1_method_17_code
def yX6_plan : MethodName := ⟨RX6, "plan", "(I)I"⟩
abbrev cX6_planned : ByteArray := prog_1_method_18_code
def yX6_planned : MethodName := ⟨RX6, "planned", "(I)I"⟩
abbrev cX6_wish : ByteArray := prog_1_method_19_code
def yX6_wish : MethodName := ⟨RX6, "wish", "(II)Z"⟩
abbrev cX6_round : ByteArray := prog_1_method_20_code
def yX6_round : MethodName := ⟨RX6, "round", "()I"⟩
abbrev cX6_stop : ByteArray := prog_1_method_21_code
def yX6_stop : MethodName := ⟨RX6, "stop", "(I)I"⟩
abbrev cX6_point : ByteArray := prog_1_method_22_code
def yX6_point : MethodName := ⟨RX6, "point", "(III)I"⟩
abbrev cX6_places : ByteArray := prog_1_method_23_code
def yX6_places : MethodName := ⟨RX6, "places", "(I)I"⟩
abbrev cX6_chosen : ByteArray := prog_1_method_24_code
def yX6_chosen : MethodName := ⟨RX6, "chosen", "()I"⟩
abbrev cX6_isWithin : ByteArray := prog_1_method_25_code
def yX6_isWithin : MethodName := ⟨RX6, "isWithin", "(III)Z"⟩
abbrev cX6_isInTown : ByteArray := prog_1_method_26_code
def yX6_isInTown : MethodName := ⟨RX6, "isInTown", "(II)Z"⟩
abbrev cX6_hasSlotLeft : ByteArray := prog_1_method_27_code
def yX6_hasSlotLeft : MethodName := ⟨RX6, "hasSlotLeft", "(I)Z"⟩
abbrev cX6_canComeBack : ByteArray := prog_1_method_28_code
def yX6_canComeBack : MethodName := ⟨RX6, "canComeBack", "(II)Z"⟩
abbrev cX6_isReady : ByteArray := prog_1_method_29_code
def yX6_isReady : MethodName := ⟨RX6, "isReady", "(I)Z"⟩
abbrev cX6_countReadyIn : ByteArray := prog_1_method_30_code
def yX6_countReadyIn : MethodName := ⟨RX6, "countReadyIn", "(I)I"⟩
abbrev cX6_givenIn : ByteArray := prog_1_method_31_code
def yX6_givenIn : MethodName := ⟨RX6, "givenIn", "(I)I"⟩
abbrev cX6_priceNow : ByteArray := prog_1_method_32_code
def yX6_priceNow : MethodName := ⟨RX6, "priceNow", "()I"⟩
abbrev cX6_passHour : ByteArray := prog_1_method_33_code
def yX6_passHour : MethodName := ⟨RX6, "passHour", "()V"⟩
abbrev cX6_chargeIn : ByteArray := prog_1_method_34_code
def yX6_chargeIn : MethodName := ⟨RX6, "chargeIn", "(II)V"⟩
abbrev cX6_nextToCharge : ByteArray := prog_1_method_35_code
def yX6_nextToCharge : MethodName := ⟨RX6, "nextToCharge", "(I)I"⟩
def RX7 : String := "SwapGoModel"
def TX7 : u_T := fun k => match k with
  | 0 => ("SwapGoModel", "cabinets", "[I", true)
  | 1 => ("SwapGoModel", "cabinetMany", "I", false)
  | 2 => ("SwapGoModel", "charge", "[I", true)
  | 3 => ("SwapGoModel", "age", "[I", true)
  | 4 => ("SwapGoModel", "where", "[I", true)
  | 5 => ("SwapGoModel", "sick", "[Z", true)
  | 6 => ("SwapGoModel", "packs", "I", false)
  | 7 => ("SwapGoModel", "numbers", "[I", true)
  | 8 => ("SwapGoModel", "prices", "[I", true)
  | 9 => ("SwapGoModel", "hour", "I", false)
  | 10 => ("SwapGoModel", "needs", "[I", true)
  | 11 => ("SwapGoModel", "needMany", "I", false)
  | 12 => ("SwapGoModel", "plan", "[I", true)
  | 13 => ("SwapGoModel", "planMany", "I", false)
  | 14 => ("SwapGoModel", "round", "[I", true)
  | 15 => ("SwapGoModel", "roundMany", "I", false)
  | 16 => ("SwapGoModel", "px", "[I", true)
  | 17 => ("SwapGoModel", "py", "[I", true)
  | 18 => ("SwapGoModel", "points", "I", false)
  | 19 => ("SwapGoModel", "qx", "[I", true)
  | 20 => ("SwapGoModel", "qy", "[I", true)
  | 21 => ("SwapGoModel", "places", "I", false)
  | 22 => ("SwapGoModel", "chosen", "I", false)
  | 23 => ("SwapGoModel", "thrown", "I", false)
  | 24 => ("SwapGoModel", "isDone", "[Z", true)
  | 25 => ("SwapGoModel", "row", "[I", true)
  | 26 => ("SwapGoModel", "rest", "[I", true)
  | 27 => ("SwapGoModel", "tryRow", "[I", true)
  | 28 => ("SwapGoModel", "bestRow", "[I", true)
  | _ => ("SwapGoModel", "bestLength", "I", false)
def tyX7 : Nat → FieldType := fun k => match k with
  | 0 => .array .int
  | 1 => .int
  | 2 => .array .int
  | 3 => .array .int
  | 4 => .array .int
  | 5 => .array .boolean
  | 6 => .int
  | 7 => .array .int
  | 8 => .array .int
  | 9 => .int
  | 10 => .array .int
  | 11 => .int
  | 12 => .array .int
  | 13 => .int
  | 14 => .array .int
  | 15 => .int
  | 16 => .array .int
  | 17 => .array .int
  | 18 => .int
  | 19 => .array .int
  | 20 => .array .int
  | 21 => .int
  | 22 => .int
  | 23 => .int
  | 24 => .array .boolean
  | 25 => .array .int
  | 26 => .array .int
  | 27 => .array .int
  | 28 => .array .int
  | _ => .int
abbrev wsX70 : List Cond := u_ws RX7 TX7 30
theorem nmX7 : ∀ a, a < 30 → ∀ b, b < 30 → a ≠ b → (TX7 a).2.1 ≠ (TX7 b).2.1 := by decide +kernel
theorem tyX7_ok : ∀ k, k < 30 → parseFieldDescriptor (TX7 k).2.2.1 = some (tyX7 k) := by decide +kernel
abbrev cX7_init : ByteArray := prog_9_method_1_code
def yX7_init : MethodName := ⟨RX7, "<init>", "()V"⟩
abbrev cX7_thrown : ByteArray := prog_9_method_2_code
def yX7_thrown : MethodName := ⟨RX7, "thrown", "()I"⟩
abbrev cX7_in : ByteArray := prog_9_method_3_code
def yX7_in : MethodName := ⟨RX7, "in", "(III)Z"⟩
abbrev cX7_isCabinet : ByteArray := prog_9_method_4_code
def yX7_isCabinet : MethodName := ⟨RX7, "isCabinet", "(I)Z"⟩
abbrev cX7_isPack : ByteArray := prog_9_method_5_code
def yX7_isPack : MethodName := ⟨RX7, "isPack", "(I)Z"⟩
abbrev cX7_inside : ByteArray := prog_9_method_6_code
def yX7_inside : MethodName := ⟨RX7, "inside", "(I)I"⟩
abbrev cX7_hasSlot : ByteArray := prog_9_method_7_code
def yX7_hasSlot : MethodName := ⟨RX7, "hasSlot", "(I)Z"⟩
abbrev cX7_isFit : ByteArray := prog_9_method_8_code
def yX7_isFit : MethodName := ⟨RX7, "isFit", "(I)Z"⟩
abbrev cX7_isReady : ByteArray := prog_9_method_9_code
def yX7_isReady : MethodName := ⟨RX7, "isReady", "(I)Z"⟩
abbrev cX7_readyIn : ByteArray := prog_9_method_10_code
def yX7_readyIn : MethodName := ⟨RX7, "readyIn", "(I)I"⟩
abbrev cX7_isAhead : ByteArray := prog_9_method_11_code
def yX7_isAhead : MethodName := ⟨RX7, "isAhead", "(II)Z"⟩
abbrev cX7_given : ByteArray := prog_9_method_12_code
def yX7_given : MethodName := ⟨RX7, "given", "(I)I"⟩
abbrev cX7_cabinet : ByteArray := prog_9_method_13_code
def yX7_cabinet : MethodName := ⟨RX7, "cabinet", "(IIIII)I"⟩
abbrev cX7_pack : ByteArray := prog_9_method_14_code
def yX7_pack : MethodName := ⟨RX7, "pack", "(II)I"⟩
abbrev cX7_leastOf : ByteArray := prog_9_method_15_code
def yX7_leastOf : MethodName := ⟨RX7, "leastOf", "(I)I"⟩
abbrev cX7_mostOf : ByteArray := prog_9_method_16_code
def yX7_mostOf : MethodName := ⟨RX7, "mostOf", "(I)I"⟩
abbrev cX7_set : ByteArray := prog_9_method_17_code
def yX7_set : MethodName := ⟨RX7, "set", "(II)I"⟩
abbrev cX7_price : ByteArray := prog_9_method_18_code
def yX7_price : MethodName := ⟨RX7, "price", "(II)Z"⟩
abbrev cX7_sick : ByteArray := prog_9_method_19_code
def yX7_sick : MethodName := ⟨RX7, "sick", "(IZ)Z"⟩
abbrev cX7_take : ByteArray := prog_9_method_20_code
def yX7_take : MethodName := ⟨RX7, "take", "(I)I"⟩
abbrev cX7_mayCome : ByteArray := prog_9_method_21_code
def yX7_mayCome : MethodName := ⟨RX7, "mayCome", "(II)Z"⟩
abbrev cX7_swap : ByteArray := prog_9_method_22_code
def yX7_swap : MethodName := ⟨RX7, "swap", "(III)I"⟩
abbrev cX7_bring : ByteArray := prog_9_method_23_code
def yX7_bring : MethodName := ⟨RX7, "bring", "(III)I"⟩
abbrev cX7_move : ByteArray := prog_9_method_24_code
def yX7_move : MethodName := ⟨RX7, "move", "(II)Z"⟩
abbrev cX7_line : ByteArray := prog_9_method_25_code
def yX7_line : MethodName := ⟨RX7, "line", "(I)I"⟩
abbrev cX7_goHour : ByteArray := prog_9_method_26_code
def yX7_goHour : MethodName := ⟨RX7, "goHour", "()V"⟩
abbrev cX7_run : ByteArray := prog_9_method_27_code
def yX7_run : MethodName := ⟨RX7, "run", "(I)I"⟩
abbrev cX7_count : ByteArray := prog_9_method_28_code
def yX7_count : MethodName := ⟨RX7, "count", "(I)I"⟩
abbrev cX7_of : ByteArray := prog_9_method_29_code
def yX7_of : MethodName := ⟨RX7, "of", "(II)I"⟩
abbrev cX7_in_ : ByteArray := prog_9_method_30_code
def yX7_in_ : MethodName := ⟨RX7, "in", "(II)I"⟩
abbrev cX7_need : ByteArray := prog_9_method_31_code
def yX7_need : MethodName := ⟨RX7, "need", "(I)I"⟩
abbrev cX7_clear : ByteArray := prog_9_method_32_code
def yX7_clear : MethodName := ⟨RX7, "clear", "()I"⟩
abbrev cX7_plan : ByteArray := prog_9_method_33_code
def yX7_plan : MethodName := ⟨RX7, "plan", "(I)I"⟩
abbrev cX7_planned : ByteArray := prog_9_method_34_code
def yX7_planned : MethodName := ⟨RX7, "planned", "(I)I"⟩
abbrev cX7_wish : ByteArray := prog_9_method_35_code
def yX7_wish : MethodName := ⟨RX7, "wish", "(II)Z"⟩
abbrev cX7_away : ByteArray := prog_9_method_36_code
def yX7_away : MethodName := ⟨RX7, "away", "(IIII)I"⟩
abbrev cX7_goOn : ByteArray := prog_9_method_37_code
def yX7_goOn : MethodName := ⟨RX7, "goOn", "(IIIIIII)V"⟩
abbrev cX7_round : ByteArray := prog_9_method_38_code
def yX7_round : MethodName := ⟨RX7, "round", "()I"⟩
abbrev cX7_stop : ByteArray := prog_9_method_39_code
def yX7_stop : MethodName := ⟨RX7, "stop", "(I)I"⟩
abbrev cX7_point : ByteArray := prog_9_method_40_code
def yX7_point : MethodName := ⟨RX7, "point", "(III)I"⟩
abbrev cX7_sumOf : ByteArray := prog_9_method_41_code
def yX7_sumOf : MethodName := ⟨RX7, "sumOf", "(I)I"⟩
abbrev cX7_isFirst : ByteArray := prog_9_method_42_code
def yX7_isFirst : MethodName := ⟨RX7, "isFirst", "(II)Z"⟩
abbrev cX7_places : ByteArray := prog_9_method_43_code
def yX7_places : MethodName := ⟨RX7, "places", "(I)I"⟩
abbrev cX7_chosen : ByteArray := prog_9_method_44_code
def yX7_chosen : MethodName := ⟨RX7, "chosen", "()I"⟩
def RJ6 : String := "java/lang/Integer"
def TJ6 : u_T := fun k => match k with
  | _ => ("", "", "", false)
def tyJ6 : Nat → FieldType := fun k => match k with
  | _ => .int
abbrev wsJ60 : List Cond := u_ws RJ6 TJ6 0
theorem nmJ6 : ∀ a, a < 0 → ∀ b, b < 0 → a ≠ b → (TJ6 a).2.1 ≠ (TJ6 b).2.1 := by decide +kernel
theorem tyJ6_ok : ∀ k, k < 0 → parseFieldDescriptor (TJ6 k).2.2.1 = some (tyJ6 k) := by decide +kernel
abbrev cJ6_numberOfTrailingZeros_0f7a4 : ByteArray := prog_11_method_48_code
def yJ6_numberOfTrailingZeros_0f7a4 : MethodName := ⟨RJ6, "numberOfTrailingZeros", "(I)I"⟩
abbrev cJ6_bitCount_0f7a4 : ByteArray := prog_11_method_49_code
def yJ6_bitCount_0f7a4 : MethodName := ⟨RJ6, "bitCount", "(I)I"⟩
def RJ9 : String := "java/lang/Math"
def TJ9 : u_T := fun k => match k with
  | _ => ("", "", "", false)
def tyJ9 : Nat → FieldType := fun k => match k with
  | _ => .int
abbrev wsJ90 : List Cond := u_ws RJ9 TJ9 0
theorem nmJ9 : ∀ a, a < 0 → ∀ b, b < 0 → a ≠ b → (TJ9 a).2.1 ≠ (TJ9 b).2.1 := by decide +kernel
theorem tyJ9_ok : ∀ k, k < 0 → parseFieldDescriptor (TJ9 k).2.2.1 = some (tyJ9 k) := by decide +kernel
abbrev cJ9_floorMod_7cf53 : ByteArray := prog_12_method_50_code
def yJ9_floorMod_7cf53 : MethodName := ⟨RJ9, "floorMod", "(II)I"⟩
abbrev cJ9_abs_0f7a4 : ByteArray := prog_12_method_59_code
def yJ9_abs_0f7a4 : MethodName := ⟨RJ9, "abs", "(I)I"⟩
abbrev cJ9_max_7cf53 : ByteArray := prog_12_method_65_code
def yJ9_max_7cf53 : MethodName := ⟨RJ9, "max", "(II)I"⟩
abbrev cJ9_min_7cf53 : ByteArray := prog_12_method_69_code
def yJ9_min_7cf53 : MethodName := ⟨RJ9, "min", "(II)I"⟩
def RJ0 : String := "java/lang/String"
def TJ0 : u_T := fun k => match k with
  | _ => ("", "", "", false)
def tyJ0 : Nat → FieldType := fun k => match k with
  | _ => .int
abbrev wsJ00 : List Cond := u_ws RJ0 TJ0 0
theorem nmJ0 : ∀ a, a < 0 → ∀ b, b < 0 → a ≠ b → (TJ0 a).2.1 ≠ (TJ0 b).2.1 := by decide +kernel
theorem tyJ0_ok : ∀ k, k < 0 → parseFieldDescriptor (TJ0 k).2.2.1 = some (tyJ0 k) := by decide +kernel
def RJ7 : String := "java/util/Arrays"
def TJ7 : u_T := fun k => match k with
  | _ => ("", "", "", false)
def tyJ7 : Nat → FieldType := fun k => match k with
  | _ => .int
abbrev wsJ70 : List Cond := u_ws RJ7 TJ7 0
theorem nmJ7 : ∀ a, a < 0 → ∀ b, b < 0 → a ≠ b → (TJ7 a).2.1 ≠ (TJ7 b).2.1 := by decide +kernel
theorem tyJ7_ok : ∀ k, k < 0 → parseFieldDescriptor (TJ7 k).2.2.1 = some (tyJ7 k) := by decide +kernel
abbrev cJ7_fill_53178 : ByteArray := prog_16_method_103_code
def yJ7_fill_53178 : MethodName := ⟨RJ7, "fill", "([II)V"⟩
def RL : String := "SwapGoLaw"
abbrev cL_of : ByteArray := method_3_code
def yL_of : MethodName := ⟨RL, "of", "(LSwapGo;II[J)I"⟩
abbrev cL_law : ByteArray := code
def yL_law : MethodName := ⟨RL, "law", "([I)Z"⟩
abbrev vwCl : List vw_C := [(RX0, TX0, 6), (RX1, TX1, 7), (RX2, TX2, 4), (RX3, TX3, 6), (RX4, TX4, 3), (RX5, TX5, 8), (RX6, TX6, 8), (RX7, TX7, 30)]
end
section
theorem dX0_init_0 : decode cX0_init 0 = .ok (.aload_n 0, 1) := by decide +kernel
theorem dX0_init_1 : decode cX0_init 1 = .ok (.invokespecial 3, 3) := by decide +kernel
theorem dX0_init_4 : decode cX0_init 4 = .ok (.aload_n 0, 1) := by decide +kernel
theorem dX0_init_5 : decode cX0_init 5 = .ok (.new 9, 3) := by decide +kernel
theorem dX0_init_8 : decode cX0_init 8 = .ok (.dup, 1) := by decide +kernel
theorem dX0_init_9 : decode cX0_init 9 = .ok (.bipush 6, 2) := by decide +kernel
theorem dX0_init_11 : decode cX0_init 11 = .ok (.invokespecial 11, 3) := by decide +kernel
theorem dX0_init_14 : decode cX0_init 14 = .ok (.putfield 14, 3) := by decide +kernel
theorem dX0_init_17 : decode cX0_init 17 = .ok (.aload_n 0, 1) := by decide +kernel
theorem dX0_init_18 : decode cX0_init 18 = .ok (.bipush 6, 2) := by decide +kernel
theorem dX0_init_20 : decode cX0_init 20 = .ok (.newarray .int, 2) := by decide +kernel
theorem dX0_init_22 : decode cX0_init 22 = .ok (.putfield 20, 3) := by decide +kernel
theorem dX0_init_25 : decode cX0_init 25 = .ok (.aload_n 0, 1) := by decide +kernel
theorem dX0_init_26 : decode cX0_init 26 = .ok (.bipush 6, 2) := by decide +kernel
theorem dX0_init_28 : decode cX0_init 28 = .ok (.newarray .int, 2) := by decide +kernel
theorem dX0_init_30 : decode cX0_init 30 = .ok (.putfield 24, 3) := by decide +kernel
theorem dX0_init_33 : decode cX0_init 33 = .ok (.aload_n 0, 1) := by decide +kernel
theorem dX0_init_34 : decode cX0_init 34 = .ok (.bipush 6, 2) := by decide +kernel
theorem dX0_init_36 : decode cX0_init 36 = .ok (.newarray .int, 2) := by decide +kernel
theorem dX0_init_38 : decode cX0_init 38 = .ok (.putfield 27, 3) := by decide +kernel
theorem dX0_init_41 : decode cX0_init 41 = .ok (.aload_n 0, 1) := by decide +kernel
theorem dX0_init_42 : decode cX0_init 42 = .ok (.bipush 6, 2) := by decide +kernel
theorem dX0_init_44 : decode cX0_init 44 = .ok (.newarray .int, 2) := by decide +kernel
theorem dX0_init_46 : decode cX0_init 46 = .ok (.putfield 30, 3) := by decide +kernel
theorem dX0_init_49 : decode cX0_init 49 = .ok (.aload_n 0, 1) := by decide +kernel
theorem dX0_init_50 : decode cX0_init 50 = .ok (.bipush 6, 2) := by decide +kernel
theorem dX0_init_52 : decode cX0_init 52 = .ok (.newarray .int, 2) := by decide +kernel
theorem dX0_init_54 : decode cX0_init 54 = .ok (.putfield 33, 3) := by decide +kernel
theorem dX0_init_57 : decode cX0_init 57 = .ok (.return_, 1) := by decide +kernel
theorem dX0_size_0 : decode cX0_size 0 = .ok (.aload_n 0, 1) := by decide +kernel
theorem dX0_size_1 : decode cX0_size 1 = .ok (.getfield 14, 3) := by decide +kernel
theorem dX0_size_4 : decode cX0_size 4 = .ok (.getfield 36, 3) := by decide +kernel
theorem dX0_size_7 : decode cX0_size 7 = .ok (.ireturn, 1) := by decide +kernel
theorem dX0_has_0 : decode cX0_has 0 = .ok (.iload_n 1, 1) := by decide +kernel
theorem dX0_has_1 : decode cX0_has 1 = .ok (.iconst 0, 1) := by decide +kernel
theorem dX0_has_2 : decode cX0_has 2 = .ok (.aload_n 0, 1) := by decide +kernel
theorem dX0_has_3 : decode cX0_has 3 = .ok (.getfield 14, 3) := by decide +kernel
theorem dX0_has_6 : decode cX0_has 6 = .ok (.getfield 36, 3) := by decide +kernel
theorem dX0_has_9 : decode cX0_has 9 = .ok (.iconst 1, 1) := by decide +kernel
theorem dX0_has_10 : decode cX0_has 10 = .ok (.isub, 1) := by decide +kernel
theorem dX0_has_11 : decode cX0_has 11 = .ok (.invokestatic 40, 3) := by decide +kernel
theorem dX0_has_14 : decode cX0_has 14 = .ok (.ireturn, 1) := by decide +kernel
theorem dX0_add_0 : decode cX0_add 0 = .ok (.aload_n 0, 1) := by decide +kernel
theorem dX0_add_1 : decode cX0_add 1 = .ok (.getfield 14, 3) := by decide +kernel
theorem dX0_add_4 : decode cX0_add 4 = .ok (.iload_n 1, 1) := by decide +kernel
theorem dX0_add_5 : decode cX0_add 5 = .ok (.iload_n 2, 1) := by decide +kernel
theorem dX0_add_6 : decode cX0_add 6 = .ok (.invokevirtual 44, 3) := by decide +kernel
theorem dX0_add_9 : decode cX0_add 9 = .ok (.istore 6, 2) := by decide +kernel
theorem dX0_add_11 : decode cX0_add 11 = .ok (.iload 6, 2) := by decide +kernel
theorem dX0_add_13 : decode cX0_add 13 = .ok (.iconst (-1), 1) := by decide +kernel
theorem dX0_add_14 : decode cX0_add 14 = .ok (.if_icmp .eq 29, 3) := by decide +kernel
theorem dX0_add_17 : decode cX0_add 17 = .ok (.aload_n 0, 1) := by decide +kernel
theorem dX0_add_18 : decode cX0_add 18 = .ok (.getfield 20, 3) := by decide +kernel
theorem dX0_add_21 : decode cX0_add 21 = .ok (.iload 6, 2) := by decide +kernel
theorem dX0_add_23 : decode cX0_add 23 = .ok (.iload_n 3, 1) := by decide +kernel
theorem dX0_add_24 : decode cX0_add 24 = .ok (.iastore, 1) := by decide +kernel
theorem dX0_add_25 : decode cX0_add 25 = .ok (.aload_n 0, 1) := by decide +kernel
theorem dX0_add_26 : decode cX0_add 26 = .ok (.getfield 24, 3) := by decide +kernel
theorem dX0_add_29 : decode cX0_add 29 = .ok (.iload 6, 2) := by decide +kernel
theorem dX0_add_31 : decode cX0_add 31 = .ok (.iload 4, 2) := by decide +kernel
theorem dX0_add_33 : decode cX0_add 33 = .ok (.iastore, 1) := by decide +kernel
theorem dX0_add_34 : decode cX0_add 34 = .ok (.aload_n 0, 1) := by decide +kernel
theorem dX0_add_35 : decode cX0_add 35 = .ok (.getfield 27, 3) := by decide +kernel
theorem dX0_add_38 : decode cX0_add 38 = .ok (.iload 6, 2) := by decide +kernel
theorem dX0_add_40 : decode cX0_add 40 = .ok (.iload 5, 2) := by decide +kernel
theorem dX0_add_42 : decode cX0_add 42 = .ok (.iastore, 1) := by decide +kernel
theorem dX0_add_43 : decode cX0_add 43 = .ok (.iload 6, 2) := by decide +kernel
theorem dX0_add_45 : decode cX0_add 45 = .ok (.ireturn, 1) := by decide +kernel
end
section
theorem dX1_init_0 : decode cX1_init 0 = .ok (.aload_n 0, 1) := by decide +kernel
theorem dX1_init_1 : decode cX1_init 1 = .ok (.invokespecial 3, 3) := by decide +kernel
theorem dX1_init_4 : decode cX1_init 4 = .ok (.aload_n 0, 1) := by decide +kernel
theorem dX1_init_5 : decode cX1_init 5 = .ok (.bipush 12, 2) := by decide +kernel
theorem dX1_init_7 : decode cX1_init 7 = .ok (.newarray .int, 2) := by decide +kernel
theorem dX1_init_9 : decode cX1_init 9 = .ok (.putfield 9, 3) := by decide +kernel
theorem dX1_init_12 : decode cX1_init 12 = .ok (.aload_n 0, 1) := by decide +kernel
theorem dX1_init_13 : decode cX1_init 13 = .ok (.bipush 12, 2) := by decide +kernel
theorem dX1_init_15 : decode cX1_init 15 = .ok (.newarray .int, 2) := by decide +kernel
theorem dX1_init_17 : decode cX1_init 17 = .ok (.putfield 15, 3) := by decide +kernel
theorem dX1_init_20 : decode cX1_init 20 = .ok (.aload_n 0, 1) := by decide +kernel
theorem dX1_init_21 : decode cX1_init 21 = .ok (.bipush 12, 2) := by decide +kernel
theorem dX1_init_23 : decode cX1_init 23 = .ok (.newarray .int, 2) := by decide +kernel
theorem dX1_init_25 : decode cX1_init 25 = .ok (.putfield 18, 3) := by decide +kernel
theorem dX1_init_28 : decode cX1_init 28 = .ok (.aload_n 0, 1) := by decide +kernel
theorem dX1_init_29 : decode cX1_init 29 = .ok (.bipush 12, 2) := by decide +kernel
theorem dX1_init_31 : decode cX1_init 31 = .ok (.newarray .int, 2) := by decide +kernel
theorem dX1_init_33 : decode cX1_init 33 = .ok (.putfield 21, 3) := by decide +kernel
theorem dX1_init_36 : decode cX1_init 36 = .ok (.aload_n 0, 1) := by decide +kernel
theorem dX1_init_37 : decode cX1_init 37 = .ok (.bipush 12, 2) := by decide +kernel
theorem dX1_init_39 : decode cX1_init 39 = .ok (.newarray .int, 2) := by decide +kernel
theorem dX1_init_41 : decode cX1_init 41 = .ok (.putfield 24, 3) := by decide +kernel
theorem dX1_init_44 : decode cX1_init 44 = .ok (.return_, 1) := by decide +kernel
theorem dX1_addNeed_0 : decode cX1_addNeed 0 = .ok (.aload_n 0, 1) := by decide +kernel
theorem dX1_addNeed_1 : decode cX1_addNeed 1 = .ok (.getfield 27, 3) := by decide +kernel
theorem dX1_addNeed_4 : decode cX1_addNeed 4 = .ok (.bipush 12, 2) := by decide +kernel
theorem dX1_addNeed_6 : decode cX1_addNeed 6 = .ok (.if_icmp .lt 5, 3) := by decide +kernel
theorem dX1_addNeed_9 : decode cX1_addNeed 9 = .ok (.iconst (-1), 1) := by decide +kernel
theorem dX1_addNeed_10 : decode cX1_addNeed 10 = .ok (.ireturn, 1) := by decide +kernel
theorem dX1_addNeed_11 : decode cX1_addNeed 11 = .ok (.aload_n 0, 1) := by decide +kernel
theorem dX1_addNeed_12 : decode cX1_addNeed 12 = .ok (.getfield 9, 3) := by decide +kernel
theorem dX1_addNeed_15 : decode cX1_addNeed 15 = .ok (.aload_n 0, 1) := by decide +kernel
theorem dX1_addNeed_16 : decode cX1_addNeed 16 = .ok (.getfield 27, 3) := by decide +kernel
theorem dX1_addNeed_19 : decode cX1_addNeed 19 = .ok (.iload_n 1, 1) := by decide +kernel
theorem dX1_addNeed_20 : decode cX1_addNeed 20 = .ok (.iastore, 1) := by decide +kernel
theorem dX1_addNeed_21 : decode cX1_addNeed 21 = .ok (.aload_n 0, 1) := by decide +kernel
theorem dX1_addNeed_22 : decode cX1_addNeed 22 = .ok (.dup, 1) := by decide +kernel
theorem dX1_addNeed_23 : decode cX1_addNeed 23 = .ok (.getfield 27, 3) := by decide +kernel
theorem dX1_addNeed_26 : decode cX1_addNeed 26 = .ok (.iconst 1, 1) := by decide +kernel
theorem dX1_addNeed_27 : decode cX1_addNeed 27 = .ok (.iadd, 1) := by decide +kernel
theorem dX1_addNeed_28 : decode cX1_addNeed 28 = .ok (.putfield 27, 3) := by decide +kernel
theorem dX1_addNeed_31 : decode cX1_addNeed 31 = .ok (.aload_n 0, 1) := by decide +kernel
theorem dX1_addNeed_32 : decode cX1_addNeed 32 = .ok (.getfield 27, 3) := by decide +kernel
theorem dX1_addNeed_35 : decode cX1_addNeed 35 = .ok (.ireturn, 1) := by decide +kernel
theorem dX1_keepLeast_0 : decode cX1_keepLeast 0 = .ok (.aload_n 0, 1) := by decide +kernel
theorem dX1_keepLeast_1 : decode cX1_keepLeast 1 = .ok (.aload_n 1, 1) := by decide +kernel
theorem dX1_keepLeast_2 : decode cX1_keepLeast 2 = .ok (.iload_n 2, 1) := by decide +kernel
theorem dX1_keepLeast_3 : decode cX1_keepLeast 3 = .ok (.invokevirtual 31, 3) := by decide +kernel
theorem dX1_keepLeast_6 : decode cX1_keepLeast 6 = .ok (.iconst 0, 1) := by decide +kernel
theorem dX1_keepLeast_7 : decode cX1_keepLeast 7 = .ok (.istore 4, 2) := by decide +kernel
theorem dX1_keepLeast_9 : decode cX1_keepLeast 9 = .ok (.iload 4, 2) := by decide +kernel
theorem dX1_keepLeast_11 : decode cX1_keepLeast 11 = .ok (.aload_n 0, 1) := by decide +kernel
theorem dX1_keepLeast_12 : decode cX1_keepLeast 12 = .ok (.getfield 27, 3) := by decide +kernel
theorem dX1_keepLeast_15 : decode cX1_keepLeast 15 = .ok (.if_icmp .ge 28, 3) := by decide +kernel
theorem dX1_keepLeast_18 : decode cX1_keepLeast 18 = .ok (.aload_n 0, 1) := by decide +kernel
theorem dX1_keepLeast_19 : decode cX1_keepLeast 19 = .ok (.invokevirtual 35, 3) := by decide +kernel
theorem dX1_keepLeast_22 : decode cX1_keepLeast 22 = .ok (.istore 5, 2) := by decide +kernel
theorem dX1_keepLeast_24 : decode cX1_keepLeast 24 = .ok (.iload 5, 2) := by decide +kernel
theorem dX1_keepLeast_26 : decode cX1_keepLeast 26 = .ok (.iconst (-1), 1) := by decide +kernel
theorem dX1_keepLeast_27 : decode cX1_keepLeast 27 = .ok (.if_icmp .eq 10, 3) := by decide +kernel
theorem dX1_keepLeast_30 : decode cX1_keepLeast 30 = .ok (.aload_n 0, 1) := by decide +kernel
theorem dX1_keepLeast_31 : decode cX1_keepLeast 31 = .ok (.iload 5, 2) := by decide +kernel
theorem dX1_keepLeast_33 : decode cX1_keepLeast 33 = .ok (.iload_n 3, 1) := by decide +kernel
theorem dX1_keepLeast_34 : decode cX1_keepLeast 34 = .ok (.invokevirtual 39, 3) := by decide +kernel
theorem dX1_keepLeast_37 : decode cX1_keepLeast 37 = .ok (.iinc 4 1, 3) := by decide +kernel
theorem dX1_keepLeast_40 : decode cX1_keepLeast 40 = .ok (.goto (-31), 3) := by decide +kernel
theorem dX1_keepLeast_43 : decode cX1_keepLeast 43 = .ok (.aload_n 0, 1) := by decide +kernel
theorem dX1_keepLeast_44 : decode cX1_keepLeast 44 = .ok (.getfield 27, 3) := by decide +kernel
theorem dX1_keepLeast_47 : decode cX1_keepLeast 47 = .ok (.ifCond .le 15, 3) := by decide +kernel
theorem dX1_keepLeast_50 : decode cX1_keepLeast 50 = .ok (.aload_n 0, 1) := by decide +kernel
theorem dX1_keepLeast_51 : decode cX1_keepLeast 51 = .ok (.getfield 18, 3) := by decide +kernel
theorem dX1_keepLeast_54 : decode cX1_keepLeast 54 = .ok (.iconst 0, 1) := by decide +kernel
theorem dX1_keepLeast_55 : decode cX1_keepLeast 55 = .ok (.iaload, 1) := by decide +kernel
theorem dX1_keepLeast_56 : decode cX1_keepLeast 56 = .ok (.ifCond .le 6, 3) := by decide +kernel
theorem dX1_keepLeast_59 : decode cX1_keepLeast 59 = .ok (.bipush (-2), 2) := by decide +kernel
theorem dX1_keepLeast_61 : decode cX1_keepLeast 61 = .ok (.ireturn, 1) := by decide +kernel
theorem dX1_keepLeast_62 : decode cX1_keepLeast 62 = .ok (.aload_n 0, 1) := by decide +kernel
theorem dX1_keepLeast_63 : decode cX1_keepLeast 63 = .ok (.invokevirtual 43, 3) := by decide +kernel
theorem dX1_keepLeast_66 : decode cX1_keepLeast 66 = .ok (.ireturn, 1) := by decide +kernel
theorem dX1_begin_0 : decode cX1_begin 0 = .ok (.iconst 0, 1) := by decide +kernel
theorem dX1_begin_1 : decode cX1_begin 1 = .ok (.istore_n 3, 1) := by decide +kernel
theorem dX1_begin_2 : decode cX1_begin 2 = .ok (.aload_n 0, 1) := by decide +kernel
theorem dX1_begin_3 : decode cX1_begin 3 = .ok (.getfield 27, 3) := by decide +kernel
theorem dX1_begin_6 : decode cX1_begin 6 = .ok (.iconst 1, 1) := by decide +kernel
theorem dX1_begin_7 : decode cX1_begin 7 = .ok (.isub, 1) := by decide +kernel
theorem dX1_begin_8 : decode cX1_begin 8 = .ok (.istore 4, 2) := by decide +kernel
theorem dX1_begin_10 : decode cX1_begin 10 = .ok (.iload 4, 2) := by decide +kernel
theorem dX1_begin_12 : decode cX1_begin 12 = .ok (.ifCond .lt 53, 3) := by decide +kernel
theorem dX1_begin_15 : decode cX1_begin 15 = .ok (.iload_n 3, 1) := by decide +kernel
theorem dX1_begin_16 : decode cX1_begin 16 = .ok (.aload_n 0, 1) := by decide +kernel
theorem dX1_begin_17 : decode cX1_begin 17 = .ok (.getfield 9, 3) := by decide +kernel
theorem dX1_begin_20 : decode cX1_begin 20 = .ok (.iload 4, 2) := by decide +kernel
theorem dX1_begin_22 : decode cX1_begin 22 = .ok (.iaload, 1) := by decide +kernel
theorem dX1_begin_23 : decode cX1_begin 23 = .ok (.iadd, 1) := by decide +kernel
theorem dX1_begin_24 : decode cX1_begin 24 = .ok (.istore_n 3, 1) := by decide +kernel
theorem dX1_begin_25 : decode cX1_begin 25 = .ok (.aload_n 0, 1) := by decide +kernel
theorem dX1_begin_26 : decode cX1_begin 26 = .ok (.getfield 18, 3) := by decide +kernel
theorem dX1_begin_29 : decode cX1_begin 29 = .ok (.iload 4, 2) := by decide +kernel
theorem dX1_begin_31 : decode cX1_begin 31 = .ok (.iload_n 3, 1) := by decide +kernel
theorem dX1_begin_32 : decode cX1_begin 32 = .ok (.iastore, 1) := by decide +kernel
theorem dX1_begin_33 : decode cX1_begin 33 = .ok (.aload_n 0, 1) := by decide +kernel
theorem dX1_begin_34 : decode cX1_begin 34 = .ok (.getfield 15, 3) := by decide +kernel
theorem dX1_begin_37 : decode cX1_begin 37 = .ok (.iload 4, 2) := by decide +kernel
theorem dX1_begin_39 : decode cX1_begin 39 = .ok (.iconst (-1), 1) := by decide +kernel
theorem dX1_begin_40 : decode cX1_begin 40 = .ok (.iastore, 1) := by decide +kernel
theorem dX1_begin_41 : decode cX1_begin 41 = .ok (.aload_n 0, 1) := by decide +kernel
theorem dX1_begin_42 : decode cX1_begin 42 = .ok (.getfield 21, 3) := by decide +kernel
theorem dX1_begin_45 : decode cX1_begin 45 = .ok (.iload 4, 2) := by decide +kernel
theorem dX1_begin_47 : decode cX1_begin 47 = .ok (.aload_n 1, 1) := by decide +kernel
theorem dX1_begin_48 : decode cX1_begin 48 = .ok (.iload_n 2, 1) := by decide +kernel
theorem dX1_begin_49 : decode cX1_begin 49 = .ok (.iload 4, 2) := by decide +kernel
theorem dX1_begin_51 : decode cX1_begin 51 = .ok (.iadd, 1) := by decide +kernel
theorem dX1_begin_52 : decode cX1_begin 52 = .ok (.bipush 24, 2) := by decide +kernel
theorem dX1_begin_54 : decode cX1_begin 54 = .ok (.invokestatic 46, 3) := by decide +kernel
theorem dX1_begin_57 : decode cX1_begin 57 = .ok (.iaload, 1) := by decide +kernel
theorem dX1_begin_58 : decode cX1_begin 58 = .ok (.iastore, 1) := by decide +kernel
theorem dX1_begin_59 : decode cX1_begin 59 = .ok (.iinc 4 (-1), 3) := by decide +kernel
theorem dX1_begin_62 : decode cX1_begin 62 = .ok (.goto (-52), 3) := by decide +kernel
theorem dX1_begin_65 : decode cX1_begin 65 = .ok (.return_, 1) := by decide +kernel
theorem dX1_cheapestUnfilled_0 : decode cX1_cheapestUnfilled 0 = .ok (.iconst (-1), 1) := by decide +kernel
theorem dX1_cheapestUnfilled_1 : decode cX1_cheapestUnfilled 1 = .ok (.istore_n 1, 1) := by decide +kernel
theorem dX1_cheapestUnfilled_2 : decode cX1_cheapestUnfilled 2 = .ok (.iconst 0, 1) := by decide +kernel
theorem dX1_cheapestUnfilled_3 : decode cX1_cheapestUnfilled 3 = .ok (.istore_n 2, 1) := by decide +kernel
theorem dX1_cheapestUnfilled_4 : decode cX1_cheapestUnfilled 4 = .ok (.iload_n 2, 1) := by decide +kernel
theorem dX1_cheapestUnfilled_5 : decode cX1_cheapestUnfilled 5 = .ok (.aload_n 0, 1) := by decide +kernel
theorem dX1_cheapestUnfilled_6 : decode cX1_cheapestUnfilled 6 = .ok (.getfield 27, 3) := by decide +kernel
theorem dX1_cheapestUnfilled_9 : decode cX1_cheapestUnfilled 9 = .ok (.if_icmp .ge 41, 3) := by decide +kernel
theorem dX1_cheapestUnfilled_12 : decode cX1_cheapestUnfilled 12 = .ok (.aload_n 0, 1) := by decide +kernel
theorem dX1_cheapestUnfilled_13 : decode cX1_cheapestUnfilled 13 = .ok (.getfield 15, 3) := by decide +kernel
theorem dX1_cheapestUnfilled_16 : decode cX1_cheapestUnfilled 16 = .ok (.iload_n 2, 1) := by decide +kernel
theorem dX1_cheapestUnfilled_17 : decode cX1_cheapestUnfilled 17 = .ok (.iaload, 1) := by decide +kernel
theorem dX1_cheapestUnfilled_18 : decode cX1_cheapestUnfilled 18 = .ok (.iconst (-1), 1) := by decide +kernel
theorem dX1_cheapestUnfilled_19 : decode cX1_cheapestUnfilled 19 = .ok (.if_icmp .ne 25, 3) := by decide +kernel
theorem dX1_cheapestUnfilled_22 : decode cX1_cheapestUnfilled 22 = .ok (.iload_n 1, 1) := by decide +kernel
theorem dX1_cheapestUnfilled_23 : decode cX1_cheapestUnfilled 23 = .ok (.iconst (-1), 1) := by decide +kernel
theorem dX1_cheapestUnfilled_24 : decode cX1_cheapestUnfilled 24 = .ok (.if_icmp .eq 18, 3) := by decide +kernel
theorem dX1_cheapestUnfilled_27 : decode cX1_cheapestUnfilled 27 = .ok (.aload_n 0, 1) := by decide +kernel
theorem dX1_cheapestUnfilled_28 : decode cX1_cheapestUnfilled 28 = .ok (.getfield 21, 3) := by decide +kernel
theorem dX1_cheapestUnfilled_31 : decode cX1_cheapestUnfilled 31 = .ok (.iload_n 2, 1) := by decide +kernel
theorem dX1_cheapestUnfilled_32 : decode cX1_cheapestUnfilled 32 = .ok (.iaload, 1) := by decide +kernel
theorem dX1_cheapestUnfilled_33 : decode cX1_cheapestUnfilled 33 = .ok (.aload_n 0, 1) := by decide +kernel
theorem dX1_cheapestUnfilled_34 : decode cX1_cheapestUnfilled 34 = .ok (.getfield 21, 3) := by decide +kernel
theorem dX1_cheapestUnfilled_37 : decode cX1_cheapestUnfilled 37 = .ok (.iload_n 1, 1) := by decide +kernel
theorem dX1_cheapestUnfilled_38 : decode cX1_cheapestUnfilled 38 = .ok (.iaload, 1) := by decide +kernel
theorem dX1_cheapestUnfilled_39 : decode cX1_cheapestUnfilled 39 = .ok (.if_icmp .ge 5, 3) := by decide +kernel
theorem dX1_cheapestUnfilled_42 : decode cX1_cheapestUnfilled 42 = .ok (.iload_n 2, 1) := by decide +kernel
theorem dX1_cheapestUnfilled_43 : decode cX1_cheapestUnfilled 43 = .ok (.istore_n 1, 1) := by decide +kernel
theorem dX1_cheapestUnfilled_44 : decode cX1_cheapestUnfilled 44 = .ok (.iinc 2 1, 3) := by decide +kernel
theorem dX1_cheapestUnfilled_47 : decode cX1_cheapestUnfilled 47 = .ok (.goto (-43), 3) := by decide +kernel
theorem dX1_cheapestUnfilled_50 : decode cX1_cheapestUnfilled 50 = .ok (.iload_n 1, 1) := by decide +kernel
theorem dX1_cheapestUnfilled_51 : decode cX1_cheapestUnfilled 51 = .ok (.ireturn, 1) := by decide +kernel
theorem dX1_fill_0 : decode cX1_fill 0 = .ok (.iload_n 2, 1) := by decide +kernel
theorem dX1_fill_1 : decode cX1_fill 1 = .ok (.istore_n 3, 1) := by decide +kernel
theorem dX1_fill_2 : decode cX1_fill 2 = .ok (.iconst 0, 1) := by decide +kernel
theorem dX1_fill_3 : decode cX1_fill 3 = .ok (.istore 4, 2) := by decide +kernel
theorem dX1_fill_5 : decode cX1_fill 5 = .ok (.iload 4, 2) := by decide +kernel
theorem dX1_fill_7 : decode cX1_fill 7 = .ok (.iload_n 1, 1) := by decide +kernel
theorem dX1_fill_8 : decode cX1_fill 8 = .ok (.if_icmp .gt 21, 3) := by decide +kernel
theorem dX1_fill_11 : decode cX1_fill 11 = .ok (.iload_n 3, 1) := by decide +kernel
theorem dX1_fill_12 : decode cX1_fill 12 = .ok (.aload_n 0, 1) := by decide +kernel
theorem dX1_fill_13 : decode cX1_fill 13 = .ok (.getfield 18, 3) := by decide +kernel
theorem dX1_fill_16 : decode cX1_fill 16 = .ok (.iload 4, 2) := by decide +kernel
theorem dX1_fill_18 : decode cX1_fill 18 = .ok (.iaload, 1) := by decide +kernel
theorem dX1_fill_19 : decode cX1_fill 19 = .ok (.invokestatic 52, 3) := by decide +kernel
theorem dX1_fill_22 : decode cX1_fill 22 = .ok (.istore_n 3, 1) := by decide +kernel
theorem dX1_fill_23 : decode cX1_fill 23 = .ok (.iinc 4 1, 3) := by decide +kernel
theorem dX1_fill_26 : decode cX1_fill 26 = .ok (.goto (-21), 3) := by decide +kernel
theorem dX1_fill_29 : decode cX1_fill 29 = .ok (.iconst 0, 1) := by decide +kernel
theorem dX1_fill_30 : decode cX1_fill 30 = .ok (.istore 4, 2) := by decide +kernel
theorem dX1_fill_32 : decode cX1_fill 32 = .ok (.iload 4, 2) := by decide +kernel
theorem dX1_fill_34 : decode cX1_fill 34 = .ok (.iload_n 1, 1) := by decide +kernel
theorem dX1_fill_35 : decode cX1_fill 35 = .ok (.if_icmp .gt 20, 3) := by decide +kernel
theorem dX1_fill_38 : decode cX1_fill 38 = .ok (.aload_n 0, 1) := by decide +kernel
theorem dX1_fill_39 : decode cX1_fill 39 = .ok (.getfield 18, 3) := by decide +kernel
theorem dX1_fill_42 : decode cX1_fill 42 = .ok (.iload 4, 2) := by decide +kernel
theorem dX1_fill_44 : decode cX1_fill 44 = .ok (.dup2, 1) := by decide +kernel
theorem dX1_fill_45 : decode cX1_fill 45 = .ok (.iaload, 1) := by decide +kernel
theorem dX1_fill_46 : decode cX1_fill 46 = .ok (.iload_n 3, 1) := by decide +kernel
theorem dX1_fill_47 : decode cX1_fill 47 = .ok (.isub, 1) := by decide +kernel
theorem dX1_fill_48 : decode cX1_fill 48 = .ok (.iastore, 1) := by decide +kernel
theorem dX1_fill_49 : decode cX1_fill 49 = .ok (.iinc 4 1, 3) := by decide +kernel
theorem dX1_fill_52 : decode cX1_fill 52 = .ok (.goto (-20), 3) := by decide +kernel
theorem dX1_fill_55 : decode cX1_fill 55 = .ok (.aload_n 0, 1) := by decide +kernel
theorem dX1_fill_56 : decode cX1_fill 56 = .ok (.getfield 15, 3) := by decide +kernel
theorem dX1_fill_59 : decode cX1_fill 59 = .ok (.iload_n 1, 1) := by decide +kernel
theorem dX1_fill_60 : decode cX1_fill 60 = .ok (.iload_n 3, 1) := by decide +kernel
theorem dX1_fill_61 : decode cX1_fill 61 = .ok (.iastore, 1) := by decide +kernel
theorem dX1_fill_62 : decode cX1_fill 62 = .ok (.return_, 1) := by decide +kernel
theorem dX1_keepDraft_0 : decode cX1_keepDraft 0 = .ok (.iconst 0, 1) := by decide +kernel
theorem dX1_keepDraft_1 : decode cX1_keepDraft 1 = .ok (.istore_n 1, 1) := by decide +kernel
theorem dX1_keepDraft_2 : decode cX1_keepDraft 2 = .ok (.iconst 0, 1) := by decide +kernel
theorem dX1_keepDraft_3 : decode cX1_keepDraft 3 = .ok (.istore_n 2, 1) := by decide +kernel
theorem dX1_keepDraft_4 : decode cX1_keepDraft 4 = .ok (.iload_n 2, 1) := by decide +kernel
theorem dX1_keepDraft_5 : decode cX1_keepDraft 5 = .ok (.aload_n 0, 1) := by decide +kernel
theorem dX1_keepDraft_6 : decode cX1_keepDraft 6 = .ok (.getfield 27, 3) := by decide +kernel
theorem dX1_keepDraft_9 : decode cX1_keepDraft 9 = .ok (.if_icmp .ge 37, 3) := by decide +kernel
theorem dX1_keepDraft_12 : decode cX1_keepDraft 12 = .ok (.aload_n 0, 1) := by decide +kernel
theorem dX1_keepDraft_13 : decode cX1_keepDraft 13 = .ok (.getfield 24, 3) := by decide +kernel
theorem dX1_keepDraft_16 : decode cX1_keepDraft 16 = .ok (.iload_n 2, 1) := by decide +kernel
theorem dX1_keepDraft_17 : decode cX1_keepDraft 17 = .ok (.aload_n 0, 1) := by decide +kernel
theorem dX1_keepDraft_18 : decode cX1_keepDraft 18 = .ok (.getfield 15, 3) := by decide +kernel
theorem dX1_keepDraft_21 : decode cX1_keepDraft 21 = .ok (.iload_n 2, 1) := by decide +kernel
theorem dX1_keepDraft_22 : decode cX1_keepDraft 22 = .ok (.iaload, 1) := by decide +kernel
theorem dX1_keepDraft_23 : decode cX1_keepDraft 23 = .ok (.iastore, 1) := by decide +kernel
theorem dX1_keepDraft_24 : decode cX1_keepDraft 24 = .ok (.iload_n 1, 1) := by decide +kernel
theorem dX1_keepDraft_25 : decode cX1_keepDraft 25 = .ok (.aload_n 0, 1) := by decide +kernel
theorem dX1_keepDraft_26 : decode cX1_keepDraft 26 = .ok (.getfield 15, 3) := by decide +kernel
theorem dX1_keepDraft_29 : decode cX1_keepDraft 29 = .ok (.iload_n 2, 1) := by decide +kernel
theorem dX1_keepDraft_30 : decode cX1_keepDraft 30 = .ok (.iaload, 1) := by decide +kernel
theorem dX1_keepDraft_31 : decode cX1_keepDraft 31 = .ok (.aload_n 0, 1) := by decide +kernel
theorem dX1_keepDraft_32 : decode cX1_keepDraft 32 = .ok (.getfield 21, 3) := by decide +kernel
theorem dX1_keepDraft_35 : decode cX1_keepDraft 35 = .ok (.iload_n 2, 1) := by decide +kernel
theorem dX1_keepDraft_36 : decode cX1_keepDraft 36 = .ok (.iaload, 1) := by decide +kernel
theorem dX1_keepDraft_37 : decode cX1_keepDraft 37 = .ok (.imul, 1) := by decide +kernel
theorem dX1_keepDraft_38 : decode cX1_keepDraft 38 = .ok (.iadd, 1) := by decide +kernel
theorem dX1_keepDraft_39 : decode cX1_keepDraft 39 = .ok (.istore_n 1, 1) := by decide +kernel
theorem dX1_keepDraft_40 : decode cX1_keepDraft 40 = .ok (.iinc 2 1, 3) := by decide +kernel
theorem dX1_keepDraft_43 : decode cX1_keepDraft 43 = .ok (.goto (-39), 3) := by decide +kernel
theorem dX1_keepDraft_46 : decode cX1_keepDraft 46 = .ok (.aload_n 0, 1) := by decide +kernel
theorem dX1_keepDraft_47 : decode cX1_keepDraft 47 = .ok (.aload_n 0, 1) := by decide +kernel
theorem dX1_keepDraft_48 : decode cX1_keepDraft 48 = .ok (.getfield 27, 3) := by decide +kernel
theorem dX1_keepDraft_51 : decode cX1_keepDraft 51 = .ok (.putfield 55, 3) := by decide +kernel
theorem dX1_keepDraft_54 : decode cX1_keepDraft 54 = .ok (.iload_n 1, 1) := by decide +kernel
theorem dX1_keepDraft_55 : decode cX1_keepDraft 55 = .ok (.ireturn, 1) := by decide +kernel
end
section
theorem dX2_init_0 : decode cX2_init 0 = .ok (.aload_n 0, 1) := by decide +kernel
theorem dX2_init_1 : decode cX2_init 1 = .ok (.invokespecial 3, 3) := by decide +kernel
theorem dX2_init_4 : decode cX2_init 4 = .ok (.aload_n 0, 1) := by decide +kernel
theorem dX2_init_5 : decode cX2_init 5 = .ok (.new 9, 3) := by decide +kernel
theorem dX2_init_8 : decode cX2_init 8 = .ok (.dup, 1) := by decide +kernel
theorem dX2_init_9 : decode cX2_init 9 = .ok (.bipush 12, 2) := by decide +kernel
theorem dX2_init_11 : decode cX2_init 11 = .ok (.invokespecial 11, 3) := by decide +kernel
theorem dX2_init_14 : decode cX2_init 14 = .ok (.putfield 14, 3) := by decide +kernel
theorem dX2_init_17 : decode cX2_init 17 = .ok (.aload_n 0, 1) := by decide +kernel
theorem dX2_init_18 : decode cX2_init 18 = .ok (.new 9, 3) := by decide +kernel
theorem dX2_init_21 : decode cX2_init 21 = .ok (.dup, 1) := by decide +kernel
theorem dX2_init_22 : decode cX2_init 22 = .ok (.bipush 8, 2) := by decide +kernel
theorem dX2_init_24 : decode cX2_init 24 = .ok (.invokespecial 11, 3) := by decide +kernel
theorem dX2_init_27 : decode cX2_init 27 = .ok (.putfield 20, 3) := by decide +kernel
theorem dX2_init_30 : decode cX2_init 30 = .ok (.aload_n 0, 1) := by decide +kernel
theorem dX2_init_31 : decode cX2_init 31 = .ok (.bipush 12, 2) := by decide +kernel
theorem dX2_init_33 : decode cX2_init 33 = .ok (.newarray .int, 2) := by decide +kernel
theorem dX2_init_35 : decode cX2_init 35 = .ok (.putfield 23, 3) := by decide +kernel
theorem dX2_init_38 : decode cX2_init 38 = .ok (.return_, 1) := by decide +kernel
theorem dX2_keepBest_0 : decode cX2_keepBest 0 = .ok (.aload_n 0, 1) := by decide +kernel
theorem dX2_keepBest_1 : decode cX2_keepBest 1 = .ok (.aload_n 2, 1) := by decide +kernel
theorem dX2_keepBest_2 : decode cX2_keepBest 2 = .ok (.invokevirtual 27, 3) := by decide +kernel
theorem dX2_keepBest_5 : decode cX2_keepBest 5 = .ok (.iconst (-1), 1) := by decide +kernel
theorem dX2_keepBest_6 : decode cX2_keepBest 6 = .ok (.istore_n 3, 1) := by decide +kernel
theorem dX2_keepBest_7 : decode cX2_keepBest 7 = .ok (.iconst (-1), 1) := by decide +kernel
theorem dX2_keepBest_8 : decode cX2_keepBest 8 = .ok (.istore 4, 2) := by decide +kernel
theorem dX2_keepBest_10 : decode cX2_keepBest 10 = .ok (.iconst 0, 1) := by decide +kernel
theorem dX2_keepBest_11 : decode cX2_keepBest 11 = .ok (.istore 5, 2) := by decide +kernel
theorem dX2_keepBest_13 : decode cX2_keepBest 13 = .ok (.iload 5, 2) := by decide +kernel
theorem dX2_keepBest_15 : decode cX2_keepBest 15 = .ok (.iconst 1, 1) := by decide +kernel
theorem dX2_keepBest_16 : decode cX2_keepBest 16 = .ok (.aload_n 0, 1) := by decide +kernel
theorem dX2_keepBest_17 : decode cX2_keepBest 17 = .ok (.getfield 20, 3) := by decide +kernel
theorem dX2_keepBest_20 : decode cX2_keepBest 20 = .ok (.getfield 31, 3) := by decide +kernel
theorem dX2_keepBest_23 : decode cX2_keepBest 23 = .ok (.ishl, 1) := by decide +kernel
theorem dX2_keepBest_24 : decode cX2_keepBest 24 = .ok (.if_icmp .ge 61, 3) := by decide +kernel
theorem dX2_keepBest_27 : decode cX2_keepBest 27 = .ok (.iload 5, 2) := by decide +kernel
theorem dX2_keepBest_29 : decode cX2_keepBest 29 = .ok (.invokestatic 35, 3) := by decide +kernel
theorem dX2_keepBest_32 : decode cX2_keepBest 32 = .ok (.iload_n 1, 1) := by decide +kernel
theorem dX2_keepBest_33 : decode cX2_keepBest 33 = .ok (.if_icmp .ne 46, 3) := by decide +kernel
theorem dX2_keepBest_36 : decode cX2_keepBest 36 = .ok (.aload_n 0, 1) := by decide +kernel
theorem dX2_keepBest_37 : decode cX2_keepBest 37 = .ok (.iload 5, 2) := by decide +kernel
theorem dX2_keepBest_39 : decode cX2_keepBest 39 = .ok (.invokevirtual 41, 3) := by decide +kernel
theorem dX2_keepBest_42 : decode cX2_keepBest 42 = .ok (.istore 6, 2) := by decide +kernel
theorem dX2_keepBest_44 : decode cX2_keepBest 44 = .ok (.iload_n 3, 1) := by decide +kernel
theorem dX2_keepBest_45 : decode cX2_keepBest 45 = .ok (.iconst (-1), 1) := by decide +kernel
theorem dX2_keepBest_46 : decode cX2_keepBest 46 = .ok (.if_icmp .eq 26, 3) := by decide +kernel
theorem dX2_keepBest_49 : decode cX2_keepBest 49 = .ok (.iload 6, 2) := by decide +kernel
theorem dX2_keepBest_51 : decode cX2_keepBest 51 = .ok (.iload 4, 2) := by decide +kernel
theorem dX2_keepBest_53 : decode cX2_keepBest 53 = .ok (.if_icmp .lt 19, 3) := by decide +kernel
theorem dX2_keepBest_56 : decode cX2_keepBest 56 = .ok (.iload 6, 2) := by decide +kernel
theorem dX2_keepBest_58 : decode cX2_keepBest 58 = .ok (.iload 4, 2) := by decide +kernel
theorem dX2_keepBest_60 : decode cX2_keepBest 60 = .ok (.if_icmp .ne 19, 3) := by decide +kernel
theorem dX2_keepBest_63 : decode cX2_keepBest 63 = .ok (.iload 5, 2) := by decide +kernel
theorem dX2_keepBest_65 : decode cX2_keepBest 65 = .ok (.iload_n 3, 1) := by decide +kernel
theorem dX2_keepBest_66 : decode cX2_keepBest 66 = .ok (.invokestatic 44, 3) := by decide +kernel
theorem dX2_keepBest_69 : decode cX2_keepBest 69 = .ok (.ifCond .eq 10, 3) := by decide +kernel
theorem dX2_keepBest_72 : decode cX2_keepBest 72 = .ok (.iload 5, 2) := by decide +kernel
theorem dX2_keepBest_74 : decode cX2_keepBest 74 = .ok (.istore_n 3, 1) := by decide +kernel
theorem dX2_keepBest_75 : decode cX2_keepBest 75 = .ok (.iload 6, 2) := by decide +kernel
theorem dX2_keepBest_77 : decode cX2_keepBest 77 = .ok (.istore 4, 2) := by decide +kernel
theorem dX2_keepBest_79 : decode cX2_keepBest 79 = .ok (.iinc 5 1, 3) := by decide +kernel
theorem dX2_keepBest_82 : decode cX2_keepBest 82 = .ok (.goto (-69), 3) := by decide +kernel
theorem dX2_keepBest_85 : decode cX2_keepBest 85 = .ok (.aload_n 0, 1) := by decide +kernel
theorem dX2_keepBest_86 : decode cX2_keepBest 86 = .ok (.iload_n 3, 1) := by decide +kernel
theorem dX2_keepBest_87 : decode cX2_keepBest 87 = .ok (.putfield 48, 3) := by decide +kernel
theorem dX2_keepBest_90 : decode cX2_keepBest 90 = .ok (.iload 4, 2) := by decide +kernel
theorem dX2_keepBest_92 : decode cX2_keepBest 92 = .ok (.ireturn, 1) := by decide +kernel
theorem dX2_isFirstRow_0 : decode cX2_isFirstRow 0 = .ok (.iload_n 0, 1) := by decide +kernel
theorem dX2_isFirstRow_1 : decode cX2_isFirstRow 1 = .ok (.iload_n 1, 1) := by decide +kernel
theorem dX2_isFirstRow_2 : decode cX2_isFirstRow 2 = .ok (.ixor, 1) := by decide +kernel
theorem dX2_isFirstRow_3 : decode cX2_isFirstRow 3 = .ok (.istore_n 2, 1) := by decide +kernel
theorem dX2_isFirstRow_4 : decode cX2_isFirstRow 4 = .ok (.iload_n 2, 1) := by decide +kernel
theorem dX2_isFirstRow_5 : decode cX2_isFirstRow 5 = .ok (.iload_n 2, 1) := by decide +kernel
theorem dX2_isFirstRow_6 : decode cX2_isFirstRow 6 = .ok (.ineg, 1) := by decide +kernel
theorem dX2_isFirstRow_7 : decode cX2_isFirstRow 7 = .ok (.iand, 1) := by decide +kernel
theorem dX2_isFirstRow_8 : decode cX2_isFirstRow 8 = .ok (.istore_n 3, 1) := by decide +kernel
theorem dX2_isFirstRow_9 : decode cX2_isFirstRow 9 = .ok (.iload_n 0, 1) := by decide +kernel
theorem dX2_isFirstRow_10 : decode cX2_isFirstRow 10 = .ok (.iload_n 3, 1) := by decide +kernel
theorem dX2_isFirstRow_11 : decode cX2_isFirstRow 11 = .ok (.iand, 1) := by decide +kernel
theorem dX2_isFirstRow_12 : decode cX2_isFirstRow 12 = .ok (.ifCond .eq 7, 3) := by decide +kernel
theorem dX2_isFirstRow_15 : decode cX2_isFirstRow 15 = .ok (.iconst 1, 1) := by decide +kernel
theorem dX2_isFirstRow_16 : decode cX2_isFirstRow 16 = .ok (.goto 4, 3) := by decide +kernel
theorem dX2_isFirstRow_19 : decode cX2_isFirstRow 19 = .ok (.iconst 0, 1) := by decide +kernel
theorem dX2_isFirstRow_20 : decode cX2_isFirstRow 20 = .ok (.ireturn, 1) := by decide +kernel
theorem dX2_measureCabinetWays_0 : decode cX2_measureCabinetWays 0 = .ok (.iconst 0, 1) := by decide +kernel
theorem dX2_measureCabinetWays_1 : decode cX2_measureCabinetWays 1 = .ok (.istore_n 2, 1) := by decide +kernel
theorem dX2_measureCabinetWays_2 : decode cX2_measureCabinetWays 2 = .ok (.iload_n 2, 1) := by decide +kernel
theorem dX2_measureCabinetWays_3 : decode cX2_measureCabinetWays 3 = .ok (.aload_n 0, 1) := by decide +kernel
theorem dX2_measureCabinetWays_4 : decode cX2_measureCabinetWays 4 = .ok (.getfield 14, 3) := by decide +kernel
theorem dX2_measureCabinetWays_7 : decode cX2_measureCabinetWays 7 = .ok (.getfield 31, 3) := by decide +kernel
theorem dX2_measureCabinetWays_10 : decode cX2_measureCabinetWays 10 = .ok (.if_icmp .ge 67, 3) := by decide +kernel
theorem dX2_measureCabinetWays_13 : decode cX2_measureCabinetWays 13 = .ok (.sipush 1000, 3) := by decide +kernel
theorem dX2_measureCabinetWays_16 : decode cX2_measureCabinetWays 16 = .ok (.istore_n 3, 1) := by decide +kernel
theorem dX2_measureCabinetWays_17 : decode cX2_measureCabinetWays 17 = .ok (.iconst 0, 1) := by decide +kernel
theorem dX2_measureCabinetWays_18 : decode cX2_measureCabinetWays 18 = .ok (.istore 4, 2) := by decide +kernel
theorem dX2_measureCabinetWays_20 : decode cX2_measureCabinetWays 20 = .ok (.iload 4, 2) := by decide +kernel
theorem dX2_measureCabinetWays_22 : decode cX2_measureCabinetWays 22 = .ok (.aload_n 1, 1) := by decide +kernel
theorem dX2_measureCabinetWays_23 : decode cX2_measureCabinetWays 23 = .ok (.getfield 31, 3) := by decide +kernel
theorem dX2_measureCabinetWays_26 : decode cX2_measureCabinetWays 26 = .ok (.if_icmp .ge 38, 3) := by decide +kernel
theorem dX2_measureCabinetWays_29 : decode cX2_measureCabinetWays 29 = .ok (.iload_n 3, 1) := by decide +kernel
theorem dX2_measureCabinetWays_30 : decode cX2_measureCabinetWays 30 = .ok (.aload_n 1, 1) := by decide +kernel
theorem dX2_measureCabinetWays_31 : decode cX2_measureCabinetWays 31 = .ok (.iload 4, 2) := by decide +kernel
theorem dX2_measureCabinetWays_33 : decode cX2_measureCabinetWays 33 = .ok (.aload_n 0, 1) := by decide +kernel
theorem dX2_measureCabinetWays_34 : decode cX2_measureCabinetWays 34 = .ok (.getfield 14, 3) := by decide +kernel
theorem dX2_measureCabinetWays_37 : decode cX2_measureCabinetWays 37 = .ok (.getfield 51, 3) := by decide +kernel
theorem dX2_measureCabinetWays_40 : decode cX2_measureCabinetWays 40 = .ok (.iload_n 2, 1) := by decide +kernel
theorem dX2_measureCabinetWays_41 : decode cX2_measureCabinetWays 41 = .ok (.iaload, 1) := by decide +kernel
theorem dX2_measureCabinetWays_42 : decode cX2_measureCabinetWays 42 = .ok (.aload_n 0, 1) := by decide +kernel
theorem dX2_measureCabinetWays_43 : decode cX2_measureCabinetWays 43 = .ok (.getfield 14, 3) := by decide +kernel
theorem dX2_measureCabinetWays_46 : decode cX2_measureCabinetWays 46 = .ok (.getfield 54, 3) := by decide +kernel
theorem dX2_measureCabinetWays_49 : decode cX2_measureCabinetWays 49 = .ok (.iload_n 2, 1) := by decide +kernel
theorem dX2_measureCabinetWays_50 : decode cX2_measureCabinetWays 50 = .ok (.iaload, 1) := by decide +kernel
theorem dX2_measureCabinetWays_51 : decode cX2_measureCabinetWays 51 = .ok (.invokevirtual 57, 3) := by decide +kernel
theorem dX2_measureCabinetWays_54 : decode cX2_measureCabinetWays 54 = .ok (.invokestatic 61, 3) := by decide +kernel
theorem dX2_measureCabinetWays_57 : decode cX2_measureCabinetWays 57 = .ok (.istore_n 3, 1) := by decide +kernel
theorem dX2_measureCabinetWays_58 : decode cX2_measureCabinetWays 58 = .ok (.iinc 4 1, 3) := by decide +kernel
theorem dX2_measureCabinetWays_61 : decode cX2_measureCabinetWays 61 = .ok (.goto (-41), 3) := by decide +kernel
theorem dX2_measureCabinetWays_64 : decode cX2_measureCabinetWays 64 = .ok (.aload_n 0, 1) := by decide +kernel
theorem dX2_measureCabinetWays_65 : decode cX2_measureCabinetWays 65 = .ok (.getfield 23, 3) := by decide +kernel
theorem dX2_measureCabinetWays_68 : decode cX2_measureCabinetWays 68 = .ok (.iload_n 2, 1) := by decide +kernel
theorem dX2_measureCabinetWays_69 : decode cX2_measureCabinetWays 69 = .ok (.iload_n 3, 1) := by decide +kernel
theorem dX2_measureCabinetWays_70 : decode cX2_measureCabinetWays 70 = .ok (.iastore, 1) := by decide +kernel
theorem dX2_measureCabinetWays_71 : decode cX2_measureCabinetWays 71 = .ok (.iinc 2 1, 3) := by decide +kernel
theorem dX2_measureCabinetWays_74 : decode cX2_measureCabinetWays 74 = .ok (.goto (-72), 3) := by decide +kernel
theorem dX2_measureCabinetWays_77 : decode cX2_measureCabinetWays 77 = .ok (.return_, 1) := by decide +kernel
theorem dX2_sumOfWays_0 : decode cX2_sumOfWays 0 = .ok (.iconst 0, 1) := by decide +kernel
theorem dX2_sumOfWays_1 : decode cX2_sumOfWays 1 = .ok (.istore_n 2, 1) := by decide +kernel
theorem dX2_sumOfWays_2 : decode cX2_sumOfWays 2 = .ok (.iconst 0, 1) := by decide +kernel
theorem dX2_sumOfWays_3 : decode cX2_sumOfWays 3 = .ok (.istore_n 3, 1) := by decide +kernel
theorem dX2_sumOfWays_4 : decode cX2_sumOfWays 4 = .ok (.iload_n 3, 1) := by decide +kernel
theorem dX2_sumOfWays_5 : decode cX2_sumOfWays 5 = .ok (.aload_n 0, 1) := by decide +kernel
theorem dX2_sumOfWays_6 : decode cX2_sumOfWays 6 = .ok (.getfield 14, 3) := by decide +kernel
theorem dX2_sumOfWays_9 : decode cX2_sumOfWays 9 = .ok (.getfield 31, 3) := by decide +kernel
theorem dX2_sumOfWays_12 : decode cX2_sumOfWays 12 = .ok (.if_icmp .ge 86, 3) := by decide +kernel
theorem dX2_sumOfWays_15 : decode cX2_sumOfWays 15 = .ok (.aload_n 0, 1) := by decide +kernel
theorem dX2_sumOfWays_16 : decode cX2_sumOfWays 16 = .ok (.getfield 23, 3) := by decide +kernel
theorem dX2_sumOfWays_19 : decode cX2_sumOfWays 19 = .ok (.iload_n 3, 1) := by decide +kernel
theorem dX2_sumOfWays_20 : decode cX2_sumOfWays 20 = .ok (.iaload, 1) := by decide +kernel
theorem dX2_sumOfWays_21 : decode cX2_sumOfWays 21 = .ok (.istore 4, 2) := by decide +kernel
theorem dX2_sumOfWays_23 : decode cX2_sumOfWays 23 = .ok (.iconst 0, 1) := by decide +kernel
theorem dX2_sumOfWays_24 : decode cX2_sumOfWays 24 = .ok (.istore 5, 2) := by decide +kernel
theorem dX2_sumOfWays_26 : decode cX2_sumOfWays 26 = .ok (.iload 5, 2) := by decide +kernel
theorem dX2_sumOfWays_28 : decode cX2_sumOfWays 28 = .ok (.aload_n 0, 1) := by decide +kernel
theorem dX2_sumOfWays_29 : decode cX2_sumOfWays 29 = .ok (.getfield 20, 3) := by decide +kernel
theorem dX2_sumOfWays_32 : decode cX2_sumOfWays 32 = .ok (.getfield 31, 3) := by decide +kernel
theorem dX2_sumOfWays_35 : decode cX2_sumOfWays 35 = .ok (.if_icmp .ge 52, 3) := by decide +kernel
theorem dX2_sumOfWays_38 : decode cX2_sumOfWays 38 = .ok (.iload_n 1, 1) := by decide +kernel
theorem dX2_sumOfWays_39 : decode cX2_sumOfWays 39 = .ok (.iload 5, 2) := by decide +kernel
theorem dX2_sumOfWays_41 : decode cX2_sumOfWays 41 = .ok (.ishr, 1) := by decide +kernel
theorem dX2_sumOfWays_42 : decode cX2_sumOfWays 42 = .ok (.iconst 1, 1) := by decide +kernel
theorem dX2_sumOfWays_43 : decode cX2_sumOfWays 43 = .ok (.iand, 1) := by decide +kernel
theorem dX2_sumOfWays_44 : decode cX2_sumOfWays 44 = .ok (.ifCond .eq 37, 3) := by decide +kernel
theorem dX2_sumOfWays_47 : decode cX2_sumOfWays 47 = .ok (.iload 4, 2) := by decide +kernel
theorem dX2_sumOfWays_49 : decode cX2_sumOfWays 49 = .ok (.aload_n 0, 1) := by decide +kernel
theorem dX2_sumOfWays_50 : decode cX2_sumOfWays 50 = .ok (.getfield 20, 3) := by decide +kernel
theorem dX2_sumOfWays_53 : decode cX2_sumOfWays 53 = .ok (.iload 5, 2) := by decide +kernel
theorem dX2_sumOfWays_55 : decode cX2_sumOfWays 55 = .ok (.aload_n 0, 1) := by decide +kernel
theorem dX2_sumOfWays_56 : decode cX2_sumOfWays 56 = .ok (.getfield 14, 3) := by decide +kernel
theorem dX2_sumOfWays_59 : decode cX2_sumOfWays 59 = .ok (.getfield 51, 3) := by decide +kernel
theorem dX2_sumOfWays_62 : decode cX2_sumOfWays 62 = .ok (.iload_n 3, 1) := by decide +kernel
theorem dX2_sumOfWays_63 : decode cX2_sumOfWays 63 = .ok (.iaload, 1) := by decide +kernel
theorem dX2_sumOfWays_64 : decode cX2_sumOfWays 64 = .ok (.aload_n 0, 1) := by decide +kernel
theorem dX2_sumOfWays_65 : decode cX2_sumOfWays 65 = .ok (.getfield 14, 3) := by decide +kernel
theorem dX2_sumOfWays_68 : decode cX2_sumOfWays 68 = .ok (.getfield 54, 3) := by decide +kernel
theorem dX2_sumOfWays_71 : decode cX2_sumOfWays 71 = .ok (.iload_n 3, 1) := by decide +kernel
theorem dX2_sumOfWays_72 : decode cX2_sumOfWays 72 = .ok (.iaload, 1) := by decide +kernel
theorem dX2_sumOfWays_73 : decode cX2_sumOfWays 73 = .ok (.invokevirtual 57, 3) := by decide +kernel
theorem dX2_sumOfWays_76 : decode cX2_sumOfWays 76 = .ok (.invokestatic 61, 3) := by decide +kernel
theorem dX2_sumOfWays_79 : decode cX2_sumOfWays 79 = .ok (.istore 4, 2) := by decide +kernel
theorem dX2_sumOfWays_81 : decode cX2_sumOfWays 81 = .ok (.iinc 5 1, 3) := by decide +kernel
theorem dX2_sumOfWays_84 : decode cX2_sumOfWays 84 = .ok (.goto (-58), 3) := by decide +kernel
theorem dX2_sumOfWays_87 : decode cX2_sumOfWays 87 = .ok (.iload_n 2, 1) := by decide +kernel
theorem dX2_sumOfWays_88 : decode cX2_sumOfWays 88 = .ok (.iload 4, 2) := by decide +kernel
theorem dX2_sumOfWays_90 : decode cX2_sumOfWays 90 = .ok (.iadd, 1) := by decide +kernel
theorem dX2_sumOfWays_91 : decode cX2_sumOfWays 91 = .ok (.istore_n 2, 1) := by decide +kernel
theorem dX2_sumOfWays_92 : decode cX2_sumOfWays 92 = .ok (.iinc 3 1, 3) := by decide +kernel
theorem dX2_sumOfWays_95 : decode cX2_sumOfWays 95 = .ok (.goto (-91), 3) := by decide +kernel
theorem dX2_sumOfWays_98 : decode cX2_sumOfWays 98 = .ok (.iload_n 2, 1) := by decide +kernel
theorem dX2_sumOfWays_99 : decode cX2_sumOfWays 99 = .ok (.ireturn, 1) := by decide +kernel
end
section
theorem dX3_init_0 : decode cX3_init 0 = .ok (.aload_n 0, 1) := by decide +kernel
theorem dX3_init_1 : decode cX3_init 1 = .ok (.invokespecial 3, 3) := by decide +kernel
theorem dX3_init_4 : decode cX3_init 4 = .ok (.aload_n 0, 1) := by decide +kernel
theorem dX3_init_5 : decode cX3_init 5 = .ok (.bipush 30, 2) := by decide +kernel
theorem dX3_init_7 : decode cX3_init 7 = .ok (.newarray .int, 2) := by decide +kernel
theorem dX3_init_9 : decode cX3_init 9 = .ok (.putfield 9, 3) := by decide +kernel
theorem dX3_init_12 : decode cX3_init 12 = .ok (.aload_n 0, 1) := by decide +kernel
theorem dX3_init_13 : decode cX3_init 13 = .ok (.bipush 30, 2) := by decide +kernel
theorem dX3_init_15 : decode cX3_init 15 = .ok (.newarray .int, 2) := by decide +kernel
theorem dX3_init_17 : decode cX3_init 17 = .ok (.putfield 15, 3) := by decide +kernel
theorem dX3_init_20 : decode cX3_init 20 = .ok (.aload_n 0, 1) := by decide +kernel
theorem dX3_init_21 : decode cX3_init 21 = .ok (.bipush 30, 2) := by decide +kernel
theorem dX3_init_23 : decode cX3_init 23 = .ok (.newarray .boolean, 2) := by decide +kernel
theorem dX3_init_25 : decode cX3_init 25 = .ok (.putfield 18, 3) := by decide +kernel
theorem dX3_init_28 : decode cX3_init 28 = .ok (.aload_n 0, 1) := by decide +kernel
theorem dX3_init_29 : decode cX3_init 29 = .ok (.bipush 30, 2) := by decide +kernel
theorem dX3_init_31 : decode cX3_init 31 = .ok (.newarray .int, 2) := by decide +kernel
theorem dX3_init_33 : decode cX3_init 33 = .ok (.putfield 22, 3) := by decide +kernel
theorem dX3_init_36 : decode cX3_init 36 = .ok (.aload_n 0, 1) := by decide +kernel
theorem dX3_init_37 : decode cX3_init 37 = .ok (.bipush 30, 2) := by decide +kernel
theorem dX3_init_39 : decode cX3_init 39 = .ok (.newarray .int, 2) := by decide +kernel
theorem dX3_init_41 : decode cX3_init 41 = .ok (.putfield 25, 3) := by decide +kernel
theorem dX3_init_44 : decode cX3_init 44 = .ok (.return_, 1) := by decide +kernel
theorem dX3_has_0 : decode cX3_has 0 = .ok (.iload_n 1, 1) := by decide +kernel
theorem dX3_has_1 : decode cX3_has 1 = .ok (.iconst 0, 1) := by decide +kernel
theorem dX3_has_2 : decode cX3_has 2 = .ok (.aload_n 0, 1) := by decide +kernel
theorem dX3_has_3 : decode cX3_has 3 = .ok (.getfield 28, 3) := by decide +kernel
theorem dX3_has_6 : decode cX3_has 6 = .ok (.iconst 1, 1) := by decide +kernel
theorem dX3_has_7 : decode cX3_has 7 = .ok (.isub, 1) := by decide +kernel
theorem dX3_has_8 : decode cX3_has 8 = .ok (.invokestatic 32, 3) := by decide +kernel
theorem dX3_has_11 : decode cX3_has 11 = .ok (.ireturn, 1) := by decide +kernel
theorem dX3_add_0 : decode cX3_add 0 = .ok (.aload_n 0, 1) := by decide +kernel
theorem dX3_add_1 : decode cX3_add 1 = .ok (.getfield 28, 3) := by decide +kernel
theorem dX3_add_4 : decode cX3_add 4 = .ok (.bipush 30, 2) := by decide +kernel
theorem dX3_add_6 : decode cX3_add 6 = .ok (.if_icmp .lt 5, 3) := by decide +kernel
theorem dX3_add_9 : decode cX3_add 9 = .ok (.iconst (-1), 1) := by decide +kernel
theorem dX3_add_10 : decode cX3_add 10 = .ok (.ireturn, 1) := by decide +kernel
theorem dX3_add_11 : decode cX3_add 11 = .ok (.aload_n 0, 1) := by decide +kernel
theorem dX3_add_12 : decode cX3_add 12 = .ok (.getfield 9, 3) := by decide +kernel
theorem dX3_add_15 : decode cX3_add 15 = .ok (.aload_n 0, 1) := by decide +kernel
theorem dX3_add_16 : decode cX3_add 16 = .ok (.getfield 28, 3) := by decide +kernel
theorem dX3_add_19 : decode cX3_add 19 = .ok (.iload_n 2, 1) := by decide +kernel
theorem dX3_add_20 : decode cX3_add 20 = .ok (.iastore, 1) := by decide +kernel
theorem dX3_add_21 : decode cX3_add 21 = .ok (.aload_n 0, 1) := by decide +kernel
theorem dX3_add_22 : decode cX3_add 22 = .ok (.getfield 22, 3) := by decide +kernel
theorem dX3_add_25 : decode cX3_add 25 = .ok (.aload_n 0, 1) := by decide +kernel
theorem dX3_add_26 : decode cX3_add 26 = .ok (.getfield 28, 3) := by decide +kernel
theorem dX3_add_29 : decode cX3_add 29 = .ok (.iload_n 1, 1) := by decide +kernel
theorem dX3_add_30 : decode cX3_add 30 = .ok (.iastore, 1) := by decide +kernel
theorem dX3_add_31 : decode cX3_add 31 = .ok (.aload_n 0, 1) := by decide +kernel
theorem dX3_add_32 : decode cX3_add 32 = .ok (.getfield 25, 3) := by decide +kernel
theorem dX3_add_35 : decode cX3_add 35 = .ok (.aload_n 0, 1) := by decide +kernel
theorem dX3_add_36 : decode cX3_add 36 = .ok (.getfield 28, 3) := by decide +kernel
theorem dX3_add_39 : decode cX3_add 39 = .ok (.iconst (-1), 1) := by decide +kernel
theorem dX3_add_40 : decode cX3_add 40 = .ok (.iastore, 1) := by decide +kernel
theorem dX3_add_41 : decode cX3_add 41 = .ok (.aload_n 0, 1) := by decide +kernel
theorem dX3_add_42 : decode cX3_add 42 = .ok (.dup, 1) := by decide +kernel
theorem dX3_add_43 : decode cX3_add 43 = .ok (.getfield 28, 3) := by decide +kernel
theorem dX3_add_46 : decode cX3_add 46 = .ok (.iconst 1, 1) := by decide +kernel
theorem dX3_add_47 : decode cX3_add 47 = .ok (.iadd, 1) := by decide +kernel
theorem dX3_add_48 : decode cX3_add 48 = .ok (.putfield 28, 3) := by decide +kernel
theorem dX3_add_51 : decode cX3_add 51 = .ok (.aload_n 0, 1) := by decide +kernel
theorem dX3_add_52 : decode cX3_add 52 = .ok (.getfield 28, 3) := by decide +kernel
theorem dX3_add_55 : decode cX3_add 55 = .ok (.iconst 1, 1) := by decide +kernel
theorem dX3_add_56 : decode cX3_add 56 = .ok (.isub, 1) := by decide +kernel
theorem dX3_add_57 : decode cX3_add 57 = .ok (.ireturn, 1) := by decide +kernel
theorem dX3_isOut_0 : decode cX3_isOut 0 = .ok (.aload_n 0, 1) := by decide +kernel
theorem dX3_isOut_1 : decode cX3_isOut 1 = .ok (.getfield 22, 3) := by decide +kernel
theorem dX3_isOut_4 : decode cX3_isOut 4 = .ok (.iload_n 1, 1) := by decide +kernel
theorem dX3_isOut_5 : decode cX3_isOut 5 = .ok (.iaload, 1) := by decide +kernel
theorem dX3_isOut_6 : decode cX3_isOut 6 = .ok (.iconst (-1), 1) := by decide +kernel
theorem dX3_isOut_7 : decode cX3_isOut 7 = .ok (.if_icmp .ne 7, 3) := by decide +kernel
theorem dX3_isOut_10 : decode cX3_isOut 10 = .ok (.iconst 1, 1) := by decide +kernel
theorem dX3_isOut_11 : decode cX3_isOut 11 = .ok (.goto 4, 3) := by decide +kernel
theorem dX3_isOut_14 : decode cX3_isOut 14 = .ok (.iconst 0, 1) := by decide +kernel
theorem dX3_isOut_15 : decode cX3_isOut 15 = .ok (.ireturn, 1) := by decide +kernel
theorem dX3_isFit_0 : decode cX3_isFit 0 = .ok (.aload_n 0, 1) := by decide +kernel
theorem dX3_isFit_1 : decode cX3_isFit 1 = .ok (.getfield 18, 3) := by decide +kernel
theorem dX3_isFit_4 : decode cX3_isFit 4 = .ok (.iload_n 1, 1) := by decide +kernel
theorem dX3_isFit_5 : decode cX3_isFit 5 = .ok (.baload, 1) := by decide +kernel
theorem dX3_isFit_6 : decode cX3_isFit 6 = .ok (.ifCond .ne 17, 3) := by decide +kernel
theorem dX3_isFit_9 : decode cX3_isFit 9 = .ok (.aload_n 0, 1) := by decide +kernel
theorem dX3_isFit_10 : decode cX3_isFit 10 = .ok (.getfield 15, 3) := by decide +kernel
theorem dX3_isFit_13 : decode cX3_isFit 13 = .ok (.iload_n 1, 1) := by decide +kernel
theorem dX3_isFit_14 : decode cX3_isFit 14 = .ok (.iaload, 1) := by decide +kernel
theorem dX3_isFit_15 : decode cX3_isFit 15 = .ok (.iload_n 2, 1) := by decide +kernel
theorem dX3_isFit_16 : decode cX3_isFit 16 = .ok (.if_icmp .ge 7, 3) := by decide +kernel
theorem dX3_isFit_19 : decode cX3_isFit 19 = .ok (.iconst 1, 1) := by decide +kernel
theorem dX3_isFit_20 : decode cX3_isFit 20 = .ok (.goto 4, 3) := by decide +kernel
theorem dX3_isFit_23 : decode cX3_isFit 23 = .ok (.iconst 0, 1) := by decide +kernel
theorem dX3_isFit_24 : decode cX3_isFit 24 = .ok (.ireturn, 1) := by decide +kernel
theorem dX3_former_0 : decode cX3_former 0 = .ok (.iload_n 1, 1) := by decide +kernel
theorem dX3_former_1 : decode cX3_former 1 = .ok (.iconst (-1), 1) := by decide +kernel
theorem dX3_former_2 : decode cX3_former 2 = .ok (.if_icmp .eq 18, 3) := by decide +kernel
theorem dX3_former_5 : decode cX3_former 5 = .ok (.aload_n 0, 1) := by decide +kernel
theorem dX3_former_6 : decode cX3_former 6 = .ok (.getfield 9, 3) := by decide +kernel
theorem dX3_former_9 : decode cX3_former 9 = .ok (.iload_n 2, 1) := by decide +kernel
theorem dX3_former_10 : decode cX3_former 10 = .ok (.iaload, 1) := by decide +kernel
theorem dX3_former_11 : decode cX3_former 11 = .ok (.aload_n 0, 1) := by decide +kernel
theorem dX3_former_12 : decode cX3_former 12 = .ok (.getfield 9, 3) := by decide +kernel
theorem dX3_former_15 : decode cX3_former 15 = .ok (.iload_n 1, 1) := by decide +kernel
theorem dX3_former_16 : decode cX3_former 16 = .ok (.iaload, 1) := by decide +kernel
theorem dX3_former_17 : decode cX3_former 17 = .ok (.if_icmp .le 5, 3) := by decide +kernel
theorem dX3_former_20 : decode cX3_former 20 = .ok (.iload_n 2, 1) := by decide +kernel
theorem dX3_former_21 : decode cX3_former 21 = .ok (.ireturn, 1) := by decide +kernel
theorem dX3_former_22 : decode cX3_former 22 = .ok (.aload_n 0, 1) := by decide +kernel
theorem dX3_former_23 : decode cX3_former 23 = .ok (.getfield 9, 3) := by decide +kernel
theorem dX3_former_26 : decode cX3_former 26 = .ok (.iload_n 2, 1) := by decide +kernel
theorem dX3_former_27 : decode cX3_former 27 = .ok (.iaload, 1) := by decide +kernel
theorem dX3_former_28 : decode cX3_former 28 = .ok (.aload_n 0, 1) := by decide +kernel
theorem dX3_former_29 : decode cX3_former 29 = .ok (.getfield 9, 3) := by decide +kernel
theorem dX3_former_32 : decode cX3_former 32 = .ok (.iload_n 1, 1) := by decide +kernel
theorem dX3_former_33 : decode cX3_former 33 = .ok (.iaload, 1) := by decide +kernel
theorem dX3_former_34 : decode cX3_former 34 = .ok (.if_icmp .ne 22, 3) := by decide +kernel
theorem dX3_former_37 : decode cX3_former 37 = .ok (.aload_n 0, 1) := by decide +kernel
theorem dX3_former_38 : decode cX3_former 38 = .ok (.getfield 15, 3) := by decide +kernel
theorem dX3_former_41 : decode cX3_former 41 = .ok (.iload_n 2, 1) := by decide +kernel
theorem dX3_former_42 : decode cX3_former 42 = .ok (.iaload, 1) := by decide +kernel
theorem dX3_former_43 : decode cX3_former 43 = .ok (.aload_n 0, 1) := by decide +kernel
theorem dX3_former_44 : decode cX3_former 44 = .ok (.getfield 15, 3) := by decide +kernel
theorem dX3_former_47 : decode cX3_former 47 = .ok (.iload_n 1, 1) := by decide +kernel
theorem dX3_former_48 : decode cX3_former 48 = .ok (.iaload, 1) := by decide +kernel
theorem dX3_former_49 : decode cX3_former 49 = .ok (.if_icmp .ge 7, 3) := by decide +kernel
theorem dX3_former_52 : decode cX3_former 52 = .ok (.iconst 1, 1) := by decide +kernel
theorem dX3_former_53 : decode cX3_former 53 = .ok (.goto 4, 3) := by decide +kernel
theorem dX3_former_56 : decode cX3_former 56 = .ok (.iconst 0, 1) := by decide +kernel
theorem dX3_former_57 : decode cX3_former 57 = .ok (.istore_n 3, 1) := by decide +kernel
theorem dX3_former_58 : decode cX3_former 58 = .ok (.iload_n 3, 1) := by decide +kernel
theorem dX3_former_59 : decode cX3_former 59 = .ok (.ifCond .eq 7, 3) := by decide +kernel
theorem dX3_former_62 : decode cX3_former 62 = .ok (.iload_n 2, 1) := by decide +kernel
theorem dX3_former_63 : decode cX3_former 63 = .ok (.goto 4, 3) := by decide +kernel
theorem dX3_former_66 : decode cX3_former 66 = .ok (.iload_n 1, 1) := by decide +kernel
theorem dX3_former_67 : decode cX3_former 67 = .ok (.ireturn, 1) := by decide +kernel
theorem dX3_comeBack_0 : decode cX3_comeBack 0 = .ok (.aload_n 0, 1) := by decide +kernel
theorem dX3_comeBack_1 : decode cX3_comeBack 1 = .ok (.getfield 22, 3) := by decide +kernel
theorem dX3_comeBack_4 : decode cX3_comeBack 4 = .ok (.iload_n 1, 1) := by decide +kernel
theorem dX3_comeBack_5 : decode cX3_comeBack 5 = .ok (.iload_n 2, 1) := by decide +kernel
theorem dX3_comeBack_6 : decode cX3_comeBack 6 = .ok (.iastore, 1) := by decide +kernel
theorem dX3_comeBack_7 : decode cX3_comeBack 7 = .ok (.aload_n 0, 1) := by decide +kernel
theorem dX3_comeBack_8 : decode cX3_comeBack 8 = .ok (.getfield 9, 3) := by decide +kernel
theorem dX3_comeBack_11 : decode cX3_comeBack 11 = .ok (.iload_n 1, 1) := by decide +kernel
theorem dX3_comeBack_12 : decode cX3_comeBack 12 = .ok (.iload_n 3, 1) := by decide +kernel
theorem dX3_comeBack_13 : decode cX3_comeBack 13 = .ok (.iastore, 1) := by decide +kernel
theorem dX3_comeBack_14 : decode cX3_comeBack 14 = .ok (.return_, 1) := by decide +kernel
theorem dX3_load_0 : decode cX3_load 0 = .ok (.iload_n 2, 1) := by decide +kernel
theorem dX3_load_1 : decode cX3_load 1 = .ok (.bipush 100, 2) := by decide +kernel
theorem dX3_load_3 : decode cX3_load 3 = .ok (.aload_n 0, 1) := by decide +kernel
theorem dX3_load_4 : decode cX3_load 4 = .ok (.getfield 9, 3) := by decide +kernel
theorem dX3_load_7 : decode cX3_load 7 = .ok (.iload_n 1, 1) := by decide +kernel
theorem dX3_load_8 : decode cX3_load 8 = .ok (.iaload, 1) := by decide +kernel
theorem dX3_load_9 : decode cX3_load 9 = .ok (.isub, 1) := by decide +kernel
theorem dX3_load_10 : decode cX3_load 10 = .ok (.invokestatic 36, 3) := by decide +kernel
theorem dX3_load_13 : decode cX3_load 13 = .ok (.istore 4, 2) := by decide +kernel
theorem dX3_load_15 : decode cX3_load 15 = .ok (.aload_n 0, 1) := by decide +kernel
theorem dX3_load_16 : decode cX3_load 16 = .ok (.getfield 9, 3) := by decide +kernel
theorem dX3_load_19 : decode cX3_load 19 = .ok (.iload_n 1, 1) := by decide +kernel
theorem dX3_load_20 : decode cX3_load 20 = .ok (.dup2, 1) := by decide +kernel
theorem dX3_load_21 : decode cX3_load 21 = .ok (.iaload, 1) := by decide +kernel
theorem dX3_load_22 : decode cX3_load 22 = .ok (.iload 4, 2) := by decide +kernel
theorem dX3_load_24 : decode cX3_load 24 = .ok (.iadd, 1) := by decide +kernel
theorem dX3_load_25 : decode cX3_load 25 = .ok (.iastore, 1) := by decide +kernel
theorem dX3_load_26 : decode cX3_load 26 = .ok (.aload_n 0, 1) := by decide +kernel
theorem dX3_load_27 : decode cX3_load 27 = .ok (.getfield 15, 3) := by decide +kernel
theorem dX3_load_30 : decode cX3_load 30 = .ok (.iload_n 1, 1) := by decide +kernel
theorem dX3_load_31 : decode cX3_load 31 = .ok (.dup2, 1) := by decide +kernel
theorem dX3_load_32 : decode cX3_load 32 = .ok (.iaload, 1) := by decide +kernel
theorem dX3_load_33 : decode cX3_load 33 = .ok (.iload 4, 2) := by decide +kernel
theorem dX3_load_35 : decode cX3_load 35 = .ok (.iadd, 1) := by decide +kernel
theorem dX3_load_36 : decode cX3_load 36 = .ok (.iastore, 1) := by decide +kernel
theorem dX3_load_37 : decode cX3_load 37 = .ok (.aload_n 0, 1) := by decide +kernel
theorem dX3_load_38 : decode cX3_load 38 = .ok (.getfield 25, 3) := by decide +kernel
theorem dX3_load_41 : decode cX3_load 41 = .ok (.iload_n 1, 1) := by decide +kernel
theorem dX3_load_42 : decode cX3_load 42 = .ok (.iload_n 3, 1) := by decide +kernel
theorem dX3_load_43 : decode cX3_load 43 = .ok (.iastore, 1) := by decide +kernel
theorem dX3_load_44 : decode cX3_load 44 = .ok (.return_, 1) := by decide +kernel
theorem dX3_countIn_0 : decode cX3_countIn 0 = .ok (.iconst 0, 1) := by decide +kernel
theorem dX3_countIn_1 : decode cX3_countIn 1 = .ok (.istore_n 2, 1) := by decide +kernel
theorem dX3_countIn_2 : decode cX3_countIn 2 = .ok (.iconst 0, 1) := by decide +kernel
theorem dX3_countIn_3 : decode cX3_countIn 3 = .ok (.istore_n 3, 1) := by decide +kernel
theorem dX3_countIn_4 : decode cX3_countIn 4 = .ok (.iload_n 3, 1) := by decide +kernel
theorem dX3_countIn_5 : decode cX3_countIn 5 = .ok (.aload_n 0, 1) := by decide +kernel
theorem dX3_countIn_6 : decode cX3_countIn 6 = .ok (.getfield 28, 3) := by decide +kernel
theorem dX3_countIn_9 : decode cX3_countIn 9 = .ok (.if_icmp .ge 22, 3) := by decide +kernel
theorem dX3_countIn_12 : decode cX3_countIn 12 = .ok (.aload_n 0, 1) := by decide +kernel
theorem dX3_countIn_13 : decode cX3_countIn 13 = .ok (.getfield 22, 3) := by decide +kernel
theorem dX3_countIn_16 : decode cX3_countIn 16 = .ok (.iload_n 3, 1) := by decide +kernel
theorem dX3_countIn_17 : decode cX3_countIn 17 = .ok (.iaload, 1) := by decide +kernel
theorem dX3_countIn_18 : decode cX3_countIn 18 = .ok (.iload_n 1, 1) := by decide +kernel
theorem dX3_countIn_19 : decode cX3_countIn 19 = .ok (.if_icmp .ne 6, 3) := by decide +kernel
theorem dX3_countIn_22 : decode cX3_countIn 22 = .ok (.iinc 2 1, 3) := by decide +kernel
theorem dX3_countIn_25 : decode cX3_countIn 25 = .ok (.iinc 3 1, 3) := by decide +kernel
theorem dX3_countIn_28 : decode cX3_countIn 28 = .ok (.goto (-24), 3) := by decide +kernel
theorem dX3_countIn_31 : decode cX3_countIn 31 = .ok (.iload_n 2, 1) := by decide +kernel
theorem dX3_countIn_32 : decode cX3_countIn 32 = .ok (.ireturn, 1) := by decide +kernel
theorem dX3_countSick_0 : decode cX3_countSick 0 = .ok (.iconst 0, 1) := by decide +kernel
theorem dX3_countSick_1 : decode cX3_countSick 1 = .ok (.istore_n 1, 1) := by decide +kernel
theorem dX3_countSick_2 : decode cX3_countSick 2 = .ok (.iconst 0, 1) := by decide +kernel
theorem dX3_countSick_3 : decode cX3_countSick 3 = .ok (.istore_n 2, 1) := by decide +kernel
theorem dX3_countSick_4 : decode cX3_countSick 4 = .ok (.iload_n 2, 1) := by decide +kernel
theorem dX3_countSick_5 : decode cX3_countSick 5 = .ok (.aload_n 0, 1) := by decide +kernel
theorem dX3_countSick_6 : decode cX3_countSick 6 = .ok (.getfield 28, 3) := by decide +kernel
theorem dX3_countSick_9 : decode cX3_countSick 9 = .ok (.if_icmp .ge 21, 3) := by decide +kernel
theorem dX3_countSick_12 : decode cX3_countSick 12 = .ok (.aload_n 0, 1) := by decide +kernel
theorem dX3_countSick_13 : decode cX3_countSick 13 = .ok (.getfield 18, 3) := by decide +kernel
theorem dX3_countSick_16 : decode cX3_countSick 16 = .ok (.iload_n 2, 1) := by decide +kernel
theorem dX3_countSick_17 : decode cX3_countSick 17 = .ok (.baload, 1) := by decide +kernel
theorem dX3_countSick_18 : decode cX3_countSick 18 = .ok (.ifCond .eq 6, 3) := by decide +kernel
theorem dX3_countSick_21 : decode cX3_countSick 21 = .ok (.iinc 1 1, 3) := by decide +kernel
theorem dX3_countSick_24 : decode cX3_countSick 24 = .ok (.iinc 2 1, 3) := by decide +kernel
theorem dX3_countSick_27 : decode cX3_countSick 27 = .ok (.goto (-23), 3) := by decide +kernel
theorem dX3_countSick_30 : decode cX3_countSick 30 = .ok (.iload_n 1, 1) := by decide +kernel
theorem dX3_countSick_31 : decode cX3_countSick 31 = .ok (.ireturn, 1) := by decide +kernel
theorem dX3_countOld_0 : decode cX3_countOld 0 = .ok (.iconst 0, 1) := by decide +kernel
theorem dX3_countOld_1 : decode cX3_countOld 1 = .ok (.istore_n 2, 1) := by decide +kernel
theorem dX3_countOld_2 : decode cX3_countOld 2 = .ok (.iconst 0, 1) := by decide +kernel
theorem dX3_countOld_3 : decode cX3_countOld 3 = .ok (.istore_n 3, 1) := by decide +kernel
theorem dX3_countOld_4 : decode cX3_countOld 4 = .ok (.iload_n 3, 1) := by decide +kernel
theorem dX3_countOld_5 : decode cX3_countOld 5 = .ok (.aload_n 0, 1) := by decide +kernel
theorem dX3_countOld_6 : decode cX3_countOld 6 = .ok (.getfield 28, 3) := by decide +kernel
theorem dX3_countOld_9 : decode cX3_countOld 9 = .ok (.if_icmp .ge 22, 3) := by decide +kernel
theorem dX3_countOld_12 : decode cX3_countOld 12 = .ok (.aload_n 0, 1) := by decide +kernel
theorem dX3_countOld_13 : decode cX3_countOld 13 = .ok (.getfield 15, 3) := by decide +kernel
theorem dX3_countOld_16 : decode cX3_countOld 16 = .ok (.iload_n 3, 1) := by decide +kernel
theorem dX3_countOld_17 : decode cX3_countOld 17 = .ok (.iaload, 1) := by decide +kernel
theorem dX3_countOld_18 : decode cX3_countOld 18 = .ok (.iload_n 1, 1) := by decide +kernel
theorem dX3_countOld_19 : decode cX3_countOld 19 = .ok (.if_icmp .lt 6, 3) := by decide +kernel
theorem dX3_countOld_22 : decode cX3_countOld 22 = .ok (.iinc 2 1, 3) := by decide +kernel
theorem dX3_countOld_25 : decode cX3_countOld 25 = .ok (.iinc 3 1, 3) := by decide +kernel
theorem dX3_countOld_28 : decode cX3_countOld 28 = .ok (.goto (-24), 3) := by decide +kernel
theorem dX3_countOld_31 : decode cX3_countOld 31 = .ok (.iload_n 2, 1) := by decide +kernel
theorem dX3_countOld_32 : decode cX3_countOld 32 = .ok (.ireturn, 1) := by decide +kernel
end
section
theorem dX4_init_0 : decode cX4_init 0 = .ok (.aload_n 0, 1) := by decide +kernel
theorem dX4_init_1 : decode cX4_init 1 = .ok (.invokespecial 3, 3) := by decide +kernel
theorem dX4_init_4 : decode cX4_init 4 = .ok (.iload_n 1, 1) := by decide +kernel
theorem dX4_init_5 : decode cX4_init 5 = .ok (.iconst 0, 1) := by decide +kernel
theorem dX4_init_6 : decode cX4_init 6 = .ok (.invokestatic 9, 3) := by decide +kernel
theorem dX4_init_9 : decode cX4_init 9 = .ok (.istore_n 2, 1) := by decide +kernel
theorem dX4_init_10 : decode cX4_init 10 = .ok (.aload_n 0, 1) := by decide +kernel
theorem dX4_init_11 : decode cX4_init 11 = .ok (.iload_n 2, 1) := by decide +kernel
theorem dX4_init_12 : decode cX4_init 12 = .ok (.newarray .int, 2) := by decide +kernel
theorem dX4_init_14 : decode cX4_init 14 = .ok (.putfield 15, 3) := by decide +kernel
theorem dX4_init_17 : decode cX4_init 17 = .ok (.aload_n 0, 1) := by decide +kernel
theorem dX4_init_18 : decode cX4_init 18 = .ok (.iload_n 2, 1) := by decide +kernel
theorem dX4_init_19 : decode cX4_init 19 = .ok (.newarray .int, 2) := by decide +kernel
theorem dX4_init_21 : decode cX4_init 21 = .ok (.putfield 21, 3) := by decide +kernel
theorem dX4_init_24 : decode cX4_init 24 = .ok (.return_, 1) := by decide +kernel
theorem dX4_add_0 : decode cX4_add 0 = .ok (.aload_n 0, 1) := by decide +kernel
theorem dX4_add_1 : decode cX4_add 1 = .ok (.getfield 24, 3) := by decide +kernel
theorem dX4_add_4 : decode cX4_add 4 = .ok (.aload_n 0, 1) := by decide +kernel
theorem dX4_add_5 : decode cX4_add 5 = .ok (.getfield 15, 3) := by decide +kernel
theorem dX4_add_8 : decode cX4_add 8 = .ok (.arraylength, 1) := by decide +kernel
theorem dX4_add_9 : decode cX4_add 9 = .ok (.if_icmp .lt 5, 3) := by decide +kernel
theorem dX4_add_12 : decode cX4_add 12 = .ok (.iconst (-1), 1) := by decide +kernel
theorem dX4_add_13 : decode cX4_add 13 = .ok (.ireturn, 1) := by decide +kernel
theorem dX4_add_14 : decode cX4_add 14 = .ok (.aload_n 0, 1) := by decide +kernel
theorem dX4_add_15 : decode cX4_add 15 = .ok (.getfield 15, 3) := by decide +kernel
theorem dX4_add_18 : decode cX4_add 18 = .ok (.aload_n 0, 1) := by decide +kernel
theorem dX4_add_19 : decode cX4_add 19 = .ok (.getfield 24, 3) := by decide +kernel
theorem dX4_add_22 : decode cX4_add 22 = .ok (.iload_n 1, 1) := by decide +kernel
theorem dX4_add_23 : decode cX4_add 23 = .ok (.iastore, 1) := by decide +kernel
theorem dX4_add_24 : decode cX4_add 24 = .ok (.aload_n 0, 1) := by decide +kernel
theorem dX4_add_25 : decode cX4_add 25 = .ok (.getfield 21, 3) := by decide +kernel
theorem dX4_add_28 : decode cX4_add 28 = .ok (.aload_n 0, 1) := by decide +kernel
theorem dX4_add_29 : decode cX4_add 29 = .ok (.getfield 24, 3) := by decide +kernel
theorem dX4_add_32 : decode cX4_add 32 = .ok (.iload_n 2, 1) := by decide +kernel
theorem dX4_add_33 : decode cX4_add 33 = .ok (.iastore, 1) := by decide +kernel
theorem dX4_add_34 : decode cX4_add 34 = .ok (.aload_n 0, 1) := by decide +kernel
theorem dX4_add_35 : decode cX4_add 35 = .ok (.dup, 1) := by decide +kernel
theorem dX4_add_36 : decode cX4_add 36 = .ok (.getfield 24, 3) := by decide +kernel
theorem dX4_add_39 : decode cX4_add 39 = .ok (.iconst 1, 1) := by decide +kernel
theorem dX4_add_40 : decode cX4_add 40 = .ok (.iadd, 1) := by decide +kernel
theorem dX4_add_41 : decode cX4_add 41 = .ok (.putfield 24, 3) := by decide +kernel
theorem dX4_add_44 : decode cX4_add 44 = .ok (.aload_n 0, 1) := by decide +kernel
theorem dX4_add_45 : decode cX4_add 45 = .ok (.getfield 24, 3) := by decide +kernel
theorem dX4_add_48 : decode cX4_add 48 = .ok (.iconst 1, 1) := by decide +kernel
theorem dX4_add_49 : decode cX4_add 49 = .ok (.isub, 1) := by decide +kernel
theorem dX4_add_50 : decode cX4_add 50 = .ok (.ireturn, 1) := by decide +kernel
theorem dX4_distance_0 : decode cX4_distance 0 = .ok (.aload_n 0, 1) := by decide +kernel
theorem dX4_distance_1 : decode cX4_distance 1 = .ok (.getfield 15, 3) := by decide +kernel
theorem dX4_distance_4 : decode cX4_distance 4 = .ok (.iload_n 1, 1) := by decide +kernel
theorem dX4_distance_5 : decode cX4_distance 5 = .ok (.iaload, 1) := by decide +kernel
theorem dX4_distance_6 : decode cX4_distance 6 = .ok (.iload_n 2, 1) := by decide +kernel
theorem dX4_distance_7 : decode cX4_distance 7 = .ok (.isub, 1) := by decide +kernel
theorem dX4_distance_8 : decode cX4_distance 8 = .ok (.invokestatic 28, 3) := by decide +kernel
theorem dX4_distance_11 : decode cX4_distance 11 = .ok (.aload_n 0, 1) := by decide +kernel
theorem dX4_distance_12 : decode cX4_distance 12 = .ok (.getfield 21, 3) := by decide +kernel
theorem dX4_distance_15 : decode cX4_distance 15 = .ok (.iload_n 1, 1) := by decide +kernel
theorem dX4_distance_16 : decode cX4_distance 16 = .ok (.iaload, 1) := by decide +kernel
theorem dX4_distance_17 : decode cX4_distance 17 = .ok (.iload_n 3, 1) := by decide +kernel
theorem dX4_distance_18 : decode cX4_distance 18 = .ok (.isub, 1) := by decide +kernel
theorem dX4_distance_19 : decode cX4_distance 19 = .ok (.invokestatic 28, 3) := by decide +kernel
theorem dX4_distance_22 : decode cX4_distance 22 = .ok (.iadd, 1) := by decide +kernel
theorem dX4_distance_23 : decode cX4_distance 23 = .ok (.ireturn, 1) := by decide +kernel
end
section
theorem dX5_init_0 : decode cX5_init 0 = .ok (.aload_n 0, 1) := by decide +kernel
theorem dX5_init_1 : decode cX5_init 1 = .ok (.invokespecial 3, 3) := by decide +kernel
theorem dX5_init_4 : decode cX5_init 4 = .ok (.aload_n 0, 1) := by decide +kernel
theorem dX5_init_5 : decode cX5_init 5 = .ok (.bipush 6, 2) := by decide +kernel
theorem dX5_init_7 : decode cX5_init 7 = .ok (.newarray .int, 2) := by decide +kernel
theorem dX5_init_9 : decode cX5_init 9 = .ok (.putfield 9, 3) := by decide +kernel
theorem dX5_init_12 : decode cX5_init 12 = .ok (.aload_n 0, 1) := by decide +kernel
theorem dX5_init_13 : decode cX5_init 13 = .ok (.bipush 6, 2) := by decide +kernel
theorem dX5_init_15 : decode cX5_init 15 = .ok (.newarray .boolean, 2) := by decide +kernel
theorem dX5_init_17 : decode cX5_init 17 = .ok (.putfield 15, 3) := by decide +kernel
theorem dX5_init_20 : decode cX5_init 20 = .ok (.aload_n 0, 1) := by decide +kernel
theorem dX5_init_21 : decode cX5_init 21 = .ok (.bipush 6, 2) := by decide +kernel
theorem dX5_init_23 : decode cX5_init 23 = .ok (.newarray .int, 2) := by decide +kernel
theorem dX5_init_25 : decode cX5_init 25 = .ok (.putfield 19, 3) := by decide +kernel
theorem dX5_init_28 : decode cX5_init 28 = .ok (.aload_n 0, 1) := by decide +kernel
theorem dX5_init_29 : decode cX5_init 29 = .ok (.bipush 6, 2) := by decide +kernel
theorem dX5_init_31 : decode cX5_init 31 = .ok (.newarray .int, 2) := by decide +kernel
theorem dX5_init_33 : decode cX5_init 33 = .ok (.putfield 22, 3) := by decide +kernel
theorem dX5_init_36 : decode cX5_init 36 = .ok (.return_, 1) := by decide +kernel
theorem dX5_begin_0 : decode cX5_begin 0 = .ok (.aload_n 0, 1) := by decide +kernel
theorem dX5_begin_1 : decode cX5_begin 1 = .ok (.iload_n 1, 1) := by decide +kernel
theorem dX5_begin_2 : decode cX5_begin 2 = .ok (.putfield 25, 3) := by decide +kernel
theorem dX5_begin_5 : decode cX5_begin 5 = .ok (.aload_n 0, 1) := by decide +kernel
theorem dX5_begin_6 : decode cX5_begin 6 = .ok (.iconst 0, 1) := by decide +kernel
theorem dX5_begin_7 : decode cX5_begin 7 = .ok (.putfield 29, 3) := by decide +kernel
theorem dX5_begin_10 : decode cX5_begin 10 = .ok (.aload_n 0, 1) := by decide +kernel
theorem dX5_begin_11 : decode cX5_begin 11 = .ok (.bipush (-2), 2) := by decide +kernel
theorem dX5_begin_13 : decode cX5_begin 13 = .ok (.putfield 32, 3) := by decide +kernel
theorem dX5_begin_16 : decode cX5_begin 16 = .ok (.return_, 1) := by decide +kernel
theorem dX5_addSurplus_0 : decode cX5_addSurplus 0 = .ok (.aload_n 0, 1) := by decide +kernel
theorem dX5_addSurplus_1 : decode cX5_addSurplus 1 = .ok (.getfield 9, 3) := by decide +kernel
theorem dX5_addSurplus_4 : decode cX5_addSurplus 4 = .ok (.iload_n 1, 1) := by decide +kernel
theorem dX5_addSurplus_5 : decode cX5_addSurplus 5 = .ok (.iload_n 2, 1) := by decide +kernel
theorem dX5_addSurplus_6 : decode cX5_addSurplus 6 = .ok (.iastore, 1) := by decide +kernel
theorem dX5_addSurplus_7 : decode cX5_addSurplus 7 = .ok (.iload_n 2, 1) := by decide +kernel
theorem dX5_addSurplus_8 : decode cX5_addSurplus 8 = .ok (.ifCond .eq 13, 3) := by decide +kernel
theorem dX5_addSurplus_11 : decode cX5_addSurplus 11 = .ok (.aload_n 0, 1) := by decide +kernel
theorem dX5_addSurplus_12 : decode cX5_addSurplus 12 = .ok (.dup, 1) := by decide +kernel
theorem dX5_addSurplus_13 : decode cX5_addSurplus 13 = .ok (.getfield 29, 3) := by decide +kernel
theorem dX5_addSurplus_16 : decode cX5_addSurplus 16 = .ok (.iconst 1, 1) := by decide +kernel
theorem dX5_addSurplus_17 : decode cX5_addSurplus 17 = .ok (.iadd, 1) := by decide +kernel
theorem dX5_addSurplus_18 : decode cX5_addSurplus 18 = .ok (.putfield 29, 3) := by decide +kernel
theorem dX5_addSurplus_21 : decode cX5_addSurplus 21 = .ok (.return_, 1) := by decide +kernel
theorem dX5_keepShortest_0 : decode cX5_keepShortest 0 = .ok (.aload_n 0, 1) := by decide +kernel
theorem dX5_keepShortest_1 : decode cX5_keepShortest 1 = .ok (.aload_n 1, 1) := by decide +kernel
theorem dX5_keepShortest_2 : decode cX5_keepShortest 2 = .ok (.iconst 0, 1) := by decide +kernel
theorem dX5_keepShortest_3 : decode cX5_keepShortest 3 = .ok (.iconst 0, 1) := by decide +kernel
theorem dX5_keepShortest_4 : decode cX5_keepShortest 4 = .ok (.iconst 0, 1) := by decide +kernel
theorem dX5_keepShortest_5 : decode cX5_keepShortest 5 = .ok (.iconst 0, 1) := by decide +kernel
theorem dX5_keepShortest_6 : decode cX5_keepShortest 6 = .ok (.iconst 0, 1) := by decide +kernel
theorem dX5_keepShortest_7 : decode cX5_keepShortest 7 = .ok (.invokevirtual 35, 3) := by decide +kernel
theorem dX5_keepShortest_10 : decode cX5_keepShortest 10 = .ok (.aload_n 0, 1) := by decide +kernel
theorem dX5_keepShortest_11 : decode cX5_keepShortest 11 = .ok (.getfield 32, 3) := by decide +kernel
theorem dX5_keepShortest_14 : decode cX5_keepShortest 14 = .ok (.ireturn, 1) := by decide +kernel
theorem dX5_extend_0 : decode cX5_extend 0 = .ok (.iload 6, 2) := by decide +kernel
theorem dX5_extend_2 : decode cX5_extend 2 = .ok (.iload_n 3, 1) := by decide +kernel
theorem dX5_extend_3 : decode cX5_extend 3 = .ok (.iadd, 1) := by decide +kernel
theorem dX5_extend_4 : decode cX5_extend 4 = .ok (.iload 4, 2) := by decide +kernel
theorem dX5_extend_6 : decode cX5_extend 6 = .ok (.iadd, 1) := by decide +kernel
theorem dX5_extend_7 : decode cX5_extend 7 = .ok (.istore 7, 2) := by decide +kernel
theorem dX5_extend_9 : decode cX5_extend 9 = .ok (.aload_n 0, 1) := by decide +kernel
theorem dX5_extend_10 : decode cX5_extend 10 = .ok (.getfield 32, 3) := by decide +kernel
theorem dX5_extend_13 : decode cX5_extend 13 = .ok (.bipush (-2), 2) := by decide +kernel
theorem dX5_extend_15 : decode cX5_extend 15 = .ok (.if_icmp .eq 13, 3) := by decide +kernel
theorem dX5_extend_18 : decode cX5_extend 18 = .ok (.iload 7, 2) := by decide +kernel
theorem dX5_extend_20 : decode cX5_extend 20 = .ok (.aload_n 0, 1) := by decide +kernel
theorem dX5_extend_21 : decode cX5_extend 21 = .ok (.getfield 32, 3) := by decide +kernel
theorem dX5_extend_24 : decode cX5_extend 24 = .ok (.if_icmp .lt 4, 3) := by decide +kernel
theorem dX5_extend_27 : decode cX5_extend 27 = .ok (.return_, 1) := by decide +kernel
theorem dX5_extend_28 : decode cX5_extend 28 = .ok (.iload_n 2, 1) := by decide +kernel
theorem dX5_extend_29 : decode cX5_extend 29 = .ok (.aload_n 0, 1) := by decide +kernel
theorem dX5_extend_30 : decode cX5_extend 30 = .ok (.getfield 29, 3) := by decide +kernel
theorem dX5_extend_33 : decode cX5_extend 33 = .ok (.if_icmp .lt 10, 3) := by decide +kernel
theorem dX5_extend_36 : decode cX5_extend 36 = .ok (.aload_n 0, 1) := by decide +kernel
theorem dX5_extend_37 : decode cX5_extend 37 = .ok (.iload 7, 2) := by decide +kernel
theorem dX5_extend_39 : decode cX5_extend 39 = .ok (.invokevirtual 39, 3) := by decide +kernel
theorem dX5_extend_42 : decode cX5_extend 42 = .ok (.return_, 1) := by decide +kernel
theorem dX5_extend_43 : decode cX5_extend 43 = .ok (.iconst 0, 1) := by decide +kernel
theorem dX5_extend_44 : decode cX5_extend 44 = .ok (.istore 8, 2) := by decide +kernel
theorem dX5_extend_46 : decode cX5_extend 46 = .ok (.iload 8, 2) := by decide +kernel
theorem dX5_extend_48 : decode cX5_extend 48 = .ok (.aload_n 1, 1) := by decide +kernel
theorem dX5_extend_49 : decode cX5_extend 49 = .ok (.getfield 43, 3) := by decide +kernel
theorem dX5_extend_52 : decode cX5_extend 52 = .ok (.if_icmp .ge 118, 3) := by decide +kernel
theorem dX5_extend_55 : decode cX5_extend 55 = .ok (.iload 5, 2) := by decide +kernel
theorem dX5_extend_57 : decode cX5_extend 57 = .ok (.aload_n 0, 1) := by decide +kernel
theorem dX5_extend_58 : decode cX5_extend 58 = .ok (.getfield 9, 3) := by decide +kernel
theorem dX5_extend_61 : decode cX5_extend 61 = .ok (.iload 8, 2) := by decide +kernel
theorem dX5_extend_63 : decode cX5_extend 63 = .ok (.iaload, 1) := by decide +kernel
theorem dX5_extend_64 : decode cX5_extend 64 = .ok (.iadd, 1) := by decide +kernel
theorem dX5_extend_65 : decode cX5_extend 65 = .ok (.istore 9, 2) := by decide +kernel
theorem dX5_extend_67 : decode cX5_extend 67 = .ok (.aload_n 0, 1) := by decide +kernel
theorem dX5_extend_68 : decode cX5_extend 68 = .ok (.getfield 9, 3) := by decide +kernel
theorem dX5_extend_71 : decode cX5_extend 71 = .ok (.iload 8, 2) := by decide +kernel
theorem dX5_extend_73 : decode cX5_extend 73 = .ok (.iaload, 1) := by decide +kernel
theorem dX5_extend_74 : decode cX5_extend 74 = .ok (.ifCond .eq 90, 3) := by decide +kernel
theorem dX5_extend_77 : decode cX5_extend 77 = .ok (.aload_n 0, 1) := by decide +kernel
theorem dX5_extend_78 : decode cX5_extend 78 = .ok (.getfield 15, 3) := by decide +kernel
theorem dX5_extend_81 : decode cX5_extend 81 = .ok (.iload 8, 2) := by decide +kernel
theorem dX5_extend_83 : decode cX5_extend 83 = .ok (.baload, 1) := by decide +kernel
theorem dX5_extend_84 : decode cX5_extend 84 = .ok (.ifCond .ne 80, 3) := by decide +kernel
theorem dX5_extend_87 : decode cX5_extend 87 = .ok (.iload 9, 2) := by decide +kernel
theorem dX5_extend_89 : decode cX5_extend 89 = .ok (.iconst 0, 1) := by decide +kernel
theorem dX5_extend_90 : decode cX5_extend 90 = .ok (.aload_n 0, 1) := by decide +kernel
theorem dX5_extend_91 : decode cX5_extend 91 = .ok (.getfield 25, 3) := by decide +kernel
theorem dX5_extend_94 : decode cX5_extend 94 = .ok (.invokestatic 48, 3) := by decide +kernel
theorem dX5_extend_97 : decode cX5_extend 97 = .ok (.ifCond .eq 67, 3) := by decide +kernel
theorem dX5_extend_100 : decode cX5_extend 100 = .ok (.aload_n 0, 1) := by decide +kernel
theorem dX5_extend_101 : decode cX5_extend 101 = .ok (.getfield 15, 3) := by decide +kernel
theorem dX5_extend_104 : decode cX5_extend 104 = .ok (.iload 8, 2) := by decide +kernel
theorem dX5_extend_106 : decode cX5_extend 106 = .ok (.iconst 1, 1) := by decide +kernel
theorem dX5_extend_107 : decode cX5_extend 107 = .ok (.bastore, 1) := by decide +kernel
theorem dX5_extend_108 : decode cX5_extend 108 = .ok (.aload_n 0, 1) := by decide +kernel
theorem dX5_extend_109 : decode cX5_extend 109 = .ok (.getfield 19, 3) := by decide +kernel
theorem dX5_extend_112 : decode cX5_extend 112 = .ok (.iload_n 2, 1) := by decide +kernel
theorem dX5_extend_113 : decode cX5_extend 113 = .ok (.iload 8, 2) := by decide +kernel
theorem dX5_extend_115 : decode cX5_extend 115 = .ok (.iastore, 1) := by decide +kernel
theorem dX5_extend_116 : decode cX5_extend 116 = .ok (.iload 6, 2) := by decide +kernel
theorem dX5_extend_118 : decode cX5_extend 118 = .ok (.aload_n 1, 1) := by decide +kernel
theorem dX5_extend_119 : decode cX5_extend 119 = .ok (.iload 8, 2) := by decide +kernel
theorem dX5_extend_121 : decode cX5_extend 121 = .ok (.iload_n 3, 1) := by decide +kernel
theorem dX5_extend_122 : decode cX5_extend 122 = .ok (.iload 4, 2) := by decide +kernel
theorem dX5_extend_124 : decode cX5_extend 124 = .ok (.invokevirtual 52, 3) := by decide +kernel
theorem dX5_extend_127 : decode cX5_extend 127 = .ok (.iadd, 1) := by decide +kernel
theorem dX5_extend_128 : decode cX5_extend 128 = .ok (.istore 10, 2) := by decide +kernel
theorem dX5_extend_130 : decode cX5_extend 130 = .ok (.aload_n 0, 1) := by decide +kernel
theorem dX5_extend_131 : decode cX5_extend 131 = .ok (.aload_n 1, 1) := by decide +kernel
theorem dX5_extend_132 : decode cX5_extend 132 = .ok (.iload_n 2, 1) := by decide +kernel
theorem dX5_extend_133 : decode cX5_extend 133 = .ok (.iconst 1, 1) := by decide +kernel
theorem dX5_extend_134 : decode cX5_extend 134 = .ok (.iadd, 1) := by decide +kernel
theorem dX5_extend_135 : decode cX5_extend 135 = .ok (.aload_n 1, 1) := by decide +kernel
theorem dX5_extend_136 : decode cX5_extend 136 = .ok (.getfield 56, 3) := by decide +kernel
theorem dX5_extend_139 : decode cX5_extend 139 = .ok (.iload 8, 2) := by decide +kernel
theorem dX5_extend_141 : decode cX5_extend 141 = .ok (.iaload, 1) := by decide +kernel
theorem dX5_extend_142 : decode cX5_extend 142 = .ok (.aload_n 1, 1) := by decide +kernel
theorem dX5_extend_143 : decode cX5_extend 143 = .ok (.getfield 59, 3) := by decide +kernel
theorem dX5_extend_146 : decode cX5_extend 146 = .ok (.iload 8, 2) := by decide +kernel
theorem dX5_extend_148 : decode cX5_extend 148 = .ok (.iaload, 1) := by decide +kernel
theorem dX5_extend_149 : decode cX5_extend 149 = .ok (.iload 9, 2) := by decide +kernel
theorem dX5_extend_151 : decode cX5_extend 151 = .ok (.iload 10, 2) := by decide +kernel
theorem dX5_extend_153 : decode cX5_extend 153 = .ok (.invokevirtual 35, 3) := by decide +kernel
theorem dX5_extend_156 : decode cX5_extend 156 = .ok (.aload_n 0, 1) := by decide +kernel
theorem dX5_extend_157 : decode cX5_extend 157 = .ok (.getfield 15, 3) := by decide +kernel
theorem dX5_extend_160 : decode cX5_extend 160 = .ok (.iload 8, 2) := by decide +kernel
theorem dX5_extend_162 : decode cX5_extend 162 = .ok (.iconst 0, 1) := by decide +kernel
theorem dX5_extend_163 : decode cX5_extend 163 = .ok (.bastore, 1) := by decide +kernel
theorem dX5_extend_164 : decode cX5_extend 164 = .ok (.iinc 8 1, 3) := by decide +kernel
theorem dX5_extend_167 : decode cX5_extend 167 = .ok (.goto (-121), 3) := by decide +kernel
theorem dX5_extend_170 : decode cX5_extend 170 = .ok (.return_, 1) := by decide +kernel
theorem dX5_keepRow_0 : decode cX5_keepRow 0 = .ok (.aload_n 0, 1) := by decide +kernel
theorem dX5_keepRow_1 : decode cX5_keepRow 1 = .ok (.iload_n 1, 1) := by decide +kernel
theorem dX5_keepRow_2 : decode cX5_keepRow 2 = .ok (.putfield 32, 3) := by decide +kernel
theorem dX5_keepRow_5 : decode cX5_keepRow 5 = .ok (.aload_n 0, 1) := by decide +kernel
theorem dX5_keepRow_6 : decode cX5_keepRow 6 = .ok (.aload_n 0, 1) := by decide +kernel
theorem dX5_keepRow_7 : decode cX5_keepRow 7 = .ok (.getfield 29, 3) := by decide +kernel
theorem dX5_keepRow_10 : decode cX5_keepRow 10 = .ok (.putfield 62, 3) := by decide +kernel
theorem dX5_keepRow_13 : decode cX5_keepRow 13 = .ok (.iconst 0, 1) := by decide +kernel
theorem dX5_keepRow_14 : decode cX5_keepRow 14 = .ok (.istore_n 2, 1) := by decide +kernel
theorem dX5_keepRow_15 : decode cX5_keepRow 15 = .ok (.iload_n 2, 1) := by decide +kernel
theorem dX5_keepRow_16 : decode cX5_keepRow 16 = .ok (.aload_n 0, 1) := by decide +kernel
theorem dX5_keepRow_17 : decode cX5_keepRow 17 = .ok (.getfield 29, 3) := by decide +kernel
theorem dX5_keepRow_20 : decode cX5_keepRow 20 = .ok (.if_icmp .ge 21, 3) := by decide +kernel
theorem dX5_keepRow_23 : decode cX5_keepRow 23 = .ok (.aload_n 0, 1) := by decide +kernel
theorem dX5_keepRow_24 : decode cX5_keepRow 24 = .ok (.getfield 22, 3) := by decide +kernel
theorem dX5_keepRow_27 : decode cX5_keepRow 27 = .ok (.iload_n 2, 1) := by decide +kernel
theorem dX5_keepRow_28 : decode cX5_keepRow 28 = .ok (.aload_n 0, 1) := by decide +kernel
theorem dX5_keepRow_29 : decode cX5_keepRow 29 = .ok (.getfield 19, 3) := by decide +kernel
theorem dX5_keepRow_32 : decode cX5_keepRow 32 = .ok (.iload_n 2, 1) := by decide +kernel
theorem dX5_keepRow_33 : decode cX5_keepRow 33 = .ok (.iaload, 1) := by decide +kernel
theorem dX5_keepRow_34 : decode cX5_keepRow 34 = .ok (.iastore, 1) := by decide +kernel
theorem dX5_keepRow_35 : decode cX5_keepRow 35 = .ok (.iinc 2 1, 3) := by decide +kernel
theorem dX5_keepRow_38 : decode cX5_keepRow 38 = .ok (.goto (-23), 3) := by decide +kernel
theorem dX5_keepRow_41 : decode cX5_keepRow 41 = .ok (.return_, 1) := by decide +kernel
end
section
theorem dX6_init_0 : decode cX6_init 0 = .ok (.aload_n 0, 1) := by decide +kernel
theorem dX6_init_1 : decode cX6_init 1 = .ok (.invokespecial 1, 3) := by decide +kernel
theorem dX6_init_4 : decode cX6_init 4 = .ok (.aload_n 0, 1) := by decide +kernel
theorem dX6_init_5 : decode cX6_init 5 = .ok (.iconst 5, 1) := by decide +kernel
theorem dX6_init_6 : decode cX6_init 6 = .ok (.newarray .int, 2) := by decide +kernel
theorem dX6_init_8 : decode cX6_init 8 = .ok (.dup, 1) := by decide +kernel
theorem dX6_init_9 : decode cX6_init 9 = .ok (.iconst 0, 1) := by decide +kernel
theorem dX6_init_10 : decode cX6_init 10 = .ok (.sipush 2000, 3) := by decide +kernel
theorem dX6_init_13 : decode cX6_init 13 = .ok (.iastore, 1) := by decide +kernel
theorem dX6_init_14 : decode cX6_init 14 = .ok (.dup, 1) := by decide +kernel
theorem dX6_init_15 : decode cX6_init 15 = .ok (.iconst 1, 1) := by decide +kernel
theorem dX6_init_16 : decode cX6_init 16 = .ok (.bipush 80, 2) := by decide +kernel
theorem dX6_init_18 : decode cX6_init 18 = .ok (.iastore, 1) := by decide +kernel
theorem dX6_init_19 : decode cX6_init 19 = .ok (.dup, 1) := by decide +kernel
theorem dX6_init_20 : decode cX6_init 20 = .ok (.iconst 2, 1) := by decide +kernel
theorem dX6_init_21 : decode cX6_init 21 = .ok (.sipush 1000, 3) := by decide +kernel
theorem dX6_init_24 : decode cX6_init 24 = .ok (.iastore, 1) := by decide +kernel
theorem dX6_init_25 : decode cX6_init 25 = .ok (.dup, 1) := by decide +kernel
theorem dX6_init_26 : decode cX6_init 26 = .ok (.iconst 3, 1) := by decide +kernel
theorem dX6_init_27 : decode cX6_init 27 = .ok (.bipush 25, 2) := by decide +kernel
theorem dX6_init_29 : decode cX6_init 29 = .ok (.iastore, 1) := by decide +kernel
theorem dX6_init_30 : decode cX6_init 30 = .ok (.dup, 1) := by decide +kernel
theorem dX6_init_31 : decode cX6_init 31 = .ok (.iconst 4, 1) := by decide +kernel
theorem dX6_init_32 : decode cX6_init 32 = .ok (.bipush 10, 2) := by decide +kernel
theorem dX6_init_34 : decode cX6_init 34 = .ok (.iastore, 1) := by decide +kernel
theorem dX6_init_35 : decode cX6_init 35 = .ok (.putfield 7, 3) := by decide +kernel
theorem dX6_init_38 : decode cX6_init 38 = .ok (.aload_n 0, 1) := by decide +kernel
theorem dX6_init_39 : decode cX6_init 39 = .ok (.bipush 24, 2) := by decide +kernel
theorem dX6_init_41 : decode cX6_init 41 = .ok (.newarray .int, 2) := by decide +kernel
theorem dX6_init_43 : decode cX6_init 43 = .ok (.putfield 13, 3) := by decide +kernel
theorem dX6_init_46 : decode cX6_init 46 = .ok (.aload_n 0, 1) := by decide +kernel
theorem dX6_init_47 : decode cX6_init 47 = .ok (.new 16, 3) := by decide +kernel
theorem dX6_init_50 : decode cX6_init 50 = .ok (.dup, 1) := by decide +kernel
theorem dX6_init_51 : decode cX6_init 51 = .ok (.invokespecial 18, 3) := by decide +kernel
theorem dX6_init_54 : decode cX6_init 54 = .ok (.putfield 19, 3) := by decide +kernel
theorem dX6_init_57 : decode cX6_init 57 = .ok (.aload_n 0, 1) := by decide +kernel
theorem dX6_init_58 : decode cX6_init 58 = .ok (.new 23, 3) := by decide +kernel
theorem dX6_init_61 : decode cX6_init 61 = .ok (.dup, 1) := by decide +kernel
theorem dX6_init_62 : decode cX6_init 62 = .ok (.invokespecial 25, 3) := by decide +kernel
theorem dX6_init_65 : decode cX6_init 65 = .ok (.putfield 26, 3) := by decide +kernel
theorem dX6_init_68 : decode cX6_init 68 = .ok (.aload_n 0, 1) := by decide +kernel
theorem dX6_init_69 : decode cX6_init 69 = .ok (.new 30, 3) := by decide +kernel
theorem dX6_init_72 : decode cX6_init 72 = .ok (.dup, 1) := by decide +kernel
theorem dX6_init_73 : decode cX6_init 73 = .ok (.invokespecial 32, 3) := by decide +kernel
theorem dX6_init_76 : decode cX6_init 76 = .ok (.putfield 33, 3) := by decide +kernel
theorem dX6_init_79 : decode cX6_init 79 = .ok (.aload_n 0, 1) := by decide +kernel
theorem dX6_init_80 : decode cX6_init 80 = .ok (.new 37, 3) := by decide +kernel
theorem dX6_init_83 : decode cX6_init 83 = .ok (.dup, 1) := by decide +kernel
theorem dX6_init_84 : decode cX6_init 84 = .ok (.invokespecial 39, 3) := by decide +kernel
theorem dX6_init_87 : decode cX6_init 87 = .ok (.putfield 40, 3) := by decide +kernel
theorem dX6_init_90 : decode cX6_init 90 = .ok (.aload_n 0, 1) := by decide +kernel
theorem dX6_init_91 : decode cX6_init 91 = .ok (.new 44, 3) := by decide +kernel
theorem dX6_init_94 : decode cX6_init 94 = .ok (.dup, 1) := by decide +kernel
theorem dX6_init_95 : decode cX6_init 95 = .ok (.invokespecial 46, 3) := by decide +kernel
theorem dX6_init_98 : decode cX6_init 98 = .ok (.putfield 47, 3) := by decide +kernel
theorem dX6_init_101 : decode cX6_init 101 = .ok (.aload_n 0, 1) := by decide +kernel
theorem dX6_init_102 : decode cX6_init 102 = .ok (.getfield 13, 3) := by decide +kernel
theorem dX6_init_105 : decode cX6_init 105 = .ok (.bipush 10, 2) := by decide +kernel
theorem dX6_init_107 : decode cX6_init 107 = .ok (.invokestatic 51, 3) := by decide +kernel
theorem dX6_init_110 : decode cX6_init 110 = .ok (.return_, 1) := by decide +kernel
theorem dX6_cabinet_0 : decode cX6_cabinet 0 = .ok (.iload_n 1, 1) := by decide +kernel
theorem dX6_cabinet_1 : decode cX6_cabinet 1 = .ok (.iload_n 2, 1) := by decide +kernel
theorem dX6_cabinet_2 : decode cX6_cabinet 2 = .ok (.invokestatic 57, 3) := by decide +kernel
theorem dX6_cabinet_5 : decode cX6_cabinet 5 = .ok (.ifCond .eq 35, 3) := by decide +kernel
theorem dX6_cabinet_8 : decode cX6_cabinet 8 = .ok (.iload_n 3, 1) := by decide +kernel
theorem dX6_cabinet_9 : decode cX6_cabinet 9 = .ok (.iconst 1, 1) := by decide +kernel
theorem dX6_cabinet_10 : decode cX6_cabinet 10 = .ok (.bipush 8, 2) := by decide +kernel
theorem dX6_cabinet_12 : decode cX6_cabinet 12 = .ok (.invokestatic 61, 3) := by decide +kernel
theorem dX6_cabinet_15 : decode cX6_cabinet 15 = .ok (.ifCond .eq 25, 3) := by decide +kernel
theorem dX6_cabinet_18 : decode cX6_cabinet 18 = .ok (.iload 4, 2) := by decide +kernel
theorem dX6_cabinet_20 : decode cX6_cabinet 20 = .ok (.iconst 0, 1) := by decide +kernel
theorem dX6_cabinet_21 : decode cX6_cabinet 21 = .ok (.bipush 8, 2) := by decide +kernel
theorem dX6_cabinet_23 : decode cX6_cabinet 23 = .ok (.invokestatic 61, 3) := by decide +kernel
theorem dX6_cabinet_26 : decode cX6_cabinet 26 = .ok (.ifCond .eq 14, 3) := by decide +kernel
theorem dX6_cabinet_29 : decode cX6_cabinet 29 = .ok (.iload 5, 2) := by decide +kernel
theorem dX6_cabinet_31 : decode cX6_cabinet 31 = .ok (.iconst 0, 1) := by decide +kernel
theorem dX6_cabinet_32 : decode cX6_cabinet 32 = .ok (.bipush 8, 2) := by decide +kernel
theorem dX6_cabinet_34 : decode cX6_cabinet 34 = .ok (.invokestatic 61, 3) := by decide +kernel
theorem dX6_cabinet_37 : decode cX6_cabinet 37 = .ok (.ifCond .ne 5, 3) := by decide +kernel
theorem dX6_cabinet_40 : decode cX6_cabinet 40 = .ok (.iconst (-1), 1) := by decide +kernel
theorem dX6_cabinet_41 : decode cX6_cabinet 41 = .ok (.ireturn, 1) := by decide +kernel
theorem dX6_cabinet_42 : decode cX6_cabinet 42 = .ok (.aload_n 0, 1) := by decide +kernel
theorem dX6_cabinet_43 : decode cX6_cabinet 43 = .ok (.getfield 19, 3) := by decide +kernel
theorem dX6_cabinet_46 : decode cX6_cabinet 46 = .ok (.iload_n 1, 1) := by decide +kernel
theorem dX6_cabinet_47 : decode cX6_cabinet 47 = .ok (.iload_n 2, 1) := by decide +kernel
theorem dX6_cabinet_48 : decode cX6_cabinet 48 = .ok (.iload_n 3, 1) := by decide +kernel
theorem dX6_cabinet_49 : decode cX6_cabinet 49 = .ok (.iload 4, 2) := by decide +kernel
theorem dX6_cabinet_51 : decode cX6_cabinet 51 = .ok (.iload 5, 2) := by decide +kernel
theorem dX6_cabinet_53 : decode cX6_cabinet 53 = .ok (.invokevirtual 65, 3) := by decide +kernel
theorem dX6_cabinet_56 : decode cX6_cabinet 56 = .ok (.ireturn, 1) := by decide +kernel
theorem dX6_pack_0 : decode cX6_pack 0 = .ok (.aload_n 0, 1) := by decide +kernel
theorem dX6_pack_1 : decode cX6_pack 1 = .ok (.iload_n 1, 1) := by decide +kernel
theorem dX6_pack_2 : decode cX6_pack 2 = .ok (.invokevirtual 69, 3) := by decide +kernel
theorem dX6_pack_5 : decode cX6_pack 5 = .ok (.ifCond .eq 13, 3) := by decide +kernel
theorem dX6_pack_8 : decode cX6_pack 8 = .ok (.iload_n 2, 1) := by decide +kernel
theorem dX6_pack_9 : decode cX6_pack 9 = .ok (.iconst 0, 1) := by decide +kernel
theorem dX6_pack_10 : decode cX6_pack 10 = .ok (.bipush 100, 2) := by decide +kernel
theorem dX6_pack_12 : decode cX6_pack 12 = .ok (.invokestatic 61, 3) := by decide +kernel
theorem dX6_pack_15 : decode cX6_pack 15 = .ok (.ifCond .ne 5, 3) := by decide +kernel
theorem dX6_pack_18 : decode cX6_pack 18 = .ok (.iconst (-1), 1) := by decide +kernel
theorem dX6_pack_19 : decode cX6_pack 19 = .ok (.ireturn, 1) := by decide +kernel
theorem dX6_pack_20 : decode cX6_pack 20 = .ok (.aload_n 0, 1) := by decide +kernel
theorem dX6_pack_21 : decode cX6_pack 21 = .ok (.getfield 26, 3) := by decide +kernel
theorem dX6_pack_24 : decode cX6_pack 24 = .ok (.iload_n 1, 1) := by decide +kernel
theorem dX6_pack_25 : decode cX6_pack 25 = .ok (.iload_n 2, 1) := by decide +kernel
theorem dX6_pack_26 : decode cX6_pack 26 = .ok (.invokevirtual 73, 3) := by decide +kernel
theorem dX6_pack_29 : decode cX6_pack 29 = .ok (.ireturn, 1) := by decide +kernel
theorem dX6_set_0 : decode cX6_set 0 = .ok (.iload_n 1, 1) := by decide +kernel
theorem dX6_set_1 : decode cX6_set 1 = .ok (.iconst 0, 1) := by decide +kernel
theorem dX6_set_2 : decode cX6_set 2 = .ok (.iconst 4, 1) := by decide +kernel
theorem dX6_set_3 : decode cX6_set 3 = .ok (.invokestatic 61, 3) := by decide +kernel
theorem dX6_set_6 : decode cX6_set 6 = .ok (.ifCond .eq 20, 3) := by decide +kernel
theorem dX6_set_9 : decode cX6_set 9 = .ok (.iload_n 2, 1) := by decide +kernel
theorem dX6_set_10 : decode cX6_set 10 = .ok (.getstatic 76, 3) := by decide +kernel
theorem dX6_set_13 : decode cX6_set 13 = .ok (.iload_n 1, 1) := by decide +kernel
theorem dX6_set_14 : decode cX6_set 14 = .ok (.iaload, 1) := by decide +kernel
theorem dX6_set_15 : decode cX6_set 15 = .ok (.getstatic 79, 3) := by decide +kernel
theorem dX6_set_18 : decode cX6_set 18 = .ok (.iload_n 1, 1) := by decide +kernel
theorem dX6_set_19 : decode cX6_set 19 = .ok (.iaload, 1) := by decide +kernel
theorem dX6_set_20 : decode cX6_set 20 = .ok (.invokestatic 61, 3) := by decide +kernel
theorem dX6_set_23 : decode cX6_set 23 = .ok (.ifCond .ne 5, 3) := by decide +kernel
theorem dX6_set_26 : decode cX6_set 26 = .ok (.iconst (-1), 1) := by decide +kernel
theorem dX6_set_27 : decode cX6_set 27 = .ok (.ireturn, 1) := by decide +kernel
theorem dX6_set_28 : decode cX6_set 28 = .ok (.aload_n 0, 1) := by decide +kernel
theorem dX6_set_29 : decode cX6_set 29 = .ok (.getfield 7, 3) := by decide +kernel
theorem dX6_set_32 : decode cX6_set 32 = .ok (.iload_n 1, 1) := by decide +kernel
theorem dX6_set_33 : decode cX6_set 33 = .ok (.iaload, 1) := by decide +kernel
theorem dX6_set_34 : decode cX6_set 34 = .ok (.istore_n 3, 1) := by decide +kernel
theorem dX6_set_35 : decode cX6_set 35 = .ok (.aload_n 0, 1) := by decide +kernel
theorem dX6_set_36 : decode cX6_set 36 = .ok (.getfield 7, 3) := by decide +kernel
theorem dX6_set_39 : decode cX6_set 39 = .ok (.iload_n 1, 1) := by decide +kernel
theorem dX6_set_40 : decode cX6_set 40 = .ok (.iload_n 2, 1) := by decide +kernel
theorem dX6_set_41 : decode cX6_set 41 = .ok (.iastore, 1) := by decide +kernel
theorem dX6_set_42 : decode cX6_set 42 = .ok (.iload_n 3, 1) := by decide +kernel
theorem dX6_set_43 : decode cX6_set 43 = .ok (.ireturn, 1) := by decide +kernel
theorem dX6_price_0 : decode cX6_price 0 = .ok (.iload_n 1, 1) := by decide +kernel
theorem dX6_price_1 : decode cX6_price 1 = .ok (.iconst 0, 1) := by decide +kernel
theorem dX6_price_2 : decode cX6_price 2 = .ok (.bipush 23, 2) := by decide +kernel
theorem dX6_price_4 : decode cX6_price 4 = .ok (.invokestatic 61, 3) := by decide +kernel
theorem dX6_price_7 : decode cX6_price 7 = .ok (.ifCond .eq 14, 3) := by decide +kernel
theorem dX6_price_10 : decode cX6_price 10 = .ok (.iload_n 2, 1) := by decide +kernel
theorem dX6_price_11 : decode cX6_price 11 = .ok (.iconst 0, 1) := by decide +kernel
theorem dX6_price_12 : decode cX6_price 12 = .ok (.sipush 1000, 3) := by decide +kernel
theorem dX6_price_15 : decode cX6_price 15 = .ok (.invokestatic 61, 3) := by decide +kernel
theorem dX6_price_18 : decode cX6_price 18 = .ok (.ifCond .ne 5, 3) := by decide +kernel
theorem dX6_price_21 : decode cX6_price 21 = .ok (.iconst 0, 1) := by decide +kernel
theorem dX6_price_22 : decode cX6_price 22 = .ok (.ireturn, 1) := by decide +kernel
theorem dX6_price_23 : decode cX6_price 23 = .ok (.aload_n 0, 1) := by decide +kernel
theorem dX6_price_24 : decode cX6_price 24 = .ok (.getfield 13, 3) := by decide +kernel
theorem dX6_price_27 : decode cX6_price 27 = .ok (.iload_n 1, 1) := by decide +kernel
theorem dX6_price_28 : decode cX6_price 28 = .ok (.iload_n 2, 1) := by decide +kernel
theorem dX6_price_29 : decode cX6_price 29 = .ok (.iastore, 1) := by decide +kernel
theorem dX6_price_30 : decode cX6_price 30 = .ok (.iconst 1, 1) := by decide +kernel
theorem dX6_price_31 : decode cX6_price 31 = .ok (.ireturn, 1) := by decide +kernel
theorem dX6_sick_0 : decode cX6_sick 0 = .ok (.aload_n 0, 1) := by decide +kernel
theorem dX6_sick_1 : decode cX6_sick 1 = .ok (.getfield 26, 3) := by decide +kernel
theorem dX6_sick_4 : decode cX6_sick 4 = .ok (.iload_n 1, 1) := by decide +kernel
theorem dX6_sick_5 : decode cX6_sick 5 = .ok (.invokevirtual 82, 3) := by decide +kernel
theorem dX6_sick_8 : decode cX6_sick 8 = .ok (.ifCond .ne 5, 3) := by decide +kernel
theorem dX6_sick_11 : decode cX6_sick 11 = .ok (.iconst 0, 1) := by decide +kernel
theorem dX6_sick_12 : decode cX6_sick 12 = .ok (.ireturn, 1) := by decide +kernel
theorem dX6_sick_13 : decode cX6_sick 13 = .ok (.aload_n 0, 1) := by decide +kernel
theorem dX6_sick_14 : decode cX6_sick 14 = .ok (.getfield 26, 3) := by decide +kernel
theorem dX6_sick_17 : decode cX6_sick 17 = .ok (.getfield 85, 3) := by decide +kernel
theorem dX6_sick_20 : decode cX6_sick 20 = .ok (.iload_n 1, 1) := by decide +kernel
theorem dX6_sick_21 : decode cX6_sick 21 = .ok (.iload_n 2, 1) := by decide +kernel
theorem dX6_sick_22 : decode cX6_sick 22 = .ok (.bastore, 1) := by decide +kernel
theorem dX6_sick_23 : decode cX6_sick 23 = .ok (.iconst 1, 1) := by decide +kernel
theorem dX6_sick_24 : decode cX6_sick 24 = .ok (.ireturn, 1) := by decide +kernel
theorem dX6_take_0 : decode cX6_take 0 = .ok (.aload_n 0, 1) := by decide +kernel
theorem dX6_take_1 : decode cX6_take 1 = .ok (.iload_n 1, 1) := by decide +kernel
theorem dX6_take_2 : decode cX6_take 2 = .ok (.invokevirtual 89, 3) := by decide +kernel
theorem dX6_take_5 : decode cX6_take 5 = .ok (.istore_n 2, 1) := by decide +kernel
theorem dX6_take_6 : decode cX6_take 6 = .ok (.iload_n 2, 1) := by decide +kernel
theorem dX6_take_7 : decode cX6_take 7 = .ok (.iconst (-1), 1) := by decide +kernel
theorem dX6_take_8 : decode cX6_take 8 = .ok (.if_icmp .eq 13, 3) := by decide +kernel
theorem dX6_take_11 : decode cX6_take 11 = .ok (.aload_n 0, 1) := by decide +kernel
theorem dX6_take_12 : decode cX6_take 12 = .ok (.getfield 26, 3) := by decide +kernel
theorem dX6_take_15 : decode cX6_take 15 = .ok (.getfield 93, 3) := by decide +kernel
theorem dX6_take_18 : decode cX6_take 18 = .ok (.iload_n 2, 1) := by decide +kernel
theorem dX6_take_19 : decode cX6_take 19 = .ok (.iconst (-1), 1) := by decide +kernel
theorem dX6_take_20 : decode cX6_take 20 = .ok (.iastore, 1) := by decide +kernel
theorem dX6_take_21 : decode cX6_take 21 = .ok (.iload_n 2, 1) := by decide +kernel
theorem dX6_take_22 : decode cX6_take 22 = .ok (.ireturn, 1) := by decide +kernel
theorem dX6_swap_0 : decode cX6_swap 0 = .ok (.aload_n 0, 1) := by decide +kernel
theorem dX6_swap_1 : decode cX6_swap 1 = .ok (.getfield 19, 3) := by decide +kernel
theorem dX6_swap_4 : decode cX6_swap 4 = .ok (.iload_n 1, 1) := by decide +kernel
theorem dX6_swap_5 : decode cX6_swap 5 = .ok (.invokevirtual 96, 3) := by decide +kernel
theorem dX6_swap_8 : decode cX6_swap 8 = .ok (.ifCond .eq 12, 3) := by decide +kernel
theorem dX6_swap_11 : decode cX6_swap 11 = .ok (.aload_n 0, 1) := by decide +kernel
theorem dX6_swap_12 : decode cX6_swap 12 = .ok (.iload_n 2, 1) := by decide +kernel
theorem dX6_swap_13 : decode cX6_swap 13 = .ok (.iload_n 3, 1) := by decide +kernel
theorem dX6_swap_14 : decode cX6_swap 14 = .ok (.invokevirtual 97, 3) := by decide +kernel
theorem dX6_swap_17 : decode cX6_swap 17 = .ok (.ifCond .ne 5, 3) := by decide +kernel
theorem dX6_swap_20 : decode cX6_swap 20 = .ok (.iconst (-1), 1) := by decide +kernel
theorem dX6_swap_21 : decode cX6_swap 21 = .ok (.ireturn, 1) := by decide +kernel
theorem dX6_swap_22 : decode cX6_swap 22 = .ok (.aload_n 0, 1) := by decide +kernel
theorem dX6_swap_23 : decode cX6_swap 23 = .ok (.iload_n 1, 1) := by decide +kernel
theorem dX6_swap_24 : decode cX6_swap 24 = .ok (.invokevirtual 100, 3) := by decide +kernel
theorem dX6_swap_27 : decode cX6_swap 27 = .ok (.istore 4, 2) := by decide +kernel
theorem dX6_swap_29 : decode cX6_swap 29 = .ok (.iload 4, 2) := by decide +kernel
theorem dX6_swap_31 : decode cX6_swap 31 = .ok (.iconst (-1), 1) := by decide +kernel
theorem dX6_swap_32 : decode cX6_swap 32 = .ok (.if_icmp .eq 13, 3) := by decide +kernel
theorem dX6_swap_35 : decode cX6_swap 35 = .ok (.aload_n 0, 1) := by decide +kernel
theorem dX6_swap_36 : decode cX6_swap 36 = .ok (.getfield 26, 3) := by decide +kernel
theorem dX6_swap_39 : decode cX6_swap 39 = .ok (.iload_n 2, 1) := by decide +kernel
theorem dX6_swap_40 : decode cX6_swap 40 = .ok (.iload_n 1, 1) := by decide +kernel
theorem dX6_swap_41 : decode cX6_swap 41 = .ok (.iload_n 3, 1) := by decide +kernel
theorem dX6_swap_42 : decode cX6_swap 42 = .ok (.invokevirtual 103, 3) := by decide +kernel
theorem dX6_swap_45 : decode cX6_swap 45 = .ok (.iload 4, 2) := by decide +kernel
theorem dX6_swap_47 : decode cX6_swap 47 = .ok (.ireturn, 1) := by decide +kernel
theorem dX6_bring_0 : decode cX6_bring 0 = .ok (.aload_n 0, 1) := by decide +kernel
theorem dX6_bring_1 : decode cX6_bring 1 = .ok (.iload_n 1, 1) := by decide +kernel
theorem dX6_bring_2 : decode cX6_bring 2 = .ok (.invokevirtual 69, 3) := by decide +kernel
theorem dX6_bring_5 : decode cX6_bring 5 = .ok (.ifCond .eq 12, 3) := by decide +kernel
theorem dX6_bring_8 : decode cX6_bring 8 = .ok (.aload_n 0, 1) := by decide +kernel
theorem dX6_bring_9 : decode cX6_bring 9 = .ok (.iload_n 2, 1) := by decide +kernel
theorem dX6_bring_10 : decode cX6_bring 10 = .ok (.iload_n 3, 1) := by decide +kernel
theorem dX6_bring_11 : decode cX6_bring 11 = .ok (.invokevirtual 97, 3) := by decide +kernel
theorem dX6_bring_14 : decode cX6_bring 14 = .ok (.ifCond .ne 5, 3) := by decide +kernel
theorem dX6_bring_17 : decode cX6_bring 17 = .ok (.iconst (-1), 1) := by decide +kernel
theorem dX6_bring_18 : decode cX6_bring 18 = .ok (.ireturn, 1) := by decide +kernel
theorem dX6_bring_19 : decode cX6_bring 19 = .ok (.aload_n 0, 1) := by decide +kernel
theorem dX6_bring_20 : decode cX6_bring 20 = .ok (.getfield 26, 3) := by decide +kernel
theorem dX6_bring_23 : decode cX6_bring 23 = .ok (.iload_n 2, 1) := by decide +kernel
theorem dX6_bring_24 : decode cX6_bring 24 = .ok (.iload_n 1, 1) := by decide +kernel
theorem dX6_bring_25 : decode cX6_bring 25 = .ok (.iload_n 3, 1) := by decide +kernel
theorem dX6_bring_26 : decode cX6_bring 26 = .ok (.invokevirtual 103, 3) := by decide +kernel
theorem dX6_bring_29 : decode cX6_bring 29 = .ok (.aload_n 0, 1) := by decide +kernel
theorem dX6_bring_30 : decode cX6_bring 30 = .ok (.getfield 26, 3) := by decide +kernel
theorem dX6_bring_33 : decode cX6_bring 33 = .ok (.iload_n 1, 1) := by decide +kernel
theorem dX6_bring_34 : decode cX6_bring 34 = .ok (.invokevirtual 107, 3) := by decide +kernel
theorem dX6_bring_37 : decode cX6_bring 37 = .ok (.ireturn, 1) := by decide +kernel
theorem dX6_move_0 : decode cX6_move 0 = .ok (.aload_n 0, 1) := by decide +kernel
theorem dX6_move_1 : decode cX6_move 1 = .ok (.getfield 26, 3) := by decide +kernel
theorem dX6_move_4 : decode cX6_move 4 = .ok (.iload_n 1, 1) := by decide +kernel
theorem dX6_move_5 : decode cX6_move 5 = .ok (.invokevirtual 82, 3) := by decide +kernel
theorem dX6_move_8 : decode cX6_move 8 = .ok (.ifCond .eq 35, 3) := by decide +kernel
theorem dX6_move_11 : decode cX6_move 11 = .ok (.aload_n 0, 1) := by decide +kernel
theorem dX6_move_12 : decode cX6_move 12 = .ok (.getfield 26, 3) := by decide +kernel
theorem dX6_move_15 : decode cX6_move 15 = .ok (.iload_n 1, 1) := by decide +kernel
theorem dX6_move_16 : decode cX6_move 16 = .ok (.invokevirtual 110, 3) := by decide +kernel
theorem dX6_move_19 : decode cX6_move 19 = .ok (.ifCond .ne 24, 3) := by decide +kernel
theorem dX6_move_22 : decode cX6_move 22 = .ok (.aload_n 0, 1) := by decide +kernel
theorem dX6_move_23 : decode cX6_move 23 = .ok (.getfield 26, 3) := by decide +kernel
theorem dX6_move_26 : decode cX6_move 26 = .ok (.getfield 93, 3) := by decide +kernel
theorem dX6_move_29 : decode cX6_move 29 = .ok (.iload_n 1, 1) := by decide +kernel
theorem dX6_move_30 : decode cX6_move 30 = .ok (.iaload, 1) := by decide +kernel
theorem dX6_move_31 : decode cX6_move 31 = .ok (.iload_n 2, 1) := by decide +kernel
theorem dX6_move_32 : decode cX6_move 32 = .ok (.if_icmp .eq 11, 3) := by decide +kernel
theorem dX6_move_35 : decode cX6_move 35 = .ok (.aload_n 0, 1) := by decide +kernel
theorem dX6_move_36 : decode cX6_move 36 = .ok (.iload_n 2, 1) := by decide +kernel
theorem dX6_move_37 : decode cX6_move 37 = .ok (.invokevirtual 69, 3) := by decide +kernel
theorem dX6_move_40 : decode cX6_move 40 = .ok (.ifCond .ne 5, 3) := by decide +kernel
theorem dX6_move_43 : decode cX6_move 43 = .ok (.iconst 0, 1) := by decide +kernel
theorem dX6_move_44 : decode cX6_move 44 = .ok (.ireturn, 1) := by decide +kernel
theorem dX6_move_45 : decode cX6_move 45 = .ok (.aload_n 0, 1) := by decide +kernel
theorem dX6_move_46 : decode cX6_move 46 = .ok (.getfield 26, 3) := by decide +kernel
theorem dX6_move_49 : decode cX6_move 49 = .ok (.getfield 93, 3) := by decide +kernel
theorem dX6_move_52 : decode cX6_move 52 = .ok (.iload_n 1, 1) := by decide +kernel
theorem dX6_move_53 : decode cX6_move 53 = .ok (.iload_n 2, 1) := by decide +kernel
theorem dX6_move_54 : decode cX6_move 54 = .ok (.iastore, 1) := by decide +kernel
theorem dX6_move_55 : decode cX6_move 55 = .ok (.iconst 1, 1) := by decide +kernel
theorem dX6_move_56 : decode cX6_move 56 = .ok (.ireturn, 1) := by decide +kernel
theorem dX6_run_0 : decode cX6_run 0 = .ok (.iload_n 1, 1) := by decide +kernel
theorem dX6_run_1 : decode cX6_run 1 = .ok (.iconst 0, 1) := by decide +kernel
theorem dX6_run_2 : decode cX6_run 2 = .ok (.sipush 200, 3) := by decide +kernel
theorem dX6_run_5 : decode cX6_run 5 = .ok (.invokestatic 61, 3) := by decide +kernel
theorem dX6_run_8 : decode cX6_run 8 = .ok (.ifCond .eq 15, 3) := by decide +kernel
theorem dX6_run_11 : decode cX6_run 11 = .ok (.aload_n 0, 1) := by decide +kernel
theorem dX6_run_12 : decode cX6_run 12 = .ok (.getfield 113, 3) := by decide +kernel
theorem dX6_run_15 : decode cX6_run 15 = .ok (.iload_n 1, 1) := by decide +kernel
theorem dX6_run_16 : decode cX6_run 16 = .ok (.iadd, 1) := by decide +kernel
theorem dX6_run_17 : decode cX6_run 17 = .ok (.sipush 10000, 3) := by decide +kernel
theorem dX6_run_20 : decode cX6_run 20 = .ok (.if_icmp .le 5, 3) := by decide +kernel
theorem dX6_run_23 : decode cX6_run 23 = .ok (.iconst (-1), 1) := by decide +kernel
theorem dX6_run_24 : decode cX6_run 24 = .ok (.ireturn, 1) := by decide +kernel
theorem dX6_run_25 : decode cX6_run 25 = .ok (.iconst 0, 1) := by decide +kernel
theorem dX6_run_26 : decode cX6_run 26 = .ok (.istore_n 2, 1) := by decide +kernel
theorem dX6_run_27 : decode cX6_run 27 = .ok (.iload_n 2, 1) := by decide +kernel
theorem dX6_run_28 : decode cX6_run 28 = .ok (.iload_n 1, 1) := by decide +kernel
theorem dX6_run_29 : decode cX6_run 29 = .ok (.if_icmp .ge 13, 3) := by decide +kernel
theorem dX6_run_32 : decode cX6_run 32 = .ok (.aload_n 0, 1) := by decide +kernel
theorem dX6_run_33 : decode cX6_run 33 = .ok (.invokevirtual 117, 3) := by decide +kernel
theorem dX6_run_36 : decode cX6_run 36 = .ok (.iinc 2 1, 3) := by decide +kernel
theorem dX6_run_39 : decode cX6_run 39 = .ok (.goto (-12), 3) := by decide +kernel
theorem dX6_run_42 : decode cX6_run 42 = .ok (.aload_n 0, 1) := by decide +kernel
theorem dX6_run_43 : decode cX6_run 43 = .ok (.getfield 113, 3) := by decide +kernel
theorem dX6_run_46 : decode cX6_run 46 = .ok (.ireturn, 1) := by decide +kernel
theorem dX6_count_0 : decode cX6_count 0 = .ok (.iload_n 1, 1) := by decide +kernel
theorem dX6_count_1 : decode cX6_count 1 = .ok (.tableswitch 142 0 9 #[55, 63, 71, 76, 85, 93, 107, 115, 126, 137], 55) := by decide +kernel
theorem dX6_count_56 : decode cX6_count 56 = .ok (.aload_n 0, 1) := by decide +kernel
theorem dX6_count_57 : decode cX6_count 57 = .ok (.getfield 19, 3) := by decide +kernel
theorem dX6_count_60 : decode cX6_count 60 = .ok (.invokevirtual 120, 3) := by decide +kernel
theorem dX6_count_63 : decode cX6_count 63 = .ok (.ireturn, 1) := by decide +kernel
theorem dX6_count_64 : decode cX6_count 64 = .ok (.aload_n 0, 1) := by decide +kernel
theorem dX6_count_65 : decode cX6_count 65 = .ok (.getfield 26, 3) := by decide +kernel
theorem dX6_count_68 : decode cX6_count 68 = .ok (.getfield 124, 3) := by decide +kernel
theorem dX6_count_71 : decode cX6_count 71 = .ok (.ireturn, 1) := by decide +kernel
theorem dX6_count_72 : decode cX6_count 72 = .ok (.aload_n 0, 1) := by decide +kernel
theorem dX6_count_73 : decode cX6_count 73 = .ok (.getfield 113, 3) := by decide +kernel
theorem dX6_count_76 : decode cX6_count 76 = .ok (.ireturn, 1) := by decide +kernel
theorem dX6_count_77 : decode cX6_count 77 = .ok (.aload_n 0, 1) := by decide +kernel
theorem dX6_count_78 : decode cX6_count 78 = .ok (.getfield 26, 3) := by decide +kernel
theorem dX6_count_81 : decode cX6_count 81 = .ok (.iconst (-1), 1) := by decide +kernel
theorem dX6_count_82 : decode cX6_count 82 = .ok (.invokevirtual 107, 3) := by decide +kernel
theorem dX6_count_85 : decode cX6_count 85 = .ok (.ireturn, 1) := by decide +kernel
theorem dX6_count_86 : decode cX6_count 86 = .ok (.aload_n 0, 1) := by decide +kernel
theorem dX6_count_87 : decode cX6_count 87 = .ok (.getfield 26, 3) := by decide +kernel
theorem dX6_count_90 : decode cX6_count 90 = .ok (.invokevirtual 126, 3) := by decide +kernel
theorem dX6_count_93 : decode cX6_count 93 = .ok (.ireturn, 1) := by decide +kernel
theorem dX6_count_94 : decode cX6_count 94 = .ok (.aload_n 0, 1) := by decide +kernel
theorem dX6_count_95 : decode cX6_count 95 = .ok (.getfield 26, 3) := by decide +kernel
theorem dX6_count_98 : decode cX6_count 98 = .ok (.aload_n 0, 1) := by decide +kernel
theorem dX6_count_99 : decode cX6_count 99 = .ok (.getfield 7, 3) := by decide +kernel
theorem dX6_count_102 : decode cX6_count 102 = .ok (.iconst 0, 1) := by decide +kernel
theorem dX6_count_103 : decode cX6_count 103 = .ok (.iaload, 1) := by decide +kernel
theorem dX6_count_104 : decode cX6_count 104 = .ok (.invokevirtual 129, 3) := by decide +kernel
theorem dX6_count_107 : decode cX6_count 107 = .ok (.ireturn, 1) := by decide +kernel
theorem dX6_count_108 : decode cX6_count 108 = .ok (.aload_n 0, 1) := by decide +kernel
theorem dX6_count_109 : decode cX6_count 109 = .ok (.getfield 33, 3) := by decide +kernel
theorem dX6_count_112 : decode cX6_count 112 = .ok (.getfield 132, 3) := by decide +kernel
theorem dX6_count_115 : decode cX6_count 115 = .ok (.ireturn, 1) := by decide +kernel
theorem dX6_count_116 : decode cX6_count 116 = .ok (.aload_n 0, 1) := by decide +kernel
theorem dX6_count_117 : decode cX6_count 117 = .ok (.getfield 47, 3) := by decide +kernel
theorem dX6_count_120 : decode cX6_count 120 = .ok (.getfield 133, 3) := by decide +kernel
theorem dX6_count_123 : decode cX6_count 123 = .ok (.getfield 137, 3) := by decide +kernel
theorem dX6_count_126 : decode cX6_count 126 = .ok (.ireturn, 1) := by decide +kernel
theorem dX6_count_127 : decode cX6_count 127 = .ok (.aload_n 0, 1) := by decide +kernel
theorem dX6_count_128 : decode cX6_count 128 = .ok (.getfield 47, 3) := by decide +kernel
theorem dX6_count_131 : decode cX6_count 131 = .ok (.getfield 140, 3) := by decide +kernel
theorem dX6_count_134 : decode cX6_count 134 = .ok (.getfield 137, 3) := by decide +kernel
theorem dX6_count_137 : decode cX6_count 137 = .ok (.ireturn, 1) := by decide +kernel
theorem dX6_count_138 : decode cX6_count 138 = .ok (.aload_n 0, 1) := by decide +kernel
theorem dX6_count_139 : decode cX6_count 139 = .ok (.invokevirtual 143, 3) := by decide +kernel
theorem dX6_count_142 : decode cX6_count 142 = .ok (.ireturn, 1) := by decide +kernel
theorem dX6_count_143 : decode cX6_count 143 = .ok (.iconst (-1), 1) := by decide +kernel
theorem dX6_count_144 : decode cX6_count 144 = .ok (.ireturn, 1) := by decide +kernel
theorem dX6_of_0 : decode cX6_of 0 = .ok (.aload_n 0, 1) := by decide +kernel
theorem dX6_of_1 : decode cX6_of 1 = .ok (.getfield 26, 3) := by decide +kernel
theorem dX6_of_4 : decode cX6_of 4 = .ok (.iload_n 1, 1) := by decide +kernel
theorem dX6_of_5 : decode cX6_of 5 = .ok (.invokevirtual 82, 3) := by decide +kernel
theorem dX6_of_8 : decode cX6_of 8 = .ok (.ifCond .ne 13, 3) := by decide +kernel
theorem dX6_of_11 : decode cX6_of 11 = .ok (.new 146, 3) := by decide +kernel
theorem dX6_of_14 : decode cX6_of 14 = .ok (.dup, 1) := by decide +kernel
theorem dX6_of_15 : decode cX6_of 15 = .ok (.ldc 148, 2) := by decide +kernel
theorem dX6_of_17 : decode cX6_of 17 = .ok (.invokespecial 150, 3) := by decide +kernel
theorem dX6_of_20 : decode cX6_of 20 = .ok (.athrow, 1) := by decide +kernel
theorem dX6_of_21 : decode cX6_of 21 = .ok (.iload_n 2, 1) := by decide +kernel
theorem dX6_of_22 : decode cX6_of 22 = .ok (.tableswitch 74 0 3 #[30, 40, 50, 60], 30) := by decide +kernel
theorem dX6_of_52 : decode cX6_of 52 = .ok (.aload_n 0, 1) := by decide +kernel
theorem dX6_of_53 : decode cX6_of 53 = .ok (.getfield 26, 3) := by decide +kernel
theorem dX6_of_56 : decode cX6_of 56 = .ok (.getfield 153, 3) := by decide +kernel
theorem dX6_of_59 : decode cX6_of 59 = .ok (.iload_n 1, 1) := by decide +kernel
theorem dX6_of_60 : decode cX6_of 60 = .ok (.iaload, 1) := by decide +kernel
theorem dX6_of_61 : decode cX6_of 61 = .ok (.ireturn, 1) := by decide +kernel
theorem dX6_of_62 : decode cX6_of 62 = .ok (.aload_n 0, 1) := by decide +kernel
theorem dX6_of_63 : decode cX6_of 63 = .ok (.getfield 26, 3) := by decide +kernel
theorem dX6_of_66 : decode cX6_of 66 = .ok (.getfield 156, 3) := by decide +kernel
theorem dX6_of_69 : decode cX6_of 69 = .ok (.iload_n 1, 1) := by decide +kernel
theorem dX6_of_70 : decode cX6_of 70 = .ok (.iaload, 1) := by decide +kernel
theorem dX6_of_71 : decode cX6_of 71 = .ok (.ireturn, 1) := by decide +kernel
theorem dX6_of_72 : decode cX6_of 72 = .ok (.aload_n 0, 1) := by decide +kernel
theorem dX6_of_73 : decode cX6_of 73 = .ok (.getfield 26, 3) := by decide +kernel
theorem dX6_of_76 : decode cX6_of 76 = .ok (.getfield 93, 3) := by decide +kernel
theorem dX6_of_79 : decode cX6_of 79 = .ok (.iload_n 1, 1) := by decide +kernel
theorem dX6_of_80 : decode cX6_of 80 = .ok (.iaload, 1) := by decide +kernel
theorem dX6_of_81 : decode cX6_of 81 = .ok (.ireturn, 1) := by decide +kernel
theorem dX6_of_82 : decode cX6_of 82 = .ok (.aload_n 0, 1) := by decide +kernel
theorem dX6_of_83 : decode cX6_of 83 = .ok (.iload_n 1, 1) := by decide +kernel
theorem dX6_of_84 : decode cX6_of 84 = .ok (.invokevirtual 159, 3) := by decide +kernel
theorem dX6_of_87 : decode cX6_of 87 = .ok (.ifCond .eq 7, 3) := by decide +kernel
theorem dX6_of_90 : decode cX6_of 90 = .ok (.iconst 1, 1) := by decide +kernel
theorem dX6_of_91 : decode cX6_of 91 = .ok (.goto 4, 3) := by decide +kernel
theorem dX6_of_94 : decode cX6_of 94 = .ok (.iconst 0, 1) := by decide +kernel
theorem dX6_of_95 : decode cX6_of 95 = .ok (.ireturn, 1) := by decide +kernel
theorem dX6_of_96 : decode cX6_of 96 = .ok (.new 146, 3) := by decide +kernel
theorem dX6_of_99 : decode cX6_of 99 = .ok (.dup, 1) := by decide +kernel
theorem dX6_of_100 : decode cX6_of 100 = .ok (.ldc 162, 2) := by decide +kernel
theorem dX6_of_102 : decode cX6_of 102 = .ok (.invokespecial 150, 3) := by decide +kernel
theorem dX6_of_105 : decode cX6_of 105 = .ok (.athrow, 1) := by decide +kernel
theorem dX6_in_0 : decode cX6_in 0 = .ok (.aload_n 0, 1) := by decide +kernel
theorem dX6_in_1 : decode cX6_in 1 = .ok (.getfield 19, 3) := by decide +kernel
theorem dX6_in_4 : decode cX6_in 4 = .ok (.iload_n 1, 1) := by decide +kernel
theorem dX6_in_5 : decode cX6_in 5 = .ok (.invokevirtual 96, 3) := by decide +kernel
theorem dX6_in_8 : decode cX6_in 8 = .ok (.ifCond .ne 5, 3) := by decide +kernel
theorem dX6_in_11 : decode cX6_in 11 = .ok (.iconst (-1), 1) := by decide +kernel
theorem dX6_in_12 : decode cX6_in 12 = .ok (.ireturn, 1) := by decide +kernel
theorem dX6_in_13 : decode cX6_in 13 = .ok (.iload_n 2, 1) := by decide +kernel
theorem dX6_in_14 : decode cX6_in 14 = .ok (.tableswitch 75 0 4 #[34, 43, 49, 55, 65], 34) := by decide +kernel
theorem dX6_in_48 : decode cX6_in 48 = .ok (.aload_n 0, 1) := by decide +kernel
theorem dX6_in_49 : decode cX6_in 49 = .ok (.getfield 26, 3) := by decide +kernel
theorem dX6_in_52 : decode cX6_in 52 = .ok (.iload_n 1, 1) := by decide +kernel
theorem dX6_in_53 : decode cX6_in 53 = .ok (.invokevirtual 107, 3) := by decide +kernel
theorem dX6_in_56 : decode cX6_in 56 = .ok (.ireturn, 1) := by decide +kernel
theorem dX6_in_57 : decode cX6_in 57 = .ok (.aload_n 0, 1) := by decide +kernel
theorem dX6_in_58 : decode cX6_in 58 = .ok (.iload_n 1, 1) := by decide +kernel
theorem dX6_in_59 : decode cX6_in 59 = .ok (.invokevirtual 164, 3) := by decide +kernel
theorem dX6_in_62 : decode cX6_in 62 = .ok (.ireturn, 1) := by decide +kernel
theorem dX6_in_63 : decode cX6_in 63 = .ok (.aload_n 0, 1) := by decide +kernel
theorem dX6_in_64 : decode cX6_in 64 = .ok (.iload_n 1, 1) := by decide +kernel
theorem dX6_in_65 : decode cX6_in 65 = .ok (.invokevirtual 89, 3) := by decide +kernel
theorem dX6_in_68 : decode cX6_in 68 = .ok (.ireturn, 1) := by decide +kernel
theorem dX6_in_69 : decode cX6_in 69 = .ok (.aload_n 0, 1) := by decide +kernel
theorem dX6_in_70 : decode cX6_in 70 = .ok (.getfield 19, 3) := by decide +kernel
theorem dX6_in_73 : decode cX6_in 73 = .ok (.getfield 167, 3) := by decide +kernel
theorem dX6_in_76 : decode cX6_in 76 = .ok (.iload_n 1, 1) := by decide +kernel
theorem dX6_in_77 : decode cX6_in 77 = .ok (.iaload, 1) := by decide +kernel
theorem dX6_in_78 : decode cX6_in 78 = .ok (.ireturn, 1) := by decide +kernel
theorem dX6_in_79 : decode cX6_in 79 = .ok (.aload_n 0, 1) := by decide +kernel
theorem dX6_in_80 : decode cX6_in 80 = .ok (.getfield 19, 3) := by decide +kernel
theorem dX6_in_83 : decode cX6_in 83 = .ok (.getfield 170, 3) := by decide +kernel
theorem dX6_in_86 : decode cX6_in 86 = .ok (.iload_n 1, 1) := by decide +kernel
theorem dX6_in_87 : decode cX6_in 87 = .ok (.iaload, 1) := by decide +kernel
theorem dX6_in_88 : decode cX6_in 88 = .ok (.ireturn, 1) := by decide +kernel
theorem dX6_in_89 : decode cX6_in 89 = .ok (.iconst (-1), 1) := by decide +kernel
theorem dX6_in_90 : decode cX6_in 90 = .ok (.ireturn, 1) := by decide +kernel
theorem dX6_need_0 : decode cX6_need 0 = .ok (.iload_n 1, 1) := by decide +kernel
theorem dX6_need_1 : decode cX6_need 1 = .ok (.iconst 0, 1) := by decide +kernel
theorem dX6_need_2 : decode cX6_need 2 = .ok (.bipush 20, 2) := by decide +kernel
theorem dX6_need_4 : decode cX6_need 4 = .ok (.invokestatic 61, 3) := by decide +kernel
theorem dX6_need_7 : decode cX6_need 7 = .ok (.ifCond .eq 14, 3) := by decide +kernel
theorem dX6_need_10 : decode cX6_need 10 = .ok (.aload_n 0, 1) := by decide +kernel
theorem dX6_need_11 : decode cX6_need 11 = .ok (.getfield 33, 3) := by decide +kernel
theorem dX6_need_14 : decode cX6_need 14 = .ok (.iload_n 1, 1) := by decide +kernel
theorem dX6_need_15 : decode cX6_need 15 = .ok (.invokevirtual 173, 3) := by decide +kernel
theorem dX6_need_18 : decode cX6_need 18 = .ok (.goto 4, 3) := by decide +kernel
theorem dX6_need_21 : decode cX6_need 21 = .ok (.iconst (-1), 1) := by decide +kernel
theorem dX6_need_22 : decode cX6_need 22 = .ok (.ireturn, 1) := by decide +kernel
theorem dX6_clear_0 : decode cX6_clear 0 = .ok (.aload_n 0, 1) := by decide +kernel
theorem dX6_clear_1 : decode cX6_clear 1 = .ok (.getfield 33, 3) := by decide +kernel
theorem dX6_clear_4 : decode cX6_clear 4 = .ok (.getfield 132, 3) := by decide +kernel
theorem dX6_clear_7 : decode cX6_clear 7 = .ok (.istore_n 1, 1) := by decide +kernel
theorem dX6_clear_8 : decode cX6_clear 8 = .ok (.aload_n 0, 1) := by decide +kernel
theorem dX6_clear_9 : decode cX6_clear 9 = .ok (.getfield 33, 3) := by decide +kernel
theorem dX6_clear_12 : decode cX6_clear 12 = .ok (.iconst 0, 1) := by decide +kernel
theorem dX6_clear_13 : decode cX6_clear 13 = .ok (.putfield 132, 3) := by decide +kernel
theorem dX6_clear_16 : decode cX6_clear 16 = .ok (.aload_n 0, 1) := by decide +kernel
theorem dX6_clear_17 : decode cX6_clear 17 = .ok (.getfield 47, 3) := by decide +kernel
theorem dX6_clear_20 : decode cX6_clear 20 = .ok (.getfield 133, 3) := by decide +kernel
theorem dX6_clear_23 : decode cX6_clear 23 = .ok (.iconst 0, 1) := by decide +kernel
theorem dX6_clear_24 : decode cX6_clear 24 = .ok (.putfield 137, 3) := by decide +kernel
theorem dX6_clear_27 : decode cX6_clear 27 = .ok (.aload_n 0, 1) := by decide +kernel
theorem dX6_clear_28 : decode cX6_clear 28 = .ok (.getfield 47, 3) := by decide +kernel
theorem dX6_clear_31 : decode cX6_clear 31 = .ok (.getfield 140, 3) := by decide +kernel
theorem dX6_clear_34 : decode cX6_clear 34 = .ok (.iconst 0, 1) := by decide +kernel
theorem dX6_clear_35 : decode cX6_clear 35 = .ok (.putfield 137, 3) := by decide +kernel
theorem dX6_clear_38 : decode cX6_clear 38 = .ok (.iload_n 1, 1) := by decide +kernel
theorem dX6_clear_39 : decode cX6_clear 39 = .ok (.ireturn, 1) := by decide +kernel
theorem dX6_plan_0 : decode cX6_plan 0 = .ok (.iload_n 1, 1) := by decide +kernel
theorem dX6_plan_1 : decode cX6_plan 1 = .ok (.iconst 0, 1) := by decide +kernel
theorem dX6_plan_2 : decode cX6_plan 2 = .ok (.bipush 20, 2) := by decide +kernel
theorem dX6_plan_4 : decode cX6_plan 4 = .ok (.invokestatic 61, 3) := by decide +kernel
theorem dX6_plan_7 : decode cX6_plan 7 = .ok (.ifCond .eq 22, 3) := by decide +kernel
theorem dX6_plan_10 : decode cX6_plan 10 = .ok (.aload_n 0, 1) := by decide +kernel
theorem dX6_plan_11 : decode cX6_plan 11 = .ok (.getfield 33, 3) := by decide +kernel
theorem dX6_plan_14 : decode cX6_plan 14 = .ok (.aload_n 0, 1) := by decide +kernel
theorem dX6_plan_15 : decode cX6_plan 15 = .ok (.getfield 13, 3) := by decide +kernel
theorem dX6_plan_18 : decode cX6_plan 18 = .ok (.aload_n 0, 1) := by decide +kernel
theorem dX6_plan_19 : decode cX6_plan 19 = .ok (.getfield 113, 3) := by decide +kernel
theorem dX6_plan_22 : decode cX6_plan 22 = .ok (.iload_n 1, 1) := by decide +kernel
theorem dX6_plan_23 : decode cX6_plan 23 = .ok (.invokevirtual 176, 3) := by decide +kernel
theorem dX6_plan_26 : decode cX6_plan 26 = .ok (.goto 4, 3) := by decide +kernel
theorem dX6_plan_29 : decode cX6_plan 29 = .ok (.iconst (-1), 1) := by decide +kernel
theorem dX6_plan_30 : decode cX6_plan 30 = .ok (.ireturn, 1) := by decide +kernel
theorem dX6_planned_0 : decode cX6_planned 0 = .ok (.iload_n 1, 1) := by decide +kernel
theorem dX6_planned_1 : decode cX6_planned 1 = .ok (.iconst 0, 1) := by decide +kernel
theorem dX6_planned_2 : decode cX6_planned 2 = .ok (.aload_n 0, 1) := by decide +kernel
theorem dX6_planned_3 : decode cX6_planned 3 = .ok (.getfield 33, 3) := by decide +kernel
theorem dX6_planned_6 : decode cX6_planned 6 = .ok (.getfield 180, 3) := by decide +kernel
theorem dX6_planned_9 : decode cX6_planned 9 = .ok (.iconst 1, 1) := by decide +kernel
theorem dX6_planned_10 : decode cX6_planned 10 = .ok (.isub, 1) := by decide +kernel
theorem dX6_planned_11 : decode cX6_planned 11 = .ok (.invokestatic 61, 3) := by decide +kernel
theorem dX6_planned_14 : decode cX6_planned 14 = .ok (.ifCond .eq 15, 3) := by decide +kernel
theorem dX6_planned_17 : decode cX6_planned 17 = .ok (.aload_n 0, 1) := by decide +kernel
theorem dX6_planned_18 : decode cX6_planned 18 = .ok (.getfield 33, 3) := by decide +kernel
theorem dX6_planned_21 : decode cX6_planned 21 = .ok (.getfield 183, 3) := by decide +kernel
theorem dX6_planned_24 : decode cX6_planned 24 = .ok (.iload_n 1, 1) := by decide +kernel
theorem dX6_planned_25 : decode cX6_planned 25 = .ok (.iaload, 1) := by decide +kernel
theorem dX6_planned_26 : decode cX6_planned 26 = .ok (.goto 4, 3) := by decide +kernel
theorem dX6_planned_29 : decode cX6_planned 29 = .ok (.iconst (-1), 1) := by decide +kernel
theorem dX6_planned_30 : decode cX6_planned 30 = .ok (.ireturn, 1) := by decide +kernel
theorem dX6_wish_0 : decode cX6_wish 0 = .ok (.aload_n 0, 1) := by decide +kernel
theorem dX6_wish_1 : decode cX6_wish 1 = .ok (.getfield 19, 3) := by decide +kernel
theorem dX6_wish_4 : decode cX6_wish 4 = .ok (.iload_n 1, 1) := by decide +kernel
theorem dX6_wish_5 : decode cX6_wish 5 = .ok (.invokevirtual 96, 3) := by decide +kernel
theorem dX6_wish_8 : decode cX6_wish 8 = .ok (.ifCond .eq 13, 3) := by decide +kernel
theorem dX6_wish_11 : decode cX6_wish 11 = .ok (.iload_n 2, 1) := by decide +kernel
theorem dX6_wish_12 : decode cX6_wish 12 = .ok (.iconst 0, 1) := by decide +kernel
theorem dX6_wish_13 : decode cX6_wish 13 = .ok (.bipush 8, 2) := by decide +kernel
theorem dX6_wish_15 : decode cX6_wish 15 = .ok (.invokestatic 61, 3) := by decide +kernel
theorem dX6_wish_18 : decode cX6_wish 18 = .ok (.ifCond .ne 5, 3) := by decide +kernel
theorem dX6_wish_21 : decode cX6_wish 21 = .ok (.iconst 0, 1) := by decide +kernel
theorem dX6_wish_22 : decode cX6_wish 22 = .ok (.ireturn, 1) := by decide +kernel
theorem dX6_wish_23 : decode cX6_wish 23 = .ok (.aload_n 0, 1) := by decide +kernel
theorem dX6_wish_24 : decode cX6_wish 24 = .ok (.getfield 19, 3) := by decide +kernel
theorem dX6_wish_27 : decode cX6_wish 27 = .ok (.getfield 170, 3) := by decide +kernel
theorem dX6_wish_30 : decode cX6_wish 30 = .ok (.iload_n 1, 1) := by decide +kernel
theorem dX6_wish_31 : decode cX6_wish 31 = .ok (.iload_n 2, 1) := by decide +kernel
theorem dX6_wish_32 : decode cX6_wish 32 = .ok (.iastore, 1) := by decide +kernel
theorem dX6_wish_33 : decode cX6_wish 33 = .ok (.iconst 1, 1) := by decide +kernel
theorem dX6_wish_34 : decode cX6_wish 34 = .ok (.ireturn, 1) := by decide +kernel
theorem dX6_round_0 : decode cX6_round 0 = .ok (.aload_n 0, 1) := by decide +kernel
theorem dX6_round_1 : decode cX6_round 1 = .ok (.getfield 40, 3) := by decide +kernel
theorem dX6_round_4 : decode cX6_round 4 = .ok (.aload_n 0, 1) := by decide +kernel
theorem dX6_round_5 : decode cX6_round 5 = .ok (.getfield 7, 3) := by decide +kernel
theorem dX6_round_8 : decode cX6_round 8 = .ok (.iconst 4, 1) := by decide +kernel
theorem dX6_round_9 : decode cX6_round 9 = .ok (.iaload, 1) := by decide +kernel
theorem dX6_round_10 : decode cX6_round 10 = .ok (.invokevirtual 186, 3) := by decide +kernel
theorem dX6_round_13 : decode cX6_round 13 = .ok (.iconst 0, 1) := by decide +kernel
theorem dX6_round_14 : decode cX6_round 14 = .ok (.istore_n 1, 1) := by decide +kernel
theorem dX6_round_15 : decode cX6_round 15 = .ok (.iload_n 1, 1) := by decide +kernel
theorem dX6_round_16 : decode cX6_round 16 = .ok (.aload_n 0, 1) := by decide +kernel
theorem dX6_round_17 : decode cX6_round 17 = .ok (.getfield 19, 3) := by decide +kernel
theorem dX6_round_20 : decode cX6_round 20 = .ok (.invokevirtual 120, 3) := by decide +kernel
theorem dX6_round_23 : decode cX6_round 23 = .ok (.if_icmp .ge 35, 3) := by decide +kernel
theorem dX6_round_26 : decode cX6_round 26 = .ok (.aload_n 0, 1) := by decide +kernel
theorem dX6_round_27 : decode cX6_round 27 = .ok (.getfield 40, 3) := by decide +kernel
theorem dX6_round_30 : decode cX6_round 30 = .ok (.iload_n 1, 1) := by decide +kernel
theorem dX6_round_31 : decode cX6_round 31 = .ok (.aload_n 0, 1) := by decide +kernel
theorem dX6_round_32 : decode cX6_round 32 = .ok (.getfield 26, 3) := by decide +kernel
theorem dX6_round_35 : decode cX6_round 35 = .ok (.iload_n 1, 1) := by decide +kernel
theorem dX6_round_36 : decode cX6_round 36 = .ok (.invokevirtual 107, 3) := by decide +kernel
theorem dX6_round_39 : decode cX6_round 39 = .ok (.aload_n 0, 1) := by decide +kernel
theorem dX6_round_40 : decode cX6_round 40 = .ok (.getfield 19, 3) := by decide +kernel
theorem dX6_round_43 : decode cX6_round 43 = .ok (.getfield 170, 3) := by decide +kernel
theorem dX6_round_46 : decode cX6_round 46 = .ok (.iload_n 1, 1) := by decide +kernel
theorem dX6_round_47 : decode cX6_round 47 = .ok (.iaload, 1) := by decide +kernel
theorem dX6_round_48 : decode cX6_round 48 = .ok (.isub, 1) := by decide +kernel
theorem dX6_round_49 : decode cX6_round 49 = .ok (.invokevirtual 190, 3) := by decide +kernel
theorem dX6_round_52 : decode cX6_round 52 = .ok (.iinc 1 1, 3) := by decide +kernel
theorem dX6_round_55 : decode cX6_round 55 = .ok (.goto (-40), 3) := by decide +kernel
theorem dX6_round_58 : decode cX6_round 58 = .ok (.aload_n 0, 1) := by decide +kernel
theorem dX6_round_59 : decode cX6_round 59 = .ok (.getfield 40, 3) := by decide +kernel
theorem dX6_round_62 : decode cX6_round 62 = .ok (.aload_n 0, 1) := by decide +kernel
theorem dX6_round_63 : decode cX6_round 63 = .ok (.getfield 19, 3) := by decide +kernel
theorem dX6_round_66 : decode cX6_round 66 = .ok (.getfield 194, 3) := by decide +kernel
theorem dX6_round_69 : decode cX6_round 69 = .ok (.invokevirtual 197, 3) := by decide +kernel
theorem dX6_round_72 : decode cX6_round 72 = .ok (.ireturn, 1) := by decide +kernel
theorem dX6_stop_0 : decode cX6_stop 0 = .ok (.iload_n 1, 1) := by decide +kernel
theorem dX6_stop_1 : decode cX6_stop 1 = .ok (.iconst 0, 1) := by decide +kernel
theorem dX6_stop_2 : decode cX6_stop 2 = .ok (.aload_n 0, 1) := by decide +kernel
theorem dX6_stop_3 : decode cX6_stop 3 = .ok (.getfield 40, 3) := by decide +kernel
theorem dX6_stop_6 : decode cX6_stop 6 = .ok (.getfield 201, 3) := by decide +kernel
theorem dX6_stop_9 : decode cX6_stop 9 = .ok (.iconst 1, 1) := by decide +kernel
theorem dX6_stop_10 : decode cX6_stop 10 = .ok (.isub, 1) := by decide +kernel
theorem dX6_stop_11 : decode cX6_stop 11 = .ok (.invokestatic 61, 3) := by decide +kernel
theorem dX6_stop_14 : decode cX6_stop 14 = .ok (.ifCond .eq 15, 3) := by decide +kernel
theorem dX6_stop_17 : decode cX6_stop 17 = .ok (.aload_n 0, 1) := by decide +kernel
theorem dX6_stop_18 : decode cX6_stop 18 = .ok (.getfield 40, 3) := by decide +kernel
theorem dX6_stop_21 : decode cX6_stop 21 = .ok (.getfield 202, 3) := by decide +kernel
theorem dX6_stop_24 : decode cX6_stop 24 = .ok (.iload_n 1, 1) := by decide +kernel
theorem dX6_stop_25 : decode cX6_stop 25 = .ok (.iaload, 1) := by decide +kernel
theorem dX6_stop_26 : decode cX6_stop 26 = .ok (.goto 4, 3) := by decide +kernel
theorem dX6_stop_29 : decode cX6_stop 29 = .ok (.iconst (-1), 1) := by decide +kernel
theorem dX6_stop_30 : decode cX6_stop 30 = .ok (.ireturn, 1) := by decide +kernel
theorem dX6_point_0 : decode cX6_point 0 = .ok (.iload_n 1, 1) := by decide +kernel
theorem dX6_point_1 : decode cX6_point 1 = .ok (.iconst 0, 1) := by decide +kernel
theorem dX6_point_2 : decode cX6_point 2 = .ok (.iconst 1, 1) := by decide +kernel
theorem dX6_point_3 : decode cX6_point 3 = .ok (.invokestatic 61, 3) := by decide +kernel
theorem dX6_point_6 : decode cX6_point 6 = .ok (.ifCond .eq 11, 3) := by decide +kernel
theorem dX6_point_9 : decode cX6_point 9 = .ok (.iload_n 2, 1) := by decide +kernel
theorem dX6_point_10 : decode cX6_point 10 = .ok (.iload_n 3, 1) := by decide +kernel
theorem dX6_point_11 : decode cX6_point 11 = .ok (.invokestatic 57, 3) := by decide +kernel
theorem dX6_point_14 : decode cX6_point 14 = .ok (.ifCond .ne 5, 3) := by decide +kernel
theorem dX6_point_17 : decode cX6_point 17 = .ok (.iconst (-1), 1) := by decide +kernel
theorem dX6_point_18 : decode cX6_point 18 = .ok (.ireturn, 1) := by decide +kernel
theorem dX6_point_19 : decode cX6_point 19 = .ok (.iload_n 1, 1) := by decide +kernel
theorem dX6_point_20 : decode cX6_point 20 = .ok (.ifCond .ne 18, 3) := by decide +kernel
theorem dX6_point_23 : decode cX6_point 23 = .ok (.aload_n 0, 1) := by decide +kernel
theorem dX6_point_24 : decode cX6_point 24 = .ok (.getfield 47, 3) := by decide +kernel
theorem dX6_point_27 : decode cX6_point 27 = .ok (.getfield 133, 3) := by decide +kernel
theorem dX6_point_30 : decode cX6_point 30 = .ok (.iload_n 2, 1) := by decide +kernel
theorem dX6_point_31 : decode cX6_point 31 = .ok (.iload_n 3, 1) := by decide +kernel
theorem dX6_point_32 : decode cX6_point 32 = .ok (.invokevirtual 203, 3) := by decide +kernel
theorem dX6_point_35 : decode cX6_point 35 = .ok (.goto 15, 3) := by decide +kernel
theorem dX6_point_38 : decode cX6_point 38 = .ok (.aload_n 0, 1) := by decide +kernel
theorem dX6_point_39 : decode cX6_point 39 = .ok (.getfield 47, 3) := by decide +kernel
theorem dX6_point_42 : decode cX6_point 42 = .ok (.getfield 140, 3) := by decide +kernel
theorem dX6_point_45 : decode cX6_point 45 = .ok (.iload_n 2, 1) := by decide +kernel
theorem dX6_point_46 : decode cX6_point 46 = .ok (.iload_n 3, 1) := by decide +kernel
theorem dX6_point_47 : decode cX6_point 47 = .ok (.invokevirtual 203, 3) := by decide +kernel
theorem dX6_point_50 : decode cX6_point 50 = .ok (.ireturn, 1) := by decide +kernel
theorem dX6_places_0 : decode cX6_places 0 = .ok (.iload_n 1, 1) := by decide +kernel
theorem dX6_places_1 : decode cX6_places 1 = .ok (.iconst 0, 1) := by decide +kernel
theorem dX6_places_2 : decode cX6_places 2 = .ok (.aload_n 0, 1) := by decide +kernel
theorem dX6_places_3 : decode cX6_places 3 = .ok (.getfield 47, 3) := by decide +kernel
theorem dX6_places_6 : decode cX6_places 6 = .ok (.getfield 140, 3) := by decide +kernel
theorem dX6_places_9 : decode cX6_places 9 = .ok (.getfield 137, 3) := by decide +kernel
theorem dX6_places_12 : decode cX6_places 12 = .ok (.invokestatic 61, 3) := by decide +kernel
theorem dX6_places_15 : decode cX6_places 15 = .ok (.ifCond .eq 17, 3) := by decide +kernel
theorem dX6_places_18 : decode cX6_places 18 = .ok (.iload_n 1, 1) := by decide +kernel
theorem dX6_places_19 : decode cX6_places 19 = .ok (.ifCond .ne 15, 3) := by decide +kernel
theorem dX6_places_22 : decode cX6_places 22 = .ok (.aload_n 0, 1) := by decide +kernel
theorem dX6_places_23 : decode cX6_places 23 = .ok (.getfield 19, 3) := by decide +kernel
theorem dX6_places_26 : decode cX6_places 26 = .ok (.invokevirtual 120, 3) := by decide +kernel
theorem dX6_places_29 : decode cX6_places 29 = .ok (.ifCond .ne 5, 3) := by decide +kernel
theorem dX6_places_32 : decode cX6_places 32 = .ok (.iconst (-1), 1) := by decide +kernel
theorem dX6_places_33 : decode cX6_places 33 = .ok (.ireturn, 1) := by decide +kernel
theorem dX6_places_34 : decode cX6_places 34 = .ok (.aload_n 0, 1) := by decide +kernel
theorem dX6_places_35 : decode cX6_places 35 = .ok (.getfield 47, 3) := by decide +kernel
theorem dX6_places_38 : decode cX6_places 38 = .ok (.iload_n 1, 1) := by decide +kernel
theorem dX6_places_39 : decode cX6_places 39 = .ok (.aload_n 0, 1) := by decide +kernel
theorem dX6_places_40 : decode cX6_places 40 = .ok (.getfield 19, 3) := by decide +kernel
theorem dX6_places_43 : decode cX6_places 43 = .ok (.getfield 194, 3) := by decide +kernel
theorem dX6_places_46 : decode cX6_places 46 = .ok (.invokevirtual 204, 3) := by decide +kernel
theorem dX6_places_49 : decode cX6_places 49 = .ok (.ireturn, 1) := by decide +kernel
theorem dX6_chosen_0 : decode cX6_chosen 0 = .ok (.aload_n 0, 1) := by decide +kernel
theorem dX6_chosen_1 : decode cX6_chosen 1 = .ok (.getfield 47, 3) := by decide +kernel
theorem dX6_chosen_4 : decode cX6_chosen 4 = .ok (.getfield 208, 3) := by decide +kernel
theorem dX6_chosen_7 : decode cX6_chosen 7 = .ok (.ireturn, 1) := by decide +kernel
theorem dX6_isWithin_0 : decode cX6_isWithin 0 = .ok (.iload_n 0, 1) := by decide +kernel
theorem dX6_isWithin_1 : decode cX6_isWithin 1 = .ok (.iload_n 1, 1) := by decide +kernel
theorem dX6_isWithin_2 : decode cX6_isWithin 2 = .ok (.if_icmp .lt 12, 3) := by decide +kernel
theorem dX6_isWithin_5 : decode cX6_isWithin 5 = .ok (.iload_n 0, 1) := by decide +kernel
theorem dX6_isWithin_6 : decode cX6_isWithin 6 = .ok (.iload_n 2, 1) := by decide +kernel
theorem dX6_isWithin_7 : decode cX6_isWithin 7 = .ok (.if_icmp .gt 7, 3) := by decide +kernel
theorem dX6_isWithin_10 : decode cX6_isWithin 10 = .ok (.iconst 1, 1) := by decide +kernel
theorem dX6_isWithin_11 : decode cX6_isWithin 11 = .ok (.goto 4, 3) := by decide +kernel
theorem dX6_isWithin_14 : decode cX6_isWithin 14 = .ok (.iconst 0, 1) := by decide +kernel
theorem dX6_isWithin_15 : decode cX6_isWithin 15 = .ok (.ireturn, 1) := by decide +kernel
theorem dX6_isInTown_0 : decode cX6_isInTown 0 = .ok (.iload_n 0, 1) := by decide +kernel
theorem dX6_isInTown_1 : decode cX6_isInTown 1 = .ok (.iconst 0, 1) := by decide +kernel
theorem dX6_isInTown_2 : decode cX6_isInTown 2 = .ok (.bipush 99, 2) := by decide +kernel
theorem dX6_isInTown_4 : decode cX6_isInTown 4 = .ok (.invokestatic 61, 3) := by decide +kernel
theorem dX6_isInTown_7 : decode cX6_isInTown 7 = .ok (.ifCond .eq 17, 3) := by decide +kernel
theorem dX6_isInTown_10 : decode cX6_isInTown 10 = .ok (.iload_n 1, 1) := by decide +kernel
theorem dX6_isInTown_11 : decode cX6_isInTown 11 = .ok (.iconst 0, 1) := by decide +kernel
theorem dX6_isInTown_12 : decode cX6_isInTown 12 = .ok (.bipush 99, 2) := by decide +kernel
theorem dX6_isInTown_14 : decode cX6_isInTown 14 = .ok (.invokestatic 61, 3) := by decide +kernel
theorem dX6_isInTown_17 : decode cX6_isInTown 17 = .ok (.ifCond .eq 7, 3) := by decide +kernel
theorem dX6_isInTown_20 : decode cX6_isInTown 20 = .ok (.iconst 1, 1) := by decide +kernel
theorem dX6_isInTown_21 : decode cX6_isInTown 21 = .ok (.goto 4, 3) := by decide +kernel
theorem dX6_isInTown_24 : decode cX6_isInTown 24 = .ok (.iconst 0, 1) := by decide +kernel
theorem dX6_isInTown_25 : decode cX6_isInTown 25 = .ok (.ireturn, 1) := by decide +kernel
theorem dX6_hasSlotLeft_0 : decode cX6_hasSlotLeft 0 = .ok (.aload_n 0, 1) := by decide +kernel
theorem dX6_hasSlotLeft_1 : decode cX6_hasSlotLeft 1 = .ok (.getfield 19, 3) := by decide +kernel
theorem dX6_hasSlotLeft_4 : decode cX6_hasSlotLeft 4 = .ok (.iload_n 1, 1) := by decide +kernel
theorem dX6_hasSlotLeft_5 : decode cX6_hasSlotLeft 5 = .ok (.invokevirtual 96, 3) := by decide +kernel
theorem dX6_hasSlotLeft_8 : decode cX6_hasSlotLeft 8 = .ok (.ifCond .eq 27, 3) := by decide +kernel
theorem dX6_hasSlotLeft_11 : decode cX6_hasSlotLeft 11 = .ok (.aload_n 0, 1) := by decide +kernel
theorem dX6_hasSlotLeft_12 : decode cX6_hasSlotLeft 12 = .ok (.getfield 26, 3) := by decide +kernel
theorem dX6_hasSlotLeft_15 : decode cX6_hasSlotLeft 15 = .ok (.iload_n 1, 1) := by decide +kernel
theorem dX6_hasSlotLeft_16 : decode cX6_hasSlotLeft 16 = .ok (.invokevirtual 107, 3) := by decide +kernel
theorem dX6_hasSlotLeft_19 : decode cX6_hasSlotLeft 19 = .ok (.aload_n 0, 1) := by decide +kernel
theorem dX6_hasSlotLeft_20 : decode cX6_hasSlotLeft 20 = .ok (.getfield 19, 3) := by decide +kernel
theorem dX6_hasSlotLeft_23 : decode cX6_hasSlotLeft 23 = .ok (.getfield 210, 3) := by decide +kernel
theorem dX6_hasSlotLeft_26 : decode cX6_hasSlotLeft 26 = .ok (.iload_n 1, 1) := by decide +kernel
theorem dX6_hasSlotLeft_27 : decode cX6_hasSlotLeft 27 = .ok (.iaload, 1) := by decide +kernel
theorem dX6_hasSlotLeft_28 : decode cX6_hasSlotLeft 28 = .ok (.if_icmp .ge 7, 3) := by decide +kernel
theorem dX6_hasSlotLeft_31 : decode cX6_hasSlotLeft 31 = .ok (.iconst 1, 1) := by decide +kernel
theorem dX6_hasSlotLeft_32 : decode cX6_hasSlotLeft 32 = .ok (.goto 4, 3) := by decide +kernel
theorem dX6_hasSlotLeft_35 : decode cX6_hasSlotLeft 35 = .ok (.iconst 0, 1) := by decide +kernel
theorem dX6_hasSlotLeft_36 : decode cX6_hasSlotLeft 36 = .ok (.ireturn, 1) := by decide +kernel
theorem dX6_canComeBack_0 : decode cX6_canComeBack 0 = .ok (.aload_n 0, 1) := by decide +kernel
theorem dX6_canComeBack_1 : decode cX6_canComeBack 1 = .ok (.getfield 26, 3) := by decide +kernel
theorem dX6_canComeBack_4 : decode cX6_canComeBack 4 = .ok (.iload_n 1, 1) := by decide +kernel
theorem dX6_canComeBack_5 : decode cX6_canComeBack 5 = .ok (.invokevirtual 82, 3) := by decide +kernel
theorem dX6_canComeBack_8 : decode cX6_canComeBack 8 = .ok (.ifCond .eq 35, 3) := by decide +kernel
theorem dX6_canComeBack_11 : decode cX6_canComeBack 11 = .ok (.aload_n 0, 1) := by decide +kernel
theorem dX6_canComeBack_12 : decode cX6_canComeBack 12 = .ok (.getfield 26, 3) := by decide +kernel
theorem dX6_canComeBack_15 : decode cX6_canComeBack 15 = .ok (.iload_n 1, 1) := by decide +kernel
theorem dX6_canComeBack_16 : decode cX6_canComeBack 16 = .ok (.invokevirtual 110, 3) := by decide +kernel
theorem dX6_canComeBack_19 : decode cX6_canComeBack 19 = .ok (.ifCond .eq 24, 3) := by decide +kernel
theorem dX6_canComeBack_22 : decode cX6_canComeBack 22 = .ok (.iload_n 2, 1) := by decide +kernel
theorem dX6_canComeBack_23 : decode cX6_canComeBack 23 = .ok (.iconst 0, 1) := by decide +kernel
theorem dX6_canComeBack_24 : decode cX6_canComeBack 24 = .ok (.aload_n 0, 1) := by decide +kernel
theorem dX6_canComeBack_25 : decode cX6_canComeBack 25 = .ok (.getfield 26, 3) := by decide +kernel
theorem dX6_canComeBack_28 : decode cX6_canComeBack 28 = .ok (.getfield 153, 3) := by decide +kernel
theorem dX6_canComeBack_31 : decode cX6_canComeBack 31 = .ok (.iload_n 1, 1) := by decide +kernel
theorem dX6_canComeBack_32 : decode cX6_canComeBack 32 = .ok (.iaload, 1) := by decide +kernel
theorem dX6_canComeBack_33 : decode cX6_canComeBack 33 = .ok (.invokestatic 61, 3) := by decide +kernel
theorem dX6_canComeBack_36 : decode cX6_canComeBack 36 = .ok (.ifCond .eq 7, 3) := by decide +kernel
theorem dX6_canComeBack_39 : decode cX6_canComeBack 39 = .ok (.iconst 1, 1) := by decide +kernel
theorem dX6_canComeBack_40 : decode cX6_canComeBack 40 = .ok (.goto 4, 3) := by decide +kernel
theorem dX6_canComeBack_43 : decode cX6_canComeBack 43 = .ok (.iconst 0, 1) := by decide +kernel
theorem dX6_canComeBack_44 : decode cX6_canComeBack 44 = .ok (.ireturn, 1) := by decide +kernel
theorem dX6_isReady_0 : decode cX6_isReady 0 = .ok (.aload_n 0, 1) := by decide +kernel
theorem dX6_isReady_1 : decode cX6_isReady 1 = .ok (.getfield 26, 3) := by decide +kernel
theorem dX6_isReady_4 : decode cX6_isReady 4 = .ok (.iload_n 1, 1) := by decide +kernel
theorem dX6_isReady_5 : decode cX6_isReady 5 = .ok (.invokevirtual 110, 3) := by decide +kernel
theorem dX6_isReady_8 : decode cX6_isReady 8 = .ok (.ifCond .ne 42, 3) := by decide +kernel
theorem dX6_isReady_11 : decode cX6_isReady 11 = .ok (.aload_n 0, 1) := by decide +kernel
theorem dX6_isReady_12 : decode cX6_isReady 12 = .ok (.getfield 26, 3) := by decide +kernel
theorem dX6_isReady_15 : decode cX6_isReady 15 = .ok (.iload_n 1, 1) := by decide +kernel
theorem dX6_isReady_16 : decode cX6_isReady 16 = .ok (.aload_n 0, 1) := by decide +kernel
theorem dX6_isReady_17 : decode cX6_isReady 17 = .ok (.getfield 7, 3) := by decide +kernel
theorem dX6_isReady_20 : decode cX6_isReady 20 = .ok (.iconst 0, 1) := by decide +kernel
theorem dX6_isReady_21 : decode cX6_isReady 21 = .ok (.iaload, 1) := by decide +kernel
theorem dX6_isReady_22 : decode cX6_isReady 22 = .ok (.invokevirtual 213, 3) := by decide +kernel
theorem dX6_isReady_25 : decode cX6_isReady 25 = .ok (.ifCond .eq 25, 3) := by decide +kernel
theorem dX6_isReady_28 : decode cX6_isReady 28 = .ok (.aload_n 0, 1) := by decide +kernel
theorem dX6_isReady_29 : decode cX6_isReady 29 = .ok (.getfield 26, 3) := by decide +kernel
theorem dX6_isReady_32 : decode cX6_isReady 32 = .ok (.getfield 153, 3) := by decide +kernel
theorem dX6_isReady_35 : decode cX6_isReady 35 = .ok (.iload_n 1, 1) := by decide +kernel
theorem dX6_isReady_36 : decode cX6_isReady 36 = .ok (.iaload, 1) := by decide +kernel
theorem dX6_isReady_37 : decode cX6_isReady 37 = .ok (.aload_n 0, 1) := by decide +kernel
theorem dX6_isReady_38 : decode cX6_isReady 38 = .ok (.getfield 7, 3) := by decide +kernel
theorem dX6_isReady_41 : decode cX6_isReady 41 = .ok (.iconst 1, 1) := by decide +kernel
theorem dX6_isReady_42 : decode cX6_isReady 42 = .ok (.iaload, 1) := by decide +kernel
end
section
theorem dX6_isReady_43 : decode cX6_isReady 43 = .ok (.if_icmp .lt 7, 3) := by decide +kernel
theorem dX6_isReady_46 : decode cX6_isReady 46 = .ok (.iconst 1, 1) := by decide +kernel
theorem dX6_isReady_47 : decode cX6_isReady 47 = .ok (.goto 4, 3) := by decide +kernel
theorem dX6_isReady_50 : decode cX6_isReady 50 = .ok (.iconst 0, 1) := by decide +kernel
theorem dX6_isReady_51 : decode cX6_isReady 51 = .ok (.ireturn, 1) := by decide +kernel
theorem dX6_countReadyIn_0 : decode cX6_countReadyIn 0 = .ok (.iconst 0, 1) := by decide +kernel
theorem dX6_countReadyIn_1 : decode cX6_countReadyIn 1 = .ok (.istore_n 2, 1) := by decide +kernel
theorem dX6_countReadyIn_2 : decode cX6_countReadyIn 2 = .ok (.iconst 0, 1) := by decide +kernel
theorem dX6_countReadyIn_3 : decode cX6_countReadyIn 3 = .ok (.istore_n 3, 1) := by decide +kernel
theorem dX6_countReadyIn_4 : decode cX6_countReadyIn 4 = .ok (.iload_n 3, 1) := by decide +kernel
theorem dX6_countReadyIn_5 : decode cX6_countReadyIn 5 = .ok (.aload_n 0, 1) := by decide +kernel
theorem dX6_countReadyIn_6 : decode cX6_countReadyIn 6 = .ok (.getfield 26, 3) := by decide +kernel
theorem dX6_countReadyIn_9 : decode cX6_countReadyIn 9 = .ok (.getfield 124, 3) := by decide +kernel
theorem dX6_countReadyIn_12 : decode cX6_countReadyIn 12 = .ok (.if_icmp .ge 33, 3) := by decide +kernel
theorem dX6_countReadyIn_15 : decode cX6_countReadyIn 15 = .ok (.aload_n 0, 1) := by decide +kernel
theorem dX6_countReadyIn_16 : decode cX6_countReadyIn 16 = .ok (.getfield 26, 3) := by decide +kernel
theorem dX6_countReadyIn_19 : decode cX6_countReadyIn 19 = .ok (.getfield 93, 3) := by decide +kernel
theorem dX6_countReadyIn_22 : decode cX6_countReadyIn 22 = .ok (.iload_n 3, 1) := by decide +kernel
theorem dX6_countReadyIn_23 : decode cX6_countReadyIn 23 = .ok (.iaload, 1) := by decide +kernel
theorem dX6_countReadyIn_24 : decode cX6_countReadyIn 24 = .ok (.iload_n 1, 1) := by decide +kernel
theorem dX6_countReadyIn_25 : decode cX6_countReadyIn 25 = .ok (.if_icmp .ne 14, 3) := by decide +kernel
theorem dX6_countReadyIn_28 : decode cX6_countReadyIn 28 = .ok (.aload_n 0, 1) := by decide +kernel
theorem dX6_countReadyIn_29 : decode cX6_countReadyIn 29 = .ok (.iload_n 3, 1) := by decide +kernel
theorem dX6_countReadyIn_30 : decode cX6_countReadyIn 30 = .ok (.invokevirtual 159, 3) := by decide +kernel
theorem dX6_countReadyIn_33 : decode cX6_countReadyIn 33 = .ok (.ifCond .eq 6, 3) := by decide +kernel
theorem dX6_countReadyIn_36 : decode cX6_countReadyIn 36 = .ok (.iinc 2 1, 3) := by decide +kernel
theorem dX6_countReadyIn_39 : decode cX6_countReadyIn 39 = .ok (.iinc 3 1, 3) := by decide +kernel
theorem dX6_countReadyIn_42 : decode cX6_countReadyIn 42 = .ok (.goto (-38), 3) := by decide +kernel
theorem dX6_countReadyIn_45 : decode cX6_countReadyIn 45 = .ok (.iload_n 2, 1) := by decide +kernel
theorem dX6_countReadyIn_46 : decode cX6_countReadyIn 46 = .ok (.ireturn, 1) := by decide +kernel
theorem dX6_givenIn_0 : decode cX6_givenIn 0 = .ok (.iconst (-1), 1) := by decide +kernel
theorem dX6_givenIn_1 : decode cX6_givenIn 1 = .ok (.istore_n 2, 1) := by decide +kernel
theorem dX6_givenIn_2 : decode cX6_givenIn 2 = .ok (.aload_n 0, 1) := by decide +kernel
theorem dX6_givenIn_3 : decode cX6_givenIn 3 = .ok (.getfield 19, 3) := by decide +kernel
theorem dX6_givenIn_6 : decode cX6_givenIn 6 = .ok (.iload_n 1, 1) := by decide +kernel
theorem dX6_givenIn_7 : decode cX6_givenIn 7 = .ok (.invokevirtual 96, 3) := by decide +kernel
theorem dX6_givenIn_10 : decode cX6_givenIn 10 = .ok (.ifCond .ne 5, 3) := by decide +kernel
theorem dX6_givenIn_13 : decode cX6_givenIn 13 = .ok (.iload_n 2, 1) := by decide +kernel
theorem dX6_givenIn_14 : decode cX6_givenIn 14 = .ok (.ireturn, 1) := by decide +kernel
theorem dX6_givenIn_15 : decode cX6_givenIn 15 = .ok (.iconst 0, 1) := by decide +kernel
theorem dX6_givenIn_16 : decode cX6_givenIn 16 = .ok (.istore_n 3, 1) := by decide +kernel
theorem dX6_givenIn_17 : decode cX6_givenIn 17 = .ok (.iload_n 3, 1) := by decide +kernel
theorem dX6_givenIn_18 : decode cX6_givenIn 18 = .ok (.aload_n 0, 1) := by decide +kernel
theorem dX6_givenIn_19 : decode cX6_givenIn 19 = .ok (.getfield 26, 3) := by decide +kernel
theorem dX6_givenIn_22 : decode cX6_givenIn 22 = .ok (.getfield 124, 3) := by decide +kernel
theorem dX6_givenIn_25 : decode cX6_givenIn 25 = .ok (.if_icmp .ge 40, 3) := by decide +kernel
theorem dX6_givenIn_28 : decode cX6_givenIn 28 = .ok (.aload_n 0, 1) := by decide +kernel
theorem dX6_givenIn_29 : decode cX6_givenIn 29 = .ok (.getfield 26, 3) := by decide +kernel
theorem dX6_givenIn_32 : decode cX6_givenIn 32 = .ok (.getfield 93, 3) := by decide +kernel
theorem dX6_givenIn_35 : decode cX6_givenIn 35 = .ok (.iload_n 3, 1) := by decide +kernel
theorem dX6_givenIn_36 : decode cX6_givenIn 36 = .ok (.iaload, 1) := by decide +kernel
theorem dX6_givenIn_37 : decode cX6_givenIn 37 = .ok (.iload_n 1, 1) := by decide +kernel
theorem dX6_givenIn_38 : decode cX6_givenIn 38 = .ok (.if_icmp .ne 21, 3) := by decide +kernel
theorem dX6_givenIn_41 : decode cX6_givenIn 41 = .ok (.aload_n 0, 1) := by decide +kernel
theorem dX6_givenIn_42 : decode cX6_givenIn 42 = .ok (.iload_n 3, 1) := by decide +kernel
theorem dX6_givenIn_43 : decode cX6_givenIn 43 = .ok (.invokevirtual 159, 3) := by decide +kernel
theorem dX6_givenIn_46 : decode cX6_givenIn 46 = .ok (.ifCond .eq 13, 3) := by decide +kernel
theorem dX6_givenIn_49 : decode cX6_givenIn 49 = .ok (.aload_n 0, 1) := by decide +kernel
theorem dX6_givenIn_50 : decode cX6_givenIn 50 = .ok (.getfield 26, 3) := by decide +kernel
theorem dX6_givenIn_53 : decode cX6_givenIn 53 = .ok (.iload_n 2, 1) := by decide +kernel
theorem dX6_givenIn_54 : decode cX6_givenIn 54 = .ok (.iload_n 3, 1) := by decide +kernel
theorem dX6_givenIn_55 : decode cX6_givenIn 55 = .ok (.invokevirtual 216, 3) := by decide +kernel
theorem dX6_givenIn_58 : decode cX6_givenIn 58 = .ok (.istore_n 2, 1) := by decide +kernel
theorem dX6_givenIn_59 : decode cX6_givenIn 59 = .ok (.iinc 3 1, 3) := by decide +kernel
theorem dX6_givenIn_62 : decode cX6_givenIn 62 = .ok (.goto (-45), 3) := by decide +kernel
theorem dX6_givenIn_65 : decode cX6_givenIn 65 = .ok (.iload_n 2, 1) := by decide +kernel
theorem dX6_givenIn_66 : decode cX6_givenIn 66 = .ok (.ireturn, 1) := by decide +kernel
theorem dX6_priceNow_0 : decode cX6_priceNow 0 = .ok (.aload_n 0, 1) := by decide +kernel
theorem dX6_priceNow_1 : decode cX6_priceNow 1 = .ok (.getfield 13, 3) := by decide +kernel
theorem dX6_priceNow_4 : decode cX6_priceNow 4 = .ok (.aload_n 0, 1) := by decide +kernel
theorem dX6_priceNow_5 : decode cX6_priceNow 5 = .ok (.getfield 113, 3) := by decide +kernel
theorem dX6_priceNow_8 : decode cX6_priceNow 8 = .ok (.bipush 24, 2) := by decide +kernel
theorem dX6_priceNow_10 : decode cX6_priceNow 10 = .ok (.invokestatic 219, 3) := by decide +kernel
theorem dX6_priceNow_13 : decode cX6_priceNow 13 = .ok (.iaload, 1) := by decide +kernel
theorem dX6_priceNow_14 : decode cX6_priceNow 14 = .ok (.ireturn, 1) := by decide +kernel
theorem dX6_passHour_0 : decode cX6_passHour 0 = .ok (.aload_n 0, 1) := by decide +kernel
theorem dX6_passHour_1 : decode cX6_passHour 1 = .ok (.invokevirtual 143, 3) := by decide +kernel
theorem dX6_passHour_4 : decode cX6_passHour 4 = .ok (.istore_n 1, 1) := by decide +kernel
theorem dX6_passHour_5 : decode cX6_passHour 5 = .ok (.iconst 0, 1) := by decide +kernel
theorem dX6_passHour_6 : decode cX6_passHour 6 = .ok (.istore_n 2, 1) := by decide +kernel
theorem dX6_passHour_7 : decode cX6_passHour 7 = .ok (.iload_n 2, 1) := by decide +kernel
theorem dX6_passHour_8 : decode cX6_passHour 8 = .ok (.aload_n 0, 1) := by decide +kernel
theorem dX6_passHour_9 : decode cX6_passHour 9 = .ok (.getfield 19, 3) := by decide +kernel
theorem dX6_passHour_12 : decode cX6_passHour 12 = .ok (.invokevirtual 120, 3) := by decide +kernel
theorem dX6_passHour_15 : decode cX6_passHour 15 = .ok (.if_icmp .ge 15, 3) := by decide +kernel
theorem dX6_passHour_18 : decode cX6_passHour 18 = .ok (.aload_n 0, 1) := by decide +kernel
theorem dX6_passHour_19 : decode cX6_passHour 19 = .ok (.iload_n 2, 1) := by decide +kernel
theorem dX6_passHour_20 : decode cX6_passHour 20 = .ok (.iload_n 1, 1) := by decide +kernel
theorem dX6_passHour_21 : decode cX6_passHour 21 = .ok (.invokevirtual 224, 3) := by decide +kernel
theorem dX6_passHour_24 : decode cX6_passHour 24 = .ok (.iinc 2 1, 3) := by decide +kernel
theorem dX6_passHour_27 : decode cX6_passHour 27 = .ok (.goto (-20), 3) := by decide +kernel
theorem dX6_passHour_30 : decode cX6_passHour 30 = .ok (.aload_n 0, 1) := by decide +kernel
theorem dX6_passHour_31 : decode cX6_passHour 31 = .ok (.dup, 1) := by decide +kernel
theorem dX6_passHour_32 : decode cX6_passHour 32 = .ok (.getfield 113, 3) := by decide +kernel
theorem dX6_passHour_35 : decode cX6_passHour 35 = .ok (.iconst 1, 1) := by decide +kernel
theorem dX6_passHour_36 : decode cX6_passHour 36 = .ok (.iadd, 1) := by decide +kernel
theorem dX6_passHour_37 : decode cX6_passHour 37 = .ok (.putfield 113, 3) := by decide +kernel
theorem dX6_passHour_40 : decode cX6_passHour 40 = .ok (.return_, 1) := by decide +kernel
theorem dX6_chargeIn_0 : decode cX6_chargeIn 0 = .ok (.iconst 0, 1) := by decide +kernel
theorem dX6_chargeIn_1 : decode cX6_chargeIn 1 = .ok (.istore_n 3, 1) := by decide +kernel
theorem dX6_chargeIn_2 : decode cX6_chargeIn 2 = .ok (.iload_n 3, 1) := by decide +kernel
theorem dX6_chargeIn_3 : decode cX6_chargeIn 3 = .ok (.aload_n 0, 1) := by decide +kernel
theorem dX6_chargeIn_4 : decode cX6_chargeIn 4 = .ok (.getfield 19, 3) := by decide +kernel
theorem dX6_chargeIn_7 : decode cX6_chargeIn 7 = .ok (.getfield 227, 3) := by decide +kernel
theorem dX6_chargeIn_10 : decode cX6_chargeIn 10 = .ok (.iload_n 1, 1) := by decide +kernel
theorem dX6_chargeIn_11 : decode cX6_chargeIn 11 = .ok (.iaload, 1) := by decide +kernel
theorem dX6_chargeIn_12 : decode cX6_chargeIn 12 = .ok (.if_icmp .ge 95, 3) := by decide +kernel
theorem dX6_chargeIn_15 : decode cX6_chargeIn 15 = .ok (.iload_n 2, 1) := by decide +kernel
theorem dX6_chargeIn_16 : decode cX6_chargeIn 16 = .ok (.aload_n 0, 1) := by decide +kernel
theorem dX6_chargeIn_17 : decode cX6_chargeIn 17 = .ok (.getfield 7, 3) := by decide +kernel
theorem dX6_chargeIn_20 : decode cX6_chargeIn 20 = .ok (.iconst 2, 1) := by decide +kernel
theorem dX6_chargeIn_21 : decode cX6_chargeIn 21 = .ok (.iaload, 1) := by decide +kernel
theorem dX6_chargeIn_22 : decode cX6_chargeIn 22 = .ok (.if_icmp .le 7, 3) := by decide +kernel
theorem dX6_chargeIn_25 : decode cX6_chargeIn 25 = .ok (.iconst 1, 1) := by decide +kernel
theorem dX6_chargeIn_26 : decode cX6_chargeIn 26 = .ok (.goto 4, 3) := by decide +kernel
theorem dX6_chargeIn_29 : decode cX6_chargeIn 29 = .ok (.iconst 0, 1) := by decide +kernel
theorem dX6_chargeIn_30 : decode cX6_chargeIn 30 = .ok (.istore 4, 2) := by decide +kernel
theorem dX6_chargeIn_32 : decode cX6_chargeIn 32 = .ok (.iload 4, 2) := by decide +kernel
theorem dX6_chargeIn_34 : decode cX6_chargeIn 34 = .ok (.ifCond .eq 21, 3) := by decide +kernel
theorem dX6_chargeIn_37 : decode cX6_chargeIn 37 = .ok (.aload_n 0, 1) := by decide +kernel
theorem dX6_chargeIn_38 : decode cX6_chargeIn 38 = .ok (.iload_n 1, 1) := by decide +kernel
theorem dX6_chargeIn_39 : decode cX6_chargeIn 39 = .ok (.invokevirtual 164, 3) := by decide +kernel
theorem dX6_chargeIn_42 : decode cX6_chargeIn 42 = .ok (.aload_n 0, 1) := by decide +kernel
theorem dX6_chargeIn_43 : decode cX6_chargeIn 43 = .ok (.getfield 19, 3) := by decide +kernel
theorem dX6_chargeIn_46 : decode cX6_chargeIn 46 = .ok (.getfield 230, 3) := by decide +kernel
theorem dX6_chargeIn_49 : decode cX6_chargeIn 49 = .ok (.iload_n 1, 1) := by decide +kernel
theorem dX6_chargeIn_50 : decode cX6_chargeIn 50 = .ok (.iaload, 1) := by decide +kernel
theorem dX6_chargeIn_51 : decode cX6_chargeIn 51 = .ok (.if_icmp .lt 4, 3) := by decide +kernel
theorem dX6_chargeIn_54 : decode cX6_chargeIn 54 = .ok (.return_, 1) := by decide +kernel
theorem dX6_chargeIn_55 : decode cX6_chargeIn 55 = .ok (.aload_n 0, 1) := by decide +kernel
theorem dX6_chargeIn_56 : decode cX6_chargeIn 56 = .ok (.iload_n 1, 1) := by decide +kernel
theorem dX6_chargeIn_57 : decode cX6_chargeIn 57 = .ok (.invokevirtual 233, 3) := by decide +kernel
theorem dX6_chargeIn_60 : decode cX6_chargeIn 60 = .ok (.istore 5, 2) := by decide +kernel
theorem dX6_chargeIn_62 : decode cX6_chargeIn 62 = .ok (.iload 5, 2) := by decide +kernel
theorem dX6_chargeIn_64 : decode cX6_chargeIn 64 = .ok (.iconst (-1), 1) := by decide +kernel
theorem dX6_chargeIn_65 : decode cX6_chargeIn 65 = .ok (.if_icmp .ne 4, 3) := by decide +kernel
theorem dX6_chargeIn_68 : decode cX6_chargeIn 68 = .ok (.return_, 1) := by decide +kernel
theorem dX6_chargeIn_69 : decode cX6_chargeIn 69 = .ok (.aload_n 0, 1) := by decide +kernel
theorem dX6_chargeIn_70 : decode cX6_chargeIn 70 = .ok (.getfield 26, 3) := by decide +kernel
theorem dX6_chargeIn_73 : decode cX6_chargeIn 73 = .ok (.iload 5, 2) := by decide +kernel
theorem dX6_chargeIn_75 : decode cX6_chargeIn 75 = .ok (.aload_n 0, 1) := by decide +kernel
theorem dX6_chargeIn_76 : decode cX6_chargeIn 76 = .ok (.getfield 7, 3) := by decide +kernel
theorem dX6_chargeIn_79 : decode cX6_chargeIn 79 = .ok (.iconst 3, 1) := by decide +kernel
theorem dX6_chargeIn_80 : decode cX6_chargeIn 80 = .ok (.iaload, 1) := by decide +kernel
theorem dX6_chargeIn_81 : decode cX6_chargeIn 81 = .ok (.aload_n 0, 1) := by decide +kernel
theorem dX6_chargeIn_82 : decode cX6_chargeIn 82 = .ok (.getfield 113, 3) := by decide +kernel
theorem dX6_chargeIn_85 : decode cX6_chargeIn 85 = .ok (.invokevirtual 236, 3) := by decide +kernel
theorem dX6_chargeIn_88 : decode cX6_chargeIn 88 = .ok (.aload_n 0, 1) := by decide +kernel
theorem dX6_chargeIn_89 : decode cX6_chargeIn 89 = .ok (.getfield 19, 3) := by decide +kernel
theorem dX6_chargeIn_92 : decode cX6_chargeIn 92 = .ok (.getfield 167, 3) := by decide +kernel
theorem dX6_chargeIn_95 : decode cX6_chargeIn 95 = .ok (.iload_n 1, 1) := by decide +kernel
theorem dX6_chargeIn_96 : decode cX6_chargeIn 96 = .ok (.dup2, 1) := by decide +kernel
theorem dX6_chargeIn_97 : decode cX6_chargeIn 97 = .ok (.iaload, 1) := by decide +kernel
theorem dX6_chargeIn_98 : decode cX6_chargeIn 98 = .ok (.iload_n 2, 1) := by decide +kernel
theorem dX6_chargeIn_99 : decode cX6_chargeIn 99 = .ok (.iadd, 1) := by decide +kernel
theorem dX6_chargeIn_100 : decode cX6_chargeIn 100 = .ok (.iastore, 1) := by decide +kernel
theorem dX6_chargeIn_101 : decode cX6_chargeIn 101 = .ok (.iinc 3 1, 3) := by decide +kernel
theorem dX6_chargeIn_104 : decode cX6_chargeIn 104 = .ok (.goto (-102), 3) := by decide +kernel
theorem dX6_chargeIn_107 : decode cX6_chargeIn 107 = .ok (.return_, 1) := by decide +kernel
theorem dX6_nextToCharge_0 : decode cX6_nextToCharge 0 = .ok (.iconst (-1), 1) := by decide +kernel
theorem dX6_nextToCharge_1 : decode cX6_nextToCharge 1 = .ok (.istore_n 2, 1) := by decide +kernel
theorem dX6_nextToCharge_2 : decode cX6_nextToCharge 2 = .ok (.iconst 0, 1) := by decide +kernel
theorem dX6_nextToCharge_3 : decode cX6_nextToCharge 3 = .ok (.istore_n 3, 1) := by decide +kernel
theorem dX6_nextToCharge_4 : decode cX6_nextToCharge 4 = .ok (.iload_n 3, 1) := by decide +kernel
theorem dX6_nextToCharge_5 : decode cX6_nextToCharge 5 = .ok (.aload_n 0, 1) := by decide +kernel
theorem dX6_nextToCharge_6 : decode cX6_nextToCharge 6 = .ok (.getfield 26, 3) := by decide +kernel
theorem dX6_nextToCharge_9 : decode cX6_nextToCharge 9 = .ok (.getfield 124, 3) := by decide +kernel
theorem dX6_nextToCharge_12 : decode cX6_nextToCharge 12 = .ok (.if_icmp .ge 79, 3) := by decide +kernel
theorem dX6_nextToCharge_15 : decode cX6_nextToCharge 15 = .ok (.aload_n 0, 1) := by decide +kernel
theorem dX6_nextToCharge_16 : decode cX6_nextToCharge 16 = .ok (.getfield 26, 3) := by decide +kernel
theorem dX6_nextToCharge_19 : decode cX6_nextToCharge 19 = .ok (.getfield 93, 3) := by decide +kernel
theorem dX6_nextToCharge_22 : decode cX6_nextToCharge 22 = .ok (.iload_n 3, 1) := by decide +kernel
theorem dX6_nextToCharge_23 : decode cX6_nextToCharge 23 = .ok (.iaload, 1) := by decide +kernel
theorem dX6_nextToCharge_24 : decode cX6_nextToCharge 24 = .ok (.iload_n 1, 1) := by decide +kernel
theorem dX6_nextToCharge_25 : decode cX6_nextToCharge 25 = .ok (.if_icmp .ne 60, 3) := by decide +kernel
theorem dX6_nextToCharge_28 : decode cX6_nextToCharge 28 = .ok (.aload_n 0, 1) := by decide +kernel
theorem dX6_nextToCharge_29 : decode cX6_nextToCharge 29 = .ok (.getfield 26, 3) := by decide +kernel
theorem dX6_nextToCharge_32 : decode cX6_nextToCharge 32 = .ok (.iload_n 3, 1) := by decide +kernel
theorem dX6_nextToCharge_33 : decode cX6_nextToCharge 33 = .ok (.aload_n 0, 1) := by decide +kernel
theorem dX6_nextToCharge_34 : decode cX6_nextToCharge 34 = .ok (.getfield 7, 3) := by decide +kernel
theorem dX6_nextToCharge_37 : decode cX6_nextToCharge 37 = .ok (.iconst 0, 1) := by decide +kernel
theorem dX6_nextToCharge_38 : decode cX6_nextToCharge 38 = .ok (.iaload, 1) := by decide +kernel
theorem dX6_nextToCharge_39 : decode cX6_nextToCharge 39 = .ok (.invokevirtual 213, 3) := by decide +kernel
theorem dX6_nextToCharge_42 : decode cX6_nextToCharge 42 = .ok (.ifCond .eq 43, 3) := by decide +kernel
theorem dX6_nextToCharge_45 : decode cX6_nextToCharge 45 = .ok (.aload_n 0, 1) := by decide +kernel
theorem dX6_nextToCharge_46 : decode cX6_nextToCharge 46 = .ok (.getfield 26, 3) := by decide +kernel
theorem dX6_nextToCharge_49 : decode cX6_nextToCharge 49 = .ok (.getfield 153, 3) := by decide +kernel
theorem dX6_nextToCharge_52 : decode cX6_nextToCharge 52 = .ok (.iload_n 3, 1) := by decide +kernel
theorem dX6_nextToCharge_53 : decode cX6_nextToCharge 53 = .ok (.iaload, 1) := by decide +kernel
theorem dX6_nextToCharge_54 : decode cX6_nextToCharge 54 = .ok (.bipush 100, 2) := by decide +kernel
theorem dX6_nextToCharge_56 : decode cX6_nextToCharge 56 = .ok (.if_icmp .ge 29, 3) := by decide +kernel
theorem dX6_nextToCharge_59 : decode cX6_nextToCharge 59 = .ok (.aload_n 0, 1) := by decide +kernel
theorem dX6_nextToCharge_60 : decode cX6_nextToCharge 60 = .ok (.getfield 26, 3) := by decide +kernel
theorem dX6_nextToCharge_63 : decode cX6_nextToCharge 63 = .ok (.getfield 239, 3) := by decide +kernel
theorem dX6_nextToCharge_66 : decode cX6_nextToCharge 66 = .ok (.iload_n 3, 1) := by decide +kernel
theorem dX6_nextToCharge_67 : decode cX6_nextToCharge 67 = .ok (.iaload, 1) := by decide +kernel
theorem dX6_nextToCharge_68 : decode cX6_nextToCharge 68 = .ok (.aload_n 0, 1) := by decide +kernel
theorem dX6_nextToCharge_69 : decode cX6_nextToCharge 69 = .ok (.getfield 113, 3) := by decide +kernel
theorem dX6_nextToCharge_72 : decode cX6_nextToCharge 72 = .ok (.if_icmp .eq 13, 3) := by decide +kernel
theorem dX6_nextToCharge_75 : decode cX6_nextToCharge 75 = .ok (.aload_n 0, 1) := by decide +kernel
theorem dX6_nextToCharge_76 : decode cX6_nextToCharge 76 = .ok (.getfield 26, 3) := by decide +kernel
theorem dX6_nextToCharge_79 : decode cX6_nextToCharge 79 = .ok (.iload_n 2, 1) := by decide +kernel
theorem dX6_nextToCharge_80 : decode cX6_nextToCharge 80 = .ok (.iload_n 3, 1) := by decide +kernel
theorem dX6_nextToCharge_81 : decode cX6_nextToCharge 81 = .ok (.invokevirtual 216, 3) := by decide +kernel
theorem dX6_nextToCharge_84 : decode cX6_nextToCharge 84 = .ok (.istore_n 2, 1) := by decide +kernel
theorem dX6_nextToCharge_85 : decode cX6_nextToCharge 85 = .ok (.iinc 3 1, 3) := by decide +kernel
theorem dX6_nextToCharge_88 : decode cX6_nextToCharge 88 = .ok (.goto (-84), 3) := by decide +kernel
theorem dX6_nextToCharge_91 : decode cX6_nextToCharge 91 = .ok (.iload_n 2, 1) := by decide +kernel
theorem dX6_nextToCharge_92 : decode cX6_nextToCharge 92 = .ok (.ireturn, 1) := by decide +kernel
end
section
theorem dX7_init_0 : decode cX7_init 0 = .ok (.aload_n 0, 1) := by decide +kernel
theorem dX7_init_1 : decode cX7_init 1 = .ok (.invokespecial 1, 3) := by decide +kernel
theorem dX7_init_4 : decode cX7_init 4 = .ok (.aload_n 0, 1) := by decide +kernel
theorem dX7_init_5 : decode cX7_init 5 = .ok (.bipush 42, 2) := by decide +kernel
theorem dX7_init_7 : decode cX7_init 7 = .ok (.newarray .int, 2) := by decide +kernel
theorem dX7_init_9 : decode cX7_init 9 = .ok (.putfield 9, 3) := by decide +kernel
theorem dX7_init_12 : decode cX7_init 12 = .ok (.aload_n 0, 1) := by decide +kernel
theorem dX7_init_13 : decode cX7_init 13 = .ok (.bipush 30, 2) := by decide +kernel
theorem dX7_init_15 : decode cX7_init 15 = .ok (.newarray .int, 2) := by decide +kernel
theorem dX7_init_17 : decode cX7_init 17 = .ok (.putfield 13, 3) := by decide +kernel
theorem dX7_init_20 : decode cX7_init 20 = .ok (.aload_n 0, 1) := by decide +kernel
theorem dX7_init_21 : decode cX7_init 21 = .ok (.bipush 30, 2) := by decide +kernel
theorem dX7_init_23 : decode cX7_init 23 = .ok (.newarray .int, 2) := by decide +kernel
theorem dX7_init_25 : decode cX7_init 25 = .ok (.putfield 16, 3) := by decide +kernel
theorem dX7_init_28 : decode cX7_init 28 = .ok (.aload_n 0, 1) := by decide +kernel
theorem dX7_init_29 : decode cX7_init 29 = .ok (.bipush 30, 2) := by decide +kernel
theorem dX7_init_31 : decode cX7_init 31 = .ok (.newarray .int, 2) := by decide +kernel
theorem dX7_init_33 : decode cX7_init 33 = .ok (.putfield 19, 3) := by decide +kernel
theorem dX7_init_36 : decode cX7_init 36 = .ok (.aload_n 0, 1) := by decide +kernel
theorem dX7_init_37 : decode cX7_init 37 = .ok (.bipush 30, 2) := by decide +kernel
theorem dX7_init_39 : decode cX7_init 39 = .ok (.newarray .boolean, 2) := by decide +kernel
theorem dX7_init_41 : decode cX7_init 41 = .ok (.putfield 22, 3) := by decide +kernel
theorem dX7_init_44 : decode cX7_init 44 = .ok (.aload_n 0, 1) := by decide +kernel
theorem dX7_init_45 : decode cX7_init 45 = .ok (.iconst 5, 1) := by decide +kernel
theorem dX7_init_46 : decode cX7_init 46 = .ok (.newarray .int, 2) := by decide +kernel
theorem dX7_init_48 : decode cX7_init 48 = .ok (.dup, 1) := by decide +kernel
theorem dX7_init_49 : decode cX7_init 49 = .ok (.iconst 0, 1) := by decide +kernel
theorem dX7_init_50 : decode cX7_init 50 = .ok (.sipush 2000, 3) := by decide +kernel
theorem dX7_init_53 : decode cX7_init 53 = .ok (.iastore, 1) := by decide +kernel
theorem dX7_init_54 : decode cX7_init 54 = .ok (.dup, 1) := by decide +kernel
theorem dX7_init_55 : decode cX7_init 55 = .ok (.iconst 1, 1) := by decide +kernel
theorem dX7_init_56 : decode cX7_init 56 = .ok (.bipush 80, 2) := by decide +kernel
theorem dX7_init_58 : decode cX7_init 58 = .ok (.iastore, 1) := by decide +kernel
theorem dX7_init_59 : decode cX7_init 59 = .ok (.dup, 1) := by decide +kernel
theorem dX7_init_60 : decode cX7_init 60 = .ok (.iconst 2, 1) := by decide +kernel
theorem dX7_init_61 : decode cX7_init 61 = .ok (.sipush 1000, 3) := by decide +kernel
theorem dX7_init_64 : decode cX7_init 64 = .ok (.iastore, 1) := by decide +kernel
theorem dX7_init_65 : decode cX7_init 65 = .ok (.dup, 1) := by decide +kernel
theorem dX7_init_66 : decode cX7_init 66 = .ok (.iconst 3, 1) := by decide +kernel
theorem dX7_init_67 : decode cX7_init 67 = .ok (.bipush 25, 2) := by decide +kernel
theorem dX7_init_69 : decode cX7_init 69 = .ok (.iastore, 1) := by decide +kernel
theorem dX7_init_70 : decode cX7_init 70 = .ok (.dup, 1) := by decide +kernel
theorem dX7_init_71 : decode cX7_init 71 = .ok (.iconst 4, 1) := by decide +kernel
theorem dX7_init_72 : decode cX7_init 72 = .ok (.bipush 10, 2) := by decide +kernel
theorem dX7_init_74 : decode cX7_init 74 = .ok (.iastore, 1) := by decide +kernel
theorem dX7_init_75 : decode cX7_init 75 = .ok (.putfield 26, 3) := by decide +kernel
theorem dX7_init_78 : decode cX7_init 78 = .ok (.aload_n 0, 1) := by decide +kernel
theorem dX7_init_79 : decode cX7_init 79 = .ok (.bipush 24, 2) := by decide +kernel
theorem dX7_init_81 : decode cX7_init 81 = .ok (.newarray .int, 2) := by decide +kernel
theorem dX7_init_83 : decode cX7_init 83 = .ok (.putfield 29, 3) := by decide +kernel
theorem dX7_init_86 : decode cX7_init 86 = .ok (.aload_n 0, 1) := by decide +kernel
theorem dX7_init_87 : decode cX7_init 87 = .ok (.bipush 12, 2) := by decide +kernel
theorem dX7_init_89 : decode cX7_init 89 = .ok (.newarray .int, 2) := by decide +kernel
theorem dX7_init_91 : decode cX7_init 91 = .ok (.putfield 32, 3) := by decide +kernel
theorem dX7_init_94 : decode cX7_init 94 = .ok (.aload_n 0, 1) := by decide +kernel
theorem dX7_init_95 : decode cX7_init 95 = .ok (.bipush 12, 2) := by decide +kernel
theorem dX7_init_97 : decode cX7_init 97 = .ok (.newarray .int, 2) := by decide +kernel
theorem dX7_init_99 : decode cX7_init 99 = .ok (.putfield 35, 3) := by decide +kernel
theorem dX7_init_102 : decode cX7_init 102 = .ok (.aload_n 0, 1) := by decide +kernel
theorem dX7_init_103 : decode cX7_init 103 = .ok (.bipush 6, 2) := by decide +kernel
theorem dX7_init_105 : decode cX7_init 105 = .ok (.newarray .int, 2) := by decide +kernel
theorem dX7_init_107 : decode cX7_init 107 = .ok (.putfield 38, 3) := by decide +kernel
theorem dX7_init_110 : decode cX7_init 110 = .ok (.aload_n 0, 1) := by decide +kernel
theorem dX7_init_111 : decode cX7_init 111 = .ok (.bipush 12, 2) := by decide +kernel
theorem dX7_init_113 : decode cX7_init 113 = .ok (.newarray .int, 2) := by decide +kernel
theorem dX7_init_115 : decode cX7_init 115 = .ok (.putfield 41, 3) := by decide +kernel
theorem dX7_init_118 : decode cX7_init 118 = .ok (.aload_n 0, 1) := by decide +kernel
theorem dX7_init_119 : decode cX7_init 119 = .ok (.bipush 12, 2) := by decide +kernel
theorem dX7_init_121 : decode cX7_init 121 = .ok (.newarray .int, 2) := by decide +kernel
theorem dX7_init_123 : decode cX7_init 123 = .ok (.putfield 44, 3) := by decide +kernel
theorem dX7_init_126 : decode cX7_init 126 = .ok (.aload_n 0, 1) := by decide +kernel
theorem dX7_init_127 : decode cX7_init 127 = .ok (.bipush 8, 2) := by decide +kernel
theorem dX7_init_129 : decode cX7_init 129 = .ok (.newarray .int, 2) := by decide +kernel
theorem dX7_init_131 : decode cX7_init 131 = .ok (.putfield 47, 3) := by decide +kernel
theorem dX7_init_134 : decode cX7_init 134 = .ok (.aload_n 0, 1) := by decide +kernel
theorem dX7_init_135 : decode cX7_init 135 = .ok (.bipush 8, 2) := by decide +kernel
theorem dX7_init_137 : decode cX7_init 137 = .ok (.newarray .int, 2) := by decide +kernel
theorem dX7_init_139 : decode cX7_init 139 = .ok (.putfield 50, 3) := by decide +kernel
theorem dX7_init_142 : decode cX7_init 142 = .ok (.aload_n 0, 1) := by decide +kernel
theorem dX7_init_143 : decode cX7_init 143 = .ok (.bipush 30, 2) := by decide +kernel
theorem dX7_init_145 : decode cX7_init 145 = .ok (.newarray .boolean, 2) := by decide +kernel
theorem dX7_init_147 : decode cX7_init 147 = .ok (.putfield 53, 3) := by decide +kernel
theorem dX7_init_150 : decode cX7_init 150 = .ok (.aload_n 0, 1) := by decide +kernel
theorem dX7_init_151 : decode cX7_init 151 = .ok (.bipush 8, 2) := by decide +kernel
theorem dX7_init_153 : decode cX7_init 153 = .ok (.newarray .int, 2) := by decide +kernel
theorem dX7_init_155 : decode cX7_init 155 = .ok (.putfield 56, 3) := by decide +kernel
theorem dX7_init_158 : decode cX7_init 158 = .ok (.aload_n 0, 1) := by decide +kernel
theorem dX7_init_159 : decode cX7_init 159 = .ok (.sipush 3380, 3) := by decide +kernel
theorem dX7_init_162 : decode cX7_init 162 = .ok (.newarray .int, 2) := by decide +kernel
theorem dX7_init_164 : decode cX7_init 164 = .ok (.putfield 59, 3) := by decide +kernel
theorem dX7_init_167 : decode cX7_init 167 = .ok (.aload_n 0, 1) := by decide +kernel
theorem dX7_init_168 : decode cX7_init 168 = .ok (.bipush 6, 2) := by decide +kernel
theorem dX7_init_170 : decode cX7_init 170 = .ok (.newarray .int, 2) := by decide +kernel
theorem dX7_init_172 : decode cX7_init 172 = .ok (.putfield 62, 3) := by decide +kernel
theorem dX7_init_175 : decode cX7_init 175 = .ok (.aload_n 0, 1) := by decide +kernel
theorem dX7_init_176 : decode cX7_init 176 = .ok (.bipush 6, 2) := by decide +kernel
theorem dX7_init_178 : decode cX7_init 178 = .ok (.newarray .int, 2) := by decide +kernel
theorem dX7_init_180 : decode cX7_init 180 = .ok (.putfield 65, 3) := by decide +kernel
theorem dX7_init_183 : decode cX7_init 183 = .ok (.iconst 0, 1) := by decide +kernel
theorem dX7_init_184 : decode cX7_init 184 = .ok (.istore_n 1, 1) := by decide +kernel
theorem dX7_init_185 : decode cX7_init 185 = .ok (.iload_n 1, 1) := by decide +kernel
theorem dX7_init_186 : decode cX7_init 186 = .ok (.bipush 24, 2) := by decide +kernel
theorem dX7_init_188 : decode cX7_init 188 = .ok (.if_icmp .ge 17, 3) := by decide +kernel
theorem dX7_init_191 : decode cX7_init 191 = .ok (.aload_n 0, 1) := by decide +kernel
theorem dX7_init_192 : decode cX7_init 192 = .ok (.getfield 29, 3) := by decide +kernel
theorem dX7_init_195 : decode cX7_init 195 = .ok (.iload_n 1, 1) := by decide +kernel
theorem dX7_init_196 : decode cX7_init 196 = .ok (.bipush 10, 2) := by decide +kernel
theorem dX7_init_198 : decode cX7_init 198 = .ok (.iastore, 1) := by decide +kernel
theorem dX7_init_199 : decode cX7_init 199 = .ok (.iinc 1 1, 3) := by decide +kernel
theorem dX7_init_202 : decode cX7_init 202 = .ok (.goto (-17), 3) := by decide +kernel
theorem dX7_init_205 : decode cX7_init 205 = .ok (.return_, 1) := by decide +kernel
theorem dX7_thrown_0 : decode cX7_thrown 0 = .ok (.aload_n 0, 1) := by decide +kernel
theorem dX7_thrown_1 : decode cX7_thrown 1 = .ok (.getfield 68, 3) := by decide +kernel
theorem dX7_thrown_4 : decode cX7_thrown 4 = .ok (.ireturn, 1) := by decide +kernel
theorem dX7_in_0 : decode cX7_in 0 = .ok (.iload_n 0, 1) := by decide +kernel
theorem dX7_in_1 : decode cX7_in 1 = .ok (.iload_n 1, 1) := by decide +kernel
theorem dX7_in_2 : decode cX7_in 2 = .ok (.if_icmp .lt 12, 3) := by decide +kernel
theorem dX7_in_5 : decode cX7_in 5 = .ok (.iload_n 0, 1) := by decide +kernel
theorem dX7_in_6 : decode cX7_in 6 = .ok (.iload_n 2, 1) := by decide +kernel
theorem dX7_in_7 : decode cX7_in 7 = .ok (.if_icmp .gt 7, 3) := by decide +kernel
theorem dX7_in_10 : decode cX7_in 10 = .ok (.iconst 1, 1) := by decide +kernel
theorem dX7_in_11 : decode cX7_in 11 = .ok (.goto 4, 3) := by decide +kernel
theorem dX7_in_14 : decode cX7_in 14 = .ok (.iconst 0, 1) := by decide +kernel
theorem dX7_in_15 : decode cX7_in 15 = .ok (.ireturn, 1) := by decide +kernel
theorem dX7_isCabinet_0 : decode cX7_isCabinet 0 = .ok (.iload_n 1, 1) := by decide +kernel
theorem dX7_isCabinet_1 : decode cX7_isCabinet 1 = .ok (.iconst 0, 1) := by decide +kernel
theorem dX7_isCabinet_2 : decode cX7_isCabinet 2 = .ok (.aload_n 0, 1) := by decide +kernel
theorem dX7_isCabinet_3 : decode cX7_isCabinet 3 = .ok (.getfield 72, 3) := by decide +kernel
theorem dX7_isCabinet_6 : decode cX7_isCabinet 6 = .ok (.iconst 1, 1) := by decide +kernel
theorem dX7_isCabinet_7 : decode cX7_isCabinet 7 = .ok (.isub, 1) := by decide +kernel
theorem dX7_isCabinet_8 : decode cX7_isCabinet 8 = .ok (.invokestatic 75, 3) := by decide +kernel
theorem dX7_isCabinet_11 : decode cX7_isCabinet 11 = .ok (.ireturn, 1) := by decide +kernel
theorem dX7_isPack_0 : decode cX7_isPack 0 = .ok (.iload_n 1, 1) := by decide +kernel
theorem dX7_isPack_1 : decode cX7_isPack 1 = .ok (.iconst 0, 1) := by decide +kernel
theorem dX7_isPack_2 : decode cX7_isPack 2 = .ok (.aload_n 0, 1) := by decide +kernel
theorem dX7_isPack_3 : decode cX7_isPack 3 = .ok (.getfield 79, 3) := by decide +kernel
theorem dX7_isPack_6 : decode cX7_isPack 6 = .ok (.iconst 1, 1) := by decide +kernel
theorem dX7_isPack_7 : decode cX7_isPack 7 = .ok (.isub, 1) := by decide +kernel
theorem dX7_isPack_8 : decode cX7_isPack 8 = .ok (.invokestatic 75, 3) := by decide +kernel
theorem dX7_isPack_11 : decode cX7_isPack 11 = .ok (.ireturn, 1) := by decide +kernel
theorem dX7_inside_0 : decode cX7_inside 0 = .ok (.iconst 0, 1) := by decide +kernel
theorem dX7_inside_1 : decode cX7_inside 1 = .ok (.istore_n 2, 1) := by decide +kernel
theorem dX7_inside_2 : decode cX7_inside 2 = .ok (.iconst 0, 1) := by decide +kernel
theorem dX7_inside_3 : decode cX7_inside 3 = .ok (.istore_n 3, 1) := by decide +kernel
theorem dX7_inside_4 : decode cX7_inside 4 = .ok (.iload_n 3, 1) := by decide +kernel
theorem dX7_inside_5 : decode cX7_inside 5 = .ok (.aload_n 0, 1) := by decide +kernel
theorem dX7_inside_6 : decode cX7_inside 6 = .ok (.getfield 79, 3) := by decide +kernel
theorem dX7_inside_9 : decode cX7_inside 9 = .ok (.if_icmp .ge 22, 3) := by decide +kernel
theorem dX7_inside_12 : decode cX7_inside 12 = .ok (.aload_n 0, 1) := by decide +kernel
theorem dX7_inside_13 : decode cX7_inside 13 = .ok (.getfield 19, 3) := by decide +kernel
theorem dX7_inside_16 : decode cX7_inside 16 = .ok (.iload_n 3, 1) := by decide +kernel
theorem dX7_inside_17 : decode cX7_inside 17 = .ok (.iaload, 1) := by decide +kernel
theorem dX7_inside_18 : decode cX7_inside 18 = .ok (.iload_n 1, 1) := by decide +kernel
theorem dX7_inside_19 : decode cX7_inside 19 = .ok (.if_icmp .ne 6, 3) := by decide +kernel
theorem dX7_inside_22 : decode cX7_inside 22 = .ok (.iinc 2 1, 3) := by decide +kernel
theorem dX7_inside_25 : decode cX7_inside 25 = .ok (.iinc 3 1, 3) := by decide +kernel
theorem dX7_inside_28 : decode cX7_inside 28 = .ok (.goto (-24), 3) := by decide +kernel
theorem dX7_inside_31 : decode cX7_inside 31 = .ok (.iload_n 2, 1) := by decide +kernel
theorem dX7_inside_32 : decode cX7_inside 32 = .ok (.ireturn, 1) := by decide +kernel
theorem dX7_hasSlot_0 : decode cX7_hasSlot 0 = .ok (.aload_n 0, 1) := by decide +kernel
theorem dX7_hasSlot_1 : decode cX7_hasSlot 1 = .ok (.iload_n 1, 1) := by decide +kernel
theorem dX7_hasSlot_2 : decode cX7_hasSlot 2 = .ok (.invokevirtual 82, 3) := by decide +kernel
theorem dX7_hasSlot_5 : decode cX7_hasSlot 5 = .ok (.aload_n 0, 1) := by decide +kernel
theorem dX7_hasSlot_6 : decode cX7_hasSlot 6 = .ok (.getfield 9, 3) := by decide +kernel
theorem dX7_hasSlot_9 : decode cX7_hasSlot 9 = .ok (.bipush 7, 2) := by decide +kernel
theorem dX7_hasSlot_11 : decode cX7_hasSlot 11 = .ok (.iload_n 1, 1) := by decide +kernel
theorem dX7_hasSlot_12 : decode cX7_hasSlot 12 = .ok (.imul, 1) := by decide +kernel
theorem dX7_hasSlot_13 : decode cX7_hasSlot 13 = .ok (.iconst 2, 1) := by decide +kernel
theorem dX7_hasSlot_14 : decode cX7_hasSlot 14 = .ok (.iadd, 1) := by decide +kernel
theorem dX7_hasSlot_15 : decode cX7_hasSlot 15 = .ok (.iaload, 1) := by decide +kernel
theorem dX7_hasSlot_16 : decode cX7_hasSlot 16 = .ok (.if_icmp .ge 7, 3) := by decide +kernel
theorem dX7_hasSlot_19 : decode cX7_hasSlot 19 = .ok (.iconst 1, 1) := by decide +kernel
theorem dX7_hasSlot_20 : decode cX7_hasSlot 20 = .ok (.goto 4, 3) := by decide +kernel
theorem dX7_hasSlot_23 : decode cX7_hasSlot 23 = .ok (.iconst 0, 1) := by decide +kernel
theorem dX7_hasSlot_24 : decode cX7_hasSlot 24 = .ok (.ireturn, 1) := by decide +kernel
theorem dX7_isFit_0 : decode cX7_isFit 0 = .ok (.aload_n 0, 1) := by decide +kernel
theorem dX7_isFit_1 : decode cX7_isFit 1 = .ok (.getfield 22, 3) := by decide +kernel
theorem dX7_isFit_4 : decode cX7_isFit 4 = .ok (.iload_n 1, 1) := by decide +kernel
theorem dX7_isFit_5 : decode cX7_isFit 5 = .ok (.baload, 1) := by decide +kernel
theorem dX7_isFit_6 : decode cX7_isFit 6 = .ok (.ifCond .ne 22, 3) := by decide +kernel
theorem dX7_isFit_9 : decode cX7_isFit 9 = .ok (.aload_n 0, 1) := by decide +kernel
theorem dX7_isFit_10 : decode cX7_isFit 10 = .ok (.getfield 16, 3) := by decide +kernel
theorem dX7_isFit_13 : decode cX7_isFit 13 = .ok (.iload_n 1, 1) := by decide +kernel
theorem dX7_isFit_14 : decode cX7_isFit 14 = .ok (.iaload, 1) := by decide +kernel
theorem dX7_isFit_15 : decode cX7_isFit 15 = .ok (.aload_n 0, 1) := by decide +kernel
theorem dX7_isFit_16 : decode cX7_isFit 16 = .ok (.getfield 26, 3) := by decide +kernel
theorem dX7_isFit_19 : decode cX7_isFit 19 = .ok (.iconst 0, 1) := by decide +kernel
theorem dX7_isFit_20 : decode cX7_isFit 20 = .ok (.iaload, 1) := by decide +kernel
theorem dX7_isFit_21 : decode cX7_isFit 21 = .ok (.if_icmp .ge 7, 3) := by decide +kernel
theorem dX7_isFit_24 : decode cX7_isFit 24 = .ok (.iconst 1, 1) := by decide +kernel
theorem dX7_isFit_25 : decode cX7_isFit 25 = .ok (.goto 4, 3) := by decide +kernel
theorem dX7_isFit_28 : decode cX7_isFit 28 = .ok (.iconst 0, 1) := by decide +kernel
theorem dX7_isFit_29 : decode cX7_isFit 29 = .ok (.ireturn, 1) := by decide +kernel
theorem dX7_isReady_0 : decode cX7_isReady 0 = .ok (.aload_n 0, 1) := by decide +kernel
theorem dX7_isReady_1 : decode cX7_isReady 1 = .ok (.getfield 19, 3) := by decide +kernel
theorem dX7_isReady_4 : decode cX7_isReady 4 = .ok (.iload_n 1, 1) := by decide +kernel
theorem dX7_isReady_5 : decode cX7_isReady 5 = .ok (.iaload, 1) := by decide +kernel
theorem dX7_isReady_6 : decode cX7_isReady 6 = .ok (.iconst (-1), 1) := by decide +kernel
theorem dX7_isReady_7 : decode cX7_isReady 7 = .ok (.if_icmp .eq 30, 3) := by decide +kernel
theorem dX7_isReady_10 : decode cX7_isReady 10 = .ok (.aload_n 0, 1) := by decide +kernel
theorem dX7_isReady_11 : decode cX7_isReady 11 = .ok (.iload_n 1, 1) := by decide +kernel
theorem dX7_isReady_12 : decode cX7_isReady 12 = .ok (.invokevirtual 86, 3) := by decide +kernel
theorem dX7_isReady_15 : decode cX7_isReady 15 = .ok (.ifCond .eq 22, 3) := by decide +kernel
theorem dX7_isReady_18 : decode cX7_isReady 18 = .ok (.aload_n 0, 1) := by decide +kernel
theorem dX7_isReady_19 : decode cX7_isReady 19 = .ok (.getfield 13, 3) := by decide +kernel
theorem dX7_isReady_22 : decode cX7_isReady 22 = .ok (.iload_n 1, 1) := by decide +kernel
theorem dX7_isReady_23 : decode cX7_isReady 23 = .ok (.iaload, 1) := by decide +kernel
theorem dX7_isReady_24 : decode cX7_isReady 24 = .ok (.aload_n 0, 1) := by decide +kernel
theorem dX7_isReady_25 : decode cX7_isReady 25 = .ok (.getfield 26, 3) := by decide +kernel
theorem dX7_isReady_28 : decode cX7_isReady 28 = .ok (.iconst 1, 1) := by decide +kernel
theorem dX7_isReady_29 : decode cX7_isReady 29 = .ok (.iaload, 1) := by decide +kernel
theorem dX7_isReady_30 : decode cX7_isReady 30 = .ok (.if_icmp .lt 7, 3) := by decide +kernel
theorem dX7_isReady_33 : decode cX7_isReady 33 = .ok (.iconst 1, 1) := by decide +kernel
theorem dX7_isReady_34 : decode cX7_isReady 34 = .ok (.goto 4, 3) := by decide +kernel
theorem dX7_isReady_37 : decode cX7_isReady 37 = .ok (.iconst 0, 1) := by decide +kernel
theorem dX7_isReady_38 : decode cX7_isReady 38 = .ok (.ireturn, 1) := by decide +kernel
theorem dX7_readyIn_0 : decode cX7_readyIn 0 = .ok (.iconst 0, 1) := by decide +kernel
theorem dX7_readyIn_1 : decode cX7_readyIn 1 = .ok (.istore_n 2, 1) := by decide +kernel
theorem dX7_readyIn_2 : decode cX7_readyIn 2 = .ok (.iconst 0, 1) := by decide +kernel
theorem dX7_readyIn_3 : decode cX7_readyIn 3 = .ok (.istore_n 3, 1) := by decide +kernel
theorem dX7_readyIn_4 : decode cX7_readyIn 4 = .ok (.iload_n 3, 1) := by decide +kernel
theorem dX7_readyIn_5 : decode cX7_readyIn 5 = .ok (.aload_n 0, 1) := by decide +kernel
theorem dX7_readyIn_6 : decode cX7_readyIn 6 = .ok (.getfield 79, 3) := by decide +kernel
theorem dX7_readyIn_9 : decode cX7_readyIn 9 = .ok (.if_icmp .ge 30, 3) := by decide +kernel
theorem dX7_readyIn_12 : decode cX7_readyIn 12 = .ok (.aload_n 0, 1) := by decide +kernel
theorem dX7_readyIn_13 : decode cX7_readyIn 13 = .ok (.getfield 19, 3) := by decide +kernel
theorem dX7_readyIn_16 : decode cX7_readyIn 16 = .ok (.iload_n 3, 1) := by decide +kernel
theorem dX7_readyIn_17 : decode cX7_readyIn 17 = .ok (.iaload, 1) := by decide +kernel
theorem dX7_readyIn_18 : decode cX7_readyIn 18 = .ok (.iload_n 1, 1) := by decide +kernel
theorem dX7_readyIn_19 : decode cX7_readyIn 19 = .ok (.if_icmp .ne 14, 3) := by decide +kernel
theorem dX7_readyIn_22 : decode cX7_readyIn 22 = .ok (.aload_n 0, 1) := by decide +kernel
theorem dX7_readyIn_23 : decode cX7_readyIn 23 = .ok (.iload_n 3, 1) := by decide +kernel
theorem dX7_readyIn_24 : decode cX7_readyIn 24 = .ok (.invokevirtual 90, 3) := by decide +kernel
theorem dX7_readyIn_27 : decode cX7_readyIn 27 = .ok (.ifCond .eq 6, 3) := by decide +kernel
theorem dX7_readyIn_30 : decode cX7_readyIn 30 = .ok (.iinc 2 1, 3) := by decide +kernel
theorem dX7_readyIn_33 : decode cX7_readyIn 33 = .ok (.iinc 3 1, 3) := by decide +kernel
theorem dX7_readyIn_36 : decode cX7_readyIn 36 = .ok (.goto (-32), 3) := by decide +kernel
theorem dX7_readyIn_39 : decode cX7_readyIn 39 = .ok (.iload_n 2, 1) := by decide +kernel
theorem dX7_readyIn_40 : decode cX7_readyIn 40 = .ok (.ireturn, 1) := by decide +kernel
theorem dX7_isAhead_0 : decode cX7_isAhead 0 = .ok (.aload_n 0, 1) := by decide +kernel
theorem dX7_isAhead_1 : decode cX7_isAhead 1 = .ok (.getfield 13, 3) := by decide +kernel
theorem dX7_isAhead_4 : decode cX7_isAhead 4 = .ok (.iload_n 1, 1) := by decide +kernel
theorem dX7_isAhead_5 : decode cX7_isAhead 5 = .ok (.iaload, 1) := by decide +kernel
theorem dX7_isAhead_6 : decode cX7_isAhead 6 = .ok (.aload_n 0, 1) := by decide +kernel
theorem dX7_isAhead_7 : decode cX7_isAhead 7 = .ok (.getfield 13, 3) := by decide +kernel
theorem dX7_isAhead_10 : decode cX7_isAhead 10 = .ok (.iload_n 2, 1) := by decide +kernel
theorem dX7_isAhead_11 : decode cX7_isAhead 11 = .ok (.iaload, 1) := by decide +kernel
theorem dX7_isAhead_12 : decode cX7_isAhead 12 = .ok (.if_icmp .eq 24, 3) := by decide +kernel
theorem dX7_isAhead_15 : decode cX7_isAhead 15 = .ok (.aload_n 0, 1) := by decide +kernel
theorem dX7_isAhead_16 : decode cX7_isAhead 16 = .ok (.getfield 13, 3) := by decide +kernel
theorem dX7_isAhead_19 : decode cX7_isAhead 19 = .ok (.iload_n 1, 1) := by decide +kernel
theorem dX7_isAhead_20 : decode cX7_isAhead 20 = .ok (.iaload, 1) := by decide +kernel
theorem dX7_isAhead_21 : decode cX7_isAhead 21 = .ok (.aload_n 0, 1) := by decide +kernel
theorem dX7_isAhead_22 : decode cX7_isAhead 22 = .ok (.getfield 13, 3) := by decide +kernel
theorem dX7_isAhead_25 : decode cX7_isAhead 25 = .ok (.iload_n 2, 1) := by decide +kernel
theorem dX7_isAhead_26 : decode cX7_isAhead 26 = .ok (.iaload, 1) := by decide +kernel
theorem dX7_isAhead_27 : decode cX7_isAhead 27 = .ok (.if_icmp .le 7, 3) := by decide +kernel
theorem dX7_isAhead_30 : decode cX7_isAhead 30 = .ok (.iconst 1, 1) := by decide +kernel
theorem dX7_isAhead_31 : decode cX7_isAhead 31 = .ok (.goto 4, 3) := by decide +kernel
theorem dX7_isAhead_34 : decode cX7_isAhead 34 = .ok (.iconst 0, 1) := by decide +kernel
theorem dX7_isAhead_35 : decode cX7_isAhead 35 = .ok (.ireturn, 1) := by decide +kernel
theorem dX7_isAhead_36 : decode cX7_isAhead 36 = .ok (.aload_n 0, 1) := by decide +kernel
theorem dX7_isAhead_37 : decode cX7_isAhead 37 = .ok (.getfield 16, 3) := by decide +kernel
theorem dX7_isAhead_40 : decode cX7_isAhead 40 = .ok (.iload_n 1, 1) := by decide +kernel
theorem dX7_isAhead_41 : decode cX7_isAhead 41 = .ok (.iaload, 1) := by decide +kernel
theorem dX7_isAhead_42 : decode cX7_isAhead 42 = .ok (.aload_n 0, 1) := by decide +kernel
theorem dX7_isAhead_43 : decode cX7_isAhead 43 = .ok (.getfield 16, 3) := by decide +kernel
theorem dX7_isAhead_46 : decode cX7_isAhead 46 = .ok (.iload_n 2, 1) := by decide +kernel
theorem dX7_isAhead_47 : decode cX7_isAhead 47 = .ok (.iaload, 1) := by decide +kernel
theorem dX7_isAhead_48 : decode cX7_isAhead 48 = .ok (.if_icmp .eq 24, 3) := by decide +kernel
theorem dX7_isAhead_51 : decode cX7_isAhead 51 = .ok (.aload_n 0, 1) := by decide +kernel
theorem dX7_isAhead_52 : decode cX7_isAhead 52 = .ok (.getfield 16, 3) := by decide +kernel
theorem dX7_isAhead_55 : decode cX7_isAhead 55 = .ok (.iload_n 1, 1) := by decide +kernel
theorem dX7_isAhead_56 : decode cX7_isAhead 56 = .ok (.iaload, 1) := by decide +kernel
theorem dX7_isAhead_57 : decode cX7_isAhead 57 = .ok (.aload_n 0, 1) := by decide +kernel
theorem dX7_isAhead_58 : decode cX7_isAhead 58 = .ok (.getfield 16, 3) := by decide +kernel
theorem dX7_isAhead_61 : decode cX7_isAhead 61 = .ok (.iload_n 2, 1) := by decide +kernel
theorem dX7_isAhead_62 : decode cX7_isAhead 62 = .ok (.iaload, 1) := by decide +kernel
theorem dX7_isAhead_63 : decode cX7_isAhead 63 = .ok (.if_icmp .ge 7, 3) := by decide +kernel
theorem dX7_isAhead_66 : decode cX7_isAhead 66 = .ok (.iconst 1, 1) := by decide +kernel
theorem dX7_isAhead_67 : decode cX7_isAhead 67 = .ok (.goto 4, 3) := by decide +kernel
theorem dX7_isAhead_70 : decode cX7_isAhead 70 = .ok (.iconst 0, 1) := by decide +kernel
theorem dX7_isAhead_71 : decode cX7_isAhead 71 = .ok (.ireturn, 1) := by decide +kernel
theorem dX7_isAhead_72 : decode cX7_isAhead 72 = .ok (.iload_n 1, 1) := by decide +kernel
theorem dX7_isAhead_73 : decode cX7_isAhead 73 = .ok (.iload_n 2, 1) := by decide +kernel
theorem dX7_isAhead_74 : decode cX7_isAhead 74 = .ok (.if_icmp .ge 7, 3) := by decide +kernel
theorem dX7_isAhead_77 : decode cX7_isAhead 77 = .ok (.iconst 1, 1) := by decide +kernel
theorem dX7_isAhead_78 : decode cX7_isAhead 78 = .ok (.goto 4, 3) := by decide +kernel
theorem dX7_isAhead_81 : decode cX7_isAhead 81 = .ok (.iconst 0, 1) := by decide +kernel
theorem dX7_isAhead_82 : decode cX7_isAhead 82 = .ok (.ireturn, 1) := by decide +kernel
theorem dX7_given_0 : decode cX7_given 0 = .ok (.iconst (-1), 1) := by decide +kernel
theorem dX7_given_1 : decode cX7_given 1 = .ok (.istore_n 2, 1) := by decide +kernel
theorem dX7_given_2 : decode cX7_given 2 = .ok (.iconst 0, 1) := by decide +kernel
theorem dX7_given_3 : decode cX7_given 3 = .ok (.istore_n 3, 1) := by decide +kernel
theorem dX7_given_4 : decode cX7_given 4 = .ok (.iload_n 3, 1) := by decide +kernel
theorem dX7_given_5 : decode cX7_given 5 = .ok (.aload_n 0, 1) := by decide +kernel
theorem dX7_given_6 : decode cX7_given 6 = .ok (.getfield 79, 3) := by decide +kernel
theorem dX7_given_9 : decode cX7_given 9 = .ok (.if_icmp .ge 43, 3) := by decide +kernel
theorem dX7_given_12 : decode cX7_given 12 = .ok (.aload_n 0, 1) := by decide +kernel
theorem dX7_given_13 : decode cX7_given 13 = .ok (.getfield 19, 3) := by decide +kernel
theorem dX7_given_16 : decode cX7_given 16 = .ok (.iload_n 3, 1) := by decide +kernel
theorem dX7_given_17 : decode cX7_given 17 = .ok (.iaload, 1) := by decide +kernel
theorem dX7_given_18 : decode cX7_given 18 = .ok (.iload_n 1, 1) := by decide +kernel
theorem dX7_given_19 : decode cX7_given 19 = .ok (.if_icmp .ne 27, 3) := by decide +kernel
theorem dX7_given_22 : decode cX7_given 22 = .ok (.aload_n 0, 1) := by decide +kernel
theorem dX7_given_23 : decode cX7_given 23 = .ok (.iload_n 3, 1) := by decide +kernel
theorem dX7_given_24 : decode cX7_given 24 = .ok (.invokevirtual 90, 3) := by decide +kernel
theorem dX7_given_27 : decode cX7_given 27 = .ok (.ifCond .eq 19, 3) := by decide +kernel
theorem dX7_given_30 : decode cX7_given 30 = .ok (.iload_n 2, 1) := by decide +kernel
theorem dX7_given_31 : decode cX7_given 31 = .ok (.iconst (-1), 1) := by decide +kernel
theorem dX7_given_32 : decode cX7_given 32 = .ok (.if_icmp .eq 12, 3) := by decide +kernel
theorem dX7_given_35 : decode cX7_given 35 = .ok (.aload_n 0, 1) := by decide +kernel
theorem dX7_given_36 : decode cX7_given 36 = .ok (.iload_n 3, 1) := by decide +kernel
theorem dX7_given_37 : decode cX7_given 37 = .ok (.iload_n 2, 1) := by decide +kernel
theorem dX7_given_38 : decode cX7_given 38 = .ok (.invokevirtual 93, 3) := by decide +kernel
theorem dX7_given_41 : decode cX7_given 41 = .ok (.ifCond .eq 5, 3) := by decide +kernel
theorem dX7_given_44 : decode cX7_given 44 = .ok (.iload_n 3, 1) := by decide +kernel
theorem dX7_given_45 : decode cX7_given 45 = .ok (.istore_n 2, 1) := by decide +kernel
theorem dX7_given_46 : decode cX7_given 46 = .ok (.iinc 3 1, 3) := by decide +kernel
theorem dX7_given_49 : decode cX7_given 49 = .ok (.goto (-45), 3) := by decide +kernel
theorem dX7_given_52 : decode cX7_given 52 = .ok (.iload_n 2, 1) := by decide +kernel
theorem dX7_given_53 : decode cX7_given 53 = .ok (.ireturn, 1) := by decide +kernel
theorem dX7_cabinet_0 : decode cX7_cabinet 0 = .ok (.aload_n 0, 1) := by decide +kernel
theorem dX7_cabinet_1 : decode cX7_cabinet 1 = .ok (.iconst 0, 1) := by decide +kernel
theorem dX7_cabinet_2 : decode cX7_cabinet 2 = .ok (.putfield 68, 3) := by decide +kernel
theorem dX7_cabinet_5 : decode cX7_cabinet 5 = .ok (.iload_n 1, 1) := by decide +kernel
theorem dX7_cabinet_6 : decode cX7_cabinet 6 = .ok (.iconst 0, 1) := by decide +kernel
theorem dX7_cabinet_7 : decode cX7_cabinet 7 = .ok (.bipush 99, 2) := by decide +kernel
theorem dX7_cabinet_9 : decode cX7_cabinet 9 = .ok (.invokestatic 75, 3) := by decide +kernel
theorem dX7_cabinet_12 : decode cX7_cabinet 12 = .ok (.ifCond .eq 54, 3) := by decide +kernel
theorem dX7_cabinet_15 : decode cX7_cabinet 15 = .ok (.iload_n 2, 1) := by decide +kernel
theorem dX7_cabinet_16 : decode cX7_cabinet 16 = .ok (.iconst 0, 1) := by decide +kernel
theorem dX7_cabinet_17 : decode cX7_cabinet 17 = .ok (.bipush 99, 2) := by decide +kernel
theorem dX7_cabinet_19 : decode cX7_cabinet 19 = .ok (.invokestatic 75, 3) := by decide +kernel
theorem dX7_cabinet_22 : decode cX7_cabinet 22 = .ok (.ifCond .eq 44, 3) := by decide +kernel
theorem dX7_cabinet_25 : decode cX7_cabinet 25 = .ok (.iload_n 3, 1) := by decide +kernel
theorem dX7_cabinet_26 : decode cX7_cabinet 26 = .ok (.iconst 1, 1) := by decide +kernel
theorem dX7_cabinet_27 : decode cX7_cabinet 27 = .ok (.bipush 8, 2) := by decide +kernel
theorem dX7_cabinet_29 : decode cX7_cabinet 29 = .ok (.invokestatic 75, 3) := by decide +kernel
theorem dX7_cabinet_32 : decode cX7_cabinet 32 = .ok (.ifCond .eq 34, 3) := by decide +kernel
theorem dX7_cabinet_35 : decode cX7_cabinet 35 = .ok (.iload 4, 2) := by decide +kernel
theorem dX7_cabinet_37 : decode cX7_cabinet 37 = .ok (.iconst 0, 1) := by decide +kernel
theorem dX7_cabinet_38 : decode cX7_cabinet 38 = .ok (.bipush 8, 2) := by decide +kernel
theorem dX7_cabinet_40 : decode cX7_cabinet 40 = .ok (.invokestatic 75, 3) := by decide +kernel
theorem dX7_cabinet_43 : decode cX7_cabinet 43 = .ok (.ifCond .eq 23, 3) := by decide +kernel
theorem dX7_cabinet_46 : decode cX7_cabinet 46 = .ok (.iload 5, 2) := by decide +kernel
theorem dX7_cabinet_48 : decode cX7_cabinet 48 = .ok (.iconst 0, 1) := by decide +kernel
theorem dX7_cabinet_49 : decode cX7_cabinet 49 = .ok (.bipush 8, 2) := by decide +kernel
theorem dX7_cabinet_51 : decode cX7_cabinet 51 = .ok (.invokestatic 75, 3) := by decide +kernel
theorem dX7_cabinet_54 : decode cX7_cabinet 54 = .ok (.ifCond .eq 12, 3) := by decide +kernel
theorem dX7_cabinet_57 : decode cX7_cabinet 57 = .ok (.aload_n 0, 1) := by decide +kernel
theorem dX7_cabinet_58 : decode cX7_cabinet 58 = .ok (.getfield 72, 3) := by decide +kernel
theorem dX7_cabinet_61 : decode cX7_cabinet 61 = .ok (.bipush 6, 2) := by decide +kernel
theorem dX7_cabinet_63 : decode cX7_cabinet 63 = .ok (.if_icmp .ne 5, 3) := by decide +kernel
theorem dX7_cabinet_66 : decode cX7_cabinet 66 = .ok (.iconst (-1), 1) := by decide +kernel
theorem dX7_cabinet_67 : decode cX7_cabinet 67 = .ok (.ireturn, 1) := by decide +kernel
theorem dX7_cabinet_68 : decode cX7_cabinet 68 = .ok (.bipush 7, 2) := by decide +kernel
theorem dX7_cabinet_70 : decode cX7_cabinet 70 = .ok (.aload_n 0, 1) := by decide +kernel
theorem dX7_cabinet_71 : decode cX7_cabinet 71 = .ok (.getfield 72, 3) := by decide +kernel
theorem dX7_cabinet_74 : decode cX7_cabinet 74 = .ok (.imul, 1) := by decide +kernel
theorem dX7_cabinet_75 : decode cX7_cabinet 75 = .ok (.istore 6, 2) := by decide +kernel
theorem dX7_cabinet_77 : decode cX7_cabinet 77 = .ok (.aload_n 0, 1) := by decide +kernel
theorem dX7_cabinet_78 : decode cX7_cabinet 78 = .ok (.getfield 9, 3) := by decide +kernel
theorem dX7_cabinet_81 : decode cX7_cabinet 81 = .ok (.iload 6, 2) := by decide +kernel
theorem dX7_cabinet_83 : decode cX7_cabinet 83 = .ok (.iload_n 1, 1) := by decide +kernel
theorem dX7_cabinet_84 : decode cX7_cabinet 84 = .ok (.iastore, 1) := by decide +kernel
theorem dX7_cabinet_85 : decode cX7_cabinet 85 = .ok (.aload_n 0, 1) := by decide +kernel
theorem dX7_cabinet_86 : decode cX7_cabinet 86 = .ok (.getfield 9, 3) := by decide +kernel
theorem dX7_cabinet_89 : decode cX7_cabinet 89 = .ok (.iload 6, 2) := by decide +kernel
theorem dX7_cabinet_91 : decode cX7_cabinet 91 = .ok (.iconst 1, 1) := by decide +kernel
theorem dX7_cabinet_92 : decode cX7_cabinet 92 = .ok (.iadd, 1) := by decide +kernel
theorem dX7_cabinet_93 : decode cX7_cabinet 93 = .ok (.iload_n 2, 1) := by decide +kernel
theorem dX7_cabinet_94 : decode cX7_cabinet 94 = .ok (.iastore, 1) := by decide +kernel
theorem dX7_cabinet_95 : decode cX7_cabinet 95 = .ok (.aload_n 0, 1) := by decide +kernel
theorem dX7_cabinet_96 : decode cX7_cabinet 96 = .ok (.getfield 9, 3) := by decide +kernel
theorem dX7_cabinet_99 : decode cX7_cabinet 99 = .ok (.iload 6, 2) := by decide +kernel
theorem dX7_cabinet_101 : decode cX7_cabinet 101 = .ok (.iconst 2, 1) := by decide +kernel
theorem dX7_cabinet_102 : decode cX7_cabinet 102 = .ok (.iadd, 1) := by decide +kernel
theorem dX7_cabinet_103 : decode cX7_cabinet 103 = .ok (.iload_n 3, 1) := by decide +kernel
theorem dX7_cabinet_104 : decode cX7_cabinet 104 = .ok (.iastore, 1) := by decide +kernel
theorem dX7_cabinet_105 : decode cX7_cabinet 105 = .ok (.aload_n 0, 1) := by decide +kernel
theorem dX7_cabinet_106 : decode cX7_cabinet 106 = .ok (.getfield 9, 3) := by decide +kernel
theorem dX7_cabinet_109 : decode cX7_cabinet 109 = .ok (.iload 6, 2) := by decide +kernel
theorem dX7_cabinet_111 : decode cX7_cabinet 111 = .ok (.iconst 3, 1) := by decide +kernel
theorem dX7_cabinet_112 : decode cX7_cabinet 112 = .ok (.iadd, 1) := by decide +kernel
theorem dX7_cabinet_113 : decode cX7_cabinet 113 = .ok (.iload 4, 2) := by decide +kernel
theorem dX7_cabinet_115 : decode cX7_cabinet 115 = .ok (.iastore, 1) := by decide +kernel
theorem dX7_cabinet_116 : decode cX7_cabinet 116 = .ok (.aload_n 0, 1) := by decide +kernel
theorem dX7_cabinet_117 : decode cX7_cabinet 117 = .ok (.getfield 9, 3) := by decide +kernel
theorem dX7_cabinet_120 : decode cX7_cabinet 120 = .ok (.iload 6, 2) := by decide +kernel
theorem dX7_cabinet_122 : decode cX7_cabinet 122 = .ok (.iconst 4, 1) := by decide +kernel
theorem dX7_cabinet_123 : decode cX7_cabinet 123 = .ok (.iadd, 1) := by decide +kernel
theorem dX7_cabinet_124 : decode cX7_cabinet 124 = .ok (.iload 5, 2) := by decide +kernel
theorem dX7_cabinet_126 : decode cX7_cabinet 126 = .ok (.iastore, 1) := by decide +kernel
theorem dX7_cabinet_127 : decode cX7_cabinet 127 = .ok (.aload_n 0, 1) := by decide +kernel
theorem dX7_cabinet_128 : decode cX7_cabinet 128 = .ok (.dup, 1) := by decide +kernel
theorem dX7_cabinet_129 : decode cX7_cabinet 129 = .ok (.getfield 72, 3) := by decide +kernel
theorem dX7_cabinet_132 : decode cX7_cabinet 132 = .ok (.iconst 1, 1) := by decide +kernel
theorem dX7_cabinet_133 : decode cX7_cabinet 133 = .ok (.iadd, 1) := by decide +kernel
theorem dX7_cabinet_134 : decode cX7_cabinet 134 = .ok (.putfield 72, 3) := by decide +kernel
theorem dX7_cabinet_137 : decode cX7_cabinet 137 = .ok (.aload_n 0, 1) := by decide +kernel
theorem dX7_cabinet_138 : decode cX7_cabinet 138 = .ok (.getfield 72, 3) := by decide +kernel
theorem dX7_cabinet_141 : decode cX7_cabinet 141 = .ok (.iconst 1, 1) := by decide +kernel
theorem dX7_cabinet_142 : decode cX7_cabinet 142 = .ok (.isub, 1) := by decide +kernel
theorem dX7_cabinet_143 : decode cX7_cabinet 143 = .ok (.ireturn, 1) := by decide +kernel
theorem dX7_pack_0 : decode cX7_pack 0 = .ok (.aload_n 0, 1) := by decide +kernel
theorem dX7_pack_1 : decode cX7_pack 1 = .ok (.iconst 0, 1) := by decide +kernel
theorem dX7_pack_2 : decode cX7_pack 2 = .ok (.putfield 68, 3) := by decide +kernel
theorem dX7_pack_5 : decode cX7_pack 5 = .ok (.aload_n 0, 1) := by decide +kernel
theorem dX7_pack_6 : decode cX7_pack 6 = .ok (.iload_n 1, 1) := by decide +kernel
theorem dX7_pack_7 : decode cX7_pack 7 = .ok (.invokevirtual 97, 3) := by decide +kernel
theorem dX7_pack_10 : decode cX7_pack 10 = .ok (.ifCond .eq 30, 3) := by decide +kernel
theorem dX7_pack_13 : decode cX7_pack 13 = .ok (.iload_n 2, 1) := by decide +kernel
theorem dX7_pack_14 : decode cX7_pack 14 = .ok (.iconst 0, 1) := by decide +kernel
theorem dX7_pack_15 : decode cX7_pack 15 = .ok (.bipush 100, 2) := by decide +kernel
theorem dX7_pack_17 : decode cX7_pack 17 = .ok (.invokestatic 75, 3) := by decide +kernel
theorem dX7_pack_20 : decode cX7_pack 20 = .ok (.ifCond .eq 20, 3) := by decide +kernel
theorem dX7_pack_23 : decode cX7_pack 23 = .ok (.aload_n 0, 1) := by decide +kernel
theorem dX7_pack_24 : decode cX7_pack 24 = .ok (.getfield 79, 3) := by decide +kernel
theorem dX7_pack_27 : decode cX7_pack 27 = .ok (.bipush 30, 2) := by decide +kernel
theorem dX7_pack_29 : decode cX7_pack 29 = .ok (.if_icmp .eq 11, 3) := by decide +kernel
theorem dX7_pack_32 : decode cX7_pack 32 = .ok (.aload_n 0, 1) := by decide +kernel
theorem dX7_pack_33 : decode cX7_pack 33 = .ok (.iload_n 1, 1) := by decide +kernel
theorem dX7_pack_34 : decode cX7_pack 34 = .ok (.invokevirtual 100, 3) := by decide +kernel
theorem dX7_pack_37 : decode cX7_pack 37 = .ok (.ifCond .ne 5, 3) := by decide +kernel
theorem dX7_pack_40 : decode cX7_pack 40 = .ok (.iconst (-1), 1) := by decide +kernel
theorem dX7_pack_41 : decode cX7_pack 41 = .ok (.ireturn, 1) := by decide +kernel
theorem dX7_pack_42 : decode cX7_pack 42 = .ok (.aload_n 0, 1) := by decide +kernel
theorem dX7_pack_43 : decode cX7_pack 43 = .ok (.getfield 19, 3) := by decide +kernel
theorem dX7_pack_46 : decode cX7_pack 46 = .ok (.aload_n 0, 1) := by decide +kernel
theorem dX7_pack_47 : decode cX7_pack 47 = .ok (.getfield 79, 3) := by decide +kernel
theorem dX7_pack_50 : decode cX7_pack 50 = .ok (.iload_n 1, 1) := by decide +kernel
theorem dX7_pack_51 : decode cX7_pack 51 = .ok (.iastore, 1) := by decide +kernel
theorem dX7_pack_52 : decode cX7_pack 52 = .ok (.aload_n 0, 1) := by decide +kernel
theorem dX7_pack_53 : decode cX7_pack 53 = .ok (.getfield 13, 3) := by decide +kernel
theorem dX7_pack_56 : decode cX7_pack 56 = .ok (.aload_n 0, 1) := by decide +kernel
theorem dX7_pack_57 : decode cX7_pack 57 = .ok (.getfield 79, 3) := by decide +kernel
theorem dX7_pack_60 : decode cX7_pack 60 = .ok (.iload_n 2, 1) := by decide +kernel
theorem dX7_pack_61 : decode cX7_pack 61 = .ok (.iastore, 1) := by decide +kernel
theorem dX7_pack_62 : decode cX7_pack 62 = .ok (.aload_n 0, 1) := by decide +kernel
theorem dX7_pack_63 : decode cX7_pack 63 = .ok (.dup, 1) := by decide +kernel
theorem dX7_pack_64 : decode cX7_pack 64 = .ok (.getfield 79, 3) := by decide +kernel
theorem dX7_pack_67 : decode cX7_pack 67 = .ok (.iconst 1, 1) := by decide +kernel
theorem dX7_pack_68 : decode cX7_pack 68 = .ok (.iadd, 1) := by decide +kernel
theorem dX7_pack_69 : decode cX7_pack 69 = .ok (.putfield 79, 3) := by decide +kernel
theorem dX7_pack_72 : decode cX7_pack 72 = .ok (.aload_n 0, 1) := by decide +kernel
theorem dX7_pack_73 : decode cX7_pack 73 = .ok (.getfield 79, 3) := by decide +kernel
theorem dX7_pack_76 : decode cX7_pack 76 = .ok (.iconst 1, 1) := by decide +kernel
theorem dX7_pack_77 : decode cX7_pack 77 = .ok (.isub, 1) := by decide +kernel
theorem dX7_pack_78 : decode cX7_pack 78 = .ok (.ireturn, 1) := by decide +kernel
theorem dX7_leastOf_0 : decode cX7_leastOf 0 = .ok (.iload_n 0, 1) := by decide +kernel
theorem dX7_leastOf_1 : decode cX7_leastOf 1 = .ok (.iconst 2, 1) := by decide +kernel
theorem dX7_leastOf_2 : decode cX7_leastOf 2 = .ok (.if_icmp .ne 7, 3) := by decide +kernel
theorem dX7_leastOf_5 : decode cX7_leastOf 5 = .ok (.iconst 0, 1) := by decide +kernel
theorem dX7_leastOf_6 : decode cX7_leastOf 6 = .ok (.goto 4, 3) := by decide +kernel
theorem dX7_leastOf_9 : decode cX7_leastOf 9 = .ok (.iconst 1, 1) := by decide +kernel
theorem dX7_leastOf_10 : decode cX7_leastOf 10 = .ok (.ireturn, 1) := by decide +kernel
theorem dX7_mostOf_0 : decode cX7_mostOf 0 = .ok (.iload_n 0, 1) := by decide +kernel
theorem dX7_mostOf_1 : decode cX7_mostOf 1 = .ok (.tableswitch 45 0 4 #[35, 45, 38, 45, 42], 35) := by decide +kernel
theorem dX7_mostOf_36 : decode cX7_mostOf 36 = .ok (.ldc 103, 2) := by decide +kernel
theorem dX7_mostOf_38 : decode cX7_mostOf 38 = .ok (.ireturn, 1) := by decide +kernel
theorem dX7_mostOf_39 : decode cX7_mostOf 39 = .ok (.sipush 1000, 3) := by decide +kernel
theorem dX7_mostOf_42 : decode cX7_mostOf 42 = .ok (.ireturn, 1) := by decide +kernel
theorem dX7_mostOf_43 : decode cX7_mostOf 43 = .ok (.bipush 30, 2) := by decide +kernel
theorem dX7_mostOf_45 : decode cX7_mostOf 45 = .ok (.ireturn, 1) := by decide +kernel
theorem dX7_mostOf_46 : decode cX7_mostOf 46 = .ok (.bipush 100, 2) := by decide +kernel
theorem dX7_mostOf_48 : decode cX7_mostOf 48 = .ok (.ireturn, 1) := by decide +kernel
theorem dX7_set_0 : decode cX7_set 0 = .ok (.aload_n 0, 1) := by decide +kernel
theorem dX7_set_1 : decode cX7_set 1 = .ok (.iconst 0, 1) := by decide +kernel
theorem dX7_set_2 : decode cX7_set 2 = .ok (.putfield 68, 3) := by decide +kernel
theorem dX7_set_5 : decode cX7_set 5 = .ok (.iload_n 1, 1) := by decide +kernel
theorem dX7_set_6 : decode cX7_set 6 = .ok (.iconst 0, 1) := by decide +kernel
theorem dX7_set_7 : decode cX7_set 7 = .ok (.iconst 4, 1) := by decide +kernel
theorem dX7_set_8 : decode cX7_set 8 = .ok (.invokestatic 75, 3) := by decide +kernel
theorem dX7_set_11 : decode cX7_set 11 = .ok (.ifCond .eq 18, 3) := by decide +kernel
theorem dX7_set_14 : decode cX7_set 14 = .ok (.iload_n 2, 1) := by decide +kernel
theorem dX7_set_15 : decode cX7_set 15 = .ok (.iload_n 1, 1) := by decide +kernel
theorem dX7_set_16 : decode cX7_set 16 = .ok (.invokestatic 104, 3) := by decide +kernel
theorem dX7_set_19 : decode cX7_set 19 = .ok (.iload_n 1, 1) := by decide +kernel
theorem dX7_set_20 : decode cX7_set 20 = .ok (.invokestatic 107, 3) := by decide +kernel
theorem dX7_set_23 : decode cX7_set 23 = .ok (.invokestatic 75, 3) := by decide +kernel
theorem dX7_set_26 : decode cX7_set 26 = .ok (.ifCond .ne 5, 3) := by decide +kernel
theorem dX7_set_29 : decode cX7_set 29 = .ok (.iconst (-1), 1) := by decide +kernel
theorem dX7_set_30 : decode cX7_set 30 = .ok (.ireturn, 1) := by decide +kernel
theorem dX7_set_31 : decode cX7_set 31 = .ok (.aload_n 0, 1) := by decide +kernel
theorem dX7_set_32 : decode cX7_set 32 = .ok (.getfield 26, 3) := by decide +kernel
theorem dX7_set_35 : decode cX7_set 35 = .ok (.iload_n 1, 1) := by decide +kernel
theorem dX7_set_36 : decode cX7_set 36 = .ok (.iaload, 1) := by decide +kernel
theorem dX7_set_37 : decode cX7_set 37 = .ok (.istore_n 3, 1) := by decide +kernel
theorem dX7_set_38 : decode cX7_set 38 = .ok (.aload_n 0, 1) := by decide +kernel
theorem dX7_set_39 : decode cX7_set 39 = .ok (.getfield 26, 3) := by decide +kernel
theorem dX7_set_42 : decode cX7_set 42 = .ok (.iload_n 1, 1) := by decide +kernel
theorem dX7_set_43 : decode cX7_set 43 = .ok (.iload_n 2, 1) := by decide +kernel
theorem dX7_set_44 : decode cX7_set 44 = .ok (.iastore, 1) := by decide +kernel
theorem dX7_set_45 : decode cX7_set 45 = .ok (.iload_n 3, 1) := by decide +kernel
theorem dX7_set_46 : decode cX7_set 46 = .ok (.ireturn, 1) := by decide +kernel
theorem dX7_price_0 : decode cX7_price 0 = .ok (.aload_n 0, 1) := by decide +kernel
theorem dX7_price_1 : decode cX7_price 1 = .ok (.iconst 0, 1) := by decide +kernel
theorem dX7_price_2 : decode cX7_price 2 = .ok (.putfield 68, 3) := by decide +kernel
theorem dX7_price_5 : decode cX7_price 5 = .ok (.iload_n 1, 1) := by decide +kernel
theorem dX7_price_6 : decode cX7_price 6 = .ok (.iconst 0, 1) := by decide +kernel
theorem dX7_price_7 : decode cX7_price 7 = .ok (.bipush 23, 2) := by decide +kernel
theorem dX7_price_9 : decode cX7_price 9 = .ok (.invokestatic 75, 3) := by decide +kernel
theorem dX7_price_12 : decode cX7_price 12 = .ok (.ifCond .eq 14, 3) := by decide +kernel
theorem dX7_price_15 : decode cX7_price 15 = .ok (.iload_n 2, 1) := by decide +kernel
theorem dX7_price_16 : decode cX7_price 16 = .ok (.iconst 0, 1) := by decide +kernel
theorem dX7_price_17 : decode cX7_price 17 = .ok (.sipush 1000, 3) := by decide +kernel
theorem dX7_price_20 : decode cX7_price 20 = .ok (.invokestatic 75, 3) := by decide +kernel
theorem dX7_price_23 : decode cX7_price 23 = .ok (.ifCond .ne 5, 3) := by decide +kernel
theorem dX7_price_26 : decode cX7_price 26 = .ok (.iconst 0, 1) := by decide +kernel
theorem dX7_price_27 : decode cX7_price 27 = .ok (.ireturn, 1) := by decide +kernel
theorem dX7_price_28 : decode cX7_price 28 = .ok (.aload_n 0, 1) := by decide +kernel
theorem dX7_price_29 : decode cX7_price 29 = .ok (.getfield 29, 3) := by decide +kernel
theorem dX7_price_32 : decode cX7_price 32 = .ok (.iload_n 1, 1) := by decide +kernel
theorem dX7_price_33 : decode cX7_price 33 = .ok (.iload_n 2, 1) := by decide +kernel
theorem dX7_price_34 : decode cX7_price 34 = .ok (.iastore, 1) := by decide +kernel
theorem dX7_price_35 : decode cX7_price 35 = .ok (.iconst 1, 1) := by decide +kernel
theorem dX7_price_36 : decode cX7_price 36 = .ok (.ireturn, 1) := by decide +kernel
theorem dX7_sick_0 : decode cX7_sick 0 = .ok (.aload_n 0, 1) := by decide +kernel
theorem dX7_sick_1 : decode cX7_sick 1 = .ok (.iconst 0, 1) := by decide +kernel
theorem dX7_sick_2 : decode cX7_sick 2 = .ok (.putfield 68, 3) := by decide +kernel
theorem dX7_sick_5 : decode cX7_sick 5 = .ok (.aload_n 0, 1) := by decide +kernel
theorem dX7_sick_6 : decode cX7_sick 6 = .ok (.iload_n 1, 1) := by decide +kernel
theorem dX7_sick_7 : decode cX7_sick 7 = .ok (.invokevirtual 110, 3) := by decide +kernel
theorem dX7_sick_10 : decode cX7_sick 10 = .ok (.ifCond .ne 5, 3) := by decide +kernel
theorem dX7_sick_13 : decode cX7_sick 13 = .ok (.iconst 0, 1) := by decide +kernel
theorem dX7_sick_14 : decode cX7_sick 14 = .ok (.ireturn, 1) := by decide +kernel
theorem dX7_sick_15 : decode cX7_sick 15 = .ok (.aload_n 0, 1) := by decide +kernel
theorem dX7_sick_16 : decode cX7_sick 16 = .ok (.getfield 22, 3) := by decide +kernel
theorem dX7_sick_19 : decode cX7_sick 19 = .ok (.iload_n 1, 1) := by decide +kernel
theorem dX7_sick_20 : decode cX7_sick 20 = .ok (.iload_n 2, 1) := by decide +kernel
theorem dX7_sick_21 : decode cX7_sick 21 = .ok (.bastore, 1) := by decide +kernel
theorem dX7_sick_22 : decode cX7_sick 22 = .ok (.iconst 1, 1) := by decide +kernel
theorem dX7_sick_23 : decode cX7_sick 23 = .ok (.ireturn, 1) := by decide +kernel
theorem dX7_take_0 : decode cX7_take 0 = .ok (.aload_n 0, 1) := by decide +kernel
theorem dX7_take_1 : decode cX7_take 1 = .ok (.iconst 0, 1) := by decide +kernel
theorem dX7_take_2 : decode cX7_take 2 = .ok (.putfield 68, 3) := by decide +kernel
theorem dX7_take_5 : decode cX7_take 5 = .ok (.aload_n 0, 1) := by decide +kernel
theorem dX7_take_6 : decode cX7_take 6 = .ok (.iload_n 1, 1) := by decide +kernel
theorem dX7_take_7 : decode cX7_take 7 = .ok (.invokevirtual 97, 3) := by decide +kernel
theorem dX7_take_10 : decode cX7_take 10 = .ok (.ifCond .ne 5, 3) := by decide +kernel
theorem dX7_take_13 : decode cX7_take 13 = .ok (.iconst (-1), 1) := by decide +kernel
theorem dX7_take_14 : decode cX7_take 14 = .ok (.ireturn, 1) := by decide +kernel
theorem dX7_take_15 : decode cX7_take 15 = .ok (.aload_n 0, 1) := by decide +kernel
theorem dX7_take_16 : decode cX7_take 16 = .ok (.iload_n 1, 1) := by decide +kernel
theorem dX7_take_17 : decode cX7_take 17 = .ok (.invokevirtual 113, 3) := by decide +kernel
theorem dX7_take_20 : decode cX7_take 20 = .ok (.istore_n 2, 1) := by decide +kernel
theorem dX7_take_21 : decode cX7_take 21 = .ok (.iload_n 2, 1) := by decide +kernel
theorem dX7_take_22 : decode cX7_take 22 = .ok (.iconst (-1), 1) := by decide +kernel
theorem dX7_take_23 : decode cX7_take 23 = .ok (.if_icmp .eq 10, 3) := by decide +kernel
theorem dX7_take_26 : decode cX7_take 26 = .ok (.aload_n 0, 1) := by decide +kernel
theorem dX7_take_27 : decode cX7_take 27 = .ok (.getfield 19, 3) := by decide +kernel
theorem dX7_take_30 : decode cX7_take 30 = .ok (.iload_n 2, 1) := by decide +kernel
theorem dX7_take_31 : decode cX7_take 31 = .ok (.iconst (-1), 1) := by decide +kernel
theorem dX7_take_32 : decode cX7_take 32 = .ok (.iastore, 1) := by decide +kernel
theorem dX7_take_33 : decode cX7_take 33 = .ok (.iload_n 2, 1) := by decide +kernel
theorem dX7_take_34 : decode cX7_take 34 = .ok (.ireturn, 1) := by decide +kernel
theorem dX7_mayCome_0 : decode cX7_mayCome 0 = .ok (.aload_n 0, 1) := by decide +kernel
theorem dX7_mayCome_1 : decode cX7_mayCome 1 = .ok (.iload_n 1, 1) := by decide +kernel
theorem dX7_mayCome_2 : decode cX7_mayCome 2 = .ok (.invokevirtual 110, 3) := by decide +kernel
theorem dX7_mayCome_5 : decode cX7_mayCome 5 = .ok (.ifCond .eq 31, 3) := by decide +kernel
theorem dX7_mayCome_8 : decode cX7_mayCome 8 = .ok (.aload_n 0, 1) := by decide +kernel
theorem dX7_mayCome_9 : decode cX7_mayCome 9 = .ok (.getfield 19, 3) := by decide +kernel
theorem dX7_mayCome_12 : decode cX7_mayCome 12 = .ok (.iload_n 1, 1) := by decide +kernel
theorem dX7_mayCome_13 : decode cX7_mayCome 13 = .ok (.iaload, 1) := by decide +kernel
theorem dX7_mayCome_14 : decode cX7_mayCome 14 = .ok (.iconst (-1), 1) := by decide +kernel
theorem dX7_mayCome_15 : decode cX7_mayCome 15 = .ok (.if_icmp .ne 21, 3) := by decide +kernel
theorem dX7_mayCome_18 : decode cX7_mayCome 18 = .ok (.iload_n 2, 1) := by decide +kernel
theorem dX7_mayCome_19 : decode cX7_mayCome 19 = .ok (.iconst 0, 1) := by decide +kernel
theorem dX7_mayCome_20 : decode cX7_mayCome 20 = .ok (.aload_n 0, 1) := by decide +kernel
theorem dX7_mayCome_21 : decode cX7_mayCome 21 = .ok (.getfield 13, 3) := by decide +kernel
theorem dX7_mayCome_24 : decode cX7_mayCome 24 = .ok (.iload_n 1, 1) := by decide +kernel
theorem dX7_mayCome_25 : decode cX7_mayCome 25 = .ok (.iaload, 1) := by decide +kernel
theorem dX7_mayCome_26 : decode cX7_mayCome 26 = .ok (.invokestatic 75, 3) := by decide +kernel
theorem dX7_mayCome_29 : decode cX7_mayCome 29 = .ok (.ifCond .eq 7, 3) := by decide +kernel
theorem dX7_mayCome_32 : decode cX7_mayCome 32 = .ok (.iconst 1, 1) := by decide +kernel
theorem dX7_mayCome_33 : decode cX7_mayCome 33 = .ok (.goto 4, 3) := by decide +kernel
theorem dX7_mayCome_36 : decode cX7_mayCome 36 = .ok (.iconst 0, 1) := by decide +kernel
theorem dX7_mayCome_37 : decode cX7_mayCome 37 = .ok (.ireturn, 1) := by decide +kernel
theorem dX7_swap_0 : decode cX7_swap 0 = .ok (.aload_n 0, 1) := by decide +kernel
theorem dX7_swap_1 : decode cX7_swap 1 = .ok (.iconst 0, 1) := by decide +kernel
theorem dX7_swap_2 : decode cX7_swap 2 = .ok (.putfield 68, 3) := by decide +kernel
theorem dX7_swap_5 : decode cX7_swap 5 = .ok (.aload_n 0, 1) := by decide +kernel
theorem dX7_swap_6 : decode cX7_swap 6 = .ok (.iload_n 1, 1) := by decide +kernel
theorem dX7_swap_7 : decode cX7_swap 7 = .ok (.invokevirtual 97, 3) := by decide +kernel
theorem dX7_swap_10 : decode cX7_swap 10 = .ok (.ifCond .eq 12, 3) := by decide +kernel
theorem dX7_swap_13 : decode cX7_swap 13 = .ok (.aload_n 0, 1) := by decide +kernel
theorem dX7_swap_14 : decode cX7_swap 14 = .ok (.iload_n 2, 1) := by decide +kernel
theorem dX7_swap_15 : decode cX7_swap 15 = .ok (.iload_n 3, 1) := by decide +kernel
theorem dX7_swap_16 : decode cX7_swap 16 = .ok (.invokevirtual 116, 3) := by decide +kernel
theorem dX7_swap_19 : decode cX7_swap 19 = .ok (.ifCond .ne 5, 3) := by decide +kernel
theorem dX7_swap_22 : decode cX7_swap 22 = .ok (.iconst (-1), 1) := by decide +kernel
theorem dX7_swap_23 : decode cX7_swap 23 = .ok (.ireturn, 1) := by decide +kernel
theorem dX7_swap_24 : decode cX7_swap 24 = .ok (.aload_n 0, 1) := by decide +kernel
theorem dX7_swap_25 : decode cX7_swap 25 = .ok (.iload_n 1, 1) := by decide +kernel
theorem dX7_swap_26 : decode cX7_swap 26 = .ok (.invokevirtual 113, 3) := by decide +kernel
theorem dX7_swap_29 : decode cX7_swap 29 = .ok (.istore 4, 2) := by decide +kernel
theorem dX7_swap_31 : decode cX7_swap 31 = .ok (.iload 4, 2) := by decide +kernel
theorem dX7_swap_33 : decode cX7_swap 33 = .ok (.iconst (-1), 1) := by decide +kernel
theorem dX7_swap_34 : decode cX7_swap 34 = .ok (.if_icmp .ne 5, 3) := by decide +kernel
theorem dX7_swap_37 : decode cX7_swap 37 = .ok (.iconst (-1), 1) := by decide +kernel
theorem dX7_swap_38 : decode cX7_swap 38 = .ok (.ireturn, 1) := by decide +kernel
theorem dX7_swap_39 : decode cX7_swap 39 = .ok (.aload_n 0, 1) := by decide +kernel
theorem dX7_swap_40 : decode cX7_swap 40 = .ok (.getfield 19, 3) := by decide +kernel
theorem dX7_swap_43 : decode cX7_swap 43 = .ok (.iload 4, 2) := by decide +kernel
theorem dX7_swap_45 : decode cX7_swap 45 = .ok (.iconst (-1), 1) := by decide +kernel
theorem dX7_swap_46 : decode cX7_swap 46 = .ok (.iastore, 1) := by decide +kernel
theorem dX7_swap_47 : decode cX7_swap 47 = .ok (.aload_n 0, 1) := by decide +kernel
theorem dX7_swap_48 : decode cX7_swap 48 = .ok (.getfield 19, 3) := by decide +kernel
theorem dX7_swap_51 : decode cX7_swap 51 = .ok (.iload_n 2, 1) := by decide +kernel
theorem dX7_swap_52 : decode cX7_swap 52 = .ok (.iload_n 1, 1) := by decide +kernel
theorem dX7_swap_53 : decode cX7_swap 53 = .ok (.iastore, 1) := by decide +kernel
theorem dX7_swap_54 : decode cX7_swap 54 = .ok (.aload_n 0, 1) := by decide +kernel
theorem dX7_swap_55 : decode cX7_swap 55 = .ok (.getfield 13, 3) := by decide +kernel
theorem dX7_swap_58 : decode cX7_swap 58 = .ok (.iload_n 2, 1) := by decide +kernel
theorem dX7_swap_59 : decode cX7_swap 59 = .ok (.iload_n 3, 1) := by decide +kernel
theorem dX7_swap_60 : decode cX7_swap 60 = .ok (.iastore, 1) := by decide +kernel
theorem dX7_swap_61 : decode cX7_swap 61 = .ok (.iload 4, 2) := by decide +kernel
theorem dX7_swap_63 : decode cX7_swap 63 = .ok (.ireturn, 1) := by decide +kernel
theorem dX7_bring_0 : decode cX7_bring 0 = .ok (.aload_n 0, 1) := by decide +kernel
theorem dX7_bring_1 : decode cX7_bring 1 = .ok (.iconst 0, 1) := by decide +kernel
theorem dX7_bring_2 : decode cX7_bring 2 = .ok (.putfield 68, 3) := by decide +kernel
theorem dX7_bring_5 : decode cX7_bring 5 = .ok (.aload_n 0, 1) := by decide +kernel
theorem dX7_bring_6 : decode cX7_bring 6 = .ok (.iload_n 1, 1) := by decide +kernel
theorem dX7_bring_7 : decode cX7_bring 7 = .ok (.invokevirtual 97, 3) := by decide +kernel
theorem dX7_bring_10 : decode cX7_bring 10 = .ok (.ifCond .eq 20, 3) := by decide +kernel
theorem dX7_bring_13 : decode cX7_bring 13 = .ok (.aload_n 0, 1) := by decide +kernel
theorem dX7_bring_14 : decode cX7_bring 14 = .ok (.iload_n 2, 1) := by decide +kernel
theorem dX7_bring_15 : decode cX7_bring 15 = .ok (.iload_n 3, 1) := by decide +kernel
theorem dX7_bring_16 : decode cX7_bring 16 = .ok (.invokevirtual 116, 3) := by decide +kernel
theorem dX7_bring_19 : decode cX7_bring 19 = .ok (.ifCond .eq 11, 3) := by decide +kernel
theorem dX7_bring_22 : decode cX7_bring 22 = .ok (.aload_n 0, 1) := by decide +kernel
theorem dX7_bring_23 : decode cX7_bring 23 = .ok (.iload_n 1, 1) := by decide +kernel
theorem dX7_bring_24 : decode cX7_bring 24 = .ok (.invokevirtual 100, 3) := by decide +kernel
theorem dX7_bring_27 : decode cX7_bring 27 = .ok (.ifCond .ne 5, 3) := by decide +kernel
theorem dX7_bring_30 : decode cX7_bring 30 = .ok (.iconst (-1), 1) := by decide +kernel
theorem dX7_bring_31 : decode cX7_bring 31 = .ok (.ireturn, 1) := by decide +kernel
theorem dX7_bring_32 : decode cX7_bring 32 = .ok (.aload_n 0, 1) := by decide +kernel
theorem dX7_bring_33 : decode cX7_bring 33 = .ok (.getfield 19, 3) := by decide +kernel
theorem dX7_bring_36 : decode cX7_bring 36 = .ok (.iload_n 2, 1) := by decide +kernel
theorem dX7_bring_37 : decode cX7_bring 37 = .ok (.iload_n 1, 1) := by decide +kernel
theorem dX7_bring_38 : decode cX7_bring 38 = .ok (.iastore, 1) := by decide +kernel
theorem dX7_bring_39 : decode cX7_bring 39 = .ok (.aload_n 0, 1) := by decide +kernel
theorem dX7_bring_40 : decode cX7_bring 40 = .ok (.getfield 13, 3) := by decide +kernel
theorem dX7_bring_43 : decode cX7_bring 43 = .ok (.iload_n 2, 1) := by decide +kernel
theorem dX7_bring_44 : decode cX7_bring 44 = .ok (.iload_n 3, 1) := by decide +kernel
theorem dX7_bring_45 : decode cX7_bring 45 = .ok (.iastore, 1) := by decide +kernel
theorem dX7_bring_46 : decode cX7_bring 46 = .ok (.aload_n 0, 1) := by decide +kernel
theorem dX7_bring_47 : decode cX7_bring 47 = .ok (.iload_n 1, 1) := by decide +kernel
theorem dX7_bring_48 : decode cX7_bring 48 = .ok (.invokevirtual 82, 3) := by decide +kernel
theorem dX7_bring_51 : decode cX7_bring 51 = .ok (.ireturn, 1) := by decide +kernel
theorem dX7_move_0 : decode cX7_move 0 = .ok (.aload_n 0, 1) := by decide +kernel
theorem dX7_move_1 : decode cX7_move 1 = .ok (.iconst 0, 1) := by decide +kernel
theorem dX7_move_2 : decode cX7_move 2 = .ok (.putfield 68, 3) := by decide +kernel
theorem dX7_move_5 : decode cX7_move 5 = .ok (.aload_n 0, 1) := by decide +kernel
theorem dX7_move_6 : decode cX7_move 6 = .ok (.iload_n 1, 1) := by decide +kernel
theorem dX7_move_7 : decode cX7_move 7 = .ok (.invokevirtual 110, 3) := by decide +kernel
theorem dX7_move_10 : decode cX7_move 10 = .ok (.ifCond .eq 39, 3) := by decide +kernel
theorem dX7_move_13 : decode cX7_move 13 = .ok (.aload_n 0, 1) := by decide +kernel
theorem dX7_move_14 : decode cX7_move 14 = .ok (.iload_n 2, 1) := by decide +kernel
theorem dX7_move_15 : decode cX7_move 15 = .ok (.invokevirtual 97, 3) := by decide +kernel
theorem dX7_move_18 : decode cX7_move 18 = .ok (.ifCond .eq 31, 3) := by decide +kernel
theorem dX7_move_21 : decode cX7_move 21 = .ok (.aload_n 0, 1) := by decide +kernel
theorem dX7_move_22 : decode cX7_move 22 = .ok (.getfield 19, 3) := by decide +kernel
theorem dX7_move_25 : decode cX7_move 25 = .ok (.iload_n 1, 1) := by decide +kernel
theorem dX7_move_26 : decode cX7_move 26 = .ok (.iaload, 1) := by decide +kernel
theorem dX7_move_27 : decode cX7_move 27 = .ok (.iconst (-1), 1) := by decide +kernel
theorem dX7_move_28 : decode cX7_move 28 = .ok (.if_icmp .eq 21, 3) := by decide +kernel
theorem dX7_move_31 : decode cX7_move 31 = .ok (.aload_n 0, 1) := by decide +kernel
theorem dX7_move_32 : decode cX7_move 32 = .ok (.getfield 19, 3) := by decide +kernel
theorem dX7_move_35 : decode cX7_move 35 = .ok (.iload_n 1, 1) := by decide +kernel
theorem dX7_move_36 : decode cX7_move 36 = .ok (.iaload, 1) := by decide +kernel
theorem dX7_move_37 : decode cX7_move 37 = .ok (.iload_n 2, 1) := by decide +kernel
theorem dX7_move_38 : decode cX7_move 38 = .ok (.if_icmp .eq 11, 3) := by decide +kernel
theorem dX7_move_41 : decode cX7_move 41 = .ok (.aload_n 0, 1) := by decide +kernel
theorem dX7_move_42 : decode cX7_move 42 = .ok (.iload_n 2, 1) := by decide +kernel
theorem dX7_move_43 : decode cX7_move 43 = .ok (.invokevirtual 100, 3) := by decide +kernel
theorem dX7_move_46 : decode cX7_move 46 = .ok (.ifCond .ne 5, 3) := by decide +kernel
theorem dX7_move_49 : decode cX7_move 49 = .ok (.iconst 0, 1) := by decide +kernel
theorem dX7_move_50 : decode cX7_move 50 = .ok (.ireturn, 1) := by decide +kernel
theorem dX7_move_51 : decode cX7_move 51 = .ok (.aload_n 0, 1) := by decide +kernel
theorem dX7_move_52 : decode cX7_move 52 = .ok (.getfield 19, 3) := by decide +kernel
theorem dX7_move_55 : decode cX7_move 55 = .ok (.iload_n 1, 1) := by decide +kernel
theorem dX7_move_56 : decode cX7_move 56 = .ok (.iload_n 2, 1) := by decide +kernel
theorem dX7_move_57 : decode cX7_move 57 = .ok (.iastore, 1) := by decide +kernel
theorem dX7_move_58 : decode cX7_move 58 = .ok (.iconst 1, 1) := by decide +kernel
theorem dX7_move_59 : decode cX7_move 59 = .ok (.ireturn, 1) := by decide +kernel
theorem dX7_line_0 : decode cX7_line 0 = .ok (.iconst 0, 1) := by decide +kernel
theorem dX7_line_1 : decode cX7_line 1 = .ok (.istore_n 2, 1) := by decide +kernel
theorem dX7_line_2 : decode cX7_line 2 = .ok (.iload_n 2, 1) := by decide +kernel
theorem dX7_line_3 : decode cX7_line 3 = .ok (.aload_n 0, 1) := by decide +kernel
theorem dX7_line_4 : decode cX7_line 4 = .ok (.getfield 79, 3) := by decide +kernel
theorem dX7_line_7 : decode cX7_line 7 = .ok (.if_icmp .ge 16, 3) := by decide +kernel
theorem dX7_line_10 : decode cX7_line 10 = .ok (.aload_n 0, 1) := by decide +kernel
theorem dX7_line_11 : decode cX7_line 11 = .ok (.getfield 53, 3) := by decide +kernel
theorem dX7_line_14 : decode cX7_line 14 = .ok (.iload_n 2, 1) := by decide +kernel
theorem dX7_line_15 : decode cX7_line 15 = .ok (.iconst 0, 1) := by decide +kernel
theorem dX7_line_16 : decode cX7_line 16 = .ok (.bastore, 1) := by decide +kernel
theorem dX7_line_17 : decode cX7_line 17 = .ok (.iinc 2 1, 3) := by decide +kernel
theorem dX7_line_20 : decode cX7_line 20 = .ok (.goto (-18), 3) := by decide +kernel
end
section
theorem dX7_line_23 : decode cX7_line 23 = .ok (.iconst 0, 1) := by decide +kernel
theorem dX7_line_24 : decode cX7_line 24 = .ok (.istore_n 2, 1) := by decide +kernel
theorem dX7_line_25 : decode cX7_line 25 = .ok (.iload_n 2, 1) := by decide +kernel
theorem dX7_line_26 : decode cX7_line 26 = .ok (.aload_n 0, 1) := by decide +kernel
theorem dX7_line_27 : decode cX7_line 27 = .ok (.getfield 9, 3) := by decide +kernel
theorem dX7_line_30 : decode cX7_line 30 = .ok (.bipush 7, 2) := by decide +kernel
theorem dX7_line_32 : decode cX7_line 32 = .ok (.iload_n 1, 1) := by decide +kernel
theorem dX7_line_33 : decode cX7_line 33 = .ok (.imul, 1) := by decide +kernel
theorem dX7_line_34 : decode cX7_line 34 = .ok (.iconst 3, 1) := by decide +kernel
theorem dX7_line_35 : decode cX7_line 35 = .ok (.iadd, 1) := by decide +kernel
theorem dX7_line_36 : decode cX7_line 36 = .ok (.iaload, 1) := by decide +kernel
theorem dX7_line_37 : decode cX7_line 37 = .ok (.if_icmp .ge 113, 3) := by decide +kernel
theorem dX7_line_40 : decode cX7_line 40 = .ok (.iconst (-1), 1) := by decide +kernel
theorem dX7_line_41 : decode cX7_line 41 = .ok (.istore_n 3, 1) := by decide +kernel
theorem dX7_line_42 : decode cX7_line 42 = .ok (.iconst 0, 1) := by decide +kernel
theorem dX7_line_43 : decode cX7_line 43 = .ok (.istore 4, 2) := by decide +kernel
theorem dX7_line_45 : decode cX7_line 45 = .ok (.iload 4, 2) := by decide +kernel
theorem dX7_line_47 : decode cX7_line 47 = .ok (.aload_n 0, 1) := by decide +kernel
theorem dX7_line_48 : decode cX7_line 48 = .ok (.getfield 79, 3) := by decide +kernel
theorem dX7_line_51 : decode cX7_line 51 = .ok (.if_icmp .ge 72, 3) := by decide +kernel
theorem dX7_line_54 : decode cX7_line 54 = .ok (.aload_n 0, 1) := by decide +kernel
theorem dX7_line_55 : decode cX7_line 55 = .ok (.getfield 19, 3) := by decide +kernel
theorem dX7_line_58 : decode cX7_line 58 = .ok (.iload 4, 2) := by decide +kernel
theorem dX7_line_60 : decode cX7_line 60 = .ok (.iaload, 1) := by decide +kernel
theorem dX7_line_61 : decode cX7_line 61 = .ok (.iload_n 1, 1) := by decide +kernel
theorem dX7_line_62 : decode cX7_line 62 = .ok (.if_icmp .ne 55, 3) := by decide +kernel
theorem dX7_line_65 : decode cX7_line 65 = .ok (.aload_n 0, 1) := by decide +kernel
theorem dX7_line_66 : decode cX7_line 66 = .ok (.getfield 53, 3) := by decide +kernel
theorem dX7_line_69 : decode cX7_line 69 = .ok (.iload 4, 2) := by decide +kernel
theorem dX7_line_71 : decode cX7_line 71 = .ok (.baload, 1) := by decide +kernel
theorem dX7_line_72 : decode cX7_line 72 = .ok (.ifCond .ne 45, 3) := by decide +kernel
theorem dX7_line_75 : decode cX7_line 75 = .ok (.aload_n 0, 1) := by decide +kernel
theorem dX7_line_76 : decode cX7_line 76 = .ok (.iload 4, 2) := by decide +kernel
theorem dX7_line_78 : decode cX7_line 78 = .ok (.invokevirtual 86, 3) := by decide +kernel
theorem dX7_line_81 : decode cX7_line 81 = .ok (.ifCond .eq 36, 3) := by decide +kernel
theorem dX7_line_84 : decode cX7_line 84 = .ok (.aload_n 0, 1) := by decide +kernel
theorem dX7_line_85 : decode cX7_line 85 = .ok (.getfield 13, 3) := by decide +kernel
theorem dX7_line_88 : decode cX7_line 88 = .ok (.iload 4, 2) := by decide +kernel
theorem dX7_line_90 : decode cX7_line 90 = .ok (.iaload, 1) := by decide +kernel
theorem dX7_line_91 : decode cX7_line 91 = .ok (.bipush 100, 2) := by decide +kernel
theorem dX7_line_93 : decode cX7_line 93 = .ok (.if_icmp .lt 6, 3) := by decide +kernel
theorem dX7_line_96 : decode cX7_line 96 = .ok (.goto 21, 3) := by decide +kernel
theorem dX7_line_99 : decode cX7_line 99 = .ok (.iload_n 3, 1) := by decide +kernel
theorem dX7_line_100 : decode cX7_line 100 = .ok (.iconst (-1), 1) := by decide +kernel
theorem dX7_line_101 : decode cX7_line 101 = .ok (.if_icmp .eq 13, 3) := by decide +kernel
theorem dX7_line_104 : decode cX7_line 104 = .ok (.aload_n 0, 1) := by decide +kernel
theorem dX7_line_105 : decode cX7_line 105 = .ok (.iload 4, 2) := by decide +kernel
theorem dX7_line_107 : decode cX7_line 107 = .ok (.iload_n 3, 1) := by decide +kernel
theorem dX7_line_108 : decode cX7_line 108 = .ok (.invokevirtual 93, 3) := by decide +kernel
theorem dX7_line_111 : decode cX7_line 111 = .ok (.ifCond .eq 6, 3) := by decide +kernel
theorem dX7_line_114 : decode cX7_line 114 = .ok (.iload 4, 2) := by decide +kernel
theorem dX7_line_116 : decode cX7_line 116 = .ok (.istore_n 3, 1) := by decide +kernel
theorem dX7_line_117 : decode cX7_line 117 = .ok (.iinc 4 1, 3) := by decide +kernel
theorem dX7_line_120 : decode cX7_line 120 = .ok (.goto (-75), 3) := by decide +kernel
theorem dX7_line_123 : decode cX7_line 123 = .ok (.iload_n 3, 1) := by decide +kernel
theorem dX7_line_124 : decode cX7_line 124 = .ok (.iconst (-1), 1) := by decide +kernel
theorem dX7_line_125 : decode cX7_line 125 = .ok (.if_icmp .ne 5, 3) := by decide +kernel
theorem dX7_line_128 : decode cX7_line 128 = .ok (.iload_n 2, 1) := by decide +kernel
theorem dX7_line_129 : decode cX7_line 129 = .ok (.ireturn, 1) := by decide +kernel
theorem dX7_line_130 : decode cX7_line 130 = .ok (.aload_n 0, 1) := by decide +kernel
theorem dX7_line_131 : decode cX7_line 131 = .ok (.getfield 53, 3) := by decide +kernel
theorem dX7_line_134 : decode cX7_line 134 = .ok (.iload_n 3, 1) := by decide +kernel
theorem dX7_line_135 : decode cX7_line 135 = .ok (.iconst 1, 1) := by decide +kernel
theorem dX7_line_136 : decode cX7_line 136 = .ok (.bastore, 1) := by decide +kernel
theorem dX7_line_137 : decode cX7_line 137 = .ok (.aload_n 0, 1) := by decide +kernel
theorem dX7_line_138 : decode cX7_line 138 = .ok (.getfield 56, 3) := by decide +kernel
theorem dX7_line_141 : decode cX7_line 141 = .ok (.iload_n 2, 1) := by decide +kernel
theorem dX7_line_142 : decode cX7_line 142 = .ok (.iload_n 3, 1) := by decide +kernel
theorem dX7_line_143 : decode cX7_line 143 = .ok (.iastore, 1) := by decide +kernel
theorem dX7_line_144 : decode cX7_line 144 = .ok (.iinc 2 1, 3) := by decide +kernel
theorem dX7_line_147 : decode cX7_line 147 = .ok (.goto (-122), 3) := by decide +kernel
theorem dX7_line_150 : decode cX7_line 150 = .ok (.iload_n 2, 1) := by decide +kernel
theorem dX7_line_151 : decode cX7_line 151 = .ok (.ireturn, 1) := by decide +kernel
theorem dX7_goHour_0 : decode cX7_goHour 0 = .ok (.aload_n 0, 1) := by decide +kernel
theorem dX7_goHour_1 : decode cX7_goHour 1 = .ok (.getfield 29, 3) := by decide +kernel
theorem dX7_goHour_4 : decode cX7_goHour 4 = .ok (.aload_n 0, 1) := by decide +kernel
theorem dX7_goHour_5 : decode cX7_goHour 5 = .ok (.getfield 119, 3) := by decide +kernel
theorem dX7_goHour_8 : decode cX7_goHour 8 = .ok (.bipush 24, 2) := by decide +kernel
theorem dX7_goHour_10 : decode cX7_goHour 10 = .ok (.irem, 1) := by decide +kernel
theorem dX7_goHour_11 : decode cX7_goHour 11 = .ok (.iaload, 1) := by decide +kernel
theorem dX7_goHour_12 : decode cX7_goHour 12 = .ok (.istore_n 1, 1) := by decide +kernel
theorem dX7_goHour_13 : decode cX7_goHour 13 = .ok (.iconst 0, 1) := by decide +kernel
theorem dX7_goHour_14 : decode cX7_goHour 14 = .ok (.istore_n 2, 1) := by decide +kernel
theorem dX7_goHour_15 : decode cX7_goHour 15 = .ok (.iload_n 2, 1) := by decide +kernel
theorem dX7_goHour_16 : decode cX7_goHour 16 = .ok (.aload_n 0, 1) := by decide +kernel
theorem dX7_goHour_17 : decode cX7_goHour 17 = .ok (.getfield 72, 3) := by decide +kernel
theorem dX7_goHour_20 : decode cX7_goHour 20 = .ok (.if_icmp .ge 131, 3) := by decide +kernel
theorem dX7_goHour_23 : decode cX7_goHour 23 = .ok (.aload_n 0, 1) := by decide +kernel
theorem dX7_goHour_24 : decode cX7_goHour 24 = .ok (.iload_n 2, 1) := by decide +kernel
theorem dX7_goHour_25 : decode cX7_goHour 25 = .ok (.invokevirtual 122, 3) := by decide +kernel
theorem dX7_goHour_28 : decode cX7_goHour 28 = .ok (.istore_n 3, 1) := by decide +kernel
theorem dX7_goHour_29 : decode cX7_goHour 29 = .ok (.iconst 0, 1) := by decide +kernel
theorem dX7_goHour_30 : decode cX7_goHour 30 = .ok (.istore 4, 2) := by decide +kernel
theorem dX7_goHour_32 : decode cX7_goHour 32 = .ok (.iload 4, 2) := by decide +kernel
theorem dX7_goHour_34 : decode cX7_goHour 34 = .ok (.iload_n 3, 1) := by decide +kernel
theorem dX7_goHour_35 : decode cX7_goHour 35 = .ok (.if_icmp .ge 110, 3) := by decide +kernel
theorem dX7_goHour_38 : decode cX7_goHour 38 = .ok (.iload_n 1, 1) := by decide +kernel
theorem dX7_goHour_39 : decode cX7_goHour 39 = .ok (.aload_n 0, 1) := by decide +kernel
theorem dX7_goHour_40 : decode cX7_goHour 40 = .ok (.getfield 26, 3) := by decide +kernel
theorem dX7_goHour_43 : decode cX7_goHour 43 = .ok (.iconst 2, 1) := by decide +kernel
theorem dX7_goHour_44 : decode cX7_goHour 44 = .ok (.iaload, 1) := by decide +kernel
theorem dX7_goHour_45 : decode cX7_goHour 45 = .ok (.if_icmp .le 25, 3) := by decide +kernel
theorem dX7_goHour_48 : decode cX7_goHour 48 = .ok (.aload_n 0, 1) := by decide +kernel
theorem dX7_goHour_49 : decode cX7_goHour 49 = .ok (.iload_n 2, 1) := by decide +kernel
theorem dX7_goHour_50 : decode cX7_goHour 50 = .ok (.invokevirtual 125, 3) := by decide +kernel
theorem dX7_goHour_53 : decode cX7_goHour 53 = .ok (.aload_n 0, 1) := by decide +kernel
theorem dX7_goHour_54 : decode cX7_goHour 54 = .ok (.getfield 9, 3) := by decide +kernel
theorem dX7_goHour_57 : decode cX7_goHour 57 = .ok (.bipush 7, 2) := by decide +kernel
theorem dX7_goHour_59 : decode cX7_goHour 59 = .ok (.iload_n 2, 1) := by decide +kernel
theorem dX7_goHour_60 : decode cX7_goHour 60 = .ok (.imul, 1) := by decide +kernel
theorem dX7_goHour_61 : decode cX7_goHour 61 = .ok (.iconst 4, 1) := by decide +kernel
theorem dX7_goHour_62 : decode cX7_goHour 62 = .ok (.iadd, 1) := by decide +kernel
theorem dX7_goHour_63 : decode cX7_goHour 63 = .ok (.iaload, 1) := by decide +kernel
theorem dX7_goHour_64 : decode cX7_goHour 64 = .ok (.if_icmp .lt 6, 3) := by decide +kernel
theorem dX7_goHour_67 : decode cX7_goHour 67 = .ok (.goto 78, 3) := by decide +kernel
theorem dX7_goHour_70 : decode cX7_goHour 70 = .ok (.aload_n 0, 1) := by decide +kernel
theorem dX7_goHour_71 : decode cX7_goHour 71 = .ok (.getfield 56, 3) := by decide +kernel
theorem dX7_goHour_74 : decode cX7_goHour 74 = .ok (.iload 4, 2) := by decide +kernel
theorem dX7_goHour_76 : decode cX7_goHour 76 = .ok (.iaload, 1) := by decide +kernel
theorem dX7_goHour_77 : decode cX7_goHour 77 = .ok (.istore 5, 2) := by decide +kernel
theorem dX7_goHour_79 : decode cX7_goHour 79 = .ok (.aload_n 0, 1) := by decide +kernel
theorem dX7_goHour_80 : decode cX7_goHour 80 = .ok (.getfield 26, 3) := by decide +kernel
theorem dX7_goHour_83 : decode cX7_goHour 83 = .ok (.iconst 3, 1) := by decide +kernel
theorem dX7_goHour_84 : decode cX7_goHour 84 = .ok (.iaload, 1) := by decide +kernel
theorem dX7_goHour_85 : decode cX7_goHour 85 = .ok (.bipush 100, 2) := by decide +kernel
theorem dX7_goHour_87 : decode cX7_goHour 87 = .ok (.aload_n 0, 1) := by decide +kernel
theorem dX7_goHour_88 : decode cX7_goHour 88 = .ok (.getfield 13, 3) := by decide +kernel
theorem dX7_goHour_91 : decode cX7_goHour 91 = .ok (.iload 5, 2) := by decide +kernel
theorem dX7_goHour_93 : decode cX7_goHour 93 = .ok (.iaload, 1) := by decide +kernel
theorem dX7_goHour_94 : decode cX7_goHour 94 = .ok (.isub, 1) := by decide +kernel
theorem dX7_goHour_95 : decode cX7_goHour 95 = .ok (.invokestatic 128, 3) := by decide +kernel
theorem dX7_goHour_98 : decode cX7_goHour 98 = .ok (.istore 6, 2) := by decide +kernel
theorem dX7_goHour_100 : decode cX7_goHour 100 = .ok (.aload_n 0, 1) := by decide +kernel
theorem dX7_goHour_101 : decode cX7_goHour 101 = .ok (.getfield 13, 3) := by decide +kernel
theorem dX7_goHour_104 : decode cX7_goHour 104 = .ok (.iload 5, 2) := by decide +kernel
theorem dX7_goHour_106 : decode cX7_goHour 106 = .ok (.dup2, 1) := by decide +kernel
theorem dX7_goHour_107 : decode cX7_goHour 107 = .ok (.iaload, 1) := by decide +kernel
theorem dX7_goHour_108 : decode cX7_goHour 108 = .ok (.iload 6, 2) := by decide +kernel
theorem dX7_goHour_110 : decode cX7_goHour 110 = .ok (.iadd, 1) := by decide +kernel
theorem dX7_goHour_111 : decode cX7_goHour 111 = .ok (.iastore, 1) := by decide +kernel
theorem dX7_goHour_112 : decode cX7_goHour 112 = .ok (.aload_n 0, 1) := by decide +kernel
theorem dX7_goHour_113 : decode cX7_goHour 113 = .ok (.getfield 16, 3) := by decide +kernel
theorem dX7_goHour_116 : decode cX7_goHour 116 = .ok (.iload 5, 2) := by decide +kernel
theorem dX7_goHour_118 : decode cX7_goHour 118 = .ok (.dup2, 1) := by decide +kernel
theorem dX7_goHour_119 : decode cX7_goHour 119 = .ok (.iaload, 1) := by decide +kernel
theorem dX7_goHour_120 : decode cX7_goHour 120 = .ok (.iload 6, 2) := by decide +kernel
theorem dX7_goHour_122 : decode cX7_goHour 122 = .ok (.iadd, 1) := by decide +kernel
theorem dX7_goHour_123 : decode cX7_goHour 123 = .ok (.iastore, 1) := by decide +kernel
theorem dX7_goHour_124 : decode cX7_goHour 124 = .ok (.aload_n 0, 1) := by decide +kernel
theorem dX7_goHour_125 : decode cX7_goHour 125 = .ok (.getfield 9, 3) := by decide +kernel
theorem dX7_goHour_128 : decode cX7_goHour 128 = .ok (.bipush 7, 2) := by decide +kernel
theorem dX7_goHour_130 : decode cX7_goHour 130 = .ok (.iload_n 2, 1) := by decide +kernel
theorem dX7_goHour_131 : decode cX7_goHour 131 = .ok (.imul, 1) := by decide +kernel
theorem dX7_goHour_132 : decode cX7_goHour 132 = .ok (.iconst 5, 1) := by decide +kernel
theorem dX7_goHour_133 : decode cX7_goHour 133 = .ok (.iadd, 1) := by decide +kernel
theorem dX7_goHour_134 : decode cX7_goHour 134 = .ok (.dup2, 1) := by decide +kernel
theorem dX7_goHour_135 : decode cX7_goHour 135 = .ok (.iaload, 1) := by decide +kernel
theorem dX7_goHour_136 : decode cX7_goHour 136 = .ok (.iload_n 1, 1) := by decide +kernel
theorem dX7_goHour_137 : decode cX7_goHour 137 = .ok (.iadd, 1) := by decide +kernel
theorem dX7_goHour_138 : decode cX7_goHour 138 = .ok (.iastore, 1) := by decide +kernel
theorem dX7_goHour_139 : decode cX7_goHour 139 = .ok (.iinc 4 1, 3) := by decide +kernel
theorem dX7_goHour_142 : decode cX7_goHour 142 = .ok (.goto (-110), 3) := by decide +kernel
theorem dX7_goHour_145 : decode cX7_goHour 145 = .ok (.iinc 2 1, 3) := by decide +kernel
theorem dX7_goHour_148 : decode cX7_goHour 148 = .ok (.goto (-133), 3) := by decide +kernel
theorem dX7_goHour_151 : decode cX7_goHour 151 = .ok (.aload_n 0, 1) := by decide +kernel
theorem dX7_goHour_152 : decode cX7_goHour 152 = .ok (.dup, 1) := by decide +kernel
theorem dX7_goHour_153 : decode cX7_goHour 153 = .ok (.getfield 119, 3) := by decide +kernel
theorem dX7_goHour_156 : decode cX7_goHour 156 = .ok (.iconst 1, 1) := by decide +kernel
theorem dX7_goHour_157 : decode cX7_goHour 157 = .ok (.iadd, 1) := by decide +kernel
theorem dX7_goHour_158 : decode cX7_goHour 158 = .ok (.putfield 119, 3) := by decide +kernel
theorem dX7_goHour_161 : decode cX7_goHour 161 = .ok (.return_, 1) := by decide +kernel
theorem dX7_run_0 : decode cX7_run 0 = .ok (.aload_n 0, 1) := by decide +kernel
theorem dX7_run_1 : decode cX7_run 1 = .ok (.iconst 0, 1) := by decide +kernel
theorem dX7_run_2 : decode cX7_run 2 = .ok (.putfield 68, 3) := by decide +kernel
theorem dX7_run_5 : decode cX7_run 5 = .ok (.iload_n 1, 1) := by decide +kernel
theorem dX7_run_6 : decode cX7_run 6 = .ok (.iconst 0, 1) := by decide +kernel
theorem dX7_run_7 : decode cX7_run 7 = .ok (.sipush 200, 3) := by decide +kernel
theorem dX7_run_10 : decode cX7_run 10 = .ok (.invokestatic 75, 3) := by decide +kernel
theorem dX7_run_13 : decode cX7_run 13 = .ok (.ifCond .eq 15, 3) := by decide +kernel
theorem dX7_run_16 : decode cX7_run 16 = .ok (.aload_n 0, 1) := by decide +kernel
theorem dX7_run_17 : decode cX7_run 17 = .ok (.getfield 119, 3) := by decide +kernel
theorem dX7_run_20 : decode cX7_run 20 = .ok (.iload_n 1, 1) := by decide +kernel
theorem dX7_run_21 : decode cX7_run 21 = .ok (.iadd, 1) := by decide +kernel
theorem dX7_run_22 : decode cX7_run 22 = .ok (.sipush 10000, 3) := by decide +kernel
theorem dX7_run_25 : decode cX7_run 25 = .ok (.if_icmp .le 5, 3) := by decide +kernel
theorem dX7_run_28 : decode cX7_run 28 = .ok (.iconst (-1), 1) := by decide +kernel
theorem dX7_run_29 : decode cX7_run 29 = .ok (.ireturn, 1) := by decide +kernel
theorem dX7_run_30 : decode cX7_run 30 = .ok (.iconst 0, 1) := by decide +kernel
theorem dX7_run_31 : decode cX7_run 31 = .ok (.istore_n 2, 1) := by decide +kernel
theorem dX7_run_32 : decode cX7_run 32 = .ok (.iload_n 2, 1) := by decide +kernel
theorem dX7_run_33 : decode cX7_run 33 = .ok (.iload_n 1, 1) := by decide +kernel
theorem dX7_run_34 : decode cX7_run 34 = .ok (.if_icmp .ge 13, 3) := by decide +kernel
theorem dX7_run_37 : decode cX7_run 37 = .ok (.aload_n 0, 1) := by decide +kernel
theorem dX7_run_38 : decode cX7_run 38 = .ok (.invokevirtual 134, 3) := by decide +kernel
theorem dX7_run_41 : decode cX7_run 41 = .ok (.iinc 2 1, 3) := by decide +kernel
theorem dX7_run_44 : decode cX7_run 44 = .ok (.goto (-12), 3) := by decide +kernel
theorem dX7_run_47 : decode cX7_run 47 = .ok (.aload_n 0, 1) := by decide +kernel
theorem dX7_run_48 : decode cX7_run 48 = .ok (.getfield 119, 3) := by decide +kernel
theorem dX7_run_51 : decode cX7_run 51 = .ok (.ireturn, 1) := by decide +kernel
theorem dX7_count_0 : decode cX7_count 0 = .ok (.aload_n 0, 1) := by decide +kernel
theorem dX7_count_1 : decode cX7_count 1 = .ok (.iconst 0, 1) := by decide +kernel
theorem dX7_count_2 : decode cX7_count 2 = .ok (.putfield 68, 3) := by decide +kernel
theorem dX7_count_5 : decode cX7_count 5 = .ok (.iconst 0, 1) := by decide +kernel
theorem dX7_count_6 : decode cX7_count 6 = .ok (.istore_n 2, 1) := by decide +kernel
theorem dX7_count_7 : decode cX7_count 7 = .ok (.iload_n 1, 1) := by decide +kernel
theorem dX7_count_8 : decode cX7_count 8 = .ok (.tableswitch 196 0 9 #[56, 61, 66, 71, 102, 132, 168, 173, 178, 183], 56) := by decide +kernel
theorem dX7_count_64 : decode cX7_count 64 = .ok (.aload_n 0, 1) := by decide +kernel
theorem dX7_count_65 : decode cX7_count 65 = .ok (.getfield 72, 3) := by decide +kernel
theorem dX7_count_68 : decode cX7_count 68 = .ok (.ireturn, 1) := by decide +kernel
theorem dX7_count_69 : decode cX7_count 69 = .ok (.aload_n 0, 1) := by decide +kernel
theorem dX7_count_70 : decode cX7_count 70 = .ok (.getfield 79, 3) := by decide +kernel
theorem dX7_count_73 : decode cX7_count 73 = .ok (.ireturn, 1) := by decide +kernel
theorem dX7_count_74 : decode cX7_count 74 = .ok (.aload_n 0, 1) := by decide +kernel
theorem dX7_count_75 : decode cX7_count 75 = .ok (.getfield 119, 3) := by decide +kernel
theorem dX7_count_78 : decode cX7_count 78 = .ok (.ireturn, 1) := by decide +kernel
theorem dX7_count_79 : decode cX7_count 79 = .ok (.iconst 0, 1) := by decide +kernel
theorem dX7_count_80 : decode cX7_count 80 = .ok (.istore_n 3, 1) := by decide +kernel
theorem dX7_count_81 : decode cX7_count 81 = .ok (.iload_n 3, 1) := by decide +kernel
theorem dX7_count_82 : decode cX7_count 82 = .ok (.aload_n 0, 1) := by decide +kernel
theorem dX7_count_83 : decode cX7_count 83 = .ok (.getfield 79, 3) := by decide +kernel
theorem dX7_count_86 : decode cX7_count 86 = .ok (.if_icmp .ge 22, 3) := by decide +kernel
theorem dX7_count_89 : decode cX7_count 89 = .ok (.aload_n 0, 1) := by decide +kernel
theorem dX7_count_90 : decode cX7_count 90 = .ok (.getfield 19, 3) := by decide +kernel
theorem dX7_count_93 : decode cX7_count 93 = .ok (.iload_n 3, 1) := by decide +kernel
theorem dX7_count_94 : decode cX7_count 94 = .ok (.iaload, 1) := by decide +kernel
theorem dX7_count_95 : decode cX7_count 95 = .ok (.iconst (-1), 1) := by decide +kernel
theorem dX7_count_96 : decode cX7_count 96 = .ok (.if_icmp .ne 6, 3) := by decide +kernel
theorem dX7_count_99 : decode cX7_count 99 = .ok (.iinc 2 1, 3) := by decide +kernel
theorem dX7_count_102 : decode cX7_count 102 = .ok (.iinc 3 1, 3) := by decide +kernel
theorem dX7_count_105 : decode cX7_count 105 = .ok (.goto (-24), 3) := by decide +kernel
theorem dX7_count_108 : decode cX7_count 108 = .ok (.iload_n 2, 1) := by decide +kernel
theorem dX7_count_109 : decode cX7_count 109 = .ok (.ireturn, 1) := by decide +kernel
theorem dX7_count_110 : decode cX7_count 110 = .ok (.iconst 0, 1) := by decide +kernel
theorem dX7_count_111 : decode cX7_count 111 = .ok (.istore_n 3, 1) := by decide +kernel
theorem dX7_count_112 : decode cX7_count 112 = .ok (.iload_n 3, 1) := by decide +kernel
theorem dX7_count_113 : decode cX7_count 113 = .ok (.aload_n 0, 1) := by decide +kernel
theorem dX7_count_114 : decode cX7_count 114 = .ok (.getfield 79, 3) := by decide +kernel
theorem dX7_count_117 : decode cX7_count 117 = .ok (.if_icmp .ge 21, 3) := by decide +kernel
theorem dX7_count_120 : decode cX7_count 120 = .ok (.aload_n 0, 1) := by decide +kernel
theorem dX7_count_121 : decode cX7_count 121 = .ok (.getfield 22, 3) := by decide +kernel
theorem dX7_count_124 : decode cX7_count 124 = .ok (.iload_n 3, 1) := by decide +kernel
theorem dX7_count_125 : decode cX7_count 125 = .ok (.baload, 1) := by decide +kernel
theorem dX7_count_126 : decode cX7_count 126 = .ok (.ifCond .eq 6, 3) := by decide +kernel
theorem dX7_count_129 : decode cX7_count 129 = .ok (.iinc 2 1, 3) := by decide +kernel
theorem dX7_count_132 : decode cX7_count 132 = .ok (.iinc 3 1, 3) := by decide +kernel
theorem dX7_count_135 : decode cX7_count 135 = .ok (.goto (-23), 3) := by decide +kernel
theorem dX7_count_138 : decode cX7_count 138 = .ok (.iload_n 2, 1) := by decide +kernel
theorem dX7_count_139 : decode cX7_count 139 = .ok (.ireturn, 1) := by decide +kernel
theorem dX7_count_140 : decode cX7_count 140 = .ok (.iconst 0, 1) := by decide +kernel
theorem dX7_count_141 : decode cX7_count 141 = .ok (.istore_n 3, 1) := by decide +kernel
theorem dX7_count_142 : decode cX7_count 142 = .ok (.iload_n 3, 1) := by decide +kernel
theorem dX7_count_143 : decode cX7_count 143 = .ok (.aload_n 0, 1) := by decide +kernel
theorem dX7_count_144 : decode cX7_count 144 = .ok (.getfield 79, 3) := by decide +kernel
theorem dX7_count_147 : decode cX7_count 147 = .ok (.if_icmp .ge 27, 3) := by decide +kernel
theorem dX7_count_150 : decode cX7_count 150 = .ok (.aload_n 0, 1) := by decide +kernel
theorem dX7_count_151 : decode cX7_count 151 = .ok (.getfield 16, 3) := by decide +kernel
theorem dX7_count_154 : decode cX7_count 154 = .ok (.iload_n 3, 1) := by decide +kernel
theorem dX7_count_155 : decode cX7_count 155 = .ok (.iaload, 1) := by decide +kernel
theorem dX7_count_156 : decode cX7_count 156 = .ok (.aload_n 0, 1) := by decide +kernel
theorem dX7_count_157 : decode cX7_count 157 = .ok (.getfield 26, 3) := by decide +kernel
theorem dX7_count_160 : decode cX7_count 160 = .ok (.iconst 0, 1) := by decide +kernel
theorem dX7_count_161 : decode cX7_count 161 = .ok (.iaload, 1) := by decide +kernel
theorem dX7_count_162 : decode cX7_count 162 = .ok (.if_icmp .lt 6, 3) := by decide +kernel
theorem dX7_count_165 : decode cX7_count 165 = .ok (.iinc 2 1, 3) := by decide +kernel
theorem dX7_count_168 : decode cX7_count 168 = .ok (.iinc 3 1, 3) := by decide +kernel
theorem dX7_count_171 : decode cX7_count 171 = .ok (.goto (-29), 3) := by decide +kernel
theorem dX7_count_174 : decode cX7_count 174 = .ok (.iload_n 2, 1) := by decide +kernel
theorem dX7_count_175 : decode cX7_count 175 = .ok (.ireturn, 1) := by decide +kernel
theorem dX7_count_176 : decode cX7_count 176 = .ok (.aload_n 0, 1) := by decide +kernel
theorem dX7_count_177 : decode cX7_count 177 = .ok (.getfield 137, 3) := by decide +kernel
theorem dX7_count_180 : decode cX7_count 180 = .ok (.ireturn, 1) := by decide +kernel
theorem dX7_count_181 : decode cX7_count 181 = .ok (.aload_n 0, 1) := by decide +kernel
theorem dX7_count_182 : decode cX7_count 182 = .ok (.getfield 140, 3) := by decide +kernel
theorem dX7_count_185 : decode cX7_count 185 = .ok (.ireturn, 1) := by decide +kernel
theorem dX7_count_186 : decode cX7_count 186 = .ok (.aload_n 0, 1) := by decide +kernel
theorem dX7_count_187 : decode cX7_count 187 = .ok (.getfield 143, 3) := by decide +kernel
theorem dX7_count_190 : decode cX7_count 190 = .ok (.ireturn, 1) := by decide +kernel
theorem dX7_count_191 : decode cX7_count 191 = .ok (.aload_n 0, 1) := by decide +kernel
theorem dX7_count_192 : decode cX7_count 192 = .ok (.getfield 29, 3) := by decide +kernel
theorem dX7_count_195 : decode cX7_count 195 = .ok (.aload_n 0, 1) := by decide +kernel
theorem dX7_count_196 : decode cX7_count 196 = .ok (.getfield 119, 3) := by decide +kernel
theorem dX7_count_199 : decode cX7_count 199 = .ok (.bipush 24, 2) := by decide +kernel
theorem dX7_count_201 : decode cX7_count 201 = .ok (.irem, 1) := by decide +kernel
theorem dX7_count_202 : decode cX7_count 202 = .ok (.iaload, 1) := by decide +kernel
theorem dX7_count_203 : decode cX7_count 203 = .ok (.ireturn, 1) := by decide +kernel
theorem dX7_count_204 : decode cX7_count 204 = .ok (.iconst (-1), 1) := by decide +kernel
theorem dX7_count_205 : decode cX7_count 205 = .ok (.ireturn, 1) := by decide +kernel
theorem dX7_of_0 : decode cX7_of 0 = .ok (.aload_n 0, 1) := by decide +kernel
theorem dX7_of_1 : decode cX7_of 1 = .ok (.iconst 0, 1) := by decide +kernel
theorem dX7_of_2 : decode cX7_of 2 = .ok (.putfield 68, 3) := by decide +kernel
theorem dX7_of_5 : decode cX7_of 5 = .ok (.aload_n 0, 1) := by decide +kernel
theorem dX7_of_6 : decode cX7_of 6 = .ok (.iload_n 1, 1) := by decide +kernel
theorem dX7_of_7 : decode cX7_of 7 = .ok (.invokevirtual 110, 3) := by decide +kernel
theorem dX7_of_10 : decode cX7_of 10 = .ok (.ifCond .eq 12, 3) := by decide +kernel
theorem dX7_of_13 : decode cX7_of 13 = .ok (.iload_n 2, 1) := by decide +kernel
theorem dX7_of_14 : decode cX7_of 14 = .ok (.iconst 0, 1) := by decide +kernel
theorem dX7_of_15 : decode cX7_of 15 = .ok (.iconst 3, 1) := by decide +kernel
theorem dX7_of_16 : decode cX7_of 16 = .ok (.invokestatic 75, 3) := by decide +kernel
theorem dX7_of_19 : decode cX7_of 19 = .ok (.ifCond .ne 10, 3) := by decide +kernel
theorem dX7_of_22 : decode cX7_of 22 = .ok (.aload_n 0, 1) := by decide +kernel
theorem dX7_of_23 : decode cX7_of 23 = .ok (.iconst 1, 1) := by decide +kernel
theorem dX7_of_24 : decode cX7_of 24 = .ok (.putfield 68, 3) := by decide +kernel
theorem dX7_of_27 : decode cX7_of 27 = .ok (.iconst 0, 1) := by decide +kernel
theorem dX7_of_28 : decode cX7_of 28 = .ok (.ireturn, 1) := by decide +kernel
theorem dX7_of_29 : decode cX7_of 29 = .ok (.iload_n 2, 1) := by decide +kernel
theorem dX7_of_30 : decode cX7_of 30 = .ok (.ifCond .ne 12, 3) := by decide +kernel
theorem dX7_of_33 : decode cX7_of 33 = .ok (.aload_n 0, 1) := by decide +kernel
theorem dX7_of_34 : decode cX7_of 34 = .ok (.getfield 13, 3) := by decide +kernel
theorem dX7_of_37 : decode cX7_of 37 = .ok (.iload_n 1, 1) := by decide +kernel
theorem dX7_of_38 : decode cX7_of 38 = .ok (.iaload, 1) := by decide +kernel
theorem dX7_of_39 : decode cX7_of 39 = .ok (.goto 44, 3) := by decide +kernel
theorem dX7_of_42 : decode cX7_of 42 = .ok (.iload_n 2, 1) := by decide +kernel
theorem dX7_of_43 : decode cX7_of 43 = .ok (.iconst 1, 1) := by decide +kernel
theorem dX7_of_44 : decode cX7_of 44 = .ok (.if_icmp .ne 12, 3) := by decide +kernel
theorem dX7_of_47 : decode cX7_of 47 = .ok (.aload_n 0, 1) := by decide +kernel
theorem dX7_of_48 : decode cX7_of 48 = .ok (.getfield 16, 3) := by decide +kernel
theorem dX7_of_51 : decode cX7_of 51 = .ok (.iload_n 1, 1) := by decide +kernel
theorem dX7_of_52 : decode cX7_of 52 = .ok (.iaload, 1) := by decide +kernel
theorem dX7_of_53 : decode cX7_of 53 = .ok (.goto 30, 3) := by decide +kernel
theorem dX7_of_56 : decode cX7_of 56 = .ok (.iload_n 2, 1) := by decide +kernel
theorem dX7_of_57 : decode cX7_of 57 = .ok (.iconst 2, 1) := by decide +kernel
theorem dX7_of_58 : decode cX7_of 58 = .ok (.if_icmp .ne 12, 3) := by decide +kernel
theorem dX7_of_61 : decode cX7_of 61 = .ok (.aload_n 0, 1) := by decide +kernel
theorem dX7_of_62 : decode cX7_of 62 = .ok (.getfield 19, 3) := by decide +kernel
theorem dX7_of_65 : decode cX7_of 65 = .ok (.iload_n 1, 1) := by decide +kernel
theorem dX7_of_66 : decode cX7_of 66 = .ok (.iaload, 1) := by decide +kernel
theorem dX7_of_67 : decode cX7_of 67 = .ok (.goto 16, 3) := by decide +kernel
theorem dX7_of_70 : decode cX7_of 70 = .ok (.aload_n 0, 1) := by decide +kernel
theorem dX7_of_71 : decode cX7_of 71 = .ok (.iload_n 1, 1) := by decide +kernel
theorem dX7_of_72 : decode cX7_of 72 = .ok (.invokevirtual 90, 3) := by decide +kernel
theorem dX7_of_75 : decode cX7_of 75 = .ok (.ifCond .eq 7, 3) := by decide +kernel
theorem dX7_of_78 : decode cX7_of 78 = .ok (.iconst 1, 1) := by decide +kernel
theorem dX7_of_79 : decode cX7_of 79 = .ok (.goto 4, 3) := by decide +kernel
theorem dX7_of_82 : decode cX7_of 82 = .ok (.iconst 0, 1) := by decide +kernel
theorem dX7_of_83 : decode cX7_of 83 = .ok (.ireturn, 1) := by decide +kernel
theorem dX7_in__0 : decode cX7_in_ 0 = .ok (.aload_n 0, 1) := by decide +kernel
theorem dX7_in__1 : decode cX7_in_ 1 = .ok (.iconst 0, 1) := by decide +kernel
theorem dX7_in__2 : decode cX7_in_ 2 = .ok (.putfield 68, 3) := by decide +kernel
theorem dX7_in__5 : decode cX7_in_ 5 = .ok (.aload_n 0, 1) := by decide +kernel
theorem dX7_in__6 : decode cX7_in_ 6 = .ok (.iload_n 1, 1) := by decide +kernel
theorem dX7_in__7 : decode cX7_in_ 7 = .ok (.invokevirtual 97, 3) := by decide +kernel
theorem dX7_in__10 : decode cX7_in_ 10 = .ok (.ifCond .ne 5, 3) := by decide +kernel
theorem dX7_in__13 : decode cX7_in_ 13 = .ok (.iconst (-1), 1) := by decide +kernel
theorem dX7_in__14 : decode cX7_in_ 14 = .ok (.ireturn, 1) := by decide +kernel
theorem dX7_in__15 : decode cX7_in_ 15 = .ok (.iload_n 2, 1) := by decide +kernel
theorem dX7_in__16 : decode cX7_in_ 16 = .ok (.tableswitch 79 0 4 #[36, 42, 48, 54, 66], 36) := by decide +kernel
theorem dX7_in__52 : decode cX7_in_ 52 = .ok (.aload_n 0, 1) := by decide +kernel
theorem dX7_in__53 : decode cX7_in_ 53 = .ok (.iload_n 1, 1) := by decide +kernel
theorem dX7_in__54 : decode cX7_in_ 54 = .ok (.invokevirtual 82, 3) := by decide +kernel
theorem dX7_in__57 : decode cX7_in_ 57 = .ok (.ireturn, 1) := by decide +kernel
theorem dX7_in__58 : decode cX7_in_ 58 = .ok (.aload_n 0, 1) := by decide +kernel
theorem dX7_in__59 : decode cX7_in_ 59 = .ok (.iload_n 1, 1) := by decide +kernel
theorem dX7_in__60 : decode cX7_in_ 60 = .ok (.invokevirtual 125, 3) := by decide +kernel
theorem dX7_in__63 : decode cX7_in_ 63 = .ok (.ireturn, 1) := by decide +kernel
theorem dX7_in__64 : decode cX7_in_ 64 = .ok (.aload_n 0, 1) := by decide +kernel
theorem dX7_in__65 : decode cX7_in_ 65 = .ok (.iload_n 1, 1) := by decide +kernel
theorem dX7_in__66 : decode cX7_in_ 66 = .ok (.invokevirtual 113, 3) := by decide +kernel
theorem dX7_in__69 : decode cX7_in_ 69 = .ok (.ireturn, 1) := by decide +kernel
theorem dX7_in__70 : decode cX7_in_ 70 = .ok (.aload_n 0, 1) := by decide +kernel
theorem dX7_in__71 : decode cX7_in_ 71 = .ok (.getfield 9, 3) := by decide +kernel
theorem dX7_in__74 : decode cX7_in_ 74 = .ok (.bipush 7, 2) := by decide +kernel
theorem dX7_in__76 : decode cX7_in_ 76 = .ok (.iload_n 1, 1) := by decide +kernel
theorem dX7_in__77 : decode cX7_in_ 77 = .ok (.imul, 1) := by decide +kernel
theorem dX7_in__78 : decode cX7_in_ 78 = .ok (.iconst 5, 1) := by decide +kernel
theorem dX7_in__79 : decode cX7_in_ 79 = .ok (.iadd, 1) := by decide +kernel
theorem dX7_in__80 : decode cX7_in_ 80 = .ok (.iaload, 1) := by decide +kernel
theorem dX7_in__81 : decode cX7_in_ 81 = .ok (.ireturn, 1) := by decide +kernel
theorem dX7_in__82 : decode cX7_in_ 82 = .ok (.aload_n 0, 1) := by decide +kernel
theorem dX7_in__83 : decode cX7_in_ 83 = .ok (.getfield 9, 3) := by decide +kernel
theorem dX7_in__86 : decode cX7_in_ 86 = .ok (.bipush 7, 2) := by decide +kernel
theorem dX7_in__88 : decode cX7_in_ 88 = .ok (.iload_n 1, 1) := by decide +kernel
theorem dX7_in__89 : decode cX7_in_ 89 = .ok (.imul, 1) := by decide +kernel
theorem dX7_in__90 : decode cX7_in_ 90 = .ok (.bipush 6, 2) := by decide +kernel
theorem dX7_in__92 : decode cX7_in_ 92 = .ok (.iadd, 1) := by decide +kernel
theorem dX7_in__93 : decode cX7_in_ 93 = .ok (.iaload, 1) := by decide +kernel
theorem dX7_in__94 : decode cX7_in_ 94 = .ok (.ireturn, 1) := by decide +kernel
theorem dX7_in__95 : decode cX7_in_ 95 = .ok (.iconst (-1), 1) := by decide +kernel
theorem dX7_in__96 : decode cX7_in_ 96 = .ok (.ireturn, 1) := by decide +kernel
theorem dX7_need_0 : decode cX7_need 0 = .ok (.aload_n 0, 1) := by decide +kernel
theorem dX7_need_1 : decode cX7_need 1 = .ok (.iconst 0, 1) := by decide +kernel
theorem dX7_need_2 : decode cX7_need 2 = .ok (.putfield 68, 3) := by decide +kernel
theorem dX7_need_5 : decode cX7_need 5 = .ok (.iload_n 1, 1) := by decide +kernel
theorem dX7_need_6 : decode cX7_need 6 = .ok (.iconst 0, 1) := by decide +kernel
theorem dX7_need_7 : decode cX7_need 7 = .ok (.bipush 20, 2) := by decide +kernel
theorem dX7_need_9 : decode cX7_need 9 = .ok (.invokestatic 75, 3) := by decide +kernel
theorem dX7_need_12 : decode cX7_need 12 = .ok (.ifCond .eq 12, 3) := by decide +kernel
theorem dX7_need_15 : decode cX7_need 15 = .ok (.aload_n 0, 1) := by decide +kernel
theorem dX7_need_16 : decode cX7_need 16 = .ok (.getfield 137, 3) := by decide +kernel
theorem dX7_need_19 : decode cX7_need 19 = .ok (.bipush 12, 2) := by decide +kernel
theorem dX7_need_21 : decode cX7_need 21 = .ok (.if_icmp .ne 5, 3) := by decide +kernel
theorem dX7_need_24 : decode cX7_need 24 = .ok (.iconst (-1), 1) := by decide +kernel
theorem dX7_need_25 : decode cX7_need 25 = .ok (.ireturn, 1) := by decide +kernel
theorem dX7_need_26 : decode cX7_need 26 = .ok (.aload_n 0, 1) := by decide +kernel
theorem dX7_need_27 : decode cX7_need 27 = .ok (.getfield 32, 3) := by decide +kernel
theorem dX7_need_30 : decode cX7_need 30 = .ok (.aload_n 0, 1) := by decide +kernel
theorem dX7_need_31 : decode cX7_need 31 = .ok (.getfield 137, 3) := by decide +kernel
theorem dX7_need_34 : decode cX7_need 34 = .ok (.iload_n 1, 1) := by decide +kernel
theorem dX7_need_35 : decode cX7_need 35 = .ok (.iastore, 1) := by decide +kernel
theorem dX7_need_36 : decode cX7_need 36 = .ok (.aload_n 0, 1) := by decide +kernel
theorem dX7_need_37 : decode cX7_need 37 = .ok (.dup, 1) := by decide +kernel
theorem dX7_need_38 : decode cX7_need 38 = .ok (.getfield 137, 3) := by decide +kernel
theorem dX7_need_41 : decode cX7_need 41 = .ok (.iconst 1, 1) := by decide +kernel
theorem dX7_need_42 : decode cX7_need 42 = .ok (.iadd, 1) := by decide +kernel
theorem dX7_need_43 : decode cX7_need 43 = .ok (.putfield 137, 3) := by decide +kernel
theorem dX7_need_46 : decode cX7_need 46 = .ok (.aload_n 0, 1) := by decide +kernel
theorem dX7_need_47 : decode cX7_need 47 = .ok (.getfield 137, 3) := by decide +kernel
theorem dX7_need_50 : decode cX7_need 50 = .ok (.ireturn, 1) := by decide +kernel
theorem dX7_clear_0 : decode cX7_clear 0 = .ok (.aload_n 0, 1) := by decide +kernel
theorem dX7_clear_1 : decode cX7_clear 1 = .ok (.iconst 0, 1) := by decide +kernel
theorem dX7_clear_2 : decode cX7_clear 2 = .ok (.putfield 68, 3) := by decide +kernel
theorem dX7_clear_5 : decode cX7_clear 5 = .ok (.aload_n 0, 1) := by decide +kernel
theorem dX7_clear_6 : decode cX7_clear 6 = .ok (.getfield 137, 3) := by decide +kernel
theorem dX7_clear_9 : decode cX7_clear 9 = .ok (.istore_n 1, 1) := by decide +kernel
theorem dX7_clear_10 : decode cX7_clear 10 = .ok (.aload_n 0, 1) := by decide +kernel
theorem dX7_clear_11 : decode cX7_clear 11 = .ok (.iconst 0, 1) := by decide +kernel
theorem dX7_clear_12 : decode cX7_clear 12 = .ok (.putfield 137, 3) := by decide +kernel
theorem dX7_clear_15 : decode cX7_clear 15 = .ok (.aload_n 0, 1) := by decide +kernel
theorem dX7_clear_16 : decode cX7_clear 16 = .ok (.iconst 0, 1) := by decide +kernel
theorem dX7_clear_17 : decode cX7_clear 17 = .ok (.putfield 140, 3) := by decide +kernel
theorem dX7_clear_20 : decode cX7_clear 20 = .ok (.aload_n 0, 1) := by decide +kernel
theorem dX7_clear_21 : decode cX7_clear 21 = .ok (.iconst 0, 1) := by decide +kernel
theorem dX7_clear_22 : decode cX7_clear 22 = .ok (.putfield 143, 3) := by decide +kernel
theorem dX7_clear_25 : decode cX7_clear 25 = .ok (.iload_n 1, 1) := by decide +kernel
theorem dX7_clear_26 : decode cX7_clear 26 = .ok (.ireturn, 1) := by decide +kernel
theorem dX7_plan_0 : decode cX7_plan 0 = .ok (.aload_n 0, 1) := by decide +kernel
theorem dX7_plan_1 : decode cX7_plan 1 = .ok (.iconst 0, 1) := by decide +kernel
theorem dX7_plan_2 : decode cX7_plan 2 = .ok (.putfield 68, 3) := by decide +kernel
theorem dX7_plan_5 : decode cX7_plan 5 = .ok (.iload_n 1, 1) := by decide +kernel
theorem dX7_plan_6 : decode cX7_plan 6 = .ok (.iconst 0, 1) := by decide +kernel
theorem dX7_plan_7 : decode cX7_plan 7 = .ok (.bipush 20, 2) := by decide +kernel
theorem dX7_plan_9 : decode cX7_plan 9 = .ok (.invokestatic 75, 3) := by decide +kernel
theorem dX7_plan_12 : decode cX7_plan 12 = .ok (.ifCond .ne 5, 3) := by decide +kernel
theorem dX7_plan_15 : decode cX7_plan 15 = .ok (.iconst (-1), 1) := by decide +kernel
theorem dX7_plan_16 : decode cX7_plan 16 = .ok (.ireturn, 1) := by decide +kernel
theorem dX7_plan_17 : decode cX7_plan 17 = .ok (.iconst 0, 1) := by decide +kernel
theorem dX7_plan_18 : decode cX7_plan 18 = .ok (.istore_n 2, 1) := by decide +kernel
theorem dX7_plan_19 : decode cX7_plan 19 = .ok (.iconst 0, 1) := by decide +kernel
theorem dX7_plan_20 : decode cX7_plan 20 = .ok (.istore_n 3, 1) := by decide +kernel
theorem dX7_plan_21 : decode cX7_plan 21 = .ok (.iload_n 3, 1) := by decide +kernel
theorem dX7_plan_22 : decode cX7_plan 22 = .ok (.aload_n 0, 1) := by decide +kernel
theorem dX7_plan_23 : decode cX7_plan 23 = .ok (.getfield 137, 3) := by decide +kernel
theorem dX7_plan_26 : decode cX7_plan 26 = .ok (.if_icmp .ge 18, 3) := by decide +kernel
theorem dX7_plan_29 : decode cX7_plan 29 = .ok (.iload_n 2, 1) := by decide +kernel
theorem dX7_plan_30 : decode cX7_plan 30 = .ok (.aload_n 0, 1) := by decide +kernel
theorem dX7_plan_31 : decode cX7_plan 31 = .ok (.getfield 32, 3) := by decide +kernel
theorem dX7_plan_34 : decode cX7_plan 34 = .ok (.iload_n 3, 1) := by decide +kernel
theorem dX7_plan_35 : decode cX7_plan 35 = .ok (.iaload, 1) := by decide +kernel
theorem dX7_plan_36 : decode cX7_plan 36 = .ok (.iadd, 1) := by decide +kernel
theorem dX7_plan_37 : decode cX7_plan 37 = .ok (.istore_n 2, 1) := by decide +kernel
theorem dX7_plan_38 : decode cX7_plan 38 = .ok (.iinc 3 1, 3) := by decide +kernel
theorem dX7_plan_41 : decode cX7_plan 41 = .ok (.goto (-20), 3) := by decide +kernel
theorem dX7_plan_44 : decode cX7_plan 44 = .ok (.iconst 0, 1) := by decide +kernel
theorem dX7_plan_45 : decode cX7_plan 45 = .ok (.istore_n 3, 1) := by decide +kernel
theorem dX7_plan_46 : decode cX7_plan 46 = .ok (.iload_n 3, 1) := by decide +kernel
theorem dX7_plan_47 : decode cX7_plan 47 = .ok (.sipush 260, 3) := by decide +kernel
theorem dX7_plan_50 : decode cX7_plan 50 = .ok (.if_icmp .ge 35, 3) := by decide +kernel
theorem dX7_plan_53 : decode cX7_plan 53 = .ok (.aload_n 0, 1) := by decide +kernel
theorem dX7_plan_54 : decode cX7_plan 54 = .ok (.getfield 59, 3) := by decide +kernel
theorem dX7_plan_57 : decode cX7_plan 57 = .ok (.sipush 260, 3) := by decide +kernel
theorem dX7_plan_60 : decode cX7_plan 60 = .ok (.aload_n 0, 1) := by decide +kernel
theorem dX7_plan_61 : decode cX7_plan 61 = .ok (.getfield 137, 3) := by decide +kernel
theorem dX7_plan_64 : decode cX7_plan 64 = .ok (.imul, 1) := by decide +kernel
theorem dX7_plan_65 : decode cX7_plan 65 = .ok (.iload_n 3, 1) := by decide +kernel
theorem dX7_plan_66 : decode cX7_plan 66 = .ok (.iadd, 1) := by decide +kernel
theorem dX7_plan_67 : decode cX7_plan 67 = .ok (.iload_n 3, 1) := by decide +kernel
theorem dX7_plan_68 : decode cX7_plan 68 = .ok (.iload_n 2, 1) := by decide +kernel
theorem dX7_plan_69 : decode cX7_plan 69 = .ok (.if_icmp .ne 7, 3) := by decide +kernel
theorem dX7_plan_72 : decode cX7_plan 72 = .ok (.iconst 0, 1) := by decide +kernel
theorem dX7_plan_73 : decode cX7_plan 73 = .ok (.goto 5, 3) := by decide +kernel
theorem dX7_plan_76 : decode cX7_plan 76 = .ok (.ldc 146, 2) := by decide +kernel
theorem dX7_plan_78 : decode cX7_plan 78 = .ok (.iastore, 1) := by decide +kernel
theorem dX7_plan_79 : decode cX7_plan 79 = .ok (.iinc 3 1, 3) := by decide +kernel
theorem dX7_plan_82 : decode cX7_plan 82 = .ok (.goto (-36), 3) := by decide +kernel
theorem dX7_plan_85 : decode cX7_plan 85 = .ok (.aload_n 0, 1) := by decide +kernel
theorem dX7_plan_86 : decode cX7_plan 86 = .ok (.getfield 137, 3) := by decide +kernel
theorem dX7_plan_89 : decode cX7_plan 89 = .ok (.iconst 1, 1) := by decide +kernel
theorem dX7_plan_90 : decode cX7_plan 90 = .ok (.isub, 1) := by decide +kernel
theorem dX7_plan_91 : decode cX7_plan 91 = .ok (.istore_n 3, 1) := by decide +kernel
theorem dX7_plan_92 : decode cX7_plan 92 = .ok (.iload_n 3, 1) := by decide +kernel
theorem dX7_plan_93 : decode cX7_plan 93 = .ok (.ifCond .lt 126, 3) := by decide +kernel
theorem dX7_plan_96 : decode cX7_plan 96 = .ok (.aload_n 0, 1) := by decide +kernel
theorem dX7_plan_97 : decode cX7_plan 97 = .ok (.getfield 29, 3) := by decide +kernel
theorem dX7_plan_100 : decode cX7_plan 100 = .ok (.aload_n 0, 1) := by decide +kernel
theorem dX7_plan_101 : decode cX7_plan 101 = .ok (.getfield 119, 3) := by decide +kernel
theorem dX7_plan_104 : decode cX7_plan 104 = .ok (.iload_n 3, 1) := by decide +kernel
theorem dX7_plan_105 : decode cX7_plan 105 = .ok (.iadd, 1) := by decide +kernel
theorem dX7_plan_106 : decode cX7_plan 106 = .ok (.bipush 24, 2) := by decide +kernel
theorem dX7_plan_108 : decode cX7_plan 108 = .ok (.irem, 1) := by decide +kernel
theorem dX7_plan_109 : decode cX7_plan 109 = .ok (.iaload, 1) := by decide +kernel
theorem dX7_plan_110 : decode cX7_plan 110 = .ok (.istore 4, 2) := by decide +kernel
theorem dX7_plan_112 : decode cX7_plan 112 = .ok (.iconst 0, 1) := by decide +kernel
theorem dX7_plan_113 : decode cX7_plan 113 = .ok (.istore 5, 2) := by decide +kernel
theorem dX7_plan_115 : decode cX7_plan 115 = .ok (.iload 5, 2) := by decide +kernel
theorem dX7_plan_117 : decode cX7_plan 117 = .ok (.bipush 20, 2) := by decide +kernel
theorem dX7_plan_119 : decode cX7_plan 119 = .ok (.iload_n 3, 1) := by decide +kernel
theorem dX7_plan_120 : decode cX7_plan 120 = .ok (.imul, 1) := by decide +kernel
theorem dX7_plan_121 : decode cX7_plan 121 = .ok (.if_icmp .gt 83, 3) := by decide +kernel
theorem dX7_plan_124 : decode cX7_plan 124 = .ok (.ldc 146, 2) := by decide +kernel
theorem dX7_plan_126 : decode cX7_plan 126 = .ok (.istore 6, 2) := by decide +kernel
theorem dX7_plan_128 : decode cX7_plan 128 = .ok (.iconst 0, 1) := by decide +kernel
theorem dX7_plan_129 : decode cX7_plan 129 = .ok (.istore 7, 2) := by decide +kernel
theorem dX7_plan_131 : decode cX7_plan 131 = .ok (.iload 7, 2) := by decide +kernel
theorem dX7_plan_133 : decode cX7_plan 133 = .ok (.iload_n 1, 1) := by decide +kernel
theorem dX7_plan_134 : decode cX7_plan 134 = .ok (.if_icmp .gt 49, 3) := by decide +kernel
theorem dX7_plan_137 : decode cX7_plan 137 = .ok (.iload 5, 2) := by decide +kernel
theorem dX7_plan_139 : decode cX7_plan 139 = .ok (.iload 7, 2) := by decide +kernel
theorem dX7_plan_141 : decode cX7_plan 141 = .ok (.iadd, 1) := by decide +kernel
theorem dX7_plan_142 : decode cX7_plan 142 = .ok (.iload_n 2, 1) := by decide +kernel
theorem dX7_plan_143 : decode cX7_plan 143 = .ok (.if_icmp .lt 34, 3) := by decide +kernel
theorem dX7_plan_146 : decode cX7_plan 146 = .ok (.iload 6, 2) := by decide +kernel
theorem dX7_plan_148 : decode cX7_plan 148 = .ok (.iload 7, 2) := by decide +kernel
theorem dX7_plan_150 : decode cX7_plan 150 = .ok (.iload 4, 2) := by decide +kernel
theorem dX7_plan_152 : decode cX7_plan 152 = .ok (.imul, 1) := by decide +kernel
theorem dX7_plan_153 : decode cX7_plan 153 = .ok (.aload_n 0, 1) := by decide +kernel
theorem dX7_plan_154 : decode cX7_plan 154 = .ok (.getfield 59, 3) := by decide +kernel
theorem dX7_plan_157 : decode cX7_plan 157 = .ok (.sipush 260, 3) := by decide +kernel
theorem dX7_plan_160 : decode cX7_plan 160 = .ok (.iload_n 3, 1) := by decide +kernel
theorem dX7_plan_161 : decode cX7_plan 161 = .ok (.iconst 1, 1) := by decide +kernel
theorem dX7_plan_162 : decode cX7_plan 162 = .ok (.iadd, 1) := by decide +kernel
theorem dX7_plan_163 : decode cX7_plan 163 = .ok (.imul, 1) := by decide +kernel
theorem dX7_plan_164 : decode cX7_plan 164 = .ok (.iload 5, 2) := by decide +kernel
theorem dX7_plan_166 : decode cX7_plan 166 = .ok (.iadd, 1) := by decide +kernel
theorem dX7_plan_167 : decode cX7_plan 167 = .ok (.iload 7, 2) := by decide +kernel
theorem dX7_plan_169 : decode cX7_plan 169 = .ok (.iadd, 1) := by decide +kernel
theorem dX7_plan_170 : decode cX7_plan 170 = .ok (.iaload, 1) := by decide +kernel
theorem dX7_plan_171 : decode cX7_plan 171 = .ok (.iadd, 1) := by decide +kernel
theorem dX7_plan_172 : decode cX7_plan 172 = .ok (.invokestatic 128, 3) := by decide +kernel
theorem dX7_plan_175 : decode cX7_plan 175 = .ok (.istore 6, 2) := by decide +kernel
theorem dX7_plan_177 : decode cX7_plan 177 = .ok (.iinc 7 1, 3) := by decide +kernel
theorem dX7_plan_180 : decode cX7_plan 180 = .ok (.goto (-49), 3) := by decide +kernel
theorem dX7_plan_183 : decode cX7_plan 183 = .ok (.aload_n 0, 1) := by decide +kernel
theorem dX7_plan_184 : decode cX7_plan 184 = .ok (.getfield 59, 3) := by decide +kernel
theorem dX7_plan_187 : decode cX7_plan 187 = .ok (.sipush 260, 3) := by decide +kernel
theorem dX7_plan_190 : decode cX7_plan 190 = .ok (.iload_n 3, 1) := by decide +kernel
theorem dX7_plan_191 : decode cX7_plan 191 = .ok (.imul, 1) := by decide +kernel
theorem dX7_plan_192 : decode cX7_plan 192 = .ok (.iload 5, 2) := by decide +kernel
theorem dX7_plan_194 : decode cX7_plan 194 = .ok (.iadd, 1) := by decide +kernel
theorem dX7_plan_195 : decode cX7_plan 195 = .ok (.iload 6, 2) := by decide +kernel
theorem dX7_plan_197 : decode cX7_plan 197 = .ok (.iastore, 1) := by decide +kernel
theorem dX7_plan_198 : decode cX7_plan 198 = .ok (.iinc 5 1, 3) := by decide +kernel
theorem dX7_plan_201 : decode cX7_plan 201 = .ok (.goto (-86), 3) := by decide +kernel
theorem dX7_plan_204 : decode cX7_plan 204 = .ok (.iload_n 2, 1) := by decide +kernel
theorem dX7_plan_205 : decode cX7_plan 205 = .ok (.aload_n 0, 1) := by decide +kernel
theorem dX7_plan_206 : decode cX7_plan 206 = .ok (.getfield 32, 3) := by decide +kernel
theorem dX7_plan_209 : decode cX7_plan 209 = .ok (.iload_n 3, 1) := by decide +kernel
theorem dX7_plan_210 : decode cX7_plan 210 = .ok (.iaload, 1) := by decide +kernel
theorem dX7_plan_211 : decode cX7_plan 211 = .ok (.isub, 1) := by decide +kernel
theorem dX7_plan_212 : decode cX7_plan 212 = .ok (.istore_n 2, 1) := by decide +kernel
theorem dX7_plan_213 : decode cX7_plan 213 = .ok (.iinc 3 (-1), 3) := by decide +kernel
theorem dX7_plan_216 : decode cX7_plan 216 = .ok (.goto (-124), 3) := by decide +kernel
theorem dX7_plan_219 : decode cX7_plan 219 = .ok (.aload_n 0, 1) := by decide +kernel
theorem dX7_plan_220 : decode cX7_plan 220 = .ok (.getfield 59, 3) := by decide +kernel
theorem dX7_plan_223 : decode cX7_plan 223 = .ok (.iconst 0, 1) := by decide +kernel
theorem dX7_plan_224 : decode cX7_plan 224 = .ok (.iaload, 1) := by decide +kernel
theorem dX7_plan_225 : decode cX7_plan 225 = .ok (.ldc 146, 2) := by decide +kernel
theorem dX7_plan_227 : decode cX7_plan 227 = .ok (.if_icmp .lt 6, 3) := by decide +kernel
theorem dX7_plan_230 : decode cX7_plan 230 = .ok (.bipush (-2), 2) := by decide +kernel
theorem dX7_plan_232 : decode cX7_plan 232 = .ok (.ireturn, 1) := by decide +kernel
theorem dX7_plan_233 : decode cX7_plan 233 = .ok (.iconst 0, 1) := by decide +kernel
theorem dX7_plan_234 : decode cX7_plan 234 = .ok (.istore_n 3, 1) := by decide +kernel
theorem dX7_plan_235 : decode cX7_plan 235 = .ok (.iconst 0, 1) := by decide +kernel
theorem dX7_plan_236 : decode cX7_plan 236 = .ok (.istore 4, 2) := by decide +kernel
theorem dX7_plan_238 : decode cX7_plan 238 = .ok (.iconst 0, 1) := by decide +kernel
theorem dX7_plan_239 : decode cX7_plan 239 = .ok (.istore 5, 2) := by decide +kernel
theorem dX7_plan_241 : decode cX7_plan 241 = .ok (.iload 5, 2) := by decide +kernel
theorem dX7_plan_243 : decode cX7_plan 243 = .ok (.aload_n 0, 1) := by decide +kernel
theorem dX7_plan_244 : decode cX7_plan 244 = .ok (.getfield 137, 3) := by decide +kernel
theorem dX7_plan_247 : decode cX7_plan 247 = .ok (.if_icmp .ge 110, 3) := by decide +kernel
theorem dX7_plan_250 : decode cX7_plan 250 = .ok (.aload_n 0, 1) := by decide +kernel
theorem dX7_plan_251 : decode cX7_plan 251 = .ok (.getfield 29, 3) := by decide +kernel
theorem dX7_plan_254 : decode cX7_plan 254 = .ok (.aload_n 0, 1) := by decide +kernel
theorem dX7_plan_255 : decode cX7_plan 255 = .ok (.getfield 119, 3) := by decide +kernel
theorem dX7_plan_258 : decode cX7_plan 258 = .ok (.iload 5, 2) := by decide +kernel
theorem dX7_plan_260 : decode cX7_plan 260 = .ok (.iadd, 1) := by decide +kernel
theorem dX7_plan_261 : decode cX7_plan 261 = .ok (.bipush 24, 2) := by decide +kernel
theorem dX7_plan_263 : decode cX7_plan 263 = .ok (.irem, 1) := by decide +kernel
theorem dX7_plan_264 : decode cX7_plan 264 = .ok (.iaload, 1) := by decide +kernel
theorem dX7_plan_265 : decode cX7_plan 265 = .ok (.istore 6, 2) := by decide +kernel
theorem dX7_plan_267 : decode cX7_plan 267 = .ok (.iload 4, 2) := by decide +kernel
theorem dX7_plan_269 : decode cX7_plan 269 = .ok (.aload_n 0, 1) := by decide +kernel
theorem dX7_plan_270 : decode cX7_plan 270 = .ok (.getfield 32, 3) := by decide +kernel
theorem dX7_plan_273 : decode cX7_plan 273 = .ok (.iload 5, 2) := by decide +kernel
theorem dX7_plan_275 : decode cX7_plan 275 = .ok (.iaload, 1) := by decide +kernel
theorem dX7_plan_276 : decode cX7_plan 276 = .ok (.iadd, 1) := by decide +kernel
theorem dX7_plan_277 : decode cX7_plan 277 = .ok (.istore 4, 2) := by decide +kernel
theorem dX7_plan_279 : decode cX7_plan 279 = .ok (.iload_n 1, 1) := by decide +kernel
theorem dX7_plan_280 : decode cX7_plan 280 = .ok (.istore 7, 2) := by decide +kernel
theorem dX7_plan_282 : decode cX7_plan 282 = .ok (.iload_n 3, 1) := by decide +kernel
theorem dX7_plan_283 : decode cX7_plan 283 = .ok (.iload 7, 2) := by decide +kernel
theorem dX7_plan_285 : decode cX7_plan 285 = .ok (.iadd, 1) := by decide +kernel
theorem dX7_plan_286 : decode cX7_plan 286 = .ok (.iload 4, 2) := by decide +kernel
theorem dX7_plan_288 : decode cX7_plan 288 = .ok (.if_icmp .lt 43, 3) := by decide +kernel
theorem dX7_plan_291 : decode cX7_plan 291 = .ok (.iload 7, 2) := by decide +kernel
theorem dX7_plan_293 : decode cX7_plan 293 = .ok (.iload 6, 2) := by decide +kernel
theorem dX7_plan_295 : decode cX7_plan 295 = .ok (.imul, 1) := by decide +kernel
theorem dX7_plan_296 : decode cX7_plan 296 = .ok (.aload_n 0, 1) := by decide +kernel
theorem dX7_plan_297 : decode cX7_plan 297 = .ok (.getfield 59, 3) := by decide +kernel
theorem dX7_plan_300 : decode cX7_plan 300 = .ok (.sipush 260, 3) := by decide +kernel
theorem dX7_plan_303 : decode cX7_plan 303 = .ok (.iload 5, 2) := by decide +kernel
theorem dX7_plan_305 : decode cX7_plan 305 = .ok (.iconst 1, 1) := by decide +kernel
theorem dX7_plan_306 : decode cX7_plan 306 = .ok (.iadd, 1) := by decide +kernel
theorem dX7_plan_307 : decode cX7_plan 307 = .ok (.imul, 1) := by decide +kernel
theorem dX7_plan_308 : decode cX7_plan 308 = .ok (.iload_n 3, 1) := by decide +kernel
theorem dX7_plan_309 : decode cX7_plan 309 = .ok (.iadd, 1) := by decide +kernel
theorem dX7_plan_310 : decode cX7_plan 310 = .ok (.iload 7, 2) := by decide +kernel
theorem dX7_plan_312 : decode cX7_plan 312 = .ok (.iadd, 1) := by decide +kernel
theorem dX7_plan_313 : decode cX7_plan 313 = .ok (.iaload, 1) := by decide +kernel
theorem dX7_plan_314 : decode cX7_plan 314 = .ok (.iadd, 1) := by decide +kernel
theorem dX7_plan_315 : decode cX7_plan 315 = .ok (.aload_n 0, 1) := by decide +kernel
theorem dX7_plan_316 : decode cX7_plan 316 = .ok (.getfield 59, 3) := by decide +kernel
theorem dX7_plan_319 : decode cX7_plan 319 = .ok (.sipush 260, 3) := by decide +kernel
theorem dX7_plan_322 : decode cX7_plan 322 = .ok (.iload 5, 2) := by decide +kernel
theorem dX7_plan_324 : decode cX7_plan 324 = .ok (.imul, 1) := by decide +kernel
theorem dX7_plan_325 : decode cX7_plan 325 = .ok (.iload_n 3, 1) := by decide +kernel
theorem dX7_plan_326 : decode cX7_plan 326 = .ok (.iadd, 1) := by decide +kernel
theorem dX7_plan_327 : decode cX7_plan 327 = .ok (.iaload, 1) := by decide +kernel
theorem dX7_plan_328 : decode cX7_plan 328 = .ok (.if_icmp .eq 9, 3) := by decide +kernel
theorem dX7_plan_331 : decode cX7_plan 331 = .ok (.iinc 7 (-1), 3) := by decide +kernel
theorem dX7_plan_334 : decode cX7_plan 334 = .ok (.goto (-52), 3) := by decide +kernel
theorem dX7_plan_337 : decode cX7_plan 337 = .ok (.aload_n 0, 1) := by decide +kernel
theorem dX7_plan_338 : decode cX7_plan 338 = .ok (.getfield 35, 3) := by decide +kernel
theorem dX7_plan_341 : decode cX7_plan 341 = .ok (.iload 5, 2) := by decide +kernel
theorem dX7_plan_343 : decode cX7_plan 343 = .ok (.iload 7, 2) := by decide +kernel
theorem dX7_plan_345 : decode cX7_plan 345 = .ok (.iastore, 1) := by decide +kernel
theorem dX7_plan_346 : decode cX7_plan 346 = .ok (.iload_n 3, 1) := by decide +kernel
theorem dX7_plan_347 : decode cX7_plan 347 = .ok (.iload 7, 2) := by decide +kernel
theorem dX7_plan_349 : decode cX7_plan 349 = .ok (.iadd, 1) := by decide +kernel
theorem dX7_plan_350 : decode cX7_plan 350 = .ok (.istore_n 3, 1) := by decide +kernel
theorem dX7_plan_351 : decode cX7_plan 351 = .ok (.iinc 5 1, 3) := by decide +kernel
theorem dX7_plan_354 : decode cX7_plan 354 = .ok (.goto (-113), 3) := by decide +kernel
theorem dX7_plan_357 : decode cX7_plan 357 = .ok (.aload_n 0, 1) := by decide +kernel
theorem dX7_plan_358 : decode cX7_plan 358 = .ok (.aload_n 0, 1) := by decide +kernel
theorem dX7_plan_359 : decode cX7_plan 359 = .ok (.getfield 137, 3) := by decide +kernel
theorem dX7_plan_362 : decode cX7_plan 362 = .ok (.putfield 147, 3) := by decide +kernel
theorem dX7_plan_365 : decode cX7_plan 365 = .ok (.aload_n 0, 1) := by decide +kernel
theorem dX7_plan_366 : decode cX7_plan 366 = .ok (.getfield 59, 3) := by decide +kernel
theorem dX7_plan_369 : decode cX7_plan 369 = .ok (.iconst 0, 1) := by decide +kernel
theorem dX7_plan_370 : decode cX7_plan 370 = .ok (.iaload, 1) := by decide +kernel
theorem dX7_plan_371 : decode cX7_plan 371 = .ok (.ireturn, 1) := by decide +kernel
theorem dX7_planned_0 : decode cX7_planned 0 = .ok (.aload_n 0, 1) := by decide +kernel
theorem dX7_planned_1 : decode cX7_planned 1 = .ok (.iconst 0, 1) := by decide +kernel
theorem dX7_planned_2 : decode cX7_planned 2 = .ok (.putfield 68, 3) := by decide +kernel
theorem dX7_planned_5 : decode cX7_planned 5 = .ok (.iload_n 1, 1) := by decide +kernel
theorem dX7_planned_6 : decode cX7_planned 6 = .ok (.iconst 0, 1) := by decide +kernel
theorem dX7_planned_7 : decode cX7_planned 7 = .ok (.aload_n 0, 1) := by decide +kernel
theorem dX7_planned_8 : decode cX7_planned 8 = .ok (.getfield 147, 3) := by decide +kernel
theorem dX7_planned_11 : decode cX7_planned 11 = .ok (.iconst 1, 1) := by decide +kernel
theorem dX7_planned_12 : decode cX7_planned 12 = .ok (.isub, 1) := by decide +kernel
theorem dX7_planned_13 : decode cX7_planned 13 = .ok (.invokestatic 75, 3) := by decide +kernel
theorem dX7_planned_16 : decode cX7_planned 16 = .ok (.ifCond .eq 12, 3) := by decide +kernel
theorem dX7_planned_19 : decode cX7_planned 19 = .ok (.aload_n 0, 1) := by decide +kernel
theorem dX7_planned_20 : decode cX7_planned 20 = .ok (.getfield 35, 3) := by decide +kernel
theorem dX7_planned_23 : decode cX7_planned 23 = .ok (.iload_n 1, 1) := by decide +kernel
theorem dX7_planned_24 : decode cX7_planned 24 = .ok (.iaload, 1) := by decide +kernel
theorem dX7_planned_25 : decode cX7_planned 25 = .ok (.goto 4, 3) := by decide +kernel
theorem dX7_planned_28 : decode cX7_planned 28 = .ok (.iconst (-1), 1) := by decide +kernel
theorem dX7_planned_29 : decode cX7_planned 29 = .ok (.ireturn, 1) := by decide +kernel
theorem dX7_wish_0 : decode cX7_wish 0 = .ok (.aload_n 0, 1) := by decide +kernel
theorem dX7_wish_1 : decode cX7_wish 1 = .ok (.iconst 0, 1) := by decide +kernel
theorem dX7_wish_2 : decode cX7_wish 2 = .ok (.putfield 68, 3) := by decide +kernel
theorem dX7_wish_5 : decode cX7_wish 5 = .ok (.aload_n 0, 1) := by decide +kernel
theorem dX7_wish_6 : decode cX7_wish 6 = .ok (.iload_n 1, 1) := by decide +kernel
theorem dX7_wish_7 : decode cX7_wish 7 = .ok (.invokevirtual 97, 3) := by decide +kernel
theorem dX7_wish_10 : decode cX7_wish 10 = .ok (.ifCond .eq 13, 3) := by decide +kernel
theorem dX7_wish_13 : decode cX7_wish 13 = .ok (.iload_n 2, 1) := by decide +kernel
theorem dX7_wish_14 : decode cX7_wish 14 = .ok (.iconst 0, 1) := by decide +kernel
theorem dX7_wish_15 : decode cX7_wish 15 = .ok (.bipush 8, 2) := by decide +kernel
theorem dX7_wish_17 : decode cX7_wish 17 = .ok (.invokestatic 75, 3) := by decide +kernel
theorem dX7_wish_20 : decode cX7_wish 20 = .ok (.ifCond .ne 5, 3) := by decide +kernel
theorem dX7_wish_23 : decode cX7_wish 23 = .ok (.iconst 0, 1) := by decide +kernel
theorem dX7_wish_24 : decode cX7_wish 24 = .ok (.ireturn, 1) := by decide +kernel
theorem dX7_wish_25 : decode cX7_wish 25 = .ok (.aload_n 0, 1) := by decide +kernel
theorem dX7_wish_26 : decode cX7_wish 26 = .ok (.getfield 9, 3) := by decide +kernel
theorem dX7_wish_29 : decode cX7_wish 29 = .ok (.bipush 7, 2) := by decide +kernel
theorem dX7_wish_31 : decode cX7_wish 31 = .ok (.iload_n 1, 1) := by decide +kernel
theorem dX7_wish_32 : decode cX7_wish 32 = .ok (.imul, 1) := by decide +kernel
theorem dX7_wish_33 : decode cX7_wish 33 = .ok (.bipush 6, 2) := by decide +kernel
theorem dX7_wish_35 : decode cX7_wish 35 = .ok (.iadd, 1) := by decide +kernel
theorem dX7_wish_36 : decode cX7_wish 36 = .ok (.iload_n 2, 1) := by decide +kernel
theorem dX7_wish_37 : decode cX7_wish 37 = .ok (.iastore, 1) := by decide +kernel
theorem dX7_wish_38 : decode cX7_wish 38 = .ok (.iconst 1, 1) := by decide +kernel
theorem dX7_wish_39 : decode cX7_wish 39 = .ok (.ireturn, 1) := by decide +kernel
theorem dX7_away_0 : decode cX7_away 0 = .ok (.iload_n 0, 1) := by decide +kernel
theorem dX7_away_1 : decode cX7_away 1 = .ok (.iload_n 2, 1) := by decide +kernel
theorem dX7_away_2 : decode cX7_away 2 = .ok (.isub, 1) := by decide +kernel
theorem dX7_away_3 : decode cX7_away 3 = .ok (.invokestatic 150, 3) := by decide +kernel
theorem dX7_away_6 : decode cX7_away 6 = .ok (.iload_n 1, 1) := by decide +kernel
theorem dX7_away_7 : decode cX7_away 7 = .ok (.iload_n 3, 1) := by decide +kernel
theorem dX7_away_8 : decode cX7_away 8 = .ok (.isub, 1) := by decide +kernel
theorem dX7_away_9 : decode cX7_away 9 = .ok (.invokestatic 150, 3) := by decide +kernel
theorem dX7_away_12 : decode cX7_away 12 = .ok (.iadd, 1) := by decide +kernel
theorem dX7_away_13 : decode cX7_away 13 = .ok (.ireturn, 1) := by decide +kernel
theorem dX7_goOn_0 : decode cX7_goOn 0 = .ok (.iload_n 2, 1) := by decide +kernel
theorem dX7_goOn_1 : decode cX7_goOn 1 = .ok (.iload 7, 2) := by decide +kernel
theorem dX7_goOn_3 : decode cX7_goOn 3 = .ok (.if_icmp .ne 65, 3) := by decide +kernel
theorem dX7_goOn_6 : decode cX7_goOn 6 = .ok (.iload 6, 2) := by decide +kernel
theorem dX7_goOn_8 : decode cX7_goOn 8 = .ok (.iload_n 3, 1) := by decide +kernel
theorem dX7_goOn_9 : decode cX7_goOn 9 = .ok (.iadd, 1) := by decide +kernel
theorem dX7_goOn_10 : decode cX7_goOn 10 = .ok (.iload 4, 2) := by decide +kernel
theorem dX7_goOn_12 : decode cX7_goOn 12 = .ok (.iadd, 1) := by decide +kernel
end
section
theorem dX7_goOn_13 : decode cX7_goOn 13 = .ok (.istore 8, 2) := by decide +kernel
theorem dX7_goOn_15 : decode cX7_goOn 15 = .ok (.aload_n 0, 1) := by decide +kernel
theorem dX7_goOn_16 : decode cX7_goOn 16 = .ok (.getfield 153, 3) := by decide +kernel
theorem dX7_goOn_19 : decode cX7_goOn 19 = .ok (.ifCond .lt 13, 3) := by decide +kernel
theorem dX7_goOn_22 : decode cX7_goOn 22 = .ok (.iload 8, 2) := by decide +kernel
theorem dX7_goOn_24 : decode cX7_goOn 24 = .ok (.aload_n 0, 1) := by decide +kernel
theorem dX7_goOn_25 : decode cX7_goOn 25 = .ok (.getfield 153, 3) := by decide +kernel
theorem dX7_goOn_28 : decode cX7_goOn 28 = .ok (.if_icmp .lt 4, 3) := by decide +kernel
theorem dX7_goOn_31 : decode cX7_goOn 31 = .ok (.return_, 1) := by decide +kernel
theorem dX7_goOn_32 : decode cX7_goOn 32 = .ok (.aload_n 0, 1) := by decide +kernel
theorem dX7_goOn_33 : decode cX7_goOn 33 = .ok (.iload 8, 2) := by decide +kernel
theorem dX7_goOn_35 : decode cX7_goOn 35 = .ok (.putfield 153, 3) := by decide +kernel
theorem dX7_goOn_38 : decode cX7_goOn 38 = .ok (.iconst 0, 1) := by decide +kernel
theorem dX7_goOn_39 : decode cX7_goOn 39 = .ok (.istore 9, 2) := by decide +kernel
theorem dX7_goOn_41 : decode cX7_goOn 41 = .ok (.iload 9, 2) := by decide +kernel
theorem dX7_goOn_43 : decode cX7_goOn 43 = .ok (.iload_n 1, 1) := by decide +kernel
theorem dX7_goOn_44 : decode cX7_goOn 44 = .ok (.if_icmp .ge 23, 3) := by decide +kernel
theorem dX7_goOn_47 : decode cX7_goOn 47 = .ok (.aload_n 0, 1) := by decide +kernel
theorem dX7_goOn_48 : decode cX7_goOn 48 = .ok (.getfield 65, 3) := by decide +kernel
theorem dX7_goOn_51 : decode cX7_goOn 51 = .ok (.iload 9, 2) := by decide +kernel
theorem dX7_goOn_53 : decode cX7_goOn 53 = .ok (.aload_n 0, 1) := by decide +kernel
theorem dX7_goOn_54 : decode cX7_goOn 54 = .ok (.getfield 62, 3) := by decide +kernel
theorem dX7_goOn_57 : decode cX7_goOn 57 = .ok (.iload 9, 2) := by decide +kernel
theorem dX7_goOn_59 : decode cX7_goOn 59 = .ok (.iaload, 1) := by decide +kernel
theorem dX7_goOn_60 : decode cX7_goOn 60 = .ok (.iastore, 1) := by decide +kernel
theorem dX7_goOn_61 : decode cX7_goOn 61 = .ok (.iinc 9 1, 3) := by decide +kernel
theorem dX7_goOn_64 : decode cX7_goOn 64 = .ok (.goto (-23), 3) := by decide +kernel
theorem dX7_goOn_67 : decode cX7_goOn 67 = .ok (.return_, 1) := by decide +kernel
theorem dX7_goOn_68 : decode cX7_goOn 68 = .ok (.iconst 0, 1) := by decide +kernel
theorem dX7_goOn_69 : decode cX7_goOn 69 = .ok (.istore 8, 2) := by decide +kernel
theorem dX7_goOn_71 : decode cX7_goOn 71 = .ok (.iload 8, 2) := by decide +kernel
theorem dX7_goOn_73 : decode cX7_goOn 73 = .ok (.aload_n 0, 1) := by decide +kernel
theorem dX7_goOn_74 : decode cX7_goOn 74 = .ok (.getfield 72, 3) := by decide +kernel
theorem dX7_goOn_77 : decode cX7_goOn 77 = .ok (.if_icmp .ge 143, 3) := by decide +kernel
theorem dX7_goOn_80 : decode cX7_goOn 80 = .ok (.iload 7, 2) := by decide +kernel
theorem dX7_goOn_82 : decode cX7_goOn 82 = .ok (.iload 8, 2) := by decide +kernel
theorem dX7_goOn_84 : decode cX7_goOn 84 = .ok (.ishr, 1) := by decide +kernel
theorem dX7_goOn_85 : decode cX7_goOn 85 = .ok (.iconst 1, 1) := by decide +kernel
theorem dX7_goOn_86 : decode cX7_goOn 86 = .ok (.iand, 1) := by decide +kernel
theorem dX7_goOn_87 : decode cX7_goOn 87 = .ok (.ifCond .eq 127, 3) := by decide +kernel
theorem dX7_goOn_90 : decode cX7_goOn 90 = .ok (.iload_n 2, 1) := by decide +kernel
theorem dX7_goOn_91 : decode cX7_goOn 91 = .ok (.iload 8, 2) := by decide +kernel
theorem dX7_goOn_93 : decode cX7_goOn 93 = .ok (.ishr, 1) := by decide +kernel
theorem dX7_goOn_94 : decode cX7_goOn 94 = .ok (.iconst 1, 1) := by decide +kernel
theorem dX7_goOn_95 : decode cX7_goOn 95 = .ok (.iand, 1) := by decide +kernel
theorem dX7_goOn_96 : decode cX7_goOn 96 = .ok (.iconst 1, 1) := by decide +kernel
theorem dX7_goOn_97 : decode cX7_goOn 97 = .ok (.if_icmp .ne 6, 3) := by decide +kernel
theorem dX7_goOn_100 : decode cX7_goOn 100 = .ok (.goto 114, 3) := by decide +kernel
theorem dX7_goOn_103 : decode cX7_goOn 103 = .ok (.iload 5, 2) := by decide +kernel
theorem dX7_goOn_105 : decode cX7_goOn 105 = .ok (.aload_n 0, 1) := by decide +kernel
theorem dX7_goOn_106 : decode cX7_goOn 106 = .ok (.iload 8, 2) := by decide +kernel
theorem dX7_goOn_108 : decode cX7_goOn 108 = .ok (.invokevirtual 82, 3) := by decide +kernel
theorem dX7_goOn_111 : decode cX7_goOn 111 = .ok (.iadd, 1) := by decide +kernel
theorem dX7_goOn_112 : decode cX7_goOn 112 = .ok (.aload_n 0, 1) := by decide +kernel
theorem dX7_goOn_113 : decode cX7_goOn 113 = .ok (.getfield 9, 3) := by decide +kernel
theorem dX7_goOn_116 : decode cX7_goOn 116 = .ok (.bipush 7, 2) := by decide +kernel
theorem dX7_goOn_118 : decode cX7_goOn 118 = .ok (.iload 8, 2) := by decide +kernel
theorem dX7_goOn_120 : decode cX7_goOn 120 = .ok (.imul, 1) := by decide +kernel
theorem dX7_goOn_121 : decode cX7_goOn 121 = .ok (.bipush 6, 2) := by decide +kernel
theorem dX7_goOn_123 : decode cX7_goOn 123 = .ok (.iadd, 1) := by decide +kernel
theorem dX7_goOn_124 : decode cX7_goOn 124 = .ok (.iaload, 1) := by decide +kernel
theorem dX7_goOn_125 : decode cX7_goOn 125 = .ok (.isub, 1) := by decide +kernel
theorem dX7_goOn_126 : decode cX7_goOn 126 = .ok (.istore 9, 2) := by decide +kernel
theorem dX7_goOn_128 : decode cX7_goOn 128 = .ok (.iload 9, 2) := by decide +kernel
theorem dX7_goOn_130 : decode cX7_goOn 130 = .ok (.iconst 0, 1) := by decide +kernel
theorem dX7_goOn_131 : decode cX7_goOn 131 = .ok (.aload_n 0, 1) := by decide +kernel
theorem dX7_goOn_132 : decode cX7_goOn 132 = .ok (.getfield 26, 3) := by decide +kernel
theorem dX7_goOn_135 : decode cX7_goOn 135 = .ok (.iconst 4, 1) := by decide +kernel
theorem dX7_goOn_136 : decode cX7_goOn 136 = .ok (.iaload, 1) := by decide +kernel
theorem dX7_goOn_137 : decode cX7_goOn 137 = .ok (.invokestatic 75, 3) := by decide +kernel
theorem dX7_goOn_140 : decode cX7_goOn 140 = .ok (.ifCond .ne 6, 3) := by decide +kernel
theorem dX7_goOn_143 : decode cX7_goOn 143 = .ok (.goto 71, 3) := by decide +kernel
theorem dX7_goOn_146 : decode cX7_goOn 146 = .ok (.aload_n 0, 1) := by decide +kernel
theorem dX7_goOn_147 : decode cX7_goOn 147 = .ok (.getfield 62, 3) := by decide +kernel
theorem dX7_goOn_150 : decode cX7_goOn 150 = .ok (.iload_n 1, 1) := by decide +kernel
theorem dX7_goOn_151 : decode cX7_goOn 151 = .ok (.iload 8, 2) := by decide +kernel
theorem dX7_goOn_153 : decode cX7_goOn 153 = .ok (.iastore, 1) := by decide +kernel
theorem dX7_goOn_154 : decode cX7_goOn 154 = .ok (.aload_n 0, 1) := by decide +kernel
theorem dX7_goOn_155 : decode cX7_goOn 155 = .ok (.getfield 9, 3) := by decide +kernel
theorem dX7_goOn_158 : decode cX7_goOn 158 = .ok (.bipush 7, 2) := by decide +kernel
theorem dX7_goOn_160 : decode cX7_goOn 160 = .ok (.iload 8, 2) := by decide +kernel
theorem dX7_goOn_162 : decode cX7_goOn 162 = .ok (.imul, 1) := by decide +kernel
theorem dX7_goOn_163 : decode cX7_goOn 163 = .ok (.iaload, 1) := by decide +kernel
theorem dX7_goOn_164 : decode cX7_goOn 164 = .ok (.istore 10, 2) := by decide +kernel
theorem dX7_goOn_166 : decode cX7_goOn 166 = .ok (.aload_n 0, 1) := by decide +kernel
theorem dX7_goOn_167 : decode cX7_goOn 167 = .ok (.getfield 9, 3) := by decide +kernel
theorem dX7_goOn_170 : decode cX7_goOn 170 = .ok (.bipush 7, 2) := by decide +kernel
theorem dX7_goOn_172 : decode cX7_goOn 172 = .ok (.iload 8, 2) := by decide +kernel
theorem dX7_goOn_174 : decode cX7_goOn 174 = .ok (.imul, 1) := by decide +kernel
theorem dX7_goOn_175 : decode cX7_goOn 175 = .ok (.iconst 1, 1) := by decide +kernel
theorem dX7_goOn_176 : decode cX7_goOn 176 = .ok (.iadd, 1) := by decide +kernel
theorem dX7_goOn_177 : decode cX7_goOn 177 = .ok (.iaload, 1) := by decide +kernel
theorem dX7_goOn_178 : decode cX7_goOn 178 = .ok (.istore 11, 2) := by decide +kernel
theorem dX7_goOn_180 : decode cX7_goOn 180 = .ok (.aload_n 0, 1) := by decide +kernel
theorem dX7_goOn_181 : decode cX7_goOn 181 = .ok (.iload_n 1, 1) := by decide +kernel
theorem dX7_goOn_182 : decode cX7_goOn 182 = .ok (.iconst 1, 1) := by decide +kernel
theorem dX7_goOn_183 : decode cX7_goOn 183 = .ok (.iadd, 1) := by decide +kernel
theorem dX7_goOn_184 : decode cX7_goOn 184 = .ok (.iload_n 2, 1) := by decide +kernel
theorem dX7_goOn_185 : decode cX7_goOn 185 = .ok (.iconst 1, 1) := by decide +kernel
theorem dX7_goOn_186 : decode cX7_goOn 186 = .ok (.iload 8, 2) := by decide +kernel
theorem dX7_goOn_188 : decode cX7_goOn 188 = .ok (.ishl, 1) := by decide +kernel
theorem dX7_goOn_189 : decode cX7_goOn 189 = .ok (.ior, 1) := by decide +kernel
theorem dX7_goOn_190 : decode cX7_goOn 190 = .ok (.iload 10, 2) := by decide +kernel
theorem dX7_goOn_192 : decode cX7_goOn 192 = .ok (.iload 11, 2) := by decide +kernel
theorem dX7_goOn_194 : decode cX7_goOn 194 = .ok (.iload 9, 2) := by decide +kernel
theorem dX7_goOn_196 : decode cX7_goOn 196 = .ok (.iload 6, 2) := by decide +kernel
theorem dX7_goOn_198 : decode cX7_goOn 198 = .ok (.iload_n 3, 1) := by decide +kernel
theorem dX7_goOn_199 : decode cX7_goOn 199 = .ok (.iload 4, 2) := by decide +kernel
theorem dX7_goOn_201 : decode cX7_goOn 201 = .ok (.iload 10, 2) := by decide +kernel
theorem dX7_goOn_203 : decode cX7_goOn 203 = .ok (.iload 11, 2) := by decide +kernel
theorem dX7_goOn_205 : decode cX7_goOn 205 = .ok (.invokestatic 156, 3) := by decide +kernel
theorem dX7_goOn_208 : decode cX7_goOn 208 = .ok (.iadd, 1) := by decide +kernel
theorem dX7_goOn_209 : decode cX7_goOn 209 = .ok (.iload 7, 2) := by decide +kernel
theorem dX7_goOn_211 : decode cX7_goOn 211 = .ok (.invokevirtual 160, 3) := by decide +kernel
theorem dX7_goOn_214 : decode cX7_goOn 214 = .ok (.iinc 8 1, 3) := by decide +kernel
theorem dX7_goOn_217 : decode cX7_goOn 217 = .ok (.goto (-146), 3) := by decide +kernel
theorem dX7_goOn_220 : decode cX7_goOn 220 = .ok (.return_, 1) := by decide +kernel
theorem dX7_round_0 : decode cX7_round 0 = .ok (.aload_n 0, 1) := by decide +kernel
theorem dX7_round_1 : decode cX7_round 1 = .ok (.iconst 0, 1) := by decide +kernel
theorem dX7_round_2 : decode cX7_round 2 = .ok (.putfield 68, 3) := by decide +kernel
theorem dX7_round_5 : decode cX7_round 5 = .ok (.iconst 0, 1) := by decide +kernel
theorem dX7_round_6 : decode cX7_round 6 = .ok (.istore_n 1, 1) := by decide +kernel
theorem dX7_round_7 : decode cX7_round 7 = .ok (.iconst 0, 1) := by decide +kernel
theorem dX7_round_8 : decode cX7_round 8 = .ok (.istore_n 2, 1) := by decide +kernel
theorem dX7_round_9 : decode cX7_round 9 = .ok (.iload_n 2, 1) := by decide +kernel
theorem dX7_round_10 : decode cX7_round 10 = .ok (.aload_n 0, 1) := by decide +kernel
theorem dX7_round_11 : decode cX7_round 11 = .ok (.getfield 72, 3) := by decide +kernel
theorem dX7_round_14 : decode cX7_round 14 = .ok (.if_icmp .ge 35, 3) := by decide +kernel
theorem dX7_round_17 : decode cX7_round 17 = .ok (.aload_n 0, 1) := by decide +kernel
theorem dX7_round_18 : decode cX7_round 18 = .ok (.iload_n 2, 1) := by decide +kernel
theorem dX7_round_19 : decode cX7_round 19 = .ok (.invokevirtual 82, 3) := by decide +kernel
theorem dX7_round_22 : decode cX7_round 22 = .ok (.aload_n 0, 1) := by decide +kernel
theorem dX7_round_23 : decode cX7_round 23 = .ok (.getfield 9, 3) := by decide +kernel
theorem dX7_round_26 : decode cX7_round 26 = .ok (.bipush 7, 2) := by decide +kernel
theorem dX7_round_28 : decode cX7_round 28 = .ok (.iload_n 2, 1) := by decide +kernel
theorem dX7_round_29 : decode cX7_round 29 = .ok (.imul, 1) := by decide +kernel
theorem dX7_round_30 : decode cX7_round 30 = .ok (.bipush 6, 2) := by decide +kernel
theorem dX7_round_32 : decode cX7_round 32 = .ok (.iadd, 1) := by decide +kernel
theorem dX7_round_33 : decode cX7_round 33 = .ok (.iaload, 1) := by decide +kernel
theorem dX7_round_34 : decode cX7_round 34 = .ok (.if_icmp .eq 9, 3) := by decide +kernel
theorem dX7_round_37 : decode cX7_round 37 = .ok (.iload_n 1, 1) := by decide +kernel
theorem dX7_round_38 : decode cX7_round 38 = .ok (.iconst 1, 1) := by decide +kernel
theorem dX7_round_39 : decode cX7_round 39 = .ok (.iload_n 2, 1) := by decide +kernel
theorem dX7_round_40 : decode cX7_round 40 = .ok (.ishl, 1) := by decide +kernel
theorem dX7_round_41 : decode cX7_round 41 = .ok (.ior, 1) := by decide +kernel
theorem dX7_round_42 : decode cX7_round 42 = .ok (.istore_n 1, 1) := by decide +kernel
theorem dX7_round_43 : decode cX7_round 43 = .ok (.iinc 2 1, 3) := by decide +kernel
theorem dX7_round_46 : decode cX7_round 46 = .ok (.goto (-37), 3) := by decide +kernel
theorem dX7_round_49 : decode cX7_round 49 = .ok (.aload_n 0, 1) := by decide +kernel
theorem dX7_round_50 : decode cX7_round 50 = .ok (.iconst (-1), 1) := by decide +kernel
theorem dX7_round_51 : decode cX7_round 51 = .ok (.putfield 153, 3) := by decide +kernel
theorem dX7_round_54 : decode cX7_round 54 = .ok (.aload_n 0, 1) := by decide +kernel
theorem dX7_round_55 : decode cX7_round 55 = .ok (.iconst 0, 1) := by decide +kernel
theorem dX7_round_56 : decode cX7_round 56 = .ok (.iconst 0, 1) := by decide +kernel
theorem dX7_round_57 : decode cX7_round 57 = .ok (.iconst 0, 1) := by decide +kernel
theorem dX7_round_58 : decode cX7_round 58 = .ok (.iconst 0, 1) := by decide +kernel
theorem dX7_round_59 : decode cX7_round 59 = .ok (.iconst 0, 1) := by decide +kernel
theorem dX7_round_60 : decode cX7_round 60 = .ok (.iconst 0, 1) := by decide +kernel
theorem dX7_round_61 : decode cX7_round 61 = .ok (.iload_n 1, 1) := by decide +kernel
theorem dX7_round_62 : decode cX7_round 62 = .ok (.invokevirtual 160, 3) := by decide +kernel
theorem dX7_round_65 : decode cX7_round 65 = .ok (.aload_n 0, 1) := by decide +kernel
theorem dX7_round_66 : decode cX7_round 66 = .ok (.getfield 153, 3) := by decide +kernel
theorem dX7_round_69 : decode cX7_round 69 = .ok (.ifCond .ge 6, 3) := by decide +kernel
theorem dX7_round_72 : decode cX7_round 72 = .ok (.bipush (-2), 2) := by decide +kernel
theorem dX7_round_74 : decode cX7_round 74 = .ok (.ireturn, 1) := by decide +kernel
theorem dX7_round_75 : decode cX7_round 75 = .ok (.aload_n 0, 1) := by decide +kernel
theorem dX7_round_76 : decode cX7_round 76 = .ok (.iload_n 1, 1) := by decide +kernel
theorem dX7_round_77 : decode cX7_round 77 = .ok (.invokestatic 164, 3) := by decide +kernel
theorem dX7_round_80 : decode cX7_round 80 = .ok (.putfield 169, 3) := by decide +kernel
theorem dX7_round_83 : decode cX7_round 83 = .ok (.iconst 0, 1) := by decide +kernel
theorem dX7_round_84 : decode cX7_round 84 = .ok (.istore_n 2, 1) := by decide +kernel
theorem dX7_round_85 : decode cX7_round 85 = .ok (.iload_n 2, 1) := by decide +kernel
theorem dX7_round_86 : decode cX7_round 86 = .ok (.aload_n 0, 1) := by decide +kernel
theorem dX7_round_87 : decode cX7_round 87 = .ok (.getfield 169, 3) := by decide +kernel
theorem dX7_round_90 : decode cX7_round 90 = .ok (.if_icmp .ge 21, 3) := by decide +kernel
theorem dX7_round_93 : decode cX7_round 93 = .ok (.aload_n 0, 1) := by decide +kernel
theorem dX7_round_94 : decode cX7_round 94 = .ok (.getfield 38, 3) := by decide +kernel
theorem dX7_round_97 : decode cX7_round 97 = .ok (.iload_n 2, 1) := by decide +kernel
theorem dX7_round_98 : decode cX7_round 98 = .ok (.aload_n 0, 1) := by decide +kernel
theorem dX7_round_99 : decode cX7_round 99 = .ok (.getfield 65, 3) := by decide +kernel
theorem dX7_round_102 : decode cX7_round 102 = .ok (.iload_n 2, 1) := by decide +kernel
theorem dX7_round_103 : decode cX7_round 103 = .ok (.iaload, 1) := by decide +kernel
theorem dX7_round_104 : decode cX7_round 104 = .ok (.iastore, 1) := by decide +kernel
theorem dX7_round_105 : decode cX7_round 105 = .ok (.iinc 2 1, 3) := by decide +kernel
theorem dX7_round_108 : decode cX7_round 108 = .ok (.goto (-23), 3) := by decide +kernel
theorem dX7_round_111 : decode cX7_round 111 = .ok (.aload_n 0, 1) := by decide +kernel
theorem dX7_round_112 : decode cX7_round 112 = .ok (.getfield 153, 3) := by decide +kernel
theorem dX7_round_115 : decode cX7_round 115 = .ok (.ireturn, 1) := by decide +kernel
theorem dX7_stop_0 : decode cX7_stop 0 = .ok (.aload_n 0, 1) := by decide +kernel
theorem dX7_stop_1 : decode cX7_stop 1 = .ok (.iconst 0, 1) := by decide +kernel
theorem dX7_stop_2 : decode cX7_stop 2 = .ok (.putfield 68, 3) := by decide +kernel
theorem dX7_stop_5 : decode cX7_stop 5 = .ok (.iload_n 1, 1) := by decide +kernel
theorem dX7_stop_6 : decode cX7_stop 6 = .ok (.iconst 0, 1) := by decide +kernel
theorem dX7_stop_7 : decode cX7_stop 7 = .ok (.aload_n 0, 1) := by decide +kernel
theorem dX7_stop_8 : decode cX7_stop 8 = .ok (.getfield 169, 3) := by decide +kernel
theorem dX7_stop_11 : decode cX7_stop 11 = .ok (.iconst 1, 1) := by decide +kernel
theorem dX7_stop_12 : decode cX7_stop 12 = .ok (.isub, 1) := by decide +kernel
theorem dX7_stop_13 : decode cX7_stop 13 = .ok (.invokestatic 75, 3) := by decide +kernel
theorem dX7_stop_16 : decode cX7_stop 16 = .ok (.ifCond .eq 12, 3) := by decide +kernel
theorem dX7_stop_19 : decode cX7_stop 19 = .ok (.aload_n 0, 1) := by decide +kernel
theorem dX7_stop_20 : decode cX7_stop 20 = .ok (.getfield 38, 3) := by decide +kernel
theorem dX7_stop_23 : decode cX7_stop 23 = .ok (.iload_n 1, 1) := by decide +kernel
theorem dX7_stop_24 : decode cX7_stop 24 = .ok (.iaload, 1) := by decide +kernel
theorem dX7_stop_25 : decode cX7_stop 25 = .ok (.goto 4, 3) := by decide +kernel
theorem dX7_stop_28 : decode cX7_stop 28 = .ok (.iconst (-1), 1) := by decide +kernel
theorem dX7_stop_29 : decode cX7_stop 29 = .ok (.ireturn, 1) := by decide +kernel
theorem dX7_point_0 : decode cX7_point 0 = .ok (.aload_n 0, 1) := by decide +kernel
theorem dX7_point_1 : decode cX7_point 1 = .ok (.iconst 0, 1) := by decide +kernel
theorem dX7_point_2 : decode cX7_point 2 = .ok (.putfield 68, 3) := by decide +kernel
theorem dX7_point_5 : decode cX7_point 5 = .ok (.iload_n 1, 1) := by decide +kernel
theorem dX7_point_6 : decode cX7_point 6 = .ok (.iconst 0, 1) := by decide +kernel
theorem dX7_point_7 : decode cX7_point 7 = .ok (.iconst 1, 1) := by decide +kernel
theorem dX7_point_8 : decode cX7_point 8 = .ok (.invokestatic 75, 3) := by decide +kernel
theorem dX7_point_11 : decode cX7_point 11 = .ok (.ifCond .eq 48, 3) := by decide +kernel
theorem dX7_point_14 : decode cX7_point 14 = .ok (.iload_n 2, 1) := by decide +kernel
theorem dX7_point_15 : decode cX7_point 15 = .ok (.iconst 0, 1) := by decide +kernel
theorem dX7_point_16 : decode cX7_point 16 = .ok (.bipush 99, 2) := by decide +kernel
theorem dX7_point_18 : decode cX7_point 18 = .ok (.invokestatic 75, 3) := by decide +kernel
theorem dX7_point_21 : decode cX7_point 21 = .ok (.ifCond .eq 38, 3) := by decide +kernel
theorem dX7_point_24 : decode cX7_point 24 = .ok (.iload_n 3, 1) := by decide +kernel
theorem dX7_point_25 : decode cX7_point 25 = .ok (.iconst 0, 1) := by decide +kernel
theorem dX7_point_26 : decode cX7_point 26 = .ok (.bipush 99, 2) := by decide +kernel
theorem dX7_point_28 : decode cX7_point 28 = .ok (.invokestatic 75, 3) := by decide +kernel
theorem dX7_point_31 : decode cX7_point 31 = .ok (.ifCond .eq 28, 3) := by decide +kernel
theorem dX7_point_34 : decode cX7_point 34 = .ok (.iload_n 1, 1) := by decide +kernel
theorem dX7_point_35 : decode cX7_point 35 = .ok (.ifCond .ne 15, 3) := by decide +kernel
theorem dX7_point_38 : decode cX7_point 38 = .ok (.aload_n 0, 1) := by decide +kernel
theorem dX7_point_39 : decode cX7_point 39 = .ok (.getfield 140, 3) := by decide +kernel
theorem dX7_point_42 : decode cX7_point 42 = .ok (.bipush 12, 2) := by decide +kernel
theorem dX7_point_44 : decode cX7_point 44 = .ok (.if_icmp .ne 17, 3) := by decide +kernel
theorem dX7_point_47 : decode cX7_point 47 = .ok (.goto 12, 3) := by decide +kernel
theorem dX7_point_50 : decode cX7_point 50 = .ok (.aload_n 0, 1) := by decide +kernel
theorem dX7_point_51 : decode cX7_point 51 = .ok (.getfield 143, 3) := by decide +kernel
theorem dX7_point_54 : decode cX7_point 54 = .ok (.bipush 8, 2) := by decide +kernel
theorem dX7_point_56 : decode cX7_point 56 = .ok (.if_icmp .ne 5, 3) := by decide +kernel
theorem dX7_point_59 : decode cX7_point 59 = .ok (.iconst (-1), 1) := by decide +kernel
theorem dX7_point_60 : decode cX7_point 60 = .ok (.ireturn, 1) := by decide +kernel
theorem dX7_point_61 : decode cX7_point 61 = .ok (.iload_n 1, 1) := by decide +kernel
theorem dX7_point_62 : decode cX7_point 62 = .ok (.ifCond .ne 40, 3) := by decide +kernel
theorem dX7_point_65 : decode cX7_point 65 = .ok (.aload_n 0, 1) := by decide +kernel
theorem dX7_point_66 : decode cX7_point 66 = .ok (.getfield 41, 3) := by decide +kernel
theorem dX7_point_69 : decode cX7_point 69 = .ok (.aload_n 0, 1) := by decide +kernel
theorem dX7_point_70 : decode cX7_point 70 = .ok (.getfield 140, 3) := by decide +kernel
theorem dX7_point_73 : decode cX7_point 73 = .ok (.iload_n 2, 1) := by decide +kernel
theorem dX7_point_74 : decode cX7_point 74 = .ok (.iastore, 1) := by decide +kernel
theorem dX7_point_75 : decode cX7_point 75 = .ok (.aload_n 0, 1) := by decide +kernel
theorem dX7_point_76 : decode cX7_point 76 = .ok (.getfield 44, 3) := by decide +kernel
theorem dX7_point_79 : decode cX7_point 79 = .ok (.aload_n 0, 1) := by decide +kernel
theorem dX7_point_80 : decode cX7_point 80 = .ok (.getfield 140, 3) := by decide +kernel
theorem dX7_point_83 : decode cX7_point 83 = .ok (.iload_n 3, 1) := by decide +kernel
theorem dX7_point_84 : decode cX7_point 84 = .ok (.iastore, 1) := by decide +kernel
theorem dX7_point_85 : decode cX7_point 85 = .ok (.aload_n 0, 1) := by decide +kernel
theorem dX7_point_86 : decode cX7_point 86 = .ok (.dup, 1) := by decide +kernel
theorem dX7_point_87 : decode cX7_point 87 = .ok (.getfield 140, 3) := by decide +kernel
theorem dX7_point_90 : decode cX7_point 90 = .ok (.iconst 1, 1) := by decide +kernel
theorem dX7_point_91 : decode cX7_point 91 = .ok (.iadd, 1) := by decide +kernel
theorem dX7_point_92 : decode cX7_point 92 = .ok (.putfield 140, 3) := by decide +kernel
theorem dX7_point_95 : decode cX7_point 95 = .ok (.aload_n 0, 1) := by decide +kernel
theorem dX7_point_96 : decode cX7_point 96 = .ok (.getfield 140, 3) := by decide +kernel
theorem dX7_point_99 : decode cX7_point 99 = .ok (.iconst 1, 1) := by decide +kernel
theorem dX7_point_100 : decode cX7_point 100 = .ok (.isub, 1) := by decide +kernel
theorem dX7_point_101 : decode cX7_point 101 = .ok (.ireturn, 1) := by decide +kernel
theorem dX7_point_102 : decode cX7_point 102 = .ok (.aload_n 0, 1) := by decide +kernel
theorem dX7_point_103 : decode cX7_point 103 = .ok (.getfield 47, 3) := by decide +kernel
theorem dX7_point_106 : decode cX7_point 106 = .ok (.aload_n 0, 1) := by decide +kernel
theorem dX7_point_107 : decode cX7_point 107 = .ok (.getfield 143, 3) := by decide +kernel
theorem dX7_point_110 : decode cX7_point 110 = .ok (.iload_n 2, 1) := by decide +kernel
theorem dX7_point_111 : decode cX7_point 111 = .ok (.iastore, 1) := by decide +kernel
theorem dX7_point_112 : decode cX7_point 112 = .ok (.aload_n 0, 1) := by decide +kernel
theorem dX7_point_113 : decode cX7_point 113 = .ok (.getfield 50, 3) := by decide +kernel
theorem dX7_point_116 : decode cX7_point 116 = .ok (.aload_n 0, 1) := by decide +kernel
theorem dX7_point_117 : decode cX7_point 117 = .ok (.getfield 143, 3) := by decide +kernel
theorem dX7_point_120 : decode cX7_point 120 = .ok (.iload_n 3, 1) := by decide +kernel
theorem dX7_point_121 : decode cX7_point 121 = .ok (.iastore, 1) := by decide +kernel
theorem dX7_point_122 : decode cX7_point 122 = .ok (.aload_n 0, 1) := by decide +kernel
theorem dX7_point_123 : decode cX7_point 123 = .ok (.dup, 1) := by decide +kernel
theorem dX7_point_124 : decode cX7_point 124 = .ok (.getfield 143, 3) := by decide +kernel
theorem dX7_point_127 : decode cX7_point 127 = .ok (.iconst 1, 1) := by decide +kernel
theorem dX7_point_128 : decode cX7_point 128 = .ok (.iadd, 1) := by decide +kernel
theorem dX7_point_129 : decode cX7_point 129 = .ok (.putfield 143, 3) := by decide +kernel
theorem dX7_point_132 : decode cX7_point 132 = .ok (.aload_n 0, 1) := by decide +kernel
theorem dX7_point_133 : decode cX7_point 133 = .ok (.getfield 143, 3) := by decide +kernel
theorem dX7_point_136 : decode cX7_point 136 = .ok (.iconst 1, 1) := by decide +kernel
theorem dX7_point_137 : decode cX7_point 137 = .ok (.isub, 1) := by decide +kernel
theorem dX7_point_138 : decode cX7_point 138 = .ok (.ireturn, 1) := by decide +kernel
theorem dX7_sumOf_0 : decode cX7_sumOf 0 = .ok (.iconst 0, 1) := by decide +kernel
theorem dX7_sumOf_1 : decode cX7_sumOf 1 = .ok (.istore_n 2, 1) := by decide +kernel
theorem dX7_sumOf_2 : decode cX7_sumOf 2 = .ok (.iconst 0, 1) := by decide +kernel
theorem dX7_sumOf_3 : decode cX7_sumOf 3 = .ok (.istore_n 3, 1) := by decide +kernel
theorem dX7_sumOf_4 : decode cX7_sumOf 4 = .ok (.iload_n 3, 1) := by decide +kernel
theorem dX7_sumOf_5 : decode cX7_sumOf 5 = .ok (.aload_n 0, 1) := by decide +kernel
theorem dX7_sumOf_6 : decode cX7_sumOf 6 = .ok (.getfield 140, 3) := by decide +kernel
theorem dX7_sumOf_9 : decode cX7_sumOf 9 = .ok (.if_icmp .ge 144, 3) := by decide +kernel
theorem dX7_sumOf_12 : decode cX7_sumOf 12 = .ok (.ldc 146, 2) := by decide +kernel
theorem dX7_sumOf_14 : decode cX7_sumOf 14 = .ok (.istore 4, 2) := by decide +kernel
theorem dX7_sumOf_16 : decode cX7_sumOf 16 = .ok (.iconst 0, 1) := by decide +kernel
theorem dX7_sumOf_17 : decode cX7_sumOf 17 = .ok (.istore 5, 2) := by decide +kernel
theorem dX7_sumOf_19 : decode cX7_sumOf 19 = .ok (.iload 5, 2) := by decide +kernel
theorem dX7_sumOf_21 : decode cX7_sumOf 21 = .ok (.aload_n 0, 1) := by decide +kernel
theorem dX7_sumOf_22 : decode cX7_sumOf 22 = .ok (.getfield 72, 3) := by decide +kernel
theorem dX7_sumOf_25 : decode cX7_sumOf 25 = .ok (.if_icmp .ge 53, 3) := by decide +kernel
theorem dX7_sumOf_28 : decode cX7_sumOf 28 = .ok (.iload 4, 2) := by decide +kernel
theorem dX7_sumOf_30 : decode cX7_sumOf 30 = .ok (.aload_n 0, 1) := by decide +kernel
theorem dX7_sumOf_31 : decode cX7_sumOf 31 = .ok (.getfield 41, 3) := by decide +kernel
theorem dX7_sumOf_34 : decode cX7_sumOf 34 = .ok (.iload_n 3, 1) := by decide +kernel
theorem dX7_sumOf_35 : decode cX7_sumOf 35 = .ok (.iaload, 1) := by decide +kernel
theorem dX7_sumOf_36 : decode cX7_sumOf 36 = .ok (.aload_n 0, 1) := by decide +kernel
theorem dX7_sumOf_37 : decode cX7_sumOf 37 = .ok (.getfield 44, 3) := by decide +kernel
theorem dX7_sumOf_40 : decode cX7_sumOf 40 = .ok (.iload_n 3, 1) := by decide +kernel
theorem dX7_sumOf_41 : decode cX7_sumOf 41 = .ok (.iaload, 1) := by decide +kernel
theorem dX7_sumOf_42 : decode cX7_sumOf 42 = .ok (.aload_n 0, 1) := by decide +kernel
theorem dX7_sumOf_43 : decode cX7_sumOf 43 = .ok (.getfield 9, 3) := by decide +kernel
theorem dX7_sumOf_46 : decode cX7_sumOf 46 = .ok (.bipush 7, 2) := by decide +kernel
theorem dX7_sumOf_48 : decode cX7_sumOf 48 = .ok (.iload 5, 2) := by decide +kernel
theorem dX7_sumOf_50 : decode cX7_sumOf 50 = .ok (.imul, 1) := by decide +kernel
theorem dX7_sumOf_51 : decode cX7_sumOf 51 = .ok (.iaload, 1) := by decide +kernel
theorem dX7_sumOf_52 : decode cX7_sumOf 52 = .ok (.aload_n 0, 1) := by decide +kernel
theorem dX7_sumOf_53 : decode cX7_sumOf 53 = .ok (.getfield 9, 3) := by decide +kernel
theorem dX7_sumOf_56 : decode cX7_sumOf 56 = .ok (.bipush 7, 2) := by decide +kernel
theorem dX7_sumOf_58 : decode cX7_sumOf 58 = .ok (.iload 5, 2) := by decide +kernel
theorem dX7_sumOf_60 : decode cX7_sumOf 60 = .ok (.imul, 1) := by decide +kernel
theorem dX7_sumOf_61 : decode cX7_sumOf 61 = .ok (.iconst 1, 1) := by decide +kernel
theorem dX7_sumOf_62 : decode cX7_sumOf 62 = .ok (.iadd, 1) := by decide +kernel
theorem dX7_sumOf_63 : decode cX7_sumOf 63 = .ok (.iaload, 1) := by decide +kernel
theorem dX7_sumOf_64 : decode cX7_sumOf 64 = .ok (.invokestatic 156, 3) := by decide +kernel
theorem dX7_sumOf_67 : decode cX7_sumOf 67 = .ok (.invokestatic 128, 3) := by decide +kernel
theorem dX7_sumOf_70 : decode cX7_sumOf 70 = .ok (.istore 4, 2) := by decide +kernel
theorem dX7_sumOf_72 : decode cX7_sumOf 72 = .ok (.iinc 5 1, 3) := by decide +kernel
theorem dX7_sumOf_75 : decode cX7_sumOf 75 = .ok (.goto (-56), 3) := by decide +kernel
theorem dX7_sumOf_78 : decode cX7_sumOf 78 = .ok (.iconst 0, 1) := by decide +kernel
theorem dX7_sumOf_79 : decode cX7_sumOf 79 = .ok (.istore 5, 2) := by decide +kernel
theorem dX7_sumOf_81 : decode cX7_sumOf 81 = .ok (.iload 5, 2) := by decide +kernel
theorem dX7_sumOf_83 : decode cX7_sumOf 83 = .ok (.aload_n 0, 1) := by decide +kernel
theorem dX7_sumOf_84 : decode cX7_sumOf 84 = .ok (.getfield 143, 3) := by decide +kernel
theorem dX7_sumOf_87 : decode cX7_sumOf 87 = .ok (.if_icmp .ge 55, 3) := by decide +kernel
theorem dX7_sumOf_90 : decode cX7_sumOf 90 = .ok (.iload_n 1, 1) := by decide +kernel
theorem dX7_sumOf_91 : decode cX7_sumOf 91 = .ok (.iload 5, 2) := by decide +kernel
theorem dX7_sumOf_93 : decode cX7_sumOf 93 = .ok (.ishr, 1) := by decide +kernel
theorem dX7_sumOf_94 : decode cX7_sumOf 94 = .ok (.iconst 1, 1) := by decide +kernel
theorem dX7_sumOf_95 : decode cX7_sumOf 95 = .ok (.iand, 1) := by decide +kernel
theorem dX7_sumOf_96 : decode cX7_sumOf 96 = .ok (.iconst 1, 1) := by decide +kernel
theorem dX7_sumOf_97 : decode cX7_sumOf 97 = .ok (.if_icmp .ne 39, 3) := by decide +kernel
theorem dX7_sumOf_100 : decode cX7_sumOf 100 = .ok (.iload 4, 2) := by decide +kernel
theorem dX7_sumOf_102 : decode cX7_sumOf 102 = .ok (.aload_n 0, 1) := by decide +kernel
theorem dX7_sumOf_103 : decode cX7_sumOf 103 = .ok (.getfield 41, 3) := by decide +kernel
theorem dX7_sumOf_106 : decode cX7_sumOf 106 = .ok (.iload_n 3, 1) := by decide +kernel
theorem dX7_sumOf_107 : decode cX7_sumOf 107 = .ok (.iaload, 1) := by decide +kernel
theorem dX7_sumOf_108 : decode cX7_sumOf 108 = .ok (.aload_n 0, 1) := by decide +kernel
theorem dX7_sumOf_109 : decode cX7_sumOf 109 = .ok (.getfield 44, 3) := by decide +kernel
theorem dX7_sumOf_112 : decode cX7_sumOf 112 = .ok (.iload_n 3, 1) := by decide +kernel
theorem dX7_sumOf_113 : decode cX7_sumOf 113 = .ok (.iaload, 1) := by decide +kernel
theorem dX7_sumOf_114 : decode cX7_sumOf 114 = .ok (.aload_n 0, 1) := by decide +kernel
theorem dX7_sumOf_115 : decode cX7_sumOf 115 = .ok (.getfield 47, 3) := by decide +kernel
theorem dX7_sumOf_118 : decode cX7_sumOf 118 = .ok (.iload 5, 2) := by decide +kernel
theorem dX7_sumOf_120 : decode cX7_sumOf 120 = .ok (.iaload, 1) := by decide +kernel
theorem dX7_sumOf_121 : decode cX7_sumOf 121 = .ok (.aload_n 0, 1) := by decide +kernel
theorem dX7_sumOf_122 : decode cX7_sumOf 122 = .ok (.getfield 50, 3) := by decide +kernel
theorem dX7_sumOf_125 : decode cX7_sumOf 125 = .ok (.iload 5, 2) := by decide +kernel
theorem dX7_sumOf_127 : decode cX7_sumOf 127 = .ok (.iaload, 1) := by decide +kernel
theorem dX7_sumOf_128 : decode cX7_sumOf 128 = .ok (.invokestatic 156, 3) := by decide +kernel
theorem dX7_sumOf_131 : decode cX7_sumOf 131 = .ok (.invokestatic 128, 3) := by decide +kernel
theorem dX7_sumOf_134 : decode cX7_sumOf 134 = .ok (.istore 4, 2) := by decide +kernel
theorem dX7_sumOf_136 : decode cX7_sumOf 136 = .ok (.iinc 5 1, 3) := by decide +kernel
theorem dX7_sumOf_139 : decode cX7_sumOf 139 = .ok (.goto (-58), 3) := by decide +kernel
theorem dX7_sumOf_142 : decode cX7_sumOf 142 = .ok (.iload_n 2, 1) := by decide +kernel
theorem dX7_sumOf_143 : decode cX7_sumOf 143 = .ok (.iload 4, 2) := by decide +kernel
theorem dX7_sumOf_145 : decode cX7_sumOf 145 = .ok (.iadd, 1) := by decide +kernel
theorem dX7_sumOf_146 : decode cX7_sumOf 146 = .ok (.istore_n 2, 1) := by decide +kernel
theorem dX7_sumOf_147 : decode cX7_sumOf 147 = .ok (.iinc 3 1, 3) := by decide +kernel
theorem dX7_sumOf_150 : decode cX7_sumOf 150 = .ok (.goto (-146), 3) := by decide +kernel
theorem dX7_sumOf_153 : decode cX7_sumOf 153 = .ok (.iload_n 2, 1) := by decide +kernel
theorem dX7_sumOf_154 : decode cX7_sumOf 154 = .ok (.ireturn, 1) := by decide +kernel
theorem dX7_isFirst_0 : decode cX7_isFirst 0 = .ok (.iload_n 0, 1) := by decide +kernel
theorem dX7_isFirst_1 : decode cX7_isFirst 1 = .ok (.iload_n 0, 1) := by decide +kernel
theorem dX7_isFirst_2 : decode cX7_isFirst 2 = .ok (.iload_n 1, 1) := by decide +kernel
theorem dX7_isFirst_3 : decode cX7_isFirst 3 = .ok (.ixor, 1) := by decide +kernel
theorem dX7_isFirst_4 : decode cX7_isFirst 4 = .ok (.invokestatic 172, 3) := by decide +kernel
theorem dX7_isFirst_7 : decode cX7_isFirst 7 = .ok (.ishr, 1) := by decide +kernel
theorem dX7_isFirst_8 : decode cX7_isFirst 8 = .ok (.iconst 1, 1) := by decide +kernel
theorem dX7_isFirst_9 : decode cX7_isFirst 9 = .ok (.iand, 1) := by decide +kernel
theorem dX7_isFirst_10 : decode cX7_isFirst 10 = .ok (.iconst 1, 1) := by decide +kernel
theorem dX7_isFirst_11 : decode cX7_isFirst 11 = .ok (.if_icmp .ne 7, 3) := by decide +kernel
theorem dX7_isFirst_14 : decode cX7_isFirst 14 = .ok (.iconst 1, 1) := by decide +kernel
theorem dX7_isFirst_15 : decode cX7_isFirst 15 = .ok (.goto 4, 3) := by decide +kernel
theorem dX7_isFirst_18 : decode cX7_isFirst 18 = .ok (.iconst 0, 1) := by decide +kernel
theorem dX7_isFirst_19 : decode cX7_isFirst 19 = .ok (.ireturn, 1) := by decide +kernel
theorem dX7_places_0 : decode cX7_places 0 = .ok (.aload_n 0, 1) := by decide +kernel
theorem dX7_places_1 : decode cX7_places 1 = .ok (.iconst 0, 1) := by decide +kernel
theorem dX7_places_2 : decode cX7_places 2 = .ok (.putfield 68, 3) := by decide +kernel
theorem dX7_places_5 : decode cX7_places 5 = .ok (.iload_n 1, 1) := by decide +kernel
theorem dX7_places_6 : decode cX7_places 6 = .ok (.iconst 0, 1) := by decide +kernel
theorem dX7_places_7 : decode cX7_places 7 = .ok (.aload_n 0, 1) := by decide +kernel
theorem dX7_places_8 : decode cX7_places 8 = .ok (.getfield 143, 3) := by decide +kernel
theorem dX7_places_11 : decode cX7_places 11 = .ok (.invokestatic 75, 3) := by decide +kernel
theorem dX7_places_14 : decode cX7_places 14 = .ok (.ifCond .eq 14, 3) := by decide +kernel
theorem dX7_places_17 : decode cX7_places 17 = .ok (.iload_n 1, 1) := by decide +kernel
theorem dX7_places_18 : decode cX7_places 18 = .ok (.ifCond .ne 12, 3) := by decide +kernel
theorem dX7_places_21 : decode cX7_places 21 = .ok (.aload_n 0, 1) := by decide +kernel
theorem dX7_places_22 : decode cX7_places 22 = .ok (.getfield 72, 3) := by decide +kernel
theorem dX7_places_25 : decode cX7_places 25 = .ok (.ifCond .ne 5, 3) := by decide +kernel
theorem dX7_places_28 : decode cX7_places 28 = .ok (.iconst (-1), 1) := by decide +kernel
theorem dX7_places_29 : decode cX7_places 29 = .ok (.ireturn, 1) := by decide +kernel
theorem dX7_places_30 : decode cX7_places 30 = .ok (.iconst (-1), 1) := by decide +kernel
theorem dX7_places_31 : decode cX7_places 31 = .ok (.istore_n 2, 1) := by decide +kernel
theorem dX7_places_32 : decode cX7_places 32 = .ok (.iconst 0, 1) := by decide +kernel
theorem dX7_places_33 : decode cX7_places 33 = .ok (.istore_n 3, 1) := by decide +kernel
theorem dX7_places_34 : decode cX7_places 34 = .ok (.iconst 0, 1) := by decide +kernel
theorem dX7_places_35 : decode cX7_places 35 = .ok (.istore 4, 2) := by decide +kernel
theorem dX7_places_37 : decode cX7_places 37 = .ok (.iload 4, 2) := by decide +kernel
theorem dX7_places_39 : decode cX7_places 39 = .ok (.iconst 1, 1) := by decide +kernel
theorem dX7_places_40 : decode cX7_places 40 = .ok (.aload_n 0, 1) := by decide +kernel
theorem dX7_places_41 : decode cX7_places 41 = .ok (.getfield 143, 3) := by decide +kernel
theorem dX7_places_44 : decode cX7_places 44 = .ok (.ishl, 1) := by decide +kernel
theorem dX7_places_45 : decode cX7_places 45 = .ok (.if_icmp .ge 64, 3) := by decide +kernel
theorem dX7_places_48 : decode cX7_places 48 = .ok (.iload 4, 2) := by decide +kernel
theorem dX7_places_50 : decode cX7_places 50 = .ok (.invokestatic 164, 3) := by decide +kernel
theorem dX7_places_53 : decode cX7_places 53 = .ok (.iload_n 1, 1) := by decide +kernel
theorem dX7_places_54 : decode cX7_places 54 = .ok (.if_icmp .eq 6, 3) := by decide +kernel
theorem dX7_places_57 : decode cX7_places 57 = .ok (.goto 46, 3) := by decide +kernel
theorem dX7_places_60 : decode cX7_places 60 = .ok (.aload_n 0, 1) := by decide +kernel
theorem dX7_places_61 : decode cX7_places 61 = .ok (.iload 4, 2) := by decide +kernel
theorem dX7_places_63 : decode cX7_places 63 = .ok (.invokevirtual 175, 3) := by decide +kernel
theorem dX7_places_66 : decode cX7_places 66 = .ok (.istore 5, 2) := by decide +kernel
theorem dX7_places_68 : decode cX7_places 68 = .ok (.iload_n 2, 1) := by decide +kernel
theorem dX7_places_69 : decode cX7_places 69 = .ok (.iconst (-1), 1) := by decide +kernel
theorem dX7_places_70 : decode cX7_places 70 = .ok (.if_icmp .eq 27, 3) := by decide +kernel
theorem dX7_places_73 : decode cX7_places 73 = .ok (.iload 5, 2) := by decide +kernel
theorem dX7_places_75 : decode cX7_places 75 = .ok (.iload_n 3, 1) := by decide +kernel
theorem dX7_places_76 : decode cX7_places 76 = .ok (.if_icmp .gt 27, 3) := by decide +kernel
theorem dX7_places_79 : decode cX7_places 79 = .ok (.iload 5, 2) := by decide +kernel
theorem dX7_places_81 : decode cX7_places 81 = .ok (.iload_n 3, 1) := by decide +kernel
theorem dX7_places_82 : decode cX7_places 82 = .ok (.if_icmp .ne 15, 3) := by decide +kernel
theorem dX7_places_85 : decode cX7_places 85 = .ok (.iload 4, 2) := by decide +kernel
theorem dX7_places_87 : decode cX7_places 87 = .ok (.iload_n 2, 1) := by decide +kernel
theorem dX7_places_88 : decode cX7_places 88 = .ok (.invokestatic 178, 3) := by decide +kernel
theorem dX7_places_91 : decode cX7_places 91 = .ok (.ifCond .ne 6, 3) := by decide +kernel
theorem dX7_places_94 : decode cX7_places 94 = .ok (.goto 9, 3) := by decide +kernel
theorem dX7_places_97 : decode cX7_places 97 = .ok (.iload 4, 2) := by decide +kernel
theorem dX7_places_99 : decode cX7_places 99 = .ok (.istore_n 2, 1) := by decide +kernel
theorem dX7_places_100 : decode cX7_places 100 = .ok (.iload 5, 2) := by decide +kernel
theorem dX7_places_102 : decode cX7_places 102 = .ok (.istore_n 3, 1) := by decide +kernel
theorem dX7_places_103 : decode cX7_places 103 = .ok (.iinc 4 1, 3) := by decide +kernel
theorem dX7_places_106 : decode cX7_places 106 = .ok (.goto (-69), 3) := by decide +kernel
theorem dX7_places_109 : decode cX7_places 109 = .ok (.aload_n 0, 1) := by decide +kernel
theorem dX7_places_110 : decode cX7_places 110 = .ok (.iload_n 2, 1) := by decide +kernel
theorem dX7_places_111 : decode cX7_places 111 = .ok (.putfield 181, 3) := by decide +kernel
theorem dX7_places_114 : decode cX7_places 114 = .ok (.iload_n 3, 1) := by decide +kernel
theorem dX7_places_115 : decode cX7_places 115 = .ok (.ireturn, 1) := by decide +kernel
theorem dX7_chosen_0 : decode cX7_chosen 0 = .ok (.aload_n 0, 1) := by decide +kernel
theorem dX7_chosen_1 : decode cX7_chosen 1 = .ok (.iconst 0, 1) := by decide +kernel
theorem dX7_chosen_2 : decode cX7_chosen 2 = .ok (.putfield 68, 3) := by decide +kernel
theorem dX7_chosen_5 : decode cX7_chosen 5 = .ok (.aload_n 0, 1) := by decide +kernel
theorem dX7_chosen_6 : decode cX7_chosen 6 = .ok (.getfield 181, 3) := by decide +kernel
theorem dX7_chosen_9 : decode cX7_chosen 9 = .ok (.ireturn, 1) := by decide +kernel
end
section
theorem dJ6_numberOfTrailingZeros_0f7a4_0 : decode cJ6_numberOfTrailingZeros_0f7a4 0 = .ok (.iload_n 0, 1) := by decide +kernel
theorem dJ6_numberOfTrailingZeros_0f7a4_1 : decode cJ6_numberOfTrailingZeros_0f7a4 1 = .ok (.iconst (-1), 1) := by decide +kernel
theorem dJ6_numberOfTrailingZeros_0f7a4_2 : decode cJ6_numberOfTrailingZeros_0f7a4 2 = .ok (.ixor, 1) := by decide +kernel
theorem dJ6_numberOfTrailingZeros_0f7a4_3 : decode cJ6_numberOfTrailingZeros_0f7a4 3 = .ok (.iload_n 0, 1) := by decide +kernel
theorem dJ6_numberOfTrailingZeros_0f7a4_4 : decode cJ6_numberOfTrailingZeros_0f7a4 4 = .ok (.iconst 1, 1) := by decide +kernel
theorem dJ6_numberOfTrailingZeros_0f7a4_5 : decode cJ6_numberOfTrailingZeros_0f7a4 5 = .ok (.isub, 1) := by decide +kernel
theorem dJ6_numberOfTrailingZeros_0f7a4_6 : decode cJ6_numberOfTrailingZeros_0f7a4 6 = .ok (.iand, 1) := by decide +kernel
theorem dJ6_numberOfTrailingZeros_0f7a4_7 : decode cJ6_numberOfTrailingZeros_0f7a4 7 = .ok (.istore_n 0, 1) := by decide +kernel
theorem dJ6_numberOfTrailingZeros_0f7a4_8 : decode cJ6_numberOfTrailingZeros_0f7a4 8 = .ok (.iload_n 0, 1) := by decide +kernel
theorem dJ6_numberOfTrailingZeros_0f7a4_9 : decode cJ6_numberOfTrailingZeros_0f7a4 9 = .ok (.ifCond .gt 8, 3) := by decide +kernel
theorem dJ6_numberOfTrailingZeros_0f7a4_12 : decode cJ6_numberOfTrailingZeros_0f7a4 12 = .ok (.iload_n 0, 1) := by decide +kernel
theorem dJ6_numberOfTrailingZeros_0f7a4_13 : decode cJ6_numberOfTrailingZeros_0f7a4 13 = .ok (.bipush 32, 2) := by decide +kernel
theorem dJ6_numberOfTrailingZeros_0f7a4_15 : decode cJ6_numberOfTrailingZeros_0f7a4 15 = .ok (.iand, 1) := by decide +kernel
theorem dJ6_numberOfTrailingZeros_0f7a4_16 : decode cJ6_numberOfTrailingZeros_0f7a4 16 = .ok (.ireturn, 1) := by decide +kernel
theorem dJ6_numberOfTrailingZeros_0f7a4_17 : decode cJ6_numberOfTrailingZeros_0f7a4 17 = .ok (.iconst 1, 1) := by decide +kernel
theorem dJ6_numberOfTrailingZeros_0f7a4_18 : decode cJ6_numberOfTrailingZeros_0f7a4 18 = .ok (.istore_n 1, 1) := by decide +kernel
theorem dJ6_numberOfTrailingZeros_0f7a4_19 : decode cJ6_numberOfTrailingZeros_0f7a4 19 = .ok (.iload_n 0, 1) := by decide +kernel
theorem dJ6_numberOfTrailingZeros_0f7a4_20 : decode cJ6_numberOfTrailingZeros_0f7a4 20 = .ok (.ldc_w 264, 3) := by decide +kernel
theorem dJ6_numberOfTrailingZeros_0f7a4_23 : decode cJ6_numberOfTrailingZeros_0f7a4 23 = .ok (.if_icmp .le 11, 3) := by decide +kernel
theorem dJ6_numberOfTrailingZeros_0f7a4_26 : decode cJ6_numberOfTrailingZeros_0f7a4 26 = .ok (.iinc 1 16, 3) := by decide +kernel
theorem dJ6_numberOfTrailingZeros_0f7a4_29 : decode cJ6_numberOfTrailingZeros_0f7a4 29 = .ok (.iload_n 0, 1) := by decide +kernel
theorem dJ6_numberOfTrailingZeros_0f7a4_30 : decode cJ6_numberOfTrailingZeros_0f7a4 30 = .ok (.bipush 16, 2) := by decide +kernel
theorem dJ6_numberOfTrailingZeros_0f7a4_32 : decode cJ6_numberOfTrailingZeros_0f7a4 32 = .ok (.iushr, 1) := by decide +kernel
theorem dJ6_numberOfTrailingZeros_0f7a4_33 : decode cJ6_numberOfTrailingZeros_0f7a4 33 = .ok (.istore_n 0, 1) := by decide +kernel
theorem dJ6_numberOfTrailingZeros_0f7a4_34 : decode cJ6_numberOfTrailingZeros_0f7a4 34 = .ok (.iload_n 0, 1) := by decide +kernel
theorem dJ6_numberOfTrailingZeros_0f7a4_35 : decode cJ6_numberOfTrailingZeros_0f7a4 35 = .ok (.sipush 256, 3) := by decide +kernel
theorem dJ6_numberOfTrailingZeros_0f7a4_38 : decode cJ6_numberOfTrailingZeros_0f7a4 38 = .ok (.if_icmp .le 11, 3) := by decide +kernel
theorem dJ6_numberOfTrailingZeros_0f7a4_41 : decode cJ6_numberOfTrailingZeros_0f7a4 41 = .ok (.iinc 1 8, 3) := by decide +kernel
theorem dJ6_numberOfTrailingZeros_0f7a4_44 : decode cJ6_numberOfTrailingZeros_0f7a4 44 = .ok (.iload_n 0, 1) := by decide +kernel
theorem dJ6_numberOfTrailingZeros_0f7a4_45 : decode cJ6_numberOfTrailingZeros_0f7a4 45 = .ok (.bipush 8, 2) := by decide +kernel
theorem dJ6_numberOfTrailingZeros_0f7a4_47 : decode cJ6_numberOfTrailingZeros_0f7a4 47 = .ok (.iushr, 1) := by decide +kernel
theorem dJ6_numberOfTrailingZeros_0f7a4_48 : decode cJ6_numberOfTrailingZeros_0f7a4 48 = .ok (.istore_n 0, 1) := by decide +kernel
theorem dJ6_numberOfTrailingZeros_0f7a4_49 : decode cJ6_numberOfTrailingZeros_0f7a4 49 = .ok (.iload_n 0, 1) := by decide +kernel
theorem dJ6_numberOfTrailingZeros_0f7a4_50 : decode cJ6_numberOfTrailingZeros_0f7a4 50 = .ok (.bipush 16, 2) := by decide +kernel
theorem dJ6_numberOfTrailingZeros_0f7a4_52 : decode cJ6_numberOfTrailingZeros_0f7a4 52 = .ok (.if_icmp .le 10, 3) := by decide +kernel
theorem dJ6_numberOfTrailingZeros_0f7a4_55 : decode cJ6_numberOfTrailingZeros_0f7a4 55 = .ok (.iinc 1 4, 3) := by decide +kernel
theorem dJ6_numberOfTrailingZeros_0f7a4_58 : decode cJ6_numberOfTrailingZeros_0f7a4 58 = .ok (.iload_n 0, 1) := by decide +kernel
theorem dJ6_numberOfTrailingZeros_0f7a4_59 : decode cJ6_numberOfTrailingZeros_0f7a4 59 = .ok (.iconst 4, 1) := by decide +kernel
theorem dJ6_numberOfTrailingZeros_0f7a4_60 : decode cJ6_numberOfTrailingZeros_0f7a4 60 = .ok (.iushr, 1) := by decide +kernel
theorem dJ6_numberOfTrailingZeros_0f7a4_61 : decode cJ6_numberOfTrailingZeros_0f7a4 61 = .ok (.istore_n 0, 1) := by decide +kernel
theorem dJ6_numberOfTrailingZeros_0f7a4_62 : decode cJ6_numberOfTrailingZeros_0f7a4 62 = .ok (.iload_n 0, 1) := by decide +kernel
theorem dJ6_numberOfTrailingZeros_0f7a4_63 : decode cJ6_numberOfTrailingZeros_0f7a4 63 = .ok (.iconst 4, 1) := by decide +kernel
theorem dJ6_numberOfTrailingZeros_0f7a4_64 : decode cJ6_numberOfTrailingZeros_0f7a4 64 = .ok (.if_icmp .le 10, 3) := by decide +kernel
theorem dJ6_numberOfTrailingZeros_0f7a4_67 : decode cJ6_numberOfTrailingZeros_0f7a4 67 = .ok (.iinc 1 2, 3) := by decide +kernel
theorem dJ6_numberOfTrailingZeros_0f7a4_70 : decode cJ6_numberOfTrailingZeros_0f7a4 70 = .ok (.iload_n 0, 1) := by decide +kernel
theorem dJ6_numberOfTrailingZeros_0f7a4_71 : decode cJ6_numberOfTrailingZeros_0f7a4 71 = .ok (.iconst 2, 1) := by decide +kernel
theorem dJ6_numberOfTrailingZeros_0f7a4_72 : decode cJ6_numberOfTrailingZeros_0f7a4 72 = .ok (.iushr, 1) := by decide +kernel
theorem dJ6_numberOfTrailingZeros_0f7a4_73 : decode cJ6_numberOfTrailingZeros_0f7a4 73 = .ok (.istore_n 0, 1) := by decide +kernel
theorem dJ6_numberOfTrailingZeros_0f7a4_74 : decode cJ6_numberOfTrailingZeros_0f7a4 74 = .ok (.iload_n 1, 1) := by decide +kernel
theorem dJ6_numberOfTrailingZeros_0f7a4_75 : decode cJ6_numberOfTrailingZeros_0f7a4 75 = .ok (.iload_n 0, 1) := by decide +kernel
theorem dJ6_numberOfTrailingZeros_0f7a4_76 : decode cJ6_numberOfTrailingZeros_0f7a4 76 = .ok (.iconst 1, 1) := by decide +kernel
theorem dJ6_numberOfTrailingZeros_0f7a4_77 : decode cJ6_numberOfTrailingZeros_0f7a4 77 = .ok (.iushr, 1) := by decide +kernel
theorem dJ6_numberOfTrailingZeros_0f7a4_78 : decode cJ6_numberOfTrailingZeros_0f7a4 78 = .ok (.iadd, 1) := by decide +kernel
theorem dJ6_numberOfTrailingZeros_0f7a4_79 : decode cJ6_numberOfTrailingZeros_0f7a4 79 = .ok (.ireturn, 1) := by decide +kernel
theorem dJ6_bitCount_0f7a4_0 : decode cJ6_bitCount_0f7a4 0 = .ok (.iload_n 0, 1) := by decide +kernel
theorem dJ6_bitCount_0f7a4_1 : decode cJ6_bitCount_0f7a4 1 = .ok (.iload_n 0, 1) := by decide +kernel
theorem dJ6_bitCount_0f7a4_2 : decode cJ6_bitCount_0f7a4 2 = .ok (.iconst 1, 1) := by decide +kernel
theorem dJ6_bitCount_0f7a4_3 : decode cJ6_bitCount_0f7a4 3 = .ok (.iushr, 1) := by decide +kernel
theorem dJ6_bitCount_0f7a4_4 : decode cJ6_bitCount_0f7a4 4 = .ok (.ldc_w 265, 3) := by decide +kernel
theorem dJ6_bitCount_0f7a4_7 : decode cJ6_bitCount_0f7a4 7 = .ok (.iand, 1) := by decide +kernel
theorem dJ6_bitCount_0f7a4_8 : decode cJ6_bitCount_0f7a4 8 = .ok (.isub, 1) := by decide +kernel
theorem dJ6_bitCount_0f7a4_9 : decode cJ6_bitCount_0f7a4 9 = .ok (.istore_n 0, 1) := by decide +kernel
theorem dJ6_bitCount_0f7a4_10 : decode cJ6_bitCount_0f7a4 10 = .ok (.iload_n 0, 1) := by decide +kernel
theorem dJ6_bitCount_0f7a4_11 : decode cJ6_bitCount_0f7a4 11 = .ok (.ldc_w 266, 3) := by decide +kernel
theorem dJ6_bitCount_0f7a4_14 : decode cJ6_bitCount_0f7a4 14 = .ok (.iand, 1) := by decide +kernel
theorem dJ6_bitCount_0f7a4_15 : decode cJ6_bitCount_0f7a4 15 = .ok (.iload_n 0, 1) := by decide +kernel
theorem dJ6_bitCount_0f7a4_16 : decode cJ6_bitCount_0f7a4 16 = .ok (.iconst 2, 1) := by decide +kernel
theorem dJ6_bitCount_0f7a4_17 : decode cJ6_bitCount_0f7a4 17 = .ok (.iushr, 1) := by decide +kernel
theorem dJ6_bitCount_0f7a4_18 : decode cJ6_bitCount_0f7a4 18 = .ok (.ldc_w 266, 3) := by decide +kernel
theorem dJ6_bitCount_0f7a4_21 : decode cJ6_bitCount_0f7a4 21 = .ok (.iand, 1) := by decide +kernel
theorem dJ6_bitCount_0f7a4_22 : decode cJ6_bitCount_0f7a4 22 = .ok (.iadd, 1) := by decide +kernel
theorem dJ6_bitCount_0f7a4_23 : decode cJ6_bitCount_0f7a4 23 = .ok (.istore_n 0, 1) := by decide +kernel
theorem dJ6_bitCount_0f7a4_24 : decode cJ6_bitCount_0f7a4 24 = .ok (.iload_n 0, 1) := by decide +kernel
theorem dJ6_bitCount_0f7a4_25 : decode cJ6_bitCount_0f7a4 25 = .ok (.iload_n 0, 1) := by decide +kernel
theorem dJ6_bitCount_0f7a4_26 : decode cJ6_bitCount_0f7a4 26 = .ok (.iconst 4, 1) := by decide +kernel
theorem dJ6_bitCount_0f7a4_27 : decode cJ6_bitCount_0f7a4 27 = .ok (.iushr, 1) := by decide +kernel
theorem dJ6_bitCount_0f7a4_28 : decode cJ6_bitCount_0f7a4 28 = .ok (.iadd, 1) := by decide +kernel
theorem dJ6_bitCount_0f7a4_29 : decode cJ6_bitCount_0f7a4 29 = .ok (.ldc_w 267, 3) := by decide +kernel
theorem dJ6_bitCount_0f7a4_32 : decode cJ6_bitCount_0f7a4 32 = .ok (.iand, 1) := by decide +kernel
theorem dJ6_bitCount_0f7a4_33 : decode cJ6_bitCount_0f7a4 33 = .ok (.istore_n 0, 1) := by decide +kernel
theorem dJ6_bitCount_0f7a4_34 : decode cJ6_bitCount_0f7a4 34 = .ok (.iload_n 0, 1) := by decide +kernel
theorem dJ6_bitCount_0f7a4_35 : decode cJ6_bitCount_0f7a4 35 = .ok (.iload_n 0, 1) := by decide +kernel
theorem dJ6_bitCount_0f7a4_36 : decode cJ6_bitCount_0f7a4 36 = .ok (.bipush 8, 2) := by decide +kernel
theorem dJ6_bitCount_0f7a4_38 : decode cJ6_bitCount_0f7a4 38 = .ok (.iushr, 1) := by decide +kernel
theorem dJ6_bitCount_0f7a4_39 : decode cJ6_bitCount_0f7a4 39 = .ok (.iadd, 1) := by decide +kernel
theorem dJ6_bitCount_0f7a4_40 : decode cJ6_bitCount_0f7a4 40 = .ok (.istore_n 0, 1) := by decide +kernel
theorem dJ6_bitCount_0f7a4_41 : decode cJ6_bitCount_0f7a4 41 = .ok (.iload_n 0, 1) := by decide +kernel
theorem dJ6_bitCount_0f7a4_42 : decode cJ6_bitCount_0f7a4 42 = .ok (.iload_n 0, 1) := by decide +kernel
theorem dJ6_bitCount_0f7a4_43 : decode cJ6_bitCount_0f7a4 43 = .ok (.bipush 16, 2) := by decide +kernel
theorem dJ6_bitCount_0f7a4_45 : decode cJ6_bitCount_0f7a4 45 = .ok (.iushr, 1) := by decide +kernel
theorem dJ6_bitCount_0f7a4_46 : decode cJ6_bitCount_0f7a4 46 = .ok (.iadd, 1) := by decide +kernel
theorem dJ6_bitCount_0f7a4_47 : decode cJ6_bitCount_0f7a4 47 = .ok (.istore_n 0, 1) := by decide +kernel
theorem dJ6_bitCount_0f7a4_48 : decode cJ6_bitCount_0f7a4 48 = .ok (.iload_n 0, 1) := by decide +kernel
theorem dJ6_bitCount_0f7a4_49 : decode cJ6_bitCount_0f7a4 49 = .ok (.bipush 63, 2) := by decide +kernel
theorem dJ6_bitCount_0f7a4_51 : decode cJ6_bitCount_0f7a4 51 = .ok (.iand, 1) := by decide +kernel
theorem dJ6_bitCount_0f7a4_52 : decode cJ6_bitCount_0f7a4 52 = .ok (.ireturn, 1) := by decide +kernel
end
section
theorem dJ9_floorMod_7cf53_0 : decode cJ9_floorMod_7cf53 0 = .ok (.iload_n 0, 1) := by decide +kernel
theorem dJ9_floorMod_7cf53_1 : decode cJ9_floorMod_7cf53 1 = .ok (.iload_n 1, 1) := by decide +kernel
theorem dJ9_floorMod_7cf53_2 : decode cJ9_floorMod_7cf53 2 = .ok (.irem, 1) := by decide +kernel
theorem dJ9_floorMod_7cf53_3 : decode cJ9_floorMod_7cf53 3 = .ok (.istore_n 2, 1) := by decide +kernel
theorem dJ9_floorMod_7cf53_4 : decode cJ9_floorMod_7cf53 4 = .ok (.iload_n 0, 1) := by decide +kernel
theorem dJ9_floorMod_7cf53_5 : decode cJ9_floorMod_7cf53 5 = .ok (.iload_n 1, 1) := by decide +kernel
theorem dJ9_floorMod_7cf53_6 : decode cJ9_floorMod_7cf53 6 = .ok (.ixor, 1) := by decide +kernel
theorem dJ9_floorMod_7cf53_7 : decode cJ9_floorMod_7cf53 7 = .ok (.ifCond .ge 11, 3) := by decide +kernel
theorem dJ9_floorMod_7cf53_10 : decode cJ9_floorMod_7cf53 10 = .ok (.iload_n 2, 1) := by decide +kernel
theorem dJ9_floorMod_7cf53_11 : decode cJ9_floorMod_7cf53 11 = .ok (.ifCond .eq 7, 3) := by decide +kernel
theorem dJ9_floorMod_7cf53_14 : decode cJ9_floorMod_7cf53 14 = .ok (.iload_n 2, 1) := by decide +kernel
theorem dJ9_floorMod_7cf53_15 : decode cJ9_floorMod_7cf53 15 = .ok (.iload_n 1, 1) := by decide +kernel
theorem dJ9_floorMod_7cf53_16 : decode cJ9_floorMod_7cf53 16 = .ok (.iadd, 1) := by decide +kernel
theorem dJ9_floorMod_7cf53_17 : decode cJ9_floorMod_7cf53 17 = .ok (.ireturn, 1) := by decide +kernel
theorem dJ9_floorMod_7cf53_18 : decode cJ9_floorMod_7cf53 18 = .ok (.iload_n 2, 1) := by decide +kernel
theorem dJ9_floorMod_7cf53_19 : decode cJ9_floorMod_7cf53 19 = .ok (.ireturn, 1) := by decide +kernel
theorem dJ9_abs_0f7a4_0 : decode cJ9_abs_0f7a4 0 = .ok (.iload_n 0, 1) := by decide +kernel
theorem dJ9_abs_0f7a4_1 : decode cJ9_abs_0f7a4 1 = .ok (.ifCond .ge 8, 3) := by decide +kernel
theorem dJ9_abs_0f7a4_4 : decode cJ9_abs_0f7a4 4 = .ok (.iload_n 0, 1) := by decide +kernel
theorem dJ9_abs_0f7a4_5 : decode cJ9_abs_0f7a4 5 = .ok (.ineg, 1) := by decide +kernel
theorem dJ9_abs_0f7a4_6 : decode cJ9_abs_0f7a4 6 = .ok (.goto 4, 3) := by decide +kernel
theorem dJ9_abs_0f7a4_9 : decode cJ9_abs_0f7a4 9 = .ok (.iload_n 0, 1) := by decide +kernel
theorem dJ9_abs_0f7a4_10 : decode cJ9_abs_0f7a4 10 = .ok (.ireturn, 1) := by decide +kernel
theorem dJ9_max_7cf53_0 : decode cJ9_max_7cf53 0 = .ok (.iload_n 0, 1) := by decide +kernel
theorem dJ9_max_7cf53_1 : decode cJ9_max_7cf53 1 = .ok (.iload_n 1, 1) := by decide +kernel
theorem dJ9_max_7cf53_2 : decode cJ9_max_7cf53 2 = .ok (.if_icmp .lt 7, 3) := by decide +kernel
theorem dJ9_max_7cf53_5 : decode cJ9_max_7cf53 5 = .ok (.iload_n 0, 1) := by decide +kernel
theorem dJ9_max_7cf53_6 : decode cJ9_max_7cf53 6 = .ok (.goto 4, 3) := by decide +kernel
theorem dJ9_max_7cf53_9 : decode cJ9_max_7cf53 9 = .ok (.iload_n 1, 1) := by decide +kernel
theorem dJ9_max_7cf53_10 : decode cJ9_max_7cf53 10 = .ok (.ireturn, 1) := by decide +kernel
theorem dJ9_min_7cf53_0 : decode cJ9_min_7cf53 0 = .ok (.iload_n 0, 1) := by decide +kernel
theorem dJ9_min_7cf53_1 : decode cJ9_min_7cf53 1 = .ok (.iload_n 1, 1) := by decide +kernel
theorem dJ9_min_7cf53_2 : decode cJ9_min_7cf53 2 = .ok (.if_icmp .gt 7, 3) := by decide +kernel
theorem dJ9_min_7cf53_5 : decode cJ9_min_7cf53 5 = .ok (.iload_n 0, 1) := by decide +kernel
theorem dJ9_min_7cf53_6 : decode cJ9_min_7cf53 6 = .ok (.goto 4, 3) := by decide +kernel
theorem dJ9_min_7cf53_9 : decode cJ9_min_7cf53 9 = .ok (.iload_n 1, 1) := by decide +kernel
theorem dJ9_min_7cf53_10 : decode cJ9_min_7cf53 10 = .ok (.ireturn, 1) := by decide +kernel
end
section
theorem dJ7_fill_53178_0 : decode cJ7_fill_53178 0 = .ok (.iconst 0, 1) := by decide +kernel
theorem dJ7_fill_53178_1 : decode cJ7_fill_53178 1 = .ok (.istore_n 2, 1) := by decide +kernel
theorem dJ7_fill_53178_2 : decode cJ7_fill_53178 2 = .ok (.aload_n 0, 1) := by decide +kernel
theorem dJ7_fill_53178_3 : decode cJ7_fill_53178 3 = .ok (.arraylength, 1) := by decide +kernel
theorem dJ7_fill_53178_4 : decode cJ7_fill_53178 4 = .ok (.istore_n 3, 1) := by decide +kernel
theorem dJ7_fill_53178_5 : decode cJ7_fill_53178 5 = .ok (.iload_n 2, 1) := by decide +kernel
theorem dJ7_fill_53178_6 : decode cJ7_fill_53178 6 = .ok (.iload_n 3, 1) := by decide +kernel
theorem dJ7_fill_53178_7 : decode cJ7_fill_53178 7 = .ok (.if_icmp .ge 13, 3) := by decide +kernel
theorem dJ7_fill_53178_10 : decode cJ7_fill_53178 10 = .ok (.aload_n 0, 1) := by decide +kernel
theorem dJ7_fill_53178_11 : decode cJ7_fill_53178 11 = .ok (.iload_n 2, 1) := by decide +kernel
theorem dJ7_fill_53178_12 : decode cJ7_fill_53178 12 = .ok (.iload_n 1, 1) := by decide +kernel
theorem dJ7_fill_53178_13 : decode cJ7_fill_53178 13 = .ok (.iastore, 1) := by decide +kernel
theorem dJ7_fill_53178_14 : decode cJ7_fill_53178 14 = .ok (.iinc 2 1, 3) := by decide +kernel
theorem dJ7_fill_53178_17 : decode cJ7_fill_53178 17 = .ok (.goto (-12), 3) := by decide +kernel
theorem dJ7_fill_53178_20 : decode cJ7_fill_53178 20 = .ok (.return_, 1) := by decide +kernel
end
section
theorem dL_of_0 : decode cL_of 0 = .ok (.aload_n 3, 1) := by decide +kernel
theorem dL_of_1 : decode cL_of 1 = .ok (.iconst 0, 1) := by decide +kernel
theorem dL_of_2 : decode cL_of 2 = .ok (.aload_n 0, 1) := by decide +kernel
theorem dL_of_3 : decode cL_of 3 = .ok (.iload_n 1, 1) := by decide +kernel
theorem dL_of_4 : decode cL_of 4 = .ok (.iload_n 2, 1) := by decide +kernel
theorem dL_of_5 : decode cL_of 5 = .ok (.invokevirtual 7, 3) := by decide +kernel
theorem dL_of_8 : decode cL_of 8 = .ok (.i2l, 1) := by decide +kernel
theorem dL_of_9 : decode cL_of 9 = .ok (.lastore, 1) := by decide +kernel
theorem dL_of_10 : decode cL_of 10 = .ok (.goto 7, 3) := by decide +kernel
theorem dL_of_13 : decode cL_of 13 = .ok (.astore 4, 2) := by decide +kernel
theorem dL_of_15 : decode cL_of 15 = .ok (.iconst 1, 1) := by decide +kernel
theorem dL_of_16 : decode cL_of 16 = .ok (.ireturn, 1) := by decide +kernel
theorem dL_of_17 : decode cL_of 17 = .ok (.iconst 0, 1) := by decide +kernel
theorem dL_of_18 : decode cL_of 18 = .ok (.ireturn, 1) := by decide +kernel
theorem dL_law_0 : decode cL_law 0 = .ok (.new 8, 3) := by decide +kernel
theorem dL_law_3 : decode cL_law 3 = .ok (.dup, 1) := by decide +kernel
theorem dL_law_4 : decode cL_law 4 = .ok (.invokespecial 15, 3) := by decide +kernel
theorem dL_law_7 : decode cL_law 7 = .ok (.astore_n 1, 1) := by decide +kernel
theorem dL_law_8 : decode cL_law 8 = .ok (.new 16, 3) := by decide +kernel
theorem dL_law_11 : decode cL_law 11 = .ok (.dup, 1) := by decide +kernel
theorem dL_law_12 : decode cL_law 12 = .ok (.invokespecial 18, 3) := by decide +kernel
theorem dL_law_15 : decode cL_law 15 = .ok (.astore_n 2, 1) := by decide +kernel
theorem dL_law_16 : decode cL_law 16 = .ok (.iconst 1, 1) := by decide +kernel
theorem dL_law_17 : decode cL_law 17 = .ok (.newarray .long, 2) := by decide +kernel
theorem dL_law_19 : decode cL_law 19 = .ok (.astore_n 3, 1) := by decide +kernel
theorem dL_law_20 : decode cL_law 20 = .ok (.iconst 0, 1) := by decide +kernel
theorem dL_law_21 : decode cL_law 21 = .ok (.istore 4, 2) := by decide +kernel
theorem dL_law_23 : decode cL_law 23 = .ok (.iload 4, 2) := by decide +kernel
theorem dL_law_25 : decode cL_law 25 = .ok (.aload_n 0, 1) := by decide +kernel
theorem dL_law_26 : decode cL_law 26 = .ok (.arraylength, 1) := by decide +kernel
theorem dL_law_27 : decode cL_law 27 = .ok (.bipush 6, 2) := by decide +kernel
theorem dL_law_29 : decode cL_law 29 = .ok (.isub, 1) := by decide +kernel
theorem dL_law_30 : decode cL_law 30 = .ok (.if_icmp .gt 926, 3) := by decide +kernel
theorem dL_law_33 : decode cL_law 33 = .ok (.aload_n 0, 1) := by decide +kernel
theorem dL_law_34 : decode cL_law 34 = .ok (.iload 4, 2) := by decide +kernel
theorem dL_law_36 : decode cL_law 36 = .ok (.iaload, 1) := by decide +kernel
theorem dL_law_37 : decode cL_law 37 = .ok (.bipush 31, 2) := by decide +kernel
theorem dL_law_39 : decode cL_law 39 = .ok (.iand, 1) := by decide +kernel
theorem dL_law_40 : decode cL_law 40 = .ok (.tableswitch 910 0 22 #[108, 181, 218, 255, 292, 345, 370, 419, 468, 505, 530, 555, 623, 660, 685, 698, 723, 748, 785, 798, 823, 872, 897], 108) := by decide +kernel
theorem dL_law_148 : decode cL_law 148 = .ok (.aload_n 1, 1) := by decide +kernel
theorem dL_law_149 : decode cL_law 149 = .ok (.aload_n 0, 1) := by decide +kernel
theorem dL_law_150 : decode cL_law 150 = .ok (.iload 4, 2) := by decide +kernel
theorem dL_law_152 : decode cL_law 152 = .ok (.iconst 1, 1) := by decide +kernel
theorem dL_law_153 : decode cL_law 153 = .ok (.iadd, 1) := by decide +kernel
theorem dL_law_154 : decode cL_law 154 = .ok (.iaload, 1) := by decide +kernel
theorem dL_law_155 : decode cL_law 155 = .ok (.aload_n 0, 1) := by decide +kernel
theorem dL_law_156 : decode cL_law 156 = .ok (.iload 4, 2) := by decide +kernel
theorem dL_law_158 : decode cL_law 158 = .ok (.iconst 2, 1) := by decide +kernel
theorem dL_law_159 : decode cL_law 159 = .ok (.iadd, 1) := by decide +kernel
theorem dL_law_160 : decode cL_law 160 = .ok (.iaload, 1) := by decide +kernel
theorem dL_law_161 : decode cL_law 161 = .ok (.aload_n 0, 1) := by decide +kernel
theorem dL_law_162 : decode cL_law 162 = .ok (.iload 4, 2) := by decide +kernel
theorem dL_law_164 : decode cL_law 164 = .ok (.iconst 3, 1) := by decide +kernel
theorem dL_law_165 : decode cL_law 165 = .ok (.iadd, 1) := by decide +kernel
theorem dL_law_166 : decode cL_law 166 = .ok (.iaload, 1) := by decide +kernel
theorem dL_law_167 : decode cL_law 167 = .ok (.aload_n 0, 1) := by decide +kernel
theorem dL_law_168 : decode cL_law 168 = .ok (.iload 4, 2) := by decide +kernel
theorem dL_law_170 : decode cL_law 170 = .ok (.iconst 4, 1) := by decide +kernel
theorem dL_law_171 : decode cL_law 171 = .ok (.iadd, 1) := by decide +kernel
theorem dL_law_172 : decode cL_law 172 = .ok (.iaload, 1) := by decide +kernel
theorem dL_law_173 : decode cL_law 173 = .ok (.aload_n 0, 1) := by decide +kernel
theorem dL_law_174 : decode cL_law 174 = .ok (.iload 4, 2) := by decide +kernel
theorem dL_law_176 : decode cL_law 176 = .ok (.iconst 5, 1) := by decide +kernel
theorem dL_law_177 : decode cL_law 177 = .ok (.iadd, 1) := by decide +kernel
theorem dL_law_178 : decode cL_law 178 = .ok (.iaload, 1) := by decide +kernel
theorem dL_law_179 : decode cL_law 179 = .ok (.invokevirtual 19, 3) := by decide +kernel
theorem dL_law_182 : decode cL_law 182 = .ok (.aload_n 2, 1) := by decide +kernel
theorem dL_law_183 : decode cL_law 183 = .ok (.aload_n 0, 1) := by decide +kernel
theorem dL_law_184 : decode cL_law 184 = .ok (.iload 4, 2) := by decide +kernel
theorem dL_law_186 : decode cL_law 186 = .ok (.iconst 1, 1) := by decide +kernel
theorem dL_law_187 : decode cL_law 187 = .ok (.iadd, 1) := by decide +kernel
theorem dL_law_188 : decode cL_law 188 = .ok (.iaload, 1) := by decide +kernel
theorem dL_law_189 : decode cL_law 189 = .ok (.aload_n 0, 1) := by decide +kernel
theorem dL_law_190 : decode cL_law 190 = .ok (.iload 4, 2) := by decide +kernel
theorem dL_law_192 : decode cL_law 192 = .ok (.iconst 2, 1) := by decide +kernel
theorem dL_law_193 : decode cL_law 193 = .ok (.iadd, 1) := by decide +kernel
theorem dL_law_194 : decode cL_law 194 = .ok (.iaload, 1) := by decide +kernel
theorem dL_law_195 : decode cL_law 195 = .ok (.aload_n 0, 1) := by decide +kernel
theorem dL_law_196 : decode cL_law 196 = .ok (.iload 4, 2) := by decide +kernel
theorem dL_law_198 : decode cL_law 198 = .ok (.iconst 3, 1) := by decide +kernel
theorem dL_law_199 : decode cL_law 199 = .ok (.iadd, 1) := by decide +kernel
theorem dL_law_200 : decode cL_law 200 = .ok (.iaload, 1) := by decide +kernel
theorem dL_law_201 : decode cL_law 201 = .ok (.aload_n 0, 1) := by decide +kernel
theorem dL_law_202 : decode cL_law 202 = .ok (.iload 4, 2) := by decide +kernel
theorem dL_law_204 : decode cL_law 204 = .ok (.iconst 4, 1) := by decide +kernel
theorem dL_law_205 : decode cL_law 205 = .ok (.iadd, 1) := by decide +kernel
theorem dL_law_206 : decode cL_law 206 = .ok (.iaload, 1) := by decide +kernel
theorem dL_law_207 : decode cL_law 207 = .ok (.aload_n 0, 1) := by decide +kernel
theorem dL_law_208 : decode cL_law 208 = .ok (.iload 4, 2) := by decide +kernel
theorem dL_law_210 : decode cL_law 210 = .ok (.iconst 5, 1) := by decide +kernel
theorem dL_law_211 : decode cL_law 211 = .ok (.iadd, 1) := by decide +kernel
theorem dL_law_212 : decode cL_law 212 = .ok (.iaload, 1) := by decide +kernel
theorem dL_law_213 : decode cL_law 213 = .ok (.invokevirtual 23, 3) := by decide +kernel
theorem dL_law_216 : decode cL_law 216 = .ok (.if_icmp .eq 734, 3) := by decide +kernel
theorem dL_law_219 : decode cL_law 219 = .ok (.iconst 0, 1) := by decide +kernel
theorem dL_law_220 : decode cL_law 220 = .ok (.ireturn, 1) := by decide +kernel
theorem dL_law_221 : decode cL_law 221 = .ok (.aload_n 1, 1) := by decide +kernel
theorem dL_law_222 : decode cL_law 222 = .ok (.aload_n 0, 1) := by decide +kernel
theorem dL_law_223 : decode cL_law 223 = .ok (.iload 4, 2) := by decide +kernel
theorem dL_law_225 : decode cL_law 225 = .ok (.iconst 1, 1) := by decide +kernel
theorem dL_law_226 : decode cL_law 226 = .ok (.iadd, 1) := by decide +kernel
theorem dL_law_227 : decode cL_law 227 = .ok (.iaload, 1) := by decide +kernel
theorem dL_law_228 : decode cL_law 228 = .ok (.aload_n 0, 1) := by decide +kernel
theorem dL_law_229 : decode cL_law 229 = .ok (.iload 4, 2) := by decide +kernel
theorem dL_law_231 : decode cL_law 231 = .ok (.iconst 2, 1) := by decide +kernel
theorem dL_law_232 : decode cL_law 232 = .ok (.iadd, 1) := by decide +kernel
theorem dL_law_233 : decode cL_law 233 = .ok (.iaload, 1) := by decide +kernel
theorem dL_law_234 : decode cL_law 234 = .ok (.invokevirtual 24, 3) := by decide +kernel
theorem dL_law_237 : decode cL_law 237 = .ok (.aload_n 2, 1) := by decide +kernel
theorem dL_law_238 : decode cL_law 238 = .ok (.aload_n 0, 1) := by decide +kernel
theorem dL_law_239 : decode cL_law 239 = .ok (.iload 4, 2) := by decide +kernel
theorem dL_law_241 : decode cL_law 241 = .ok (.iconst 1, 1) := by decide +kernel
theorem dL_law_242 : decode cL_law 242 = .ok (.iadd, 1) := by decide +kernel
theorem dL_law_243 : decode cL_law 243 = .ok (.iaload, 1) := by decide +kernel
theorem dL_law_244 : decode cL_law 244 = .ok (.aload_n 0, 1) := by decide +kernel
theorem dL_law_245 : decode cL_law 245 = .ok (.iload 4, 2) := by decide +kernel
theorem dL_law_247 : decode cL_law 247 = .ok (.iconst 2, 1) := by decide +kernel
theorem dL_law_248 : decode cL_law 248 = .ok (.iadd, 1) := by decide +kernel
theorem dL_law_249 : decode cL_law 249 = .ok (.iaload, 1) := by decide +kernel
theorem dL_law_250 : decode cL_law 250 = .ok (.invokevirtual 27, 3) := by decide +kernel
theorem dL_law_253 : decode cL_law 253 = .ok (.if_icmp .eq 697, 3) := by decide +kernel
theorem dL_law_256 : decode cL_law 256 = .ok (.iconst 0, 1) := by decide +kernel
theorem dL_law_257 : decode cL_law 257 = .ok (.ireturn, 1) := by decide +kernel
theorem dL_law_258 : decode cL_law 258 = .ok (.aload_n 1, 1) := by decide +kernel
theorem dL_law_259 : decode cL_law 259 = .ok (.aload_n 0, 1) := by decide +kernel
theorem dL_law_260 : decode cL_law 260 = .ok (.iload 4, 2) := by decide +kernel
theorem dL_law_262 : decode cL_law 262 = .ok (.iconst 1, 1) := by decide +kernel
theorem dL_law_263 : decode cL_law 263 = .ok (.iadd, 1) := by decide +kernel
theorem dL_law_264 : decode cL_law 264 = .ok (.iaload, 1) := by decide +kernel
theorem dL_law_265 : decode cL_law 265 = .ok (.aload_n 0, 1) := by decide +kernel
theorem dL_law_266 : decode cL_law 266 = .ok (.iload 4, 2) := by decide +kernel
theorem dL_law_268 : decode cL_law 268 = .ok (.iconst 2, 1) := by decide +kernel
theorem dL_law_269 : decode cL_law 269 = .ok (.iadd, 1) := by decide +kernel
theorem dL_law_270 : decode cL_law 270 = .ok (.iaload, 1) := by decide +kernel
theorem dL_law_271 : decode cL_law 271 = .ok (.invokevirtual 28, 3) := by decide +kernel
theorem dL_law_274 : decode cL_law 274 = .ok (.aload_n 2, 1) := by decide +kernel
theorem dL_law_275 : decode cL_law 275 = .ok (.aload_n 0, 1) := by decide +kernel
theorem dL_law_276 : decode cL_law 276 = .ok (.iload 4, 2) := by decide +kernel
theorem dL_law_278 : decode cL_law 278 = .ok (.iconst 1, 1) := by decide +kernel
theorem dL_law_279 : decode cL_law 279 = .ok (.iadd, 1) := by decide +kernel
theorem dL_law_280 : decode cL_law 280 = .ok (.iaload, 1) := by decide +kernel
theorem dL_law_281 : decode cL_law 281 = .ok (.aload_n 0, 1) := by decide +kernel
theorem dL_law_282 : decode cL_law 282 = .ok (.iload 4, 2) := by decide +kernel
theorem dL_law_284 : decode cL_law 284 = .ok (.iconst 2, 1) := by decide +kernel
theorem dL_law_285 : decode cL_law 285 = .ok (.iadd, 1) := by decide +kernel
theorem dL_law_286 : decode cL_law 286 = .ok (.iaload, 1) := by decide +kernel
theorem dL_law_287 : decode cL_law 287 = .ok (.invokevirtual 31, 3) := by decide +kernel
theorem dL_law_290 : decode cL_law 290 = .ok (.if_icmp .eq 660, 3) := by decide +kernel
theorem dL_law_293 : decode cL_law 293 = .ok (.iconst 0, 1) := by decide +kernel
theorem dL_law_294 : decode cL_law 294 = .ok (.ireturn, 1) := by decide +kernel
theorem dL_law_295 : decode cL_law 295 = .ok (.aload_n 1, 1) := by decide +kernel
theorem dL_law_296 : decode cL_law 296 = .ok (.aload_n 0, 1) := by decide +kernel
theorem dL_law_297 : decode cL_law 297 = .ok (.iload 4, 2) := by decide +kernel
theorem dL_law_299 : decode cL_law 299 = .ok (.iconst 1, 1) := by decide +kernel
theorem dL_law_300 : decode cL_law 300 = .ok (.iadd, 1) := by decide +kernel
theorem dL_law_301 : decode cL_law 301 = .ok (.iaload, 1) := by decide +kernel
theorem dL_law_302 : decode cL_law 302 = .ok (.aload_n 0, 1) := by decide +kernel
theorem dL_law_303 : decode cL_law 303 = .ok (.iload 4, 2) := by decide +kernel
theorem dL_law_305 : decode cL_law 305 = .ok (.iconst 2, 1) := by decide +kernel
theorem dL_law_306 : decode cL_law 306 = .ok (.iadd, 1) := by decide +kernel
theorem dL_law_307 : decode cL_law 307 = .ok (.iaload, 1) := by decide +kernel
theorem dL_law_308 : decode cL_law 308 = .ok (.invokevirtual 32, 3) := by decide +kernel
theorem dL_law_311 : decode cL_law 311 = .ok (.aload_n 2, 1) := by decide +kernel
theorem dL_law_312 : decode cL_law 312 = .ok (.aload_n 0, 1) := by decide +kernel
theorem dL_law_313 : decode cL_law 313 = .ok (.iload 4, 2) := by decide +kernel
theorem dL_law_315 : decode cL_law 315 = .ok (.iconst 1, 1) := by decide +kernel
theorem dL_law_316 : decode cL_law 316 = .ok (.iadd, 1) := by decide +kernel
theorem dL_law_317 : decode cL_law 317 = .ok (.iaload, 1) := by decide +kernel
theorem dL_law_318 : decode cL_law 318 = .ok (.aload_n 0, 1) := by decide +kernel
theorem dL_law_319 : decode cL_law 319 = .ok (.iload 4, 2) := by decide +kernel
theorem dL_law_321 : decode cL_law 321 = .ok (.iconst 2, 1) := by decide +kernel
theorem dL_law_322 : decode cL_law 322 = .ok (.iadd, 1) := by decide +kernel
theorem dL_law_323 : decode cL_law 323 = .ok (.iaload, 1) := by decide +kernel
theorem dL_law_324 : decode cL_law 324 = .ok (.invokevirtual 36, 3) := by decide +kernel
theorem dL_law_327 : decode cL_law 327 = .ok (.if_icmp .eq 623, 3) := by decide +kernel
theorem dL_law_330 : decode cL_law 330 = .ok (.iconst 0, 1) := by decide +kernel
theorem dL_law_331 : decode cL_law 331 = .ok (.ireturn, 1) := by decide +kernel
theorem dL_law_332 : decode cL_law 332 = .ok (.aload_n 1, 1) := by decide +kernel
theorem dL_law_333 : decode cL_law 333 = .ok (.aload_n 0, 1) := by decide +kernel
theorem dL_law_334 : decode cL_law 334 = .ok (.iload 4, 2) := by decide +kernel
theorem dL_law_336 : decode cL_law 336 = .ok (.iconst 1, 1) := by decide +kernel
theorem dL_law_337 : decode cL_law 337 = .ok (.iadd, 1) := by decide +kernel
theorem dL_law_338 : decode cL_law 338 = .ok (.iaload, 1) := by decide +kernel
theorem dL_law_339 : decode cL_law 339 = .ok (.aload_n 0, 1) := by decide +kernel
theorem dL_law_340 : decode cL_law 340 = .ok (.iload 4, 2) := by decide +kernel
theorem dL_law_342 : decode cL_law 342 = .ok (.iconst 2, 1) := by decide +kernel
theorem dL_law_343 : decode cL_law 343 = .ok (.iadd, 1) := by decide +kernel
theorem dL_law_344 : decode cL_law 344 = .ok (.iaload, 1) := by decide +kernel
theorem dL_law_345 : decode cL_law 345 = .ok (.ifCond .eq 7, 3) := by decide +kernel
theorem dL_law_348 : decode cL_law 348 = .ok (.iconst 1, 1) := by decide +kernel
theorem dL_law_349 : decode cL_law 349 = .ok (.goto 4, 3) := by decide +kernel
theorem dL_law_352 : decode cL_law 352 = .ok (.iconst 0, 1) := by decide +kernel
theorem dL_law_353 : decode cL_law 353 = .ok (.invokevirtual 37, 3) := by decide +kernel
theorem dL_law_356 : decode cL_law 356 = .ok (.aload_n 2, 1) := by decide +kernel
theorem dL_law_357 : decode cL_law 357 = .ok (.aload_n 0, 1) := by decide +kernel
theorem dL_law_358 : decode cL_law 358 = .ok (.iload 4, 2) := by decide +kernel
theorem dL_law_360 : decode cL_law 360 = .ok (.iconst 1, 1) := by decide +kernel
theorem dL_law_361 : decode cL_law 361 = .ok (.iadd, 1) := by decide +kernel
theorem dL_law_362 : decode cL_law 362 = .ok (.iaload, 1) := by decide +kernel
theorem dL_law_363 : decode cL_law 363 = .ok (.aload_n 0, 1) := by decide +kernel
theorem dL_law_364 : decode cL_law 364 = .ok (.iload 4, 2) := by decide +kernel
theorem dL_law_366 : decode cL_law 366 = .ok (.iconst 2, 1) := by decide +kernel
theorem dL_law_367 : decode cL_law 367 = .ok (.iadd, 1) := by decide +kernel
theorem dL_law_368 : decode cL_law 368 = .ok (.iaload, 1) := by decide +kernel
theorem dL_law_369 : decode cL_law 369 = .ok (.ifCond .eq 7, 3) := by decide +kernel
theorem dL_law_372 : decode cL_law 372 = .ok (.iconst 1, 1) := by decide +kernel
theorem dL_law_373 : decode cL_law 373 = .ok (.goto 4, 3) := by decide +kernel
theorem dL_law_376 : decode cL_law 376 = .ok (.iconst 0, 1) := by decide +kernel
theorem dL_law_377 : decode cL_law 377 = .ok (.invokevirtual 41, 3) := by decide +kernel
theorem dL_law_380 : decode cL_law 380 = .ok (.if_icmp .eq 570, 3) := by decide +kernel
theorem dL_law_383 : decode cL_law 383 = .ok (.iconst 0, 1) := by decide +kernel
theorem dL_law_384 : decode cL_law 384 = .ok (.ireturn, 1) := by decide +kernel
theorem dL_law_385 : decode cL_law 385 = .ok (.aload_n 1, 1) := by decide +kernel
theorem dL_law_386 : decode cL_law 386 = .ok (.aload_n 0, 1) := by decide +kernel
theorem dL_law_387 : decode cL_law 387 = .ok (.iload 4, 2) := by decide +kernel
theorem dL_law_389 : decode cL_law 389 = .ok (.iconst 1, 1) := by decide +kernel
theorem dL_law_390 : decode cL_law 390 = .ok (.iadd, 1) := by decide +kernel
theorem dL_law_391 : decode cL_law 391 = .ok (.iaload, 1) := by decide +kernel
theorem dL_law_392 : decode cL_law 392 = .ok (.invokevirtual 42, 3) := by decide +kernel
theorem dL_law_395 : decode cL_law 395 = .ok (.aload_n 2, 1) := by decide +kernel
theorem dL_law_396 : decode cL_law 396 = .ok (.aload_n 0, 1) := by decide +kernel
theorem dL_law_397 : decode cL_law 397 = .ok (.iload 4, 2) := by decide +kernel
theorem dL_law_399 : decode cL_law 399 = .ok (.iconst 1, 1) := by decide +kernel
theorem dL_law_400 : decode cL_law 400 = .ok (.iadd, 1) := by decide +kernel
theorem dL_law_401 : decode cL_law 401 = .ok (.iaload, 1) := by decide +kernel
theorem dL_law_402 : decode cL_law 402 = .ok (.invokevirtual 46, 3) := by decide +kernel
theorem dL_law_405 : decode cL_law 405 = .ok (.if_icmp .eq 545, 3) := by decide +kernel
theorem dL_law_408 : decode cL_law 408 = .ok (.iconst 0, 1) := by decide +kernel
theorem dL_law_409 : decode cL_law 409 = .ok (.ireturn, 1) := by decide +kernel
theorem dL_law_410 : decode cL_law 410 = .ok (.aload_n 1, 1) := by decide +kernel
theorem dL_law_411 : decode cL_law 411 = .ok (.aload_n 0, 1) := by decide +kernel
theorem dL_law_412 : decode cL_law 412 = .ok (.iload 4, 2) := by decide +kernel
theorem dL_law_414 : decode cL_law 414 = .ok (.iconst 1, 1) := by decide +kernel
theorem dL_law_415 : decode cL_law 415 = .ok (.iadd, 1) := by decide +kernel
theorem dL_law_416 : decode cL_law 416 = .ok (.iaload, 1) := by decide +kernel
theorem dL_law_417 : decode cL_law 417 = .ok (.aload_n 0, 1) := by decide +kernel
theorem dL_law_418 : decode cL_law 418 = .ok (.iload 4, 2) := by decide +kernel
theorem dL_law_420 : decode cL_law 420 = .ok (.iconst 2, 1) := by decide +kernel
theorem dL_law_421 : decode cL_law 421 = .ok (.iadd, 1) := by decide +kernel
theorem dL_law_422 : decode cL_law 422 = .ok (.iaload, 1) := by decide +kernel
theorem dL_law_423 : decode cL_law 423 = .ok (.aload_n 0, 1) := by decide +kernel
theorem dL_law_424 : decode cL_law 424 = .ok (.iload 4, 2) := by decide +kernel
theorem dL_law_426 : decode cL_law 426 = .ok (.iconst 3, 1) := by decide +kernel
theorem dL_law_427 : decode cL_law 427 = .ok (.iadd, 1) := by decide +kernel
theorem dL_law_428 : decode cL_law 428 = .ok (.iaload, 1) := by decide +kernel
theorem dL_law_429 : decode cL_law 429 = .ok (.invokevirtual 47, 3) := by decide +kernel
theorem dL_law_432 : decode cL_law 432 = .ok (.aload_n 2, 1) := by decide +kernel
theorem dL_law_433 : decode cL_law 433 = .ok (.aload_n 0, 1) := by decide +kernel
theorem dL_law_434 : decode cL_law 434 = .ok (.iload 4, 2) := by decide +kernel
theorem dL_law_436 : decode cL_law 436 = .ok (.iconst 1, 1) := by decide +kernel
theorem dL_law_437 : decode cL_law 437 = .ok (.iadd, 1) := by decide +kernel
theorem dL_law_438 : decode cL_law 438 = .ok (.iaload, 1) := by decide +kernel
theorem dL_law_439 : decode cL_law 439 = .ok (.aload_n 0, 1) := by decide +kernel
theorem dL_law_440 : decode cL_law 440 = .ok (.iload 4, 2) := by decide +kernel
theorem dL_law_442 : decode cL_law 442 = .ok (.iconst 2, 1) := by decide +kernel
theorem dL_law_443 : decode cL_law 443 = .ok (.iadd, 1) := by decide +kernel
theorem dL_law_444 : decode cL_law 444 = .ok (.iaload, 1) := by decide +kernel
theorem dL_law_445 : decode cL_law 445 = .ok (.aload_n 0, 1) := by decide +kernel
theorem dL_law_446 : decode cL_law 446 = .ok (.iload 4, 2) := by decide +kernel
theorem dL_law_448 : decode cL_law 448 = .ok (.iconst 3, 1) := by decide +kernel
theorem dL_law_449 : decode cL_law 449 = .ok (.iadd, 1) := by decide +kernel
theorem dL_law_450 : decode cL_law 450 = .ok (.iaload, 1) := by decide +kernel
theorem dL_law_451 : decode cL_law 451 = .ok (.invokevirtual 51, 3) := by decide +kernel
theorem dL_law_454 : decode cL_law 454 = .ok (.if_icmp .eq 496, 3) := by decide +kernel
theorem dL_law_457 : decode cL_law 457 = .ok (.iconst 0, 1) := by decide +kernel
theorem dL_law_458 : decode cL_law 458 = .ok (.ireturn, 1) := by decide +kernel
theorem dL_law_459 : decode cL_law 459 = .ok (.aload_n 1, 1) := by decide +kernel
theorem dL_law_460 : decode cL_law 460 = .ok (.aload_n 0, 1) := by decide +kernel
theorem dL_law_461 : decode cL_law 461 = .ok (.iload 4, 2) := by decide +kernel
theorem dL_law_463 : decode cL_law 463 = .ok (.iconst 1, 1) := by decide +kernel
theorem dL_law_464 : decode cL_law 464 = .ok (.iadd, 1) := by decide +kernel
theorem dL_law_465 : decode cL_law 465 = .ok (.iaload, 1) := by decide +kernel
theorem dL_law_466 : decode cL_law 466 = .ok (.aload_n 0, 1) := by decide +kernel
theorem dL_law_467 : decode cL_law 467 = .ok (.iload 4, 2) := by decide +kernel
theorem dL_law_469 : decode cL_law 469 = .ok (.iconst 2, 1) := by decide +kernel
theorem dL_law_470 : decode cL_law 470 = .ok (.iadd, 1) := by decide +kernel
theorem dL_law_471 : decode cL_law 471 = .ok (.iaload, 1) := by decide +kernel
theorem dL_law_472 : decode cL_law 472 = .ok (.aload_n 0, 1) := by decide +kernel
theorem dL_law_473 : decode cL_law 473 = .ok (.iload 4, 2) := by decide +kernel
theorem dL_law_475 : decode cL_law 475 = .ok (.iconst 3, 1) := by decide +kernel
theorem dL_law_476 : decode cL_law 476 = .ok (.iadd, 1) := by decide +kernel
theorem dL_law_477 : decode cL_law 477 = .ok (.iaload, 1) := by decide +kernel
theorem dL_law_478 : decode cL_law 478 = .ok (.invokevirtual 52, 3) := by decide +kernel
theorem dL_law_481 : decode cL_law 481 = .ok (.aload_n 2, 1) := by decide +kernel
theorem dL_law_482 : decode cL_law 482 = .ok (.aload_n 0, 1) := by decide +kernel
theorem dL_law_483 : decode cL_law 483 = .ok (.iload 4, 2) := by decide +kernel
theorem dL_law_485 : decode cL_law 485 = .ok (.iconst 1, 1) := by decide +kernel
theorem dL_law_486 : decode cL_law 486 = .ok (.iadd, 1) := by decide +kernel
theorem dL_law_487 : decode cL_law 487 = .ok (.iaload, 1) := by decide +kernel
theorem dL_law_488 : decode cL_law 488 = .ok (.aload_n 0, 1) := by decide +kernel
theorem dL_law_489 : decode cL_law 489 = .ok (.iload 4, 2) := by decide +kernel
theorem dL_law_491 : decode cL_law 491 = .ok (.iconst 2, 1) := by decide +kernel
theorem dL_law_492 : decode cL_law 492 = .ok (.iadd, 1) := by decide +kernel
theorem dL_law_493 : decode cL_law 493 = .ok (.iaload, 1) := by decide +kernel
theorem dL_law_494 : decode cL_law 494 = .ok (.aload_n 0, 1) := by decide +kernel
theorem dL_law_495 : decode cL_law 495 = .ok (.iload 4, 2) := by decide +kernel
theorem dL_law_497 : decode cL_law 497 = .ok (.iconst 3, 1) := by decide +kernel
theorem dL_law_498 : decode cL_law 498 = .ok (.iadd, 1) := by decide +kernel
theorem dL_law_499 : decode cL_law 499 = .ok (.iaload, 1) := by decide +kernel
theorem dL_law_500 : decode cL_law 500 = .ok (.invokevirtual 55, 3) := by decide +kernel
theorem dL_law_503 : decode cL_law 503 = .ok (.if_icmp .eq 447, 3) := by decide +kernel
theorem dL_law_506 : decode cL_law 506 = .ok (.iconst 0, 1) := by decide +kernel
theorem dL_law_507 : decode cL_law 507 = .ok (.ireturn, 1) := by decide +kernel
theorem dL_law_508 : decode cL_law 508 = .ok (.aload_n 1, 1) := by decide +kernel
theorem dL_law_509 : decode cL_law 509 = .ok (.aload_n 0, 1) := by decide +kernel
theorem dL_law_510 : decode cL_law 510 = .ok (.iload 4, 2) := by decide +kernel
theorem dL_law_512 : decode cL_law 512 = .ok (.iconst 1, 1) := by decide +kernel
theorem dL_law_513 : decode cL_law 513 = .ok (.iadd, 1) := by decide +kernel
theorem dL_law_514 : decode cL_law 514 = .ok (.iaload, 1) := by decide +kernel
theorem dL_law_515 : decode cL_law 515 = .ok (.aload_n 0, 1) := by decide +kernel
theorem dL_law_516 : decode cL_law 516 = .ok (.iload 4, 2) := by decide +kernel
theorem dL_law_518 : decode cL_law 518 = .ok (.iconst 2, 1) := by decide +kernel
theorem dL_law_519 : decode cL_law 519 = .ok (.iadd, 1) := by decide +kernel
theorem dL_law_520 : decode cL_law 520 = .ok (.iaload, 1) := by decide +kernel
theorem dL_law_521 : decode cL_law 521 = .ok (.invokevirtual 56, 3) := by decide +kernel
theorem dL_law_524 : decode cL_law 524 = .ok (.aload_n 2, 1) := by decide +kernel
theorem dL_law_525 : decode cL_law 525 = .ok (.aload_n 0, 1) := by decide +kernel
theorem dL_law_526 : decode cL_law 526 = .ok (.iload 4, 2) := by decide +kernel
theorem dL_law_528 : decode cL_law 528 = .ok (.iconst 1, 1) := by decide +kernel
theorem dL_law_529 : decode cL_law 529 = .ok (.iadd, 1) := by decide +kernel
theorem dL_law_530 : decode cL_law 530 = .ok (.iaload, 1) := by decide +kernel
theorem dL_law_531 : decode cL_law 531 = .ok (.aload_n 0, 1) := by decide +kernel
theorem dL_law_532 : decode cL_law 532 = .ok (.iload 4, 2) := by decide +kernel
theorem dL_law_534 : decode cL_law 534 = .ok (.iconst 2, 1) := by decide +kernel
theorem dL_law_535 : decode cL_law 535 = .ok (.iadd, 1) := by decide +kernel
theorem dL_law_536 : decode cL_law 536 = .ok (.iaload, 1) := by decide +kernel
theorem dL_law_537 : decode cL_law 537 = .ok (.invokevirtual 59, 3) := by decide +kernel
theorem dL_law_540 : decode cL_law 540 = .ok (.if_icmp .eq 410, 3) := by decide +kernel
theorem dL_law_543 : decode cL_law 543 = .ok (.iconst 0, 1) := by decide +kernel
theorem dL_law_544 : decode cL_law 544 = .ok (.ireturn, 1) := by decide +kernel
theorem dL_law_545 : decode cL_law 545 = .ok (.aload_n 1, 1) := by decide +kernel
theorem dL_law_546 : decode cL_law 546 = .ok (.aload_n 0, 1) := by decide +kernel
theorem dL_law_547 : decode cL_law 547 = .ok (.iload 4, 2) := by decide +kernel
theorem dL_law_549 : decode cL_law 549 = .ok (.iconst 1, 1) := by decide +kernel
theorem dL_law_550 : decode cL_law 550 = .ok (.iadd, 1) := by decide +kernel
theorem dL_law_551 : decode cL_law 551 = .ok (.iaload, 1) := by decide +kernel
theorem dL_law_552 : decode cL_law 552 = .ok (.invokevirtual 60, 3) := by decide +kernel
theorem dL_law_555 : decode cL_law 555 = .ok (.aload_n 2, 1) := by decide +kernel
theorem dL_law_556 : decode cL_law 556 = .ok (.aload_n 0, 1) := by decide +kernel
theorem dL_law_557 : decode cL_law 557 = .ok (.iload 4, 2) := by decide +kernel
theorem dL_law_559 : decode cL_law 559 = .ok (.iconst 1, 1) := by decide +kernel
theorem dL_law_560 : decode cL_law 560 = .ok (.iadd, 1) := by decide +kernel
theorem dL_law_561 : decode cL_law 561 = .ok (.iaload, 1) := by decide +kernel
theorem dL_law_562 : decode cL_law 562 = .ok (.invokevirtual 63, 3) := by decide +kernel
theorem dL_law_565 : decode cL_law 565 = .ok (.if_icmp .eq 385, 3) := by decide +kernel
theorem dL_law_568 : decode cL_law 568 = .ok (.iconst 0, 1) := by decide +kernel
theorem dL_law_569 : decode cL_law 569 = .ok (.ireturn, 1) := by decide +kernel
theorem dL_law_570 : decode cL_law 570 = .ok (.aload_n 1, 1) := by decide +kernel
theorem dL_law_571 : decode cL_law 571 = .ok (.aload_n 0, 1) := by decide +kernel
theorem dL_law_572 : decode cL_law 572 = .ok (.iload 4, 2) := by decide +kernel
theorem dL_law_574 : decode cL_law 574 = .ok (.iconst 1, 1) := by decide +kernel
theorem dL_law_575 : decode cL_law 575 = .ok (.iadd, 1) := by decide +kernel
theorem dL_law_576 : decode cL_law 576 = .ok (.iaload, 1) := by decide +kernel
theorem dL_law_577 : decode cL_law 577 = .ok (.invokevirtual 64, 3) := by decide +kernel
theorem dL_law_580 : decode cL_law 580 = .ok (.aload_n 2, 1) := by decide +kernel
theorem dL_law_581 : decode cL_law 581 = .ok (.aload_n 0, 1) := by decide +kernel
theorem dL_law_582 : decode cL_law 582 = .ok (.iload 4, 2) := by decide +kernel
theorem dL_law_584 : decode cL_law 584 = .ok (.iconst 1, 1) := by decide +kernel
theorem dL_law_585 : decode cL_law 585 = .ok (.iadd, 1) := by decide +kernel
theorem dL_law_586 : decode cL_law 586 = .ok (.iaload, 1) := by decide +kernel
theorem dL_law_587 : decode cL_law 587 = .ok (.invokevirtual 67, 3) := by decide +kernel
theorem dL_law_590 : decode cL_law 590 = .ok (.if_icmp .eq 360, 3) := by decide +kernel
theorem dL_law_593 : decode cL_law 593 = .ok (.iconst 0, 1) := by decide +kernel
theorem dL_law_594 : decode cL_law 594 = .ok (.ireturn, 1) := by decide +kernel
theorem dL_law_595 : decode cL_law 595 = .ok (.aload_n 1, 1) := by decide +kernel
theorem dL_law_596 : decode cL_law 596 = .ok (.aload_n 0, 1) := by decide +kernel
theorem dL_law_597 : decode cL_law 597 = .ok (.iload 4, 2) := by decide +kernel
theorem dL_law_599 : decode cL_law 599 = .ok (.iconst 1, 1) := by decide +kernel
theorem dL_law_600 : decode cL_law 600 = .ok (.iadd, 1) := by decide +kernel
theorem dL_law_601 : decode cL_law 601 = .ok (.iaload, 1) := by decide +kernel
theorem dL_law_602 : decode cL_law 602 = .ok (.aload_n 0, 1) := by decide +kernel
theorem dL_law_603 : decode cL_law 603 = .ok (.iload 4, 2) := by decide +kernel
theorem dL_law_605 : decode cL_law 605 = .ok (.iconst 2, 1) := by decide +kernel
theorem dL_law_606 : decode cL_law 606 = .ok (.iadd, 1) := by decide +kernel
theorem dL_law_607 : decode cL_law 607 = .ok (.iaload, 1) := by decide +kernel
theorem dL_law_608 : decode cL_law 608 = .ok (.aload_n 3, 1) := by decide +kernel
theorem dL_law_609 : decode cL_law 609 = .ok (.invokestatic 68, 3) := by decide +kernel
theorem dL_law_612 : decode cL_law 612 = .ok (.istore 5, 2) := by decide +kernel
theorem dL_law_614 : decode cL_law 614 = .ok (.aload_n 2, 1) := by decide +kernel
theorem dL_law_615 : decode cL_law 615 = .ok (.aload_n 0, 1) := by decide +kernel
theorem dL_law_616 : decode cL_law 616 = .ok (.iload 4, 2) := by decide +kernel
theorem dL_law_618 : decode cL_law 618 = .ok (.iconst 1, 1) := by decide +kernel
theorem dL_law_619 : decode cL_law 619 = .ok (.iadd, 1) := by decide +kernel
theorem dL_law_620 : decode cL_law 620 = .ok (.iaload, 1) := by decide +kernel
theorem dL_law_621 : decode cL_law 621 = .ok (.aload_n 0, 1) := by decide +kernel
theorem dL_law_622 : decode cL_law 622 = .ok (.iload 4, 2) := by decide +kernel
theorem dL_law_624 : decode cL_law 624 = .ok (.iconst 2, 1) := by decide +kernel
theorem dL_law_625 : decode cL_law 625 = .ok (.iadd, 1) := by decide +kernel
theorem dL_law_626 : decode cL_law 626 = .ok (.iaload, 1) := by decide +kernel
theorem dL_law_627 : decode cL_law 627 = .ok (.invokevirtual 73, 3) := by decide +kernel
theorem dL_law_630 : decode cL_law 630 = .ok (.istore 6, 2) := by decide +kernel
theorem dL_law_632 : decode cL_law 632 = .ok (.aload_n 2, 1) := by decide +kernel
theorem dL_law_633 : decode cL_law 633 = .ok (.invokevirtual 74, 3) := by decide +kernel
theorem dL_law_636 : decode cL_law 636 = .ok (.iload 5, 2) := by decide +kernel
theorem dL_law_638 : decode cL_law 638 = .ok (.if_icmp .eq 5, 3) := by decide +kernel
theorem dL_law_641 : decode cL_law 641 = .ok (.iconst 0, 1) := by decide +kernel
theorem dL_law_642 : decode cL_law 642 = .ok (.ireturn, 1) := by decide +kernel
theorem dL_law_643 : decode cL_law 643 = .ok (.iload 5, 2) := by decide +kernel
theorem dL_law_645 : decode cL_law 645 = .ok (.ifCond .ne 15, 3) := by decide +kernel
theorem dL_law_648 : decode cL_law 648 = .ok (.aload_n 3, 1) := by decide +kernel
theorem dL_law_649 : decode cL_law 649 = .ok (.iconst 0, 1) := by decide +kernel
theorem dL_law_650 : decode cL_law 650 = .ok (.laload, 1) := by decide +kernel
theorem dL_law_651 : decode cL_law 651 = .ok (.iload 6, 2) := by decide +kernel
theorem dL_law_653 : decode cL_law 653 = .ok (.i2l, 1) := by decide +kernel
theorem dL_law_654 : decode cL_law 654 = .ok (.lcmp, 1) := by decide +kernel
theorem dL_law_655 : decode cL_law 655 = .ok (.ifCond .eq 5, 3) := by decide +kernel
theorem dL_law_658 : decode cL_law 658 = .ok (.iconst 0, 1) := by decide +kernel
theorem dL_law_659 : decode cL_law 659 = .ok (.ireturn, 1) := by decide +kernel
theorem dL_law_660 : decode cL_law 660 = .ok (.goto 290, 3) := by decide +kernel
theorem dL_law_663 : decode cL_law 663 = .ok (.aload_n 1, 1) := by decide +kernel
theorem dL_law_664 : decode cL_law 664 = .ok (.aload_n 0, 1) := by decide +kernel
theorem dL_law_665 : decode cL_law 665 = .ok (.iload 4, 2) := by decide +kernel
theorem dL_law_667 : decode cL_law 667 = .ok (.iconst 1, 1) := by decide +kernel
theorem dL_law_668 : decode cL_law 668 = .ok (.iadd, 1) := by decide +kernel
theorem dL_law_669 : decode cL_law 669 = .ok (.iaload, 1) := by decide +kernel
theorem dL_law_670 : decode cL_law 670 = .ok (.aload_n 0, 1) := by decide +kernel
theorem dL_law_671 : decode cL_law 671 = .ok (.iload 4, 2) := by decide +kernel
theorem dL_law_673 : decode cL_law 673 = .ok (.iconst 2, 1) := by decide +kernel
theorem dL_law_674 : decode cL_law 674 = .ok (.iadd, 1) := by decide +kernel
theorem dL_law_675 : decode cL_law 675 = .ok (.iaload, 1) := by decide +kernel
theorem dL_law_676 : decode cL_law 676 = .ok (.invokevirtual 78, 3) := by decide +kernel
theorem dL_law_679 : decode cL_law 679 = .ok (.aload_n 2, 1) := by decide +kernel
theorem dL_law_680 : decode cL_law 680 = .ok (.aload_n 0, 1) := by decide +kernel
theorem dL_law_681 : decode cL_law 681 = .ok (.iload 4, 2) := by decide +kernel
theorem dL_law_683 : decode cL_law 683 = .ok (.iconst 1, 1) := by decide +kernel
theorem dL_law_684 : decode cL_law 684 = .ok (.iadd, 1) := by decide +kernel
theorem dL_law_685 : decode cL_law 685 = .ok (.iaload, 1) := by decide +kernel
theorem dL_law_686 : decode cL_law 686 = .ok (.aload_n 0, 1) := by decide +kernel
theorem dL_law_687 : decode cL_law 687 = .ok (.iload 4, 2) := by decide +kernel
theorem dL_law_689 : decode cL_law 689 = .ok (.iconst 2, 1) := by decide +kernel
theorem dL_law_690 : decode cL_law 690 = .ok (.iadd, 1) := by decide +kernel
theorem dL_law_691 : decode cL_law 691 = .ok (.iaload, 1) := by decide +kernel
theorem dL_law_692 : decode cL_law 692 = .ok (.invokevirtual 81, 3) := by decide +kernel
theorem dL_law_695 : decode cL_law 695 = .ok (.if_icmp .eq 255, 3) := by decide +kernel
theorem dL_law_698 : decode cL_law 698 = .ok (.iconst 0, 1) := by decide +kernel
theorem dL_law_699 : decode cL_law 699 = .ok (.ireturn, 1) := by decide +kernel
theorem dL_law_700 : decode cL_law 700 = .ok (.aload_n 1, 1) := by decide +kernel
theorem dL_law_701 : decode cL_law 701 = .ok (.aload_n 0, 1) := by decide +kernel
theorem dL_law_702 : decode cL_law 702 = .ok (.iload 4, 2) := by decide +kernel
theorem dL_law_704 : decode cL_law 704 = .ok (.iconst 1, 1) := by decide +kernel
theorem dL_law_705 : decode cL_law 705 = .ok (.iadd, 1) := by decide +kernel
theorem dL_law_706 : decode cL_law 706 = .ok (.iaload, 1) := by decide +kernel
theorem dL_law_707 : decode cL_law 707 = .ok (.invokevirtual 82, 3) := by decide +kernel
theorem dL_law_710 : decode cL_law 710 = .ok (.aload_n 2, 1) := by decide +kernel
theorem dL_law_711 : decode cL_law 711 = .ok (.aload_n 0, 1) := by decide +kernel
theorem dL_law_712 : decode cL_law 712 = .ok (.iload 4, 2) := by decide +kernel
theorem dL_law_714 : decode cL_law 714 = .ok (.iconst 1, 1) := by decide +kernel
theorem dL_law_715 : decode cL_law 715 = .ok (.iadd, 1) := by decide +kernel
theorem dL_law_716 : decode cL_law 716 = .ok (.iaload, 1) := by decide +kernel
theorem dL_law_717 : decode cL_law 717 = .ok (.invokevirtual 85, 3) := by decide +kernel
theorem dL_law_720 : decode cL_law 720 = .ok (.if_icmp .eq 230, 3) := by decide +kernel
theorem dL_law_723 : decode cL_law 723 = .ok (.iconst 0, 1) := by decide +kernel
theorem dL_law_724 : decode cL_law 724 = .ok (.ireturn, 1) := by decide +kernel
theorem dL_law_725 : decode cL_law 725 = .ok (.aload_n 1, 1) := by decide +kernel
theorem dL_law_726 : decode cL_law 726 = .ok (.invokevirtual 86, 3) := by decide +kernel
theorem dL_law_729 : decode cL_law 729 = .ok (.aload_n 2, 1) := by decide +kernel
theorem dL_law_730 : decode cL_law 730 = .ok (.invokevirtual 89, 3) := by decide +kernel
theorem dL_law_733 : decode cL_law 733 = .ok (.if_icmp .eq 217, 3) := by decide +kernel
theorem dL_law_736 : decode cL_law 736 = .ok (.iconst 0, 1) := by decide +kernel
theorem dL_law_737 : decode cL_law 737 = .ok (.ireturn, 1) := by decide +kernel
theorem dL_law_738 : decode cL_law 738 = .ok (.aload_n 1, 1) := by decide +kernel
theorem dL_law_739 : decode cL_law 739 = .ok (.aload_n 0, 1) := by decide +kernel
theorem dL_law_740 : decode cL_law 740 = .ok (.iload 4, 2) := by decide +kernel
theorem dL_law_742 : decode cL_law 742 = .ok (.iconst 1, 1) := by decide +kernel
theorem dL_law_743 : decode cL_law 743 = .ok (.iadd, 1) := by decide +kernel
theorem dL_law_744 : decode cL_law 744 = .ok (.iaload, 1) := by decide +kernel
theorem dL_law_745 : decode cL_law 745 = .ok (.invokevirtual 90, 3) := by decide +kernel
theorem dL_law_748 : decode cL_law 748 = .ok (.aload_n 2, 1) := by decide +kernel
theorem dL_law_749 : decode cL_law 749 = .ok (.aload_n 0, 1) := by decide +kernel
theorem dL_law_750 : decode cL_law 750 = .ok (.iload 4, 2) := by decide +kernel
theorem dL_law_752 : decode cL_law 752 = .ok (.iconst 1, 1) := by decide +kernel
theorem dL_law_753 : decode cL_law 753 = .ok (.iadd, 1) := by decide +kernel
theorem dL_law_754 : decode cL_law 754 = .ok (.iaload, 1) := by decide +kernel
theorem dL_law_755 : decode cL_law 755 = .ok (.invokevirtual 93, 3) := by decide +kernel
theorem dL_law_758 : decode cL_law 758 = .ok (.if_icmp .eq 192, 3) := by decide +kernel
theorem dL_law_761 : decode cL_law 761 = .ok (.iconst 0, 1) := by decide +kernel
theorem dL_law_762 : decode cL_law 762 = .ok (.ireturn, 1) := by decide +kernel
theorem dL_law_763 : decode cL_law 763 = .ok (.aload_n 1, 1) := by decide +kernel
theorem dL_law_764 : decode cL_law 764 = .ok (.aload_n 0, 1) := by decide +kernel
theorem dL_law_765 : decode cL_law 765 = .ok (.iload 4, 2) := by decide +kernel
theorem dL_law_767 : decode cL_law 767 = .ok (.iconst 1, 1) := by decide +kernel
theorem dL_law_768 : decode cL_law 768 = .ok (.iadd, 1) := by decide +kernel
theorem dL_law_769 : decode cL_law 769 = .ok (.iaload, 1) := by decide +kernel
theorem dL_law_770 : decode cL_law 770 = .ok (.invokevirtual 94, 3) := by decide +kernel
theorem dL_law_773 : decode cL_law 773 = .ok (.aload_n 2, 1) := by decide +kernel
theorem dL_law_774 : decode cL_law 774 = .ok (.aload_n 0, 1) := by decide +kernel
theorem dL_law_775 : decode cL_law 775 = .ok (.iload 4, 2) := by decide +kernel
theorem dL_law_777 : decode cL_law 777 = .ok (.iconst 1, 1) := by decide +kernel
theorem dL_law_778 : decode cL_law 778 = .ok (.iadd, 1) := by decide +kernel
theorem dL_law_779 : decode cL_law 779 = .ok (.iaload, 1) := by decide +kernel
theorem dL_law_780 : decode cL_law 780 = .ok (.invokevirtual 97, 3) := by decide +kernel
theorem dL_law_783 : decode cL_law 783 = .ok (.if_icmp .eq 167, 3) := by decide +kernel
theorem dL_law_786 : decode cL_law 786 = .ok (.iconst 0, 1) := by decide +kernel
theorem dL_law_787 : decode cL_law 787 = .ok (.ireturn, 1) := by decide +kernel
theorem dL_law_788 : decode cL_law 788 = .ok (.aload_n 1, 1) := by decide +kernel
theorem dL_law_789 : decode cL_law 789 = .ok (.aload_n 0, 1) := by decide +kernel
theorem dL_law_790 : decode cL_law 790 = .ok (.iload 4, 2) := by decide +kernel
theorem dL_law_792 : decode cL_law 792 = .ok (.iconst 1, 1) := by decide +kernel
theorem dL_law_793 : decode cL_law 793 = .ok (.iadd, 1) := by decide +kernel
theorem dL_law_794 : decode cL_law 794 = .ok (.iaload, 1) := by decide +kernel
theorem dL_law_795 : decode cL_law 795 = .ok (.aload_n 0, 1) := by decide +kernel
theorem dL_law_796 : decode cL_law 796 = .ok (.iload 4, 2) := by decide +kernel
theorem dL_law_798 : decode cL_law 798 = .ok (.iconst 2, 1) := by decide +kernel
theorem dL_law_799 : decode cL_law 799 = .ok (.iadd, 1) := by decide +kernel
theorem dL_law_800 : decode cL_law 800 = .ok (.iaload, 1) := by decide +kernel
theorem dL_law_801 : decode cL_law 801 = .ok (.invokevirtual 98, 3) := by decide +kernel
theorem dL_law_804 : decode cL_law 804 = .ok (.aload_n 2, 1) := by decide +kernel
theorem dL_law_805 : decode cL_law 805 = .ok (.aload_n 0, 1) := by decide +kernel
theorem dL_law_806 : decode cL_law 806 = .ok (.iload 4, 2) := by decide +kernel
theorem dL_law_808 : decode cL_law 808 = .ok (.iconst 1, 1) := by decide +kernel
theorem dL_law_809 : decode cL_law 809 = .ok (.iadd, 1) := by decide +kernel
theorem dL_law_810 : decode cL_law 810 = .ok (.iaload, 1) := by decide +kernel
theorem dL_law_811 : decode cL_law 811 = .ok (.aload_n 0, 1) := by decide +kernel
theorem dL_law_812 : decode cL_law 812 = .ok (.iload 4, 2) := by decide +kernel
theorem dL_law_814 : decode cL_law 814 = .ok (.iconst 2, 1) := by decide +kernel
theorem dL_law_815 : decode cL_law 815 = .ok (.iadd, 1) := by decide +kernel
theorem dL_law_816 : decode cL_law 816 = .ok (.iaload, 1) := by decide +kernel
theorem dL_law_817 : decode cL_law 817 = .ok (.invokevirtual 101, 3) := by decide +kernel
theorem dL_law_820 : decode cL_law 820 = .ok (.if_icmp .eq 130, 3) := by decide +kernel
theorem dL_law_823 : decode cL_law 823 = .ok (.iconst 0, 1) := by decide +kernel
theorem dL_law_824 : decode cL_law 824 = .ok (.ireturn, 1) := by decide +kernel
theorem dL_law_825 : decode cL_law 825 = .ok (.aload_n 1, 1) := by decide +kernel
theorem dL_law_826 : decode cL_law 826 = .ok (.invokevirtual 102, 3) := by decide +kernel
theorem dL_law_829 : decode cL_law 829 = .ok (.aload_n 2, 1) := by decide +kernel
theorem dL_law_830 : decode cL_law 830 = .ok (.invokevirtual 105, 3) := by decide +kernel
theorem dL_law_833 : decode cL_law 833 = .ok (.if_icmp .eq 117, 3) := by decide +kernel
theorem dL_law_836 : decode cL_law 836 = .ok (.iconst 0, 1) := by decide +kernel
theorem dL_law_837 : decode cL_law 837 = .ok (.ireturn, 1) := by decide +kernel
theorem dL_law_838 : decode cL_law 838 = .ok (.aload_n 1, 1) := by decide +kernel
theorem dL_law_839 : decode cL_law 839 = .ok (.aload_n 0, 1) := by decide +kernel
theorem dL_law_840 : decode cL_law 840 = .ok (.iload 4, 2) := by decide +kernel
theorem dL_law_842 : decode cL_law 842 = .ok (.iconst 1, 1) := by decide +kernel
theorem dL_law_843 : decode cL_law 843 = .ok (.iadd, 1) := by decide +kernel
theorem dL_law_844 : decode cL_law 844 = .ok (.iaload, 1) := by decide +kernel
theorem dL_law_845 : decode cL_law 845 = .ok (.invokevirtual 106, 3) := by decide +kernel
theorem dL_law_848 : decode cL_law 848 = .ok (.aload_n 2, 1) := by decide +kernel
theorem dL_law_849 : decode cL_law 849 = .ok (.aload_n 0, 1) := by decide +kernel
theorem dL_law_850 : decode cL_law 850 = .ok (.iload 4, 2) := by decide +kernel
theorem dL_law_852 : decode cL_law 852 = .ok (.iconst 1, 1) := by decide +kernel
theorem dL_law_853 : decode cL_law 853 = .ok (.iadd, 1) := by decide +kernel
theorem dL_law_854 : decode cL_law 854 = .ok (.iaload, 1) := by decide +kernel
theorem dL_law_855 : decode cL_law 855 = .ok (.invokevirtual 109, 3) := by decide +kernel
theorem dL_law_858 : decode cL_law 858 = .ok (.if_icmp .eq 92, 3) := by decide +kernel
theorem dL_law_861 : decode cL_law 861 = .ok (.iconst 0, 1) := by decide +kernel
theorem dL_law_862 : decode cL_law 862 = .ok (.ireturn, 1) := by decide +kernel
theorem dL_law_863 : decode cL_law 863 = .ok (.aload_n 1, 1) := by decide +kernel
theorem dL_law_864 : decode cL_law 864 = .ok (.aload_n 0, 1) := by decide +kernel
theorem dL_law_865 : decode cL_law 865 = .ok (.iload 4, 2) := by decide +kernel
theorem dL_law_867 : decode cL_law 867 = .ok (.iconst 1, 1) := by decide +kernel
theorem dL_law_868 : decode cL_law 868 = .ok (.iadd, 1) := by decide +kernel
theorem dL_law_869 : decode cL_law 869 = .ok (.iaload, 1) := by decide +kernel
theorem dL_law_870 : decode cL_law 870 = .ok (.aload_n 0, 1) := by decide +kernel
theorem dL_law_871 : decode cL_law 871 = .ok (.iload 4, 2) := by decide +kernel
theorem dL_law_873 : decode cL_law 873 = .ok (.iconst 2, 1) := by decide +kernel
theorem dL_law_874 : decode cL_law 874 = .ok (.iadd, 1) := by decide +kernel
theorem dL_law_875 : decode cL_law 875 = .ok (.iaload, 1) := by decide +kernel
theorem dL_law_876 : decode cL_law 876 = .ok (.aload_n 0, 1) := by decide +kernel
theorem dL_law_877 : decode cL_law 877 = .ok (.iload 4, 2) := by decide +kernel
theorem dL_law_879 : decode cL_law 879 = .ok (.iconst 3, 1) := by decide +kernel
theorem dL_law_880 : decode cL_law 880 = .ok (.iadd, 1) := by decide +kernel
theorem dL_law_881 : decode cL_law 881 = .ok (.iaload, 1) := by decide +kernel
theorem dL_law_882 : decode cL_law 882 = .ok (.invokevirtual 110, 3) := by decide +kernel
theorem dL_law_885 : decode cL_law 885 = .ok (.aload_n 2, 1) := by decide +kernel
theorem dL_law_886 : decode cL_law 886 = .ok (.aload_n 0, 1) := by decide +kernel
theorem dL_law_887 : decode cL_law 887 = .ok (.iload 4, 2) := by decide +kernel
theorem dL_law_889 : decode cL_law 889 = .ok (.iconst 1, 1) := by decide +kernel
theorem dL_law_890 : decode cL_law 890 = .ok (.iadd, 1) := by decide +kernel
theorem dL_law_891 : decode cL_law 891 = .ok (.iaload, 1) := by decide +kernel
theorem dL_law_892 : decode cL_law 892 = .ok (.aload_n 0, 1) := by decide +kernel
theorem dL_law_893 : decode cL_law 893 = .ok (.iload 4, 2) := by decide +kernel
theorem dL_law_895 : decode cL_law 895 = .ok (.iconst 2, 1) := by decide +kernel
theorem dL_law_896 : decode cL_law 896 = .ok (.iadd, 1) := by decide +kernel
theorem dL_law_897 : decode cL_law 897 = .ok (.iaload, 1) := by decide +kernel
theorem dL_law_898 : decode cL_law 898 = .ok (.aload_n 0, 1) := by decide +kernel
theorem dL_law_899 : decode cL_law 899 = .ok (.iload 4, 2) := by decide +kernel
theorem dL_law_901 : decode cL_law 901 = .ok (.iconst 3, 1) := by decide +kernel
theorem dL_law_902 : decode cL_law 902 = .ok (.iadd, 1) := by decide +kernel
theorem dL_law_903 : decode cL_law 903 = .ok (.iaload, 1) := by decide +kernel
theorem dL_law_904 : decode cL_law 904 = .ok (.invokevirtual 113, 3) := by decide +kernel
theorem dL_law_907 : decode cL_law 907 = .ok (.if_icmp .eq 43, 3) := by decide +kernel
theorem dL_law_910 : decode cL_law 910 = .ok (.iconst 0, 1) := by decide +kernel
theorem dL_law_911 : decode cL_law 911 = .ok (.ireturn, 1) := by decide +kernel
theorem dL_law_912 : decode cL_law 912 = .ok (.aload_n 1, 1) := by decide +kernel
theorem dL_law_913 : decode cL_law 913 = .ok (.aload_n 0, 1) := by decide +kernel
theorem dL_law_914 : decode cL_law 914 = .ok (.iload 4, 2) := by decide +kernel
theorem dL_law_916 : decode cL_law 916 = .ok (.iconst 1, 1) := by decide +kernel
theorem dL_law_917 : decode cL_law 917 = .ok (.iadd, 1) := by decide +kernel
theorem dL_law_918 : decode cL_law 918 = .ok (.iaload, 1) := by decide +kernel
theorem dL_law_919 : decode cL_law 919 = .ok (.invokevirtual 114, 3) := by decide +kernel
theorem dL_law_922 : decode cL_law 922 = .ok (.aload_n 2, 1) := by decide +kernel
theorem dL_law_923 : decode cL_law 923 = .ok (.aload_n 0, 1) := by decide +kernel
theorem dL_law_924 : decode cL_law 924 = .ok (.iload 4, 2) := by decide +kernel
theorem dL_law_926 : decode cL_law 926 = .ok (.iconst 1, 1) := by decide +kernel
theorem dL_law_927 : decode cL_law 927 = .ok (.iadd, 1) := by decide +kernel
theorem dL_law_928 : decode cL_law 928 = .ok (.iaload, 1) := by decide +kernel
theorem dL_law_929 : decode cL_law 929 = .ok (.invokevirtual 117, 3) := by decide +kernel
theorem dL_law_932 : decode cL_law 932 = .ok (.if_icmp .eq 18, 3) := by decide +kernel
theorem dL_law_935 : decode cL_law 935 = .ok (.iconst 0, 1) := by decide +kernel
theorem dL_law_936 : decode cL_law 936 = .ok (.ireturn, 1) := by decide +kernel
theorem dL_law_937 : decode cL_law 937 = .ok (.aload_n 1, 1) := by decide +kernel
theorem dL_law_938 : decode cL_law 938 = .ok (.invokevirtual 118, 3) := by decide +kernel
theorem dL_law_941 : decode cL_law 941 = .ok (.aload_n 2, 1) := by decide +kernel
theorem dL_law_942 : decode cL_law 942 = .ok (.invokevirtual 121, 3) := by decide +kernel
theorem dL_law_945 : decode cL_law 945 = .ok (.if_icmp .eq 5, 3) := by decide +kernel
theorem dL_law_948 : decode cL_law 948 = .ok (.iconst 0, 1) := by decide +kernel
theorem dL_law_949 : decode cL_law 949 = .ok (.ireturn, 1) := by decide +kernel
theorem dL_law_950 : decode cL_law 950 = .ok (.iinc 4 6, 3) := by decide +kernel
theorem dL_law_953 : decode cL_law 953 = .ok (.goto (-930), 3) := by decide +kernel
theorem dL_law_956 : decode cL_law 956 = .ok (.iconst 1, 1) := by decide +kernel
theorem dL_law_957 : decode cL_law 957 = .ok (.ireturn, 1) := by decide +kernel
end
section
/-! THE WORLD: the class's and the reference's objects as ONE list of 57 cells. A state σ gives the int at place j of cell k; references are fixed. -/
abbrev iv_S : Type := Nat → Nat → Int32
abbrev iv_V : Type := Nat ⊕ Int32
def iv_e (a : Nat → Nat) (v : iv_V) : Value := match v with
  | .inl k => .ref (a k)
  | .inr x => .int x
def iv_u (σ : iv_S) (k j : Nat) (v : Int32) : iv_S := fun q => if q = k then upd (σ k) j v else σ q
def iv_L : List ((Bool × Nat) ⊕ (Nat × List (Option Nat))) := [
  .inr (6, [some 1, some 2, some 3, some 12, some 18, some 24, some 29, none]),
  .inl (false, 5), .inl (false, 24),
  .inr (0, [some 4, some 7, some 8, some 9, some 10, some 11]),
  .inr (4, [some 5, some 6, none]), .inl (false, 6), .inl (false, 6),
  .inl (false, 6), .inl (false, 6), .inl (false, 6), .inl (false, 6), .inl (false, 6),
  .inr (3, [some 13, some 14, some 15, some 16, some 17, none]),
  .inl (false, 30), .inl (false, 30), .inl (true, 30), .inl (false, 30), .inl (false, 30),
  .inr (1, [some 19, some 20, some 21, some 22, some 23, none, none]),
  .inl (false, 12), .inl (false, 12), .inl (false, 12), .inl (false, 12), .inl (false, 12),
  .inr (5, [some 25, some 26, some 27, some 28, none, none, none, none]),
  .inl (false, 6), .inl (true, 6), .inl (false, 6), .inl (false, 6),
  .inr (2, [some 30, some 33, some 36, none]),
  .inr (4, [some 31, some 32, none]), .inl (false, 12), .inl (false, 12),
  .inr (4, [some 34, some 35, none]), .inl (false, 8), .inl (false, 8),
  .inl (false, 12),
  .inr (7, [some 38, none, some 39, some 40, some 41, some 42, none, some 43, some 44, none, some 45, none, some 46, none, some 47, none, some 48, some 49, none, some 50, some 51, none, none, none, some 52, some 53, some 54, some 55, some 56, none]),
  .inl (false, 42), .inl (false, 30), .inl (false, 30), .inl (false, 30), .inl (true, 30), .inl (false, 5), .inl (false, 24),
  .inl (false, 12), .inl (false, 12), .inl (false, 6), .inl (false, 12), .inl (false, 12), .inl (false, 8), .inl (false, 8),
  .inl (true, 30), .inl (false, 8), .inl (false, 3380), .inl (false, 6), .inl (false, 6)]
def iv_lay (k : Nat) : (Bool × Nat) ⊕ (Nat × List (Option Nat)) := iv_L.getD k (.inr (99, []))
theorem iv_lay_big {k : Nat} (h : ¬ k < 57) : iv_lay k = .inr (99, []) := by
  have hl : iv_L.length = 57 := rfl
  unfold iv_lay
  rw [List.getD_eq_getElem?_getD, List.getElem?_eq_none (by omega)]
  rfl
def iv_flds (a : Nat → Nat) (f : Nat → Int32) : List (Option Nat) → Nat → List Value
  | [], _ => []
  | some q :: r, j => .ref (a q) :: iv_flds a f r (j + 1)
  | none :: r, j => .int (f j) :: iv_flds a f r (j + 1)
def iv_fv (a : Nat → Nat) (f : Nat → Int32) (j : Nat) (o : Option Nat) : Value := match o with
  | some q => .ref (a q)
  | none => .int (f j)
theorem iv_flds_get (a : Nat → Nat) (f : Nat → Int32) : ∀ (fs : List (Option Nat)) (j i : Nat), (iv_flds a f fs j)[i]? = (fs[i]?).map (iv_fv a f (j + i))
  | [], j, i => by simp [iv_flds]
  | some q :: r, j, 0 => by simp [iv_flds, iv_fv]
  | none :: r, j, 0 => by simp [iv_flds, iv_fv]
  | some q :: r, j, i + 1 => by
    simp only [iv_flds, List.getElem?_cons_succ, iv_flds_get a f r (j + 1) i]
    rw [show j + 1 + i = j + (i + 1) by omega]
  | none :: r, j, i + 1 => by
    simp only [iv_flds, List.getElem?_cons_succ, iv_flds_get a f r (j + 1) i]
    rw [show j + 1 + i = j + (i + 1) by omega]
theorem iv_flds_len (a : Nat → Nat) (f : Nat → Int32) : ∀ (fs : List (Option Nat)) (j : Nat), (iv_flds a f fs j).length = fs.length
  | [], j => rfl
  | some q :: r, j => by simp [iv_flds, iv_flds_len a f r (j + 1)]
  | none :: r, j => by simp [iv_flds, iv_flds_len a f r (j + 1)]
theorem iv_flds_set (a : Nat → Nat) (f : Nat → Int32) (fs : List (Option Nat)) (i : Nat) (x : Int32) (h : fs[i]? = some none) : (iv_flds a f fs 0).set i (.int x) = iv_flds a (upd f i x) fs 0 := by
  apply List.ext_getElem?
  intro t
  have hl : i < fs.length := (List.getElem?_eq_some_iff.mp h).1
  by_cases ht : i = t
  · subst ht
    rw [List.getElem?_set_self (by rw [iv_flds_len]; exact hl), iv_flds_get, h]
    simp [iv_fv, upd]
  · rw [List.getElem?_set_ne ht, iv_flds_get, iv_flds_get]
    cases fs[t]? with
    | none => rfl
    | some o =>
      cases o with
      | none => simp [iv_fv, upd, Ne.symm ht]
      | some q => simp [iv_fv]
def iv_en (a : Nat → Nat) (cI cZ : ClassId) (σ : iv_S) (k : Nat) : va_E := match iv_lay k with
  | .inl (z, n) => .inl (if z then cZ else cI, n, .inl (σ k))
  | .inr (ci, fs) => .inr (ci, iv_flds a (σ k) fs 0)
def iv_w (a : Nat → Nat) (cI cZ : ClassId) (σ : iv_S) : va_W := (List.range 57).map fun k => (a k, iv_en a cI cZ σ k)
theorem iv_w_get {a : Nat → Nat} {cI cZ : ClassId} {σ : iv_S} {k : Nat} (h : k < 57) : (iv_w a cI cZ σ)[k]? = some (a k, iv_en a cI cZ σ k) := by
  simp [iv_w, List.getElem?_map, List.getElem?_range h]
theorem iv_en_eq {a : Nat → Nat} {cI cZ : ClassId} {σ σ' : iv_S} {k : Nat} (h : σ' k = σ k) : iv_en a cI cZ σ' k = iv_en a cI cZ σ k := by
  unfold iv_en
  rw [h]
theorem iv_w_set {a : Nat → Nat} {cI cZ : ClassId} {σ σ' : iv_S} {k : Nat} {e : va_E} (h : k < 57) (he : e = iv_en a cI cZ σ' k) (ho : ∀ q, q ≠ k → σ' q = σ q) : (iv_w a cI cZ σ).set k (a k, e) = iv_w a cI cZ σ' := by
  apply List.ext_getElem?
  intro t
  have hl : (iv_w a cI cZ σ).length = 57 := by simp [iv_w]
  by_cases ht : k = t
  · subst ht
    rw [List.getElem?_set_self (by rw [hl]; exact h), iv_w_get h, he]
  · rw [List.getElem?_set_ne ht]
    by_cases h5 : t < 57
    · rw [iv_w_get h5, iv_w_get h5, iv_en_eq (ho t (Ne.symm ht))]
    · rw [List.getElem?_eq_none (by rw [hl]; omega), List.getElem?_eq_none (by simp [iv_w]; omega)]
theorem iv_u_ne {σ : iv_S} {k j : Nat} {v : Int32} {q : Nat} (h : q ≠ k) : iv_u σ k j v q = σ q := by simp [iv_u, h]
theorem iv_u_eq {σ : iv_S} {k j : Nat} {v : Int32} : iv_u σ k j v k = upd (σ k) j v := by simp [iv_u]
def iv_ar (k : Nat) : Option (Bool × Nat) := match iv_lay k with
  | .inl x => some x
  | .inr _ => none
def iv_cls (k : Nat) : Option Nat := match iv_lay k with
  | .inl _ => none
  | .inr x => some x.1
def iv_gf (fl : Nat → Option (Nat × Nat)) (idx k : Nat) : Option (Option Nat × Nat) := match fl idx with
  | none => none
  | some x => match iv_lay k with
    | .inl _ => none
    | .inr y => if y.1 = x.1 then (y.2[x.2]?).map (fun o => (o, x.2)) else none
theorem iv_ar_spec {k : Nat} {z : Bool × Nat} (h : iv_ar k = some z) : k < 57 ∧ ∀ (a : Nat → Nat) (cI cZ : ClassId) (σ : iv_S), iv_en a cI cZ σ k = .inl (if z.1 then cZ else cI, z.2, .inl (σ k)) := by
  unfold iv_ar at h
  have hk : k < 57 := by
    rcases Nat.lt_or_ge k 57 with q | q
    · exact q
    · rw [iv_lay_big (by omega)] at h; cases h
  refine ⟨hk, fun a cI cZ σ => ?_⟩
  unfold iv_en
  cases hl : iv_lay k with
  | inl x => rw [hl] at h; cases h; rfl
  | inr x => rw [hl] at h; cases h
theorem iv_gf_spec {fl : Nat → Option (Nat × Nat)} {idx k : Nat} {z : Option Nat × Nat} (h : iv_gf fl idx k = some z) : ∃ (ci : Nat) (fs : List (Option Nat)), fl idx = some (ci, z.2) ∧ iv_lay k = .inr (ci, fs) ∧ fs[z.2]? = some z.1 := by
  unfold iv_gf at h
  cases hf : fl idx with
  | none => rw [hf] at h; cases h
  | some x =>
    rw [hf] at h
    cases hl : iv_lay k with
    | inl y => rw [hl] at h; cases h
    | inr y =>
      rw [hl] at h
      dsimp only at h
      split at h
      · next hc =>
        obtain ⟨o, ho, hz⟩ := Option.map_eq_some_iff.mp h
        subst hz
        obtain ⟨c1, f1⟩ := y
        obtain ⟨c2, j2⟩ := x
        dsimp only at hc ho ⊢
        subst hc
        exact ⟨_, _, rfl, rfl, ho⟩
      · cases h
theorem iv_lt_of {k ci : Nat} {fs : List (Option Nat)} {j : Nat} {o : Option Nat} (h : iv_lay k = .inr (ci, fs)) (hj : fs[j]? = some o) : k < 57 := by
  rcases Nat.lt_or_ge k 57 with q | q
  · exact q
  · rw [iv_lay_big (by omega)] at h
    cases h
    simp at hj
end
section
/-! A METHOD'S STEPS as a predicate over the state: iv_st says what one instruction asks and gives; iv_Sf is its least fixed point. -/
abbrev iv_X : Type := Launch × va_G × (Nat → Nat) × ClassId × ClassId
abbrev iv_M : Type := MethodName × ByteArray × Nat × Option FieldType
abbrev iv_C : Type := Nat × Option Nat × Bool × iv_M
abbrev iv_B : Type := (Nat → Option (Nat × Nat)) × (Nat → Option Int32) × (Nat → Option iv_C)
abbrev iv_Ls : Type := List (Option iv_V)
def iv_g : List Cond := lw_tbl.filter goodWord
def iv_N : List Cond := [.methodLinkNest RX0 40 yX6_isWithin RX6, .methodLinkNest RX3 32 yX6_isWithin RX6, .methodLinkNest RX5 48 yX6_isWithin RX6]
def iv_T (cI cZ : ClassId) : List (ClassId × FieldType) := [(cI, .int), (cZ, .boolean)]
def iv_rm (d : Nat) : Room := { frames := d, cells := 0, slots := 0, locals := 40 * d }
def iv_Pc (X : iv_X) (av : List iv_V) (σ : iv_S) (sz : Nat) : Array Value → State → Prop := va_Pc (av.map (iv_e X.2.2.1)) (fun U => U.heap.size = sz ∧ va_P X.2.1 vwCl (iv_w X.2.2.1 X.2.2.2.1 X.2.2.2.2 σ) U.heap ∧ va_K X.2.1 vwCl (iv_T X.2.2.2.1 X.2.2.2.2) U ∧ va_D (fun _ => True) (iv_w X.2.2.1 X.2.2.2.1 X.2.2.2.2 σ) ∧ ∀ w ∈ iv_N, va_Nw w U)
def iv_A (X : iv_X) (σ : iv_S) (sz : Nat) : Nat → Prop := va_A (iv_w X.2.2.1 X.2.2.2.1 X.2.2.2.2 σ) sz
/-- what is given back: nothing, where the method is void -/
def iv_ov (ret : Option FieldType) (r : Int32) : Option Value := match ret with
  | none => none
  | some _ => some (.int r)
def iv_Qc (X : iv_X) (ret : Option FieldType) (σ : iv_S) (sz : Nat) (Q : Int32 → iv_S → Prop) : Array Value → State → Outcome → State → Prop := fun _ st oc t =>
  (∃ (r : Int32) (u : iv_S), oc = .returned (iv_ov ret r) ∧ Q r u ∧ (va_P X.2.1 vwCl (iv_w X.2.2.1 X.2.2.2.1 X.2.2.2.2 u) t.heap ∧ va_K X.2.1 vwCl (iv_T X.2.2.2.1 X.2.2.2.2) t ∧ va_D (iv_A X σ sz) (iv_w X.2.2.1 X.2.2.2.1 X.2.2.2.2 u))) ∧ va_F (iv_A X σ sz) st t
/-- a method's contract over the world -/
def iv_Ct (X : iv_X) (y : iv_M) (d : Nat) (av : List iv_V) (σ : iv_S) (Q : Int32 → iv_S → Prop) : Prop :=
  ∀ sz : Nat, Met X.1 y.1 (.code y.1 y.2.1 y.2.2.1 y.2.2.2 :: iv_g) (iv_rm d) (iv_Pc X av σ sz) (iv_Qc X y.2.2.2 σ sz Q) 0 0 (iv_A X σ sz)
def iv_o {α : Type} (o : Option α) (f : α → Prop) : Prop := match o with
  | some x => f x
  | none => False
def iv_p1 (st : List iv_V) (f : Int32 → List iv_V → Prop) : Prop := match st with
  | .inr x :: r => f x r
  | _ => False
def iv_p2 (st : List iv_V) (f : Int32 → Int32 → List iv_V → Prop) : Prop := match st with
  | .inr y :: .inr x :: r => f x y r
  | _ => False
def iv_pr (st : List iv_V) (f : Nat → List iv_V → Prop) : Prop := match st with
  | .inl k :: r => f k r
  | _ => False
def iv_pa (st : List iv_V) (f : Nat → Int32 → List iv_V → Prop) : Prop := match st with
  | .inr i :: .inl k :: r => f k i r
  | _ => False
def iv_ps (st : List iv_V) (f : Nat → Int32 → Int32 → List iv_V → Prop) : Prop := match st with
  | .inr x :: .inr i :: .inl k :: r => f k i x r
  | _ => False
def iv_d1 (st : List iv_V) (f : iv_V → List iv_V → Prop) : Prop := match st with
  | v :: r => f v r
  | _ => False
def iv_d2 (st : List iv_V) (f : iv_V → iv_V → List iv_V → Prop) : Prop := match st with
  | v :: w :: r => f v w r
  | _ => False
def iv_r1 (st : List iv_V) (f : Int32 → Prop) : Prop := match st with
  | [.inr x] => f x
  | _ => False
def iv_li (ls : iv_Ls) (i : Nat) (f : Int32 → Prop) : Prop := match ls[i]? with
  | some (some (.inr x)) => f x
  | _ => False
def iv_lr (ls : iv_Ls) (i : Nat) (f : Nat → Prop) : Prop := match ls[i]? with
  | some (some (.inl k)) => f k
  | _ => False
def iv_q (c : Prop) [Decidable c] (A : Prop) : Prop := if c then A else False
theorem iv_q_spec {c : Prop} [Decidable c] {A : Prop} (h : iv_q c A) : c ∧ A := by
  unfold iv_q at h
  split at h
  · next hc => exact ⟨hc, h⟩
  · exact h.elim
theorem iv_q_in {c : Prop} [Decidable c] {A : Prop} (hc : c) (h : A) : iv_q c A := by
  unfold iv_q
  rw [if_pos hc]
  exact h
def iv_j (pc : Nat) (off : Int) (f : Nat → Prop) : Prop := iv_q (0 ≤ (pc : Int) + off) (f ((pc : Int) + off).toNat)
def iv_br (c : Prop) (A B : Prop) : Prop := (c → A) ∧ (¬ c → B)
def iv_c1 (c : ClassFile.Cond) (x : Int32) : Prop := match c with
  | .eq => x = 0
  | .ne => ¬ x = 0
  | .lt => x < 0
  | .ge => 0 ≤ x
  | .gt => 0 < x
  | .le => x ≤ 0
def iv_c2 (c : ClassFile.Cond) (x y : Int32) : Prop := match c with
  | .eq => x = y
  | .ne => ¬ x = y
  | .lt => x < y
  | .ge => y ≤ x
  | .gt => y < x
  | .le => x ≤ y
def iv_sw (x : Int32) (pc : Nat) (f : Nat → Prop) : Int → List Int → Prop
  | _, [] => True
  | lo, o :: os => (x = Int32.ofInt lo → iv_j pc o f) ∧ iv_sw x pc f (lo + 1) os
def iv_push (vd : Bool) (r : Int32) (st : List iv_V) : List iv_V := match vd with
  | true => st
  | false => .inr r :: st
def iv_gv (σ : iv_S) (k : Nat) (z : Option Nat × Nat) : iv_V := match z.1 with
  | some q => .inl q
  | none => .inr (σ k z.2)
def iv_rk (ret : Option FieldType) (v : Int32) : Prop := match ret with
  | some .int => True
  | some .boolean => v = 0 ∨ v = 1
  | _ => False
/-- a call: n values from the stack; ck: what kind of receiver -/
def iv_call (X : iv_X) (d : Nat) (z : iv_C) (st : List iv_V) (σ : iv_S) (K : List iv_V → iv_S → Prop) : Prop :=
  z.1 ≤ st.length ∧ (st.drop z.1).length ≤ 8 ∧ ∃ Q : Int32 → iv_S → Prop, iv_Ct X z.2.2.2 d (st.take z.1).reverse σ Q ∧ ∀ r σ', Q r σ' → K (iv_push z.2.2.1 r (st.drop z.1)) σ'
def iv_rc (z : iv_C) (st : List iv_V) : Prop := match (st.take z.1).reverse with
  | .inl k :: _ => iv_cls k = z.2.1 ∧ z.2.1 ≠ none
  | _ => False
def iv_si (X : iv_X) (d : Nat) (y : iv_M) (b : iv_B) (Q : Int32 → iv_S → Prop) (k : Nat → iv_Ls → List iv_V → iv_S → Prop) (pc : Nat) (ls : iv_Ls) (st : List iv_V) (σ : iv_S) (i : Instr) (n : Nat) : Prop :=
  match i with
  | .iconst v => iv_q (n = 1) <| k (pc + 1) ls (.inr (Int32.ofInt v) :: st) σ
  | .bipush v => iv_q (n = 2) <| k (pc + 2) ls (.inr (Int8.ofInt v).toInt32 :: st) σ
  | .sipush v => iv_q (n = 3) <| k (pc + 3) ls (.inr (Int16.ofInt v).toInt32 :: st) σ
  | .ldc idx => iv_q (n = 2) <| iv_o (b.2.1 idx) fun v => k (pc + 2) ls (.inr v :: st) σ
  | .ldc_w idx => iv_q (n = 3) <| iv_o (b.2.1 idx) fun v => k (pc + 3) ls (.inr v :: st) σ
  | .iload_n j => iv_q (n = 1) <| iv_li ls j.val fun x => k (pc + 1) ls (.inr x :: st) σ
  | .iload j => iv_q (n = 2) <| iv_li ls j fun x => k (pc + 2) ls (.inr x :: st) σ
  | .aload_n j => iv_q (n = 1) <| iv_lr ls j.val fun q => k (pc + 1) ls (.inl q :: st) σ
  | .aload j => iv_q (n = 2) <| iv_lr ls j fun q => k (pc + 2) ls (.inl q :: st) σ
  | .istore_n j => iv_q (n = 1) <| iv_q (j.val < y.2.2.1) <| iv_p1 st fun x r => k (pc + 1) (ls.set j.val (some (.inr x))) r σ
  | .istore j => iv_q (n = 2) <| iv_q (j < y.2.2.1) <| iv_p1 st fun x r => k (pc + 2) (ls.set j (some (.inr x))) r σ
  | .iinc j v => iv_q (n = 3) <| iv_q (j < y.2.2.1) <| iv_li ls j fun x => k (pc + 3) (ls.set j (some (.inr (x + Int32.ofInt v)))) st σ
  | .iadd => iv_q (n = 1) <| iv_p2 st fun x y r => k (pc + 1) ls (.inr (x + y) :: r) σ
  | .isub => iv_q (n = 1) <| iv_p2 st fun x y r => k (pc + 1) ls (.inr (x - y) :: r) σ
  | .imul => iv_q (n = 1) <| iv_p2 st fun x y r => k (pc + 1) ls (.inr (x * y) :: r) σ
  | .iand => iv_q (n = 1) <| iv_p2 st fun x y r => k (pc + 1) ls (.inr (x &&& y) :: r) σ
  | .ior => iv_q (n = 1) <| iv_p2 st fun x y r => k (pc + 1) ls (.inr (x ||| y) :: r) σ
  | .ixor => iv_q (n = 1) <| iv_p2 st fun x y r => k (pc + 1) ls (.inr (x ^^^ y) :: r) σ
  | .irem => iv_q (n = 1) <| iv_p2 st fun x y r => ¬ y = 0 ∧ k (pc + 1) ls (.inr (x - x / y * y) :: r) σ
  | .ishl => iv_q (n = 1) <| iv_p2 st fun x y r => k (pc + 1) ls (.inr (x <<< (y &&& 31)) :: r) σ
  | .ishr => iv_q (n = 1) <| iv_p2 st fun x y r => k (pc + 1) ls (.inr (x >>> (y &&& 31)) :: r) σ
  | .iushr => iv_q (n = 1) <| iv_p2 st fun x y r => k (pc + 1) ls (.inr (x.toUInt32 >>> (y.toUInt32 &&& Int32.toUInt32 31)).toInt32 :: r) σ
  | .ineg => iv_q (n = 1) <| iv_p1 st fun x r => k (pc + 1) ls (.inr (-x) :: r) σ
  | .dup => iv_q (n = 1) <| iv_d1 st fun v r => k (pc + 1) ls (v :: v :: r) σ
  | .dup2 => iv_q (n = 1) <| iv_d2 st fun v w r => k (pc + 1) ls (v :: w :: v :: w :: r) σ
  | .pop => iv_q (n = 1) <| iv_d1 st fun _ r => k (pc + 1) ls r σ
  | .ifCond c off => iv_q (n = 3) <| iv_q (0 ≤ (pc : Int) + off) <| iv_p1 st fun x r => iv_br (iv_c1 c x) (k ((pc : Int) + off).toNat ls r σ) (k (pc + 3) ls r σ)
  | .if_icmp c off => iv_q (n = 3) <| iv_q (0 ≤ (pc : Int) + off) <| iv_p2 st fun x y r => iv_br (iv_c2 c x y) (k ((pc : Int) + off).toNat ls r σ) (k (pc + 3) ls r σ)
  | .goto off => iv_q (n = 3) <| iv_j pc off fun t => k t ls st σ
  | .getfield idx => iv_q (n = 3) <| iv_pr st fun q r => iv_o (iv_gf b.1 idx q) fun z => k (pc + 3) ls (iv_gv σ q z :: r) σ
  | .putfield idx => iv_q (n = 3) <| iv_pa st fun q x r => iv_o (iv_gf b.1 idx q) fun z => z.1 = none ∧ k (pc + 3) ls r (iv_u σ q z.2 x)
  | .iaload => iv_q (n = 1) <| iv_pa st fun q i r => iv_o (iv_ar q) fun z => z.1 = false ∧ vp_in i z.2 ∧ k (pc + 1) ls (.inr (σ q i.toNatClampNeg) :: r) σ
  | .baload => iv_q (n = 1) <| iv_pa st fun q i r => iv_o (iv_ar q) fun z => z.1 = true ∧ vp_in i z.2 ∧ k (pc + 1) ls (.inr (σ q i.toNatClampNeg) :: r) σ
  | .iastore => iv_q (n = 1) <| iv_ps st fun q i x r => iv_o (iv_ar q) fun z => z.1 = false ∧ vp_in i z.2 ∧ k (pc + 1) ls r (iv_u σ q i.toNatClampNeg x)
  | .bastore => iv_q (n = 1) <| iv_ps st fun q i x r => iv_o (iv_ar q) fun z => z.1 = true ∧ vp_in i z.2 ∧ k (pc + 1) ls r (iv_u σ q i.toNatClampNeg (vp_nar .boolean x))
  | .arraylength => iv_q (n = 1) <| iv_pr st fun q r => iv_o (iv_ar q) fun z => k (pc + 1) ls (.inr (nI z.2) :: r) σ
  | .tableswitch dflt lo hi offs => iv_p1 st fun x r => iv_q (hi < lo + offs.toList.length) <| ((x.toInt < lo ∨ hi < x.toInt) → iv_j pc dflt fun t => k t ls r σ) ∧ iv_sw x pc (fun t => k t ls r σ) lo offs.toList
  | .invokevirtual idx => iv_q (n = 3) <| iv_o (b.2.2 idx) fun z => iv_rc z st ∧ iv_call X d z st σ fun st' σ' => k (pc + 3) ls st' σ'
  | .invokestatic idx => iv_q (n = 3) <| iv_o (b.2.2 idx) fun z => z.2.1 = none ∧ iv_call X d z st σ fun st' σ' => k (pc + 3) ls st' σ'
  | .ireturn => iv_q (n = 1) <| iv_r1 st fun v => iv_rk y.2.2.2 v ∧ Q v σ
  | .return_ => iv_q (n = 1) <| st = [] ∧ y.2.2.2 = none ∧ Q 0 σ
  | _ => False
def iv_st (X : iv_X) (d : Nat) (y : iv_M) (b : iv_B) (Q : Int32 → iv_S → Prop) (k : Nat → iv_Ls → List iv_V → iv_S → Prop) (pc : Nat) (ls : iv_Ls) (st : List iv_V) (σ : iv_S) : Prop :=
  match decode y.2.1 pc with
  | .ok x => iv_si X d y b Q k pc ls st σ x.1 x.2
  | _ => False
theorem ie_st {X : iv_X} {d : Nat} {y : iv_M} {b : iv_B} {Q : Int32 → iv_S → Prop} {k : Nat → iv_Ls → List iv_V → iv_S → Prop} {pc : Nat} {ls : iv_Ls} {st : List iv_V} {σ : iv_S} {i : Instr} {n : Nat} (h : decode y.2.1 pc = .ok (i, n)) : iv_st X d y b Q k pc ls st σ = iv_si X d y b Q k pc ls st σ i n := by
  unfold iv_st
  rw [h]
def iv_Sf (X : iv_X) (d : Nat) (y : iv_M) (b : iv_B) (Q : Int32 → iv_S → Prop) (pc : Nat) (ls : iv_Ls) (st : List iv_V) (σ : iv_S) : Prop :=
  ∀ P : Nat → iv_Ls → List iv_V → iv_S → Prop, (∀ pc ls st σ, iv_st X d y b Q P pc ls st σ → P pc ls st σ) → P pc ls st σ
-- monotone
theorem iv_o_mono {α : Type} {o : Option α} {f g : α → Prop} (h : ∀ x, f x → g x) (hf : iv_o o f) : iv_o o g := by
  cases o with
  | none => exact hf
  | some x => exact h x hf
theorem iv_p1_spec {st : List iv_V} {f : Int32 → List iv_V → Prop} (h : iv_p1 st f) : ∃ x r, st = .inr x :: r ∧ f x r := by
  unfold iv_p1 at h
  split at h
  · exact ⟨_, _, rfl, h⟩
  · exact h.elim
theorem iv_p2_spec {st : List iv_V} {f : Int32 → Int32 → List iv_V → Prop} (h : iv_p2 st f) : ∃ x y r, st = .inr y :: .inr x :: r ∧ f x y r := by
  unfold iv_p2 at h
  split at h
  · exact ⟨_, _, _, rfl, h⟩
  · exact h.elim
theorem iv_pr_spec {st : List iv_V} {f : Nat → List iv_V → Prop} (h : iv_pr st f) : ∃ k r, st = .inl k :: r ∧ f k r := by
  unfold iv_pr at h
  split at h
  · exact ⟨_, _, rfl, h⟩
  · exact h.elim
theorem iv_pa_spec {st : List iv_V} {f : Nat → Int32 → List iv_V → Prop} (h : iv_pa st f) : ∃ k i r, st = .inr i :: .inl k :: r ∧ f k i r := by
  unfold iv_pa at h
  split at h
  · exact ⟨_, _, _, rfl, h⟩
  · exact h.elim
theorem iv_ps_spec {st : List iv_V} {f : Nat → Int32 → Int32 → List iv_V → Prop} (h : iv_ps st f) : ∃ k i x r, st = .inr x :: .inr i :: .inl k :: r ∧ f k i x r := by
  unfold iv_ps at h
  split at h
  · exact ⟨_, _, _, _, rfl, h⟩
  · exact h.elim
theorem iv_d1_spec {st : List iv_V} {f : iv_V → List iv_V → Prop} (h : iv_d1 st f) : ∃ v r, st = v :: r ∧ f v r := by
  unfold iv_d1 at h
  split at h
  · exact ⟨_, _, rfl, h⟩
  · exact h.elim
theorem iv_d2_spec {st : List iv_V} {f : iv_V → iv_V → List iv_V → Prop} (h : iv_d2 st f) : ∃ v w r, st = v :: w :: r ∧ f v w r := by
  unfold iv_d2 at h
  split at h
  · exact ⟨_, _, _, rfl, h⟩
  · exact h.elim
theorem iv_r1_spec {st : List iv_V} {f : Int32 → Prop} (h : iv_r1 st f) : ∃ x, st = [.inr x] ∧ f x := by
  unfold iv_r1 at h
  split at h
  · exact ⟨_, rfl, h⟩
  · exact h.elim
theorem iv_li_spec {ls : iv_Ls} {i : Nat} {f : Int32 → Prop} (h : iv_li ls i f) : ∃ x, ls[i]? = some (some (.inr x)) ∧ f x := by
  unfold iv_li at h
  split at h
  · next x hx => exact ⟨x, hx, h⟩
  · exact h.elim
theorem iv_lr_spec {ls : iv_Ls} {i : Nat} {f : Nat → Prop} (h : iv_lr ls i f) : ∃ x, ls[i]? = some (some (.inl x)) ∧ f x := by
  unfold iv_lr at h
  split at h
  · next x hx => exact ⟨x, hx, h⟩
  · exact h.elim
theorem iv_o_spec {α : Type} {o : Option α} {f : α → Prop} (h : iv_o o f) : ∃ x, o = some x ∧ f x := by
  cases o with
  | none => exact h.elim
  | some x => exact ⟨x, rfl, h⟩
theorem iv_j_mono {pc : Nat} {off : Int} {f g : Nat → Prop} (h : ∀ t, f t → g t) (hf : iv_j pc off f) : iv_j pc off g := iv_q_in (iv_q_spec hf).1 (h _ (iv_q_spec hf).2)
theorem iv_sw_mono {x : Int32} {pc : Nat} {f g : Nat → Prop} (h : ∀ t, f t → g t) : ∀ (os : List Int) (lo : Int), iv_sw x pc f lo os → iv_sw x pc g lo os
  | [], _, _ => trivial
  | o :: os, lo, hf => ⟨fun e => iv_j_mono h (hf.1 e), iv_sw_mono h os (lo + 1) hf.2⟩
end
section
/-! SOUND: what iv_Sf says, the machine does. -/
theorem iv_call_mono {X : iv_X} {d : Nat} {z : iv_C} {st : List iv_V} {σ : iv_S} {K K' : List iv_V → iv_S → Prop} (h : ∀ st σ, K st σ → K' st σ) (hf : iv_call X d z st σ K) : iv_call X d z st σ K' := by
  obtain ⟨h1, h2, Q, h3, h4⟩ := hf
  exact ⟨h1, h2, Q, h3, fun r σ' hq => h _ _ (h4 r σ' hq)⟩
theorem iv_st_mono {X : iv_X} {d : Nat} {y : iv_M} {b : iv_B} {Q : Int32 → iv_S → Prop} {k k' : Nat → iv_Ls → List iv_V → iv_S → Prop} (h : ∀ pc ls st σ, k pc ls st σ → k' pc ls st σ) {pc : Nat} {ls : iv_Ls} {st : List iv_V} {σ : iv_S} (hs : iv_st X d y b Q k pc ls st σ) : iv_st X d y b Q k' pc ls st σ := by
  unfold iv_st at hs ⊢
  split at hs
  · next x hd =>
    unfold iv_si at hs ⊢
    split at hs
    all_goals first
      | exact hs.elim
      | (obtain ⟨x, r, rfl, hk⟩ := iv_p1_spec hs; obtain ⟨hq, hk⟩ := iv_q_spec hk; exact iv_q_in hq ⟨fun c => iv_j_mono (fun t => h _ _ _ _) (hk.1 c), iv_sw_mono (fun t => h _ _ _ _) _ _ hk.2⟩)
      | (obtain ⟨hn, hs⟩ := iv_q_spec hs
         refine iv_q_in hn ?_
         first
         | exact h _ _ _ _ hs
         | exact iv_j_mono (fun t => h _ _ _ _) hs
         | (obtain ⟨x, hx, hk⟩ := iv_o_spec hs; rw [hx]; exact h _ _ _ _ hk)
         | (obtain ⟨x, hx, hk⟩ := iv_li_spec hs; unfold iv_li; rw [hx]; exact h _ _ _ _ hk)
         | (obtain ⟨x, hx, hk⟩ := iv_lr_spec hs; unfold iv_lr; rw [hx]; exact h _ _ _ _ hk)
         | (obtain ⟨hj, hs⟩ := iv_q_spec hs; obtain ⟨x, r, rfl, hk⟩ := iv_p1_spec hs; exact iv_q_in hj (h _ _ _ _ hk))
         | (obtain ⟨hj, hs⟩ := iv_q_spec hs; obtain ⟨x, hx, hk⟩ := iv_li_spec hs; refine iv_q_in hj ?_; unfold iv_li; rw [hx]; exact h _ _ _ _ hk)
         | (obtain ⟨x, y, r, rfl, hk⟩ := iv_p2_spec hs; exact h _ _ _ _ hk)
         | (obtain ⟨x, y, r, rfl, hk⟩ := iv_p2_spec hs; exact ⟨hk.1, h _ _ _ _ hk.2⟩)
         | (obtain ⟨x, r, rfl, hk⟩ := iv_p1_spec hs; exact h _ _ _ _ hk)
         | (obtain ⟨v, r, rfl, hk⟩ := iv_d1_spec hs; exact h _ _ _ _ hk)
         | (obtain ⟨v, w, r, rfl, hk⟩ := iv_d2_spec hs; exact h _ _ _ _ hk)
         | (obtain ⟨hj, hs⟩ := iv_q_spec hs; obtain ⟨x, r, rfl, hk⟩ := iv_p1_spec hs; exact iv_q_in hj ⟨fun c => h _ _ _ _ (hk.1 c), fun c => h _ _ _ _ (hk.2 c)⟩)
         | (obtain ⟨hj, hs⟩ := iv_q_spec hs; obtain ⟨x, y, r, rfl, hk⟩ := iv_p2_spec hs; exact iv_q_in hj ⟨fun c => h _ _ _ _ (hk.1 c), fun c => h _ _ _ _ (hk.2 c)⟩)
         | exact ⟨hs.1, h _ _ _ _ hs.2⟩
         | (obtain ⟨q, r, rfl, hk⟩ := iv_pr_spec hs; obtain ⟨z, hz, hk⟩ := iv_o_spec hk; show iv_o _ _; rw [hz]; exact h _ _ _ _ hk)
         | (obtain ⟨q, x, r, rfl, hk⟩ := iv_pa_spec hs; obtain ⟨z, hz, hk⟩ := iv_o_spec hk; show iv_o _ _; rw [hz]; exact ⟨hk.1, h _ _ _ _ hk.2⟩)
         | (obtain ⟨q, x, r, rfl, hk⟩ := iv_pa_spec hs; obtain ⟨z, hz, hk⟩ := iv_o_spec hk; show iv_o _ _; rw [hz]; exact ⟨hk.1, hk.2.1, h _ _ _ _ hk.2.2⟩)
         | (obtain ⟨q, i, x, r, rfl, hk⟩ := iv_ps_spec hs; obtain ⟨z, hz, hk⟩ := iv_o_spec hk; show iv_o _ _; rw [hz]; exact ⟨hk.1, hk.2.1, h _ _ _ _ hk.2.2⟩)
         | (obtain ⟨x, hx, hk⟩ := iv_o_spec hs; rw [hx]; exact ⟨hk.1, iv_call_mono (fun _ _ => h _ _ _ _) hk.2⟩)
         | exact hs)
  · exact hs.elim
theorem iv_Sf_in {X : iv_X} {d : Nat} {y : iv_M} {b : iv_B} {Q : Int32 → iv_S → Prop} {pc : Nat} {ls : iv_Ls} {st : List iv_V} {σ : iv_S} (h : iv_st X d y b Q (iv_Sf X d y b Q) pc ls st σ) : iv_Sf X d y b Q pc ls st σ := by
  intro P hP
  exact hP _ _ _ _ (iv_st_mono (fun pc ls st σ h => h P hP) h)
/-- n steps at most, not past a place of cut -/
def iv_sn (X : iv_X) (d : Nat) (y : iv_M) (b : iv_B) (Q : Int32 → iv_S → Prop) (cut : List Nat) (k : Nat → iv_Ls → List iv_V → iv_S → Prop) : Nat → Nat → iv_Ls → List iv_V → iv_S → Prop
  | 0, pc, ls, st, σ => k pc ls st σ
  | n + 1, pc, ls, st, σ => if cut.elem pc then k pc ls st σ else iv_st X d y b Q (iv_sn X d y b Q cut k n) pc ls st σ
theorem iv_sn_in {X : iv_X} {d : Nat} {y : iv_M} {b : iv_B} {Q : Int32 → iv_S → Prop} {cut : List Nat} : ∀ (n pc : Nat) (ls : iv_Ls) (st : List iv_V) (σ : iv_S), iv_sn X d y b Q cut (iv_Sf X d y b Q) n pc ls st σ → iv_Sf X d y b Q pc ls st σ
  | 0, _, _, _, _, h => h
  | n + 1, pc, ls, st, σ, h => by
    unfold iv_sn at h
    split at h
    · exact h
    · exact iv_Sf_in (iv_st_mono (fun pc ls st σ h => iv_sn_in n pc ls st σ h) h)
/-- a block: from pc on, up to the next cut -/
theorem iv_blk {X : iv_X} {d : Nat} {y : iv_M} {b : iv_B} {Q : Int32 → iv_S → Prop} (cut : List Nat) (n : Nat) {pc : Nat} {ls : iv_Ls} {st : List iv_V} {σ : iv_S} (h : iv_st X d y b Q (iv_sn X d y b Q cut (iv_Sf X d y b Q) n) pc ls st σ) : iv_Sf X d y b Q pc ls st σ :=
  iv_Sf_in (iv_st_mono (fun pc ls st σ h => iv_sn_in n pc ls st σ h) h)
-- the tables of a class
def iv_cokB (own : String) (idx n : Nat) (ck : Option Nat) (vd : Bool) (ym : iv_M) : Bool :=
  decide (vd = ym.2.2.2.isNone) && decide (ym.1.cls ≠ "java/lang/invoke/MethodHandle") && decide (ym.1.cls ≠ "java/lang/invoke/VarHandle") && decide (Cond.code ym.1 ym.2.1 ym.2.2.1 ym.2.2.2 ∈ iv_g) && decide (Cond.initialized ym.1.cls ∈ iv_g) && decide (ym.2.2.1 ≤ 20) && match ck with
  | none => decide ((parseMethodDescriptor ym.1.desc).map (fun d => d.parameters.length) = some n) && decide (Cond.static ym.1 ∈ iv_g) && (decide (Cond.methodLink own idx ym.1 ∈ iv_g) || decide (Cond.methodLinkNest own idx ym.1 RX6 ∈ iv_N))
  | some ci => decide ((parseMethodDescriptor ym.1.desc).map (fun d => d.parameters.length + 1) = some n) && decide (Cond.instanceMethod ym.1 ∈ iv_g) && decide (Cond.selects ym.1.cls ym.1 ym.1 ∈ iv_g) && decide (Cond.methodLink own idx ym.1 ∈ iv_g) && decide ((vwCl[ci]?).map (fun q => q.1) = some ym.1.cls)
def iv_fokB (own : String) (idx ci j : Nat) : Bool := match vwCl[ci]? with
  | some q => decide (j < q.2.2) && decide (Cond.fieldLink own idx (q.2.1 j).1 (q.2.1 j).2.1 (q.2.1 j).2.2.1 ∈ iv_g)
  | none => false
def iv_ok (own : String) (b : iv_B) : Prop := (∀ idx ci j, b.1 idx = some (ci, j) → iv_fokB own idx ci j = true) ∧ (∀ idx v, b.2.1 idx = some v → Cond.constant own idx v ∈ iv_g) ∧ ∀ idx n ck vd ym, b.2.2 idx = some (n, ck, vd, ym) → iv_cokB own idx n ck vd ym = true
theorem iv_fok {own : String} {idx ci j : Nat} (h : iv_fokB own idx ci j = true) : ∃ q, vwCl[ci]? = some q ∧ j < q.2.2 ∧ Cond.fieldLink own idx (q.2.1 j).1 (q.2.1 j).2.1 (q.2.1 j).2.2.1 ∈ iv_g := by
  unfold iv_fokB at h
  split at h
  · next q hq =>
    simp only [Bool.and_eq_true, decide_eq_true_eq] at h
    exact ⟨q, hq, h.1, h.2⟩
  · cases h
def iv_layB : Bool := (List.range 57).all fun k => match iv_lay k with
  | .inl _ => true
  | .inr x => match vwCl[x.1]? with
    | some q => decide (x.2.length = q.2.2) && (List.range q.2.2).all fun j => match x.2[j]? with
      | some none => decide ((q.2.1 j).2.2.1 = "I") && decide ((q.2.1 j).2.2.2 = false)
      | _ => true
    | none => false
theorem iv_lay_ok : iv_layB = true := by decide +kernel
theorem iv_lay_of {k ci j : Nat} {fs : List (Option Nat)} {q : vw_C} (h : iv_lay k = .inr (ci, fs)) (hq : vwCl[ci]? = some q) (hj : fs[j]? = some none) : (q.2.1 j).2.2.1 = "I" ∧ (q.2.1 j).2.2.2 = false := by
  have h5 := iv_lt_of h hj
  have h1 := iv_lay_ok
  unfold iv_layB at h1
  have h2 := List.all_eq_true.mp h1 k (List.mem_range.mpr h5)
  rw [h] at h2
  dsimp only at h2
  rw [hq] at h2
  simp only [Bool.and_eq_true, decide_eq_true_eq] at h2
  have hl := (List.getElem?_eq_some_iff.mp hj).1
  have h3 := List.all_eq_true.mp h2.2 j (List.mem_range.mpr (by omega))
  rw [hj] at h3
  simp only [Bool.and_eq_true, decide_eq_true_eq] at h3
  exact h3
theorem iv_len_of {k ci j : Nat} {fs : List (Option Nat)} {q : vw_C} {o : Option Nat} (h : iv_lay k = .inr (ci, fs)) (hq : vwCl[ci]? = some q) (hj : fs[j]? = some o) : fs.length = q.2.2 := by
  have h5 := iv_lt_of h hj
  have h1 := iv_lay_ok
  unfold iv_layB at h1
  have h2 := List.all_eq_true.mp h1 k (List.mem_range.mpr h5)
  rw [h] at h2
  dsimp only at h2
  rw [hq] at h2
  simp only [Bool.and_eq_true, decide_eq_true_eq] at h2
  exact h2.1
theorem iv_g_in {w : Cond} (h : w ∈ lw_tbl) (hg : goodWord w = true) : w ∈ iv_g := List.mem_filter.mpr ⟨h, hg⟩
theorem iv_cX0 : ∀ w ∈ wsX00, w ∈ iv_g := by decide +kernel
theorem iv_cX1 : ∀ w ∈ wsX10, w ∈ iv_g := by decide +kernel
theorem iv_cX2 : ∀ w ∈ wsX20, w ∈ iv_g := by decide +kernel
theorem iv_cX3 : ∀ w ∈ wsX30, w ∈ iv_g := by decide +kernel
theorem iv_cX4 : ∀ w ∈ wsX40, w ∈ iv_g := by decide +kernel
theorem iv_cX5 : ∀ w ∈ wsX50, w ∈ iv_g := by decide +kernel
theorem iv_cX6 : ∀ w ∈ wsX60, w ∈ iv_g := by decide +kernel
theorem iv_cX7 : ∀ w ∈ wsX70, w ∈ iv_g := by decide +kernel
theorem iv_cl_ok {ci : Nat} {q : vw_C} (h : vwCl[ci]? = some q) : ∃ ty0 : Nat → FieldType, (∀ k, k < q.2.2 → parseFieldDescriptor (q.2.1 k).2.2.1 = some (ty0 k)) ∧ (∀ a, a < q.2.2 → ∀ b, b < q.2.2 → a ≠ b → (q.2.1 a).2.1 ≠ (q.2.1 b).2.1) ∧ ∀ w ∈ u_ws q.1 q.2.1 q.2.2, w ∈ iv_g := by
  match ci, h with
  | 0, h => cases h; exact ⟨tyX0, tyX0_ok, nmX0, iv_cX0⟩
  | 1, h => cases h; exact ⟨tyX1, tyX1_ok, nmX1, iv_cX1⟩
  | 2, h => cases h; exact ⟨tyX2, tyX2_ok, nmX2, iv_cX2⟩
  | 3, h => cases h; exact ⟨tyX3, tyX3_ok, nmX3, iv_cX3⟩
  | 4, h => cases h; exact ⟨tyX4, tyX4_ok, nmX4, iv_cX4⟩
  | 5, h => cases h; exact ⟨tyX5, tyX5_ok, nmX5, iv_cX5⟩
  | 6, h => cases h; exact ⟨tyX6, tyX6_ok, nmX6, iv_cX6⟩
  | 7, h => cases h; exact ⟨tyX7, tyX7_ok, nmX7, iv_cX7⟩
  | k + 8, h => simp [vwCl] at h
end
section
def iv_Wo (X : iv_X) (A : Nat → Prop) (s : State) (σ : iv_S) (H : Heap) (locs : List Loc) : Prop :=
  va_K X.2.1 vwCl (iv_T X.2.2.2.1 X.2.2.2.2) s ∧ va_P X.2.1 vwCl (iv_w X.2.2.1 X.2.2.2.1 X.2.2.2.2 σ) H ∧ va_D A (iv_w X.2.2.1 X.2.2.2.1 X.2.2.2.2 σ) ∧ va_S A s.heap H locs ∧ ∀ w ∈ iv_N, va_Nw w s
def iv_lh (a : Nat → Nat) (lsA : Array Slot) (nL : Nat) (ls : iv_Ls) : Prop := ∃ lv, lv_has lsA nL lv ∧ ∀ i v, ls[i]? = some (some v) → (i, iv_e a v) ∈ lv
theorem iv_lh_get {a : Nat → Nat} {lsA : Array Slot} {nL : Nat} {ls : iv_Ls} (h : iv_lh a lsA nL ls) {i : Nat} {v : iv_V} (hv : ls[i]? = some (some v)) : lsA[i]? = some (.val (iv_e a v)) := by
  obtain ⟨lv, h1, h2⟩ := h
  exact h1.2.2 _ (h2 i v hv)
theorem iv_cat (a : Nat → Nat) (v : iv_V) : (iv_e a v).category = 1 := by cases v <;> rfl
theorem iv_lh_set {a : Nat → Nat} {lv : List (Nat × Value)} {ls : iv_Ls} (h2 : ∀ i v, ls[i]? = some (some v) → (i, iv_e a v) ∈ lv) (j : Nat) (w : iv_V) : ∀ i v, (ls.set j (some w))[i]? = some (some v) → (i, iv_e a v) ∈ (j, iv_e a w) :: lv.filter (fun q => !(q.1 == j) && !(q.1 + 1 == j && q.2.category == 2)) := by
  intro i v h
  by_cases hij : j = i
  · subst hij
    have hl : j < ls.length := by
      rcases Nat.lt_or_ge j ls.length with q | q
      · exact q
      · rw [List.getElem?_eq_none (by simp; exact q)] at h; cases h
    rw [List.getElem?_set_self hl] at h
    cases h
    exact List.mem_cons_self
  · rw [List.getElem?_set_ne hij] at h
    refine List.mem_cons_of_mem _ (List.mem_filter.mpr ⟨h2 i v h, ?_⟩)
    have h1 : (iv_e a v).category = 1 := iv_cat a v
    simp [h1, Ne.symm hij]
section IVW
variable {p : Program} {e : Env} {R : Room} {s : State} {m : MethodId} {args : Array Value} {below : List Frame} {meth : Method} {c : Code} {X : iv_X} {A : Nat → Prop} {QM : State → Prop}
theorem iv_hF {σ : iv_S} {H : Heap} {locs : List Loc} (hw : iv_Wo X A s σ H locs) (hA : ∀ q, s.heap.size ≤ q → A q) : ∀ q, iv_A X σ H.size q → A q := by
  intro q h
  rcases h with ⟨k, e, h⟩ | h
  · exact hw.2.2.1.2 k (q, e) h
  · exact hA q (Nat.le_trans hw.2.2.2.1.1 h)
/-- a call behind its run -/
theorem iv_callr {pc : Nat} {ls : Array Slot} {st0 rest : List Value} {a : Array Value} {σ : iv_S} {H : Heap} {locs : List Loc} {cells slots : Nat} {Q : Int32 → iv_S → Prop} {ret : Option FieldType} (hr : va_Run p X.1 e R s m args below meth c H locs cells slots 0 0 (F0 m pc ls st0) rest (iv_Qc X ret σ H.size Q a) (iv_A X σ H.size)) (hw : iv_Wo X A s σ H locs) (hA : ∀ q, s.heap.size ≤ q → A q)
    (kk : ∀ (r : Int32) (u : iv_S) (H1 : Heap) (locs1 : List Loc), Q r u → iv_Wo X A s u H1 locs1 → W p X.1 e R s m args below meth c H1 locs1 cells slots QM (F0 m (pc + 3) ls ((iv_ov ret r).toList ++ rest))) : W p X.1 e R s m args below meth c H locs cells slots QM (F0 m pc ls st0) := by
  intro T hT Y
  have hF := iv_hF hw hA
  obtain ⟨v, st₀, t, T', L, h0, X', hL, e1, e2, ⟨⟨r, u, hv, hp, hb1, hb2, hb3⟩, hz, hk⟩, st⟩ := hr T hT Y
  cases hv
  rw [h0] at hz hk
  obtain ⟨hK, hP, hD, hS, hN⟩ := hw
  have hS' : va_S A s.heap T'.heap (locs ++ L) := ⟨Nat.le_trans hS.1 (by rw [e1]; exact hz), fun q h1 h2 => by rw [e1, hk q (Nat.lt_of_lt_of_le h1 hS.1) (fun z => h2 (hF q z))]; exact hS.2.1 q h1 h2, fun q hq => by
      rcases List.mem_append.mp hq with h | h
      · exact hS.2.2 q h
      · exact hF _ (hL q h)⟩
  obtain ⟨t2, a1, b1⟩ := kk r u T'.heap (locs ++ L) hp ⟨hK, by rw [e1]; exact hb1, hb3.weaken (fun k q _ h => hF q.1 h), hS', hN⟩ T' rfl X'
  exact ⟨t2, st t2 a1, b1⟩
theorem iv_blind (av : List iv_V) (σ : iv_S) (sz : Nat) : FrameBlind (iv_Pc X av σ sz) := by
  intro a U g mk q
  obtain ⟨q0, q1, qP, qK, qD, qN⟩ := q
  exact ⟨q0, q1, qP, va_K.moved (u := U) (U := U.calling g mk a) (Vm.Alike.refl U.vm) qK, qD, fun w hw => va_Nw.same (by
    simp only [iv_N, List.mem_cons, List.not_mem_nil, or_false] at hw
    rcases hw with rfl | rfl | rfl <;> rfl) (u := U) rfl (qN w hw)⟩
theorem iv_nwarm {U : State} (hW : s.WarmedH U.vm) (hN : ∀ w ∈ iv_N, va_Nw w s) : ∀ w ∈ iv_N, va_Nw w U := by
  intro w hw
  have h := hN w hw
  simp only [iv_N, List.mem_cons, List.not_mem_nil, or_false] at hw
  rcases hw with rfl | rfl | rfl <;> exact va_Nw.warmM hW h
theorem iv_preU {σ : iv_S} {H : Heap} {locs : List Loc} (hw : iv_Wo X A s σ H locs) (av : List iv_V) : ∀ U : State, U.heap = H → s.WarmedH U.vm → iv_Pc X av σ H.size (av.map (iv_e X.2.2.1)).toArray U := by
  intro U hU hW
  obtain ⟨hK, hP, hD, hS, hN⟩ := hw
  exact ⟨rfl, by rw [hU], by rw [hU]; exact hP, va_K.moved hW.alike hK, hD.weaken (fun _ _ _ _ => trivial), iv_nwarm hW hN⟩
theorem iv_goodIn {own : Cond} {ym : iv_M} (h : Cond.code ym.1 ym.2.1 ym.2.2.1 ym.2.2.2 ∈ iv_g) : GoodIn (own :: iv_g) (.code ym.1 ym.2.1 ym.2.2.1 ym.2.2.2 :: iv_g) := by
  intro w hw
  have h1 : w ∈ iv_g := by
    rcases List.mem_cons.mp hw with rfl | h2
    · exact h
    · exact h2
  exact ⟨List.mem_cons_of_mem _ h1, good_of_word (List.mem_filter.mp h1).2⟩
theorem iv_good1 {w : Cond} {own : Cond} (h : w ∈ iv_g) : w ∈ own :: iv_g ∧ ((w.onTables && w.keeps) = true ∨ ∃ ty, w = .arrayClass ty) := ⟨List.mem_cons_of_mem _ h, good_of_word (List.mem_filter.mp h).2⟩
end IVW
theorem iv_sum1 (a : Nat → Nat) : ∀ st : List iv_V, ((st.map (iv_e a)).map fun v => v.category).sum = st.length
  | [] => rfl
  | v :: st => by
    rw [List.map_cons, List.map_cons, List.sum_cons, iv_sum1 a st, iv_cat, List.length_cons]
    omega
theorem iv_toL (a : Nat → Nat) (ret : Option FieldType) {vd : Bool} (h : vd = ret.isNone) (r : Int32) (st : List iv_V) : (iv_ov ret r).toList ++ st.map (iv_e a) = (iv_push vd r st).map (iv_e a) := by
  subst h
  cases ret <;> rfl
section IVC
variable {p : Program} {e : Env} {s : State} {m : MethodId} {args : Array Value} {below : List Frame} {meth : Method} {c : Code} {X : iv_X} {A : Nat → Prop} {QM : State → Prop} {d nL : Nat} {own : String} {cc : ByteArray} {cw : Cond}
/-- a virtual call -/
theorem iv_cV (hx : p.tables.exec = Jvm.exec) (hb : c.code = cc) (hml : c.maxLocals = nL) (hown : s.vm.findClass own = some m.cls) (hts : ∀ w ∈ cw :: iv_g, w.before args s = true) (hA : ∀ q, s.heap.size ≤ q → A q)
    {idx : Nat} {z : iv_C} (hok : iv_cokB own idx z.1 z.2.1 z.2.2.1 z.2.2.2 = true) {pc : Nat} (hd : decode cc pc = .ok (.invokevirtual idx, 3)) {st : List iv_V} {σ : iv_S} (hrc : iv_rc z st) {K : List iv_V → iv_S → Prop} (hc : iv_call X d z st σ K)
    {H : Heap} {locs : List Loc} {lsA : Array Slot} (hw : iv_Wo X A s σ H locs) (hl : lsA.size = nL)
    (kk : ∀ st' σ' H1 locs1, K st' σ' → iv_Wo X A s σ' H1 locs1 → W p X.1 e (iv_rm (d + 1)) s m args below meth c H1 locs1 0 0 QM (F0 m (pc + 3) lsA (st'.map (iv_e X.2.2.1)))) :
    W p X.1 e (iv_rm (d + 1)) s m args below meth c H locs 0 0 QM (F0 m pc lsA (st.map (iv_e X.2.2.1))) := by
  obtain ⟨n, ck, vd, ym⟩ := z
  dsimp only at hok
  obtain ⟨hn, h8, Q, hCt, hK⟩ := hc
  dsimp only at hn h8 hCt hK
  unfold iv_rc at hrc
  dsimp only at hrc
  split at hrc
  · next q tl htake =>
    obtain ⟨hcls, hne⟩ := hrc
    cases ck with
    | none => exact absurd rfl hne
    | some ci =>
      simp only [iv_cokB, Bool.and_eq_true, decide_eq_true_eq] at hok
      obtain ⟨⟨⟨⟨⟨⟨hvd, n1⟩, n2⟩, hcode⟩, hini⟩, hmx⟩, ⟨⟨⟨hpar, hinst⟩, hsel⟩, hlink⟩, hvw⟩ := hok
      have hsplit : st = (Sum.inl q :: tl).reverse ++ st.drop n := by
        rw [← htake, List.reverse_reverse, List.take_append_drop]
      have hlen : (Sum.inl q :: tl : List iv_V).length = n := by rw [← htake]; simp; omega
      rw [htake] at hCt
      -- the receiver's class
      have hq : ∃ fs, iv_lay q = .inr (ci, fs) := by
        unfold iv_cls at hcls
        split at hcls
        · cases hcls
        · next x hx =>
          obtain ⟨c1, f1⟩ := x
          cases hcls
          exact ⟨f1, hx⟩
      obtain ⟨fs, hfs⟩ := hq
      have h57 : q < 57 := by
        rcases Nat.lt_or_ge q 57 with h | h
        · exact h
        · rw [iv_lay_big (by omega)] at hfs
          cases hfs
          simp [vwCl] at hvw
      have hent : (iv_w X.2.2.1 X.2.2.2.1 X.2.2.2.2 σ)[q]? = some (X.2.2.1 q, .inr (ci, iv_flds X.2.2.1 (σ q) fs 0)) := by
        rw [iv_w_get h57]
        unfold iv_en
        rw [hfs]
      obtain ⟨r, hr1, hr2⟩ := Option.map_eq_some_iff.mp hvw
      have hrecv := va_recv hw.1 hw.2.1 hr1 hent
      rw [hr2] at hrecv
      obtain ⟨psig, hps, hpl⟩ := Option.map_eq_some_iff.mp hpar
      have hT : GoodIn (cw :: iv_g) (wsV own idx ym.1.cls ym.1 (.code ym.1 ym.2.1 ym.2.2.1 ym.2.2.2 :: iv_g)) := by
        intro w hw2
        unfold wsV at hw2
        rcases List.mem_append.mp hw2 with h | h
        · simp only [List.mem_cons, List.not_mem_nil, or_false] at h
          rcases h with rfl | rfl | rfl | rfl
          · exact iv_good1 hlink
          · exact iv_good1 hinst
          · exact iv_good1 hsel
          · exact iv_good1 hini
        · exact iv_goodIn hcode w h
      have hW : W p X.1 e (iv_rm (d + 1)) s m args below meth c H locs 0 0 QM (F0 m pc lsA ((tl.map (iv_e X.2.2.1)).reverse ++ .ref (X.2.2.1 q) :: (st.drop n).map (iv_e X.2.2.1))) := by
        refine iv_callr (va_runV (Ts := cw :: iv_g) (nL := nL) (As := tl.map (iv_e X.2.2.1)) (rest := (st.drop n).map (iv_e X.2.2.1)) (b := X.2.2.1 q) ⟨hx, hb, hml, hown, hts⟩ (hCt H.size) (cwV (maxL := ym.2.2.1) (ret := ym.2.2.2) (bytes := ym.2.1) (ws' := iv_g) tl.length hts hT rfl rfl rfl ⟨rfl, n1, n2, by rw [hps]; simp at hlen; simp; omega⟩ ⟨Nat.le_refl (d + 1), by show 8 + (ym.2.2.1 + 11) + 40 * d ≤ 40 * (d + 1); omega⟩) ⟨iv_blind _ _ _, hrecv, iv_preU hw (Sum.inl q :: tl)⟩ rfl (by simp) hl rfl (lv_room (by rw [iv_sum1]; exact h8)) hd ⟨Nat.zero_le _, Nat.zero_le _⟩) hw hA ?_
        intro r u H1 locs1 hq1 hw1
        rw [iv_toL _ _ hvd]
        exact kk _ _ _ _ (hK r u hq1) hw1
      have hst : st.map (iv_e X.2.2.1) = (tl.map (iv_e X.2.2.1)).reverse ++ .ref (X.2.2.1 q) :: (st.drop n).map (iv_e X.2.2.1) := by
        conv => lhs; rw [hsplit]
        rw [List.map_append, List.reverse_cons, List.map_append, List.map_reverse, List.append_assoc]
        rfl
      rw [hst]
      exact hW
  · exact hrc.elim
/-- a static call -/
theorem iv_cS (hx : p.tables.exec = Jvm.exec) (hb : c.code = cc) (hml : c.maxLocals = nL) (hown : s.vm.findClass own = some m.cls) (hts : ∀ w ∈ cw :: iv_g, w.before args s = true) (hA : ∀ q, s.heap.size ≤ q → A q)
    {idx : Nat} {z : iv_C} (hok : iv_cokB own idx z.1 z.2.1 z.2.2.1 z.2.2.2 = true) {pc : Nat} (hd : decode cc pc = .ok (.invokestatic idx, 3)) {st : List iv_V} {σ : iv_S} (hrc : z.2.1 = none) {K : List iv_V → iv_S → Prop} (hc : iv_call X d z st σ K)
    {H : Heap} {locs : List Loc} {lsA : Array Slot} (hw : iv_Wo X A s σ H locs) (hl : lsA.size = nL)
    (kk : ∀ st' σ' H1 locs1, K st' σ' → iv_Wo X A s σ' H1 locs1 → W p X.1 e (iv_rm (d + 1)) s m args below meth c H1 locs1 0 0 QM (F0 m (pc + 3) lsA (st'.map (iv_e X.2.2.1)))) :
    W p X.1 e (iv_rm (d + 1)) s m args below meth c H locs 0 0 QM (F0 m pc lsA (st.map (iv_e X.2.2.1))) := by
  obtain ⟨n, ck, vd, ym⟩ := z
  dsimp only at hok hrc
  subst hrc
  obtain ⟨hn, h8, Q, hCt, hK⟩ := hc
  dsimp only at hn h8 hCt hK
  simp only [iv_cokB, Bool.and_eq_true, Bool.or_eq_true, decide_eq_true_eq] at hok
  obtain ⟨⟨⟨⟨⟨⟨hvd, n1⟩, n2⟩, hcode⟩, hini⟩, hmx⟩, ⟨hpar, hstat⟩, hlink⟩ := hok
  have hlen : (st.take n).reverse.length = n := by simp; omega
  have hst : st.map (iv_e X.2.2.1) = (((st.take n).reverse).map (iv_e X.2.2.1)).reverse ++ (st.drop n).map (iv_e X.2.2.1) := by
    rw [← List.map_reverse, List.reverse_reverse, ← List.map_append, List.take_append_drop]
  have hR : (iv_rm d).frames + 1 ≤ (iv_rm (d + 1)).frames ∧ 8 + (ym.2.2.1 + 11) + (iv_rm d).locals ≤ (iv_rm (d + 1)).locals := ⟨Nat.le_refl (d + 1), by show 8 + (ym.2.2.1 + 11) + 40 * d ≤ 40 * (d + 1); omega⟩
  have hfin : ∀ (r : Int32) (u : iv_S) (H1 : Heap) (locs1 : List Loc), Q r u → iv_Wo X A s u H1 locs1 → W p X.1 e (iv_rm (d + 1)) s m args below meth c H1 locs1 0 0 QM (F0 m (pc + 3) lsA ((iv_ov ym.2.2.2 r).toList ++ (st.drop n).map (iv_e X.2.2.1))) := by
    intro r u H1 locs1 hq1 hw1
    rw [iv_toL _ _ hvd]
    exact kk _ _ _ _ (hK r u hq1) hw1
  rw [hst]
  rcases hlink with hlink | hlink
  · have hG : GoodIn (cw :: iv_g) (.code ym.1 ym.2.1 ym.2.2.1 ym.2.2.2 :: iv_g) := iv_goodIn hcode
    exact iv_callr (va_runS (Ts := cw :: iv_g) (nL := nL) (As := ((st.take n).reverse).map (iv_e X.2.2.1)) (rest := (st.drop n).map (iv_e X.2.2.1)) ⟨hx, hb, hml, hown, hts⟩ (hCt H.size) ⟨callB_of (maxL := ym.2.2.1) (ret := ym.2.2.2) (bytes := ym.2.1) (ws' := iv_g) n hts hG rfl rfl rfl (hts _ (List.mem_cons_of_mem _ hini)) (hts _ (List.mem_cons_of_mem _ hlink)) ⟨n1, n2, hpar⟩ hR, hts _ (List.mem_cons_of_mem _ hstat)⟩ ⟨iv_blind _ _ _, iv_preU hw _⟩ rfl (by rw [List.length_map]; exact hlen) hl rfl (lv_room (by rw [iv_sum1]; exact h8)) hd ⟨Nat.zero_le _, Nat.zero_le _⟩) hw hA hfin
  · have hG : GoodIn (cw :: iv_g) (.code ym.1 ym.2.1 ym.2.2.1 ym.2.2.2 :: iv_g) := iv_goodIn hcode
    exact iv_callr (va_runSN (Ts := cw :: iv_g) (nL := nL) (As := ((st.take n).reverse).map (iv_e X.2.2.1)) (rest := (st.drop n).map (iv_e X.2.2.1)) ⟨hx, hb, hml, hown, hts⟩ (hCt H.size) ⟨va_cnB (host := RX6) (maxL := ym.2.2.1) (ret := ym.2.2.2) (bytes := ym.2.1) (ws' := iv_g) n hts hG rfl rfl rfl (hw.2.2.2.2 _ hlink) (hts _ (List.mem_cons_of_mem _ hini)) ⟨n1, n2, hpar⟩ hR, hts _ (List.mem_cons_of_mem _ hstat), trivial⟩ ⟨iv_blind _ _ _, iv_preU hw _⟩ rfl (by rw [List.length_map]; exact hlen) hl rfl (lv_room (by rw [iv_sum1]; exact h8)) hd ⟨Nat.zero_le _, Nat.zero_le _⟩) hw hA hfin
end IVC
end
section
def iv_G (p : Program) (e : Env) (R : Room) (s : State) (m : MethodId) (args : Array Value) (below : List Frame) (meth : Method) (c : Code) (X : iv_X) (A : Nat → Prop) (QM : State → Prop) (nL pc : Nat) (ls : iv_Ls) (st : List iv_V) (σ : iv_S) : Prop :=
  ∀ (H : Heap) (locs : List Loc) (lsA : Array Slot), iv_Wo X A s σ H locs → iv_lh X.2.2.1 lsA nL ls → W p X.1 e R s m args below meth c H locs 0 0 QM (F0 m pc lsA (st.map (iv_e X.2.2.1)))
theorem iv_rk_nar {ret : Option FieldType} {v : Int32} (h : iv_rk ret v) : ∃ ty, ret = some ty ∧ narrow ty (.int v) = .int v := by
  unfold iv_rk at h
  split at h
  · exact ⟨_, rfl, rfl⟩
  · refine ⟨_, rfl, ?_⟩
    rcases h with rfl | rfl <;> decide +kernel
  · exact h.elim
theorem iv_sw_spec {x : Int32} {pc : Nat} {f : Nat → Prop} : ∀ (os : List Int) (lo : Int), iv_sw x pc f lo os → ∀ i : Nat, ∀ o : Int, os[i]? = some o → x = Int32.ofInt (lo + i) → iv_j pc o f
  | [], _, _, i, o, h, _ => by simp at h
  | o0 :: os, lo, hf, 0, o, h, hx => by
    simp at h
    subst h
    exact hf.1 (by simpa using hx)
  | o0 :: os, lo, hf, i + 1, o, h, hx => by
    rw [List.getElem?_cons_succ] at h
    exact iv_sw_spec os (lo + 1) hf.2 i o h (by rw [hx]; congr 1; push_cast; omega)
section IVR
variable {p : Program} {e : Env} {s : State} {m : MethodId} {args : Array Value} {below : List Frame} {meth : Method} {c : Code} {X : iv_X} {d sz : Nat} {y : iv_M} {b : iv_B} {own : String} {Q : Int32 → iv_S → Prop} {cw : Cond} {σ0 : iv_S}
set_option maxHeartbeats 4000000 in
theorem iv_step_ok (hx : p.tables.exec = Jvm.exec) (hb : c.code = y.2.1) (hr : meth.sig.returnType = y.2.2.2) (hml : c.maxLocals = y.2.2.1) (hown : s.vm.findClass own = some m.cls) (hts : ∀ w ∈ cw :: iv_g, w.before args s = true) (hlocks : meth.locks = false) (hok : iv_ok own b)
    (hA : ∀ q, s.heap.size ≤ q → iv_A X σ0 sz q) {pc : Nat} {ls : iv_Ls} {st : List iv_V} {σ : iv_S}
    (hs : iv_st X d y b Q (iv_G p e (iv_rm (d + 1)) s m args below meth c X (iv_A X σ0 sz) (MQ below (iv_Qc X y.2.2.2 σ0 sz Q) args s 0 0 (iv_A X σ0 sz)) y.2.2.1) pc ls st σ) :
    iv_G p e (iv_rm (d + 1)) s m args below meth c X (iv_A X σ0 sz) (MQ below (iv_Qc X y.2.2.2 σ0 sz Q) args s 0 0 (iv_A X σ0 sz)) y.2.2.1 pc ls st σ := by
  intro H locs lsA hw hl
  have hK := hw.1
  have hP := hw.2.1
  have hD := hw.2.2.1
  have hS := hw.2.2.2.1
  have hN := hw.2.2.2.2
  have hgo : ∀ w ∈ iv_g, w.before args s = true := fun w h => hts w (List.mem_cons_of_mem _ h)
  unfold iv_st at hs
  split at hs
  · next xx hd =>
    obtain ⟨i, n⟩ := xx
    dsimp only at hs
    unfold iv_si at hs
    split at hs
    · replace hs := iv_q_spec hs
      obtain ⟨rfl, hs⟩ := hs
      exact lv_iconst hx hb hd rfl (hs H locs lsA hw hl)
    · replace hs := iv_q_spec hs
      obtain ⟨rfl, hs⟩ := hs
      exact lv_bipush hx hb hd rfl (hs H locs lsA hw hl)
    · replace hs := iv_q_spec hs
      obtain ⟨rfl, hs⟩ := hs
      exact lv_sipush hx hb hd rfl (hs H locs lsA hw hl)
    · replace hs := iv_q_spec hs
      obtain ⟨rfl, hs⟩ := hs
      obtain ⟨v, hv, hs⟩ := iv_o_spec hs
      exact lv_ldc hx hb hown (hgo _ (hok.2.1 _ _ hv)) hd (hs H locs lsA hw hl)
    · replace hs := iv_q_spec hs
      obtain ⟨rfl, hs⟩ := hs
      obtain ⟨v, hv, hs⟩ := iv_o_spec hs
      exact lv_ldcw hx hb hown (hgo _ (hok.2.1 _ _ hv)) hd (hs H locs lsA hw hl)
    · replace hs := iv_q_spec hs
      obtain ⟨rfl, hs⟩ := hs
      obtain ⟨v, hv, hs⟩ := iv_li_spec hs
      exact lv_iload_n hx hb hd rfl (iv_lh_get hl hv) (hs H locs lsA hw hl)
    · replace hs := iv_q_spec hs
      obtain ⟨rfl, hs⟩ := hs
      obtain ⟨v, hv, hs⟩ := iv_li_spec hs
      exact lv_iload hx hb hd (iv_lh_get hl hv) (hs H locs lsA hw hl)
    · replace hs := iv_q_spec hs
      obtain ⟨rfl, hs⟩ := hs
      obtain ⟨v, hv, hs⟩ := iv_lr_spec hs
      exact lv_aload_n hx hb hd rfl (iv_lh_get hl hv) (hs H locs lsA hw hl)
    · replace hs := iv_q_spec hs
      obtain ⟨rfl, hs⟩ := hs
      obtain ⟨v, hv, hs⟩ := iv_lr_spec hs
      exact lv_aload hx hb hd (iv_lh_get hl hv) (hs H locs lsA hw hl)
    · replace hs := iv_q_spec hs
      obtain ⟨rfl, hs⟩ := hs
      obtain ⟨hj, hs⟩ := iv_q_spec hs
      obtain ⟨x, r, rfl, hs⟩ := iv_p1_spec hs
      obtain ⟨lv, h1, h2⟩ := hl
      exact lv_istore_n hx hb hd rfl h1 hj rfl (fun ls' hl' => hs H locs ls' hw ⟨_, hl', iv_lh_set h2 _ (.inr x)⟩)
    · replace hs := iv_q_spec hs
      obtain ⟨rfl, hs⟩ := hs
      obtain ⟨hj, hs⟩ := iv_q_spec hs
      obtain ⟨x, r, rfl, hs⟩ := iv_p1_spec hs
      obtain ⟨lv, h1, h2⟩ := hl
      exact lv_istore hx hb hd h1 hj rfl (fun ls' hl' => hs H locs ls' hw ⟨_, hl', iv_lh_set h2 _ (.inr x)⟩)
    · replace hs := iv_q_spec hs
      obtain ⟨rfl, hs⟩ := hs
      obtain ⟨hj, hs⟩ := iv_q_spec hs
      obtain ⟨x, hv, hs⟩ := iv_li_spec hs
      obtain ⟨lv, h1, h2⟩ := hl
      obtain ⟨k, hk⟩ := List.getElem?_of_mem (h2 _ _ hv)
      exact lv_iinc hx hb hd h1 hk rfl hj rfl (fun ls' hl' => hs H locs ls' hw ⟨_, hl', iv_lh_set h2 _ (.inr _)⟩)
    · replace hs := iv_q_spec hs
      obtain ⟨rfl, hs⟩ := hs
      obtain ⟨x, z, r, rfl, hs⟩ := iv_p2_spec hs
      exact lv_iadd hx hb hd (hs H locs lsA hw hl)
    · replace hs := iv_q_spec hs
      obtain ⟨rfl, hs⟩ := hs
      obtain ⟨x, z, r, rfl, hs⟩ := iv_p2_spec hs
      exact lv_isub hx hb hd (hs H locs lsA hw hl)
    · replace hs := iv_q_spec hs
      obtain ⟨rfl, hs⟩ := hs
      obtain ⟨x, z, r, rfl, hs⟩ := iv_p2_spec hs
      exact lv_imul hx hb hd (hs H locs lsA hw hl)
    · replace hs := iv_q_spec hs
      obtain ⟨rfl, hs⟩ := hs
      obtain ⟨x, z, r, rfl, hs⟩ := iv_p2_spec hs
      exact lv_iand hx hb hd (hs H locs lsA hw hl)
    · replace hs := iv_q_spec hs
      obtain ⟨rfl, hs⟩ := hs
      obtain ⟨x, z, r, rfl, hs⟩ := iv_p2_spec hs
      exact lv_ior hx hb hd (hs H locs lsA hw hl)
    · replace hs := iv_q_spec hs
      obtain ⟨rfl, hs⟩ := hs
      obtain ⟨x, z, r, rfl, hs⟩ := iv_p2_spec hs
      exact lv_ixor hx hb hd (hs H locs lsA hw hl)
    · replace hs := iv_q_spec hs
      obtain ⟨rfl, hs⟩ := hs
      obtain ⟨x, z, r, rfl, hz, hs⟩ := iv_p2_spec hs
      exact lv_irem hx hb hd hz (hs H locs lsA hw hl)
    · replace hs := iv_q_spec hs
      obtain ⟨rfl, hs⟩ := hs
      obtain ⟨x, z, r, rfl, hs⟩ := iv_p2_spec hs
      exact lv_ishl hx hb hd (hs H locs lsA hw hl)
    · replace hs := iv_q_spec hs
      obtain ⟨rfl, hs⟩ := hs
      obtain ⟨x, z, r, rfl, hs⟩ := iv_p2_spec hs
      exact lv_ishr hx hb hd (hs H locs lsA hw hl)
    · replace hs := iv_q_spec hs
      obtain ⟨rfl, hs⟩ := hs
      obtain ⟨x, z, r, rfl, hs⟩ := iv_p2_spec hs
      exact lv_iushr hx hb hd rfl (hs H locs lsA hw hl)
    · replace hs := iv_q_spec hs
      obtain ⟨rfl, hs⟩ := hs
      obtain ⟨x, r, rfl, hs⟩ := iv_p1_spec hs
      exact lv_ineg hx hb hd (hs H locs lsA hw hl)
    · replace hs := iv_q_spec hs
      obtain ⟨rfl, hs⟩ := hs
      obtain ⟨x, r, rfl, hs⟩ := iv_d1_spec hs
      exact lv_dup hx hb hd (iv_cat _ _) (hs H locs lsA hw hl)
    · replace hs := iv_q_spec hs
      obtain ⟨rfl, hs⟩ := hs
      obtain ⟨x, z, r, rfl, hs⟩ := iv_d2_spec hs
      exact lv_dup2_11 hx hb hd (iv_cat _ _) (iv_cat _ _) (hs H locs lsA hw hl)
    · replace hs := iv_q_spec hs
      obtain ⟨rfl, hs⟩ := hs
      obtain ⟨x, r, rfl, hs⟩ := iv_d1_spec hs
      exact lv_pop hx hb hd (iv_cat _ _) (hs H locs lsA hw hl)
    · next cd off =>
      replace hs := iv_q_spec hs
      obtain ⟨rfl, hs⟩ := hs
      obtain ⟨h0, hs⟩ := iv_q_spec hs
      obtain ⟨x, r, rfl, hs⟩ := iv_p1_spec hs
      have kt : ∀ q : iv_c1 cd x, W p X.1 e (iv_rm (d + 1)) s m args below meth c H locs 0 0 (MQ below (iv_Qc X y.2.2.2 σ0 sz Q) args s 0 0 (iv_A X σ0 sz)) (F0 m ((pc : Int) + off).toNat lsA (r.map (iv_e X.2.2.1))) := fun q => hs.1 q H locs lsA hw hl
      have kf : ∀ q : ¬ iv_c1 cd x, W p X.1 e (iv_rm (d + 1)) s m args below meth c H locs 0 0 (MQ below (iv_Qc X y.2.2.2 σ0 sz Q) args s 0 0 (iv_A X σ0 sz)) (F0 m (pc + 3) lsA (r.map (iv_e X.2.2.1))) := fun q => hs.2 q H locs lsA hw hl
      have ht : (pc : Int) + off = (((pc : Int) + off).toNat : Int) := (Int.toNat_of_nonneg h0).symm
      cases cd
      · exact lv_if_eq hx hb hd ht kt kf
      · exact lv_if_ne hx hb hd ht kt (fun q => kf (fun h => h q))
      · exact lv_if_lt hx hb hd ht kt kf
      · exact lv_if_ge hx hb hd ht kt kf
      · exact lv_if_gt hx hb hd ht kt kf
      · exact lv_if_le hx hb hd ht kt kf
    · next cd off =>
      replace hs := iv_q_spec hs
      obtain ⟨rfl, hs⟩ := hs
      obtain ⟨h0, hs⟩ := iv_q_spec hs
      obtain ⟨x, z, r, rfl, hs⟩ := iv_p2_spec hs
      have kt : ∀ q : iv_c2 cd x z, W p X.1 e (iv_rm (d + 1)) s m args below meth c H locs 0 0 (MQ below (iv_Qc X y.2.2.2 σ0 sz Q) args s 0 0 (iv_A X σ0 sz)) (F0 m ((pc : Int) + off).toNat lsA (r.map (iv_e X.2.2.1))) := fun q => hs.1 q H locs lsA hw hl
      have kf : ∀ q : ¬ iv_c2 cd x z, W p X.1 e (iv_rm (d + 1)) s m args below meth c H locs 0 0 (MQ below (iv_Qc X y.2.2.2 σ0 sz Q) args s 0 0 (iv_A X σ0 sz)) (F0 m (pc + 3) lsA (r.map (iv_e X.2.2.1))) := fun q => hs.2 q H locs lsA hw hl
      have ht : (pc : Int) + off = (((pc : Int) + off).toNat : Int) := (Int.toNat_of_nonneg h0).symm
      cases cd
      · exact lv_icmp_eq hx hb hd ht kt kf
      · exact lv_icmp_ne hx hb hd ht kt (fun q => kf (fun h => h q))
      · exact lv_icmp_lt hx hb hd ht kt kf
      · exact lv_icmp_ge hx hb hd ht kt kf
      · exact lv_icmp_gt hx hb hd ht kt kf
      · exact lv_icmp_le hx hb hd ht kt kf
    · replace hs := iv_q_spec hs
      obtain ⟨rfl, hs⟩ := hs
      obtain ⟨h0, hs⟩ := iv_q_spec hs
      exact lv_goto hx hb hd (Int.toNat_of_nonneg h0).symm (hs H locs lsA hw hl)
    · replace hs := iv_q_spec hs
      obtain ⟨rfl, hs⟩ := hs
      obtain ⟨q, r, rfl, hs⟩ := iv_pr_spec hs
      obtain ⟨z, hz, hs⟩ := iv_o_spec hs
      obtain ⟨ci, fs, hf, hla, hfs⟩ := iv_gf_spec hz
      obtain ⟨qc, hq1, hq2, hq3⟩ := iv_fok (hok.1 _ _ _ hf)
      obtain ⟨ty0, -, -, hin⟩ := iv_cl_ok hq1
      have hent : (iv_w X.2.2.1 X.2.2.2.1 X.2.2.2.2 σ)[q]? = some (X.2.2.1 q, .inr (ci, iv_flds X.2.2.1 (σ q) fs 0)) := by
        rw [iv_w_get (iv_lt_of hla hfs)]
        unfold iv_en
        rw [hla]
      refine va_get (v := iv_e X.2.2.1 (iv_gv σ q z)) hx hb hgo hin hown hK hP q hent hq1 z.2 hq2 (hgo _ hq3) (fun _ h9 => h9) ?_ hd (hs H locs lsA hw hl)
      rw [iv_flds_get, hfs]
      obtain ⟨z1, z2⟩ := z
      cases z1 <;> simp [iv_fv, iv_gv, iv_e]
    · replace hs := iv_q_spec hs
      obtain ⟨rfl, hs⟩ := hs
      obtain ⟨q, x, r, rfl, hs⟩ := iv_pa_spec hs
      obtain ⟨⟨z1, z2⟩, hz, hzn, hs⟩ := iv_o_spec hs
      obtain ⟨ci, fs, hf, hla, hfs⟩ := iv_gf_spec hz
      dsimp only at hzn hf hfs hs
      subst hzn
      obtain ⟨qc, hq1, hq2, hq3⟩ := iv_fok (hok.1 _ _ _ hf)
      obtain ⟨ty0, hty, hnm, hin⟩ := iv_cl_ok hq1
      have hent : (iv_w X.2.2.1 X.2.2.2.1 X.2.2.2.2 σ)[q]? = some (X.2.2.1 q, .inr (ci, iv_flds X.2.2.1 (σ q) fs 0)) := by
        rw [iv_w_get (iv_lt_of hla hfs)]
        unfold iv_en
        rw [hla]
      obtain ⟨hI, hfin⟩ := iv_lay_of hla hq1 hfs
      have hset : (iv_w X.2.2.1 X.2.2.2.1 X.2.2.2.2 σ).set q (X.2.2.1 q, .inr (ci, (iv_flds X.2.2.1 (σ q) fs 0).set z2 (.int x))) = iv_w X.2.2.1 X.2.2.2.1 X.2.2.2.2 (iv_u σ q z2 x) := by
        refine iv_w_set (iv_lt_of hla hfs) ?_ (fun t ht => iv_u_ne ht)
        unfold iv_en
        rw [hla, iv_flds_set _ _ _ _ _ hfs, iv_u_eq]
      refine va_put (v := .int x) (ty := .int) hx hb hgo hin ty0 hty hnm hown hK hP hD hS q hent hq1 z2 hq2 (hgo _ hq3) (fun _ h9 => h9) hfin (by rw [hI]; decide +kernel) rfl rfl (by rw [iv_flds_len]; exact (List.getElem?_eq_some_iff.mp hfs).1) hd (fun H1 locs1 hP1 hD1 hS1 => ?_)
      rw [hset] at hP1 hD1
      exact hs H1 locs1 lsA ⟨hK, hP1, hD1, hS1, hN⟩ hl
    · replace hs := iv_q_spec hs
      obtain ⟨rfl, hs⟩ := hs
      obtain ⟨q, i, r, rfl, hs⟩ := iv_pa_spec hs
      obtain ⟨⟨z1, z2⟩, hz, hz1, hin, hs⟩ := iv_o_spec hs
      dsimp only at hz1 hin
      subst hz1
      obtain ⟨h57, hen⟩ := iv_ar_spec hz
      have hent : (iv_w X.2.2.1 X.2.2.2.1 X.2.2.2.2 σ)[q]? = some (X.2.2.1 q, .inl (X.2.2.2.1, z2, .inl (σ q))) := by
        rw [iv_w_get h57, hen]
        rfl
      exact va_iald hx hb hK hP q 0 hent rfl hin hd (hs H locs lsA hw hl)
    · replace hs := iv_q_spec hs
      obtain ⟨rfl, hs⟩ := hs
      obtain ⟨q, i, r, rfl, hs⟩ := iv_pa_spec hs
      obtain ⟨⟨z1, z2⟩, hz, hz1, hin, hs⟩ := iv_o_spec hs
      dsimp only at hz1 hin
      subst hz1
      obtain ⟨h57, hen⟩ := iv_ar_spec hz
      have hent : (iv_w X.2.2.1 X.2.2.2.1 X.2.2.2.2 σ)[q]? = some (X.2.2.1 q, .inl (X.2.2.2.2, z2, .inl (σ q))) := by
        rw [iv_w_get h57, hen]
        rfl
      exact va_zald hx hb hK hP q 1 hent rfl hin hd (hs H locs lsA hw hl)
    · replace hs := iv_q_spec hs
      obtain ⟨rfl, hs⟩ := hs
      obtain ⟨q, i, x, r, rfl, hs⟩ := iv_ps_spec hs
      obtain ⟨⟨z1, z2⟩, hz, hz1, hin, hs⟩ := iv_o_spec hs
      dsimp only at hz1 hin
      subst hz1
      obtain ⟨h57, hen⟩ := iv_ar_spec hz
      have hent : (iv_w X.2.2.1 X.2.2.2.1 X.2.2.2.2 σ)[q]? = some (X.2.2.1 q, .inl (X.2.2.2.1, z2, .inl (σ q))) := by
        rw [iv_w_get h57, hen]
        rfl
      have hset : (iv_w X.2.2.1 X.2.2.2.1 X.2.2.2.2 σ).set q (X.2.2.1 q, .inl (X.2.2.2.1, z2, .inl (upd (σ q) i.toNatClampNeg x))) = iv_w X.2.2.1 X.2.2.2.1 X.2.2.2.2 (iv_u σ q i.toNatClampNeg x) := by
        refine iv_w_set h57 ?_ (fun t ht => iv_u_ne ht)
        rw [hen, iv_u_eq]
        rfl
      refine va_iast hx hb hK hP hD hS q 0 hent rfl hin hd (fun H1 locs1 hP1 hD1 hS1 => ?_)
      rw [hset] at hP1 hD1
      exact hs H1 locs1 lsA ⟨hK, hP1, hD1, hS1, hN⟩ hl
    · replace hs := iv_q_spec hs
      obtain ⟨rfl, hs⟩ := hs
      obtain ⟨q, i, x, r, rfl, hs⟩ := iv_ps_spec hs
      obtain ⟨⟨z1, z2⟩, hz, hz1, hin, hs⟩ := iv_o_spec hs
      dsimp only at hz1 hin
      subst hz1
      obtain ⟨h57, hen⟩ := iv_ar_spec hz
      have hent : (iv_w X.2.2.1 X.2.2.2.1 X.2.2.2.2 σ)[q]? = some (X.2.2.1 q, .inl (X.2.2.2.2, z2, .inl (σ q))) := by
        rw [iv_w_get h57, hen]
        rfl
      have hset : (iv_w X.2.2.1 X.2.2.2.1 X.2.2.2.2 σ).set q (X.2.2.1 q, .inl (X.2.2.2.2, z2, .inl (upd (σ q) i.toNatClampNeg (vp_nar .boolean x)))) = iv_w X.2.2.1 X.2.2.2.1 X.2.2.2.2 (iv_u σ q i.toNatClampNeg (vp_nar .boolean x)) := by
        refine iv_w_set h57 ?_ (fun t ht => iv_u_ne ht)
        rw [hen, iv_u_eq]
        rfl
      refine va_zast hx hb hK hP hD hS q 1 hent rfl hin hd (fun H1 locs1 hP1 hD1 hS1 => ?_)
      rw [hset] at hP1 hD1
      exact hs H1 locs1 lsA ⟨hK, hP1, hD1, hS1, hN⟩ hl
    · replace hs := iv_q_spec hs
      obtain ⟨rfl, hs⟩ := hs
      obtain ⟨q, r, rfl, hs⟩ := iv_pr_spec hs
      obtain ⟨⟨z1, z2⟩, hz, hs⟩ := iv_o_spec hs
      obtain ⟨h57, hen⟩ := iv_ar_spec hz
      have hent : (iv_w X.2.2.1 X.2.2.2.1 X.2.2.2.2 σ)[q]? = some (X.2.2.1 q, .inl (if z1 then X.2.2.2.2 else X.2.2.2.1, z2, .inl (σ q))) := by
        rw [iv_w_get h57, hen]
      cases z1
      · exact va_alen hx hb hK hP q 0 hent rfl (ty := .int) rfl hd (hs H locs lsA hw hl)
      · exact va_alen hx hb hK hP q 1 hent rfl (ty := .boolean) rfl hd (hs H locs lsA hw hl)
    · next dflt lo hi offs =>
      obtain ⟨x, r, rfl, hs⟩ := iv_p1_spec hs
      obtain ⟨hlen, hdf, hsw⟩ := iv_q_spec hs
      by_cases hout : x.toInt < lo ∨ hi < x.toInt
      · obtain ⟨h0, hk⟩ := iv_q_spec (hdf hout)
        exact lv_tableOut hx hb hd hout (Int.toNat_of_nonneg h0).symm (hk H locs lsA hw hl)
      · have h1 : ¬ x.toInt < lo := fun q => hout (Or.inl q)
        have h2 : ¬ hi < x.toInt := fun q => hout (Or.inr q)
        have hlt : (x.toInt - lo).toNat < offs.toList.length := by omega
        have hget : offs.toList[(x.toInt - lo).toNat]? = some (offs.toList[(x.toInt - lo).toNat]) := List.getElem?_eq_getElem hlt
        have hjj := iv_sw_spec _ _ hsw _ _ hget (by
          have e1 : lo + ((x.toInt - lo).toNat : Int) = x.toInt := by omega
          rw [e1, Int32.ofInt_toInt])
        obtain ⟨h0, hk⟩ := iv_q_spec hjj
        exact lv_tableIn hx hb hd h1 h2 (by rw [← Array.getElem?_toList]; exact hget) (Int.toNat_of_nonneg h0).symm (hk H locs lsA hw hl)
    · replace hs := iv_q_spec hs
      obtain ⟨rfl, hs⟩ := hs
      obtain ⟨z, hz, hrc, hc⟩ := iv_o_spec hs
      have hsz : lsA.size = y.2.2.1 := by obtain ⟨lv, h1, -⟩ := hl; exact h1.1
      exact iv_cV hx hb hml hown hts hA (hok.2.2 _ _ _ _ _ hz) hd hrc hc hw hsz (fun st' σ' H1 locs1 hk hw1 => hk H1 locs1 lsA hw1 hl)
    · replace hs := iv_q_spec hs
      obtain ⟨rfl, hs⟩ := hs
      obtain ⟨z, hz, hrc, hc⟩ := iv_o_spec hs
      have hsz : lsA.size = y.2.2.1 := by obtain ⟨lv, h1, -⟩ := hl; exact h1.1
      exact iv_cS hx hb hml hown hts hA (hok.2.2 _ _ _ _ _ hz) hd hrc hc hw hsz (fun st' σ' H1 locs1 hk hw1 => hk H1 locs1 lsA hw1 hl)
    · replace hs := iv_q_spec hs
      obtain ⟨rfl, hs⟩ := hs
      obtain ⟨v, rfl, hrk, hq⟩ := iv_r1_spec hs
      obtain ⟨ty, hty, hnar⟩ := iv_rk_nar hrk
      exact W.zret hx hb (hr.trans hty) hnar (fun t ht hW => ⟨⟨v, σ, by rw [hty]; rfl, hq, by rw [ht]; exact hP, va_K.moved hW.alike hK, hD⟩, hS.F ht⟩) hS.2.2 hd hlocks
    · replace hs := iv_q_spec hs
      obtain ⟨rfl, hs⟩ := hs
      obtain ⟨rfl, hret, hq⟩ := hs
      exact W.vret hx hb (hr.trans hret) (fun t ht hW => ⟨⟨0, σ, by rw [hret]; rfl, hq, by rw [ht]; exact hP, va_K.moved hW.alike hK, hD⟩, hS.F ht⟩) hS.2.2 hd hlocks
    · exact hs.elim
  · exact hs.elim
theorem iv_Sf_ok (hx : p.tables.exec = Jvm.exec) (hb : c.code = y.2.1) (hr : meth.sig.returnType = y.2.2.2) (hml : c.maxLocals = y.2.2.1) (hown : s.vm.findClass own = some m.cls) (hts : ∀ w ∈ cw :: iv_g, w.before args s = true) (hlocks : meth.locks = false) (hok : iv_ok own b)
    (hA : ∀ q, s.heap.size ≤ q → iv_A X σ0 sz q) {pc : Nat} {ls : iv_Ls} {st : List iv_V} {σ : iv_S} (h : iv_Sf X d y b Q pc ls st σ) :
    iv_G p e (iv_rm (d + 1)) s m args below meth c X (iv_A X σ0 sz) (MQ below (iv_Qc X y.2.2.2 σ0 sz Q) args s 0 0 (iv_A X σ0 sz)) y.2.2.1 pc ls st σ :=
  h _ (fun _ _ _ _ hs => iv_step_ok hx hb hr hml hown hts hlocks hok hA hs)
end IVR
theorem iv_sl_len (a : Nat → Nat) : ∀ av : List iv_V, (lg_sl (av.map (iv_e a))).length = av.length
  | [] => rfl
  | v :: av => by
    have h := iv_sl_len a av
    cases v <;> simp [lg_sl, iv_e, Value.category] at h ⊢ <;> exact h
theorem iv_args_mem (a : Nat → Nat) : ∀ (av : List iv_V) (n j i : Nat) (v : iv_V), (av.map some ++ List.replicate n none)[i]? = some (some v) → (j + i, iv_e a v) ∈ lv_args j (av.map (iv_e a))
  | [], n, j, i, v, h => by
    simp only [List.map_nil, List.nil_append] at h
    rw [List.getElem?_replicate] at h
    split at h <;> simp at h
  | w :: av, n, j, 0, v, h => by
    simp at h
    subst h
    simp [lv_args]
  | w :: av, n, j, i + 1, v, h => by
    simp only [List.map_cons, List.cons_append, List.getElem?_cons_succ] at h
    have h1 := iv_args_mem a av n (j + 1) i v h
    simp only [List.map_cons, lv_args]
    rw [iv_cat]
    refine List.mem_cons_of_mem _ ?_
    rw [show j + (i + 1) = j + 1 + i by omega]
    simpa using h1
theorem iv_ofW {l : Launch} {y : MethodName} {ws ws' : List Cond} {rm : Room} {Pc : Array Value → State → Prop} {Qc : Array Value → State → Outcome → State → Prop} {mc ms : Nat} {free : Addr → Prop} {cc : ByteArray} {maxL : Nat} {ret : Option FieldType}
    (hy : plainFor y = true) (hw : ws = Cond.code y cc maxL ret :: ws')
    (body : ∀ p e s m args below meth c s₁, BodyLoose p l y (headSpec ws rm) cc maxL ret e s m args below meth c s₁ → c.maxLocals = maxL → Pc args s →
      W p l e (headSpec ws rm).room s m args below meth c s.heap [] 0 0 (MQ below Qc args s mc ms free) (entryFrame m args maxL)) : Met l y ws rm Pc Qc mc ms free := by
  refine MetFree.of_bodySF (code := cc) (maxLocals := maxL) (ret := ret) hy ?_ ?_
  · intro args s m h hn
    obtain ⟨meth, c, h1, h2, h3, h4, h5, h6, -, -⟩ := Cond.code_spec hn (atoms_spec (ws := ws) h _ (by rw [hw]; exact List.mem_cons_self))
    exact ⟨meth, c, h1, h2, h3, h4, h5, h6⟩
  · intro p e s m args below meth c s₁ B hml hP _
    have hh0 : s₁.heap = s.heap := by rw [B.state]; rfl
    obtain ⟨t, a1, o, b1, b2, b3⟩ := body p e s m args below meth c s₁ B hml hP s₁ hh0 (Stand.of_body B)
    exact ⟨t, o, a1, b1, b2, ⟨b3.1, b3.2⟩⟩
/-- a method's contract out of its steps -/
theorem iv_ct {X : iv_X} {d : Nat} {y : iv_M} {b : iv_B} {own : String} {Q : Int32 → iv_S → Prop} {av : List iv_V} {σ : iv_S} (hy : plainFor y.1 = true) (hyc : y.1.cls = own) (hok : iv_ok own b) (hlen : av.length ≤ y.2.2.1)
    (h : iv_Sf X d y b Q 0 (av.map some ++ List.replicate (y.2.2.1 - av.length) none) [] σ) : iv_Ct X y (d + 1) av σ Q := by
  intro sz
  refine iv_ofW (cc := y.2.1) (maxL := y.2.2.1) (ret := y.2.2.2) hy rfl ?_
  intro p e s m args below meth c s₁ B hml hv
  obtain ⟨rfl, hsz, hP, hK, hD0, hN⟩ := hv
  subst hsz
  have hts := atoms_spec (ws := .code y.1 y.2.1 y.2.2.1 y.2.2.2 :: iv_g) B.pre
  have hown : s.vm.findClass own = some m.cls := hyc ▸ findClass_of_methodNamed B.named
  have hD := hD0.self (sz := s.heap.size)
  have hA : ∀ q : Nat, s.heap.size ≤ q → iv_A X σ s.heap.size q := fun q h => Or.inr h
  have hS : va_S (iv_A X σ s.heap.size) s.heap s.heap [] := va_S.rf
  have hl := lv_entry (av.map (iv_e X.2.2.1)) (n := y.2.2.1) (by rw [iv_sl_len]; exact hlen)
  rw [lg_entry_eq]
  exact iv_Sf_ok B.exec B.bytes B.returns hml hown hts B.notSynchronized hok hA h s.heap [] _ ⟨hK, hP, hD, hS, hN⟩ ⟨_, hl, fun i v hv => by
    have := iv_args_mem X.2.2.1 av _ 0 i v hv
    simpa using this⟩
/-- a contract may say less -/
theorem iv_Ct_mono {X : iv_X} {y : iv_M} {d : Nat} {av : List iv_V} {σ : iv_S} {Q Q' : Int32 → iv_S → Prop} (h : iv_Ct X y d av σ Q) (hQ : ∀ r u, Q r u → Q' r u) : iv_Ct X y d av σ Q' := by
  intro sz p e ha hc hk s m args below hf happ hP hK
  obtain ⟨n, o, h1, h2, h3, ⟨⟨r, u, q1, q2, q3⟩, q4⟩, h5⟩ := h sz p e ha hc hk s m args below hf happ hP hK
  exact ⟨n, o, h1, h2, h3, ⟨⟨r, u, q1, hQ r u q2, q3⟩, q4⟩, h5⟩
end
section
theorem iv_lk {α : Type} : ∀ {l : List (Nat × α)} {i : Nat} {v : α}, l.lookup i = some v → (i, v) ∈ l
  | [], _, _, h => by simp at h
  | (j, w) :: l, i, v, h => by
    rw [List.lookup_cons] at h
    split at h
    · next he =>
      cases h
      rw [eq_of_beq he]
      exact List.mem_cons_self
    · exact List.mem_cons_of_mem _ (iv_lk h)
theorem iv_ok_of {own : String} {fl : List (Nat × Nat × Nat)} {cs : List (Nat × Int32)} {cv : List (Nat × iv_C)} (h1 : ∀ e ∈ fl, iv_fokB own e.1 e.2.1 e.2.2 = true) (h2 : ∀ e ∈ cs, Cond.constant own e.1 e.2 ∈ iv_g) (h3 : ∀ e ∈ cv, iv_cokB own e.1 e.2.1 e.2.2.1 e.2.2.2.1 e.2.2.2.2 = true) : iv_ok own (fun i => fl.lookup i, fun i => cs.lookup i, fun i => cv.lookup i) :=
  ⟨fun idx ci j h => h1 _ (iv_lk h), fun idx v h => h2 _ (iv_lk h), fun idx n ck vd ym h => h3 _ (iv_lk h)⟩
theorem iv_fok_of {own : String} {idx ci j : Nat} {q : vw_C} (hq : vwCl[ci]? = some q) (hj : j < q.2.2) (hl : Cond.fieldLink own idx (q.2.1 j).1 (q.2.1 j).2.1 (q.2.1 j).2.2.1 ∈ iv_g) : iv_fokB own idx ci j = true := by
  unfold iv_fokB
  rw [hq]
  simp only [Bool.and_eq_true, decide_eq_true_eq]
  exact ⟨hj, hl⟩
theorem iv_cok_S {own : String} {idx n : Nat} {vd : Bool} {ym : iv_M} (hv : vd = ym.2.2.2.isNone) (n1 : ym.1.cls ≠ "java/lang/invoke/MethodHandle") (n2 : ym.1.cls ≠ "java/lang/invoke/VarHandle") (hc : Cond.code ym.1 ym.2.1 ym.2.2.1 ym.2.2.2 ∈ iv_g) (hi : Cond.initialized ym.1.cls ∈ iv_g) (hm : ym.2.2.1 ≤ 20) (hp : (parseMethodDescriptor ym.1.desc).map (fun d => d.parameters.length) = some n) (hs : Cond.static ym.1 ∈ iv_g) (hl : Cond.methodLink own idx ym.1 ∈ iv_g ∨ Cond.methodLinkNest own idx ym.1 RX6 ∈ iv_N) : iv_cokB own idx n none vd ym = true := by
  unfold iv_cokB
  simp only [Bool.and_eq_true, Bool.or_eq_true, decide_eq_true_eq]
  exact ⟨⟨⟨⟨⟨⟨hv, n1⟩, n2⟩, hc⟩, hi⟩, hm⟩, ⟨hp, hs⟩, hl⟩
theorem iv_cok_V {own : String} {idx n ci : Nat} {vd : Bool} {ym : iv_M} (hv : vd = ym.2.2.2.isNone) (n1 : ym.1.cls ≠ "java/lang/invoke/MethodHandle") (n2 : ym.1.cls ≠ "java/lang/invoke/VarHandle") (hc : Cond.code ym.1 ym.2.1 ym.2.2.1 ym.2.2.2 ∈ iv_g) (hi : Cond.initialized ym.1.cls ∈ iv_g) (hm : ym.2.2.1 ≤ 20) (hp : (parseMethodDescriptor ym.1.desc).map (fun d => d.parameters.length + 1) = some n) (hs : Cond.instanceMethod ym.1 ∈ iv_g) (hse : Cond.selects ym.1.cls ym.1 ym.1 ∈ iv_g) (hl : Cond.methodLink own idx ym.1 ∈ iv_g) (hw : (vwCl[ci]?).map (fun q => q.1) = some ym.1.cls) : iv_cokB own idx n (some ci) vd ym = true := by
  unfold iv_cokB
  simp only [Bool.and_eq_true, decide_eq_true_eq]
  exact ⟨⟨⟨⟨⟨⟨hv, n1⟩, n2⟩, hc⟩, hi⟩, hm⟩, ⟨⟨⟨hp, hs⟩, hse⟩, hl⟩, hw⟩
def mJ9_max_7cf53 : iv_M := (yJ9_max_7cf53, cJ9_max_7cf53, 2, (some .int))
def mJ7_fill_53178 : iv_M := (yJ7_fill_53178, cJ7_fill_53178, 4, none)
def mX6_cabinet : iv_M := (yX6_cabinet, cX6_cabinet, 6, (some .int))
def mX6_isInTown : iv_M := (yX6_isInTown, cX6_isInTown, 2, (some .boolean))
def mX6_isWithin : iv_M := (yX6_isWithin, cX6_isWithin, 3, (some .boolean))
def mX0_add : iv_M := (yX0_add, cX0_add, 7, (some .int))
def mX4_add : iv_M := (yX4_add, cX4_add, 3, (some .int))
def mX6_pack : iv_M := (yX6_pack, cX6_pack, 3, (some .int))
def mX6_hasSlotLeft : iv_M := (yX6_hasSlotLeft, cX6_hasSlotLeft, 2, (some .boolean))
def mX0_has : iv_M := (yX0_has, cX0_has, 2, (some .boolean))
def mX3_countIn : iv_M := (yX3_countIn, cX3_countIn, 4, (some .int))
def mX3_add : iv_M := (yX3_add, cX3_add, 3, (some .int))
def mX6_set : iv_M := (yX6_set, cX6_set, 4, (some .int))
def mX6_price : iv_M := (yX6_price, cX6_price, 3, (some .boolean))
def mX6_sick : iv_M := (yX6_sick, cX6_sick, 3, (some .boolean))
def mX3_has : iv_M := (yX3_has, cX3_has, 2, (some .boolean))
def mX6_take : iv_M := (yX6_take, cX6_take, 3, (some .int))
def mX6_givenIn : iv_M := (yX6_givenIn, cX6_givenIn, 4, (some .int))
def mX6_isReady : iv_M := (yX6_isReady, cX6_isReady, 2, (some .boolean))
def mX3_isOut : iv_M := (yX3_isOut, cX3_isOut, 2, (some .boolean))
def mX3_isFit : iv_M := (yX3_isFit, cX3_isFit, 3, (some .boolean))
def mX3_former : iv_M := (yX3_former, cX3_former, 4, (some .int))
def mX6_swap : iv_M := (yX6_swap, cX6_swap, 5, (some .int))
def mX6_canComeBack : iv_M := (yX6_canComeBack, cX6_canComeBack, 3, (some .boolean))
def mX3_comeBack : iv_M := (yX3_comeBack, cX3_comeBack, 4, none)
def mX6_bring : iv_M := (yX6_bring, cX6_bring, 4, (some .int))
def mX6_move : iv_M := (yX6_move, cX6_move, 3, (some .boolean))
def mX6_run : iv_M := (yX6_run, cX6_run, 3, (some .int))
def mX6_passHour : iv_M := (yX6_passHour, cX6_passHour, 3, none)
def mX6_priceNow : iv_M := (yX6_priceNow, cX6_priceNow, 1, (some .int))
def mJ9_floorMod_7cf53 : iv_M := (yJ9_floorMod_7cf53, cJ9_floorMod_7cf53, 3, (some .int))
def mX0_size : iv_M := (yX0_size, cX0_size, 1, (some .int))
def mX6_chargeIn : iv_M := (yX6_chargeIn, cX6_chargeIn, 6, none)
def mX6_countReadyIn : iv_M := (yX6_countReadyIn, cX6_countReadyIn, 4, (some .int))
def mX6_nextToCharge : iv_M := (yX6_nextToCharge, cX6_nextToCharge, 4, (some .int))
def mX3_load : iv_M := (yX3_load, cX3_load, 5, none)
def mJ9_min_7cf53 : iv_M := (yJ9_min_7cf53, cJ9_min_7cf53, 2, (some .int))
def mX6_count : iv_M := (yX6_count, cX6_count, 2, (some .int))
def mX3_countSick : iv_M := (yX3_countSick, cX3_countSick, 3, (some .int))
def mX3_countOld : iv_M := (yX3_countOld, cX3_countOld, 4, (some .int))
def mX6_in : iv_M := (yX6_in, cX6_in, 3, (some .int))
def mX6_need : iv_M := (yX6_need, cX6_need, 2, (some .int))
def mX1_addNeed : iv_M := (yX1_addNeed, cX1_addNeed, 2, (some .int))
def mX6_clear : iv_M := (yX6_clear, cX6_clear, 2, (some .int))
def mX6_plan : iv_M := (yX6_plan, cX6_plan, 2, (some .int))
def mX1_keepLeast : iv_M := (yX1_keepLeast, cX1_keepLeast, 6, (some .int))
def mX1_begin : iv_M := (yX1_begin, cX1_begin, 5, none)
def mX1_cheapestUnfilled : iv_M := (yX1_cheapestUnfilled, cX1_cheapestUnfilled, 3, (some .int))
def mX1_fill : iv_M := (yX1_fill, cX1_fill, 5, none)
def mX1_keepDraft : iv_M := (yX1_keepDraft, cX1_keepDraft, 3, (some .int))
def mX6_planned : iv_M := (yX6_planned, cX6_planned, 2, (some .int))
def mX6_wish : iv_M := (yX6_wish, cX6_wish, 3, (some .boolean))
def mX6_round : iv_M := (yX6_round, cX6_round, 2, (some .int))
def mX5_begin : iv_M := (yX5_begin, cX5_begin, 2, none)
def mX5_addSurplus : iv_M := (yX5_addSurplus, cX5_addSurplus, 3, none)
def mX5_keepShortest : iv_M := (yX5_keepShortest, cX5_keepShortest, 2, (some .int))
def mX5_extend : iv_M := (yX5_extend, cX5_extend, 11, none)
def mX5_keepRow : iv_M := (yX5_keepRow, cX5_keepRow, 3, none)
def mX4_distance : iv_M := (yX4_distance, cX4_distance, 4, (some .int))
def mJ9_abs_0f7a4 : iv_M := (yJ9_abs_0f7a4, cJ9_abs_0f7a4, 1, (some .int))
def mX6_stop : iv_M := (yX6_stop, cX6_stop, 2, (some .int))
def mX6_point : iv_M := (yX6_point, cX6_point, 4, (some .int))
def mX6_places : iv_M := (yX6_places, cX6_places, 2, (some .int))
def mX2_keepBest : iv_M := (yX2_keepBest, cX2_keepBest, 7, (some .int))
def mX2_measureCabinetWays : iv_M := (yX2_measureCabinetWays, cX2_measureCabinetWays, 5, none)
def mJ6_bitCount_0f7a4 : iv_M := (yJ6_bitCount_0f7a4, cJ6_bitCount_0f7a4, 1, (some .int))
def mX2_sumOfWays : iv_M := (yX2_sumOfWays, cX2_sumOfWays, 6, (some .int))
def mX2_isFirstRow : iv_M := (yX2_isFirstRow, cX2_isFirstRow, 4, (some .boolean))
def mX6_chosen : iv_M := (yX6_chosen, cX6_chosen, 1, (some .int))
def mX6_of : iv_M := (yX6_of, cX6_of, 3, (some .int))
def mX7_thrown : iv_M := (yX7_thrown, cX7_thrown, 1, (some .int))
def mX7_cabinet : iv_M := (yX7_cabinet, cX7_cabinet, 7, (some .int))
def mX7_in : iv_M := (yX7_in, cX7_in, 3, (some .boolean))
def mX7_pack : iv_M := (yX7_pack, cX7_pack, 3, (some .int))
def mX7_isCabinet : iv_M := (yX7_isCabinet, cX7_isCabinet, 2, (some .boolean))
def mX7_hasSlot : iv_M := (yX7_hasSlot, cX7_hasSlot, 2, (some .boolean))
def mX7_inside : iv_M := (yX7_inside, cX7_inside, 4, (some .int))
def mX7_set : iv_M := (yX7_set, cX7_set, 4, (some .int))
def mX7_leastOf : iv_M := (yX7_leastOf, cX7_leastOf, 1, (some .int))
def mX7_mostOf : iv_M := (yX7_mostOf, cX7_mostOf, 1, (some .int))
def mX7_price : iv_M := (yX7_price, cX7_price, 3, (some .boolean))
def mX7_sick : iv_M := (yX7_sick, cX7_sick, 3, (some .boolean))
def mX7_isPack : iv_M := (yX7_isPack, cX7_isPack, 2, (some .boolean))
def mX7_take : iv_M := (yX7_take, cX7_take, 3, (some .int))
def mX7_given : iv_M := (yX7_given, cX7_given, 4, (some .int))
def mX7_isReady : iv_M := (yX7_isReady, cX7_isReady, 2, (some .boolean))
def mX7_isFit : iv_M := (yX7_isFit, cX7_isFit, 2, (some .boolean))
def mX7_isAhead : iv_M := (yX7_isAhead, cX7_isAhead, 3, (some .boolean))
def mX7_swap : iv_M := (yX7_swap, cX7_swap, 5, (some .int))
def mX7_mayCome : iv_M := (yX7_mayCome, cX7_mayCome, 3, (some .boolean))
def mX7_bring : iv_M := (yX7_bring, cX7_bring, 4, (some .int))
def mX7_move : iv_M := (yX7_move, cX7_move, 3, (some .boolean))
def mX7_run : iv_M := (yX7_run, cX7_run, 3, (some .int))
def mX7_goHour : iv_M := (yX7_goHour, cX7_goHour, 7, none)
def mX7_line : iv_M := (yX7_line, cX7_line, 5, (some .int))
def mX7_readyIn : iv_M := (yX7_readyIn, cX7_readyIn, 4, (some .int))
def mX7_count : iv_M := (yX7_count, cX7_count, 4, (some .int))
def mX7_of : iv_M := (yX7_of, cX7_of, 3, (some .int))
def mX7_in_ : iv_M := (yX7_in_, cX7_in_, 3, (some .int))
def mX7_need : iv_M := (yX7_need, cX7_need, 2, (some .int))
def mX7_clear : iv_M := (yX7_clear, cX7_clear, 2, (some .int))
def mX7_plan : iv_M := (yX7_plan, cX7_plan, 8, (some .int))
def mX7_planned : iv_M := (yX7_planned, cX7_planned, 2, (some .int))
def mX7_wish : iv_M := (yX7_wish, cX7_wish, 3, (some .boolean))
def mX7_round : iv_M := (yX7_round, cX7_round, 3, (some .int))
def mX7_goOn : iv_M := (yX7_goOn, cX7_goOn, 12, none)
def mX7_away : iv_M := (yX7_away, cX7_away, 4, (some .int))
def mX7_stop : iv_M := (yX7_stop, cX7_stop, 2, (some .int))
def mX7_point : iv_M := (yX7_point, cX7_point, 4, (some .int))
def mX7_places : iv_M := (yX7_places, cX7_places, 6, (some .int))
def mX7_sumOf : iv_M := (yX7_sumOf, cX7_sumOf, 6, (some .int))
def mX7_isFirst : iv_M := (yX7_isFirst, cX7_isFirst, 2, (some .boolean))
def mJ6_numberOfTrailingZeros_0f7a4 : iv_M := (yJ6_numberOfTrailingZeros_0f7a4, cJ6_numberOfTrailingZeros_0f7a4, 2, (some .int))
def mX7_chosen : iv_M := (yX7_chosen, cX7_chosen, 1, (some .int))
def flX0 : List (Nat × Nat × Nat) := [(14, 0, 0), (20, 0, 1), (24, 0, 2), (27, 0, 3), (30, 0, 4), (33, 0, 5), (36, 4, 2)]
def csX0 : List (Nat × Int32) := []
def cvX0 : List (Nat × iv_C) := [(40, (3, none, false, mX6_isWithin)), (44, (3, some 4, false, mX4_add))]
def tbX0 : iv_B := (fun i => flX0.lookup i, fun i => csX0.lookup i, fun i => cvX0.lookup i)
def flX1 : List (Nat × Nat × Nat) := [(9, 1, 0), (15, 1, 1), (18, 1, 2), (21, 1, 3), (24, 1, 4), (27, 1, 5), (55, 1, 6)]
def csX1 : List (Nat × Int32) := []
def cvX1 : List (Nat × iv_C) := [(31, (3, some 1, true, mX1_begin)), (35, (1, some 1, false, mX1_cheapestUnfilled)), (39, (3, some 1, true, mX1_fill)), (43, (1, some 1, false, mX1_keepDraft)), (46, (2, none, false, mJ9_floorMod_7cf53)), (52, (2, none, false, mJ9_min_7cf53))]
def tbX1 : iv_B := (fun i => flX1.lookup i, fun i => csX1.lookup i, fun i => cvX1.lookup i)
def flX2 : List (Nat × Nat × Nat) := [(14, 2, 0), (20, 2, 1), (23, 2, 2), (31, 4, 2), (48, 2, 3), (51, 4, 0), (54, 4, 1)]
def csX2 : List (Nat × Int32) := []
def cvX2 : List (Nat × iv_C) := [(27, (2, some 2, true, mX2_measureCabinetWays)), (35, (1, none, false, mJ6_bitCount_0f7a4)), (41, (2, some 2, false, mX2_sumOfWays)), (44, (2, none, false, mX2_isFirstRow)), (57, (4, some 4, false, mX4_distance)), (61, (2, none, false, mJ9_min_7cf53))]
def tbX2 : iv_B := (fun i => flX2.lookup i, fun i => csX2.lookup i, fun i => cvX2.lookup i)
def flX3 : List (Nat × Nat × Nat) := [(9, 3, 0), (15, 3, 1), (18, 3, 2), (22, 3, 3), (25, 3, 4), (28, 3, 5)]
def csX3 : List (Nat × Int32) := []
def cvX3 : List (Nat × iv_C) := [(32, (3, none, false, mX6_isWithin)), (36, (2, none, false, mJ9_min_7cf53))]
def tbX3 : iv_B := (fun i => flX3.lookup i, fun i => csX3.lookup i, fun i => cvX3.lookup i)
def flX4 : List (Nat × Nat × Nat) := [(15, 4, 0), (21, 4, 1), (24, 4, 2)]
def csX4 : List (Nat × Int32) := []
def cvX4 : List (Nat × iv_C) := [(9, (2, none, false, mJ9_max_7cf53)), (28, (1, none, false, mJ9_abs_0f7a4))]
def tbX4 : iv_B := (fun i => flX4.lookup i, fun i => csX4.lookup i, fun i => cvX4.lookup i)
def flX5 : List (Nat × Nat × Nat) := [(9, 5, 0), (15, 5, 1), (19, 5, 2), (22, 5, 3), (25, 5, 5), (29, 5, 6), (32, 5, 7), (43, 4, 2), (56, 4, 0), (59, 4, 1), (62, 5, 4)]
def csX5 : List (Nat × Int32) := []
def cvX5 : List (Nat × iv_C) := [(35, (7, some 5, true, mX5_extend)), (39, (2, some 5, true, mX5_keepRow)), (48, (3, none, false, mX6_isWithin)), (52, (4, some 4, false, mX4_distance))]
def tbX5 : iv_B := (fun i => flX5.lookup i, fun i => csX5.lookup i, fun i => cvX5.lookup i)
def flX6 : List (Nat × Nat × Nat) := [(7, 6, 0), (13, 6, 1), (19, 6, 2), (26, 6, 3), (33, 6, 4), (40, 6, 5), (47, 6, 6), (85, 3, 2), (93, 3, 3), (113, 6, 7), (124, 3, 5), (132, 1, 5), (133, 2, 0), (137, 4, 2), (140, 2, 1), (153, 3, 0), (156, 3, 1), (167, 0, 4), (170, 0, 5), (180, 1, 6), (183, 1, 4), (194, 0, 0), (201, 5, 4), (202, 5, 3), (208, 2, 3), (210, 0, 1), (227, 0, 2), (230, 0, 3), (239, 3, 4)]
def csX6 : List (Nat × Int32) := []
def cvX6 : List (Nat × iv_C) := [(51, (2, none, true, mJ7_fill_53178)), (57, (2, none, false, mX6_isInTown)), (61, (3, none, false, mX6_isWithin)), (65, (6, some 0, false, mX0_add)), (69, (2, some 6, false, mX6_hasSlotLeft)), (73, (3, some 3, false, mX3_add)), (82, (2, some 3, false, mX3_has)), (89, (2, some 6, false, mX6_givenIn)), (96, (2, some 0, false, mX0_has)), (97, (3, some 6, false, mX6_canComeBack)), (100, (2, some 6, false, mX6_take)), (103, (4, some 3, true, mX3_comeBack)), (107, (2, some 3, false, mX3_countIn)), (110, (2, some 3, false, mX3_isOut)), (117, (1, some 6, true, mX6_passHour)), (120, (1, some 0, false, mX0_size)), (126, (1, some 3, false, mX3_countSick)), (129, (2, some 3, false, mX3_countOld)), (143, (1, some 6, false, mX6_priceNow)), (159, (2, some 6, false, mX6_isReady)), (164, (2, some 6, false, mX6_countReadyIn)), (173, (2, some 1, false, mX1_addNeed)), (176, (4, some 1, false, mX1_keepLeast)), (186, (2, some 5, true, mX5_begin)), (190, (3, some 5, true, mX5_addSurplus)), (197, (2, some 5, false, mX5_keepShortest)), (203, (3, some 4, false, mX4_add)), (204, (3, some 2, false, mX2_keepBest)), (213, (3, some 3, false, mX3_isFit)), (216, (3, some 3, false, mX3_former)), (219, (2, none, false, mJ9_floorMod_7cf53)), (224, (3, some 6, true, mX6_chargeIn)), (233, (2, some 6, false, mX6_nextToCharge)), (236, (4, some 3, true, mX3_load))]
def tbX6 : iv_B := (fun i => flX6.lookup i, fun i => csX6.lookup i, fun i => cvX6.lookup i)
def flX7 : List (Nat × Nat × Nat) := [(9, 7, 0), (13, 7, 2), (16, 7, 3), (19, 7, 4), (22, 7, 5), (26, 7, 7), (29, 7, 8), (32, 7, 10), (35, 7, 12), (38, 7, 14), (41, 7, 16), (44, 7, 17), (47, 7, 19), (50, 7, 20), (53, 7, 24), (56, 7, 25), (59, 7, 26), (62, 7, 27), (65, 7, 28), (68, 7, 23), (72, 7, 1), (79, 7, 6), (119, 7, 9), (137, 7, 11), (140, 7, 18), (143, 7, 21), (147, 7, 13), (153, 7, 29), (169, 7, 15), (181, 7, 22)]
def csX7 : List (Nat × Int32) := [(103, 100000), (146, 268435456)]
def cvX7 : List (Nat × iv_C) := [(75, (3, none, false, mX7_in)), (82, (2, some 7, false, mX7_inside)), (86, (2, some 7, false, mX7_isFit)), (90, (2, some 7, false, mX7_isReady)), (93, (3, some 7, false, mX7_isAhead)), (97, (2, some 7, false, mX7_isCabinet)), (100, (2, some 7, false, mX7_hasSlot)), (104, (1, none, false, mX7_leastOf)), (107, (1, none, false, mX7_mostOf)), (110, (2, some 7, false, mX7_isPack)), (113, (2, some 7, false, mX7_given)), (116, (3, some 7, false, mX7_mayCome)), (122, (2, some 7, false, mX7_line)), (125, (2, some 7, false, mX7_readyIn)), (128, (2, none, false, mJ9_min_7cf53)), (134, (1, some 7, true, mX7_goHour)), (150, (1, none, false, mJ9_abs_0f7a4)), (156, (4, none, false, mX7_away)), (160, (8, some 7, true, mX7_goOn)), (164, (1, none, false, mJ6_bitCount_0f7a4)), (172, (1, none, false, mJ6_numberOfTrailingZeros_0f7a4)), (175, (2, some 7, false, mX7_sumOf)), (178, (2, none, false, mX7_isFirst))]
def tbX7 : iv_B := (fun i => flX7.lookup i, fun i => csX7.lookup i, fun i => cvX7.lookup i)
def flJ6 : List (Nat × Nat × Nat) := []
def csJ6 : List (Nat × Int32) := [(264, 65536), (265, 1431655765), (266, 858993459), (267, 252645135)]
def cvJ6 : List (Nat × iv_C) := []
def tbJ6 : iv_B := (fun i => flJ6.lookup i, fun i => csJ6.lookup i, fun i => cvJ6.lookup i)
def flJ9 : List (Nat × Nat × Nat) := []
def csJ9 : List (Nat × Int32) := []
def cvJ9 : List (Nat × iv_C) := []
def tbJ9 : iv_B := (fun i => flJ9.lookup i, fun i => csJ9.lookup i, fun i => cvJ9.lookup i)
def flJ7 : List (Nat × Nat × Nat) := []
def csJ7 : List (Nat × Int32) := []
def cvJ7 : List (Nat × iv_C) := []
def tbJ7 : iv_B := (fun i => flJ7.lookup i, fun i => csJ7.lookup i, fun i => cvJ7.lookup i)
end
section
theorem mw_0 : Cond.fieldLink RX0 14 "SwapGo$Cabinets" "spots" "LSwapGo$Spots;" ∈ iv_g := iv_g_in (List.mem_of_getElem? (i := 90) (by decide +kernel)) (by decide +kernel)
theorem mw_1 : Cond.fieldLink RX0 20 "SwapGo$Cabinets" "slots" "[I" ∈ iv_g := iv_g_in (List.mem_of_getElem? (i := 92) (by decide +kernel)) (by decide +kernel)
theorem mw_2 : Cond.fieldLink RX0 24 "SwapGo$Cabinets" "lines" "[I" ∈ iv_g := iv_g_in (List.mem_of_getElem? (i := 94) (by decide +kernel)) (by decide +kernel)
theorem mw_3 : Cond.fieldLink RX0 27 "SwapGo$Cabinets" "needed" "[I" ∈ iv_g := iv_g_in (List.mem_of_getElem? (i := 96) (by decide +kernel)) (by decide +kernel)
theorem mw_4 : Cond.fieldLink RX0 30 "SwapGo$Cabinets" "bill" "[I" ∈ iv_g := iv_g_in (List.mem_of_getElem? (i := 98) (by decide +kernel)) (by decide +kernel)
theorem mw_5 : Cond.fieldLink RX0 33 "SwapGo$Cabinets" "wished" "[I" ∈ iv_g := iv_g_in (List.mem_of_getElem? (i := 100) (by decide +kernel)) (by decide +kernel)
theorem mw_6 : Cond.fieldLink RX0 36 "SwapGo$Spots" "size" "I" ∈ iv_g := iv_g_in (List.mem_of_getElem? (i := 78) (by decide +kernel)) (by decide +kernel)
theorem mw_7 : Cond.code mX6_isWithin.1 mX6_isWithin.2.1 mX6_isWithin.2.2.1 mX6_isWithin.2.2.2 ∈ iv_g := iv_g_in (List.mem_of_getElem? (i := 272) (by decide +kernel)) (by decide +kernel)
theorem mw_8 : Cond.initialized mX6_isWithin.1.cls ∈ iv_g := iv_g_in (List.mem_of_getElem? (i := 33) (by decide +kernel)) (by decide +kernel)
theorem mw_9 : Cond.static mX6_isWithin.1 ∈ iv_g := iv_g_in (List.mem_of_getElem? (i := 271) (by decide +kernel)) (by decide +kernel)
theorem mw_10 : Cond.code mX4_add.1 mX4_add.2.1 mX4_add.2.2.1 mX4_add.2.2.2 ∈ iv_g := iv_g_in (List.mem_of_getElem? (i := 280) (by decide +kernel)) (by decide +kernel)
theorem mw_11 : Cond.initialized mX4_add.1.cls ∈ iv_g := iv_g_in (List.mem_of_getElem? (i := 35) (by decide +kernel)) (by decide +kernel)
theorem mw_12 : Cond.methodLink RX0 44 mX4_add.1 ∈ iv_g := iv_g_in (List.mem_of_getElem? (i := 277) (by decide +kernel)) (by decide +kernel)
theorem mw_13 : Cond.instanceMethod mX4_add.1 ∈ iv_g := iv_g_in (List.mem_of_getElem? (i := 278) (by decide +kernel)) (by decide +kernel)
theorem mw_14 : Cond.selects mX4_add.1.cls mX4_add.1 mX4_add.1 ∈ iv_g := iv_g_in (List.mem_of_getElem? (i := 279) (by decide +kernel)) (by decide +kernel)
theorem mw_15 : Cond.fieldLink RX1 9 "SwapGo$ChargePlan" "needs" "[I" ∈ iv_g := iv_g_in (List.mem_of_getElem? (i := 153) (by decide +kernel)) (by decide +kernel)
theorem mw_16 : Cond.fieldLink RX1 15 "SwapGo$ChargePlan" "draft" "[I" ∈ iv_g := iv_g_in (List.mem_of_getElem? (i := 154) (by decide +kernel)) (by decide +kernel)
theorem mw_17 : Cond.fieldLink RX1 18 "SwapGo$ChargePlan" "unmet" "[I" ∈ iv_g := iv_g_in (List.mem_of_getElem? (i := 155) (by decide +kernel)) (by decide +kernel)
theorem mw_18 : Cond.fieldLink RX1 21 "SwapGo$ChargePlan" "hourPrices" "[I" ∈ iv_g := iv_g_in (List.mem_of_getElem? (i := 156) (by decide +kernel)) (by decide +kernel)
theorem mw_19 : Cond.fieldLink RX1 24 "SwapGo$ChargePlan" "kept" "[I" ∈ iv_g := iv_g_in (List.mem_of_getElem? (i := 157) (by decide +kernel)) (by decide +kernel)
theorem mw_20 : Cond.fieldLink RX1 27 "SwapGo$ChargePlan" "size" "I" ∈ iv_g := iv_g_in (List.mem_of_getElem? (i := 159) (by decide +kernel)) (by decide +kernel)
theorem mw_21 : Cond.fieldLink RX1 55 "SwapGo$ChargePlan" "keptSize" "I" ∈ iv_g := iv_g_in (List.mem_of_getElem? (i := 161) (by decide +kernel)) (by decide +kernel)
theorem mw_22 : Cond.code mX1_begin.1 mX1_begin.2.1 mX1_begin.2.2.1 mX1_begin.2.2.2 ∈ iv_g := iv_g_in (List.mem_of_getElem? (i := 445) (by decide +kernel)) (by decide +kernel)
theorem mw_23 : Cond.initialized mX1_begin.1.cls ∈ iv_g := iv_g_in (List.mem_of_getElem? (i := 38) (by decide +kernel)) (by decide +kernel)
theorem mw_24 : Cond.methodLink RX1 31 mX1_begin.1 ∈ iv_g := iv_g_in (List.mem_of_getElem? (i := 442) (by decide +kernel)) (by decide +kernel)
theorem mw_25 : Cond.instanceMethod mX1_begin.1 ∈ iv_g := iv_g_in (List.mem_of_getElem? (i := 444) (by decide +kernel)) (by decide +kernel)
theorem mw_26 : Cond.selects mX1_begin.1.cls mX1_begin.1 mX1_begin.1 ∈ iv_g := iv_g_in (List.mem_of_getElem? (i := 9) (by decide +kernel)) (by decide +kernel)
theorem mw_27 : Cond.code mX1_cheapestUnfilled.1 mX1_cheapestUnfilled.2.1 mX1_cheapestUnfilled.2.2.1 mX1_cheapestUnfilled.2.2.2 ∈ iv_g := iv_g_in (List.mem_of_getElem? (i := 450) (by decide +kernel)) (by decide +kernel)
theorem mw_28 : Cond.initialized mX1_cheapestUnfilled.1.cls ∈ iv_g := iv_g_in (List.mem_of_getElem? (i := 38) (by decide +kernel)) (by decide +kernel)
theorem mw_29 : Cond.methodLink RX1 35 mX1_cheapestUnfilled.1 ∈ iv_g := iv_g_in (List.mem_of_getElem? (i := 447) (by decide +kernel)) (by decide +kernel)
theorem mw_30 : Cond.instanceMethod mX1_cheapestUnfilled.1 ∈ iv_g := iv_g_in (List.mem_of_getElem? (i := 449) (by decide +kernel)) (by decide +kernel)
theorem mw_31 : Cond.selects mX1_cheapestUnfilled.1.cls mX1_cheapestUnfilled.1 mX1_cheapestUnfilled.1 ∈ iv_g := iv_g_in (List.mem_of_getElem? (i := 10) (by decide +kernel)) (by decide +kernel)
theorem mw_32 : Cond.code mX1_fill.1 mX1_fill.2.1 mX1_fill.2.2.1 mX1_fill.2.2.2 ∈ iv_g := iv_g_in (List.mem_of_getElem? (i := 454) (by decide +kernel)) (by decide +kernel)
theorem mw_33 : Cond.initialized mX1_fill.1.cls ∈ iv_g := iv_g_in (List.mem_of_getElem? (i := 38) (by decide +kernel)) (by decide +kernel)
theorem mw_34 : Cond.methodLink RX1 39 mX1_fill.1 ∈ iv_g := iv_g_in (List.mem_of_getElem? (i := 451) (by decide +kernel)) (by decide +kernel)
theorem mw_35 : Cond.instanceMethod mX1_fill.1 ∈ iv_g := iv_g_in (List.mem_of_getElem? (i := 453) (by decide +kernel)) (by decide +kernel)
theorem mw_36 : Cond.selects mX1_fill.1.cls mX1_fill.1 mX1_fill.1 ∈ iv_g := iv_g_in (List.mem_of_getElem? (i := 11) (by decide +kernel)) (by decide +kernel)
theorem mw_37 : Cond.code mX1_keepDraft.1 mX1_keepDraft.2.1 mX1_keepDraft.2.2.1 mX1_keepDraft.2.2.2 ∈ iv_g := iv_g_in (List.mem_of_getElem? (i := 459) (by decide +kernel)) (by decide +kernel)
theorem mw_38 : Cond.initialized mX1_keepDraft.1.cls ∈ iv_g := iv_g_in (List.mem_of_getElem? (i := 38) (by decide +kernel)) (by decide +kernel)
theorem mw_39 : Cond.methodLink RX1 43 mX1_keepDraft.1 ∈ iv_g := iv_g_in (List.mem_of_getElem? (i := 456) (by decide +kernel)) (by decide +kernel)
theorem mw_40 : Cond.instanceMethod mX1_keepDraft.1 ∈ iv_g := iv_g_in (List.mem_of_getElem? (i := 458) (by decide +kernel)) (by decide +kernel)
theorem mw_41 : Cond.selects mX1_keepDraft.1.cls mX1_keepDraft.1 mX1_keepDraft.1 ∈ iv_g := iv_g_in (List.mem_of_getElem? (i := 12) (by decide +kernel)) (by decide +kernel)
theorem mw_42 : Cond.code mJ9_floorMod_7cf53.1 mJ9_floorMod_7cf53.2.1 mJ9_floorMod_7cf53.2.2.1 mJ9_floorMod_7cf53.2.2.2 ∈ iv_g := iv_g_in (List.mem_of_getElem? (i := 382) (by decide +kernel)) (by decide +kernel)
theorem mw_43 : Cond.initialized mJ9_floorMod_7cf53.1.cls ∈ iv_g := iv_g_in (List.mem_of_getElem? (i := 36) (by decide +kernel)) (by decide +kernel)
theorem mw_44 : Cond.methodLink RX1 46 mJ9_floorMod_7cf53.1 ∈ iv_g := iv_g_in (List.mem_of_getElem? (i := 446) (by decide +kernel)) (by decide +kernel)
theorem mw_45 : Cond.static mJ9_floorMod_7cf53.1 ∈ iv_g := iv_g_in (List.mem_of_getElem? (i := 381) (by decide +kernel)) (by decide +kernel)
theorem mw_46 : Cond.code mJ9_min_7cf53.1 mJ9_min_7cf53.2.1 mJ9_min_7cf53.2.2.1 mJ9_min_7cf53.2.2.2 ∈ iv_g := iv_g_in (List.mem_of_getElem? (i := 405) (by decide +kernel)) (by decide +kernel)
theorem mw_47 : Cond.initialized mJ9_min_7cf53.1.cls ∈ iv_g := iv_g_in (List.mem_of_getElem? (i := 36) (by decide +kernel)) (by decide +kernel)
theorem mw_48 : Cond.methodLink RX1 52 mJ9_min_7cf53.1 ∈ iv_g := iv_g_in (List.mem_of_getElem? (i := 455) (by decide +kernel)) (by decide +kernel)
theorem mw_49 : Cond.static mJ9_min_7cf53.1 ∈ iv_g := iv_g_in (List.mem_of_getElem? (i := 404) (by decide +kernel)) (by decide +kernel)
theorem mw_50 : Cond.fieldLink RX2 14 "SwapGo$NewPlaces" "riders" "LSwapGo$Spots;" ∈ iv_g := iv_g_in (List.mem_of_getElem? (i := 219) (by decide +kernel)) (by decide +kernel)
theorem mw_51 : Cond.fieldLink RX2 20 "SwapGo$NewPlaces" "sites" "LSwapGo$Spots;" ∈ iv_g := iv_g_in (List.mem_of_getElem? (i := 221) (by decide +kernel)) (by decide +kernel)
theorem mw_52 : Cond.fieldLink RX2 23 "SwapGo$NewPlaces" "cabinetWays" "[I" ∈ iv_g := iv_g_in (List.mem_of_getElem? (i := 223) (by decide +kernel)) (by decide +kernel)
theorem mw_53 : Cond.fieldLink RX2 31 "SwapGo$Spots" "size" "I" ∈ iv_g := iv_g_in (List.mem_of_getElem? (i := 79) (by decide +kernel)) (by decide +kernel)
theorem mw_54 : Cond.fieldLink RX2 48 "SwapGo$NewPlaces" "kept" "I" ∈ iv_g := iv_g_in (List.mem_of_getElem? (i := 224) (by decide +kernel)) (by decide +kernel)
theorem mw_55 : Cond.fieldLink RX2 51 "SwapGo$Spots" "xs" "[I" ∈ iv_g := iv_g_in (List.mem_of_getElem? (i := 72) (by decide +kernel)) (by decide +kernel)
theorem mw_56 : Cond.fieldLink RX2 54 "SwapGo$Spots" "ys" "[I" ∈ iv_g := iv_g_in (List.mem_of_getElem? (i := 75) (by decide +kernel)) (by decide +kernel)
theorem mw_57 : Cond.code mX2_measureCabinetWays.1 mX2_measureCabinetWays.2.1 mX2_measureCabinetWays.2.2.1 mX2_measureCabinetWays.2.2.2 ∈ iv_g := iv_g_in (List.mem_of_getElem? (i := 520) (by decide +kernel)) (by decide +kernel)
theorem mw_58 : Cond.initialized mX2_measureCabinetWays.1.cls ∈ iv_g := iv_g_in (List.mem_of_getElem? (i := 40) (by decide +kernel)) (by decide +kernel)
theorem mw_59 : Cond.methodLink RX2 27 mX2_measureCabinetWays.1 ∈ iv_g := iv_g_in (List.mem_of_getElem? (i := 517) (by decide +kernel)) (by decide +kernel)
theorem mw_60 : Cond.instanceMethod mX2_measureCabinetWays.1 ∈ iv_g := iv_g_in (List.mem_of_getElem? (i := 519) (by decide +kernel)) (by decide +kernel)
theorem mw_61 : Cond.selects mX2_measureCabinetWays.1.cls mX2_measureCabinetWays.1 mX2_measureCabinetWays.1 ∈ iv_g := iv_g_in (List.mem_of_getElem? (i := 15) (by decide +kernel)) (by decide +kernel)
theorem mw_62 : Cond.code mJ6_bitCount_0f7a4.1 mJ6_bitCount_0f7a4.2.1 mJ6_bitCount_0f7a4.2.2.1 mJ6_bitCount_0f7a4.2.2.2 ∈ iv_g := iv_g_in (List.mem_of_getElem? (i := 525) (by decide +kernel)) (by decide +kernel)
theorem mw_63 : Cond.initialized mJ6_bitCount_0f7a4.1.cls ∈ iv_g := iv_g_in (List.mem_of_getElem? (i := 47) (by decide +kernel)) (by decide +kernel)
theorem mw_64 : Cond.methodLink RX2 35 mJ6_bitCount_0f7a4.1 ∈ iv_g := iv_g_in (List.mem_of_getElem? (i := 523) (by decide +kernel)) (by decide +kernel)
theorem mw_65 : Cond.static mJ6_bitCount_0f7a4.1 ∈ iv_g := iv_g_in (List.mem_of_getElem? (i := 524) (by decide +kernel)) (by decide +kernel)
theorem mw_66 : Cond.code mX2_sumOfWays.1 mX2_sumOfWays.2.1 mX2_sumOfWays.2.2.1 mX2_sumOfWays.2.2.2 ∈ iv_g := iv_g_in (List.mem_of_getElem? (i := 532) (by decide +kernel)) (by decide +kernel)
theorem mw_67 : Cond.initialized mX2_sumOfWays.1.cls ∈ iv_g := iv_g_in (List.mem_of_getElem? (i := 40) (by decide +kernel)) (by decide +kernel)
theorem mw_68 : Cond.methodLink RX2 41 mX2_sumOfWays.1 ∈ iv_g := iv_g_in (List.mem_of_getElem? (i := 529) (by decide +kernel)) (by decide +kernel)
theorem mw_69 : Cond.instanceMethod mX2_sumOfWays.1 ∈ iv_g := iv_g_in (List.mem_of_getElem? (i := 531) (by decide +kernel)) (by decide +kernel)
theorem mw_70 : Cond.selects mX2_sumOfWays.1.cls mX2_sumOfWays.1 mX2_sumOfWays.1 ∈ iv_g := iv_g_in (List.mem_of_getElem? (i := 16) (by decide +kernel)) (by decide +kernel)
theorem mw_71 : Cond.code mX2_isFirstRow.1 mX2_isFirstRow.2.1 mX2_isFirstRow.2.2.1 mX2_isFirstRow.2.2.2 ∈ iv_g := iv_g_in (List.mem_of_getElem? (i := 535) (by decide +kernel)) (by decide +kernel)
theorem mw_72 : Cond.initialized mX2_isFirstRow.1.cls ∈ iv_g := iv_g_in (List.mem_of_getElem? (i := 40) (by decide +kernel)) (by decide +kernel)
theorem mw_73 : Cond.methodLink RX2 44 mX2_isFirstRow.1 ∈ iv_g := iv_g_in (List.mem_of_getElem? (i := 533) (by decide +kernel)) (by decide +kernel)
theorem mw_74 : Cond.static mX2_isFirstRow.1 ∈ iv_g := iv_g_in (List.mem_of_getElem? (i := 534) (by decide +kernel)) (by decide +kernel)
theorem mw_75 : Cond.code mX4_distance.1 mX4_distance.2.1 mX4_distance.2.2.1 mX4_distance.2.2.2 ∈ iv_g := iv_g_in (List.mem_of_getElem? (i := 496) (by decide +kernel)) (by decide +kernel)
theorem mw_76 : Cond.initialized mX4_distance.1.cls ∈ iv_g := iv_g_in (List.mem_of_getElem? (i := 35) (by decide +kernel)) (by decide +kernel)
theorem mw_77 : Cond.methodLink RX2 57 mX4_distance.1 ∈ iv_g := iv_g_in (List.mem_of_getElem? (i := 521) (by decide +kernel)) (by decide +kernel)
theorem mw_78 : Cond.instanceMethod mX4_distance.1 ∈ iv_g := iv_g_in (List.mem_of_getElem? (i := 494) (by decide +kernel)) (by decide +kernel)
theorem mw_79 : Cond.selects mX4_distance.1.cls mX4_distance.1 mX4_distance.1 ∈ iv_g := iv_g_in (List.mem_of_getElem? (i := 495) (by decide +kernel)) (by decide +kernel)
theorem mw_80 : Cond.methodLink RX2 61 mJ9_min_7cf53.1 ∈ iv_g := iv_g_in (List.mem_of_getElem? (i := 522) (by decide +kernel)) (by decide +kernel)
theorem mw_81 : Cond.fieldLink RX3 9 "SwapGo$Packs" "charge" "[I" ∈ iv_g := iv_g_in (List.mem_of_getElem? (i := 121) (by decide +kernel)) (by decide +kernel)
theorem mw_82 : Cond.fieldLink RX3 15 "SwapGo$Packs" "age" "[I" ∈ iv_g := iv_g_in (List.mem_of_getElem? (i := 123) (by decide +kernel)) (by decide +kernel)
theorem mw_83 : Cond.fieldLink RX3 18 "SwapGo$Packs" "sickness" "[Z" ∈ iv_g := iv_g_in (List.mem_of_getElem? (i := 125) (by decide +kernel)) (by decide +kernel)
theorem mw_84 : Cond.fieldLink RX3 22 "SwapGo$Packs" "home" "[I" ∈ iv_g := iv_g_in (List.mem_of_getElem? (i := 127) (by decide +kernel)) (by decide +kernel)
theorem mw_85 : Cond.fieldLink RX3 25 "SwapGo$Packs" "lastHour" "[I" ∈ iv_g := iv_g_in (List.mem_of_getElem? (i := 129) (by decide +kernel)) (by decide +kernel)
theorem mw_86 : Cond.fieldLink RX3 28 "SwapGo$Packs" "size" "I" ∈ iv_g := iv_g_in (List.mem_of_getElem? (i := 131) (by decide +kernel)) (by decide +kernel)
theorem mw_87 : Cond.methodLink RX3 36 mJ9_min_7cf53.1 ∈ iv_g := iv_g_in (List.mem_of_getElem? (i := 403) (by decide +kernel)) (by decide +kernel)
theorem mw_88 : Cond.fieldLink RX4 15 "SwapGo$Spots" "xs" "[I" ∈ iv_g := iv_g_in (List.mem_of_getElem? (i := 71) (by decide +kernel)) (by decide +kernel)
theorem mw_89 : Cond.fieldLink RX4 21 "SwapGo$Spots" "ys" "[I" ∈ iv_g := iv_g_in (List.mem_of_getElem? (i := 74) (by decide +kernel)) (by decide +kernel)
theorem mw_90 : Cond.fieldLink RX4 24 "SwapGo$Spots" "size" "I" ∈ iv_g := iv_g_in (List.mem_of_getElem? (i := 77) (by decide +kernel)) (by decide +kernel)
theorem mw_91 : Cond.code mJ9_max_7cf53.1 mJ9_max_7cf53.2.1 mJ9_max_7cf53.2.2.1 mJ9_max_7cf53.2.2.2 ∈ iv_g := iv_g_in (List.mem_of_getElem? (i := 70) (by decide +kernel)) (by decide +kernel)
theorem mw_92 : Cond.initialized mJ9_max_7cf53.1.cls ∈ iv_g := iv_g_in (List.mem_of_getElem? (i := 36) (by decide +kernel)) (by decide +kernel)
theorem mw_93 : Cond.methodLink RX4 9 mJ9_max_7cf53.1 ∈ iv_g := iv_g_in (List.mem_of_getElem? (i := 68) (by decide +kernel)) (by decide +kernel)
theorem mw_94 : Cond.static mJ9_max_7cf53.1 ∈ iv_g := iv_g_in (List.mem_of_getElem? (i := 69) (by decide +kernel)) (by decide +kernel)
theorem mw_95 : Cond.code mJ9_abs_0f7a4.1 mJ9_abs_0f7a4.2.1 mJ9_abs_0f7a4.2.2.1 mJ9_abs_0f7a4.2.2.2 ∈ iv_g := iv_g_in (List.mem_of_getElem? (i := 499) (by decide +kernel)) (by decide +kernel)
theorem mw_96 : Cond.initialized mJ9_abs_0f7a4.1.cls ∈ iv_g := iv_g_in (List.mem_of_getElem? (i := 36) (by decide +kernel)) (by decide +kernel)
theorem mw_97 : Cond.methodLink RX4 28 mJ9_abs_0f7a4.1 ∈ iv_g := iv_g_in (List.mem_of_getElem? (i := 497) (by decide +kernel)) (by decide +kernel)
theorem mw_98 : Cond.static mJ9_abs_0f7a4.1 ∈ iv_g := iv_g_in (List.mem_of_getElem? (i := 498) (by decide +kernel)) (by decide +kernel)
theorem mw_99 : Cond.fieldLink RX5 9 "SwapGo$VanRound" "surplus" "[I" ∈ iv_g := iv_g_in (List.mem_of_getElem? (i := 184) (by decide +kernel)) (by decide +kernel)
theorem mw_100 : Cond.fieldLink RX5 15 "SwapGo$VanRound" "isVisited" "[Z" ∈ iv_g := iv_g_in (List.mem_of_getElem? (i := 185) (by decide +kernel)) (by decide +kernel)
theorem mw_101 : Cond.fieldLink RX5 19 "SwapGo$VanRound" "row" "[I" ∈ iv_g := iv_g_in (List.mem_of_getElem? (i := 186) (by decide +kernel)) (by decide +kernel)
theorem mw_102 : Cond.fieldLink RX5 22 "SwapGo$VanRound" "kept" "[I" ∈ iv_g := iv_g_in (List.mem_of_getElem? (i := 187) (by decide +kernel)) (by decide +kernel)
theorem mw_103 : Cond.fieldLink RX5 25 "SwapGo$VanRound" "van" "I" ∈ iv_g := iv_g_in (List.mem_of_getElem? (i := 191) (by decide +kernel)) (by decide +kernel)
theorem mw_104 : Cond.fieldLink RX5 29 "SwapGo$VanRound" "stops" "I" ∈ iv_g := iv_g_in (List.mem_of_getElem? (i := 192) (by decide +kernel)) (by decide +kernel)
theorem mw_105 : Cond.fieldLink RX5 32 "SwapGo$VanRound" "shortest" "I" ∈ iv_g := iv_g_in (List.mem_of_getElem? (i := 193) (by decide +kernel)) (by decide +kernel)
theorem mw_106 : Cond.fieldLink RX5 43 "SwapGo$Spots" "size" "I" ∈ iv_g := iv_g_in (List.mem_of_getElem? (i := 80) (by decide +kernel)) (by decide +kernel)
theorem mw_107 : Cond.fieldLink RX5 56 "SwapGo$Spots" "xs" "[I" ∈ iv_g := iv_g_in (List.mem_of_getElem? (i := 73) (by decide +kernel)) (by decide +kernel)
theorem mw_108 : Cond.fieldLink RX5 59 "SwapGo$Spots" "ys" "[I" ∈ iv_g := iv_g_in (List.mem_of_getElem? (i := 76) (by decide +kernel)) (by decide +kernel)
theorem mw_109 : Cond.fieldLink RX5 62 "SwapGo$VanRound" "keptSize" "I" ∈ iv_g := iv_g_in (List.mem_of_getElem? (i := 189) (by decide +kernel)) (by decide +kernel)
theorem mw_110 : Cond.code mX5_extend.1 mX5_extend.2.1 mX5_extend.2.2.1 mX5_extend.2.2.2 ∈ iv_g := iv_g_in (List.mem_of_getElem? (i := 487) (by decide +kernel)) (by decide +kernel)
theorem mw_111 : Cond.initialized mX5_extend.1.cls ∈ iv_g := iv_g_in (List.mem_of_getElem? (i := 39) (by decide +kernel)) (by decide +kernel)
theorem mw_112 : Cond.methodLink RX5 35 mX5_extend.1 ∈ iv_g := iv_g_in (List.mem_of_getElem? (i := 484) (by decide +kernel)) (by decide +kernel)
theorem mw_113 : Cond.instanceMethod mX5_extend.1 ∈ iv_g := iv_g_in (List.mem_of_getElem? (i := 486) (by decide +kernel)) (by decide +kernel)
theorem mw_114 : Cond.selects mX5_extend.1.cls mX5_extend.1 mX5_extend.1 ∈ iv_g := iv_g_in (List.mem_of_getElem? (i := 13) (by decide +kernel)) (by decide +kernel)
theorem mw_115 : Cond.code mX5_keepRow.1 mX5_keepRow.2.1 mX5_keepRow.2.2.1 mX5_keepRow.2.2.2 ∈ iv_g := iv_g_in (List.mem_of_getElem? (i := 491) (by decide +kernel)) (by decide +kernel)
theorem mw_116 : Cond.initialized mX5_keepRow.1.cls ∈ iv_g := iv_g_in (List.mem_of_getElem? (i := 39) (by decide +kernel)) (by decide +kernel)
theorem mw_117 : Cond.methodLink RX5 39 mX5_keepRow.1 ∈ iv_g := iv_g_in (List.mem_of_getElem? (i := 488) (by decide +kernel)) (by decide +kernel)
theorem mw_118 : Cond.instanceMethod mX5_keepRow.1 ∈ iv_g := iv_g_in (List.mem_of_getElem? (i := 490) (by decide +kernel)) (by decide +kernel)
theorem mw_119 : Cond.selects mX5_keepRow.1.cls mX5_keepRow.1 mX5_keepRow.1 ∈ iv_g := iv_g_in (List.mem_of_getElem? (i := 14) (by decide +kernel)) (by decide +kernel)
theorem mw_120 : Cond.methodLink RX5 52 mX4_distance.1 ∈ iv_g := iv_g_in (List.mem_of_getElem? (i := 493) (by decide +kernel)) (by decide +kernel)
theorem mw_121 : Cond.fieldLink RX6 7 "SwapGo" "settings" "[I" ∈ iv_g := iv_g_in (List.mem_of_getElem? (i := 238) (by decide +kernel)) (by decide +kernel)
theorem mw_122 : Cond.fieldLink RX6 13 "SwapGo" "prices" "[I" ∈ iv_g := iv_g_in (List.mem_of_getElem? (i := 239) (by decide +kernel)) (by decide +kernel)
theorem mw_123 : Cond.fieldLink RX6 19 "SwapGo" "cabinets" "LSwapGo$Cabinets;" ∈ iv_g := iv_g_in (List.mem_of_getElem? (i := 240) (by decide +kernel)) (by decide +kernel)
theorem mw_124 : Cond.fieldLink RX6 26 "SwapGo" "packs" "LSwapGo$Packs;" ∈ iv_g := iv_g_in (List.mem_of_getElem? (i := 241) (by decide +kernel)) (by decide +kernel)
theorem mw_125 : Cond.fieldLink RX6 33 "SwapGo" "chargePlan" "LSwapGo$ChargePlan;" ∈ iv_g := iv_g_in (List.mem_of_getElem? (i := 242) (by decide +kernel)) (by decide +kernel)
theorem mw_126 : Cond.fieldLink RX6 40 "SwapGo" "vanRound" "LSwapGo$VanRound;" ∈ iv_g := iv_g_in (List.mem_of_getElem? (i := 243) (by decide +kernel)) (by decide +kernel)
theorem mw_127 : Cond.fieldLink RX6 47 "SwapGo" "newPlaces" "LSwapGo$NewPlaces;" ∈ iv_g := iv_g_in (List.mem_of_getElem? (i := 244) (by decide +kernel)) (by decide +kernel)
theorem mw_128 : Cond.fieldLink RX6 85 "SwapGo$Packs" "sickness" "[Z" ∈ iv_g := iv_g_in (List.mem_of_getElem? (i := 126) (by decide +kernel)) (by decide +kernel)
theorem mw_129 : Cond.fieldLink RX6 93 "SwapGo$Packs" "home" "[I" ∈ iv_g := iv_g_in (List.mem_of_getElem? (i := 128) (by decide +kernel)) (by decide +kernel)
theorem mw_130 : Cond.fieldLink RX6 113 "SwapGo" "hour" "I" ∈ iv_g := iv_g_in (List.mem_of_getElem? (i := 245) (by decide +kernel)) (by decide +kernel)
theorem mw_131 : Cond.fieldLink RX6 124 "SwapGo$Packs" "size" "I" ∈ iv_g := iv_g_in (List.mem_of_getElem? (i := 132) (by decide +kernel)) (by decide +kernel)
theorem mw_132 : Cond.fieldLink RX6 132 "SwapGo$ChargePlan" "size" "I" ∈ iv_g := iv_g_in (List.mem_of_getElem? (i := 160) (by decide +kernel)) (by decide +kernel)
theorem mw_133 : Cond.fieldLink RX6 133 "SwapGo$NewPlaces" "riders" "LSwapGo$Spots;" ∈ iv_g := iv_g_in (List.mem_of_getElem? (i := 220) (by decide +kernel)) (by decide +kernel)
theorem mw_134 : Cond.fieldLink RX6 137 "SwapGo$Spots" "size" "I" ∈ iv_g := iv_g_in (List.mem_of_getElem? (i := 81) (by decide +kernel)) (by decide +kernel)
theorem mw_135 : Cond.fieldLink RX6 140 "SwapGo$NewPlaces" "sites" "LSwapGo$Spots;" ∈ iv_g := iv_g_in (List.mem_of_getElem? (i := 222) (by decide +kernel)) (by decide +kernel)
theorem mw_136 : Cond.fieldLink RX6 153 "SwapGo$Packs" "charge" "[I" ∈ iv_g := iv_g_in (List.mem_of_getElem? (i := 122) (by decide +kernel)) (by decide +kernel)
theorem mw_137 : Cond.fieldLink RX6 156 "SwapGo$Packs" "age" "[I" ∈ iv_g := iv_g_in (List.mem_of_getElem? (i := 124) (by decide +kernel)) (by decide +kernel)
theorem mw_138 : Cond.fieldLink RX6 167 "SwapGo$Cabinets" "bill" "[I" ∈ iv_g := iv_g_in (List.mem_of_getElem? (i := 99) (by decide +kernel)) (by decide +kernel)
theorem mw_139 : Cond.fieldLink RX6 170 "SwapGo$Cabinets" "wished" "[I" ∈ iv_g := iv_g_in (List.mem_of_getElem? (i := 101) (by decide +kernel)) (by decide +kernel)
theorem mw_140 : Cond.fieldLink RX6 180 "SwapGo$ChargePlan" "keptSize" "I" ∈ iv_g := iv_g_in (List.mem_of_getElem? (i := 162) (by decide +kernel)) (by decide +kernel)
theorem mw_141 : Cond.fieldLink RX6 183 "SwapGo$ChargePlan" "kept" "[I" ∈ iv_g := iv_g_in (List.mem_of_getElem? (i := 158) (by decide +kernel)) (by decide +kernel)
theorem mw_142 : Cond.fieldLink RX6 194 "SwapGo$Cabinets" "spots" "LSwapGo$Spots;" ∈ iv_g := iv_g_in (List.mem_of_getElem? (i := 91) (by decide +kernel)) (by decide +kernel)
theorem mw_143 : Cond.fieldLink RX6 201 "SwapGo$VanRound" "keptSize" "I" ∈ iv_g := iv_g_in (List.mem_of_getElem? (i := 190) (by decide +kernel)) (by decide +kernel)
theorem mw_144 : Cond.fieldLink RX6 202 "SwapGo$VanRound" "kept" "[I" ∈ iv_g := iv_g_in (List.mem_of_getElem? (i := 188) (by decide +kernel)) (by decide +kernel)
theorem mw_145 : Cond.fieldLink RX6 208 "SwapGo$NewPlaces" "kept" "I" ∈ iv_g := iv_g_in (List.mem_of_getElem? (i := 225) (by decide +kernel)) (by decide +kernel)
theorem mw_146 : Cond.fieldLink RX6 210 "SwapGo$Cabinets" "slots" "[I" ∈ iv_g := iv_g_in (List.mem_of_getElem? (i := 93) (by decide +kernel)) (by decide +kernel)
theorem mw_147 : Cond.fieldLink RX6 227 "SwapGo$Cabinets" "lines" "[I" ∈ iv_g := iv_g_in (List.mem_of_getElem? (i := 95) (by decide +kernel)) (by decide +kernel)
theorem mw_148 : Cond.fieldLink RX6 230 "SwapGo$Cabinets" "needed" "[I" ∈ iv_g := iv_g_in (List.mem_of_getElem? (i := 97) (by decide +kernel)) (by decide +kernel)
theorem mw_149 : Cond.fieldLink RX6 239 "SwapGo$Packs" "lastHour" "[I" ∈ iv_g := iv_g_in (List.mem_of_getElem? (i := 130) (by decide +kernel)) (by decide +kernel)
theorem mw_150 : Cond.code mJ7_fill_53178.1 mJ7_fill_53178.2.1 mJ7_fill_53178.2.2.1 mJ7_fill_53178.2.2.2 ∈ iv_g := iv_g_in (List.mem_of_getElem? (i := 237) (by decide +kernel)) (by decide +kernel)
theorem mw_151 : Cond.initialized mJ7_fill_53178.1.cls ∈ iv_g := iv_g_in (List.mem_of_getElem? (i := 41) (by decide +kernel)) (by decide +kernel)
theorem mw_152 : Cond.methodLink RX6 51 mJ7_fill_53178.1 ∈ iv_g := iv_g_in (List.mem_of_getElem? (i := 235) (by decide +kernel)) (by decide +kernel)
theorem mw_153 : Cond.static mJ7_fill_53178.1 ∈ iv_g := iv_g_in (List.mem_of_getElem? (i := 236) (by decide +kernel)) (by decide +kernel)
theorem mw_154 : Cond.code mX6_isInTown.1 mX6_isInTown.2.1 mX6_isInTown.2.2.1 mX6_isInTown.2.2.2 ∈ iv_g := iv_g_in (List.mem_of_getElem? (i := 269) (by decide +kernel)) (by decide +kernel)
theorem mw_155 : Cond.initialized mX6_isInTown.1.cls ∈ iv_g := iv_g_in (List.mem_of_getElem? (i := 33) (by decide +kernel)) (by decide +kernel)
theorem mw_156 : Cond.methodLink RX6 57 mX6_isInTown.1 ∈ iv_g := iv_g_in (List.mem_of_getElem? (i := 267) (by decide +kernel)) (by decide +kernel)
theorem mw_157 : Cond.static mX6_isInTown.1 ∈ iv_g := iv_g_in (List.mem_of_getElem? (i := 268) (by decide +kernel)) (by decide +kernel)
theorem mw_158 : Cond.methodLink RX6 61 mX6_isWithin.1 ∈ iv_g := iv_g_in (List.mem_of_getElem? (i := 270) (by decide +kernel)) (by decide +kernel)
theorem mw_159 : Cond.code mX0_add.1 mX0_add.2.1 mX0_add.2.2.1 mX0_add.2.2.2 ∈ iv_g := iv_g_in (List.mem_of_getElem? (i := 276) (by decide +kernel)) (by decide +kernel)
theorem mw_160 : Cond.initialized mX0_add.1.cls ∈ iv_g := iv_g_in (List.mem_of_getElem? (i := 34) (by decide +kernel)) (by decide +kernel)
theorem mw_161 : Cond.methodLink RX6 65 mX0_add.1 ∈ iv_g := iv_g_in (List.mem_of_getElem? (i := 273) (by decide +kernel)) (by decide +kernel)
theorem mw_162 : Cond.instanceMethod mX0_add.1 ∈ iv_g := iv_g_in (List.mem_of_getElem? (i := 274) (by decide +kernel)) (by decide +kernel)
theorem mw_163 : Cond.selects mX0_add.1.cls mX0_add.1 mX0_add.1 ∈ iv_g := iv_g_in (List.mem_of_getElem? (i := 275) (by decide +kernel)) (by decide +kernel)
theorem mw_164 : Cond.code mX6_hasSlotLeft.1 mX6_hasSlotLeft.2.1 mX6_hasSlotLeft.2.2.1 mX6_hasSlotLeft.2.2.2 ∈ iv_g := iv_g_in (List.mem_of_getElem? (i := 288) (by decide +kernel)) (by decide +kernel)
theorem mw_165 : Cond.initialized mX6_hasSlotLeft.1.cls ∈ iv_g := iv_g_in (List.mem_of_getElem? (i := 33) (by decide +kernel)) (by decide +kernel)
theorem mw_166 : Cond.methodLink RX6 69 mX6_hasSlotLeft.1 ∈ iv_g := iv_g_in (List.mem_of_getElem? (i := 285) (by decide +kernel)) (by decide +kernel)
theorem mw_167 : Cond.instanceMethod mX6_hasSlotLeft.1 ∈ iv_g := iv_g_in (List.mem_of_getElem? (i := 287) (by decide +kernel)) (by decide +kernel)
theorem mw_168 : Cond.selects mX6_hasSlotLeft.1.cls mX6_hasSlotLeft.1 mX6_hasSlotLeft.1 ∈ iv_g := iv_g_in (List.mem_of_getElem? (i := 0) (by decide +kernel)) (by decide +kernel)
theorem mw_169 : Cond.code mX3_add.1 mX3_add.2.1 mX3_add.2.2.1 mX3_add.2.2.2 ∈ iv_g := iv_g_in (List.mem_of_getElem? (i := 301) (by decide +kernel)) (by decide +kernel)
theorem mw_170 : Cond.initialized mX3_add.1.cls ∈ iv_g := iv_g_in (List.mem_of_getElem? (i := 37) (by decide +kernel)) (by decide +kernel)
theorem mw_171 : Cond.methodLink RX6 73 mX3_add.1 ∈ iv_g := iv_g_in (List.mem_of_getElem? (i := 298) (by decide +kernel)) (by decide +kernel)
theorem mw_172 : Cond.instanceMethod mX3_add.1 ∈ iv_g := iv_g_in (List.mem_of_getElem? (i := 299) (by decide +kernel)) (by decide +kernel)
theorem mw_173 : Cond.selects mX3_add.1.cls mX3_add.1 mX3_add.1 ∈ iv_g := iv_g_in (List.mem_of_getElem? (i := 300) (by decide +kernel)) (by decide +kernel)
theorem mw_174 : Cond.code mX3_has.1 mX3_has.2.1 mX3_has.2.2.1 mX3_has.2.2.2 ∈ iv_g := iv_g_in (List.mem_of_getElem? (i := 321) (by decide +kernel)) (by decide +kernel)
theorem mw_175 : Cond.initialized mX3_has.1.cls ∈ iv_g := iv_g_in (List.mem_of_getElem? (i := 37) (by decide +kernel)) (by decide +kernel)
theorem mw_176 : Cond.methodLink RX6 82 mX3_has.1 ∈ iv_g := iv_g_in (List.mem_of_getElem? (i := 318) (by decide +kernel)) (by decide +kernel)
theorem mw_177 : Cond.instanceMethod mX3_has.1 ∈ iv_g := iv_g_in (List.mem_of_getElem? (i := 319) (by decide +kernel)) (by decide +kernel)
theorem mw_178 : Cond.selects mX3_has.1.cls mX3_has.1 mX3_has.1 ∈ iv_g := iv_g_in (List.mem_of_getElem? (i := 320) (by decide +kernel)) (by decide +kernel)
theorem mw_179 : Cond.code mX6_givenIn.1 mX6_givenIn.2.1 mX6_givenIn.2.2.1 mX6_givenIn.2.2.2 ∈ iv_g := iv_g_in (List.mem_of_getElem? (i := 330) (by decide +kernel)) (by decide +kernel)
theorem mw_180 : Cond.initialized mX6_givenIn.1.cls ∈ iv_g := iv_g_in (List.mem_of_getElem? (i := 33) (by decide +kernel)) (by decide +kernel)
theorem mw_181 : Cond.methodLink RX6 89 mX6_givenIn.1 ∈ iv_g := iv_g_in (List.mem_of_getElem? (i := 327) (by decide +kernel)) (by decide +kernel)
theorem mw_182 : Cond.instanceMethod mX6_givenIn.1 ∈ iv_g := iv_g_in (List.mem_of_getElem? (i := 329) (by decide +kernel)) (by decide +kernel)
theorem mw_183 : Cond.selects mX6_givenIn.1.cls mX6_givenIn.1 mX6_givenIn.1 ∈ iv_g := iv_g_in (List.mem_of_getElem? (i := 1) (by decide +kernel)) (by decide +kernel)
theorem mw_184 : Cond.code mX0_has.1 mX0_has.2.1 mX0_has.2.2.1 mX0_has.2.2.2 ∈ iv_g := iv_g_in (List.mem_of_getElem? (i := 292) (by decide +kernel)) (by decide +kernel)
theorem mw_185 : Cond.initialized mX0_has.1.cls ∈ iv_g := iv_g_in (List.mem_of_getElem? (i := 34) (by decide +kernel)) (by decide +kernel)
theorem mw_186 : Cond.methodLink RX6 96 mX0_has.1 ∈ iv_g := iv_g_in (List.mem_of_getElem? (i := 289) (by decide +kernel)) (by decide +kernel)
theorem mw_187 : Cond.instanceMethod mX0_has.1 ∈ iv_g := iv_g_in (List.mem_of_getElem? (i := 290) (by decide +kernel)) (by decide +kernel)
theorem mw_188 : Cond.selects mX0_has.1.cls mX0_has.1 mX0_has.1 ∈ iv_g := iv_g_in (List.mem_of_getElem? (i := 291) (by decide +kernel)) (by decide +kernel)
theorem mw_189 : Cond.code mX6_canComeBack.1 mX6_canComeBack.2.1 mX6_canComeBack.2.2.1 mX6_canComeBack.2.2.2 ∈ iv_g := iv_g_in (List.mem_of_getElem? (i := 354) (by decide +kernel)) (by decide +kernel)
theorem mw_190 : Cond.initialized mX6_canComeBack.1.cls ∈ iv_g := iv_g_in (List.mem_of_getElem? (i := 33) (by decide +kernel)) (by decide +kernel)
theorem mw_191 : Cond.methodLink RX6 97 mX6_canComeBack.1 ∈ iv_g := iv_g_in (List.mem_of_getElem? (i := 351) (by decide +kernel)) (by decide +kernel)
theorem mw_192 : Cond.instanceMethod mX6_canComeBack.1 ∈ iv_g := iv_g_in (List.mem_of_getElem? (i := 353) (by decide +kernel)) (by decide +kernel)
theorem mw_193 : Cond.selects mX6_canComeBack.1.cls mX6_canComeBack.1 mX6_canComeBack.1 ∈ iv_g := iv_g_in (List.mem_of_getElem? (i := 3) (by decide +kernel)) (by decide +kernel)
theorem mw_194 : Cond.code mX6_take.1 mX6_take.2.1 mX6_take.2.2.1 mX6_take.2.2.2 ∈ iv_g := iv_g_in (List.mem_of_getElem? (i := 326) (by decide +kernel)) (by decide +kernel)
theorem mw_195 : Cond.initialized mX6_take.1.cls ∈ iv_g := iv_g_in (List.mem_of_getElem? (i := 33) (by decide +kernel)) (by decide +kernel)
theorem mw_196 : Cond.methodLink RX6 100 mX6_take.1 ∈ iv_g := iv_g_in (List.mem_of_getElem? (i := 355) (by decide +kernel)) (by decide +kernel)
theorem mw_197 : Cond.instanceMethod mX6_take.1 ∈ iv_g := iv_g_in (List.mem_of_getElem? (i := 324) (by decide +kernel)) (by decide +kernel)
theorem mw_198 : Cond.selects mX6_take.1.cls mX6_take.1 mX6_take.1 ∈ iv_g := iv_g_in (List.mem_of_getElem? (i := 325) (by decide +kernel)) (by decide +kernel)
theorem mw_199 : Cond.code mX3_comeBack.1 mX3_comeBack.2.1 mX3_comeBack.2.2.1 mX3_comeBack.2.2.2 ∈ iv_g := iv_g_in (List.mem_of_getElem? (i := 359) (by decide +kernel)) (by decide +kernel)
theorem mw_200 : Cond.initialized mX3_comeBack.1.cls ∈ iv_g := iv_g_in (List.mem_of_getElem? (i := 37) (by decide +kernel)) (by decide +kernel)
theorem mw_201 : Cond.methodLink RX6 103 mX3_comeBack.1 ∈ iv_g := iv_g_in (List.mem_of_getElem? (i := 356) (by decide +kernel)) (by decide +kernel)
theorem mw_202 : Cond.instanceMethod mX3_comeBack.1 ∈ iv_g := iv_g_in (List.mem_of_getElem? (i := 357) (by decide +kernel)) (by decide +kernel)
theorem mw_203 : Cond.selects mX3_comeBack.1.cls mX3_comeBack.1 mX3_comeBack.1 ∈ iv_g := iv_g_in (List.mem_of_getElem? (i := 358) (by decide +kernel)) (by decide +kernel)
theorem mw_204 : Cond.code mX3_countIn.1 mX3_countIn.2.1 mX3_countIn.2.2.1 mX3_countIn.2.2.2 ∈ iv_g := iv_g_in (List.mem_of_getElem? (i := 297) (by decide +kernel)) (by decide +kernel)
theorem mw_205 : Cond.initialized mX3_countIn.1.cls ∈ iv_g := iv_g_in (List.mem_of_getElem? (i := 37) (by decide +kernel)) (by decide +kernel)
theorem mw_206 : Cond.methodLink RX6 107 mX3_countIn.1 ∈ iv_g := iv_g_in (List.mem_of_getElem? (i := 294) (by decide +kernel)) (by decide +kernel)
theorem mw_207 : Cond.instanceMethod mX3_countIn.1 ∈ iv_g := iv_g_in (List.mem_of_getElem? (i := 295) (by decide +kernel)) (by decide +kernel)
theorem mw_208 : Cond.selects mX3_countIn.1.cls mX3_countIn.1 mX3_countIn.1 ∈ iv_g := iv_g_in (List.mem_of_getElem? (i := 296) (by decide +kernel)) (by decide +kernel)
theorem mw_209 : Cond.code mX3_isOut.1 mX3_isOut.2.1 mX3_isOut.2.2.1 mX3_isOut.2.2.2 ∈ iv_g := iv_g_in (List.mem_of_getElem? (i := 338) (by decide +kernel)) (by decide +kernel)
theorem mw_210 : Cond.initialized mX3_isOut.1.cls ∈ iv_g := iv_g_in (List.mem_of_getElem? (i := 37) (by decide +kernel)) (by decide +kernel)
theorem mw_211 : Cond.methodLink RX6 110 mX3_isOut.1 ∈ iv_g := iv_g_in (List.mem_of_getElem? (i := 335) (by decide +kernel)) (by decide +kernel)
theorem mw_212 : Cond.instanceMethod mX3_isOut.1 ∈ iv_g := iv_g_in (List.mem_of_getElem? (i := 336) (by decide +kernel)) (by decide +kernel)
theorem mw_213 : Cond.selects mX3_isOut.1.cls mX3_isOut.1 mX3_isOut.1 ∈ iv_g := iv_g_in (List.mem_of_getElem? (i := 337) (by decide +kernel)) (by decide +kernel)
theorem mw_214 : Cond.code mX6_passHour.1 mX6_passHour.2.1 mX6_passHour.2.2.1 mX6_passHour.2.2.2 ∈ iv_g := iv_g_in (List.mem_of_getElem? (i := 375) (by decide +kernel)) (by decide +kernel)
theorem mw_215 : Cond.initialized mX6_passHour.1.cls ∈ iv_g := iv_g_in (List.mem_of_getElem? (i := 33) (by decide +kernel)) (by decide +kernel)
theorem mw_216 : Cond.methodLink RX6 117 mX6_passHour.1 ∈ iv_g := iv_g_in (List.mem_of_getElem? (i := 372) (by decide +kernel)) (by decide +kernel)
theorem mw_217 : Cond.instanceMethod mX6_passHour.1 ∈ iv_g := iv_g_in (List.mem_of_getElem? (i := 374) (by decide +kernel)) (by decide +kernel)
theorem mw_218 : Cond.selects mX6_passHour.1.cls mX6_passHour.1 mX6_passHour.1 ∈ iv_g := iv_g_in (List.mem_of_getElem? (i := 4) (by decide +kernel)) (by decide +kernel)
theorem mw_219 : Cond.code mX0_size.1 mX0_size.2.1 mX0_size.2.2.1 mX0_size.2.2.2 ∈ iv_g := iv_g_in (List.mem_of_getElem? (i := 386) (by decide +kernel)) (by decide +kernel)
theorem mw_220 : Cond.initialized mX0_size.1.cls ∈ iv_g := iv_g_in (List.mem_of_getElem? (i := 34) (by decide +kernel)) (by decide +kernel)
theorem mw_221 : Cond.methodLink RX6 120 mX0_size.1 ∈ iv_g := iv_g_in (List.mem_of_getElem? (i := 383) (by decide +kernel)) (by decide +kernel)
theorem mw_222 : Cond.instanceMethod mX0_size.1 ∈ iv_g := iv_g_in (List.mem_of_getElem? (i := 384) (by decide +kernel)) (by decide +kernel)
theorem mw_223 : Cond.selects mX0_size.1.cls mX0_size.1 mX0_size.1 ∈ iv_g := iv_g_in (List.mem_of_getElem? (i := 385) (by decide +kernel)) (by decide +kernel)
theorem mw_224 : Cond.code mX3_countSick.1 mX3_countSick.2.1 mX3_countSick.2.2.1 mX3_countSick.2.2.2 ∈ iv_g := iv_g_in (List.mem_of_getElem? (i := 413) (by decide +kernel)) (by decide +kernel)
theorem mw_225 : Cond.initialized mX3_countSick.1.cls ∈ iv_g := iv_g_in (List.mem_of_getElem? (i := 37) (by decide +kernel)) (by decide +kernel)
theorem mw_226 : Cond.methodLink RX6 126 mX3_countSick.1 ∈ iv_g := iv_g_in (List.mem_of_getElem? (i := 410) (by decide +kernel)) (by decide +kernel)
theorem mw_227 : Cond.instanceMethod mX3_countSick.1 ∈ iv_g := iv_g_in (List.mem_of_getElem? (i := 411) (by decide +kernel)) (by decide +kernel)
theorem mw_228 : Cond.selects mX3_countSick.1.cls mX3_countSick.1 mX3_countSick.1 ∈ iv_g := iv_g_in (List.mem_of_getElem? (i := 412) (by decide +kernel)) (by decide +kernel)
theorem mw_229 : Cond.code mX3_countOld.1 mX3_countOld.2.1 mX3_countOld.2.2.1 mX3_countOld.2.2.2 ∈ iv_g := iv_g_in (List.mem_of_getElem? (i := 417) (by decide +kernel)) (by decide +kernel)
theorem mw_230 : Cond.initialized mX3_countOld.1.cls ∈ iv_g := iv_g_in (List.mem_of_getElem? (i := 37) (by decide +kernel)) (by decide +kernel)
theorem mw_231 : Cond.methodLink RX6 129 mX3_countOld.1 ∈ iv_g := iv_g_in (List.mem_of_getElem? (i := 414) (by decide +kernel)) (by decide +kernel)
theorem mw_232 : Cond.instanceMethod mX3_countOld.1 ∈ iv_g := iv_g_in (List.mem_of_getElem? (i := 415) (by decide +kernel)) (by decide +kernel)
theorem mw_233 : Cond.selects mX3_countOld.1.cls mX3_countOld.1 mX3_countOld.1 ∈ iv_g := iv_g_in (List.mem_of_getElem? (i := 416) (by decide +kernel)) (by decide +kernel)
theorem mw_234 : Cond.code mX6_priceNow.1 mX6_priceNow.2.1 mX6_priceNow.2.2.1 mX6_priceNow.2.2.2 ∈ iv_g := iv_g_in (List.mem_of_getElem? (i := 379) (by decide +kernel)) (by decide +kernel)
theorem mw_235 : Cond.initialized mX6_priceNow.1.cls ∈ iv_g := iv_g_in (List.mem_of_getElem? (i := 33) (by decide +kernel)) (by decide +kernel)
theorem mw_236 : Cond.methodLink RX6 143 mX6_priceNow.1 ∈ iv_g := iv_g_in (List.mem_of_getElem? (i := 376) (by decide +kernel)) (by decide +kernel)
theorem mw_237 : Cond.instanceMethod mX6_priceNow.1 ∈ iv_g := iv_g_in (List.mem_of_getElem? (i := 378) (by decide +kernel)) (by decide +kernel)
theorem mw_238 : Cond.selects mX6_priceNow.1.cls mX6_priceNow.1 mX6_priceNow.1 ∈ iv_g := iv_g_in (List.mem_of_getElem? (i := 5) (by decide +kernel)) (by decide +kernel)
theorem mw_239 : Cond.code mX6_isReady.1 mX6_isReady.2.1 mX6_isReady.2.2.1 mX6_isReady.2.2.2 ∈ iv_g := iv_g_in (List.mem_of_getElem? (i := 334) (by decide +kernel)) (by decide +kernel)
theorem mw_240 : Cond.initialized mX6_isReady.1.cls ∈ iv_g := iv_g_in (List.mem_of_getElem? (i := 33) (by decide +kernel)) (by decide +kernel)
theorem mw_241 : Cond.methodLink RX6 159 mX6_isReady.1 ∈ iv_g := iv_g_in (List.mem_of_getElem? (i := 331) (by decide +kernel)) (by decide +kernel)
theorem mw_242 : Cond.instanceMethod mX6_isReady.1 ∈ iv_g := iv_g_in (List.mem_of_getElem? (i := 333) (by decide +kernel)) (by decide +kernel)
theorem mw_243 : Cond.selects mX6_isReady.1.cls mX6_isReady.1 mX6_isReady.1 ∈ iv_g := iv_g_in (List.mem_of_getElem? (i := 2) (by decide +kernel)) (by decide +kernel)
theorem mw_244 : Cond.code mX6_countReadyIn.1 mX6_countReadyIn.2.1 mX6_countReadyIn.2.2.1 mX6_countReadyIn.2.2.2 ∈ iv_g := iv_g_in (List.mem_of_getElem? (i := 394) (by decide +kernel)) (by decide +kernel)
theorem mw_245 : Cond.initialized mX6_countReadyIn.1.cls ∈ iv_g := iv_g_in (List.mem_of_getElem? (i := 33) (by decide +kernel)) (by decide +kernel)
theorem mw_246 : Cond.methodLink RX6 164 mX6_countReadyIn.1 ∈ iv_g := iv_g_in (List.mem_of_getElem? (i := 391) (by decide +kernel)) (by decide +kernel)
theorem mw_247 : Cond.instanceMethod mX6_countReadyIn.1 ∈ iv_g := iv_g_in (List.mem_of_getElem? (i := 393) (by decide +kernel)) (by decide +kernel)
theorem mw_248 : Cond.selects mX6_countReadyIn.1.cls mX6_countReadyIn.1 mX6_countReadyIn.1 ∈ iv_g := iv_g_in (List.mem_of_getElem? (i := 7) (by decide +kernel)) (by decide +kernel)
theorem mw_249 : Cond.code mX1_addNeed.1 mX1_addNeed.2.1 mX1_addNeed.2.2.1 mX1_addNeed.2.2.2 ∈ iv_g := iv_g_in (List.mem_of_getElem? (i := 429) (by decide +kernel)) (by decide +kernel)
theorem mw_250 : Cond.initialized mX1_addNeed.1.cls ∈ iv_g := iv_g_in (List.mem_of_getElem? (i := 38) (by decide +kernel)) (by decide +kernel)
theorem mw_251 : Cond.methodLink RX6 173 mX1_addNeed.1 ∈ iv_g := iv_g_in (List.mem_of_getElem? (i := 426) (by decide +kernel)) (by decide +kernel)
theorem mw_252 : Cond.instanceMethod mX1_addNeed.1 ∈ iv_g := iv_g_in (List.mem_of_getElem? (i := 427) (by decide +kernel)) (by decide +kernel)
theorem mw_253 : Cond.selects mX1_addNeed.1.cls mX1_addNeed.1 mX1_addNeed.1 ∈ iv_g := iv_g_in (List.mem_of_getElem? (i := 428) (by decide +kernel)) (by decide +kernel)
theorem mw_254 : Cond.code mX1_keepLeast.1 mX1_keepLeast.2.1 mX1_keepLeast.2.2.1 mX1_keepLeast.2.2.2 ∈ iv_g := iv_g_in (List.mem_of_getElem? (i := 441) (by decide +kernel)) (by decide +kernel)
theorem mw_255 : Cond.initialized mX1_keepLeast.1.cls ∈ iv_g := iv_g_in (List.mem_of_getElem? (i := 38) (by decide +kernel)) (by decide +kernel)
theorem mw_256 : Cond.methodLink RX6 176 mX1_keepLeast.1 ∈ iv_g := iv_g_in (List.mem_of_getElem? (i := 438) (by decide +kernel)) (by decide +kernel)
theorem mw_257 : Cond.instanceMethod mX1_keepLeast.1 ∈ iv_g := iv_g_in (List.mem_of_getElem? (i := 439) (by decide +kernel)) (by decide +kernel)
theorem mw_258 : Cond.selects mX1_keepLeast.1.cls mX1_keepLeast.1 mX1_keepLeast.1 ∈ iv_g := iv_g_in (List.mem_of_getElem? (i := 440) (by decide +kernel)) (by decide +kernel)
theorem mw_259 : Cond.code mX5_begin.1 mX5_begin.2.1 mX5_begin.2.2.1 mX5_begin.2.2.2 ∈ iv_g := iv_g_in (List.mem_of_getElem? (i := 475) (by decide +kernel)) (by decide +kernel)
theorem mw_260 : Cond.initialized mX5_begin.1.cls ∈ iv_g := iv_g_in (List.mem_of_getElem? (i := 39) (by decide +kernel)) (by decide +kernel)
theorem mw_261 : Cond.methodLink RX6 186 mX5_begin.1 ∈ iv_g := iv_g_in (List.mem_of_getElem? (i := 472) (by decide +kernel)) (by decide +kernel)
theorem mw_262 : Cond.instanceMethod mX5_begin.1 ∈ iv_g := iv_g_in (List.mem_of_getElem? (i := 473) (by decide +kernel)) (by decide +kernel)
theorem mw_263 : Cond.selects mX5_begin.1.cls mX5_begin.1 mX5_begin.1 ∈ iv_g := iv_g_in (List.mem_of_getElem? (i := 474) (by decide +kernel)) (by decide +kernel)
theorem mw_264 : Cond.code mX5_addSurplus.1 mX5_addSurplus.2.1 mX5_addSurplus.2.2.1 mX5_addSurplus.2.2.2 ∈ iv_g := iv_g_in (List.mem_of_getElem? (i := 479) (by decide +kernel)) (by decide +kernel)
theorem mw_265 : Cond.initialized mX5_addSurplus.1.cls ∈ iv_g := iv_g_in (List.mem_of_getElem? (i := 39) (by decide +kernel)) (by decide +kernel)
theorem mw_266 : Cond.methodLink RX6 190 mX5_addSurplus.1 ∈ iv_g := iv_g_in (List.mem_of_getElem? (i := 476) (by decide +kernel)) (by decide +kernel)
theorem mw_267 : Cond.instanceMethod mX5_addSurplus.1 ∈ iv_g := iv_g_in (List.mem_of_getElem? (i := 477) (by decide +kernel)) (by decide +kernel)
theorem mw_268 : Cond.selects mX5_addSurplus.1.cls mX5_addSurplus.1 mX5_addSurplus.1 ∈ iv_g := iv_g_in (List.mem_of_getElem? (i := 478) (by decide +kernel)) (by decide +kernel)
theorem mw_269 : Cond.code mX5_keepShortest.1 mX5_keepShortest.2.1 mX5_keepShortest.2.2.1 mX5_keepShortest.2.2.2 ∈ iv_g := iv_g_in (List.mem_of_getElem? (i := 483) (by decide +kernel)) (by decide +kernel)
theorem mw_270 : Cond.initialized mX5_keepShortest.1.cls ∈ iv_g := iv_g_in (List.mem_of_getElem? (i := 39) (by decide +kernel)) (by decide +kernel)
theorem mw_271 : Cond.methodLink RX6 197 mX5_keepShortest.1 ∈ iv_g := iv_g_in (List.mem_of_getElem? (i := 480) (by decide +kernel)) (by decide +kernel)
theorem mw_272 : Cond.instanceMethod mX5_keepShortest.1 ∈ iv_g := iv_g_in (List.mem_of_getElem? (i := 481) (by decide +kernel)) (by decide +kernel)
theorem mw_273 : Cond.selects mX5_keepShortest.1.cls mX5_keepShortest.1 mX5_keepShortest.1 ∈ iv_g := iv_g_in (List.mem_of_getElem? (i := 482) (by decide +kernel)) (by decide +kernel)
theorem mw_274 : Cond.methodLink RX6 203 mX4_add.1 ∈ iv_g := iv_g_in (List.mem_of_getElem? (i := 508) (by decide +kernel)) (by decide +kernel)
theorem mw_275 : Cond.code mX2_keepBest.1 mX2_keepBest.2.1 mX2_keepBest.2.2.1 mX2_keepBest.2.2.2 ∈ iv_g := iv_g_in (List.mem_of_getElem? (i := 516) (by decide +kernel)) (by decide +kernel)
theorem mw_276 : Cond.initialized mX2_keepBest.1.cls ∈ iv_g := iv_g_in (List.mem_of_getElem? (i := 40) (by decide +kernel)) (by decide +kernel)
theorem mw_277 : Cond.methodLink RX6 204 mX2_keepBest.1 ∈ iv_g := iv_g_in (List.mem_of_getElem? (i := 513) (by decide +kernel)) (by decide +kernel)
theorem mw_278 : Cond.instanceMethod mX2_keepBest.1 ∈ iv_g := iv_g_in (List.mem_of_getElem? (i := 514) (by decide +kernel)) (by decide +kernel)
theorem mw_279 : Cond.selects mX2_keepBest.1.cls mX2_keepBest.1 mX2_keepBest.1 ∈ iv_g := iv_g_in (List.mem_of_getElem? (i := 515) (by decide +kernel)) (by decide +kernel)
theorem mw_280 : Cond.code mX3_isFit.1 mX3_isFit.2.1 mX3_isFit.2.2.1 mX3_isFit.2.2.2 ∈ iv_g := iv_g_in (List.mem_of_getElem? (i := 342) (by decide +kernel)) (by decide +kernel)
theorem mw_281 : Cond.initialized mX3_isFit.1.cls ∈ iv_g := iv_g_in (List.mem_of_getElem? (i := 37) (by decide +kernel)) (by decide +kernel)
theorem mw_282 : Cond.methodLink RX6 213 mX3_isFit.1 ∈ iv_g := iv_g_in (List.mem_of_getElem? (i := 339) (by decide +kernel)) (by decide +kernel)
theorem mw_283 : Cond.instanceMethod mX3_isFit.1 ∈ iv_g := iv_g_in (List.mem_of_getElem? (i := 340) (by decide +kernel)) (by decide +kernel)
theorem mw_284 : Cond.selects mX3_isFit.1.cls mX3_isFit.1 mX3_isFit.1 ∈ iv_g := iv_g_in (List.mem_of_getElem? (i := 341) (by decide +kernel)) (by decide +kernel)
theorem mw_285 : Cond.code mX3_former.1 mX3_former.2.1 mX3_former.2.2.1 mX3_former.2.2.2 ∈ iv_g := iv_g_in (List.mem_of_getElem? (i := 346) (by decide +kernel)) (by decide +kernel)
theorem mw_286 : Cond.initialized mX3_former.1.cls ∈ iv_g := iv_g_in (List.mem_of_getElem? (i := 37) (by decide +kernel)) (by decide +kernel)
theorem mw_287 : Cond.methodLink RX6 216 mX3_former.1 ∈ iv_g := iv_g_in (List.mem_of_getElem? (i := 343) (by decide +kernel)) (by decide +kernel)
theorem mw_288 : Cond.instanceMethod mX3_former.1 ∈ iv_g := iv_g_in (List.mem_of_getElem? (i := 344) (by decide +kernel)) (by decide +kernel)
theorem mw_289 : Cond.selects mX3_former.1.cls mX3_former.1 mX3_former.1 ∈ iv_g := iv_g_in (List.mem_of_getElem? (i := 345) (by decide +kernel)) (by decide +kernel)
theorem mw_290 : Cond.methodLink RX6 219 mJ9_floorMod_7cf53.1 ∈ iv_g := iv_g_in (List.mem_of_getElem? (i := 380) (by decide +kernel)) (by decide +kernel)
theorem mw_291 : Cond.code mX6_chargeIn.1 mX6_chargeIn.2.1 mX6_chargeIn.2.2.1 mX6_chargeIn.2.2.2 ∈ iv_g := iv_g_in (List.mem_of_getElem? (i := 390) (by decide +kernel)) (by decide +kernel)
theorem mw_292 : Cond.initialized mX6_chargeIn.1.cls ∈ iv_g := iv_g_in (List.mem_of_getElem? (i := 33) (by decide +kernel)) (by decide +kernel)
theorem mw_293 : Cond.methodLink RX6 224 mX6_chargeIn.1 ∈ iv_g := iv_g_in (List.mem_of_getElem? (i := 387) (by decide +kernel)) (by decide +kernel)
theorem mw_294 : Cond.instanceMethod mX6_chargeIn.1 ∈ iv_g := iv_g_in (List.mem_of_getElem? (i := 389) (by decide +kernel)) (by decide +kernel)
theorem mw_295 : Cond.selects mX6_chargeIn.1.cls mX6_chargeIn.1 mX6_chargeIn.1 ∈ iv_g := iv_g_in (List.mem_of_getElem? (i := 6) (by decide +kernel)) (by decide +kernel)
theorem mw_296 : Cond.code mX6_nextToCharge.1 mX6_nextToCharge.2.1 mX6_nextToCharge.2.2.1 mX6_nextToCharge.2.2.2 ∈ iv_g := iv_g_in (List.mem_of_getElem? (i := 398) (by decide +kernel)) (by decide +kernel)
theorem mw_297 : Cond.initialized mX6_nextToCharge.1.cls ∈ iv_g := iv_g_in (List.mem_of_getElem? (i := 33) (by decide +kernel)) (by decide +kernel)
theorem mw_298 : Cond.methodLink RX6 233 mX6_nextToCharge.1 ∈ iv_g := iv_g_in (List.mem_of_getElem? (i := 395) (by decide +kernel)) (by decide +kernel)
theorem mw_299 : Cond.instanceMethod mX6_nextToCharge.1 ∈ iv_g := iv_g_in (List.mem_of_getElem? (i := 397) (by decide +kernel)) (by decide +kernel)
end
section
theorem mw_300 : Cond.selects mX6_nextToCharge.1.cls mX6_nextToCharge.1 mX6_nextToCharge.1 ∈ iv_g := iv_g_in (List.mem_of_getElem? (i := 8) (by decide +kernel)) (by decide +kernel)
theorem mw_301 : Cond.code mX3_load.1 mX3_load.2.1 mX3_load.2.2.1 mX3_load.2.2.2 ∈ iv_g := iv_g_in (List.mem_of_getElem? (i := 402) (by decide +kernel)) (by decide +kernel)
theorem mw_302 : Cond.initialized mX3_load.1.cls ∈ iv_g := iv_g_in (List.mem_of_getElem? (i := 37) (by decide +kernel)) (by decide +kernel)
theorem mw_303 : Cond.methodLink RX6 236 mX3_load.1 ∈ iv_g := iv_g_in (List.mem_of_getElem? (i := 399) (by decide +kernel)) (by decide +kernel)
theorem mw_304 : Cond.instanceMethod mX3_load.1 ∈ iv_g := iv_g_in (List.mem_of_getElem? (i := 400) (by decide +kernel)) (by decide +kernel)
theorem mw_305 : Cond.selects mX3_load.1.cls mX3_load.1 mX3_load.1 ∈ iv_g := iv_g_in (List.mem_of_getElem? (i := 401) (by decide +kernel)) (by decide +kernel)
theorem mw_306 : Cond.fieldLink RX7 9 "SwapGoModel" "cabinets" "[I" ∈ iv_g := iv_g_in (List.mem_of_getElem? (i := 621) (by decide +kernel)) (by decide +kernel)
theorem mw_307 : Cond.fieldLink RX7 13 "SwapGoModel" "charge" "[I" ∈ iv_g := iv_g_in (List.mem_of_getElem? (i := 623) (by decide +kernel)) (by decide +kernel)
theorem mw_308 : Cond.fieldLink RX7 16 "SwapGoModel" "age" "[I" ∈ iv_g := iv_g_in (List.mem_of_getElem? (i := 624) (by decide +kernel)) (by decide +kernel)
theorem mw_309 : Cond.fieldLink RX7 19 "SwapGoModel" "where" "[I" ∈ iv_g := iv_g_in (List.mem_of_getElem? (i := 625) (by decide +kernel)) (by decide +kernel)
theorem mw_310 : Cond.fieldLink RX7 22 "SwapGoModel" "sick" "[Z" ∈ iv_g := iv_g_in (List.mem_of_getElem? (i := 626) (by decide +kernel)) (by decide +kernel)
theorem mw_311 : Cond.fieldLink RX7 26 "SwapGoModel" "numbers" "[I" ∈ iv_g := iv_g_in (List.mem_of_getElem? (i := 628) (by decide +kernel)) (by decide +kernel)
theorem mw_312 : Cond.fieldLink RX7 29 "SwapGoModel" "prices" "[I" ∈ iv_g := iv_g_in (List.mem_of_getElem? (i := 629) (by decide +kernel)) (by decide +kernel)
theorem mw_313 : Cond.fieldLink RX7 32 "SwapGoModel" "needs" "[I" ∈ iv_g := iv_g_in (List.mem_of_getElem? (i := 631) (by decide +kernel)) (by decide +kernel)
theorem mw_314 : Cond.fieldLink RX7 35 "SwapGoModel" "plan" "[I" ∈ iv_g := iv_g_in (List.mem_of_getElem? (i := 633) (by decide +kernel)) (by decide +kernel)
theorem mw_315 : Cond.fieldLink RX7 38 "SwapGoModel" "round" "[I" ∈ iv_g := iv_g_in (List.mem_of_getElem? (i := 635) (by decide +kernel)) (by decide +kernel)
theorem mw_316 : Cond.fieldLink RX7 41 "SwapGoModel" "px" "[I" ∈ iv_g := iv_g_in (List.mem_of_getElem? (i := 637) (by decide +kernel)) (by decide +kernel)
theorem mw_317 : Cond.fieldLink RX7 44 "SwapGoModel" "py" "[I" ∈ iv_g := iv_g_in (List.mem_of_getElem? (i := 638) (by decide +kernel)) (by decide +kernel)
theorem mw_318 : Cond.fieldLink RX7 47 "SwapGoModel" "qx" "[I" ∈ iv_g := iv_g_in (List.mem_of_getElem? (i := 640) (by decide +kernel)) (by decide +kernel)
theorem mw_319 : Cond.fieldLink RX7 50 "SwapGoModel" "qy" "[I" ∈ iv_g := iv_g_in (List.mem_of_getElem? (i := 641) (by decide +kernel)) (by decide +kernel)
theorem mw_320 : Cond.fieldLink RX7 53 "SwapGoModel" "isDone" "[Z" ∈ iv_g := iv_g_in (List.mem_of_getElem? (i := 645) (by decide +kernel)) (by decide +kernel)
theorem mw_321 : Cond.fieldLink RX7 56 "SwapGoModel" "row" "[I" ∈ iv_g := iv_g_in (List.mem_of_getElem? (i := 646) (by decide +kernel)) (by decide +kernel)
theorem mw_322 : Cond.fieldLink RX7 59 "SwapGoModel" "rest" "[I" ∈ iv_g := iv_g_in (List.mem_of_getElem? (i := 647) (by decide +kernel)) (by decide +kernel)
theorem mw_323 : Cond.fieldLink RX7 62 "SwapGoModel" "tryRow" "[I" ∈ iv_g := iv_g_in (List.mem_of_getElem? (i := 648) (by decide +kernel)) (by decide +kernel)
theorem mw_324 : Cond.fieldLink RX7 65 "SwapGoModel" "bestRow" "[I" ∈ iv_g := iv_g_in (List.mem_of_getElem? (i := 649) (by decide +kernel)) (by decide +kernel)
theorem mw_325 : Cond.fieldLink RX7 68 "SwapGoModel" "thrown" "I" ∈ iv_g := iv_g_in (List.mem_of_getElem? (i := 644) (by decide +kernel)) (by decide +kernel)
theorem mw_326 : Cond.fieldLink RX7 72 "SwapGoModel" "cabinetMany" "I" ∈ iv_g := iv_g_in (List.mem_of_getElem? (i := 622) (by decide +kernel)) (by decide +kernel)
theorem mw_327 : Cond.fieldLink RX7 79 "SwapGoModel" "packs" "I" ∈ iv_g := iv_g_in (List.mem_of_getElem? (i := 627) (by decide +kernel)) (by decide +kernel)
theorem mw_328 : Cond.fieldLink RX7 119 "SwapGoModel" "hour" "I" ∈ iv_g := iv_g_in (List.mem_of_getElem? (i := 630) (by decide +kernel)) (by decide +kernel)
theorem mw_329 : Cond.fieldLink RX7 137 "SwapGoModel" "needMany" "I" ∈ iv_g := iv_g_in (List.mem_of_getElem? (i := 632) (by decide +kernel)) (by decide +kernel)
theorem mw_330 : Cond.fieldLink RX7 140 "SwapGoModel" "points" "I" ∈ iv_g := iv_g_in (List.mem_of_getElem? (i := 639) (by decide +kernel)) (by decide +kernel)
theorem mw_331 : Cond.fieldLink RX7 143 "SwapGoModel" "places" "I" ∈ iv_g := iv_g_in (List.mem_of_getElem? (i := 642) (by decide +kernel)) (by decide +kernel)
theorem mw_332 : Cond.fieldLink RX7 147 "SwapGoModel" "planMany" "I" ∈ iv_g := iv_g_in (List.mem_of_getElem? (i := 634) (by decide +kernel)) (by decide +kernel)
theorem mw_333 : Cond.fieldLink RX7 153 "SwapGoModel" "bestLength" "I" ∈ iv_g := iv_g_in (List.mem_of_getElem? (i := 650) (by decide +kernel)) (by decide +kernel)
theorem mw_334 : Cond.fieldLink RX7 169 "SwapGoModel" "roundMany" "I" ∈ iv_g := iv_g_in (List.mem_of_getElem? (i := 636) (by decide +kernel)) (by decide +kernel)
theorem mw_335 : Cond.fieldLink RX7 181 "SwapGoModel" "chosen" "I" ∈ iv_g := iv_g_in (List.mem_of_getElem? (i := 643) (by decide +kernel)) (by decide +kernel)
theorem mw_336 : Cond.constant RX7 103 (100000) ∈ iv_g := iv_g_in (List.mem_of_getElem? (i := 749) (by decide +kernel)) (by decide +kernel)
theorem mw_337 : Cond.constant RX7 146 (268435456) ∈ iv_g := iv_g_in (List.mem_of_getElem? (i := 839) (by decide +kernel)) (by decide +kernel)
theorem mw_338 : Cond.code mX7_in.1 mX7_in.2.1 mX7_in.2.2.1 mX7_in.2.2.2 ∈ iv_g := iv_g_in (List.mem_of_getElem? (i := 722) (by decide +kernel)) (by decide +kernel)
theorem mw_339 : Cond.initialized mX7_in.1.cls ∈ iv_g := iv_g_in (List.mem_of_getElem? (i := 42) (by decide +kernel)) (by decide +kernel)
theorem mw_340 : Cond.methodLink RX7 75 mX7_in.1 ∈ iv_g := iv_g_in (List.mem_of_getElem? (i := 720) (by decide +kernel)) (by decide +kernel)
theorem mw_341 : Cond.static mX7_in.1 ∈ iv_g := iv_g_in (List.mem_of_getElem? (i := 721) (by decide +kernel)) (by decide +kernel)
theorem mw_342 : Cond.code mX7_inside.1 mX7_inside.2.1 mX7_inside.2.2.1 mX7_inside.2.2.2 ∈ iv_g := iv_g_in (List.mem_of_getElem? (i := 738) (by decide +kernel)) (by decide +kernel)
theorem mw_343 : Cond.initialized mX7_inside.1.cls ∈ iv_g := iv_g_in (List.mem_of_getElem? (i := 42) (by decide +kernel)) (by decide +kernel)
theorem mw_344 : Cond.methodLink RX7 82 mX7_inside.1 ∈ iv_g := iv_g_in (List.mem_of_getElem? (i := 735) (by decide +kernel)) (by decide +kernel)
theorem mw_345 : Cond.instanceMethod mX7_inside.1 ∈ iv_g := iv_g_in (List.mem_of_getElem? (i := 737) (by decide +kernel)) (by decide +kernel)
theorem mw_346 : Cond.selects mX7_inside.1.cls mX7_inside.1 mX7_inside.1 ∈ iv_g := iv_g_in (List.mem_of_getElem? (i := 20) (by decide +kernel)) (by decide +kernel)
theorem mw_347 : Cond.code mX7_isFit.1 mX7_isFit.2.1 mX7_isFit.2.2.1 mX7_isFit.2.2.2 ∈ iv_g := iv_g_in (List.mem_of_getElem? (i := 777) (by decide +kernel)) (by decide +kernel)
theorem mw_348 : Cond.initialized mX7_isFit.1.cls ∈ iv_g := iv_g_in (List.mem_of_getElem? (i := 42) (by decide +kernel)) (by decide +kernel)
theorem mw_349 : Cond.methodLink RX7 86 mX7_isFit.1 ∈ iv_g := iv_g_in (List.mem_of_getElem? (i := 774) (by decide +kernel)) (by decide +kernel)
theorem mw_350 : Cond.instanceMethod mX7_isFit.1 ∈ iv_g := iv_g_in (List.mem_of_getElem? (i := 776) (by decide +kernel)) (by decide +kernel)
theorem mw_351 : Cond.selects mX7_isFit.1.cls mX7_isFit.1 mX7_isFit.1 ∈ iv_g := iv_g_in (List.mem_of_getElem? (i := 24) (by decide +kernel)) (by decide +kernel)
theorem mw_352 : Cond.code mX7_isReady.1 mX7_isReady.2.1 mX7_isReady.2.2.1 mX7_isReady.2.2.2 ∈ iv_g := iv_g_in (List.mem_of_getElem? (i := 773) (by decide +kernel)) (by decide +kernel)
theorem mw_353 : Cond.initialized mX7_isReady.1.cls ∈ iv_g := iv_g_in (List.mem_of_getElem? (i := 42) (by decide +kernel)) (by decide +kernel)
theorem mw_354 : Cond.methodLink RX7 90 mX7_isReady.1 ∈ iv_g := iv_g_in (List.mem_of_getElem? (i := 770) (by decide +kernel)) (by decide +kernel)
theorem mw_355 : Cond.instanceMethod mX7_isReady.1 ∈ iv_g := iv_g_in (List.mem_of_getElem? (i := 772) (by decide +kernel)) (by decide +kernel)
theorem mw_356 : Cond.selects mX7_isReady.1.cls mX7_isReady.1 mX7_isReady.1 ∈ iv_g := iv_g_in (List.mem_of_getElem? (i := 23) (by decide +kernel)) (by decide +kernel)
theorem mw_357 : Cond.code mX7_isAhead.1 mX7_isAhead.2.1 mX7_isAhead.2.2.1 mX7_isAhead.2.2.2 ∈ iv_g := iv_g_in (List.mem_of_getElem? (i := 781) (by decide +kernel)) (by decide +kernel)
theorem mw_358 : Cond.initialized mX7_isAhead.1.cls ∈ iv_g := iv_g_in (List.mem_of_getElem? (i := 42) (by decide +kernel)) (by decide +kernel)
theorem mw_359 : Cond.methodLink RX7 93 mX7_isAhead.1 ∈ iv_g := iv_g_in (List.mem_of_getElem? (i := 778) (by decide +kernel)) (by decide +kernel)
theorem mw_360 : Cond.instanceMethod mX7_isAhead.1 ∈ iv_g := iv_g_in (List.mem_of_getElem? (i := 780) (by decide +kernel)) (by decide +kernel)
theorem mw_361 : Cond.selects mX7_isAhead.1.cls mX7_isAhead.1 mX7_isAhead.1 ∈ iv_g := iv_g_in (List.mem_of_getElem? (i := 25) (by decide +kernel)) (by decide +kernel)
theorem mw_362 : Cond.code mX7_isCabinet.1 mX7_isCabinet.2.1 mX7_isCabinet.2.2.1 mX7_isCabinet.2.2.2 ∈ iv_g := iv_g_in (List.mem_of_getElem? (i := 730) (by decide +kernel)) (by decide +kernel)
theorem mw_363 : Cond.initialized mX7_isCabinet.1.cls ∈ iv_g := iv_g_in (List.mem_of_getElem? (i := 42) (by decide +kernel)) (by decide +kernel)
theorem mw_364 : Cond.methodLink RX7 97 mX7_isCabinet.1 ∈ iv_g := iv_g_in (List.mem_of_getElem? (i := 727) (by decide +kernel)) (by decide +kernel)
theorem mw_365 : Cond.instanceMethod mX7_isCabinet.1 ∈ iv_g := iv_g_in (List.mem_of_getElem? (i := 729) (by decide +kernel)) (by decide +kernel)
theorem mw_366 : Cond.selects mX7_isCabinet.1.cls mX7_isCabinet.1 mX7_isCabinet.1 ∈ iv_g := iv_g_in (List.mem_of_getElem? (i := 18) (by decide +kernel)) (by decide +kernel)
theorem mw_367 : Cond.code mX7_hasSlot.1 mX7_hasSlot.2.1 mX7_hasSlot.2.2.1 mX7_hasSlot.2.2.2 ∈ iv_g := iv_g_in (List.mem_of_getElem? (i := 734) (by decide +kernel)) (by decide +kernel)
theorem mw_368 : Cond.initialized mX7_hasSlot.1.cls ∈ iv_g := iv_g_in (List.mem_of_getElem? (i := 42) (by decide +kernel)) (by decide +kernel)
theorem mw_369 : Cond.methodLink RX7 100 mX7_hasSlot.1 ∈ iv_g := iv_g_in (List.mem_of_getElem? (i := 731) (by decide +kernel)) (by decide +kernel)
theorem mw_370 : Cond.instanceMethod mX7_hasSlot.1 ∈ iv_g := iv_g_in (List.mem_of_getElem? (i := 733) (by decide +kernel)) (by decide +kernel)
theorem mw_371 : Cond.selects mX7_hasSlot.1.cls mX7_hasSlot.1 mX7_hasSlot.1 ∈ iv_g := iv_g_in (List.mem_of_getElem? (i := 19) (by decide +kernel)) (by decide +kernel)
theorem mw_372 : Cond.code mX7_leastOf.1 mX7_leastOf.2.1 mX7_leastOf.2.2.1 mX7_leastOf.2.2.2 ∈ iv_g := iv_g_in (List.mem_of_getElem? (i := 745) (by decide +kernel)) (by decide +kernel)
theorem mw_373 : Cond.initialized mX7_leastOf.1.cls ∈ iv_g := iv_g_in (List.mem_of_getElem? (i := 42) (by decide +kernel)) (by decide +kernel)
theorem mw_374 : Cond.methodLink RX7 104 mX7_leastOf.1 ∈ iv_g := iv_g_in (List.mem_of_getElem? (i := 743) (by decide +kernel)) (by decide +kernel)
theorem mw_375 : Cond.static mX7_leastOf.1 ∈ iv_g := iv_g_in (List.mem_of_getElem? (i := 744) (by decide +kernel)) (by decide +kernel)
theorem mw_376 : Cond.code mX7_mostOf.1 mX7_mostOf.2.1 mX7_mostOf.2.2.1 mX7_mostOf.2.2.2 ∈ iv_g := iv_g_in (List.mem_of_getElem? (i := 748) (by decide +kernel)) (by decide +kernel)
theorem mw_377 : Cond.initialized mX7_mostOf.1.cls ∈ iv_g := iv_g_in (List.mem_of_getElem? (i := 42) (by decide +kernel)) (by decide +kernel)
theorem mw_378 : Cond.methodLink RX7 107 mX7_mostOf.1 ∈ iv_g := iv_g_in (List.mem_of_getElem? (i := 746) (by decide +kernel)) (by decide +kernel)
theorem mw_379 : Cond.static mX7_mostOf.1 ∈ iv_g := iv_g_in (List.mem_of_getElem? (i := 747) (by decide +kernel)) (by decide +kernel)
theorem mw_380 : Cond.code mX7_isPack.1 mX7_isPack.2.1 mX7_isPack.2.2.1 mX7_isPack.2.2.2 ∈ iv_g := iv_g_in (List.mem_of_getElem? (i := 761) (by decide +kernel)) (by decide +kernel)
theorem mw_381 : Cond.initialized mX7_isPack.1.cls ∈ iv_g := iv_g_in (List.mem_of_getElem? (i := 42) (by decide +kernel)) (by decide +kernel)
theorem mw_382 : Cond.methodLink RX7 110 mX7_isPack.1 ∈ iv_g := iv_g_in (List.mem_of_getElem? (i := 758) (by decide +kernel)) (by decide +kernel)
theorem mw_383 : Cond.instanceMethod mX7_isPack.1 ∈ iv_g := iv_g_in (List.mem_of_getElem? (i := 760) (by decide +kernel)) (by decide +kernel)
theorem mw_384 : Cond.selects mX7_isPack.1.cls mX7_isPack.1 mX7_isPack.1 ∈ iv_g := iv_g_in (List.mem_of_getElem? (i := 21) (by decide +kernel)) (by decide +kernel)
theorem mw_385 : Cond.code mX7_given.1 mX7_given.2.1 mX7_given.2.2.1 mX7_given.2.2.2 ∈ iv_g := iv_g_in (List.mem_of_getElem? (i := 769) (by decide +kernel)) (by decide +kernel)
theorem mw_386 : Cond.initialized mX7_given.1.cls ∈ iv_g := iv_g_in (List.mem_of_getElem? (i := 42) (by decide +kernel)) (by decide +kernel)
theorem mw_387 : Cond.methodLink RX7 113 mX7_given.1 ∈ iv_g := iv_g_in (List.mem_of_getElem? (i := 766) (by decide +kernel)) (by decide +kernel)
theorem mw_388 : Cond.instanceMethod mX7_given.1 ∈ iv_g := iv_g_in (List.mem_of_getElem? (i := 768) (by decide +kernel)) (by decide +kernel)
theorem mw_389 : Cond.selects mX7_given.1.cls mX7_given.1 mX7_given.1 ∈ iv_g := iv_g_in (List.mem_of_getElem? (i := 22) (by decide +kernel)) (by decide +kernel)
theorem mw_390 : Cond.code mX7_mayCome.1 mX7_mayCome.2.1 mX7_mayCome.2.2.1 mX7_mayCome.2.2.2 ∈ iv_g := iv_g_in (List.mem_of_getElem? (i := 789) (by decide +kernel)) (by decide +kernel)
theorem mw_391 : Cond.initialized mX7_mayCome.1.cls ∈ iv_g := iv_g_in (List.mem_of_getElem? (i := 42) (by decide +kernel)) (by decide +kernel)
theorem mw_392 : Cond.methodLink RX7 116 mX7_mayCome.1 ∈ iv_g := iv_g_in (List.mem_of_getElem? (i := 786) (by decide +kernel)) (by decide +kernel)
theorem mw_393 : Cond.instanceMethod mX7_mayCome.1 ∈ iv_g := iv_g_in (List.mem_of_getElem? (i := 788) (by decide +kernel)) (by decide +kernel)
theorem mw_394 : Cond.selects mX7_mayCome.1.cls mX7_mayCome.1 mX7_mayCome.1 ∈ iv_g := iv_g_in (List.mem_of_getElem? (i := 26) (by decide +kernel)) (by decide +kernel)
theorem mw_395 : Cond.code mX7_line.1 mX7_line.2.1 mX7_line.2.2.1 mX7_line.2.2.2 ∈ iv_g := iv_g_in (List.mem_of_getElem? (i := 809) (by decide +kernel)) (by decide +kernel)
theorem mw_396 : Cond.initialized mX7_line.1.cls ∈ iv_g := iv_g_in (List.mem_of_getElem? (i := 42) (by decide +kernel)) (by decide +kernel)
theorem mw_397 : Cond.methodLink RX7 122 mX7_line.1 ∈ iv_g := iv_g_in (List.mem_of_getElem? (i := 806) (by decide +kernel)) (by decide +kernel)
theorem mw_398 : Cond.instanceMethod mX7_line.1 ∈ iv_g := iv_g_in (List.mem_of_getElem? (i := 808) (by decide +kernel)) (by decide +kernel)
theorem mw_399 : Cond.selects mX7_line.1.cls mX7_line.1 mX7_line.1 ∈ iv_g := iv_g_in (List.mem_of_getElem? (i := 28) (by decide +kernel)) (by decide +kernel)
theorem mw_400 : Cond.code mX7_readyIn.1 mX7_readyIn.2.1 mX7_readyIn.2.2.1 mX7_readyIn.2.2.2 ∈ iv_g := iv_g_in (List.mem_of_getElem? (i := 813) (by decide +kernel)) (by decide +kernel)
theorem mw_401 : Cond.initialized mX7_readyIn.1.cls ∈ iv_g := iv_g_in (List.mem_of_getElem? (i := 42) (by decide +kernel)) (by decide +kernel)
theorem mw_402 : Cond.methodLink RX7 125 mX7_readyIn.1 ∈ iv_g := iv_g_in (List.mem_of_getElem? (i := 810) (by decide +kernel)) (by decide +kernel)
theorem mw_403 : Cond.instanceMethod mX7_readyIn.1 ∈ iv_g := iv_g_in (List.mem_of_getElem? (i := 812) (by decide +kernel)) (by decide +kernel)
theorem mw_404 : Cond.selects mX7_readyIn.1.cls mX7_readyIn.1 mX7_readyIn.1 ∈ iv_g := iv_g_in (List.mem_of_getElem? (i := 29) (by decide +kernel)) (by decide +kernel)
theorem mw_405 : Cond.methodLink RX7 128 mJ9_min_7cf53.1 ∈ iv_g := iv_g_in (List.mem_of_getElem? (i := 814) (by decide +kernel)) (by decide +kernel)
theorem mw_406 : Cond.code mX7_goHour.1 mX7_goHour.2.1 mX7_goHour.2.2.1 mX7_goHour.2.2.2 ∈ iv_g := iv_g_in (List.mem_of_getElem? (i := 805) (by decide +kernel)) (by decide +kernel)
theorem mw_407 : Cond.initialized mX7_goHour.1.cls ∈ iv_g := iv_g_in (List.mem_of_getElem? (i := 42) (by decide +kernel)) (by decide +kernel)
theorem mw_408 : Cond.methodLink RX7 134 mX7_goHour.1 ∈ iv_g := iv_g_in (List.mem_of_getElem? (i := 802) (by decide +kernel)) (by decide +kernel)
theorem mw_409 : Cond.instanceMethod mX7_goHour.1 ∈ iv_g := iv_g_in (List.mem_of_getElem? (i := 804) (by decide +kernel)) (by decide +kernel)
theorem mw_410 : Cond.selects mX7_goHour.1.cls mX7_goHour.1 mX7_goHour.1 ∈ iv_g := iv_g_in (List.mem_of_getElem? (i := 27) (by decide +kernel)) (by decide +kernel)
theorem mw_411 : Cond.methodLink RX7 150 mJ9_abs_0f7a4.1 ∈ iv_g := iv_g_in (List.mem_of_getElem? (i := 859) (by decide +kernel)) (by decide +kernel)
theorem mw_412 : Cond.code mX7_away.1 mX7_away.2.1 mX7_away.2.2.1 mX7_away.2.2.2 ∈ iv_g := iv_g_in (List.mem_of_getElem? (i := 858) (by decide +kernel)) (by decide +kernel)
theorem mw_413 : Cond.initialized mX7_away.1.cls ∈ iv_g := iv_g_in (List.mem_of_getElem? (i := 42) (by decide +kernel)) (by decide +kernel)
theorem mw_414 : Cond.methodLink RX7 156 mX7_away.1 ∈ iv_g := iv_g_in (List.mem_of_getElem? (i := 856) (by decide +kernel)) (by decide +kernel)
theorem mw_415 : Cond.static mX7_away.1 ∈ iv_g := iv_g_in (List.mem_of_getElem? (i := 857) (by decide +kernel)) (by decide +kernel)
theorem mw_416 : Cond.code mX7_goOn.1 mX7_goOn.2.1 mX7_goOn.2.2.1 mX7_goOn.2.2.2 ∈ iv_g := iv_g_in (List.mem_of_getElem? (i := 855) (by decide +kernel)) (by decide +kernel)
theorem mw_417 : Cond.initialized mX7_goOn.1.cls ∈ iv_g := iv_g_in (List.mem_of_getElem? (i := 42) (by decide +kernel)) (by decide +kernel)
theorem mw_418 : Cond.methodLink RX7 160 mX7_goOn.1 ∈ iv_g := iv_g_in (List.mem_of_getElem? (i := 852) (by decide +kernel)) (by decide +kernel)
theorem mw_419 : Cond.instanceMethod mX7_goOn.1 ∈ iv_g := iv_g_in (List.mem_of_getElem? (i := 854) (by decide +kernel)) (by decide +kernel)
theorem mw_420 : Cond.selects mX7_goOn.1.cls mX7_goOn.1 mX7_goOn.1 ∈ iv_g := iv_g_in (List.mem_of_getElem? (i := 30) (by decide +kernel)) (by decide +kernel)
theorem mw_421 : Cond.methodLink RX7 164 mJ6_bitCount_0f7a4.1 ∈ iv_g := iv_g_in (List.mem_of_getElem? (i := 860) (by decide +kernel)) (by decide +kernel)
theorem mw_422 : Cond.code mJ6_numberOfTrailingZeros_0f7a4.1 mJ6_numberOfTrailingZeros_0f7a4.2.1 mJ6_numberOfTrailingZeros_0f7a4.2.2.1 mJ6_numberOfTrailingZeros_0f7a4.2.2.2 ∈ iv_g := iv_g_in (List.mem_of_getElem? (i := 882) (by decide +kernel)) (by decide +kernel)
theorem mw_423 : Cond.initialized mJ6_numberOfTrailingZeros_0f7a4.1.cls ∈ iv_g := iv_g_in (List.mem_of_getElem? (i := 47) (by decide +kernel)) (by decide +kernel)
theorem mw_424 : Cond.methodLink RX7 172 mJ6_numberOfTrailingZeros_0f7a4.1 ∈ iv_g := iv_g_in (List.mem_of_getElem? (i := 880) (by decide +kernel)) (by decide +kernel)
theorem mw_425 : Cond.static mJ6_numberOfTrailingZeros_0f7a4.1 ∈ iv_g := iv_g_in (List.mem_of_getElem? (i := 881) (by decide +kernel)) (by decide +kernel)
theorem mw_426 : Cond.code mX7_sumOf.1 mX7_sumOf.2.1 mX7_sumOf.2.2.1 mX7_sumOf.2.2.2 ∈ iv_g := iv_g_in (List.mem_of_getElem? (i := 876) (by decide +kernel)) (by decide +kernel)
theorem mw_427 : Cond.initialized mX7_sumOf.1.cls ∈ iv_g := iv_g_in (List.mem_of_getElem? (i := 42) (by decide +kernel)) (by decide +kernel)
theorem mw_428 : Cond.methodLink RX7 175 mX7_sumOf.1 ∈ iv_g := iv_g_in (List.mem_of_getElem? (i := 873) (by decide +kernel)) (by decide +kernel)
theorem mw_429 : Cond.instanceMethod mX7_sumOf.1 ∈ iv_g := iv_g_in (List.mem_of_getElem? (i := 875) (by decide +kernel)) (by decide +kernel)
theorem mw_430 : Cond.selects mX7_sumOf.1.cls mX7_sumOf.1 mX7_sumOf.1 ∈ iv_g := iv_g_in (List.mem_of_getElem? (i := 31) (by decide +kernel)) (by decide +kernel)
theorem mw_431 : Cond.code mX7_isFirst.1 mX7_isFirst.2.1 mX7_isFirst.2.2.1 mX7_isFirst.2.2.2 ∈ iv_g := iv_g_in (List.mem_of_getElem? (i := 879) (by decide +kernel)) (by decide +kernel)
theorem mw_432 : Cond.initialized mX7_isFirst.1.cls ∈ iv_g := iv_g_in (List.mem_of_getElem? (i := 42) (by decide +kernel)) (by decide +kernel)
theorem mw_433 : Cond.methodLink RX7 178 mX7_isFirst.1 ∈ iv_g := iv_g_in (List.mem_of_getElem? (i := 877) (by decide +kernel)) (by decide +kernel)
theorem mw_434 : Cond.static mX7_isFirst.1 ∈ iv_g := iv_g_in (List.mem_of_getElem? (i := 878) (by decide +kernel)) (by decide +kernel)
theorem mw_435 : Cond.constant RJ6 264 (65536) ∈ iv_g := iv_g_in (List.mem_of_getElem? (i := 883) (by decide +kernel)) (by decide +kernel)
theorem mw_436 : Cond.constant RJ6 265 (1431655765) ∈ iv_g := iv_g_in (List.mem_of_getElem? (i := 526) (by decide +kernel)) (by decide +kernel)
theorem mw_437 : Cond.constant RJ6 266 (858993459) ∈ iv_g := iv_g_in (List.mem_of_getElem? (i := 527) (by decide +kernel)) (by decide +kernel)
theorem mw_438 : Cond.constant RJ6 267 (252645135) ∈ iv_g := iv_g_in (List.mem_of_getElem? (i := 528) (by decide +kernel)) (by decide +kernel)
end
section
theorem fkX0 : ∀ e ∈ flX0, iv_fokB RX0 e.1 e.2.1 e.2.2 = true := List.forall_mem_cons.mpr ⟨iv_fok_of (own := RX0) (idx := 14) (ci := 0) (j := 0) (q := (RX0, TX0, 6)) rfl (by decide) mw_0, List.forall_mem_cons.mpr ⟨iv_fok_of (own := RX0) (idx := 20) (ci := 0) (j := 1) (q := (RX0, TX0, 6)) rfl (by decide) mw_1, List.forall_mem_cons.mpr ⟨iv_fok_of (own := RX0) (idx := 24) (ci := 0) (j := 2) (q := (RX0, TX0, 6)) rfl (by decide) mw_2, List.forall_mem_cons.mpr ⟨iv_fok_of (own := RX0) (idx := 27) (ci := 0) (j := 3) (q := (RX0, TX0, 6)) rfl (by decide) mw_3, List.forall_mem_cons.mpr ⟨iv_fok_of (own := RX0) (idx := 30) (ci := 0) (j := 4) (q := (RX0, TX0, 6)) rfl (by decide) mw_4, List.forall_mem_cons.mpr ⟨iv_fok_of (own := RX0) (idx := 33) (ci := 0) (j := 5) (q := (RX0, TX0, 6)) rfl (by decide) mw_5, List.forall_mem_cons.mpr ⟨iv_fok_of (own := RX0) (idx := 36) (ci := 4) (j := 2) (q := (RX4, TX4, 3)) rfl (by decide) mw_6, fun _ h => absurd h List.not_mem_nil⟩⟩⟩⟩⟩⟩⟩
theorem skX0 : ∀ e ∈ csX0, Cond.constant RX0 e.1 e.2 ∈ iv_g := fun _ h => absurd h List.not_mem_nil
theorem ceX0_40 : iv_cokB RX0 40 3 none false mX6_isWithin = true := iv_cok_S (own := RX0) (idx := 40) (n := 3) (vd := false) (ym := mX6_isWithin) (by decide) (by decide) (by decide) mw_7 mw_8 (by decide) (by decide +kernel) mw_9 (Or.inr (by decide +kernel))
theorem ceX0_44 : iv_cokB RX0 44 3 (some 4) false mX4_add = true := iv_cok_V (own := RX0) (idx := 44) (n := 3) (ci := 4) (vd := false) (ym := mX4_add) (by decide) (by decide) (by decide) mw_10 mw_11 (by decide) (by decide +kernel) mw_13 mw_14 mw_12 rfl
theorem ckX0 : ∀ e ∈ cvX0, iv_cokB RX0 e.1 e.2.1 e.2.2.1 e.2.2.2.1 e.2.2.2.2 = true := List.forall_mem_cons.mpr ⟨ceX0_40, List.forall_mem_cons.mpr ⟨ceX0_44, fun _ h => absurd h List.not_mem_nil⟩⟩
theorem okX0 : iv_ok RX0 tbX0 := iv_ok_of fkX0 skX0 ckX0
theorem fkX1 : ∀ e ∈ flX1, iv_fokB RX1 e.1 e.2.1 e.2.2 = true := List.forall_mem_cons.mpr ⟨iv_fok_of (own := RX1) (idx := 9) (ci := 1) (j := 0) (q := (RX1, TX1, 7)) rfl (by decide) mw_15, List.forall_mem_cons.mpr ⟨iv_fok_of (own := RX1) (idx := 15) (ci := 1) (j := 1) (q := (RX1, TX1, 7)) rfl (by decide) mw_16, List.forall_mem_cons.mpr ⟨iv_fok_of (own := RX1) (idx := 18) (ci := 1) (j := 2) (q := (RX1, TX1, 7)) rfl (by decide) mw_17, List.forall_mem_cons.mpr ⟨iv_fok_of (own := RX1) (idx := 21) (ci := 1) (j := 3) (q := (RX1, TX1, 7)) rfl (by decide) mw_18, List.forall_mem_cons.mpr ⟨iv_fok_of (own := RX1) (idx := 24) (ci := 1) (j := 4) (q := (RX1, TX1, 7)) rfl (by decide) mw_19, List.forall_mem_cons.mpr ⟨iv_fok_of (own := RX1) (idx := 27) (ci := 1) (j := 5) (q := (RX1, TX1, 7)) rfl (by decide) mw_20, List.forall_mem_cons.mpr ⟨iv_fok_of (own := RX1) (idx := 55) (ci := 1) (j := 6) (q := (RX1, TX1, 7)) rfl (by decide) mw_21, fun _ h => absurd h List.not_mem_nil⟩⟩⟩⟩⟩⟩⟩
theorem skX1 : ∀ e ∈ csX1, Cond.constant RX1 e.1 e.2 ∈ iv_g := fun _ h => absurd h List.not_mem_nil
theorem ceX1_31 : iv_cokB RX1 31 3 (some 1) true mX1_begin = true := iv_cok_V (own := RX1) (idx := 31) (n := 3) (ci := 1) (vd := true) (ym := mX1_begin) (by decide) (by decide) (by decide) mw_22 mw_23 (by decide) (by decide +kernel) mw_25 mw_26 mw_24 rfl
theorem ceX1_35 : iv_cokB RX1 35 1 (some 1) false mX1_cheapestUnfilled = true := iv_cok_V (own := RX1) (idx := 35) (n := 1) (ci := 1) (vd := false) (ym := mX1_cheapestUnfilled) (by decide) (by decide) (by decide) mw_27 mw_28 (by decide) (by decide +kernel) mw_30 mw_31 mw_29 rfl
theorem ceX1_39 : iv_cokB RX1 39 3 (some 1) true mX1_fill = true := iv_cok_V (own := RX1) (idx := 39) (n := 3) (ci := 1) (vd := true) (ym := mX1_fill) (by decide) (by decide) (by decide) mw_32 mw_33 (by decide) (by decide +kernel) mw_35 mw_36 mw_34 rfl
theorem ceX1_43 : iv_cokB RX1 43 1 (some 1) false mX1_keepDraft = true := iv_cok_V (own := RX1) (idx := 43) (n := 1) (ci := 1) (vd := false) (ym := mX1_keepDraft) (by decide) (by decide) (by decide) mw_37 mw_38 (by decide) (by decide +kernel) mw_40 mw_41 mw_39 rfl
theorem ceX1_46 : iv_cokB RX1 46 2 none false mJ9_floorMod_7cf53 = true := iv_cok_S (own := RX1) (idx := 46) (n := 2) (vd := false) (ym := mJ9_floorMod_7cf53) (by decide) (by decide) (by decide) mw_42 mw_43 (by decide) (by decide +kernel) mw_45 (Or.inl mw_44)
theorem ceX1_52 : iv_cokB RX1 52 2 none false mJ9_min_7cf53 = true := iv_cok_S (own := RX1) (idx := 52) (n := 2) (vd := false) (ym := mJ9_min_7cf53) (by decide) (by decide) (by decide) mw_46 mw_47 (by decide) (by decide +kernel) mw_49 (Or.inl mw_48)
theorem ckX1 : ∀ e ∈ cvX1, iv_cokB RX1 e.1 e.2.1 e.2.2.1 e.2.2.2.1 e.2.2.2.2 = true := List.forall_mem_cons.mpr ⟨ceX1_31, List.forall_mem_cons.mpr ⟨ceX1_35, List.forall_mem_cons.mpr ⟨ceX1_39, List.forall_mem_cons.mpr ⟨ceX1_43, List.forall_mem_cons.mpr ⟨ceX1_46, List.forall_mem_cons.mpr ⟨ceX1_52, fun _ h => absurd h List.not_mem_nil⟩⟩⟩⟩⟩⟩
theorem okX1 : iv_ok RX1 tbX1 := iv_ok_of fkX1 skX1 ckX1
theorem fkX2 : ∀ e ∈ flX2, iv_fokB RX2 e.1 e.2.1 e.2.2 = true := List.forall_mem_cons.mpr ⟨iv_fok_of (own := RX2) (idx := 14) (ci := 2) (j := 0) (q := (RX2, TX2, 4)) rfl (by decide) mw_50, List.forall_mem_cons.mpr ⟨iv_fok_of (own := RX2) (idx := 20) (ci := 2) (j := 1) (q := (RX2, TX2, 4)) rfl (by decide) mw_51, List.forall_mem_cons.mpr ⟨iv_fok_of (own := RX2) (idx := 23) (ci := 2) (j := 2) (q := (RX2, TX2, 4)) rfl (by decide) mw_52, List.forall_mem_cons.mpr ⟨iv_fok_of (own := RX2) (idx := 31) (ci := 4) (j := 2) (q := (RX4, TX4, 3)) rfl (by decide) mw_53, List.forall_mem_cons.mpr ⟨iv_fok_of (own := RX2) (idx := 48) (ci := 2) (j := 3) (q := (RX2, TX2, 4)) rfl (by decide) mw_54, List.forall_mem_cons.mpr ⟨iv_fok_of (own := RX2) (idx := 51) (ci := 4) (j := 0) (q := (RX4, TX4, 3)) rfl (by decide) mw_55, List.forall_mem_cons.mpr ⟨iv_fok_of (own := RX2) (idx := 54) (ci := 4) (j := 1) (q := (RX4, TX4, 3)) rfl (by decide) mw_56, fun _ h => absurd h List.not_mem_nil⟩⟩⟩⟩⟩⟩⟩
theorem skX2 : ∀ e ∈ csX2, Cond.constant RX2 e.1 e.2 ∈ iv_g := fun _ h => absurd h List.not_mem_nil
theorem ceX2_27 : iv_cokB RX2 27 2 (some 2) true mX2_measureCabinetWays = true := iv_cok_V (own := RX2) (idx := 27) (n := 2) (ci := 2) (vd := true) (ym := mX2_measureCabinetWays) (by decide) (by decide) (by decide) mw_57 mw_58 (by decide) (by decide +kernel) mw_60 mw_61 mw_59 rfl
theorem ceX2_35 : iv_cokB RX2 35 1 none false mJ6_bitCount_0f7a4 = true := iv_cok_S (own := RX2) (idx := 35) (n := 1) (vd := false) (ym := mJ6_bitCount_0f7a4) (by decide) (by decide) (by decide) mw_62 mw_63 (by decide) (by decide +kernel) mw_65 (Or.inl mw_64)
theorem ceX2_41 : iv_cokB RX2 41 2 (some 2) false mX2_sumOfWays = true := iv_cok_V (own := RX2) (idx := 41) (n := 2) (ci := 2) (vd := false) (ym := mX2_sumOfWays) (by decide) (by decide) (by decide) mw_66 mw_67 (by decide) (by decide +kernel) mw_69 mw_70 mw_68 rfl
theorem ceX2_44 : iv_cokB RX2 44 2 none false mX2_isFirstRow = true := iv_cok_S (own := RX2) (idx := 44) (n := 2) (vd := false) (ym := mX2_isFirstRow) (by decide) (by decide) (by decide) mw_71 mw_72 (by decide) (by decide +kernel) mw_74 (Or.inl mw_73)
theorem ceX2_57 : iv_cokB RX2 57 4 (some 4) false mX4_distance = true := iv_cok_V (own := RX2) (idx := 57) (n := 4) (ci := 4) (vd := false) (ym := mX4_distance) (by decide) (by decide) (by decide) mw_75 mw_76 (by decide) (by decide +kernel) mw_78 mw_79 mw_77 rfl
theorem ceX2_61 : iv_cokB RX2 61 2 none false mJ9_min_7cf53 = true := iv_cok_S (own := RX2) (idx := 61) (n := 2) (vd := false) (ym := mJ9_min_7cf53) (by decide) (by decide) (by decide) mw_46 mw_47 (by decide) (by decide +kernel) mw_49 (Or.inl mw_80)
theorem ckX2 : ∀ e ∈ cvX2, iv_cokB RX2 e.1 e.2.1 e.2.2.1 e.2.2.2.1 e.2.2.2.2 = true := List.forall_mem_cons.mpr ⟨ceX2_27, List.forall_mem_cons.mpr ⟨ceX2_35, List.forall_mem_cons.mpr ⟨ceX2_41, List.forall_mem_cons.mpr ⟨ceX2_44, List.forall_mem_cons.mpr ⟨ceX2_57, List.forall_mem_cons.mpr ⟨ceX2_61, fun _ h => absurd h List.not_mem_nil⟩⟩⟩⟩⟩⟩
theorem okX2 : iv_ok RX2 tbX2 := iv_ok_of fkX2 skX2 ckX2
theorem fkX3 : ∀ e ∈ flX3, iv_fokB RX3 e.1 e.2.1 e.2.2 = true := List.forall_mem_cons.mpr ⟨iv_fok_of (own := RX3) (idx := 9) (ci := 3) (j := 0) (q := (RX3, TX3, 6)) rfl (by decide) mw_81, List.forall_mem_cons.mpr ⟨iv_fok_of (own := RX3) (idx := 15) (ci := 3) (j := 1) (q := (RX3, TX3, 6)) rfl (by decide) mw_82, List.forall_mem_cons.mpr ⟨iv_fok_of (own := RX3) (idx := 18) (ci := 3) (j := 2) (q := (RX3, TX3, 6)) rfl (by decide) mw_83, List.forall_mem_cons.mpr ⟨iv_fok_of (own := RX3) (idx := 22) (ci := 3) (j := 3) (q := (RX3, TX3, 6)) rfl (by decide) mw_84, List.forall_mem_cons.mpr ⟨iv_fok_of (own := RX3) (idx := 25) (ci := 3) (j := 4) (q := (RX3, TX3, 6)) rfl (by decide) mw_85, List.forall_mem_cons.mpr ⟨iv_fok_of (own := RX3) (idx := 28) (ci := 3) (j := 5) (q := (RX3, TX3, 6)) rfl (by decide) mw_86, fun _ h => absurd h List.not_mem_nil⟩⟩⟩⟩⟩⟩
theorem skX3 : ∀ e ∈ csX3, Cond.constant RX3 e.1 e.2 ∈ iv_g := fun _ h => absurd h List.not_mem_nil
theorem ceX3_32 : iv_cokB RX3 32 3 none false mX6_isWithin = true := iv_cok_S (own := RX3) (idx := 32) (n := 3) (vd := false) (ym := mX6_isWithin) (by decide) (by decide) (by decide) mw_7 mw_8 (by decide) (by decide +kernel) mw_9 (Or.inr (by decide +kernel))
theorem ceX3_36 : iv_cokB RX3 36 2 none false mJ9_min_7cf53 = true := iv_cok_S (own := RX3) (idx := 36) (n := 2) (vd := false) (ym := mJ9_min_7cf53) (by decide) (by decide) (by decide) mw_46 mw_47 (by decide) (by decide +kernel) mw_49 (Or.inl mw_87)
theorem ckX3 : ∀ e ∈ cvX3, iv_cokB RX3 e.1 e.2.1 e.2.2.1 e.2.2.2.1 e.2.2.2.2 = true := List.forall_mem_cons.mpr ⟨ceX3_32, List.forall_mem_cons.mpr ⟨ceX3_36, fun _ h => absurd h List.not_mem_nil⟩⟩
theorem okX3 : iv_ok RX3 tbX3 := iv_ok_of fkX3 skX3 ckX3
theorem fkX4 : ∀ e ∈ flX4, iv_fokB RX4 e.1 e.2.1 e.2.2 = true := List.forall_mem_cons.mpr ⟨iv_fok_of (own := RX4) (idx := 15) (ci := 4) (j := 0) (q := (RX4, TX4, 3)) rfl (by decide) mw_88, List.forall_mem_cons.mpr ⟨iv_fok_of (own := RX4) (idx := 21) (ci := 4) (j := 1) (q := (RX4, TX4, 3)) rfl (by decide) mw_89, List.forall_mem_cons.mpr ⟨iv_fok_of (own := RX4) (idx := 24) (ci := 4) (j := 2) (q := (RX4, TX4, 3)) rfl (by decide) mw_90, fun _ h => absurd h List.not_mem_nil⟩⟩⟩
theorem skX4 : ∀ e ∈ csX4, Cond.constant RX4 e.1 e.2 ∈ iv_g := fun _ h => absurd h List.not_mem_nil
theorem ceX4_9 : iv_cokB RX4 9 2 none false mJ9_max_7cf53 = true := iv_cok_S (own := RX4) (idx := 9) (n := 2) (vd := false) (ym := mJ9_max_7cf53) (by decide) (by decide) (by decide) mw_91 mw_92 (by decide) (by decide +kernel) mw_94 (Or.inl mw_93)
theorem ceX4_28 : iv_cokB RX4 28 1 none false mJ9_abs_0f7a4 = true := iv_cok_S (own := RX4) (idx := 28) (n := 1) (vd := false) (ym := mJ9_abs_0f7a4) (by decide) (by decide) (by decide) mw_95 mw_96 (by decide) (by decide +kernel) mw_98 (Or.inl mw_97)
theorem ckX4 : ∀ e ∈ cvX4, iv_cokB RX4 e.1 e.2.1 e.2.2.1 e.2.2.2.1 e.2.2.2.2 = true := List.forall_mem_cons.mpr ⟨ceX4_9, List.forall_mem_cons.mpr ⟨ceX4_28, fun _ h => absurd h List.not_mem_nil⟩⟩
theorem okX4 : iv_ok RX4 tbX4 := iv_ok_of fkX4 skX4 ckX4
theorem fkX5 : ∀ e ∈ flX5, iv_fokB RX5 e.1 e.2.1 e.2.2 = true := List.forall_mem_cons.mpr ⟨iv_fok_of (own := RX5) (idx := 9) (ci := 5) (j := 0) (q := (RX5, TX5, 8)) rfl (by decide) mw_99, List.forall_mem_cons.mpr ⟨iv_fok_of (own := RX5) (idx := 15) (ci := 5) (j := 1) (q := (RX5, TX5, 8)) rfl (by decide) mw_100, List.forall_mem_cons.mpr ⟨iv_fok_of (own := RX5) (idx := 19) (ci := 5) (j := 2) (q := (RX5, TX5, 8)) rfl (by decide) mw_101, List.forall_mem_cons.mpr ⟨iv_fok_of (own := RX5) (idx := 22) (ci := 5) (j := 3) (q := (RX5, TX5, 8)) rfl (by decide) mw_102, List.forall_mem_cons.mpr ⟨iv_fok_of (own := RX5) (idx := 25) (ci := 5) (j := 5) (q := (RX5, TX5, 8)) rfl (by decide) mw_103, List.forall_mem_cons.mpr ⟨iv_fok_of (own := RX5) (idx := 29) (ci := 5) (j := 6) (q := (RX5, TX5, 8)) rfl (by decide) mw_104, List.forall_mem_cons.mpr ⟨iv_fok_of (own := RX5) (idx := 32) (ci := 5) (j := 7) (q := (RX5, TX5, 8)) rfl (by decide) mw_105, List.forall_mem_cons.mpr ⟨iv_fok_of (own := RX5) (idx := 43) (ci := 4) (j := 2) (q := (RX4, TX4, 3)) rfl (by decide) mw_106, List.forall_mem_cons.mpr ⟨iv_fok_of (own := RX5) (idx := 56) (ci := 4) (j := 0) (q := (RX4, TX4, 3)) rfl (by decide) mw_107, List.forall_mem_cons.mpr ⟨iv_fok_of (own := RX5) (idx := 59) (ci := 4) (j := 1) (q := (RX4, TX4, 3)) rfl (by decide) mw_108, List.forall_mem_cons.mpr ⟨iv_fok_of (own := RX5) (idx := 62) (ci := 5) (j := 4) (q := (RX5, TX5, 8)) rfl (by decide) mw_109, fun _ h => absurd h List.not_mem_nil⟩⟩⟩⟩⟩⟩⟩⟩⟩⟩⟩
theorem skX5 : ∀ e ∈ csX5, Cond.constant RX5 e.1 e.2 ∈ iv_g := fun _ h => absurd h List.not_mem_nil
theorem ceX5_35 : iv_cokB RX5 35 7 (some 5) true mX5_extend = true := iv_cok_V (own := RX5) (idx := 35) (n := 7) (ci := 5) (vd := true) (ym := mX5_extend) (by decide) (by decide) (by decide) mw_110 mw_111 (by decide) (by decide +kernel) mw_113 mw_114 mw_112 rfl
theorem ceX5_39 : iv_cokB RX5 39 2 (some 5) true mX5_keepRow = true := iv_cok_V (own := RX5) (idx := 39) (n := 2) (ci := 5) (vd := true) (ym := mX5_keepRow) (by decide) (by decide) (by decide) mw_115 mw_116 (by decide) (by decide +kernel) mw_118 mw_119 mw_117 rfl
theorem ceX5_48 : iv_cokB RX5 48 3 none false mX6_isWithin = true := iv_cok_S (own := RX5) (idx := 48) (n := 3) (vd := false) (ym := mX6_isWithin) (by decide) (by decide) (by decide) mw_7 mw_8 (by decide) (by decide +kernel) mw_9 (Or.inr (by decide +kernel))
theorem ceX5_52 : iv_cokB RX5 52 4 (some 4) false mX4_distance = true := iv_cok_V (own := RX5) (idx := 52) (n := 4) (ci := 4) (vd := false) (ym := mX4_distance) (by decide) (by decide) (by decide) mw_75 mw_76 (by decide) (by decide +kernel) mw_78 mw_79 mw_120 rfl
theorem ckX5 : ∀ e ∈ cvX5, iv_cokB RX5 e.1 e.2.1 e.2.2.1 e.2.2.2.1 e.2.2.2.2 = true := List.forall_mem_cons.mpr ⟨ceX5_35, List.forall_mem_cons.mpr ⟨ceX5_39, List.forall_mem_cons.mpr ⟨ceX5_48, List.forall_mem_cons.mpr ⟨ceX5_52, fun _ h => absurd h List.not_mem_nil⟩⟩⟩⟩
theorem okX5 : iv_ok RX5 tbX5 := iv_ok_of fkX5 skX5 ckX5
theorem fkX6 : ∀ e ∈ flX6, iv_fokB RX6 e.1 e.2.1 e.2.2 = true := List.forall_mem_cons.mpr ⟨iv_fok_of (own := RX6) (idx := 7) (ci := 6) (j := 0) (q := (RX6, TX6, 8)) rfl (by decide) mw_121, List.forall_mem_cons.mpr ⟨iv_fok_of (own := RX6) (idx := 13) (ci := 6) (j := 1) (q := (RX6, TX6, 8)) rfl (by decide) mw_122, List.forall_mem_cons.mpr ⟨iv_fok_of (own := RX6) (idx := 19) (ci := 6) (j := 2) (q := (RX6, TX6, 8)) rfl (by decide) mw_123, List.forall_mem_cons.mpr ⟨iv_fok_of (own := RX6) (idx := 26) (ci := 6) (j := 3) (q := (RX6, TX6, 8)) rfl (by decide) mw_124, List.forall_mem_cons.mpr ⟨iv_fok_of (own := RX6) (idx := 33) (ci := 6) (j := 4) (q := (RX6, TX6, 8)) rfl (by decide) mw_125, List.forall_mem_cons.mpr ⟨iv_fok_of (own := RX6) (idx := 40) (ci := 6) (j := 5) (q := (RX6, TX6, 8)) rfl (by decide) mw_126, List.forall_mem_cons.mpr ⟨iv_fok_of (own := RX6) (idx := 47) (ci := 6) (j := 6) (q := (RX6, TX6, 8)) rfl (by decide) mw_127, List.forall_mem_cons.mpr ⟨iv_fok_of (own := RX6) (idx := 85) (ci := 3) (j := 2) (q := (RX3, TX3, 6)) rfl (by decide) mw_128, List.forall_mem_cons.mpr ⟨iv_fok_of (own := RX6) (idx := 93) (ci := 3) (j := 3) (q := (RX3, TX3, 6)) rfl (by decide) mw_129, List.forall_mem_cons.mpr ⟨iv_fok_of (own := RX6) (idx := 113) (ci := 6) (j := 7) (q := (RX6, TX6, 8)) rfl (by decide) mw_130, List.forall_mem_cons.mpr ⟨iv_fok_of (own := RX6) (idx := 124) (ci := 3) (j := 5) (q := (RX3, TX3, 6)) rfl (by decide) mw_131, List.forall_mem_cons.mpr ⟨iv_fok_of (own := RX6) (idx := 132) (ci := 1) (j := 5) (q := (RX1, TX1, 7)) rfl (by decide) mw_132, List.forall_mem_cons.mpr ⟨iv_fok_of (own := RX6) (idx := 133) (ci := 2) (j := 0) (q := (RX2, TX2, 4)) rfl (by decide) mw_133, List.forall_mem_cons.mpr ⟨iv_fok_of (own := RX6) (idx := 137) (ci := 4) (j := 2) (q := (RX4, TX4, 3)) rfl (by decide) mw_134, List.forall_mem_cons.mpr ⟨iv_fok_of (own := RX6) (idx := 140) (ci := 2) (j := 1) (q := (RX2, TX2, 4)) rfl (by decide) mw_135, List.forall_mem_cons.mpr ⟨iv_fok_of (own := RX6) (idx := 153) (ci := 3) (j := 0) (q := (RX3, TX3, 6)) rfl (by decide) mw_136, List.forall_mem_cons.mpr ⟨iv_fok_of (own := RX6) (idx := 156) (ci := 3) (j := 1) (q := (RX3, TX3, 6)) rfl (by decide) mw_137, List.forall_mem_cons.mpr ⟨iv_fok_of (own := RX6) (idx := 167) (ci := 0) (j := 4) (q := (RX0, TX0, 6)) rfl (by decide) mw_138, List.forall_mem_cons.mpr ⟨iv_fok_of (own := RX6) (idx := 170) (ci := 0) (j := 5) (q := (RX0, TX0, 6)) rfl (by decide) mw_139, List.forall_mem_cons.mpr ⟨iv_fok_of (own := RX6) (idx := 180) (ci := 1) (j := 6) (q := (RX1, TX1, 7)) rfl (by decide) mw_140, List.forall_mem_cons.mpr ⟨iv_fok_of (own := RX6) (idx := 183) (ci := 1) (j := 4) (q := (RX1, TX1, 7)) rfl (by decide) mw_141, List.forall_mem_cons.mpr ⟨iv_fok_of (own := RX6) (idx := 194) (ci := 0) (j := 0) (q := (RX0, TX0, 6)) rfl (by decide) mw_142, List.forall_mem_cons.mpr ⟨iv_fok_of (own := RX6) (idx := 201) (ci := 5) (j := 4) (q := (RX5, TX5, 8)) rfl (by decide) mw_143, List.forall_mem_cons.mpr ⟨iv_fok_of (own := RX6) (idx := 202) (ci := 5) (j := 3) (q := (RX5, TX5, 8)) rfl (by decide) mw_144, List.forall_mem_cons.mpr ⟨iv_fok_of (own := RX6) (idx := 208) (ci := 2) (j := 3) (q := (RX2, TX2, 4)) rfl (by decide) mw_145, List.forall_mem_cons.mpr ⟨iv_fok_of (own := RX6) (idx := 210) (ci := 0) (j := 1) (q := (RX0, TX0, 6)) rfl (by decide) mw_146, List.forall_mem_cons.mpr ⟨iv_fok_of (own := RX6) (idx := 227) (ci := 0) (j := 2) (q := (RX0, TX0, 6)) rfl (by decide) mw_147, List.forall_mem_cons.mpr ⟨iv_fok_of (own := RX6) (idx := 230) (ci := 0) (j := 3) (q := (RX0, TX0, 6)) rfl (by decide) mw_148, List.forall_mem_cons.mpr ⟨iv_fok_of (own := RX6) (idx := 239) (ci := 3) (j := 4) (q := (RX3, TX3, 6)) rfl (by decide) mw_149, fun _ h => absurd h List.not_mem_nil⟩⟩⟩⟩⟩⟩⟩⟩⟩⟩⟩⟩⟩⟩⟩⟩⟩⟩⟩⟩⟩⟩⟩⟩⟩⟩⟩⟩⟩
theorem skX6 : ∀ e ∈ csX6, Cond.constant RX6 e.1 e.2 ∈ iv_g := fun _ h => absurd h List.not_mem_nil
theorem ceX6_51 : iv_cokB RX6 51 2 none true mJ7_fill_53178 = true := iv_cok_S (own := RX6) (idx := 51) (n := 2) (vd := true) (ym := mJ7_fill_53178) (by decide) (by decide) (by decide) mw_150 mw_151 (by decide) (by decide +kernel) mw_153 (Or.inl mw_152)
theorem ceX6_57 : iv_cokB RX6 57 2 none false mX6_isInTown = true := iv_cok_S (own := RX6) (idx := 57) (n := 2) (vd := false) (ym := mX6_isInTown) (by decide) (by decide) (by decide) mw_154 mw_155 (by decide) (by decide +kernel) mw_157 (Or.inl mw_156)
theorem ceX6_61 : iv_cokB RX6 61 3 none false mX6_isWithin = true := iv_cok_S (own := RX6) (idx := 61) (n := 3) (vd := false) (ym := mX6_isWithin) (by decide) (by decide) (by decide) mw_7 mw_8 (by decide) (by decide +kernel) mw_9 (Or.inl mw_158)
theorem ceX6_65 : iv_cokB RX6 65 6 (some 0) false mX0_add = true := iv_cok_V (own := RX6) (idx := 65) (n := 6) (ci := 0) (vd := false) (ym := mX0_add) (by decide) (by decide) (by decide) mw_159 mw_160 (by decide) (by decide +kernel) mw_162 mw_163 mw_161 rfl
theorem ceX6_69 : iv_cokB RX6 69 2 (some 6) false mX6_hasSlotLeft = true := iv_cok_V (own := RX6) (idx := 69) (n := 2) (ci := 6) (vd := false) (ym := mX6_hasSlotLeft) (by decide) (by decide) (by decide) mw_164 mw_165 (by decide) (by decide +kernel) mw_167 mw_168 mw_166 rfl
theorem ceX6_73 : iv_cokB RX6 73 3 (some 3) false mX3_add = true := iv_cok_V (own := RX6) (idx := 73) (n := 3) (ci := 3) (vd := false) (ym := mX3_add) (by decide) (by decide) (by decide) mw_169 mw_170 (by decide) (by decide +kernel) mw_172 mw_173 mw_171 rfl
theorem ceX6_82 : iv_cokB RX6 82 2 (some 3) false mX3_has = true := iv_cok_V (own := RX6) (idx := 82) (n := 2) (ci := 3) (vd := false) (ym := mX3_has) (by decide) (by decide) (by decide) mw_174 mw_175 (by decide) (by decide +kernel) mw_177 mw_178 mw_176 rfl
theorem ceX6_89 : iv_cokB RX6 89 2 (some 6) false mX6_givenIn = true := iv_cok_V (own := RX6) (idx := 89) (n := 2) (ci := 6) (vd := false) (ym := mX6_givenIn) (by decide) (by decide) (by decide) mw_179 mw_180 (by decide) (by decide +kernel) mw_182 mw_183 mw_181 rfl
theorem ceX6_96 : iv_cokB RX6 96 2 (some 0) false mX0_has = true := iv_cok_V (own := RX6) (idx := 96) (n := 2) (ci := 0) (vd := false) (ym := mX0_has) (by decide) (by decide) (by decide) mw_184 mw_185 (by decide) (by decide +kernel) mw_187 mw_188 mw_186 rfl
theorem ceX6_97 : iv_cokB RX6 97 3 (some 6) false mX6_canComeBack = true := iv_cok_V (own := RX6) (idx := 97) (n := 3) (ci := 6) (vd := false) (ym := mX6_canComeBack) (by decide) (by decide) (by decide) mw_189 mw_190 (by decide) (by decide +kernel) mw_192 mw_193 mw_191 rfl
theorem ceX6_100 : iv_cokB RX6 100 2 (some 6) false mX6_take = true := iv_cok_V (own := RX6) (idx := 100) (n := 2) (ci := 6) (vd := false) (ym := mX6_take) (by decide) (by decide) (by decide) mw_194 mw_195 (by decide) (by decide +kernel) mw_197 mw_198 mw_196 rfl
theorem ceX6_103 : iv_cokB RX6 103 4 (some 3) true mX3_comeBack = true := iv_cok_V (own := RX6) (idx := 103) (n := 4) (ci := 3) (vd := true) (ym := mX3_comeBack) (by decide) (by decide) (by decide) mw_199 mw_200 (by decide) (by decide +kernel) mw_202 mw_203 mw_201 rfl
theorem ceX6_107 : iv_cokB RX6 107 2 (some 3) false mX3_countIn = true := iv_cok_V (own := RX6) (idx := 107) (n := 2) (ci := 3) (vd := false) (ym := mX3_countIn) (by decide) (by decide) (by decide) mw_204 mw_205 (by decide) (by decide +kernel) mw_207 mw_208 mw_206 rfl
theorem ceX6_110 : iv_cokB RX6 110 2 (some 3) false mX3_isOut = true := iv_cok_V (own := RX6) (idx := 110) (n := 2) (ci := 3) (vd := false) (ym := mX3_isOut) (by decide) (by decide) (by decide) mw_209 mw_210 (by decide) (by decide +kernel) mw_212 mw_213 mw_211 rfl
theorem ceX6_117 : iv_cokB RX6 117 1 (some 6) true mX6_passHour = true := iv_cok_V (own := RX6) (idx := 117) (n := 1) (ci := 6) (vd := true) (ym := mX6_passHour) (by decide) (by decide) (by decide) mw_214 mw_215 (by decide) (by decide +kernel) mw_217 mw_218 mw_216 rfl
theorem ceX6_120 : iv_cokB RX6 120 1 (some 0) false mX0_size = true := iv_cok_V (own := RX6) (idx := 120) (n := 1) (ci := 0) (vd := false) (ym := mX0_size) (by decide) (by decide) (by decide) mw_219 mw_220 (by decide) (by decide +kernel) mw_222 mw_223 mw_221 rfl
theorem ceX6_126 : iv_cokB RX6 126 1 (some 3) false mX3_countSick = true := iv_cok_V (own := RX6) (idx := 126) (n := 1) (ci := 3) (vd := false) (ym := mX3_countSick) (by decide) (by decide) (by decide) mw_224 mw_225 (by decide) (by decide +kernel) mw_227 mw_228 mw_226 rfl
theorem ceX6_129 : iv_cokB RX6 129 2 (some 3) false mX3_countOld = true := iv_cok_V (own := RX6) (idx := 129) (n := 2) (ci := 3) (vd := false) (ym := mX3_countOld) (by decide) (by decide) (by decide) mw_229 mw_230 (by decide) (by decide +kernel) mw_232 mw_233 mw_231 rfl
theorem ceX6_143 : iv_cokB RX6 143 1 (some 6) false mX6_priceNow = true := iv_cok_V (own := RX6) (idx := 143) (n := 1) (ci := 6) (vd := false) (ym := mX6_priceNow) (by decide) (by decide) (by decide) mw_234 mw_235 (by decide) (by decide +kernel) mw_237 mw_238 mw_236 rfl
theorem ceX6_159 : iv_cokB RX6 159 2 (some 6) false mX6_isReady = true := iv_cok_V (own := RX6) (idx := 159) (n := 2) (ci := 6) (vd := false) (ym := mX6_isReady) (by decide) (by decide) (by decide) mw_239 mw_240 (by decide) (by decide +kernel) mw_242 mw_243 mw_241 rfl
theorem ceX6_164 : iv_cokB RX6 164 2 (some 6) false mX6_countReadyIn = true := iv_cok_V (own := RX6) (idx := 164) (n := 2) (ci := 6) (vd := false) (ym := mX6_countReadyIn) (by decide) (by decide) (by decide) mw_244 mw_245 (by decide) (by decide +kernel) mw_247 mw_248 mw_246 rfl
theorem ceX6_173 : iv_cokB RX6 173 2 (some 1) false mX1_addNeed = true := iv_cok_V (own := RX6) (idx := 173) (n := 2) (ci := 1) (vd := false) (ym := mX1_addNeed) (by decide) (by decide) (by decide) mw_249 mw_250 (by decide) (by decide +kernel) mw_252 mw_253 mw_251 rfl
theorem ceX6_176 : iv_cokB RX6 176 4 (some 1) false mX1_keepLeast = true := iv_cok_V (own := RX6) (idx := 176) (n := 4) (ci := 1) (vd := false) (ym := mX1_keepLeast) (by decide) (by decide) (by decide) mw_254 mw_255 (by decide) (by decide +kernel) mw_257 mw_258 mw_256 rfl
theorem ceX6_186 : iv_cokB RX6 186 2 (some 5) true mX5_begin = true := iv_cok_V (own := RX6) (idx := 186) (n := 2) (ci := 5) (vd := true) (ym := mX5_begin) (by decide) (by decide) (by decide) mw_259 mw_260 (by decide) (by decide +kernel) mw_262 mw_263 mw_261 rfl
theorem ceX6_190 : iv_cokB RX6 190 3 (some 5) true mX5_addSurplus = true := iv_cok_V (own := RX6) (idx := 190) (n := 3) (ci := 5) (vd := true) (ym := mX5_addSurplus) (by decide) (by decide) (by decide) mw_264 mw_265 (by decide) (by decide +kernel) mw_267 mw_268 mw_266 rfl
theorem ceX6_197 : iv_cokB RX6 197 2 (some 5) false mX5_keepShortest = true := iv_cok_V (own := RX6) (idx := 197) (n := 2) (ci := 5) (vd := false) (ym := mX5_keepShortest) (by decide) (by decide) (by decide) mw_269 mw_270 (by decide) (by decide +kernel) mw_272 mw_273 mw_271 rfl
theorem ceX6_203 : iv_cokB RX6 203 3 (some 4) false mX4_add = true := iv_cok_V (own := RX6) (idx := 203) (n := 3) (ci := 4) (vd := false) (ym := mX4_add) (by decide) (by decide) (by decide) mw_10 mw_11 (by decide) (by decide +kernel) mw_13 mw_14 mw_274 rfl
theorem ceX6_204 : iv_cokB RX6 204 3 (some 2) false mX2_keepBest = true := iv_cok_V (own := RX6) (idx := 204) (n := 3) (ci := 2) (vd := false) (ym := mX2_keepBest) (by decide) (by decide) (by decide) mw_275 mw_276 (by decide) (by decide +kernel) mw_278 mw_279 mw_277 rfl
theorem ceX6_213 : iv_cokB RX6 213 3 (some 3) false mX3_isFit = true := iv_cok_V (own := RX6) (idx := 213) (n := 3) (ci := 3) (vd := false) (ym := mX3_isFit) (by decide) (by decide) (by decide) mw_280 mw_281 (by decide) (by decide +kernel) mw_283 mw_284 mw_282 rfl
theorem ceX6_216 : iv_cokB RX6 216 3 (some 3) false mX3_former = true := iv_cok_V (own := RX6) (idx := 216) (n := 3) (ci := 3) (vd := false) (ym := mX3_former) (by decide) (by decide) (by decide) mw_285 mw_286 (by decide) (by decide +kernel) mw_288 mw_289 mw_287 rfl
theorem ceX6_219 : iv_cokB RX6 219 2 none false mJ9_floorMod_7cf53 = true := iv_cok_S (own := RX6) (idx := 219) (n := 2) (vd := false) (ym := mJ9_floorMod_7cf53) (by decide) (by decide) (by decide) mw_42 mw_43 (by decide) (by decide +kernel) mw_45 (Or.inl mw_290)
theorem ceX6_224 : iv_cokB RX6 224 3 (some 6) true mX6_chargeIn = true := iv_cok_V (own := RX6) (idx := 224) (n := 3) (ci := 6) (vd := true) (ym := mX6_chargeIn) (by decide) (by decide) (by decide) mw_291 mw_292 (by decide) (by decide +kernel) mw_294 mw_295 mw_293 rfl
theorem ceX6_233 : iv_cokB RX6 233 2 (some 6) false mX6_nextToCharge = true := iv_cok_V (own := RX6) (idx := 233) (n := 2) (ci := 6) (vd := false) (ym := mX6_nextToCharge) (by decide) (by decide) (by decide) mw_296 mw_297 (by decide) (by decide +kernel) mw_299 mw_300 mw_298 rfl
theorem ceX6_236 : iv_cokB RX6 236 4 (some 3) true mX3_load = true := iv_cok_V (own := RX6) (idx := 236) (n := 4) (ci := 3) (vd := true) (ym := mX3_load) (by decide) (by decide) (by decide) mw_301 mw_302 (by decide) (by decide +kernel) mw_304 mw_305 mw_303 rfl
theorem ckX6 : ∀ e ∈ cvX6, iv_cokB RX6 e.1 e.2.1 e.2.2.1 e.2.2.2.1 e.2.2.2.2 = true := List.forall_mem_cons.mpr ⟨ceX6_51, List.forall_mem_cons.mpr ⟨ceX6_57, List.forall_mem_cons.mpr ⟨ceX6_61, List.forall_mem_cons.mpr ⟨ceX6_65, List.forall_mem_cons.mpr ⟨ceX6_69, List.forall_mem_cons.mpr ⟨ceX6_73, List.forall_mem_cons.mpr ⟨ceX6_82, List.forall_mem_cons.mpr ⟨ceX6_89, List.forall_mem_cons.mpr ⟨ceX6_96, List.forall_mem_cons.mpr ⟨ceX6_97, List.forall_mem_cons.mpr ⟨ceX6_100, List.forall_mem_cons.mpr ⟨ceX6_103, List.forall_mem_cons.mpr ⟨ceX6_107, List.forall_mem_cons.mpr ⟨ceX6_110, List.forall_mem_cons.mpr ⟨ceX6_117, List.forall_mem_cons.mpr ⟨ceX6_120, List.forall_mem_cons.mpr ⟨ceX6_126, List.forall_mem_cons.mpr ⟨ceX6_129, List.forall_mem_cons.mpr ⟨ceX6_143, List.forall_mem_cons.mpr ⟨ceX6_159, List.forall_mem_cons.mpr ⟨ceX6_164, List.forall_mem_cons.mpr ⟨ceX6_173, List.forall_mem_cons.mpr ⟨ceX6_176, List.forall_mem_cons.mpr ⟨ceX6_186, List.forall_mem_cons.mpr ⟨ceX6_190, List.forall_mem_cons.mpr ⟨ceX6_197, List.forall_mem_cons.mpr ⟨ceX6_203, List.forall_mem_cons.mpr ⟨ceX6_204, List.forall_mem_cons.mpr ⟨ceX6_213, List.forall_mem_cons.mpr ⟨ceX6_216, List.forall_mem_cons.mpr ⟨ceX6_219, List.forall_mem_cons.mpr ⟨ceX6_224, List.forall_mem_cons.mpr ⟨ceX6_233, List.forall_mem_cons.mpr ⟨ceX6_236, fun _ h => absurd h List.not_mem_nil⟩⟩⟩⟩⟩⟩⟩⟩⟩⟩⟩⟩⟩⟩⟩⟩⟩⟩⟩⟩⟩⟩⟩⟩⟩⟩⟩⟩⟩⟩⟩⟩⟩⟩
theorem okX6 : iv_ok RX6 tbX6 := iv_ok_of fkX6 skX6 ckX6
theorem fkX7 : ∀ e ∈ flX7, iv_fokB RX7 e.1 e.2.1 e.2.2 = true := List.forall_mem_cons.mpr ⟨iv_fok_of (own := RX7) (idx := 9) (ci := 7) (j := 0) (q := (RX7, TX7, 30)) rfl (by decide) mw_306, List.forall_mem_cons.mpr ⟨iv_fok_of (own := RX7) (idx := 13) (ci := 7) (j := 2) (q := (RX7, TX7, 30)) rfl (by decide) mw_307, List.forall_mem_cons.mpr ⟨iv_fok_of (own := RX7) (idx := 16) (ci := 7) (j := 3) (q := (RX7, TX7, 30)) rfl (by decide) mw_308, List.forall_mem_cons.mpr ⟨iv_fok_of (own := RX7) (idx := 19) (ci := 7) (j := 4) (q := (RX7, TX7, 30)) rfl (by decide) mw_309, List.forall_mem_cons.mpr ⟨iv_fok_of (own := RX7) (idx := 22) (ci := 7) (j := 5) (q := (RX7, TX7, 30)) rfl (by decide) mw_310, List.forall_mem_cons.mpr ⟨iv_fok_of (own := RX7) (idx := 26) (ci := 7) (j := 7) (q := (RX7, TX7, 30)) rfl (by decide) mw_311, List.forall_mem_cons.mpr ⟨iv_fok_of (own := RX7) (idx := 29) (ci := 7) (j := 8) (q := (RX7, TX7, 30)) rfl (by decide) mw_312, List.forall_mem_cons.mpr ⟨iv_fok_of (own := RX7) (idx := 32) (ci := 7) (j := 10) (q := (RX7, TX7, 30)) rfl (by decide) mw_313, List.forall_mem_cons.mpr ⟨iv_fok_of (own := RX7) (idx := 35) (ci := 7) (j := 12) (q := (RX7, TX7, 30)) rfl (by decide) mw_314, List.forall_mem_cons.mpr ⟨iv_fok_of (own := RX7) (idx := 38) (ci := 7) (j := 14) (q := (RX7, TX7, 30)) rfl (by decide) mw_315, List.forall_mem_cons.mpr ⟨iv_fok_of (own := RX7) (idx := 41) (ci := 7) (j := 16) (q := (RX7, TX7, 30)) rfl (by decide) mw_316, List.forall_mem_cons.mpr ⟨iv_fok_of (own := RX7) (idx := 44) (ci := 7) (j := 17) (q := (RX7, TX7, 30)) rfl (by decide) mw_317, List.forall_mem_cons.mpr ⟨iv_fok_of (own := RX7) (idx := 47) (ci := 7) (j := 19) (q := (RX7, TX7, 30)) rfl (by decide) mw_318, List.forall_mem_cons.mpr ⟨iv_fok_of (own := RX7) (idx := 50) (ci := 7) (j := 20) (q := (RX7, TX7, 30)) rfl (by decide) mw_319, List.forall_mem_cons.mpr ⟨iv_fok_of (own := RX7) (idx := 53) (ci := 7) (j := 24) (q := (RX7, TX7, 30)) rfl (by decide) mw_320, List.forall_mem_cons.mpr ⟨iv_fok_of (own := RX7) (idx := 56) (ci := 7) (j := 25) (q := (RX7, TX7, 30)) rfl (by decide) mw_321, List.forall_mem_cons.mpr ⟨iv_fok_of (own := RX7) (idx := 59) (ci := 7) (j := 26) (q := (RX7, TX7, 30)) rfl (by decide) mw_322, List.forall_mem_cons.mpr ⟨iv_fok_of (own := RX7) (idx := 62) (ci := 7) (j := 27) (q := (RX7, TX7, 30)) rfl (by decide) mw_323, List.forall_mem_cons.mpr ⟨iv_fok_of (own := RX7) (idx := 65) (ci := 7) (j := 28) (q := (RX7, TX7, 30)) rfl (by decide) mw_324, List.forall_mem_cons.mpr ⟨iv_fok_of (own := RX7) (idx := 68) (ci := 7) (j := 23) (q := (RX7, TX7, 30)) rfl (by decide) mw_325, List.forall_mem_cons.mpr ⟨iv_fok_of (own := RX7) (idx := 72) (ci := 7) (j := 1) (q := (RX7, TX7, 30)) rfl (by decide) mw_326, List.forall_mem_cons.mpr ⟨iv_fok_of (own := RX7) (idx := 79) (ci := 7) (j := 6) (q := (RX7, TX7, 30)) rfl (by decide) mw_327, List.forall_mem_cons.mpr ⟨iv_fok_of (own := RX7) (idx := 119) (ci := 7) (j := 9) (q := (RX7, TX7, 30)) rfl (by decide) mw_328, List.forall_mem_cons.mpr ⟨iv_fok_of (own := RX7) (idx := 137) (ci := 7) (j := 11) (q := (RX7, TX7, 30)) rfl (by decide) mw_329, List.forall_mem_cons.mpr ⟨iv_fok_of (own := RX7) (idx := 140) (ci := 7) (j := 18) (q := (RX7, TX7, 30)) rfl (by decide) mw_330, List.forall_mem_cons.mpr ⟨iv_fok_of (own := RX7) (idx := 143) (ci := 7) (j := 21) (q := (RX7, TX7, 30)) rfl (by decide) mw_331, List.forall_mem_cons.mpr ⟨iv_fok_of (own := RX7) (idx := 147) (ci := 7) (j := 13) (q := (RX7, TX7, 30)) rfl (by decide) mw_332, List.forall_mem_cons.mpr ⟨iv_fok_of (own := RX7) (idx := 153) (ci := 7) (j := 29) (q := (RX7, TX7, 30)) rfl (by decide) mw_333, List.forall_mem_cons.mpr ⟨iv_fok_of (own := RX7) (idx := 169) (ci := 7) (j := 15) (q := (RX7, TX7, 30)) rfl (by decide) mw_334, List.forall_mem_cons.mpr ⟨iv_fok_of (own := RX7) (idx := 181) (ci := 7) (j := 22) (q := (RX7, TX7, 30)) rfl (by decide) mw_335, fun _ h => absurd h List.not_mem_nil⟩⟩⟩⟩⟩⟩⟩⟩⟩⟩⟩⟩⟩⟩⟩⟩⟩⟩⟩⟩⟩⟩⟩⟩⟩⟩⟩⟩⟩⟩
theorem skX7 : ∀ e ∈ csX7, Cond.constant RX7 e.1 e.2 ∈ iv_g := List.forall_mem_cons.mpr ⟨mw_336, List.forall_mem_cons.mpr ⟨mw_337, fun _ h => absurd h List.not_mem_nil⟩⟩
theorem ceX7_75 : iv_cokB RX7 75 3 none false mX7_in = true := iv_cok_S (own := RX7) (idx := 75) (n := 3) (vd := false) (ym := mX7_in) (by decide) (by decide) (by decide) mw_338 mw_339 (by decide) (by decide +kernel) mw_341 (Or.inl mw_340)
theorem ceX7_82 : iv_cokB RX7 82 2 (some 7) false mX7_inside = true := iv_cok_V (own := RX7) (idx := 82) (n := 2) (ci := 7) (vd := false) (ym := mX7_inside) (by decide) (by decide) (by decide) mw_342 mw_343 (by decide) (by decide +kernel) mw_345 mw_346 mw_344 rfl
theorem ceX7_86 : iv_cokB RX7 86 2 (some 7) false mX7_isFit = true := iv_cok_V (own := RX7) (idx := 86) (n := 2) (ci := 7) (vd := false) (ym := mX7_isFit) (by decide) (by decide) (by decide) mw_347 mw_348 (by decide) (by decide +kernel) mw_350 mw_351 mw_349 rfl
theorem ceX7_90 : iv_cokB RX7 90 2 (some 7) false mX7_isReady = true := iv_cok_V (own := RX7) (idx := 90) (n := 2) (ci := 7) (vd := false) (ym := mX7_isReady) (by decide) (by decide) (by decide) mw_352 mw_353 (by decide) (by decide +kernel) mw_355 mw_356 mw_354 rfl
theorem ceX7_93 : iv_cokB RX7 93 3 (some 7) false mX7_isAhead = true := iv_cok_V (own := RX7) (idx := 93) (n := 3) (ci := 7) (vd := false) (ym := mX7_isAhead) (by decide) (by decide) (by decide) mw_357 mw_358 (by decide) (by decide +kernel) mw_360 mw_361 mw_359 rfl
theorem ceX7_97 : iv_cokB RX7 97 2 (some 7) false mX7_isCabinet = true := iv_cok_V (own := RX7) (idx := 97) (n := 2) (ci := 7) (vd := false) (ym := mX7_isCabinet) (by decide) (by decide) (by decide) mw_362 mw_363 (by decide) (by decide +kernel) mw_365 mw_366 mw_364 rfl
theorem ceX7_100 : iv_cokB RX7 100 2 (some 7) false mX7_hasSlot = true := iv_cok_V (own := RX7) (idx := 100) (n := 2) (ci := 7) (vd := false) (ym := mX7_hasSlot) (by decide) (by decide) (by decide) mw_367 mw_368 (by decide) (by decide +kernel) mw_370 mw_371 mw_369 rfl
theorem ceX7_104 : iv_cokB RX7 104 1 none false mX7_leastOf = true := iv_cok_S (own := RX7) (idx := 104) (n := 1) (vd := false) (ym := mX7_leastOf) (by decide) (by decide) (by decide) mw_372 mw_373 (by decide) (by decide +kernel) mw_375 (Or.inl mw_374)
theorem ceX7_107 : iv_cokB RX7 107 1 none false mX7_mostOf = true := iv_cok_S (own := RX7) (idx := 107) (n := 1) (vd := false) (ym := mX7_mostOf) (by decide) (by decide) (by decide) mw_376 mw_377 (by decide) (by decide +kernel) mw_379 (Or.inl mw_378)
theorem ceX7_110 : iv_cokB RX7 110 2 (some 7) false mX7_isPack = true := iv_cok_V (own := RX7) (idx := 110) (n := 2) (ci := 7) (vd := false) (ym := mX7_isPack) (by decide) (by decide) (by decide) mw_380 mw_381 (by decide) (by decide +kernel) mw_383 mw_384 mw_382 rfl
theorem ceX7_113 : iv_cokB RX7 113 2 (some 7) false mX7_given = true := iv_cok_V (own := RX7) (idx := 113) (n := 2) (ci := 7) (vd := false) (ym := mX7_given) (by decide) (by decide) (by decide) mw_385 mw_386 (by decide) (by decide +kernel) mw_388 mw_389 mw_387 rfl
theorem ceX7_116 : iv_cokB RX7 116 3 (some 7) false mX7_mayCome = true := iv_cok_V (own := RX7) (idx := 116) (n := 3) (ci := 7) (vd := false) (ym := mX7_mayCome) (by decide) (by decide) (by decide) mw_390 mw_391 (by decide) (by decide +kernel) mw_393 mw_394 mw_392 rfl
theorem ceX7_122 : iv_cokB RX7 122 2 (some 7) false mX7_line = true := iv_cok_V (own := RX7) (idx := 122) (n := 2) (ci := 7) (vd := false) (ym := mX7_line) (by decide) (by decide) (by decide) mw_395 mw_396 (by decide) (by decide +kernel) mw_398 mw_399 mw_397 rfl
theorem ceX7_125 : iv_cokB RX7 125 2 (some 7) false mX7_readyIn = true := iv_cok_V (own := RX7) (idx := 125) (n := 2) (ci := 7) (vd := false) (ym := mX7_readyIn) (by decide) (by decide) (by decide) mw_400 mw_401 (by decide) (by decide +kernel) mw_403 mw_404 mw_402 rfl
theorem ceX7_128 : iv_cokB RX7 128 2 none false mJ9_min_7cf53 = true := iv_cok_S (own := RX7) (idx := 128) (n := 2) (vd := false) (ym := mJ9_min_7cf53) (by decide) (by decide) (by decide) mw_46 mw_47 (by decide) (by decide +kernel) mw_49 (Or.inl mw_405)
theorem ceX7_134 : iv_cokB RX7 134 1 (some 7) true mX7_goHour = true := iv_cok_V (own := RX7) (idx := 134) (n := 1) (ci := 7) (vd := true) (ym := mX7_goHour) (by decide) (by decide) (by decide) mw_406 mw_407 (by decide) (by decide +kernel) mw_409 mw_410 mw_408 rfl
theorem ceX7_150 : iv_cokB RX7 150 1 none false mJ9_abs_0f7a4 = true := iv_cok_S (own := RX7) (idx := 150) (n := 1) (vd := false) (ym := mJ9_abs_0f7a4) (by decide) (by decide) (by decide) mw_95 mw_96 (by decide) (by decide +kernel) mw_98 (Or.inl mw_411)
theorem ceX7_156 : iv_cokB RX7 156 4 none false mX7_away = true := iv_cok_S (own := RX7) (idx := 156) (n := 4) (vd := false) (ym := mX7_away) (by decide) (by decide) (by decide) mw_412 mw_413 (by decide) (by decide +kernel) mw_415 (Or.inl mw_414)
theorem ceX7_160 : iv_cokB RX7 160 8 (some 7) true mX7_goOn = true := iv_cok_V (own := RX7) (idx := 160) (n := 8) (ci := 7) (vd := true) (ym := mX7_goOn) (by decide) (by decide) (by decide) mw_416 mw_417 (by decide) (by decide +kernel) mw_419 mw_420 mw_418 rfl
theorem ceX7_164 : iv_cokB RX7 164 1 none false mJ6_bitCount_0f7a4 = true := iv_cok_S (own := RX7) (idx := 164) (n := 1) (vd := false) (ym := mJ6_bitCount_0f7a4) (by decide) (by decide) (by decide) mw_62 mw_63 (by decide) (by decide +kernel) mw_65 (Or.inl mw_421)
theorem ceX7_172 : iv_cokB RX7 172 1 none false mJ6_numberOfTrailingZeros_0f7a4 = true := iv_cok_S (own := RX7) (idx := 172) (n := 1) (vd := false) (ym := mJ6_numberOfTrailingZeros_0f7a4) (by decide) (by decide) (by decide) mw_422 mw_423 (by decide) (by decide +kernel) mw_425 (Or.inl mw_424)
theorem ceX7_175 : iv_cokB RX7 175 2 (some 7) false mX7_sumOf = true := iv_cok_V (own := RX7) (idx := 175) (n := 2) (ci := 7) (vd := false) (ym := mX7_sumOf) (by decide) (by decide) (by decide) mw_426 mw_427 (by decide) (by decide +kernel) mw_429 mw_430 mw_428 rfl
theorem ceX7_178 : iv_cokB RX7 178 2 none false mX7_isFirst = true := iv_cok_S (own := RX7) (idx := 178) (n := 2) (vd := false) (ym := mX7_isFirst) (by decide) (by decide) (by decide) mw_431 mw_432 (by decide) (by decide +kernel) mw_434 (Or.inl mw_433)
theorem ckX7 : ∀ e ∈ cvX7, iv_cokB RX7 e.1 e.2.1 e.2.2.1 e.2.2.2.1 e.2.2.2.2 = true := List.forall_mem_cons.mpr ⟨ceX7_75, List.forall_mem_cons.mpr ⟨ceX7_82, List.forall_mem_cons.mpr ⟨ceX7_86, List.forall_mem_cons.mpr ⟨ceX7_90, List.forall_mem_cons.mpr ⟨ceX7_93, List.forall_mem_cons.mpr ⟨ceX7_97, List.forall_mem_cons.mpr ⟨ceX7_100, List.forall_mem_cons.mpr ⟨ceX7_104, List.forall_mem_cons.mpr ⟨ceX7_107, List.forall_mem_cons.mpr ⟨ceX7_110, List.forall_mem_cons.mpr ⟨ceX7_113, List.forall_mem_cons.mpr ⟨ceX7_116, List.forall_mem_cons.mpr ⟨ceX7_122, List.forall_mem_cons.mpr ⟨ceX7_125, List.forall_mem_cons.mpr ⟨ceX7_128, List.forall_mem_cons.mpr ⟨ceX7_134, List.forall_mem_cons.mpr ⟨ceX7_150, List.forall_mem_cons.mpr ⟨ceX7_156, List.forall_mem_cons.mpr ⟨ceX7_160, List.forall_mem_cons.mpr ⟨ceX7_164, List.forall_mem_cons.mpr ⟨ceX7_172, List.forall_mem_cons.mpr ⟨ceX7_175, List.forall_mem_cons.mpr ⟨ceX7_178, fun _ h => absurd h List.not_mem_nil⟩⟩⟩⟩⟩⟩⟩⟩⟩⟩⟩⟩⟩⟩⟩⟩⟩⟩⟩⟩⟩⟩⟩
theorem okX7 : iv_ok RX7 tbX7 := iv_ok_of fkX7 skX7 ckX7
theorem fkJ6 : ∀ e ∈ flJ6, iv_fokB RJ6 e.1 e.2.1 e.2.2 = true := fun _ h => absurd h List.not_mem_nil
theorem skJ6 : ∀ e ∈ csJ6, Cond.constant RJ6 e.1 e.2 ∈ iv_g := List.forall_mem_cons.mpr ⟨mw_435, List.forall_mem_cons.mpr ⟨mw_436, List.forall_mem_cons.mpr ⟨mw_437, List.forall_mem_cons.mpr ⟨mw_438, fun _ h => absurd h List.not_mem_nil⟩⟩⟩⟩
theorem ckJ6 : ∀ e ∈ cvJ6, iv_cokB RJ6 e.1 e.2.1 e.2.2.1 e.2.2.2.1 e.2.2.2.2 = true := fun _ h => absurd h List.not_mem_nil
theorem okJ6 : iv_ok RJ6 tbJ6 := iv_ok_of fkJ6 skJ6 ckJ6
theorem fkJ9 : ∀ e ∈ flJ9, iv_fokB RJ9 e.1 e.2.1 e.2.2 = true := fun _ h => absurd h List.not_mem_nil
theorem skJ9 : ∀ e ∈ csJ9, Cond.constant RJ9 e.1 e.2 ∈ iv_g := fun _ h => absurd h List.not_mem_nil
theorem ckJ9 : ∀ e ∈ cvJ9, iv_cokB RJ9 e.1 e.2.1 e.2.2.1 e.2.2.2.1 e.2.2.2.2 = true := fun _ h => absurd h List.not_mem_nil
theorem okJ9 : iv_ok RJ9 tbJ9 := iv_ok_of fkJ9 skJ9 ckJ9
theorem fkJ7 : ∀ e ∈ flJ7, iv_fokB RJ7 e.1 e.2.1 e.2.2 = true := fun _ h => absurd h List.not_mem_nil
theorem skJ7 : ∀ e ∈ csJ7, Cond.constant RJ7 e.1 e.2 ∈ iv_g := fun _ h => absurd h List.not_mem_nil
theorem ckJ7 : ∀ e ∈ cvJ7, iv_cokB RJ7 e.1 e.2.1 e.2.2.1 e.2.2.2.1 e.2.2.2.2 = true := fun _ h => absurd h List.not_mem_nil
theorem okJ7 : iv_ok RJ7 tbJ7 := iv_ok_of fkJ7 skJ7 ckJ7
end
