-- ===== PART A: goes FIRST, ahead of the names: the tables' words, and 'selects' of the private methods out of them =====
/-- a private method of a class that the tables say can be made, by its rows of tables_1 -/
def lw_okq (q : MethodName × Nat) : Prop := (q.1.cls ≠ "java/lang/invoke/MethodHandle" ∧ q.1.cls ≠ "java/lang/invoke/VarHandle") ∧ Cond.instantiable q.1.cls q.2 ∈ tables_1 ∧ Cond.privateMethod q.1 ∈ tables_1 ∧ Cond.instanceMethod q.1 ∈ tables_1
theorem lw_p0 : lw_okq (⟨"SwapGo", "hasSlotLeft", "(I)Z"⟩, 8) := ⟨⟨by decide +kernel, by decide +kernel⟩, List.mem_of_getElem? (i := 17) (by decide +kernel), List.mem_of_getElem? (i := 254) (by decide +kernel), List.mem_of_getElem? (i := 255) (by decide +kernel)⟩
theorem lw_p1 : lw_okq (⟨"SwapGo", "givenIn", "(I)I"⟩, 8) := ⟨⟨by decide +kernel, by decide +kernel⟩, List.mem_of_getElem? (i := 17) (by decide +kernel), List.mem_of_getElem? (i := 296) (by decide +kernel), List.mem_of_getElem? (i := 297) (by decide +kernel)⟩
theorem lw_p2 : lw_okq (⟨"SwapGo", "isReady", "(I)Z"⟩, 8) := ⟨⟨by decide +kernel, by decide +kernel⟩, List.mem_of_getElem? (i := 17) (by decide +kernel), List.mem_of_getElem? (i := 300) (by decide +kernel), List.mem_of_getElem? (i := 301) (by decide +kernel)⟩
theorem lw_p3 : lw_okq (⟨"SwapGo", "canComeBack", "(II)Z"⟩, 8) := ⟨⟨by decide +kernel, by decide +kernel⟩, List.mem_of_getElem? (i := 17) (by decide +kernel), List.mem_of_getElem? (i := 320) (by decide +kernel), List.mem_of_getElem? (i := 321) (by decide +kernel)⟩
theorem lw_p4 : lw_okq (⟨"SwapGo", "passHour", "()V"⟩, 8) := ⟨⟨by decide +kernel, by decide +kernel⟩, List.mem_of_getElem? (i := 17) (by decide +kernel), List.mem_of_getElem? (i := 341) (by decide +kernel), List.mem_of_getElem? (i := 342) (by decide +kernel)⟩
theorem lw_p5 : lw_okq (⟨"SwapGo", "priceNow", "()I"⟩, 8) := ⟨⟨by decide +kernel, by decide +kernel⟩, List.mem_of_getElem? (i := 17) (by decide +kernel), List.mem_of_getElem? (i := 345) (by decide +kernel), List.mem_of_getElem? (i := 346) (by decide +kernel)⟩
theorem lw_p6 : lw_okq (⟨"SwapGo", "chargeIn", "(II)V"⟩, 8) := ⟨⟨by decide +kernel, by decide +kernel⟩, List.mem_of_getElem? (i := 17) (by decide +kernel), List.mem_of_getElem? (i := 356) (by decide +kernel), List.mem_of_getElem? (i := 357) (by decide +kernel)⟩
theorem lw_p7 : lw_okq (⟨"SwapGo", "countReadyIn", "(I)I"⟩, 8) := ⟨⟨by decide +kernel, by decide +kernel⟩, List.mem_of_getElem? (i := 17) (by decide +kernel), List.mem_of_getElem? (i := 360) (by decide +kernel), List.mem_of_getElem? (i := 361) (by decide +kernel)⟩
theorem lw_p8 : lw_okq (⟨"SwapGo", "nextToCharge", "(I)I"⟩, 8) := ⟨⟨by decide +kernel, by decide +kernel⟩, List.mem_of_getElem? (i := 17) (by decide +kernel), List.mem_of_getElem? (i := 364) (by decide +kernel), List.mem_of_getElem? (i := 365) (by decide +kernel)⟩
theorem lw_p9 : lw_okq (⟨"SwapGo$ChargePlan", "begin", "([II)V"⟩, 7) := ⟨⟨by decide +kernel, by decide +kernel⟩, List.mem_of_getElem? (i := 116) (by decide +kernel), List.mem_of_getElem? (i := 411) (by decide +kernel), List.mem_of_getElem? (i := 412) (by decide +kernel)⟩
theorem lw_p10 : lw_okq (⟨"SwapGo$ChargePlan", "cheapestUnfilled", "()I"⟩, 7) := ⟨⟨by decide +kernel, by decide +kernel⟩, List.mem_of_getElem? (i := 116) (by decide +kernel), List.mem_of_getElem? (i := 416) (by decide +kernel), List.mem_of_getElem? (i := 417) (by decide +kernel)⟩
theorem lw_p11 : lw_okq (⟨"SwapGo$ChargePlan", "fill", "(II)V"⟩, 7) := ⟨⟨by decide +kernel, by decide +kernel⟩, List.mem_of_getElem? (i := 116) (by decide +kernel), List.mem_of_getElem? (i := 420) (by decide +kernel), List.mem_of_getElem? (i := 421) (by decide +kernel)⟩
theorem lw_p12 : lw_okq (⟨"SwapGo$ChargePlan", "keepDraft", "()I"⟩, 7) := ⟨⟨by decide +kernel, by decide +kernel⟩, List.mem_of_getElem? (i := 116) (by decide +kernel), List.mem_of_getElem? (i := 425) (by decide +kernel), List.mem_of_getElem? (i := 426) (by decide +kernel)⟩
theorem lw_p13 : lw_okq (⟨"SwapGo$VanRound", "extend", "(LSwapGo$Spots;IIIII)V"⟩, 8) := ⟨⟨by decide +kernel, by decide +kernel⟩, List.mem_of_getElem? (i := 147) (by decide +kernel), List.mem_of_getElem? (i := 453) (by decide +kernel), List.mem_of_getElem? (i := 454) (by decide +kernel)⟩
theorem lw_p14 : lw_okq (⟨"SwapGo$VanRound", "keepRow", "(I)V"⟩, 8) := ⟨⟨by decide +kernel, by decide +kernel⟩, List.mem_of_getElem? (i := 147) (by decide +kernel), List.mem_of_getElem? (i := 457) (by decide +kernel), List.mem_of_getElem? (i := 458) (by decide +kernel)⟩
theorem lw_p15 : lw_okq (⟨"SwapGo$NewPlaces", "measureCabinetWays", "(LSwapGo$Spots;)V"⟩, 4) := ⟨⟨by decide +kernel, by decide +kernel⟩, List.mem_of_getElem? (i := 180) (by decide +kernel), List.mem_of_getElem? (i := 486) (by decide +kernel), List.mem_of_getElem? (i := 487) (by decide +kernel)⟩
def lw_privs_1 : List (MethodName × Nat) := [(⟨"SwapGo", "hasSlotLeft", "(I)Z"⟩, 8), (⟨"SwapGo", "givenIn", "(I)I"⟩, 8), (⟨"SwapGo", "isReady", "(I)Z"⟩, 8), (⟨"SwapGo", "canComeBack", "(II)Z"⟩, 8), (⟨"SwapGo", "passHour", "()V"⟩, 8), (⟨"SwapGo", "priceNow", "()I"⟩, 8), (⟨"SwapGo", "chargeIn", "(II)V"⟩, 8), (⟨"SwapGo", "countReadyIn", "(I)I"⟩, 8), (⟨"SwapGo", "nextToCharge", "(I)I"⟩, 8), (⟨"SwapGo$ChargePlan", "begin", "([II)V"⟩, 7), (⟨"SwapGo$ChargePlan", "cheapestUnfilled", "()I"⟩, 7), (⟨"SwapGo$ChargePlan", "fill", "(II)V"⟩, 7), (⟨"SwapGo$ChargePlan", "keepDraft", "()I"⟩, 7), (⟨"SwapGo$VanRound", "extend", "(LSwapGo$Spots;IIIII)V"⟩, 8), (⟨"SwapGo$VanRound", "keepRow", "(I)V"⟩, 8), (⟨"SwapGo$NewPlaces", "measureCabinetWays", "(LSwapGo$Spots;)V"⟩, 4)]
theorem lw_r1 : ∀ q ∈ lw_privs_1, lw_okq q := List.forall_mem_cons.mpr ⟨lw_p0, List.forall_mem_cons.mpr ⟨lw_p1, List.forall_mem_cons.mpr ⟨lw_p2, List.forall_mem_cons.mpr ⟨lw_p3, List.forall_mem_cons.mpr ⟨lw_p4, List.forall_mem_cons.mpr ⟨lw_p5, List.forall_mem_cons.mpr ⟨lw_p6, List.forall_mem_cons.mpr ⟨lw_p7, List.forall_mem_cons.mpr ⟨lw_p8, List.forall_mem_cons.mpr ⟨lw_p9, List.forall_mem_cons.mpr ⟨lw_p10, List.forall_mem_cons.mpr ⟨lw_p11, List.forall_mem_cons.mpr ⟨lw_p12, List.forall_mem_cons.mpr ⟨lw_p13, List.forall_mem_cons.mpr ⟨lw_p14, List.forall_mem_cons.mpr ⟨lw_p15, fun _ h => absurd h List.not_mem_nil⟩⟩⟩⟩⟩⟩⟩⟩⟩⟩⟩⟩⟩⟩⟩⟩
theorem lw_p16 : lw_okq (⟨"SwapGo$NewPlaces", "sumOfWays", "(I)I"⟩, 4) := ⟨⟨by decide +kernel, by decide +kernel⟩, List.mem_of_getElem? (i := 180) (by decide +kernel), List.mem_of_getElem? (i := 498) (by decide +kernel), List.mem_of_getElem? (i := 499) (by decide +kernel)⟩
theorem lw_p17 : lw_okq (⟨"java/lang/Throwable", "fillInStackTrace", "(I)Ljava/lang/Throwable;"⟩, 6) := ⟨⟨by decide +kernel, by decide +kernel⟩, List.mem_of_getElem? (i := 553) (by decide +kernel), List.mem_of_getElem? (i := 551) (by decide +kernel), List.mem_of_getElem? (i := 552) (by decide +kernel)⟩
theorem lw_p18 : lw_okq (⟨"SwapGoModel", "isCabinet", "(I)Z"⟩, 30) := ⟨⟨by decide +kernel, by decide +kernel⟩, List.mem_of_getElem? (i := 584) (by decide +kernel), List.mem_of_getElem? (i := 696) (by decide +kernel), List.mem_of_getElem? (i := 697) (by decide +kernel)⟩
theorem lw_p19 : lw_okq (⟨"SwapGoModel", "hasSlot", "(I)Z"⟩, 30) := ⟨⟨by decide +kernel, by decide +kernel⟩, List.mem_of_getElem? (i := 584) (by decide +kernel), List.mem_of_getElem? (i := 700) (by decide +kernel), List.mem_of_getElem? (i := 701) (by decide +kernel)⟩
theorem lw_p20 : lw_okq (⟨"SwapGoModel", "inside", "(I)I"⟩, 30) := ⟨⟨by decide +kernel, by decide +kernel⟩, List.mem_of_getElem? (i := 584) (by decide +kernel), List.mem_of_getElem? (i := 704) (by decide +kernel), List.mem_of_getElem? (i := 705) (by decide +kernel)⟩
theorem lw_p21 : lw_okq (⟨"SwapGoModel", "isPack", "(I)Z"⟩, 30) := ⟨⟨by decide +kernel, by decide +kernel⟩, List.mem_of_getElem? (i := 584) (by decide +kernel), List.mem_of_getElem? (i := 727) (by decide +kernel), List.mem_of_getElem? (i := 728) (by decide +kernel)⟩
theorem lw_p22 : lw_okq (⟨"SwapGoModel", "given", "(I)I"⟩, 30) := ⟨⟨by decide +kernel, by decide +kernel⟩, List.mem_of_getElem? (i := 584) (by decide +kernel), List.mem_of_getElem? (i := 735) (by decide +kernel), List.mem_of_getElem? (i := 736) (by decide +kernel)⟩
theorem lw_p23 : lw_okq (⟨"SwapGoModel", "isReady", "(I)Z"⟩, 30) := ⟨⟨by decide +kernel, by decide +kernel⟩, List.mem_of_getElem? (i := 584) (by decide +kernel), List.mem_of_getElem? (i := 739) (by decide +kernel), List.mem_of_getElem? (i := 740) (by decide +kernel)⟩
theorem lw_p24 : lw_okq (⟨"SwapGoModel", "isFit", "(I)Z"⟩, 30) := ⟨⟨by decide +kernel, by decide +kernel⟩, List.mem_of_getElem? (i := 584) (by decide +kernel), List.mem_of_getElem? (i := 743) (by decide +kernel), List.mem_of_getElem? (i := 744) (by decide +kernel)⟩
theorem lw_p25 : lw_okq (⟨"SwapGoModel", "isAhead", "(II)Z"⟩, 30) := ⟨⟨by decide +kernel, by decide +kernel⟩, List.mem_of_getElem? (i := 584) (by decide +kernel), List.mem_of_getElem? (i := 747) (by decide +kernel), List.mem_of_getElem? (i := 748) (by decide +kernel)⟩
theorem lw_p26 : lw_okq (⟨"SwapGoModel", "mayCome", "(II)Z"⟩, 30) := ⟨⟨by decide +kernel, by decide +kernel⟩, List.mem_of_getElem? (i := 584) (by decide +kernel), List.mem_of_getElem? (i := 755) (by decide +kernel), List.mem_of_getElem? (i := 756) (by decide +kernel)⟩
theorem lw_p27 : lw_okq (⟨"SwapGoModel", "goHour", "()V"⟩, 30) := ⟨⟨by decide +kernel, by decide +kernel⟩, List.mem_of_getElem? (i := 584) (by decide +kernel), List.mem_of_getElem? (i := 771) (by decide +kernel), List.mem_of_getElem? (i := 772) (by decide +kernel)⟩
theorem lw_p28 : lw_okq (⟨"SwapGoModel", "line", "(I)I"⟩, 30) := ⟨⟨by decide +kernel, by decide +kernel⟩, List.mem_of_getElem? (i := 584) (by decide +kernel), List.mem_of_getElem? (i := 775) (by decide +kernel), List.mem_of_getElem? (i := 776) (by decide +kernel)⟩
theorem lw_p29 : lw_okq (⟨"SwapGoModel", "readyIn", "(I)I"⟩, 30) := ⟨⟨by decide +kernel, by decide +kernel⟩, List.mem_of_getElem? (i := 584) (by decide +kernel), List.mem_of_getElem? (i := 779) (by decide +kernel), List.mem_of_getElem? (i := 780) (by decide +kernel)⟩
theorem lw_p30 : lw_okq (⟨"SwapGoModel", "goOn", "(IIIIIII)V"⟩, 30) := ⟨⟨by decide +kernel, by decide +kernel⟩, List.mem_of_getElem? (i := 584) (by decide +kernel), List.mem_of_getElem? (i := 821) (by decide +kernel), List.mem_of_getElem? (i := 822) (by decide +kernel)⟩
theorem lw_p31 : lw_okq (⟨"SwapGoModel", "sumOf", "(I)I"⟩, 30) := ⟨⟨by decide +kernel, by decide +kernel⟩, List.mem_of_getElem? (i := 584) (by decide +kernel), List.mem_of_getElem? (i := 842) (by decide +kernel), List.mem_of_getElem? (i := 843) (by decide +kernel)⟩
def lw_privs_2 : List (MethodName × Nat) := [(⟨"SwapGo$NewPlaces", "sumOfWays", "(I)I"⟩, 4), (⟨"java/lang/Throwable", "fillInStackTrace", "(I)Ljava/lang/Throwable;"⟩, 6), (⟨"SwapGoModel", "isCabinet", "(I)Z"⟩, 30), (⟨"SwapGoModel", "hasSlot", "(I)Z"⟩, 30), (⟨"SwapGoModel", "inside", "(I)I"⟩, 30), (⟨"SwapGoModel", "isPack", "(I)Z"⟩, 30), (⟨"SwapGoModel", "given", "(I)I"⟩, 30), (⟨"SwapGoModel", "isReady", "(I)Z"⟩, 30), (⟨"SwapGoModel", "isFit", "(I)Z"⟩, 30), (⟨"SwapGoModel", "isAhead", "(II)Z"⟩, 30), (⟨"SwapGoModel", "mayCome", "(II)Z"⟩, 30), (⟨"SwapGoModel", "goHour", "()V"⟩, 30), (⟨"SwapGoModel", "line", "(I)I"⟩, 30), (⟨"SwapGoModel", "readyIn", "(I)I"⟩, 30), (⟨"SwapGoModel", "goOn", "(IIIIIII)V"⟩, 30), (⟨"SwapGoModel", "sumOf", "(I)I"⟩, 30)]
theorem lw_r2 : ∀ q ∈ lw_privs_2, lw_okq q := List.forall_mem_cons.mpr ⟨lw_p16, List.forall_mem_cons.mpr ⟨lw_p17, List.forall_mem_cons.mpr ⟨lw_p18, List.forall_mem_cons.mpr ⟨lw_p19, List.forall_mem_cons.mpr ⟨lw_p20, List.forall_mem_cons.mpr ⟨lw_p21, List.forall_mem_cons.mpr ⟨lw_p22, List.forall_mem_cons.mpr ⟨lw_p23, List.forall_mem_cons.mpr ⟨lw_p24, List.forall_mem_cons.mpr ⟨lw_p25, List.forall_mem_cons.mpr ⟨lw_p26, List.forall_mem_cons.mpr ⟨lw_p27, List.forall_mem_cons.mpr ⟨lw_p28, List.forall_mem_cons.mpr ⟨lw_p29, List.forall_mem_cons.mpr ⟨lw_p30, List.forall_mem_cons.mpr ⟨lw_p31, fun _ h => absurd h List.not_mem_nil⟩⟩⟩⟩⟩⟩⟩⟩⟩⟩⟩⟩⟩⟩⟩⟩
def lw_privs : List (MethodName × Nat) := lw_privs_1 ++ (lw_privs_2)
def lw_tbl : List Cond := k2_sels lw_privs ++ tables_1
theorem lw_privs_ok : ∀ q ∈ lw_privs, lw_okq q := by
  show ∀ q ∈ lw_privs_1 ++ (lw_privs_2), lw_okq q
  exact List.forall_mem_append.mpr ⟨lw_r1, lw_r2⟩
-- ===== end of PART A; then your names; then what follows =====
def RX0 : String := "SwapGo$Cabinets"
def TX0 : u_T := fun k => match k with
  | 0 => ("SwapGo$Cabinets", "spots", "LSwapGo$Spots;", true)
  | 1 => ("SwapGo$Cabinets", "slots", "[I", true)
  | 2 => ("SwapGo$Cabinets", "lines", "[I", true)
  | 3 => ("SwapGo$Cabinets", "needed", "[I", true)
  | 4 => ("SwapGo$Cabinets", "bill", "[I", true)
  | _ => ("SwapGo$Cabinets", "wished", "[I", true)
def tyX0 : Nat → FieldType := fun k => match k with
  | 0 => .object "SwapGo$Spots"
  | 1 => .array .int
  | 2 => .array .int
  | 3 => .array .int
  | 4 => .array .int
  | _ => .array .int
abbrev wsX00 : List Cond := u_ws RX0 TX0 6
theorem nmX0 : ∀ a, a < 6 → ∀ b, b < 6 → a ≠ b → (TX0 a).2.1 ≠ (TX0 b).2.1 := by decide +kernel
theorem tyX0_ok : ∀ k, k < 6 → parseFieldDescriptor (TX0 k).2.2.1 = some (tyX0 k) := by decide +kernel
abbrev cX0_init : ByteArray := prog_2_method_1_code
def yX0_init : MethodName := ⟨RX0, "<init>", "()V"⟩
abbrev cX0_size : ByteArray := prog_2_method_2_code
def yX0_size : MethodName := ⟨RX0, "size", "()I"⟩
abbrev cX0_has : ByteArray := prog_2_method_3_code
def yX0_has : MethodName := ⟨RX0, "has", "(I)Z"⟩
abbrev cX0_add : ByteArray := prog_2_method_4_code
def yX0_add : MethodName := ⟨RX0, "add", "(IIIII)I"⟩
def RX1 : String := "SwapGo$ChargePlan"
def TX1 : u_T := fun k => match k with
  | 0 => ("SwapGo$ChargePlan", "needs", "[I", true)
  | 1 => ("SwapGo$ChargePlan", "draft", "[I", true)
  | 2 => ("SwapGo$ChargePlan", "unmet", "[I", true)
  | 3 => ("SwapGo$ChargePlan", "hourPrices", "[I", true)
  | 4 => ("SwapGo$ChargePlan", "kept", "[I", true)
  | 5 => ("SwapGo$ChargePlan", "size", "I", false)
  | _ => ("SwapGo$ChargePlan", "keptSize", "I", false)
def tyX1 : Nat → FieldType := fun k => match k with
  | 0 => .array .int
  | 1 => .array .int
  | 2 => .array .int
  | 3 => .array .int
  | 4 => .array .int
  | 5 => .int
  | _ => .int
abbrev wsX10 : List Cond := u_ws RX1 TX1 7
theorem nmX1 : ∀ a, a < 7 → ∀ b, b < 7 → a ≠ b → (TX1 a).2.1 ≠ (TX1 b).2.1 := by decide +kernel
theorem tyX1_ok : ∀ k, k < 7 → parseFieldDescriptor (TX1 k).2.2.1 = some (tyX1 k) := by decide +kernel
abbrev cX1_init : ByteArray := prog_3_method_1_code
def yX1_init : MethodName := ⟨RX1, "<init>", "()V"⟩
abbrev cX1_addNeed : ByteArray := prog_3_method_2_code
def yX1_addNeed : MethodName := ⟨RX1, "addNeed", "(I)I"⟩
abbrev cX1_keepLeast : ByteArray := prog_3_method_3_code
def yX1_keepLeast : MethodName := ⟨RX1, "keepLeast", "([III)I"⟩
abbrev cX1_begin : ByteArray := prog_3_method_4_code
def yX1_begin : MethodName := ⟨RX1, "begin", "([II)V"⟩
abbrev cX1_cheapestUnfilled : ByteArray := prog_3_method_5_code
def yX1_cheapestUnfilled : MethodName := ⟨RX1, "cheapestUnfilled", "()I"⟩
abbrev cX1_fill : ByteArray := prog_3_method_6_code
def yX1_fill : MethodName := ⟨RX1, "fill", "(II)V"⟩
abbrev cX1_keepDraft : ByteArray := prog_3_method_7_code
def yX1_keepDraft : MethodName := ⟨RX1, "keepDraft", "()I"⟩
def RX2 : String := "SwapGo$NewPlaces"
def TX2 : u_T := fun k => match k with
  | 0 => ("SwapGo$NewPlaces", "riders", "LSwapGo$Spots;", true)
  | 1 => ("SwapGo$NewPlaces", "sites", "LSwapGo$Spots;", true)
  | 2 => ("SwapGo$NewPlaces", "cabinetWays", "[I", true)
  | _ => ("SwapGo$NewPlaces", "kept", "I", false)
def tyX2 : Nat → FieldType := fun k => match k with
  | 0 => .object "SwapGo$Spots"
  | 1 => .object "SwapGo$Spots"
  | 2 => .array .int
  | _ => .int
abbrev wsX20 : List Cond := u_ws RX2 TX2 4
theorem nmX2 : ∀ a, a < 4 → ∀ b, b < 4 → a ≠ b → (TX2 a).2.1 ≠ (TX2 b).2.1 := by decide +kernel
theorem tyX2_ok : ∀ k, k < 4 → parseFieldDescriptor (TX2 k).2.2.1 = some (tyX2 k) := by decide +kernel
abbrev cX2_init : ByteArray := prog_4_method_1_code
def yX2_init : MethodName := ⟨RX2, "<init>", "()V"⟩
abbrev cX2_keepBest : ByteArray := prog_4_method_2_code
def yX2_keepBest : MethodName := ⟨RX2, "keepBest", "(ILSwapGo$Spots;)I"⟩
abbrev cX2_isFirstRow : ByteArray := prog_4_method_3_code
def yX2_isFirstRow : MethodName := ⟨RX2, "isFirstRow", "(II)Z"⟩
abbrev cX2_measureCabinetWays : ByteArray := prog_4_method_4_code
def yX2_measureCabinetWays : MethodName := ⟨RX2, "measureCabinetWays", "(LSwapGo$Spots;)V"⟩
abbrev cX2_sumOfWays : ByteArray := prog_4_method_5_code
def yX2_sumOfWays : MethodName := ⟨RX2, "sumOfWays", "(I)I"⟩
def RX3 : String := "SwapGo$Packs"
def TX3 : u_T := fun k => match k with
  | 0 => ("SwapGo$Packs", "charge", "[I", true)
  | 1 => ("SwapGo$Packs", "age", "[I", true)
  | 2 => ("SwapGo$Packs", "sickness", "[Z", true)
  | 3 => ("SwapGo$Packs", "home", "[I", true)
  | 4 => ("SwapGo$Packs", "lastHour", "[I", true)
  | _ => ("SwapGo$Packs", "size", "I", false)
def tyX3 : Nat → FieldType := fun k => match k with
  | 0 => .array .int
  | 1 => .array .int
  | 2 => .array .boolean
  | 3 => .array .int
  | 4 => .array .int
  | _ => .int
abbrev wsX30 : List Cond := u_ws RX3 TX3 6
theorem nmX3 : ∀ a, a < 6 → ∀ b, b < 6 → a ≠ b → (TX3 a).2.1 ≠ (TX3 b).2.1 := by decide +kernel
theorem tyX3_ok : ∀ k, k < 6 → parseFieldDescriptor (TX3 k).2.2.1 = some (tyX3 k) := by decide +kernel
abbrev cX3_init : ByteArray := prog_5_method_1_code
def yX3_init : MethodName := ⟨RX3, "<init>", "()V"⟩
abbrev cX3_has : ByteArray := prog_5_method_2_code
def yX3_has : MethodName := ⟨RX3, "has", "(I)Z"⟩
abbrev cX3_add : ByteArray := prog_5_method_3_code
def yX3_add : MethodName := ⟨RX3, "add", "(II)I"⟩
abbrev cX3_isOut : ByteArray := prog_5_method_4_code
def yX3_isOut : MethodName := ⟨RX3, "isOut", "(I)Z"⟩
abbrev cX3_isFit : ByteArray := prog_5_method_5_code
def yX3_isFit : MethodName := ⟨RX3, "isFit", "(II)Z"⟩
abbrev cX3_former : ByteArray := prog_5_method_6_code
def yX3_former : MethodName := ⟨RX3, "former", "(II)I"⟩
abbrev cX3_comeBack : ByteArray := prog_5_method_7_code
def yX3_comeBack : MethodName := ⟨RX3, "comeBack", "(III)V"⟩
abbrev cX3_load : ByteArray := prog_5_method_8_code
def yX3_load : MethodName := ⟨RX3, "load", "(III)V"⟩
abbrev cX3_countIn : ByteArray := prog_5_method_9_code
def yX3_countIn : MethodName := ⟨RX3, "countIn", "(I)I"⟩
abbrev cX3_countSick : ByteArray := prog_5_method_10_code
def yX3_countSick : MethodName := ⟨RX3, "countSick", "()I"⟩
abbrev cX3_countOld : ByteArray := prog_5_method_11_code
def yX3_countOld : MethodName := ⟨RX3, "countOld", "(I)I"⟩
def RX4 : String := "SwapGo$Spots"
def TX4 : u_T := fun k => match k with
  | 0 => ("SwapGo$Spots", "xs", "[I", true)
  | 1 => ("SwapGo$Spots", "ys", "[I", true)
  | _ => ("SwapGo$Spots", "size", "I", false)
def tyX4 : Nat → FieldType := fun k => match k with
  | 0 => .array .int
  | 1 => .array .int
  | _ => .int
abbrev wsX40 : List Cond := u_ws RX4 TX4 3
theorem nmX4 : ∀ a, a < 3 → ∀ b, b < 3 → a ≠ b → (TX4 a).2.1 ≠ (TX4 b).2.1 := by decide +kernel
theorem tyX4_ok : ∀ k, k < 3 → parseFieldDescriptor (TX4 k).2.2.1 = some (tyX4 k) := by decide +kernel
abbrev cX4_init : ByteArray := prog_6_method_1_code
def yX4_init : MethodName := ⟨RX4, "<init>", "(I)V"⟩
abbrev cX4_add : ByteArray := prog_6_method_2_code
def yX4_add : MethodName := ⟨RX4, "add", "(II)I"⟩
abbrev cX4_distance : ByteArray := prog_6_method_3_code
def yX4_distance : MethodName := ⟨RX4, "distance", "(III)I"⟩
def RX5 : String := "SwapGo$VanRound"
def TX5 : u_T := fun k => match k with
  | 0 => ("SwapGo$VanRound", "surplus", "[I", true)
  | 1 => ("SwapGo$VanRound", "isVisited", "[Z", true)
  | 2 => ("SwapGo$VanRound", "row", "[I", true)
  | 3 => ("SwapGo$VanRound", "kept", "[I", true)
  | 4 => ("SwapGo$VanRound", "keptSize", "I", false)
  | 5 => ("SwapGo$VanRound", "van", "I", false)
  | 6 => ("SwapGo$VanRound", "stops", "I", false)
  | _ => ("SwapGo$VanRound", "shortest", "I", false)
def tyX5 : Nat → FieldType := fun k => match k with
  | 0 => .array .int
  | 1 => .array .boolean
  | 2 => .array .int
  | 3 => .array .int
  | 4 => .int
  | 5 => .int
  | 6 => .int
  | _ => .int
abbrev wsX50 : List Cond := u_ws RX5 TX5 8
theorem nmX5 : ∀ a, a < 8 → ∀ b, b < 8 → a ≠ b → (TX5 a).2.1 ≠ (TX5 b).2.1 := by decide +kernel
theorem tyX5_ok : ∀ k, k < 8 → parseFieldDescriptor (TX5 k).2.2.1 = some (tyX5 k) := by decide +kernel
abbrev cX5_init : ByteArray := prog_7_method_1_code
def yX5_init : MethodName := ⟨RX5, "<init>", "()V"⟩
abbrev cX5_begin : ByteArray := prog_7_method_2_code
def yX5_begin : MethodName := ⟨RX5, "begin", "(I)V"⟩
abbrev cX5_addSurplus : ByteArray := prog_7_method_3_code
def yX5_addSurplus : MethodName := ⟨RX5, "addSurplus", "(II)V"⟩
abbrev cX5_keepShortest : ByteArray := prog_7_method_4_code
def yX5_keepShortest : MethodName := ⟨RX5, "keepShortest", "(LSwapGo$Spots;)I"⟩
abbrev cX5_extend : ByteArray := prog_7_method_5_code
def yX5_extend : MethodName := ⟨RX5, "extend", "(LSwapGo$Spots;IIIII)V"⟩
abbrev cX5_keepRow : ByteArray := prog_7_method_6_code
def yX5_keepRow : MethodName := ⟨RX5, "keepRow", "(I)V"⟩
def RX6 : String := "SwapGo"
def TX6 : u_T := fun k => match k with
  | 0 => ("SwapGo", "settings", "[I", true)
  | 1 => ("SwapGo", "prices", "[I", true)
  | 2 => ("SwapGo", "cabinets", "LSwapGo$Cabinets;", true)
  | 3 => ("SwapGo", "packs", "LSwapGo$Packs;", true)
  | 4 => ("SwapGo", "chargePlan", "LSwapGo$ChargePlan;", true)
  | 5 => ("SwapGo", "vanRound", "LSwapGo$VanRound;", true)
  | 6 => ("SwapGo", "newPlaces", "LSwapGo$NewPlaces;", true)
  | _ => ("SwapGo", "hour", "I", false)
def tyX6 : Nat → FieldType := fun k => match k with
  | 0 => .array .int
  | 1 => .array .int
  | 2 => .object "SwapGo$Cabinets"
  | 3 => .object "SwapGo$Packs"
  | 4 => .object "SwapGo$ChargePlan"
  | 5 => .object "SwapGo$VanRound"
  | 6 => .object "SwapGo$NewPlaces"
  | _ => .int
abbrev wsX60 : List Cond := u_ws RX6 TX6 8
theorem nmX6 : ∀ a, a < 8 → ∀ b, b < 8 → a ≠ b → (TX6 a).2.1 ≠ (TX6 b).2.1 := by decide +kernel
theorem tyX6_ok : ∀ k, k < 8 → parseFieldDescriptor (TX6 k).2.2.1 = some (tyX6 k) := by decide +kernel
abbrev cX6_init : ByteArray := prog_1_method_1_code
def yX6_init : MethodName := ⟨RX6, "<init>", "()V"⟩
abbrev cX6_cabinet : ByteArray := prog_1_method_2_code
def yX6_cabinet : MethodName := ⟨RX6, "cabinet", "(IIIII)I"⟩
abbrev cX6_pack : ByteArray := prog_1_method_3_code
def yX6_pack : MethodName := ⟨RX6, "pack", "(II)I"⟩
abbrev cX6_set : ByteArray := prog_1_method_4_code
def yX6_set : MethodName := ⟨RX6, "set", "(II)I"⟩
abbrev cX6_price : ByteArray := prog_1_method_5_code
def yX6_price : MethodName := ⟨RX6, "price", "(II)Z"⟩
abbrev cX6_sick : ByteArray := prog_1_method_6_code
def yX6_sick : MethodName := ⟨RX6, "sick", "(IZ)Z"⟩
abbrev cX6_take : ByteArray := prog_1_method_7_code
def yX6_take : MethodName := ⟨RX6, "take", "(I)I"⟩
abbrev cX6_swap : ByteArray := prog_1_method_8_code
def yX6_swap : MethodName := ⟨RX6, "swap", "(III)I"⟩
abbrev cX6_bring : ByteArray := prog_1_method_9_code
def yX6_bring : MethodName := ⟨RX6, "bring", "(III)I"⟩
abbrev cX6_move : ByteArray := prog_1_method_10_code
def yX6_move : MethodName := ⟨RX6, "move", "(II)Z"⟩
abbrev cX6_run : ByteArray := prog_1_method_11_code
def yX6_run : MethodName := ⟨RX6, "run", "(I)I"⟩
abbrev cX6_count : ByteArray := prog_1_method_12_code
def yX6_count : MethodName := ⟨RX6, "count", "(I)I"⟩
abbrev cX6_of : ByteArray := prog_1_method_13_code
def yX6_of : MethodName := ⟨RX6, "of", "(II)I"⟩
abbrev cX6_in : ByteArray := prog_1_method_14_code
def yX6_in : MethodName := ⟨RX6, "in", "(II)I"⟩
abbrev cX6_need : ByteArray := prog_1_method_15_code
def yX6_need : MethodName := ⟨RX6, "need", "(I)I"⟩
abbrev cX6_clear : ByteArray := prog_1_method_16_code
def yX6_clear : MethodName := ⟨RX6, "clear", "()I"⟩
abbrev cX6_plan : ByteArray := prog_1_method_17_code
def yX6_plan : MethodName := ⟨RX6, "plan", "(I)I"⟩
abbrev cX6_planned : ByteArray := prog_1_method_18_code
def yX6_planned : MethodName := ⟨RX6, "planned", "(I)I"⟩
abbrev cX6_wish : ByteArray := prog_1_method_19_code
def yX6_wish : MethodName := ⟨RX6, "wish", "(II)Z"⟩
abbrev cX6_round : ByteArray := prog_1_method_20_code
def yX6_round : MethodName := ⟨RX6, "round", "()I"⟩
abbrev cX6_stop : ByteArray := prog_1_method_21_code
def yX6_stop : MethodName := ⟨RX6, "stop", "(I)I"⟩
abbrev cX6_point : ByteArray := prog_1_method_22_code
def yX6_point : MethodName := ⟨RX6, "point", "(III)I"⟩
abbrev cX6_places : ByteArray := prog_1_method_23_code
def yX6_places : MethodName := ⟨RX6, "places", "(I)I"⟩
abbrev cX6_chosen : ByteArray := prog_1_method_24_code
def yX6_chosen : MethodName := ⟨RX6, "chosen", "()I"⟩
abbrev cX6_isWithin : ByteArray := prog_1_method_25_code
def yX6_isWithin : MethodName := ⟨RX6, "isWithin", "(III)Z"⟩
abbrev cX6_isInTown : ByteArray := prog_1_method_26_code
def yX6_isInTown : MethodName := ⟨RX6, "isInTown", "(II)Z"⟩
abbrev cX6_hasSlotLeft : ByteArray := prog_1_method_27_code
def yX6_hasSlotLeft : MethodName := ⟨RX6, "hasSlotLeft", "(I)Z"⟩
abbrev cX6_canComeBack : ByteArray := prog_1_method_28_code
def yX6_canComeBack : MethodName := ⟨RX6, "canComeBack", "(II)Z"⟩
abbrev cX6_isReady : ByteArray := prog_1_method_29_code
def yX6_isReady : MethodName := ⟨RX6, "isReady", "(I)Z"⟩
abbrev cX6_countReadyIn : ByteArray := prog_1_method_30_code
def yX6_countReadyIn : MethodName := ⟨RX6, "countReadyIn", "(I)I"⟩
abbrev cX6_givenIn : ByteArray := prog_1_method_31_code
def yX6_givenIn : MethodName := ⟨RX6, "givenIn", "(I)I"⟩
abbrev cX6_priceNow : ByteArray := prog_1_method_32_code
def yX6_priceNow : MethodName := ⟨RX6, "priceNow", "()I"⟩
abbrev cX6_passHour : ByteArray := prog_1_method_33_code
def yX6_passHour : MethodName := ⟨RX6, "passHour", "()V"⟩
abbrev cX6_chargeIn : ByteArray := prog_1_method_34_code
def yX6_chargeIn : MethodName := ⟨RX6, "chargeIn", "(II)V"⟩
abbrev cX6_nextToCharge : ByteArray := prog_1_method_35_code
def yX6_nextToCharge : MethodName := ⟨RX6, "nextToCharge", "(I)I"⟩
def RX7 : String := "SwapGoModel"
def TX7 : u_T := fun k => match k with
  | 0 => ("SwapGoModel", "cabinets", "[I", true)
  | 1 => ("SwapGoModel", "cabinetMany", "I", false)
  | 2 => ("SwapGoModel", "charge", "[I", true)
  | 3 => ("SwapGoModel", "age", "[I", true)
  | 4 => ("SwapGoModel", "where", "[I", true)
  | 5 => ("SwapGoModel", "sick", "[Z", true)
  | 6 => ("SwapGoModel", "packs", "I", false)
  | 7 => ("SwapGoModel", "numbers", "[I", true)
  | 8 => ("SwapGoModel", "prices", "[I", true)
  | 9 => ("SwapGoModel", "hour", "I", false)
  | 10 => ("SwapGoModel", "needs", "[I", true)
  | 11 => ("SwapGoModel", "needMany", "I", false)
  | 12 => ("SwapGoModel", "plan", "[I", true)
  | 13 => ("SwapGoModel", "planMany", "I", false)
  | 14 => ("SwapGoModel", "round", "[I", true)
  | 15 => ("SwapGoModel", "roundMany", "I", false)
  | 16 => ("SwapGoModel", "px", "[I", true)
  | 17 => ("SwapGoModel", "py", "[I", true)
  | 18 => ("SwapGoModel", "points", "I", false)
  | 19 => ("SwapGoModel", "qx", "[I", true)
  | 20 => ("SwapGoModel", "qy", "[I", true)
  | 21 => ("SwapGoModel", "places", "I", false)
  | 22 => ("SwapGoModel", "chosen", "I", false)
  | 23 => ("SwapGoModel", "thrown", "I", false)
  | 24 => ("SwapGoModel", "isDone", "[Z", true)
  | 25 => ("SwapGoModel", "row", "[I", true)
  | 26 => ("SwapGoModel", "rest", "[I", true)
  | 27 => ("SwapGoModel", "tryRow", "[I", true)
  | 28 => ("SwapGoModel", "bestRow", "[I", true)
  | _ => ("SwapGoModel", "bestLength", "I", false)
def tyX7 : Nat → FieldType := fun k => match k with
  | 0 => .array .int
  | 1 => .int
  | 2 => .array .int
  | 3 => .array .int
  | 4 => .array .int
  | 5 => .array .boolean
  | 6 => .int
  | 7 => .array .int
  | 8 => .array .int
  | 9 => .int
  | 10 => .array .int
  | 11 => .int
  | 12 => .array .int
  | 13 => .int
  | 14 => .array .int
  | 15 => .int
  | 16 => .array .int
  | 17 => .array .int
  | 18 => .int
  | 19 => .array .int
  | 20 => .array .int
  | 21 => .int
  | 22 => .int
  | 23 => .int
  | 24 => .array .boolean
  | 25 => .array .int
  | 26 => .array .int
  | 27 => .array .int
  | 28 => .array .int
  | _ => .int
abbrev wsX70 : List Cond := u_ws RX7 TX7 30
theorem nmX7 : ∀ a, a < 30 → ∀ b, b < 30 → a ≠ b → (TX7 a).2.1 ≠ (TX7 b).2.1 := by decide +kernel
theorem tyX7_ok : ∀ k, k < 30 → parseFieldDescriptor (TX7 k).2.2.1 = some (tyX7 k) := by decide +kernel
abbrev cX7_init : ByteArray := prog_9_method_1_code
def yX7_init : MethodName := ⟨RX7, "<init>", "()V"⟩
abbrev cX7_thrown : ByteArray := prog_9_method_2_code
def yX7_thrown : MethodName := ⟨RX7, "thrown", "()I"⟩
abbrev cX7_in : ByteArray := prog_9_method_3_code
def yX7_in : MethodName := ⟨RX7, "in", "(III)Z"⟩
abbrev cX7_isCabinet : ByteArray := prog_9_method_4_code
def yX7_isCabinet : MethodName := ⟨RX7, "isCabinet", "(I)Z"⟩
abbrev cX7_isPack : ByteArray := prog_9_method_5_code
def yX7_isPack : MethodName := ⟨RX7, "isPack", "(I)Z"⟩
abbrev cX7_inside : ByteArray := prog_9_method_6_code
def yX7_inside : MethodName := ⟨RX7, "inside", "(I)I"⟩
abbrev cX7_hasSlot : ByteArray := prog_9_method_7_code
def yX7_hasSlot : MethodName := ⟨RX7, "hasSlot", "(I)Z"⟩
abbrev cX7_isFit : ByteArray := prog_9_method_8_code
def yX7_isFit : MethodName := ⟨RX7, "isFit", "(I)Z"⟩
abbrev cX7_isReady : ByteArray := prog_9_method_9_code
def yX7_isReady : MethodName := ⟨RX7, "isReady", "(I)Z"⟩
abbrev cX7_readyIn : ByteArray := prog_9_method_10_code
def yX7_readyIn : MethodName := ⟨RX7, "readyIn", "(I)I"⟩
abbrev cX7_isAhead : ByteArray := prog_9_method_11_code
def yX7_isAhead : MethodName := ⟨RX7, "isAhead", "(II)Z"⟩
abbrev cX7_given : ByteArray := prog_9_method_12_code
def yX7_given : MethodName := ⟨RX7, "given", "(I)I"⟩
abbrev cX7_cabinet : ByteArray := prog_9_method_13_code
def yX7_cabinet : MethodName := ⟨RX7, "cabinet", "(IIIII)I"⟩
abbrev cX7_pack : ByteArray := prog_9_method_14_code
def yX7_pack : MethodName := ⟨RX7, "pack", "(II)I"⟩
abbrev cX7_leastOf : ByteArray := prog_9_method_15_code
def yX7_leastOf : MethodName := ⟨RX7, "leastOf", "(I)I"⟩
abbrev cX7_mostOf : ByteArray := prog_9_method_16_code
def yX7_mostOf : MethodName := ⟨RX7, "mostOf", "(I)I"⟩
abbrev cX7_set : ByteArray := prog_9_method_17_code
def yX7_set : MethodName := ⟨RX7, "set", "(II)I"⟩
abbrev cX7_price : ByteArray := prog_9_method_18_code
def yX7_price : MethodName := ⟨RX7, "price", "(II)Z"⟩
abbrev cX7_sick : ByteArray := prog_9_method_19_code
def yX7_sick : MethodName := ⟨RX7, "sick", "(IZ)Z"⟩
abbrev cX7_take : ByteArray := prog_9_method_20_code
def yX7_take : MethodName := ⟨RX7, "take", "(I)I"⟩
abbrev cX7_mayCome : ByteArray := prog_9_method_21_code
def yX7_mayCome : MethodName := ⟨RX7, "mayCome", "(II)Z"⟩
abbrev cX7_swap : ByteArray := prog_9_method_22_code
def yX7_swap : MethodName := ⟨RX7, "swap", "(III)I"⟩
abbrev cX7_bring : ByteArray := prog_9_method_23_code
def yX7_bring : MethodName := ⟨RX7, "bring", "(III)I"⟩
abbrev cX7_move : ByteArray := prog_9_method_24_code
def yX7_move : MethodName := ⟨RX7, "move", "(II)Z"⟩
abbrev cX7_line : ByteArray := prog_9_method_25_code
def yX7_line : MethodName := ⟨RX7, "line", "(I)I"⟩
abbrev cX7_goHour : ByteArray := prog_9_method_26_code
def yX7_goHour : MethodName := ⟨RX7, "goHour", "()V"⟩
abbrev cX7_run : ByteArray := prog_9_method_27_code
def yX7_run : MethodName := ⟨RX7, "run", "(I)I"⟩
abbrev cX7_count : ByteArray := prog_9_method_28_code
def yX7_count : MethodName := ⟨RX7, "count", "(I)I"⟩
abbrev cX7_of : ByteArray := prog_9_method_29_code
def yX7_of : MethodName := ⟨RX7, "of", "(II)I"⟩
abbrev cX7_in_ : ByteArray := prog_9_method_30_code
def yX7_in_ : MethodName := ⟨RX7, "in", "(II)I"⟩
abbrev cX7_need : ByteArray := prog_9_method_31_code
def yX7_need : MethodName := ⟨RX7, "need", "(I)I"⟩
abbrev cX7_clear : ByteArray := prog_9_method_32_code
def yX7_clear : MethodName := ⟨RX7, "clear", "()I"⟩
abbrev cX7_plan : ByteArray := prog_9_method_33_code
def yX7_plan : MethodName := ⟨RX7, "plan", "(I)I"⟩
abbrev cX7_planned : ByteArray := prog_9_method_34_code
def yX7_planned : MethodName := ⟨RX7, "planned", "(I)I"⟩
abbrev cX7_wish : ByteArray := prog_9_method_35_code
def yX7_wish : MethodName := ⟨RX7, "wish", "(II)Z"⟩
abbrev cX7_away : ByteArray := prog_9_method_36_code
def yX7_away : MethodName := ⟨RX7, "away", "(IIII)I"⟩
abbrev cX7_goOn : ByteArray := prog_9_method_37_code
def yX7_goOn : MethodName := ⟨RX7, "goOn", "(IIIIIII)V"⟩
abbrev cX7_round : ByteArray := prog_9_method_38_code
def yX7_round : MethodName := ⟨RX7, "round", "()I"⟩
abbrev cX7_stop : ByteArray := prog_9_method_39_code
def yX7_stop : MethodName := ⟨RX7, "stop", "(I)I"⟩
abbrev cX7_point : ByteArray := prog_9_method_40_code
def yX7_point : MethodName := ⟨RX7, "point", "(III)I"⟩
abbrev cX7_sumOf : ByteArray := prog_9_method_41_code
def yX7_sumOf : MethodName := ⟨RX7, "sumOf", "(I)I"⟩
abbrev cX7_isFirst : ByteArray := prog_9_method_42_code
def yX7_isFirst : MethodName := ⟨RX7, "isFirst", "(II)Z"⟩
abbrev cX7_places : ByteArray := prog_9_method_43_code
def yX7_places : MethodName := ⟨RX7, "places", "(I)I"⟩
abbrev cX7_chosen : ByteArray := prog_9_method_44_code
def yX7_chosen : MethodName := ⟨RX7, "chosen", "()I"⟩
def RJ6 : String := "java/lang/Integer"
def TJ6 : u_T := fun k => match k with
  | _ => ("", "", "", false)
def tyJ6 : Nat → FieldType := fun k => match k with
  | _ => .int
abbrev wsJ60 : List Cond := u_ws RJ6 TJ6 0
theorem nmJ6 : ∀ a, a < 0 → ∀ b, b < 0 → a ≠ b → (TJ6 a).2.1 ≠ (TJ6 b).2.1 := by decide +kernel
theorem tyJ6_ok : ∀ k, k < 0 → parseFieldDescriptor (TJ6 k).2.2.1 = some (tyJ6 k) := by decide +kernel
abbrev cJ6_numberOfTrailingZeros_0f7a4 : ByteArray := prog_11_method_48_code
def yJ6_numberOfTrailingZeros_0f7a4 : MethodName := ⟨RJ6, "numberOfTrailingZeros", "(I)I"⟩
abbrev cJ6_bitCount_0f7a4 : ByteArray := prog_11_method_49_code
def yJ6_bitCount_0f7a4 : MethodName := ⟨RJ6, "bitCount", "(I)I"⟩
def RJ9 : String := "java/lang/Math"
def TJ9 : u_T := fun k => match k with
  | _ => ("", "", "", false)
def tyJ9 : Nat → FieldType := fun k => match k with
  | _ => .int
abbrev wsJ90 : List Cond := u_ws RJ9 TJ9 0
theorem nmJ9 : ∀ a, a < 0 → ∀ b, b < 0 → a ≠ b → (TJ9 a).2.1 ≠ (TJ9 b).2.1 := by decide +kernel
theorem tyJ9_ok : ∀ k, k < 0 → parseFieldDescriptor (TJ9 k).2.2.1 = some (tyJ9 k) := by decide +kernel
abbrev cJ9_floorMod_7cf53 : ByteArray := prog_12_method_50_code
def yJ9_floorMod_7cf53 : MethodName := ⟨RJ9, "floorMod", "(II)I"⟩
abbrev cJ9_abs_0f7a4 : ByteArray := prog_12_method_59_code
def yJ9_abs_0f7a4 : MethodName := ⟨RJ9, "abs", "(I)I"⟩
abbrev cJ9_max_7cf53 : ByteArray := prog_12_method_65_code
def yJ9_max_7cf53 : MethodName := ⟨RJ9, "max", "(II)I"⟩
abbrev cJ9_min_7cf53 : ByteArray := prog_12_method_69_code
def yJ9_min_7cf53 : MethodName := ⟨RJ9, "min", "(II)I"⟩
def RJ0 : String := "java/lang/String"
def TJ0 : u_T := fun k => match k with
  | _ => ("", "", "", false)
def tyJ0 : Nat → FieldType := fun k => match k with
  | _ => .int
abbrev wsJ00 : List Cond := u_ws RJ0 TJ0 0
theorem nmJ0 : ∀ a, a < 0 → ∀ b, b < 0 → a ≠ b → (TJ0 a).2.1 ≠ (TJ0 b).2.1 := by decide +kernel
theorem tyJ0_ok : ∀ k, k < 0 → parseFieldDescriptor (TJ0 k).2.2.1 = some (tyJ0 k) := by decide +kernel
def RJ7 : String := "java/util/Arrays"
def TJ7 : u_T := fun k => match k with
  | _ => ("", "", "", false)
def tyJ7 : Nat → FieldType := fun k => match k with
  | _ => .int
abbrev wsJ70 : List Cond := u_ws RJ7 TJ7 0
theorem nmJ7 : ∀ a, a < 0 → ∀ b, b < 0 → a ≠ b → (TJ7 a).2.1 ≠ (TJ7 b).2.1 := by decide +kernel
theorem tyJ7_ok : ∀ k, k < 0 → parseFieldDescriptor (TJ7 k).2.2.1 = some (tyJ7 k) := by decide +kernel
abbrev cJ7_fill_53178 : ByteArray := prog_16_method_103_code
def yJ7_fill_53178 : MethodName := ⟨RJ7, "fill", "([II)V"⟩
def RL : String := "SwapGoLaw"
abbrev cL_of : ByteArray := method_3_code
def yL_of : MethodName := ⟨RL, "of", "(LSwapGo;II[J)I"⟩
abbrev cL_law : ByteArray := code
def yL_law : MethodName := ⟨RL, "law", "([I)Z"⟩
abbrev vwCl : List vw_C := [(RX0, TX0, 6), (RX1, TX1, 7), (RX2, TX2, 4), (RX3, TX3, 6), (RX4, TX4, 3), (RX5, TX5, 8), (RX6, TX6, 8), (RX7, TX7, 30)]
