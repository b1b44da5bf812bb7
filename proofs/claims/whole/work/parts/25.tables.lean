theorem iv_lk {α : Type} : ∀ {l : List (Nat × α)} {i : Nat} {v : α}, l.lookup i = some v → (i, v) ∈ l
  | [], _, _, h => by simp at h
  | (j, w) :: l, i, v, h => by
    rw [List.lookup_cons] at h
    split at h
    · next he =>
      cases h
      rw [eq_of_beq he]
      exact List.mem_cons_self
    · exact List.mem_cons_of_mem _ (iv_lk h)
theorem iv_ok_of {own : String} {fl : List (Nat × Nat × Nat)} {cs : List (Nat × Int32)} {cv : List (Nat × iv_C)} (h1 : ∀ e ∈ fl, iv_fokB own e.1 e.2.1 e.2.2 = true) (h2 : ∀ e ∈ cs, Cond.constant own e.1 e.2 ∈ iv_g) (h3 : ∀ e ∈ cv, iv_cokB own e.1 e.2.1 e.2.2.1 e.2.2.2.1 e.2.2.2.2 = true) : iv_ok own (fun i => fl.lookup i, fun i => cs.lookup i, fun i => cv.lookup i) :=
  ⟨fun idx ci j h => h1 _ (iv_lk h), fun idx v h => h2 _ (iv_lk h), fun idx n ck vd ym h => h3 _ (iv_lk h)⟩
theorem iv_fok_of {own : String} {idx ci j : Nat} {q : vw_C} (hq : vwCl[ci]? = some q) (hj : j < q.2.2) (hl : Cond.fieldLink own idx (q.2.1 j).1 (q.2.1 j).2.1 (q.2.1 j).2.2.1 ∈ iv_g) : iv_fokB own idx ci j = true := by
  unfold iv_fokB
  rw [hq]
  simp only [Bool.and_eq_true, decide_eq_true_eq]
  exact ⟨hj, hl⟩
theorem iv_cok_S {own : String} {idx n : Nat} {vd : Bool} {ym : iv_M} (hv : vd = ym.2.2.2.isNone) (n1 : ym.1.cls ≠ "java/lang/invoke/MethodHandle") (n2 : ym.1.cls ≠ "java/lang/invoke/VarHandle") (hc : Cond.code ym.1 ym.2.1 ym.2.2.1 ym.2.2.2 ∈ iv_g) (hi : Cond.initialized ym.1.cls ∈ iv_g) (hm : ym.2.2.1 ≤ 20) (hp : (parseMethodDescriptor ym.1.desc).map (fun d => d.parameters.length) = some n) (hs : Cond.static ym.1 ∈ iv_g) (hl : Cond.methodLink own idx ym.1 ∈ iv_g ∨ Cond.methodLinkNest own idx ym.1 RX6 ∈ iv_N) : iv_cokB own idx n none vd ym = true := by
  unfold iv_cokB
  simp only [Bool.and_eq_true, Bool.or_eq_true, decide_eq_true_eq]
  exact ⟨⟨⟨⟨⟨⟨hv, n1⟩, n2⟩, hc⟩, hi⟩, hm⟩, ⟨hp, hs⟩, hl⟩
theorem iv_cok_V {own : String} {idx n ci : Nat} {vd : Bool} {ym : iv_M} (hv : vd = ym.2.2.2.isNone) (n1 : ym.1.cls ≠ "java/lang/invoke/MethodHandle") (n2 : ym.1.cls ≠ "java/lang/invoke/VarHandle") (hc : Cond.code ym.1 ym.2.1 ym.2.2.1 ym.2.2.2 ∈ iv_g) (hi : Cond.initialized ym.1.cls ∈ iv_g) (hm : ym.2.2.1 ≤ 20) (hp : (parseMethodDescriptor ym.1.desc).map (fun d => d.parameters.length + 1) = some n) (hs : Cond.instanceMethod ym.1 ∈ iv_g) (hse : Cond.selects ym.1.cls ym.1 ym.1 ∈ iv_g) (hl : Cond.methodLink own idx ym.1 ∈ iv_g) (hw : (vwCl[ci]?).map (fun q => q.1) = some ym.1.cls) : iv_cokB own idx n (some ci) vd ym = true := by
  unfold iv_cokB
  simp only [Bool.and_eq_true, decide_eq_true_eq]
  exact ⟨⟨⟨⟨⟨⟨hv, n1⟩, n2⟩, hc⟩, hi⟩, hm⟩, ⟨⟨⟨hp, hs⟩, hse⟩, hl⟩, hw⟩
def mJ9_max_7cf53 : iv_M := (yJ9_max_7cf53, cJ9_max_7cf53, 2, (some .int))
def mJ7_fill_53178 : iv_M := (yJ7_fill_53178, cJ7_fill_53178, 4, none)
def mX6_cabinet : iv_M := (yX6_cabinet, cX6_cabinet, 6, (some .int))
def mX6_isInTown : iv_M := (yX6_isInTown, cX6_isInTown, 2, (some .boolean))
def mX6_isWithin : iv_M := (yX6_isWithin, cX6_isWithin, 3, (some .boolean))
def mX0_add : iv_M := (yX0_add, cX0_add, 7, (some .int))
def mX4_add : iv_M := (yX4_add, cX4_add, 3, (some .int))
def mX6_pack : iv_M := (yX6_pack, cX6_pack, 3, (some .int))
def mX6_hasSlotLeft : iv_M := (yX6_hasSlotLeft, cX6_hasSlotLeft, 2, (some .boolean))
def mX0_has : iv_M := (yX0_has, cX0_has, 2, (some .boolean))
def mX3_countIn : iv_M := (yX3_countIn, cX3_countIn, 4, (some .int))
def mX3_add : iv_M := (yX3_add, cX3_add, 3, (some .int))
def mX6_set : iv_M := (yX6_set, cX6_set, 4, (some .int))
def mX6_price : iv_M := (yX6_price, cX6_price, 3, (some .boolean))
def mX6_sick : iv_M := (yX6_sick, cX6_sick, 3, (some .boolean))
def mX3_has : iv_M := (yX3_has, cX3_has, 2, (some .boolean))
def mX6_take : iv_M := (yX6_take, cX6_take, 3, (some .int))
def mX6_givenIn : iv_M := (yX6_givenIn, cX6_givenIn, 4, (some .int))
def mX6_isReady : iv_M := (yX6_isReady, cX6_isReady, 2, (some .boolean))
def mX3_isOut : iv_M := (yX3_isOut, cX3_isOut, 2, (some .boolean))
def mX3_isFit : iv_M := (yX3_isFit, cX3_isFit, 3, (some .boolean))
def mX3_former : iv_M := (yX3_former, cX3_former, 4, (some .int))
def mX6_swap : iv_M := (yX6_swap, cX6_swap, 5, (some .int))
def mX6_canComeBack : iv_M := (yX6_canComeBack, cX6_canComeBack, 3, (some .boolean))
def mX3_comeBack : iv_M := (yX3_comeBack, cX3_comeBack, 4, none)
def mX6_bring : iv_M := (yX6_bring, cX6_bring, 4, (some .int))
def mX6_move : iv_M := (yX6_move, cX6_move, 3, (some .boolean))
def mX6_run : iv_M := (yX6_run, cX6_run, 3, (some .int))
def mX6_passHour : iv_M := (yX6_passHour, cX6_passHour, 3, none)
def mX6_priceNow : iv_M := (yX6_priceNow, cX6_priceNow, 1, (some .int))
def mJ9_floorMod_7cf53 : iv_M := (yJ9_floorMod_7cf53, cJ9_floorMod_7cf53, 3, (some .int))
def mX0_size : iv_M := (yX0_size, cX0_size, 1, (some .int))
def mX6_chargeIn : iv_M := (yX6_chargeIn, cX6_chargeIn, 6, none)
def mX6_countReadyIn : iv_M := (yX6_countReadyIn, cX6_countReadyIn, 4, (some .int))
def mX6_nextToCharge : iv_M := (yX6_nextToCharge, cX6_nextToCharge, 4, (some .int))
def mX3_load : iv_M := (yX3_load, cX3_load, 5, none)
def mJ9_min_7cf53 : iv_M := (yJ9_min_7cf53, cJ9_min_7cf53, 2, (some .int))
def mX6_count : iv_M := (yX6_count, cX6_count, 2, (some .int))
def mX3_countSick : iv_M := (yX3_countSick, cX3_countSick, 3, (some .int))
def mX3_countOld : iv_M := (yX3_countOld, cX3_countOld, 4, (some .int))
def mX6_in : iv_M := (yX6_in, cX6_in, 3, (some .int))
def mX6_need : iv_M := (yX6_need, cX6_need, 2, (some .int))
def mX1_addNeed : iv_M := (yX1_addNeed, cX1_addNeed, 2, (some .int))
def mX6_clear : iv_M := (yX6_clear, cX6_clear, 2, (some .int))
def mX6_plan : iv_M := (yX6_plan, cX6_plan, 2, (some .int))
def mX1_keepLeast : iv_M := (yX1_keepLeast, cX1_keepLeast, 6, (some .int))
def mX1_begin : iv_M := (yX1_begin, cX1_begin, 5, none)
def mX1_cheapestUnfilled : iv_M := (yX1_cheapestUnfilled, cX1_cheapestUnfilled, 3, (some .int))
def mX1_fill : iv_M := (yX1_fill, cX1_fill, 5, none)
def mX1_keepDraft : iv_M := (yX1_keepDraft, cX1_keepDraft, 3, (some .int))
def mX6_planned : iv_M := (yX6_planned, cX6_planned, 2, (some .int))
def mX6_wish : iv_M := (yX6_wish, cX6_wish, 3, (some .boolean))
def mX6_round : iv_M := (yX6_round, cX6_round, 2, (some .int))
def mX5_begin : iv_M := (yX5_begin, cX5_begin, 2, none)
def mX5_addSurplus : iv_M := (yX5_addSurplus, cX5_addSurplus, 3, none)
def mX5_keepShortest : iv_M := (yX5_keepShortest, cX5_keepShortest, 2, (some .int))
def mX5_extend : iv_M := (yX5_extend, cX5_extend, 11, none)
def mX5_keepRow : iv_M := (yX5_keepRow, cX5_keepRow, 3, none)
def mX4_distance : iv_M := (yX4_distance, cX4_distance, 4, (some .int))
def mJ9_abs_0f7a4 : iv_M := (yJ9_abs_0f7a4, cJ9_abs_0f7a4, 1, (some .int))
def mX6_stop : iv_M := (yX6_stop, cX6_stop, 2, (some .int))
def mX6_point : iv_M := (yX6_point, cX6_point, 4, (some .int))
def mX6_places : iv_M := (yX6_places, cX6_places, 2, (some .int))
def mX2_keepBest : iv_M := (yX2_keepBest, cX2_keepBest, 7, (some .int))
def mX2_measureCabinetWays : iv_M := (yX2_measureCabinetWays, cX2_measureCabinetWays, 5, none)
def mJ6_bitCount_0f7a4 : iv_M := (yJ6_bitCount_0f7a4, cJ6_bitCount_0f7a4, 1, (some .int))
def mX2_sumOfWays : iv_M := (yX2_sumOfWays, cX2_sumOfWays, 6, (some .int))
def mX2_isFirstRow : iv_M := (yX2_isFirstRow, cX2_isFirstRow, 4, (some .boolean))
def mX6_chosen : iv_M := (yX6_chosen, cX6_chosen, 1, (some .int))
def mX6_of : iv_M := (yX6_of, cX6_of, 3, (some .int))
def mX7_thrown : iv_M := (yX7_thrown, cX7_thrown, 1, (some .int))
def mX7_cabinet : iv_M := (yX7_cabinet, cX7_cabinet, 7, (some .int))
def mX7_in : iv_M := (yX7_in, cX7_in, 3, (some .boolean))
def mX7_pack : iv_M := (yX7_pack, cX7_pack, 3, (some .int))
def mX7_isCabinet : iv_M := (yX7_isCabinet, cX7_isCabinet, 2, (some .boolean))
def mX7_hasSlot : iv_M := (yX7_hasSlot, cX7_hasSlot, 2, (some .boolean))
def mX7_inside : iv_M := (yX7_inside, cX7_inside, 4, (some .int))
def mX7_set : iv_M := (yX7_set, cX7_set, 4, (some .int))
def mX7_leastOf : iv_M := (yX7_leastOf, cX7_leastOf, 1, (some .int))
def mX7_mostOf : iv_M := (yX7_mostOf, cX7_mostOf, 1, (some .int))
def mX7_price : iv_M := (yX7_price, cX7_price, 3, (some .boolean))
def mX7_sick : iv_M := (yX7_sick, cX7_sick, 3, (some .boolean))
def mX7_isPack : iv_M := (yX7_isPack, cX7_isPack, 2, (some .boolean))
def mX7_take : iv_M := (yX7_take, cX7_take, 3, (some .int))
def mX7_given : iv_M := (yX7_given, cX7_given, 4, (some .int))
def mX7_isReady : iv_M := (yX7_isReady, cX7_isReady, 2, (some .boolean))
def mX7_isFit : iv_M := (yX7_isFit, cX7_isFit, 2, (some .boolean))
def mX7_isAhead : iv_M := (yX7_isAhead, cX7_isAhead, 3, (some .boolean))
def mX7_swap : iv_M := (yX7_swap, cX7_swap, 5, (some .int))
def mX7_mayCome : iv_M := (yX7_mayCome, cX7_mayCome, 3, (some .boolean))
def mX7_bring : iv_M := (yX7_bring, cX7_bring, 4, (some .int))
def mX7_move : iv_M := (yX7_move, cX7_move, 3, (some .boolean))
def mX7_run : iv_M := (yX7_run, cX7_run, 3, (some .int))
def mX7_goHour : iv_M := (yX7_goHour, cX7_goHour, 7, none)
def mX7_line : iv_M := (yX7_line, cX7_line, 5, (some .int))
def mX7_readyIn : iv_M := (yX7_readyIn, cX7_readyIn, 4, (some .int))
def mX7_count : iv_M := (yX7_count, cX7_count, 4, (some .int))
def mX7_of : iv_M := (yX7_of, cX7_of, 3, (some .int))
def mX7_in_ : iv_M := (yX7_in_, cX7_in_, 3, (some .int))
def mX7_need : iv_M := (yX7_need, cX7_need, 2, (some .int))
def mX7_clear : iv_M := (yX7_clear, cX7_clear, 2, (some .int))
def mX7_plan : iv_M := (yX7_plan, cX7_plan, 8, (some .int))
def mX7_planned : iv_M := (yX7_planned, cX7_planned, 2, (some .int))
def mX7_wish : iv_M := (yX7_wish, cX7_wish, 3, (some .boolean))
def mX7_round : iv_M := (yX7_round, cX7_round, 3, (some .int))
def mX7_goOn : iv_M := (yX7_goOn, cX7_goOn, 12, none)
def mX7_away : iv_M := (yX7_away, cX7_away, 4, (some .int))
def mX7_stop : iv_M := (yX7_stop, cX7_stop, 2, (some .int))
def mX7_point : iv_M := (yX7_point, cX7_point, 4, (some .int))
def mX7_places : iv_M := (yX7_places, cX7_places, 6, (some .int))
def mX7_sumOf : iv_M := (yX7_sumOf, cX7_sumOf, 6, (some .int))
def mX7_isFirst : iv_M := (yX7_isFirst, cX7_isFirst, 2, (some .boolean))
def mJ6_numberOfTrailingZeros_0f7a4 : iv_M := (yJ6_numberOfTrailingZeros_0f7a4, cJ6_numberOfTrailingZeros_0f7a4, 2, (some .int))
def mX7_chosen : iv_M := (yX7_chosen, cX7_chosen, 1, (some .int))
def flX0 : List (Nat × Nat × Nat) := [(14, 0, 0), (20, 0, 1), (24, 0, 2), (27, 0, 3), (30, 0, 4), (33, 0, 5), (36, 4, 2)]
def csX0 : List (Nat × Int32) := []
def cvX0 : List (Nat × iv_C) := [(40, (3, none, false, mX6_isWithin)), (44, (3, some 4, false, mX4_add))]
def tbX0 : iv_B := (fun i => flX0.lookup i, fun i => csX0.lookup i, fun i => cvX0.lookup i)
def flX1 : List (Nat × Nat × Nat) := [(9, 1, 0), (15, 1, 1), (18, 1, 2), (21, 1, 3), (24, 1, 4), (27, 1, 5), (55, 1, 6)]
def csX1 : List (Nat × Int32) := []
def cvX1 : List (Nat × iv_C) := [(31, (3, some 1, true, mX1_begin)), (35, (1, some 1, false, mX1_cheapestUnfilled)), (39, (3, some 1, true, mX1_fill)), (43, (1, some 1, false, mX1_keepDraft)), (46, (2, none, false, mJ9_floorMod_7cf53)), (52, (2, none, false, mJ9_min_7cf53))]
def tbX1 : iv_B := (fun i => flX1.lookup i, fun i => csX1.lookup i, fun i => cvX1.lookup i)
def flX2 : List (Nat × Nat × Nat) := [(14, 2, 0), (20, 2, 1), (23, 2, 2), (31, 4, 2), (48, 2, 3), (51, 4, 0), (54, 4, 1)]
def csX2 : List (Nat × Int32) := []
def cvX2 : List (Nat × iv_C) := [(27, (2, some 2, true, mX2_measureCabinetWays)), (35, (1, none, false, mJ6_bitCount_0f7a4)), (41, (2, some 2, false, mX2_sumOfWays)), (44, (2, none, false, mX2_isFirstRow)), (57, (4, some 4, false, mX4_distance)), (61, (2, none, false, mJ9_min_7cf53))]
def tbX2 : iv_B := (fun i => flX2.lookup i, fun i => csX2.lookup i, fun i => cvX2.lookup i)
def flX3 : List (Nat × Nat × Nat) := [(9, 3, 0), (15, 3, 1), (18, 3, 2), (22, 3, 3), (25, 3, 4), (28, 3, 5)]
def csX3 : List (Nat × Int32) := []
def cvX3 : List (Nat × iv_C) := [(32, (3, none, false, mX6_isWithin)), (36, (2, none, false, mJ9_min_7cf53))]
def tbX3 : iv_B := (fun i => flX3.lookup i, fun i => csX3.lookup i, fun i => cvX3.lookup i)
def flX4 : List (Nat × Nat × Nat) := [(15, 4, 0), (21, 4, 1), (24, 4, 2)]
def csX4 : List (Nat × Int32) := []
def cvX4 : List (Nat × iv_C) := [(9, (2, none, false, mJ9_max_7cf53)), (28, (1, none, false, mJ9_abs_0f7a4))]
def tbX4 : iv_B := (fun i => flX4.lookup i, fun i => csX4.lookup i, fun i => cvX4.lookup i)
def flX5 : List (Nat × Nat × Nat) := [(9, 5, 0), (15, 5, 1), (19, 5, 2), (22, 5, 3), (25, 5, 5), (29, 5, 6), (32, 5, 7), (43, 4, 2), (56, 4, 0), (59, 4, 1), (62, 5, 4)]
def csX5 : List (Nat × Int32) := []
def cvX5 : List (Nat × iv_C) := [(35, (7, some 5, true, mX5_extend)), (39, (2, some 5, true, mX5_keepRow)), (48, (3, none, false, mX6_isWithin)), (52, (4, some 4, false, mX4_distance))]
def tbX5 : iv_B := (fun i => flX5.lookup i, fun i => csX5.lookup i, fun i => cvX5.lookup i)
def flX6 : List (Nat × Nat × Nat) := [(7, 6, 0), (13, 6, 1), (19, 6, 2), (26, 6, 3), (33, 6, 4), (40, 6, 5), (47, 6, 6), (85, 3, 2), (93, 3, 3), (113, 6, 7), (124, 3, 5), (132, 1, 5), (133, 2, 0), (137, 4, 2), (140, 2, 1), (153, 3, 0), (156, 3, 1), (167, 0, 4), (170, 0, 5), (180, 1, 6), (183, 1, 4), (194, 0, 0), (201, 5, 4), (202, 5, 3), (208, 2, 3), (210, 0, 1), (227, 0, 2), (230, 0, 3), (239, 3, 4)]
def csX6 : List (Nat × Int32) := []
def cvX6 : List (Nat × iv_C) := [(51, (2, none, true, mJ7_fill_53178)), (57, (2, none, false, mX6_isInTown)), (61, (3, none, false, mX6_isWithin)), (65, (6, some 0, false, mX0_add)), (69, (2, some 6, false, mX6_hasSlotLeft)), (73, (3, some 3, false, mX3_add)), (82, (2, some 3, false, mX3_has)), (89, (2, some 6, false, mX6_givenIn)), (96, (2, some 0, false, mX0_has)), (97, (3, some 6, false, mX6_canComeBack)), (100, (2, some 6, false, mX6_take)), (103, (4, some 3, true, mX3_comeBack)), (107, (2, some 3, false, mX3_countIn)), (110, (2, some 3, false, mX3_isOut)), (117, (1, some 6, true, mX6_passHour)), (120, (1, some 0, false, mX0_size)), (126, (1, some 3, false, mX3_countSick)), (129, (2, some 3, false, mX3_countOld)), (143, (1, some 6, false, mX6_priceNow)), (159, (2, some 6, false, mX6_isReady)), (164, (2, some 6, false, mX6_countReadyIn)), (173, (2, some 1, false, mX1_addNeed)), (176, (4, some 1, false, mX1_keepLeast)), (186, (2, some 5, true, mX5_begin)), (190, (3, some 5, true, mX5_addSurplus)), (197, (2, some 5, false, mX5_keepShortest)), (203, (3, some 4, false, mX4_add)), (204, (3, some 2, false, mX2_keepBest)), (213, (3, some 3, false, mX3_isFit)), (216, (3, some 3, false, mX3_former)), (219, (2, none, false, mJ9_floorMod_7cf53)), (224, (3, some 6, true, mX6_chargeIn)), (233, (2, some 6, false, mX6_nextToCharge)), (236, (4, some 3, true, mX3_load))]
def tbX6 : iv_B := (fun i => flX6.lookup i, fun i => csX6.lookup i, fun i => cvX6.lookup i)
def flX7 : List (Nat × Nat × Nat) := [(9, 7, 0), (13, 7, 2), (16, 7, 3), (19, 7, 4), (22, 7, 5), (26, 7, 7), (29, 7, 8), (32, 7, 10), (35, 7, 12), (38, 7, 14), (41, 7, 16), (44, 7, 17), (47, 7, 19), (50, 7, 20), (53, 7, 24), (56, 7, 25), (59, 7, 26), (62, 7, 27), (65, 7, 28), (68, 7, 23), (72, 7, 1), (79, 7, 6), (119, 7, 9), (137, 7, 11), (140, 7, 18), (143, 7, 21), (147, 7, 13), (153, 7, 29), (169, 7, 15), (181, 7, 22)]
def csX7 : List (Nat × Int32) := [(103, 100000), (146, 268435456)]
def cvX7 : List (Nat × iv_C) := [(75, (3, none, false, mX7_in)), (82, (2, some 7, false, mX7_inside)), (86, (2, some 7, false, mX7_isFit)), (90, (2, some 7, false, mX7_isReady)), (93, (3, some 7, false, mX7_isAhead)), (97, (2, some 7, false, mX7_isCabinet)), (100, (2, some 7, false, mX7_hasSlot)), (104, (1, none, false, mX7_leastOf)), (107, (1, none, false, mX7_mostOf)), (110, (2, some 7, false, mX7_isPack)), (113, (2, some 7, false, mX7_given)), (116, (3, some 7, false, mX7_mayCome)), (122, (2, some 7, false, mX7_line)), (125, (2, some 7, false, mX7_readyIn)), (128, (2, none, false, mJ9_min_7cf53)), (134, (1, some 7, true, mX7_goHour)), (150, (1, none, false, mJ9_abs_0f7a4)), (156, (4, none, false, mX7_away)), (160, (8, some 7, true, mX7_goOn)), (164, (1, none, false, mJ6_bitCount_0f7a4)), (172, (1, none, false, mJ6_numberOfTrailingZeros_0f7a4)), (175, (2, some 7, false, mX7_sumOf)), (178, (2, none, false, mX7_isFirst))]
def tbX7 : iv_B := (fun i => flX7.lookup i, fun i => csX7.lookup i, fun i => cvX7.lookup i)
def flJ6 : List (Nat × Nat × Nat) := []
def csJ6 : List (Nat × Int32) := [(264, 65536), (265, 1431655765), (266, 858993459), (267, 252645135)]
def cvJ6 : List (Nat × iv_C) := []
def tbJ6 : iv_B := (fun i => flJ6.lookup i, fun i => csJ6.lookup i, fun i => cvJ6.lookup i)
def flJ9 : List (Nat × Nat × Nat) := []
def csJ9 : List (Nat × Int32) := []
def cvJ9 : List (Nat × iv_C) := []
def tbJ9 : iv_B := (fun i => flJ9.lookup i, fun i => csJ9.lookup i, fun i => cvJ9.lookup i)
def flJ7 : List (Nat × Nat × Nat) := []
def csJ7 : List (Nat × Int32) := []
def cvJ7 : List (Nat × iv_C) := []
def tbJ7 : iv_B := (fun i => flJ7.lookup i, fun i => csJ7.lookup i, fun i => cvJ7.lookup i)
