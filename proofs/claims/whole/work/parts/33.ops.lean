section ZO
variable {X : iv_X} {d : Nat} {σ : iv_S}
set_option maxRecDepth 20000 in
set_option maxHeartbeats 4000000 in
theorem ct_cabinet {nc : Nat} (hc : σ 4 2 = nI nc) (hnc : nc ≤ 6) (x y s l m : Int32) : iv_Ct X mX6_cabinet (d + 3) [.inl 0, .inr x, .inr y, .inr s, .inr l, .inr m] σ (fun r u =>
    ((zw x 0 99 && (zw y 0 99 && (zw s 1 8 && (zw l 0 8 && (zw m 0 8 && decide (nc < 6)))))) = true → r = nI nc ∧ u = iv_u (iv_u (iv_u (iv_u (iv_u (iv_u σ 5 nc x) 6 nc y) 4 2 (nI (nc + 1))) 7 nc s) 8 nc l) 9 nc m) ∧
    ((zw x 0 99 && (zw y 0 99 && (zw s 1 8 && (zw l 0 8 && (zw m 0 8 && decide (nc < 6)))))) = false → r = -1 ∧ u = σ)) := by
  refine iv_ctl (own := RX6) (b := tbX6) (ls := [some (.inl 0), some (.inr x), some (.inr y), some (.inr s), some (.inr l), some (.inr m)]) (plainFor_of_name (by decide)) rfl okX6 (Nat.le_of_ble_eq_true rfl) rfl ?_
  refine iv_blk [] 60 ?_
  simp only [iv_sn, ie_cl0, ie_cl1, ie_cl2, ie_cl3, ie_cl4, ie_cl5, ie_cl6, ie_cl7, ie_cl8, ie_v5_0, ie_v5_1, ie_v5_2, ie_v5_3, ie_v5_4, ie_v6_0, ie_v8_0, ie_v12_0, ie_v24_0, ie_v30_0, ie_v3380_0, true_implies, false_implies, not_true_eq_false, implies_true, ie_10, ie_m10, ie_mm, iv_u_eq, iv_u_ne, Nat.reduceEqDiff, ie_p1, ie_p2, ie_pr, ie_pa, ie_ps, ie_d1, ie_d2, ie_r1, ie_o, ie_gr, ie_gi, ie_pt, ie_pf, ie_ri, ie_rz, ie_br, ie_c1eq, ie_c1ne, ie_c1lt, ie_c1ge, ie_c1gt, ie_c1le, ie_c2eq, ie_c2ne, ie_c2lt, ie_c2ge, ie_c2gt, ie_c2le, ie_fn0, ie_fn1, ie_fn2, ie_fn3, Nat.reduceAdd, ie_nc, Int.reduceAdd, Int.reduceLE, Int.reduceToNat, Nat.reduceLT, Nat.reduceLeDiff, Int.reduceNeg, eq_self, true_and, and_true, true_or, or_true, Nat.reduceBEq, List.elem_cons, List.elem_nil, Bool.or_false, Bool.false_or, Bool.or_true, Bool.true_or, Bool.false_eq_true, if_false, if_true, reduceIte, reduceCtorEq, ne_eq, not_false_eq_true, Classical.not_not, List.length_cons, List.length_nil, Nat.zero_le, List.map_cons, List.map_nil, List.cons_append, List.nil_append, List.replicate_succ, List.replicate_zero, Nat.reduceSub, sX6_cabinet_0, sX6_cabinet_1, sX6_cabinet_2, sX6_cabinet_5, sX6_cabinet_8, sX6_cabinet_9, sX6_cabinet_10, sX6_cabinet_12, sX6_cabinet_15, sX6_cabinet_18, sX6_cabinet_20, sX6_cabinet_21, sX6_cabinet_23, sX6_cabinet_26, sX6_cabinet_29, sX6_cabinet_31, sX6_cabinet_32, sX6_cabinet_34, sX6_cabinet_37, sX6_cabinet_40, sX6_cabinet_41, sX6_cabinet_42, sX6_cabinet_43, sX6_cabinet_46, sX6_cabinet_47, sX6_cabinet_48, sX6_cabinet_49, sX6_cabinet_51, sX6_cabinet_53, sX6_cabinet_56, cvX6_57, cvX6_61, cvX6_65, gfX6_19_0, ie_b8, ie_call1, ie_call2, ie_call3, ie_call4, ie_call5, ie_call6, ie_call7, ie_call8, ie_i0, ie_i1, ie_im1, ie_li1, ie_li2, ie_li3, ie_li4, ie_li5, ie_lr0, ie_rc1, ie_rc2, ie_rc3, ie_rc4, ie_rc5, ie_rc6, ie_rc7, ie_rc8, iv_cls_0, iv_cls_12, iv_cls_18, iv_cls_24, iv_cls_29, iv_cls_3, iv_cls_30, iv_cls_33, iv_cls_37, iv_cls_4]
  refine ⟨_, ct_isInTown _ _, ?_⟩
  rintro r1 σ1 ⟨rfl, rfl⟩
  simp only [zb0, zbn]
  refine ⟨fun h => ?_, fun h => ?_⟩
  · rcases Bool.and_eq_false_iff.mp h with h | h <;> simp [h]
  refine ⟨_, ct_isWithin _ _ _, ?_⟩
  rintro r1 σ1 ⟨rfl, rfl⟩
  simp only [zb0, zbn]
  refine ⟨fun h2 => by simp [h2], fun h2 => ?_⟩
  refine ⟨_, ct_isWithin _ _ _, ?_⟩
  rintro r1 σ1 ⟨rfl, rfl⟩
  simp only [zb0, zbn]
  refine ⟨fun h3 => by simp [h3], fun h3 => ?_⟩
  refine ⟨_, ct_isWithin _ _ _, ?_⟩
  rintro r1 σ1 ⟨rfl, rfl⟩
  simp only [zb0, zbn]
  refine ⟨fun h4 => ?_, fun h4 => by simp [h4]⟩
  refine ⟨_, ct_cadd hc hnc _ _ _ _ _, ?_⟩
  rintro r1 σ2 ⟨h5, h6⟩
  obtain ⟨ha, hb⟩ := Bool.and_eq_true_iff.mp h
  simp only [ha, hb, h2, h3, h4, Bool.true_and, decide_eq_true_eq, decide_eq_false_iff_not]
  exact ⟨h5, h6⟩
set_option maxRecDepth 20000 in
set_option maxHeartbeats 4000000 in
theorem ct_pack {n nc : Nat} (hs : σ 12 5 = nI n) (hn : n ≤ 30) (hc : σ 4 2 = nI nc) (hnc : nc ≤ 6) (c v : Int32) : iv_Ct X mX6_pack (d + 4) [.inl 0, .inr c, .inr v] σ (fun r u =>
    ((gSlot nc n (σ 16) (σ 7) c && (zw v 0 100 && decide (n < 30))) = true → r = nI n ∧ u = iv_u (iv_u (iv_u (iv_u σ 13 n v) 16 n c) 17 n (-1)) 12 5 (nI (n + 1))) ∧
    ((gSlot nc n (σ 16) (σ 7) c && (zw v 0 100 && decide (n < 30))) = false → r = -1 ∧ u = σ)) := by
  refine iv_ctl (own := RX6) (b := tbX6) (ls := [some (.inl 0), some (.inr c), some (.inr v)]) (plainFor_of_name (by decide)) rfl okX6 (Nat.le_of_ble_eq_true rfl) rfl ?_
  refine iv_blk [] 60 ?_
  simp only [iv_sn, ie_cl0, ie_cl1, ie_cl2, ie_cl3, ie_cl4, ie_cl5, ie_cl6, ie_cl7, ie_cl8, ie_v5_0, ie_v5_1, ie_v5_2, ie_v5_3, ie_v5_4, ie_v6_0, ie_v8_0, ie_v12_0, ie_v24_0, ie_v30_0, ie_v3380_0, true_implies, false_implies, not_true_eq_false, implies_true, ie_10, ie_m10, ie_mm, iv_u_eq, iv_u_ne, Nat.reduceEqDiff, ie_p1, ie_p2, ie_pr, ie_pa, ie_ps, ie_d1, ie_d2, ie_r1, ie_o, ie_gr, ie_gi, ie_pt, ie_pf, ie_ri, ie_rz, ie_br, ie_c1eq, ie_c1ne, ie_c1lt, ie_c1ge, ie_c1gt, ie_c1le, ie_c2eq, ie_c2ne, ie_c2lt, ie_c2ge, ie_c2gt, ie_c2le, ie_fn0, ie_fn1, ie_fn2, ie_fn3, Nat.reduceAdd, ie_nc, Int.reduceAdd, Int.reduceLE, Int.reduceToNat, Nat.reduceLT, Nat.reduceLeDiff, Int.reduceNeg, eq_self, true_and, and_true, true_or, or_true, Nat.reduceBEq, List.elem_cons, List.elem_nil, Bool.or_false, Bool.false_or, Bool.or_true, Bool.true_or, Bool.false_eq_true, if_false, if_true, reduceIte, reduceCtorEq, ne_eq, not_false_eq_true, Classical.not_not, List.length_cons, List.length_nil, Nat.zero_le, List.map_cons, List.map_nil, List.cons_append, List.nil_append, List.replicate_succ, List.replicate_zero, Nat.reduceSub, sX6_pack_0, sX6_pack_1, sX6_pack_2, sX6_pack_5, sX6_pack_8, sX6_pack_9, sX6_pack_10, sX6_pack_12, sX6_pack_15, sX6_pack_18, sX6_pack_19, sX6_pack_20, sX6_pack_21, sX6_pack_24, sX6_pack_25, sX6_pack_26, sX6_pack_29, cvX6_61, cvX6_69, cvX6_73, gfX6_26_0, ie_b100, ie_call1, ie_call2, ie_call3, ie_call4, ie_call5, ie_call6, ie_call7, ie_call8, ie_i0, ie_im1, ie_li1, ie_li2, ie_lr0, ie_rc1, ie_rc2, ie_rc3, ie_rc4, ie_rc5, ie_rc6, ie_rc7, ie_rc8, iv_cls_0, iv_cls_12, iv_cls_18, iv_cls_24, iv_cls_29, iv_cls_3, iv_cls_30, iv_cls_33, iv_cls_37, iv_cls_4]
  refine ⟨_, ct_hasSlotLeft hs hn hc hnc _, ?_⟩
  rintro r1 σ1 ⟨rfl, rfl⟩
  simp only [zb0, zbn]
  refine ⟨fun h => by simp [h], fun h => ?_⟩
  refine ⟨_, ct_isWithin _ _ _, ?_⟩
  rintro r1 σ1 ⟨rfl, rfl⟩
  simp only [zb0, zbn]
  refine ⟨fun h2 => ?_, fun h2 => by simp [h2]⟩
  refine ⟨_, ct_packAdd hs hn _ _, ?_⟩
  rintro r1 σ2 ⟨h5, h6⟩
  simp only [h, h2, Bool.true_and, decide_eq_true_eq, decide_eq_false_iff_not]
  exact ⟨h5, h6⟩
set_option maxRecDepth 20000 in
set_option maxHeartbeats 4000000 in
theorem ct_price (h v : Int32) : iv_Ct X mX6_price (d + 2) [.inl 0, .inr h, .inr v] σ (fun r u => r = zb (zw h 0 23 && zw v 0 1000) ∧ u = (if (zw h 0 23 && zw v 0 1000) = true then iv_u σ 2 h.toNatClampNeg v else σ)) := by
  refine iv_ctl (own := RX6) (b := tbX6) (ls := [some (.inl 0), some (.inr h), some (.inr v)]) (plainFor_of_name (by decide)) rfl okX6 (Nat.le_of_ble_eq_true rfl) rfl ?_
  refine iv_blk [] 60 ?_
  simp only [iv_sn, ie_cl0, ie_cl1, ie_cl2, ie_cl3, ie_cl4, ie_cl5, ie_cl6, ie_cl7, ie_cl8, ie_v5_0, ie_v5_1, ie_v5_2, ie_v5_3, ie_v5_4, ie_v6_0, ie_v8_0, ie_v12_0, ie_v24_0, ie_v30_0, ie_v3380_0, true_implies, false_implies, not_true_eq_false, implies_true, ie_10, ie_m10, ie_mm, iv_u_eq, iv_u_ne, Nat.reduceEqDiff, ie_p1, ie_p2, ie_pr, ie_pa, ie_ps, ie_d1, ie_d2, ie_r1, ie_o, ie_gr, ie_gi, ie_pt, ie_pf, ie_ri, ie_rz, ie_br, ie_c1eq, ie_c1ne, ie_c1lt, ie_c1ge, ie_c1gt, ie_c1le, ie_c2eq, ie_c2ne, ie_c2lt, ie_c2ge, ie_c2gt, ie_c2le, ie_fn0, ie_fn1, ie_fn2, ie_fn3, Nat.reduceAdd, ie_nc, Int.reduceAdd, Int.reduceLE, Int.reduceToNat, Nat.reduceLT, Nat.reduceLeDiff, Int.reduceNeg, eq_self, true_and, and_true, true_or, or_true, Nat.reduceBEq, List.elem_cons, List.elem_nil, Bool.or_false, Bool.false_or, Bool.or_true, Bool.true_or, Bool.false_eq_true, if_false, if_true, reduceIte, reduceCtorEq, ne_eq, not_false_eq_true, Classical.not_not, List.length_cons, List.length_nil, Nat.zero_le, List.map_cons, List.map_nil, List.cons_append, List.nil_append, List.replicate_succ, List.replicate_zero, Nat.reduceSub, sX6_price_0, sX6_price_1, sX6_price_2, sX6_price_4, sX6_price_7, sX6_price_10, sX6_price_11, sX6_price_12, sX6_price_15, sX6_price_18, sX6_price_21, sX6_price_22, sX6_price_23, sX6_price_24, sX6_price_27, sX6_price_28, sX6_price_29, sX6_price_30, sX6_price_31, cvX6_61, gfX6_13_0, ie_b23, ie_call1, ie_call2, ie_call3, ie_call4, ie_call5, ie_call6, ie_call7, ie_call8, ie_i0, ie_i1, ie_li1, ie_li2, ie_lr0, ie_s1000, iv_ar_1, iv_ar_10, iv_ar_11, iv_ar_13, iv_ar_14, iv_ar_15, iv_ar_16, iv_ar_17, iv_ar_19, iv_ar_2, iv_ar_20, iv_ar_21, iv_ar_22, iv_ar_23, iv_ar_25, iv_ar_26, iv_ar_27, iv_ar_28, iv_ar_31, iv_ar_32, iv_ar_34, iv_ar_35, iv_ar_36, iv_ar_38, iv_ar_39, iv_ar_40, iv_ar_41, iv_ar_42, iv_ar_43, iv_ar_44, iv_ar_45, iv_ar_46, iv_ar_47, iv_ar_48, iv_ar_49, iv_ar_5, iv_ar_50, iv_ar_51, iv_ar_52, iv_ar_53, iv_ar_54, iv_ar_55, iv_ar_56, iv_ar_6, iv_ar_7, iv_ar_8, iv_ar_9]
  refine ⟨_, ct_isWithin _ _ _, ?_⟩
  rintro r1 σ1 ⟨rfl, rfl⟩
  simp only [zb0, zbn]
  refine ⟨fun h1 => by simp [h1, zb], fun h1 => ?_⟩
  refine ⟨_, ct_isWithin _ _ _, ?_⟩
  rintro r1 σ1 ⟨rfl, rfl⟩
  simp only [zb0, zbn]
  refine ⟨fun h2 => ⟨z_vin (n := 24) h1 (by decide) (by decide), by simp [h1, h2, zb]⟩, fun h2 => by simp [h2, zb]⟩
set_option maxRecDepth 20000 in
set_option maxHeartbeats 4000000 in
theorem ct_sick {n : Nat} (hs : σ 12 5 = nI n) (hn : n ≤ 30) (p b : Int32) : iv_Ct X mX6_sick (d + 3) [.inl 0, .inr p, .inr b] σ (fun r u => r = zb (zw p 0 (nI n - 1)) ∧ u = (if zw p 0 (nI n - 1) = true then iv_u σ 15 p.toNatClampNeg (vp_nar .boolean b) else σ)) := by
  refine iv_ctl (own := RX6) (b := tbX6) (ls := [some (.inl 0), some (.inr p), some (.inr b)]) (plainFor_of_name (by decide)) rfl okX6 (Nat.le_of_ble_eq_true rfl) rfl ?_
  refine iv_blk [] 60 ?_
  simp only [iv_sn, ie_cl0, ie_cl1, ie_cl2, ie_cl3, ie_cl4, ie_cl5, ie_cl6, ie_cl7, ie_cl8, ie_v5_0, ie_v5_1, ie_v5_2, ie_v5_3, ie_v5_4, ie_v6_0, ie_v8_0, ie_v12_0, ie_v24_0, ie_v30_0, ie_v3380_0, true_implies, false_implies, not_true_eq_false, implies_true, ie_10, ie_m10, ie_mm, iv_u_eq, iv_u_ne, Nat.reduceEqDiff, ie_p1, ie_p2, ie_pr, ie_pa, ie_ps, ie_d1, ie_d2, ie_r1, ie_o, ie_gr, ie_gi, ie_pt, ie_pf, ie_ri, ie_rz, ie_br, ie_c1eq, ie_c1ne, ie_c1lt, ie_c1ge, ie_c1gt, ie_c1le, ie_c2eq, ie_c2ne, ie_c2lt, ie_c2ge, ie_c2gt, ie_c2le, ie_fn0, ie_fn1, ie_fn2, ie_fn3, Nat.reduceAdd, ie_nc, Int.reduceAdd, Int.reduceLE, Int.reduceToNat, Nat.reduceLT, Nat.reduceLeDiff, Int.reduceNeg, eq_self, true_and, and_true, true_or, or_true, Nat.reduceBEq, List.elem_cons, List.elem_nil, Bool.or_false, Bool.false_or, Bool.or_true, Bool.true_or, Bool.false_eq_true, if_false, if_true, reduceIte, reduceCtorEq, ne_eq, not_false_eq_true, Classical.not_not, List.length_cons, List.length_nil, Nat.zero_le, List.map_cons, List.map_nil, List.cons_append, List.nil_append, List.replicate_succ, List.replicate_zero, Nat.reduceSub, sX6_sick_0, sX6_sick_1, sX6_sick_4, sX6_sick_5, sX6_sick_8, sX6_sick_11, sX6_sick_12, sX6_sick_13, sX6_sick_14, sX6_sick_17, sX6_sick_20, sX6_sick_21, sX6_sick_22, sX6_sick_23, sX6_sick_24, cvX6_82, gfX6_26_0, gfX6_85_12, ie_call1, ie_call2, ie_call3, ie_call4, ie_call5, ie_call6, ie_call7, ie_call8, ie_i0, ie_i1, ie_li1, ie_li2, ie_lr0, ie_rc1, ie_rc2, ie_rc3, ie_rc4, ie_rc5, ie_rc6, ie_rc7, ie_rc8, iv_ar_1, iv_ar_10, iv_ar_11, iv_ar_13, iv_ar_14, iv_ar_15, iv_ar_16, iv_ar_17, iv_ar_19, iv_ar_2, iv_ar_20, iv_ar_21, iv_ar_22, iv_ar_23, iv_ar_25, iv_ar_26, iv_ar_27, iv_ar_28, iv_ar_31, iv_ar_32, iv_ar_34, iv_ar_35, iv_ar_36, iv_ar_38, iv_ar_39, iv_ar_40, iv_ar_41, iv_ar_42, iv_ar_43, iv_ar_44, iv_ar_45, iv_ar_46, iv_ar_47, iv_ar_48, iv_ar_49, iv_ar_5, iv_ar_50, iv_ar_51, iv_ar_52, iv_ar_53, iv_ar_54, iv_ar_55, iv_ar_56, iv_ar_6, iv_ar_7, iv_ar_8, iv_ar_9, iv_cls_0, iv_cls_12, iv_cls_18, iv_cls_24, iv_cls_29, iv_cls_3, iv_cls_30, iv_cls_33, iv_cls_37, iv_cls_4]
  refine ⟨_, ct_has _, ?_⟩
  rintro r1 σ1 ⟨rfl, rfl⟩
  simp only [zb0, zbn, hs]
  refine ⟨fun h1 => ⟨z_vin h1 hn (by decide), by simp [h1, zb]⟩, fun h1 => by simp [h1, zb]⟩
set_option maxRecDepth 20000 in
set_option maxHeartbeats 4000000 in
theorem ct_take {n nc : Nat} (hs : σ 12 5 = nI n) (hn : n ≤ 30) (hc : σ 4 2 = nI nc) (c : Int32) : iv_Ct X mX6_take (d + 4) [.inl 0, .inr c] σ (fun r u => r = zo (gGiv nc n (σ 13) (σ 14) (σ 15) (σ 16) (σ 1) c) ∧ u = zout σ 16 (gGiv nc n (σ 13) (σ 14) (σ 15) (σ 16) (σ 1) c)) := by
  refine iv_ctl (own := RX6) (b := tbX6) (ls := [some (.inl 0), some (.inr c), none]) (plainFor_of_name (by decide)) rfl okX6 (Nat.le_of_ble_eq_true rfl) rfl ?_
  refine iv_blk [] 60 ?_
  simp only [iv_sn, ie_cl0, ie_cl1, ie_cl2, ie_cl3, ie_cl4, ie_cl5, ie_cl6, ie_cl7, ie_cl8, ie_v5_0, ie_v5_1, ie_v5_2, ie_v5_3, ie_v5_4, ie_v6_0, ie_v8_0, ie_v12_0, ie_v24_0, ie_v30_0, ie_v3380_0, true_implies, false_implies, not_true_eq_false, implies_true, ie_10, ie_m10, ie_mm, iv_u_eq, iv_u_ne, Nat.reduceEqDiff, ie_p1, ie_p2, ie_pr, ie_pa, ie_ps, ie_d1, ie_d2, ie_r1, ie_o, ie_gr, ie_gi, ie_pt, ie_pf, ie_ri, ie_rz, ie_br, ie_c1eq, ie_c1ne, ie_c1lt, ie_c1ge, ie_c1gt, ie_c1le, ie_c2eq, ie_c2ne, ie_c2lt, ie_c2ge, ie_c2gt, ie_c2le, ie_fn0, ie_fn1, ie_fn2, ie_fn3, Nat.reduceAdd, ie_nc, Int.reduceAdd, Int.reduceLE, Int.reduceToNat, Nat.reduceLT, Nat.reduceLeDiff, Int.reduceNeg, eq_self, true_and, and_true, true_or, or_true, Nat.reduceBEq, List.elem_cons, List.elem_nil, Bool.or_false, Bool.false_or, Bool.or_true, Bool.true_or, Bool.false_eq_true, if_false, if_true, reduceIte, reduceCtorEq, ne_eq, not_false_eq_true, Classical.not_not, List.length_cons, List.length_nil, Nat.zero_le, List.map_cons, List.map_nil, List.cons_append, List.nil_append, List.replicate_succ, List.replicate_zero, Nat.reduceSub, sX6_take_0, sX6_take_1, sX6_take_2, sX6_take_5, sX6_take_6, sX6_take_7, sX6_take_8, sX6_take_11, sX6_take_12, sX6_take_15, sX6_take_18, sX6_take_19, sX6_take_20, sX6_take_21, sX6_take_22, cvX6_89, gfX6_26_0, gfX6_93_12, ie_call1, ie_call2, ie_call3, ie_call4, ie_call5, ie_call6, ie_call7, ie_call8, ie_im1, ie_li1, ie_li2, ie_lr0, ie_ls2, ie_rc1, ie_rc2, ie_rc3, ie_rc4, ie_rc5, ie_rc6, ie_rc7, ie_rc8, iv_ar_1, iv_ar_10, iv_ar_11, iv_ar_13, iv_ar_14, iv_ar_15, iv_ar_16, iv_ar_17, iv_ar_19, iv_ar_2, iv_ar_20, iv_ar_21, iv_ar_22, iv_ar_23, iv_ar_25, iv_ar_26, iv_ar_27, iv_ar_28, iv_ar_31, iv_ar_32, iv_ar_34, iv_ar_35, iv_ar_36, iv_ar_38, iv_ar_39, iv_ar_40, iv_ar_41, iv_ar_42, iv_ar_43, iv_ar_44, iv_ar_45, iv_ar_46, iv_ar_47, iv_ar_48, iv_ar_49, iv_ar_5, iv_ar_50, iv_ar_51, iv_ar_52, iv_ar_53, iv_ar_54, iv_ar_55, iv_ar_56, iv_ar_6, iv_ar_7, iv_ar_8, iv_ar_9, iv_cls_0, iv_cls_12, iv_cls_18, iv_cls_24, iv_cls_29, iv_cls_3, iv_cls_30, iv_cls_33, iv_cls_37, iv_cls_4]
  refine ⟨_, ct_givenIn hs hn hc _, ?_⟩
  rintro r1 σ1 ⟨rfl, rfl⟩
  cases hg : gGiv nc n (σ1 13) (σ1 14) (σ1 15) (σ1 16) (σ1 1) c with
  | none => exact ⟨fun _ => ⟨rfl, rfl⟩, fun h => absurd rfl h⟩
  | some q =>
    have hq := gGiv_lt hg
    simp only [zo, zout, z_cl (show q < 2 ^ 31 by omega), z_in (show q < 30 by omega) (by decide), z_ne (show q < 2 ^ 31 by omega)]
    simp
set_option maxRecDepth 20000 in
set_option maxHeartbeats 4000000 in
theorem ct_swap {n nc : Nat} (hs : σ 12 5 = nI n) (hn : n ≤ 30) (hc : σ 4 2 = nI nc) (c p v : Int32) : iv_Ct X mX6_swap (d + 5) [.inl 0, .inr c, .inr p, .inr v] σ (fun r u =>
    (∀ q, (zw c 0 (nI nc - 1) && gBack n (σ 13) (σ 16) p v) = true → gGiv nc n (σ 13) (σ 14) (σ 15) (σ 16) (σ 1) c = some q → r = nI q ∧ u = iv_u (iv_u (iv_u σ 16 q (-1)) 16 p.toNatClampNeg c) 13 p.toNatClampNeg v) ∧
    ((zw c 0 (nI nc - 1) && gBack n (σ 13) (σ 16) p v) = false ∨ gGiv nc n (σ 13) (σ 14) (σ 15) (σ 16) (σ 1) c = none → r = -1 ∧ u = σ)) := by
  refine iv_ctl (own := RX6) (b := tbX6) (ls := [some (.inl 0), some (.inr c), some (.inr p), some (.inr v), none]) (plainFor_of_name (by decide)) rfl okX6 (Nat.le_of_ble_eq_true rfl) rfl ?_
  refine iv_blk [] 60 ?_
  simp only [iv_sn, ie_cl0, ie_cl1, ie_cl2, ie_cl3, ie_cl4, ie_cl5, ie_cl6, ie_cl7, ie_cl8, ie_v5_0, ie_v5_1, ie_v5_2, ie_v5_3, ie_v5_4, ie_v6_0, ie_v8_0, ie_v12_0, ie_v24_0, ie_v30_0, ie_v3380_0, true_implies, false_implies, not_true_eq_false, implies_true, ie_10, ie_m10, ie_mm, iv_u_eq, iv_u_ne, Nat.reduceEqDiff, ie_p1, ie_p2, ie_pr, ie_pa, ie_ps, ie_d1, ie_d2, ie_r1, ie_o, ie_gr, ie_gi, ie_pt, ie_pf, ie_ri, ie_rz, ie_br, ie_c1eq, ie_c1ne, ie_c1lt, ie_c1ge, ie_c1gt, ie_c1le, ie_c2eq, ie_c2ne, ie_c2lt, ie_c2ge, ie_c2gt, ie_c2le, ie_fn0, ie_fn1, ie_fn2, ie_fn3, Nat.reduceAdd, ie_nc, Int.reduceAdd, Int.reduceLE, Int.reduceToNat, Nat.reduceLT, Nat.reduceLeDiff, Int.reduceNeg, eq_self, true_and, and_true, true_or, or_true, Nat.reduceBEq, List.elem_cons, List.elem_nil, Bool.or_false, Bool.false_or, Bool.or_true, Bool.true_or, Bool.false_eq_true, if_false, if_true, reduceIte, reduceCtorEq, ne_eq, not_false_eq_true, Classical.not_not, List.length_cons, List.length_nil, Nat.zero_le, List.map_cons, List.map_nil, List.cons_append, List.nil_append, List.replicate_succ, List.replicate_zero, Nat.reduceSub, sX6_swap_0, sX6_swap_1, sX6_swap_4, sX6_swap_5, sX6_swap_8, sX6_swap_11, sX6_swap_12, sX6_swap_13, sX6_swap_14, sX6_swap_17, sX6_swap_20, sX6_swap_21, sX6_swap_22, sX6_swap_23, sX6_swap_24, sX6_swap_27, sX6_swap_29, sX6_swap_31, sX6_swap_32, sX6_swap_35, sX6_swap_36, sX6_swap_39, sX6_swap_40, sX6_swap_41, sX6_swap_42, sX6_swap_45, sX6_swap_47, cvX6_100, cvX6_103, cvX6_96, cvX6_97, gfX6_19_0, gfX6_26_0, ie_call1, ie_call2, ie_call3, ie_call4, ie_call5, ie_call6, ie_call7, ie_call8, ie_im1, ie_li1, ie_li2, ie_li3, ie_li4, ie_lr0, ie_ls4, ie_rc1, ie_rc2, ie_rc3, ie_rc4, ie_rc5, ie_rc6, ie_rc7, ie_rc8, iv_cls_0, iv_cls_12, iv_cls_18, iv_cls_24, iv_cls_29, iv_cls_3, iv_cls_30, iv_cls_33, iv_cls_37, iv_cls_4]
  refine ⟨_, ct_chas _, ?_⟩
  rintro r1 σ1 ⟨rfl, rfl⟩
  simp only [zb0, zbn, hc]
  refine ⟨fun h1 => by simp [h1], fun h1 => ?_⟩
  refine ⟨_, ct_canComeBack hs hn _ _, ?_⟩
  rintro r1 σ1 ⟨rfl, rfl⟩
  simp only [zb0, zbn]
  refine ⟨fun h2 => ?_, fun h2 => by simp [h2]⟩
  refine ⟨_, ct_take hs hn hc _, ?_⟩
  rintro r1 σ2 ⟨rfl, rfl⟩
  obtain ⟨hj, hp⟩ := z_cln (gBack_in h2) (by omega)
  generalize hqq : p.toNatClampNeg = j at hj hp
  subst hp
  cases hg : gGiv nc n (σ1 13) (σ1 14) (σ1 15) (σ1 16) (σ1 1) c with
  | none => simp [zo, zout]
  | some q =>
    have hq := gGiv_lt hg
    simp only [zo, zout, z_ne (show q < 2 ^ 31 by omega), false_implies, true_and]
    intro _
    refine ⟨_, ct_comeBack (show j < 30 by omega) _ _, ?_⟩
    rintro r1 σ2 rfl
    refine ⟨fun q2 _ h3 => ?_, fun h3 => ?_⟩
    · cases h3
      exact ⟨rfl, rfl⟩
    · rcases h3 with h3 | h3
      · simp [h1, h2] at h3
      · cases h3
set_option maxRecDepth 20000 in
set_option maxHeartbeats 4000000 in
theorem ct_bring {n nc : Nat} (hs : σ 12 5 = nI n) (hn : n ≤ 30) (hc : σ 4 2 = nI nc) (hnc : nc ≤ 6) (c p v : Int32) : iv_Ct X mX6_bring (d + 4) [.inl 0, .inr c, .inr p, .inr v] σ (fun r u =>
    ((gSlot nc n (σ 16) (σ 7) c && gBack n (σ 13) (σ 16) p v) = true → r = nI (zc (fun q => decide (upd (σ 16) p.toNatClampNeg c q = c)) n) ∧ u = iv_u (iv_u σ 16 p.toNatClampNeg c) 13 p.toNatClampNeg v) ∧
    ((gSlot nc n (σ 16) (σ 7) c && gBack n (σ 13) (σ 16) p v) = false → r = -1 ∧ u = σ)) := by
  refine iv_ctl (own := RX6) (b := tbX6) (ls := [some (.inl 0), some (.inr c), some (.inr p), some (.inr v)]) (plainFor_of_name (by decide)) rfl okX6 (Nat.le_of_ble_eq_true rfl) rfl ?_
  refine iv_blk [] 60 ?_
  simp only [iv_sn, ie_cl0, ie_cl1, ie_cl2, ie_cl3, ie_cl4, ie_cl5, ie_cl6, ie_cl7, ie_cl8, ie_v5_0, ie_v5_1, ie_v5_2, ie_v5_3, ie_v5_4, ie_v6_0, ie_v8_0, ie_v12_0, ie_v24_0, ie_v30_0, ie_v3380_0, true_implies, false_implies, not_true_eq_false, implies_true, ie_10, ie_m10, ie_mm, iv_u_eq, iv_u_ne, Nat.reduceEqDiff, ie_p1, ie_p2, ie_pr, ie_pa, ie_ps, ie_d1, ie_d2, ie_r1, ie_o, ie_gr, ie_gi, ie_pt, ie_pf, ie_ri, ie_rz, ie_br, ie_c1eq, ie_c1ne, ie_c1lt, ie_c1ge, ie_c1gt, ie_c1le, ie_c2eq, ie_c2ne, ie_c2lt, ie_c2ge, ie_c2gt, ie_c2le, ie_fn0, ie_fn1, ie_fn2, ie_fn3, Nat.reduceAdd, ie_nc, Int.reduceAdd, Int.reduceLE, Int.reduceToNat, Nat.reduceLT, Nat.reduceLeDiff, Int.reduceNeg, eq_self, true_and, and_true, true_or, or_true, Nat.reduceBEq, List.elem_cons, List.elem_nil, Bool.or_false, Bool.false_or, Bool.or_true, Bool.true_or, Bool.false_eq_true, if_false, if_true, reduceIte, reduceCtorEq, ne_eq, not_false_eq_true, Classical.not_not, List.length_cons, List.length_nil, Nat.zero_le, List.map_cons, List.map_nil, List.cons_append, List.nil_append, List.replicate_succ, List.replicate_zero, Nat.reduceSub, sX6_bring_0, sX6_bring_1, sX6_bring_2, sX6_bring_5, sX6_bring_8, sX6_bring_9, sX6_bring_10, sX6_bring_11, sX6_bring_14, sX6_bring_17, sX6_bring_18, sX6_bring_19, sX6_bring_20, sX6_bring_23, sX6_bring_24, sX6_bring_25, sX6_bring_26, sX6_bring_29, sX6_bring_30, sX6_bring_33, sX6_bring_34, sX6_bring_37, cvX6_103, cvX6_107, cvX6_69, cvX6_97, gfX6_26_0, ie_call1, ie_call2, ie_call3, ie_call4, ie_call5, ie_call6, ie_call7, ie_call8, ie_im1, ie_li1, ie_li2, ie_li3, ie_lr0, ie_rc1, ie_rc2, ie_rc3, ie_rc4, ie_rc5, ie_rc6, ie_rc7, ie_rc8, iv_cls_0, iv_cls_12, iv_cls_18, iv_cls_24, iv_cls_29, iv_cls_3, iv_cls_30, iv_cls_33, iv_cls_37, iv_cls_4]
  refine ⟨_, ct_hasSlotLeft hs hn hc hnc _, ?_⟩
  rintro r1 σ1 ⟨rfl, rfl⟩
  simp only [zb0, zbn]
  refine ⟨fun h1 => by simp [h1], fun h1 => ?_⟩
  refine ⟨_, ct_canComeBack hs hn _ _, ?_⟩
  rintro r1 σ1 ⟨rfl, rfl⟩
  simp only [zb0, zbn]
  refine ⟨fun h2 => ?_, fun h2 => by simp [h2]⟩
  obtain ⟨hj, hp⟩ := z_cln (gBack_in h2) (by omega)
  generalize hqq : p.toNatClampNeg = j at hj hp
  subst hp
  refine ⟨_, ct_comeBack (show j < 30 by omega) _ _, ?_⟩
  rintro r1 σ2 rfl
  refine ⟨_, ct_countIn (n := n) (by rw [iv_u_ne (by decide), iv_u_ne (by decide)]; exact hs) hn _, ?_⟩
  rintro r1 σ2 ⟨rfl, rfl⟩
  simp [h1, h2, iv_u]
set_option maxRecDepth 20000 in
set_option maxHeartbeats 4000000 in
theorem ct_move {n nc : Nat} (hs : σ 12 5 = nI n) (hn : n ≤ 30) (hc : σ 4 2 = nI nc) (hnc : nc ≤ 6) (p c : Int32) : iv_Ct X mX6_move (d + 4) [.inl 0, .inr p, .inr c] σ (fun r u =>
    r = zb (zw p 0 (nI n - 1) && (!decide (σ 16 p.toNatClampNeg = -1) && (!decide (σ 16 p.toNatClampNeg = c) && gSlot nc n (σ 16) (σ 7) c))) ∧
    u = if (zw p 0 (nI n - 1) && (!decide (σ 16 p.toNatClampNeg = -1) && (!decide (σ 16 p.toNatClampNeg = c) && gSlot nc n (σ 16) (σ 7) c))) = true then iv_u σ 16 p.toNatClampNeg c else σ) := by
  refine iv_ctl (own := RX6) (b := tbX6) (ls := [some (.inl 0), some (.inr p), some (.inr c)]) (plainFor_of_name (by decide)) rfl okX6 (Nat.le_of_ble_eq_true rfl) rfl ?_
  refine iv_blk [] 60 ?_
  simp only [iv_sn, ie_cl0, ie_cl1, ie_cl2, ie_cl3, ie_cl4, ie_cl5, ie_cl6, ie_cl7, ie_cl8, ie_v5_0, ie_v5_1, ie_v5_2, ie_v5_3, ie_v5_4, ie_v6_0, ie_v8_0, ie_v12_0, ie_v24_0, ie_v30_0, ie_v3380_0, true_implies, false_implies, not_true_eq_false, implies_true, ie_10, ie_m10, ie_mm, iv_u_eq, iv_u_ne, Nat.reduceEqDiff, ie_p1, ie_p2, ie_pr, ie_pa, ie_ps, ie_d1, ie_d2, ie_r1, ie_o, ie_gr, ie_gi, ie_pt, ie_pf, ie_ri, ie_rz, ie_br, ie_c1eq, ie_c1ne, ie_c1lt, ie_c1ge, ie_c1gt, ie_c1le, ie_c2eq, ie_c2ne, ie_c2lt, ie_c2ge, ie_c2gt, ie_c2le, ie_fn0, ie_fn1, ie_fn2, ie_fn3, Nat.reduceAdd, ie_nc, Int.reduceAdd, Int.reduceLE, Int.reduceToNat, Nat.reduceLT, Nat.reduceLeDiff, Int.reduceNeg, eq_self, true_and, and_true, true_or, or_true, Nat.reduceBEq, List.elem_cons, List.elem_nil, Bool.or_false, Bool.false_or, Bool.or_true, Bool.true_or, Bool.false_eq_true, if_false, if_true, reduceIte, reduceCtorEq, ne_eq, not_false_eq_true, Classical.not_not, List.length_cons, List.length_nil, Nat.zero_le, List.map_cons, List.map_nil, List.cons_append, List.nil_append, List.replicate_succ, List.replicate_zero, Nat.reduceSub, sX6_move_0, sX6_move_1, sX6_move_4, sX6_move_5, sX6_move_8, sX6_move_11, sX6_move_12, sX6_move_15, sX6_move_16, sX6_move_19, sX6_move_22, sX6_move_23, sX6_move_26, sX6_move_29, sX6_move_30, sX6_move_31, sX6_move_32, sX6_move_35, sX6_move_36, sX6_move_37, sX6_move_40, sX6_move_43, sX6_move_44, sX6_move_45, sX6_move_46, sX6_move_49, sX6_move_52, sX6_move_53, sX6_move_54, sX6_move_55, sX6_move_56, cvX6_110, cvX6_69, cvX6_82, gfX6_26_0, gfX6_93_12, ie_call1, ie_call2, ie_call3, ie_call4, ie_call5, ie_call6, ie_call7, ie_call8, ie_i0, ie_i1, ie_li1, ie_li2, ie_lr0, ie_rc1, ie_rc2, ie_rc3, ie_rc4, ie_rc5, ie_rc6, ie_rc7, ie_rc8, iv_ar_1, iv_ar_10, iv_ar_11, iv_ar_13, iv_ar_14, iv_ar_15, iv_ar_16, iv_ar_17, iv_ar_19, iv_ar_2, iv_ar_20, iv_ar_21, iv_ar_22, iv_ar_23, iv_ar_25, iv_ar_26, iv_ar_27, iv_ar_28, iv_ar_31, iv_ar_32, iv_ar_34, iv_ar_35, iv_ar_36, iv_ar_38, iv_ar_39, iv_ar_40, iv_ar_41, iv_ar_42, iv_ar_43, iv_ar_44, iv_ar_45, iv_ar_46, iv_ar_47, iv_ar_48, iv_ar_49, iv_ar_5, iv_ar_50, iv_ar_51, iv_ar_52, iv_ar_53, iv_ar_54, iv_ar_55, iv_ar_56, iv_ar_6, iv_ar_7, iv_ar_8, iv_ar_9, iv_cls_0, iv_cls_12, iv_cls_18, iv_cls_24, iv_cls_29, iv_cls_3, iv_cls_30, iv_cls_33, iv_cls_37, iv_cls_4]
  refine ⟨_, ct_has _, ?_⟩
  rintro r1 σ1 ⟨rfl, rfl⟩
  simp only [zb0, zbn, hs]
  refine ⟨fun h1 => by simp [h1, zb], fun h1 => ?_⟩
  obtain ⟨hj, hp⟩ := z_cln h1 (by omega)
  generalize hqq : p.toNatClampNeg = j at hj hp
  subst hp
  refine ⟨_, ct_isOut (show j < 30 by omega), ?_⟩
  rintro r1 σ1 ⟨rfl, rfl⟩
  simp only [zb0, zbn]
  refine ⟨fun h2 => by simp [h2, zb], fun h2 => ⟨z_in (by omega) (by decide), fun h3 => by simp [h3, zb], fun h3 => ?_⟩⟩
  refine ⟨_, ct_hasSlotLeft hs hn hc hnc _, ?_⟩
  rintro r1 σ1 ⟨rfl, rfl⟩
  simp only [zb0, zbn]
  refine ⟨fun h4 => ⟨z_in (by omega) (by decide), ?_⟩, fun h4 => by simp [h4, zb]⟩
  simp [h1, h2, h3, h4, zb]
set_option maxRecDepth 20000 in
set_option maxHeartbeats 4000000 in
theorem ct_saddR {n : Nat} (hs : σ 30 2 = nI n) (hn : n ≤ 12) (x y : Int32) : iv_Ct X mX4_add (d + 1) [.inl 30, .inr x, .inr y] σ (fun r u => (n < 12 → r = nI n ∧ u = iv_u (iv_u (iv_u σ 31 n x) 32 n y) 30 2 (nI (n + 1))) ∧ (¬ n < 12 → r = -1 ∧ u = σ)) := by
  refine iv_ctl (own := RX4) (b := tbX4) (ls := [some (.inl 30), some (.inr x), some (.inr y)]) (plainFor_of_name (by decide)) rfl okX4 (Nat.le_of_ble_eq_true rfl) rfl ?_
  refine iv_blk [] 60 ?_
  by_cases h6 : n < 12
  · simp only [iv_sn, ie_cl0, ie_cl1, ie_cl2, ie_cl3, ie_cl4, ie_cl5, ie_cl6, ie_cl7, ie_cl8, ie_v5_0, ie_v5_1, ie_v5_2, ie_v5_3, ie_v5_4, ie_v6_0, ie_v8_0, ie_v12_0, ie_v24_0, ie_v30_0, ie_v3380_0, true_implies, false_implies, not_true_eq_false, implies_true, ie_10, ie_m10, ie_mm, iv_u_eq, iv_u_ne, Nat.reduceEqDiff, ie_p1, ie_p2, ie_pr, ie_pa, ie_ps, ie_d1, ie_d2, ie_r1, ie_o, ie_gr, ie_gi, ie_pt, ie_pf, ie_ri, ie_rz, ie_br, ie_c1eq, ie_c1ne, ie_c1lt, ie_c1ge, ie_c1gt, ie_c1le, ie_c2eq, ie_c2ne, ie_c2lt, ie_c2ge, ie_c2gt, ie_c2le, ie_fn0, ie_fn1, ie_fn2, ie_fn3, Nat.reduceAdd, ie_nc, Int.reduceAdd, Int.reduceLE, Int.reduceToNat, Nat.reduceLT, Nat.reduceLeDiff, Int.reduceNeg, eq_self, true_and, and_true, true_or, or_true, Nat.reduceBEq, List.elem_cons, List.elem_nil, Bool.or_false, Bool.false_or, Bool.or_true, Bool.true_or, Bool.false_eq_true, if_false, if_true, reduceIte, reduceCtorEq, ne_eq, not_false_eq_true, Classical.not_not, List.length_cons, List.length_nil, Nat.zero_le, List.map_cons, List.map_nil, List.cons_append, List.nil_append, List.replicate_succ, List.replicate_zero, Nat.reduceSub, sX4_add_0, sX4_add_1, sX4_add_4, sX4_add_5, sX4_add_8, sX4_add_9, sX4_add_12, sX4_add_13, sX4_add_14, sX4_add_15, sX4_add_18, sX4_add_19, sX4_add_22, sX4_add_23, sX4_add_24, sX4_add_25, sX4_add_28, sX4_add_29, sX4_add_32, sX4_add_33, sX4_add_34, sX4_add_35, sX4_add_36, sX4_add_39, sX4_add_40, sX4_add_41, sX4_add_44, sX4_add_45, sX4_add_48, sX4_add_49, sX4_add_50, gfX4_15_30, gfX4_15_33, gfX4_15_4, gfX4_21_30, gfX4_21_33, gfX4_21_4, gfX4_24_30, gfX4_24_33, gfX4_24_4, ie_i1, ie_im1, ie_li1, ie_li2, ie_lr0, iv_ar_1, iv_ar_10, iv_ar_11, iv_ar_13, iv_ar_14, iv_ar_15, iv_ar_16, iv_ar_17, iv_ar_19, iv_ar_2, iv_ar_20, iv_ar_21, iv_ar_22, iv_ar_23, iv_ar_25, iv_ar_26, iv_ar_27, iv_ar_28, iv_ar_31, iv_ar_32, iv_ar_34, iv_ar_35, iv_ar_36, iv_ar_38, iv_ar_39, iv_ar_40, iv_ar_41, iv_ar_42, iv_ar_43, iv_ar_44, iv_ar_45, iv_ar_46, iv_ar_47, iv_ar_48, iv_ar_49, iv_ar_5, iv_ar_50, iv_ar_51, iv_ar_52, iv_ar_53, iv_ar_54, iv_ar_55, iv_ar_56, iv_ar_6, iv_ar_7, iv_ar_8, iv_ar_9, hs, z_cl (show n < 2 ^ 31 by omega), z_in h6 (by decide), nI_1, upd_same, nI_pred]
    exact ⟨fun _ h => absurd h6 h, fun h => absurd (nI_lt h6 (by decide)) h⟩
  · simp only [iv_sn, ie_cl0, ie_cl1, ie_cl2, ie_cl3, ie_cl4, ie_cl5, ie_cl6, ie_cl7, ie_cl8, ie_v5_0, ie_v5_1, ie_v5_2, ie_v5_3, ie_v5_4, ie_v6_0, ie_v8_0, ie_v12_0, ie_v24_0, ie_v30_0, ie_v3380_0, true_implies, false_implies, not_true_eq_false, implies_true, ie_10, ie_m10, ie_mm, iv_u_eq, iv_u_ne, Nat.reduceEqDiff, ie_p1, ie_p2, ie_pr, ie_pa, ie_ps, ie_d1, ie_d2, ie_r1, ie_o, ie_gr, ie_gi, ie_pt, ie_pf, ie_ri, ie_rz, ie_br, ie_c1eq, ie_c1ne, ie_c1lt, ie_c1ge, ie_c1gt, ie_c1le, ie_c2eq, ie_c2ne, ie_c2lt, ie_c2ge, ie_c2gt, ie_c2le, ie_fn0, ie_fn1, ie_fn2, ie_fn3, Nat.reduceAdd, ie_nc, Int.reduceAdd, Int.reduceLE, Int.reduceToNat, Nat.reduceLT, Nat.reduceLeDiff, Int.reduceNeg, eq_self, true_and, and_true, true_or, or_true, Nat.reduceBEq, List.elem_cons, List.elem_nil, Bool.or_false, Bool.false_or, Bool.or_true, Bool.true_or, Bool.false_eq_true, if_false, if_true, reduceIte, reduceCtorEq, ne_eq, not_false_eq_true, Classical.not_not, List.length_cons, List.length_nil, Nat.zero_le, List.map_cons, List.map_nil, List.cons_append, List.nil_append, List.replicate_succ, List.replicate_zero, Nat.reduceSub, sX4_add_0, sX4_add_1, sX4_add_4, sX4_add_5, sX4_add_8, sX4_add_9, sX4_add_12, sX4_add_13, sX4_add_14, sX4_add_15, sX4_add_18, sX4_add_19, sX4_add_22, sX4_add_23, sX4_add_24, sX4_add_25, sX4_add_28, sX4_add_29, sX4_add_32, sX4_add_33, sX4_add_34, sX4_add_35, sX4_add_36, sX4_add_39, sX4_add_40, sX4_add_41, sX4_add_44, sX4_add_45, sX4_add_48, sX4_add_49, sX4_add_50, gfX4_15_30, gfX4_15_33, gfX4_15_4, gfX4_21_30, gfX4_21_33, gfX4_21_4, gfX4_24_30, gfX4_24_33, gfX4_24_4, ie_i1, ie_im1, ie_li1, ie_li2, ie_lr0, iv_ar_1, iv_ar_10, iv_ar_11, iv_ar_13, iv_ar_14, iv_ar_15, iv_ar_16, iv_ar_17, iv_ar_19, iv_ar_2, iv_ar_20, iv_ar_21, iv_ar_22, iv_ar_23, iv_ar_25, iv_ar_26, iv_ar_27, iv_ar_28, iv_ar_31, iv_ar_32, iv_ar_34, iv_ar_35, iv_ar_36, iv_ar_38, iv_ar_39, iv_ar_40, iv_ar_41, iv_ar_42, iv_ar_43, iv_ar_44, iv_ar_45, iv_ar_46, iv_ar_47, iv_ar_48, iv_ar_49, iv_ar_5, iv_ar_50, iv_ar_51, iv_ar_52, iv_ar_53, iv_ar_54, iv_ar_55, iv_ar_56, iv_ar_6, iv_ar_7, iv_ar_8, iv_ar_9, hs]
    exact ⟨fun h => absurd h (nI_nlt (Nat.not_lt.mp h6) (by omega)), fun _ h => absurd h h6⟩
set_option maxRecDepth 20000 in
set_option maxHeartbeats 4000000 in
theorem ct_saddS {n : Nat} (hs : σ 33 2 = nI n) (hn : n ≤ 8) (x y : Int32) : iv_Ct X mX4_add (d + 1) [.inl 33, .inr x, .inr y] σ (fun r u => (n < 8 → r = nI n ∧ u = iv_u (iv_u (iv_u σ 34 n x) 35 n y) 33 2 (nI (n + 1))) ∧ (¬ n < 8 → r = -1 ∧ u = σ)) := by
  refine iv_ctl (own := RX4) (b := tbX4) (ls := [some (.inl 33), some (.inr x), some (.inr y)]) (plainFor_of_name (by decide)) rfl okX4 (Nat.le_of_ble_eq_true rfl) rfl ?_
  refine iv_blk [] 60 ?_
  by_cases h6 : n < 8
  · simp only [iv_sn, ie_cl0, ie_cl1, ie_cl2, ie_cl3, ie_cl4, ie_cl5, ie_cl6, ie_cl7, ie_cl8, ie_v5_0, ie_v5_1, ie_v5_2, ie_v5_3, ie_v5_4, ie_v6_0, ie_v8_0, ie_v12_0, ie_v24_0, ie_v30_0, ie_v3380_0, true_implies, false_implies, not_true_eq_false, implies_true, ie_10, ie_m10, ie_mm, iv_u_eq, iv_u_ne, Nat.reduceEqDiff, ie_p1, ie_p2, ie_pr, ie_pa, ie_ps, ie_d1, ie_d2, ie_r1, ie_o, ie_gr, ie_gi, ie_pt, ie_pf, ie_ri, ie_rz, ie_br, ie_c1eq, ie_c1ne, ie_c1lt, ie_c1ge, ie_c1gt, ie_c1le, ie_c2eq, ie_c2ne, ie_c2lt, ie_c2ge, ie_c2gt, ie_c2le, ie_fn0, ie_fn1, ie_fn2, ie_fn3, Nat.reduceAdd, ie_nc, Int.reduceAdd, Int.reduceLE, Int.reduceToNat, Nat.reduceLT, Nat.reduceLeDiff, Int.reduceNeg, eq_self, true_and, and_true, true_or, or_true, Nat.reduceBEq, List.elem_cons, List.elem_nil, Bool.or_false, Bool.false_or, Bool.or_true, Bool.true_or, Bool.false_eq_true, if_false, if_true, reduceIte, reduceCtorEq, ne_eq, not_false_eq_true, Classical.not_not, List.length_cons, List.length_nil, Nat.zero_le, List.map_cons, List.map_nil, List.cons_append, List.nil_append, List.replicate_succ, List.replicate_zero, Nat.reduceSub, sX4_add_0, sX4_add_1, sX4_add_4, sX4_add_5, sX4_add_8, sX4_add_9, sX4_add_12, sX4_add_13, sX4_add_14, sX4_add_15, sX4_add_18, sX4_add_19, sX4_add_22, sX4_add_23, sX4_add_24, sX4_add_25, sX4_add_28, sX4_add_29, sX4_add_32, sX4_add_33, sX4_add_34, sX4_add_35, sX4_add_36, sX4_add_39, sX4_add_40, sX4_add_41, sX4_add_44, sX4_add_45, sX4_add_48, sX4_add_49, sX4_add_50, gfX4_15_30, gfX4_15_33, gfX4_15_4, gfX4_21_30, gfX4_21_33, gfX4_21_4, gfX4_24_30, gfX4_24_33, gfX4_24_4, ie_i1, ie_im1, ie_li1, ie_li2, ie_lr0, iv_ar_1, iv_ar_10, iv_ar_11, iv_ar_13, iv_ar_14, iv_ar_15, iv_ar_16, iv_ar_17, iv_ar_19, iv_ar_2, iv_ar_20, iv_ar_21, iv_ar_22, iv_ar_23, iv_ar_25, iv_ar_26, iv_ar_27, iv_ar_28, iv_ar_31, iv_ar_32, iv_ar_34, iv_ar_35, iv_ar_36, iv_ar_38, iv_ar_39, iv_ar_40, iv_ar_41, iv_ar_42, iv_ar_43, iv_ar_44, iv_ar_45, iv_ar_46, iv_ar_47, iv_ar_48, iv_ar_49, iv_ar_5, iv_ar_50, iv_ar_51, iv_ar_52, iv_ar_53, iv_ar_54, iv_ar_55, iv_ar_56, iv_ar_6, iv_ar_7, iv_ar_8, iv_ar_9, hs, z_cl (show n < 2 ^ 31 by omega), z_in h6 (by decide), nI_1, upd_same, nI_pred]
    exact ⟨fun _ h => absurd h6 h, fun h => absurd (nI_lt h6 (by decide)) h⟩
  · simp only [iv_sn, ie_cl0, ie_cl1, ie_cl2, ie_cl3, ie_cl4, ie_cl5, ie_cl6, ie_cl7, ie_cl8, ie_v5_0, ie_v5_1, ie_v5_2, ie_v5_3, ie_v5_4, ie_v6_0, ie_v8_0, ie_v12_0, ie_v24_0, ie_v30_0, ie_v3380_0, true_implies, false_implies, not_true_eq_false, implies_true, ie_10, ie_m10, ie_mm, iv_u_eq, iv_u_ne, Nat.reduceEqDiff, ie_p1, ie_p2, ie_pr, ie_pa, ie_ps, ie_d1, ie_d2, ie_r1, ie_o, ie_gr, ie_gi, ie_pt, ie_pf, ie_ri, ie_rz, ie_br, ie_c1eq, ie_c1ne, ie_c1lt, ie_c1ge, ie_c1gt, ie_c1le, ie_c2eq, ie_c2ne, ie_c2lt, ie_c2ge, ie_c2gt, ie_c2le, ie_fn0, ie_fn1, ie_fn2, ie_fn3, Nat.reduceAdd, ie_nc, Int.reduceAdd, Int.reduceLE, Int.reduceToNat, Nat.reduceLT, Nat.reduceLeDiff, Int.reduceNeg, eq_self, true_and, and_true, true_or, or_true, Nat.reduceBEq, List.elem_cons, List.elem_nil, Bool.or_false, Bool.false_or, Bool.or_true, Bool.true_or, Bool.false_eq_true, if_false, if_true, reduceIte, reduceCtorEq, ne_eq, not_false_eq_true, Classical.not_not, List.length_cons, List.length_nil, Nat.zero_le, List.map_cons, List.map_nil, List.cons_append, List.nil_append, List.replicate_succ, List.replicate_zero, Nat.reduceSub, sX4_add_0, sX4_add_1, sX4_add_4, sX4_add_5, sX4_add_8, sX4_add_9, sX4_add_12, sX4_add_13, sX4_add_14, sX4_add_15, sX4_add_18, sX4_add_19, sX4_add_22, sX4_add_23, sX4_add_24, sX4_add_25, sX4_add_28, sX4_add_29, sX4_add_32, sX4_add_33, sX4_add_34, sX4_add_35, sX4_add_36, sX4_add_39, sX4_add_40, sX4_add_41, sX4_add_44, sX4_add_45, sX4_add_48, sX4_add_49, sX4_add_50, gfX4_15_30, gfX4_15_33, gfX4_15_4, gfX4_21_30, gfX4_21_33, gfX4_21_4, gfX4_24_30, gfX4_24_33, gfX4_24_4, ie_i1, ie_im1, ie_li1, ie_li2, ie_lr0, iv_ar_1, iv_ar_10, iv_ar_11, iv_ar_13, iv_ar_14, iv_ar_15, iv_ar_16, iv_ar_17, iv_ar_19, iv_ar_2, iv_ar_20, iv_ar_21, iv_ar_22, iv_ar_23, iv_ar_25, iv_ar_26, iv_ar_27, iv_ar_28, iv_ar_31, iv_ar_32, iv_ar_34, iv_ar_35, iv_ar_36, iv_ar_38, iv_ar_39, iv_ar_40, iv_ar_41, iv_ar_42, iv_ar_43, iv_ar_44, iv_ar_45, iv_ar_46, iv_ar_47, iv_ar_48, iv_ar_49, iv_ar_5, iv_ar_50, iv_ar_51, iv_ar_52, iv_ar_53, iv_ar_54, iv_ar_55, iv_ar_56, iv_ar_6, iv_ar_7, iv_ar_8, iv_ar_9, hs]
    exact ⟨fun h => absurd h (nI_nlt (Nat.not_lt.mp h6) (by omega)), fun _ h => absurd h h6⟩
set_option maxRecDepth 20000 in
set_option maxHeartbeats 4000000 in
theorem ct_addNeed {n : Nat} (hs : σ 18 5 = nI n) (hn : n ≤ 12) (v : Int32) : iv_Ct X mX1_addNeed (d + 1) [.inl 18, .inr v] σ (fun r u => (n < 12 → r = nI (n + 1) ∧ u = iv_u (iv_u σ 19 n v) 18 5 (nI (n + 1))) ∧ (¬ n < 12 → r = -1 ∧ u = σ)) := by
  refine iv_ctl (own := RX1) (b := tbX1) (ls := [some (.inl 18), some (.inr v)]) (plainFor_of_name (by decide)) rfl okX1 (Nat.le_of_ble_eq_true rfl) rfl ?_
  refine iv_blk [] 60 ?_
  by_cases h6 : n < 12
  · simp only [iv_sn, ie_cl0, ie_cl1, ie_cl2, ie_cl3, ie_cl4, ie_cl5, ie_cl6, ie_cl7, ie_cl8, ie_v5_0, ie_v5_1, ie_v5_2, ie_v5_3, ie_v5_4, ie_v6_0, ie_v8_0, ie_v12_0, ie_v24_0, ie_v30_0, ie_v3380_0, true_implies, false_implies, not_true_eq_false, implies_true, ie_10, ie_m10, ie_mm, iv_u_eq, iv_u_ne, Nat.reduceEqDiff, ie_p1, ie_p2, ie_pr, ie_pa, ie_ps, ie_d1, ie_d2, ie_r1, ie_o, ie_gr, ie_gi, ie_pt, ie_pf, ie_ri, ie_rz, ie_br, ie_c1eq, ie_c1ne, ie_c1lt, ie_c1ge, ie_c1gt, ie_c1le, ie_c2eq, ie_c2ne, ie_c2lt, ie_c2ge, ie_c2gt, ie_c2le, ie_fn0, ie_fn1, ie_fn2, ie_fn3, Nat.reduceAdd, ie_nc, Int.reduceAdd, Int.reduceLE, Int.reduceToNat, Nat.reduceLT, Nat.reduceLeDiff, Int.reduceNeg, eq_self, true_and, and_true, true_or, or_true, Nat.reduceBEq, List.elem_cons, List.elem_nil, Bool.or_false, Bool.false_or, Bool.or_true, Bool.true_or, Bool.false_eq_true, if_false, if_true, reduceIte, reduceCtorEq, ne_eq, not_false_eq_true, Classical.not_not, List.length_cons, List.length_nil, Nat.zero_le, List.map_cons, List.map_nil, List.cons_append, List.nil_append, List.replicate_succ, List.replicate_zero, Nat.reduceSub, sX1_addNeed_0, sX1_addNeed_1, sX1_addNeed_4, sX1_addNeed_6, sX1_addNeed_9, sX1_addNeed_10, sX1_addNeed_11, sX1_addNeed_12, sX1_addNeed_15, sX1_addNeed_16, sX1_addNeed_19, sX1_addNeed_20, sX1_addNeed_21, sX1_addNeed_22, sX1_addNeed_23, sX1_addNeed_26, sX1_addNeed_27, sX1_addNeed_28, sX1_addNeed_31, sX1_addNeed_32, sX1_addNeed_35, gfX1_27_18, gfX1_9_18, ie_b12, ie_i1, ie_im1, ie_li1, ie_lr0, iv_ar_1, iv_ar_10, iv_ar_11, iv_ar_13, iv_ar_14, iv_ar_15, iv_ar_16, iv_ar_17, iv_ar_19, iv_ar_2, iv_ar_20, iv_ar_21, iv_ar_22, iv_ar_23, iv_ar_25, iv_ar_26, iv_ar_27, iv_ar_28, iv_ar_31, iv_ar_32, iv_ar_34, iv_ar_35, iv_ar_36, iv_ar_38, iv_ar_39, iv_ar_40, iv_ar_41, iv_ar_42, iv_ar_43, iv_ar_44, iv_ar_45, iv_ar_46, iv_ar_47, iv_ar_48, iv_ar_49, iv_ar_5, iv_ar_50, iv_ar_51, iv_ar_52, iv_ar_53, iv_ar_54, iv_ar_55, iv_ar_56, iv_ar_6, iv_ar_7, iv_ar_8, iv_ar_9, hs, z_cl (show n < 2 ^ 31 by omega), z_in h6 (by decide), nI_1, upd_same, nI_pred]
    exact ⟨fun _ h => absurd h6 h, fun h => absurd (nI_lt h6 (by decide)) h⟩
  · simp only [iv_sn, ie_cl0, ie_cl1, ie_cl2, ie_cl3, ie_cl4, ie_cl5, ie_cl6, ie_cl7, ie_cl8, ie_v5_0, ie_v5_1, ie_v5_2, ie_v5_3, ie_v5_4, ie_v6_0, ie_v8_0, ie_v12_0, ie_v24_0, ie_v30_0, ie_v3380_0, true_implies, false_implies, not_true_eq_false, implies_true, ie_10, ie_m10, ie_mm, iv_u_eq, iv_u_ne, Nat.reduceEqDiff, ie_p1, ie_p2, ie_pr, ie_pa, ie_ps, ie_d1, ie_d2, ie_r1, ie_o, ie_gr, ie_gi, ie_pt, ie_pf, ie_ri, ie_rz, ie_br, ie_c1eq, ie_c1ne, ie_c1lt, ie_c1ge, ie_c1gt, ie_c1le, ie_c2eq, ie_c2ne, ie_c2lt, ie_c2ge, ie_c2gt, ie_c2le, ie_fn0, ie_fn1, ie_fn2, ie_fn3, Nat.reduceAdd, ie_nc, Int.reduceAdd, Int.reduceLE, Int.reduceToNat, Nat.reduceLT, Nat.reduceLeDiff, Int.reduceNeg, eq_self, true_and, and_true, true_or, or_true, Nat.reduceBEq, List.elem_cons, List.elem_nil, Bool.or_false, Bool.false_or, Bool.or_true, Bool.true_or, Bool.false_eq_true, if_false, if_true, reduceIte, reduceCtorEq, ne_eq, not_false_eq_true, Classical.not_not, List.length_cons, List.length_nil, Nat.zero_le, List.map_cons, List.map_nil, List.cons_append, List.nil_append, List.replicate_succ, List.replicate_zero, Nat.reduceSub, sX1_addNeed_0, sX1_addNeed_1, sX1_addNeed_4, sX1_addNeed_6, sX1_addNeed_9, sX1_addNeed_10, sX1_addNeed_11, sX1_addNeed_12, sX1_addNeed_15, sX1_addNeed_16, sX1_addNeed_19, sX1_addNeed_20, sX1_addNeed_21, sX1_addNeed_22, sX1_addNeed_23, sX1_addNeed_26, sX1_addNeed_27, sX1_addNeed_28, sX1_addNeed_31, sX1_addNeed_32, sX1_addNeed_35, gfX1_27_18, gfX1_9_18, ie_b12, ie_i1, ie_im1, ie_li1, ie_lr0, iv_ar_1, iv_ar_10, iv_ar_11, iv_ar_13, iv_ar_14, iv_ar_15, iv_ar_16, iv_ar_17, iv_ar_19, iv_ar_2, iv_ar_20, iv_ar_21, iv_ar_22, iv_ar_23, iv_ar_25, iv_ar_26, iv_ar_27, iv_ar_28, iv_ar_31, iv_ar_32, iv_ar_34, iv_ar_35, iv_ar_36, iv_ar_38, iv_ar_39, iv_ar_40, iv_ar_41, iv_ar_42, iv_ar_43, iv_ar_44, iv_ar_45, iv_ar_46, iv_ar_47, iv_ar_48, iv_ar_49, iv_ar_5, iv_ar_50, iv_ar_51, iv_ar_52, iv_ar_53, iv_ar_54, iv_ar_55, iv_ar_56, iv_ar_6, iv_ar_7, iv_ar_8, iv_ar_9, hs]
    exact ⟨fun h => absurd h (nI_nlt (Nat.not_lt.mp h6) (by omega)), fun _ h => absurd h h6⟩
set_option maxRecDepth 20000 in
set_option maxHeartbeats 4000000 in
theorem ct_need {n : Nat} (hs : σ 18 5 = nI n) (hn : n ≤ 12) (v : Int32) : iv_Ct X mX6_need (d + 2) [.inl 0, .inr v] σ (fun r u => ((zw v 0 20 && decide (n < 12)) = true → r = nI (n + 1) ∧ u = iv_u (iv_u σ 19 n v) 18 5 (nI (n + 1))) ∧ ((zw v 0 20 && decide (n < 12)) = false → r = -1 ∧ u = σ)) := by
  refine iv_ctl (own := RX6) (b := tbX6) (ls := [some (.inl 0), some (.inr v)]) (plainFor_of_name (by decide)) rfl okX6 (Nat.le_of_ble_eq_true rfl) rfl ?_
  refine iv_blk [] 60 ?_
  simp only [iv_sn, ie_cl0, ie_cl1, ie_cl2, ie_cl3, ie_cl4, ie_cl5, ie_cl6, ie_cl7, ie_cl8, ie_v5_0, ie_v5_1, ie_v5_2, ie_v5_3, ie_v5_4, ie_v6_0, ie_v8_0, ie_v12_0, ie_v24_0, ie_v30_0, ie_v3380_0, true_implies, false_implies, not_true_eq_false, implies_true, ie_10, ie_m10, ie_mm, iv_u_eq, iv_u_ne, Nat.reduceEqDiff, ie_p1, ie_p2, ie_pr, ie_pa, ie_ps, ie_d1, ie_d2, ie_r1, ie_o, ie_gr, ie_gi, ie_pt, ie_pf, ie_ri, ie_rz, ie_br, ie_c1eq, ie_c1ne, ie_c1lt, ie_c1ge, ie_c1gt, ie_c1le, ie_c2eq, ie_c2ne, ie_c2lt, ie_c2ge, ie_c2gt, ie_c2le, ie_fn0, ie_fn1, ie_fn2, ie_fn3, Nat.reduceAdd, ie_nc, Int.reduceAdd, Int.reduceLE, Int.reduceToNat, Nat.reduceLT, Nat.reduceLeDiff, Int.reduceNeg, eq_self, true_and, and_true, true_or, or_true, Nat.reduceBEq, List.elem_cons, List.elem_nil, Bool.or_false, Bool.false_or, Bool.or_true, Bool.true_or, Bool.false_eq_true, if_false, if_true, reduceIte, reduceCtorEq, ne_eq, not_false_eq_true, Classical.not_not, List.length_cons, List.length_nil, Nat.zero_le, List.map_cons, List.map_nil, List.cons_append, List.nil_append, List.replicate_succ, List.replicate_zero, Nat.reduceSub, sX6_need_0, sX6_need_1, sX6_need_2, sX6_need_4, sX6_need_7, sX6_need_10, sX6_need_11, sX6_need_14, sX6_need_15, sX6_need_18, sX6_need_21, sX6_need_22, cvX6_173, cvX6_61, gfX6_33_0, ie_b20, ie_call1, ie_call2, ie_call3, ie_call4, ie_call5, ie_call6, ie_call7, ie_call8, ie_i0, ie_im1, ie_li1, ie_lr0, ie_rc1, ie_rc2, ie_rc3, ie_rc4, ie_rc5, ie_rc6, ie_rc7, ie_rc8, iv_cls_0, iv_cls_12, iv_cls_18, iv_cls_24, iv_cls_29, iv_cls_3, iv_cls_30, iv_cls_33, iv_cls_37, iv_cls_4]
  refine ⟨_, ct_isWithin _ _ _, ?_⟩
  rintro r1 σ1 ⟨rfl, rfl⟩
  simp only [zb0, zbn]
  refine ⟨fun h1 => by simp [h1], fun h1 => ?_⟩
  refine ⟨_, ct_addNeed hs hn _, ?_⟩
  rintro r1 σ2 ⟨h5, h6⟩
  simp only [h1, Bool.true_and, decide_eq_true_eq, decide_eq_false_iff_not]
  exact ⟨h5, h6⟩
set_option maxRecDepth 20000 in
set_option maxHeartbeats 4000000 in
theorem ct_clear : iv_Ct X mX6_clear (d + 1) [.inl 0] σ (fun r u => r = σ 18 5 ∧ u = iv_u (iv_u (iv_u σ 18 5 0) 30 2 0) 33 2 0) := by
  refine iv_ctl (own := RX6) (b := tbX6) (ls := [some (.inl 0), none]) (plainFor_of_name (by decide)) rfl okX6 (Nat.le_of_ble_eq_true rfl) rfl ?_
  refine iv_blk [] 60 ?_
  simp only [iv_sn, ie_cl0, ie_cl1, ie_cl2, ie_cl3, ie_cl4, ie_cl5, ie_cl6, ie_cl7, ie_cl8, ie_v5_0, ie_v5_1, ie_v5_2, ie_v5_3, ie_v5_4, ie_v6_0, ie_v8_0, ie_v12_0, ie_v24_0, ie_v30_0, ie_v3380_0, true_implies, false_implies, not_true_eq_false, implies_true, ie_10, ie_m10, ie_mm, iv_u_eq, iv_u_ne, Nat.reduceEqDiff, ie_p1, ie_p2, ie_pr, ie_pa, ie_ps, ie_d1, ie_d2, ie_r1, ie_o, ie_gr, ie_gi, ie_pt, ie_pf, ie_ri, ie_rz, ie_br, ie_c1eq, ie_c1ne, ie_c1lt, ie_c1ge, ie_c1gt, ie_c1le, ie_c2eq, ie_c2ne, ie_c2lt, ie_c2ge, ie_c2gt, ie_c2le, ie_fn0, ie_fn1, ie_fn2, ie_fn3, Nat.reduceAdd, ie_nc, Int.reduceAdd, Int.reduceLE, Int.reduceToNat, Nat.reduceLT, Nat.reduceLeDiff, Int.reduceNeg, eq_self, true_and, and_true, true_or, or_true, Nat.reduceBEq, List.elem_cons, List.elem_nil, Bool.or_false, Bool.false_or, Bool.or_true, Bool.true_or, Bool.false_eq_true, if_false, if_true, reduceIte, reduceCtorEq, ne_eq, not_false_eq_true, Classical.not_not, List.length_cons, List.length_nil, Nat.zero_le, List.map_cons, List.map_nil, List.cons_append, List.nil_append, List.replicate_succ, List.replicate_zero, Nat.reduceSub, sX6_clear_0, sX6_clear_1, sX6_clear_4, sX6_clear_7, sX6_clear_8, sX6_clear_9, sX6_clear_12, sX6_clear_13, sX6_clear_16, sX6_clear_17, sX6_clear_20, sX6_clear_23, sX6_clear_24, sX6_clear_27, sX6_clear_28, sX6_clear_31, sX6_clear_34, sX6_clear_35, sX6_clear_38, sX6_clear_39, gfX6_132_18, gfX6_133_29, gfX6_137_30, gfX6_137_33, gfX6_137_4, gfX6_140_29, gfX6_33_0, gfX6_47_0, ie_i0, ie_li1, ie_lr0, ie_ls1]
set_option maxRecDepth 20000 in
set_option maxHeartbeats 4000000 in
theorem ct_planned {k : Nat} (hs : σ 18 6 = nI k) (hk : k ≤ 12) (i : Int32) : iv_Ct X mX6_planned (d + 2) [.inl 0, .inr i] σ (fun r u => r = (if zw i 0 (nI k - 1) = true then σ 23 i.toNatClampNeg else -1) ∧ u = σ) := by
  refine iv_ctl (own := RX6) (b := tbX6) (ls := [some (.inl 0), some (.inr i)]) (plainFor_of_name (by decide)) rfl okX6 (Nat.le_of_ble_eq_true rfl) rfl ?_
  refine iv_blk [] 60 ?_
  simp only [iv_sn, ie_cl0, ie_cl1, ie_cl2, ie_cl3, ie_cl4, ie_cl5, ie_cl6, ie_cl7, ie_cl8, ie_v5_0, ie_v5_1, ie_v5_2, ie_v5_3, ie_v5_4, ie_v6_0, ie_v8_0, ie_v12_0, ie_v24_0, ie_v30_0, ie_v3380_0, true_implies, false_implies, not_true_eq_false, implies_true, ie_10, ie_m10, ie_mm, iv_u_eq, iv_u_ne, Nat.reduceEqDiff, ie_p1, ie_p2, ie_pr, ie_pa, ie_ps, ie_d1, ie_d2, ie_r1, ie_o, ie_gr, ie_gi, ie_pt, ie_pf, ie_ri, ie_rz, ie_br, ie_c1eq, ie_c1ne, ie_c1lt, ie_c1ge, ie_c1gt, ie_c1le, ie_c2eq, ie_c2ne, ie_c2lt, ie_c2ge, ie_c2gt, ie_c2le, ie_fn0, ie_fn1, ie_fn2, ie_fn3, Nat.reduceAdd, ie_nc, Int.reduceAdd, Int.reduceLE, Int.reduceToNat, Nat.reduceLT, Nat.reduceLeDiff, Int.reduceNeg, eq_self, true_and, and_true, true_or, or_true, Nat.reduceBEq, List.elem_cons, List.elem_nil, Bool.or_false, Bool.false_or, Bool.or_true, Bool.true_or, Bool.false_eq_true, if_false, if_true, reduceIte, reduceCtorEq, ne_eq, not_false_eq_true, Classical.not_not, List.length_cons, List.length_nil, Nat.zero_le, List.map_cons, List.map_nil, List.cons_append, List.nil_append, List.replicate_succ, List.replicate_zero, Nat.reduceSub, sX6_planned_0, sX6_planned_1, sX6_planned_2, sX6_planned_3, sX6_planned_6, sX6_planned_9, sX6_planned_10, sX6_planned_11, sX6_planned_14, sX6_planned_17, sX6_planned_18, sX6_planned_21, sX6_planned_24, sX6_planned_25, sX6_planned_26, sX6_planned_29, sX6_planned_30, cvX6_61, gfX6_180_18, gfX6_183_18, gfX6_33_0, ie_call1, ie_call2, ie_call3, ie_call4, ie_call5, ie_call6, ie_call7, ie_call8, ie_i0, ie_i1, ie_im1, ie_li1, ie_lr0, iv_ar_1, iv_ar_10, iv_ar_11, iv_ar_13, iv_ar_14, iv_ar_15, iv_ar_16, iv_ar_17, iv_ar_19, iv_ar_2, iv_ar_20, iv_ar_21, iv_ar_22, iv_ar_23, iv_ar_25, iv_ar_26, iv_ar_27, iv_ar_28, iv_ar_31, iv_ar_32, iv_ar_34, iv_ar_35, iv_ar_36, iv_ar_38, iv_ar_39, iv_ar_40, iv_ar_41, iv_ar_42, iv_ar_43, iv_ar_44, iv_ar_45, iv_ar_46, iv_ar_47, iv_ar_48, iv_ar_49, iv_ar_5, iv_ar_50, iv_ar_51, iv_ar_52, iv_ar_53, iv_ar_54, iv_ar_55, iv_ar_56, iv_ar_6, iv_ar_7, iv_ar_8, iv_ar_9, hs]
  refine ⟨_, ct_isWithin _ _ _, ?_⟩
  rintro r1 σ1 ⟨rfl, rfl⟩
  simp only [zb0, zbn]
  refine ⟨fun h1 => by simp [h1], fun h1 => ⟨z_vin h1 hk (by decide), by simp [h1]⟩⟩
set_option maxRecDepth 20000 in
set_option maxHeartbeats 4000000 in
theorem ct_stop {k : Nat} (hs : σ 24 4 = nI k) (hk : k ≤ 6) (i : Int32) : iv_Ct X mX6_stop (d + 2) [.inl 0, .inr i] σ (fun r u => r = (if zw i 0 (nI k - 1) = true then σ 28 i.toNatClampNeg else -1) ∧ u = σ) := by
  refine iv_ctl (own := RX6) (b := tbX6) (ls := [some (.inl 0), some (.inr i)]) (plainFor_of_name (by decide)) rfl okX6 (Nat.le_of_ble_eq_true rfl) rfl ?_
  refine iv_blk [] 60 ?_
  simp only [iv_sn, ie_cl0, ie_cl1, ie_cl2, ie_cl3, ie_cl4, ie_cl5, ie_cl6, ie_cl7, ie_cl8, ie_v5_0, ie_v5_1, ie_v5_2, ie_v5_3, ie_v5_4, ie_v6_0, ie_v8_0, ie_v12_0, ie_v24_0, ie_v30_0, ie_v3380_0, true_implies, false_implies, not_true_eq_false, implies_true, ie_10, ie_m10, ie_mm, iv_u_eq, iv_u_ne, Nat.reduceEqDiff, ie_p1, ie_p2, ie_pr, ie_pa, ie_ps, ie_d1, ie_d2, ie_r1, ie_o, ie_gr, ie_gi, ie_pt, ie_pf, ie_ri, ie_rz, ie_br, ie_c1eq, ie_c1ne, ie_c1lt, ie_c1ge, ie_c1gt, ie_c1le, ie_c2eq, ie_c2ne, ie_c2lt, ie_c2ge, ie_c2gt, ie_c2le, ie_fn0, ie_fn1, ie_fn2, ie_fn3, Nat.reduceAdd, ie_nc, Int.reduceAdd, Int.reduceLE, Int.reduceToNat, Nat.reduceLT, Nat.reduceLeDiff, Int.reduceNeg, eq_self, true_and, and_true, true_or, or_true, Nat.reduceBEq, List.elem_cons, List.elem_nil, Bool.or_false, Bool.false_or, Bool.or_true, Bool.true_or, Bool.false_eq_true, if_false, if_true, reduceIte, reduceCtorEq, ne_eq, not_false_eq_true, Classical.not_not, List.length_cons, List.length_nil, Nat.zero_le, List.map_cons, List.map_nil, List.cons_append, List.nil_append, List.replicate_succ, List.replicate_zero, Nat.reduceSub, sX6_stop_0, sX6_stop_1, sX6_stop_2, sX6_stop_3, sX6_stop_6, sX6_stop_9, sX6_stop_10, sX6_stop_11, sX6_stop_14, sX6_stop_17, sX6_stop_18, sX6_stop_21, sX6_stop_24, sX6_stop_25, sX6_stop_26, sX6_stop_29, sX6_stop_30, cvX6_61, gfX6_201_24, gfX6_202_24, gfX6_40_0, ie_call1, ie_call2, ie_call3, ie_call4, ie_call5, ie_call6, ie_call7, ie_call8, ie_i0, ie_i1, ie_im1, ie_li1, ie_lr0, iv_ar_1, iv_ar_10, iv_ar_11, iv_ar_13, iv_ar_14, iv_ar_15, iv_ar_16, iv_ar_17, iv_ar_19, iv_ar_2, iv_ar_20, iv_ar_21, iv_ar_22, iv_ar_23, iv_ar_25, iv_ar_26, iv_ar_27, iv_ar_28, iv_ar_31, iv_ar_32, iv_ar_34, iv_ar_35, iv_ar_36, iv_ar_38, iv_ar_39, iv_ar_40, iv_ar_41, iv_ar_42, iv_ar_43, iv_ar_44, iv_ar_45, iv_ar_46, iv_ar_47, iv_ar_48, iv_ar_49, iv_ar_5, iv_ar_50, iv_ar_51, iv_ar_52, iv_ar_53, iv_ar_54, iv_ar_55, iv_ar_56, iv_ar_6, iv_ar_7, iv_ar_8, iv_ar_9, hs]
  refine ⟨_, ct_isWithin _ _ _, ?_⟩
  rintro r1 σ1 ⟨rfl, rfl⟩
  simp only [zb0, zbn]
  refine ⟨fun h1 => by simp [h1], fun h1 => ⟨z_vin h1 hk (by decide), by simp [h1]⟩⟩
set_option maxRecDepth 20000 in
set_option maxHeartbeats 4000000 in
theorem ct_wish {nc : Nat} (hc : σ 4 2 = nI nc) (hnc : nc ≤ 6) (c v : Int32) : iv_Ct X mX6_wish (d + 3) [.inl 0, .inr c, .inr v] σ (fun r u => r = zb (zw c 0 (nI nc - 1) && zw v 0 8) ∧ u = (if (zw c 0 (nI nc - 1) && zw v 0 8) = true then iv_u σ 11 c.toNatClampNeg v else σ)) := by
  refine iv_ctl (own := RX6) (b := tbX6) (ls := [some (.inl 0), some (.inr c), some (.inr v)]) (plainFor_of_name (by decide)) rfl okX6 (Nat.le_of_ble_eq_true rfl) rfl ?_
  refine iv_blk [] 60 ?_
  simp only [iv_sn, ie_cl0, ie_cl1, ie_cl2, ie_cl3, ie_cl4, ie_cl5, ie_cl6, ie_cl7, ie_cl8, ie_v5_0, ie_v5_1, ie_v5_2, ie_v5_3, ie_v5_4, ie_v6_0, ie_v8_0, ie_v12_0, ie_v24_0, ie_v30_0, ie_v3380_0, true_implies, false_implies, not_true_eq_false, implies_true, ie_10, ie_m10, ie_mm, iv_u_eq, iv_u_ne, Nat.reduceEqDiff, ie_p1, ie_p2, ie_pr, ie_pa, ie_ps, ie_d1, ie_d2, ie_r1, ie_o, ie_gr, ie_gi, ie_pt, ie_pf, ie_ri, ie_rz, ie_br, ie_c1eq, ie_c1ne, ie_c1lt, ie_c1ge, ie_c1gt, ie_c1le, ie_c2eq, ie_c2ne, ie_c2lt, ie_c2ge, ie_c2gt, ie_c2le, ie_fn0, ie_fn1, ie_fn2, ie_fn3, Nat.reduceAdd, ie_nc, Int.reduceAdd, Int.reduceLE, Int.reduceToNat, Nat.reduceLT, Nat.reduceLeDiff, Int.reduceNeg, eq_self, true_and, and_true, true_or, or_true, Nat.reduceBEq, List.elem_cons, List.elem_nil, Bool.or_false, Bool.false_or, Bool.or_true, Bool.true_or, Bool.false_eq_true, if_false, if_true, reduceIte, reduceCtorEq, ne_eq, not_false_eq_true, Classical.not_not, List.length_cons, List.length_nil, Nat.zero_le, List.map_cons, List.map_nil, List.cons_append, List.nil_append, List.replicate_succ, List.replicate_zero, Nat.reduceSub, sX6_wish_0, sX6_wish_1, sX6_wish_4, sX6_wish_5, sX6_wish_8, sX6_wish_11, sX6_wish_12, sX6_wish_13, sX6_wish_15, sX6_wish_18, sX6_wish_21, sX6_wish_22, sX6_wish_23, sX6_wish_24, sX6_wish_27, sX6_wish_30, sX6_wish_31, sX6_wish_32, sX6_wish_33, sX6_wish_34, cvX6_61, cvX6_96, gfX6_170_3, gfX6_19_0, ie_b8, ie_call1, ie_call2, ie_call3, ie_call4, ie_call5, ie_call6, ie_call7, ie_call8, ie_i0, ie_i1, ie_li1, ie_li2, ie_lr0, ie_rc1, ie_rc2, ie_rc3, ie_rc4, ie_rc5, ie_rc6, ie_rc7, ie_rc8, iv_ar_1, iv_ar_10, iv_ar_11, iv_ar_13, iv_ar_14, iv_ar_15, iv_ar_16, iv_ar_17, iv_ar_19, iv_ar_2, iv_ar_20, iv_ar_21, iv_ar_22, iv_ar_23, iv_ar_25, iv_ar_26, iv_ar_27, iv_ar_28, iv_ar_31, iv_ar_32, iv_ar_34, iv_ar_35, iv_ar_36, iv_ar_38, iv_ar_39, iv_ar_40, iv_ar_41, iv_ar_42, iv_ar_43, iv_ar_44, iv_ar_45, iv_ar_46, iv_ar_47, iv_ar_48, iv_ar_49, iv_ar_5, iv_ar_50, iv_ar_51, iv_ar_52, iv_ar_53, iv_ar_54, iv_ar_55, iv_ar_56, iv_ar_6, iv_ar_7, iv_ar_8, iv_ar_9, iv_cls_0, iv_cls_12, iv_cls_18, iv_cls_24, iv_cls_29, iv_cls_3, iv_cls_30, iv_cls_33, iv_cls_37, iv_cls_4]
  refine ⟨_, ct_chas _, ?_⟩
  rintro r1 σ1 ⟨rfl, rfl⟩
  simp only [zb0, zbn, hc]
  refine ⟨fun h1 => by simp [h1, zb], fun h1 => ?_⟩
  refine ⟨_, ct_isWithin _ _ _, ?_⟩
  rintro r1 σ1 ⟨rfl, rfl⟩
  simp only [zb0, zbn]
  refine ⟨fun h2 => ⟨z_vin h1 hnc (by decide), by simp [h1, h2, zb]⟩, fun h2 => by simp [h2, zb]⟩
set_option maxRecDepth 20000 in
set_option maxHeartbeats 4000000 in
theorem ct_chosen : iv_Ct X mX6_chosen (d + 1) [.inl 0] σ (fun r u => r = σ 29 3 ∧ u = σ) := by
  refine iv_ctl (own := RX6) (b := tbX6) (ls := [some (.inl 0)]) (plainFor_of_name (by decide)) rfl okX6 (Nat.le_of_ble_eq_true rfl) rfl ?_
  refine iv_blk [] 60 ?_
  simp only [iv_sn, ie_cl0, ie_cl1, ie_cl2, ie_cl3, ie_cl4, ie_cl5, ie_cl6, ie_cl7, ie_cl8, ie_v5_0, ie_v5_1, ie_v5_2, ie_v5_3, ie_v5_4, ie_v6_0, ie_v8_0, ie_v12_0, ie_v24_0, ie_v30_0, ie_v3380_0, true_implies, false_implies, not_true_eq_false, implies_true, ie_10, ie_m10, ie_mm, iv_u_eq, iv_u_ne, Nat.reduceEqDiff, ie_p1, ie_p2, ie_pr, ie_pa, ie_ps, ie_d1, ie_d2, ie_r1, ie_o, ie_gr, ie_gi, ie_pt, ie_pf, ie_ri, ie_rz, ie_br, ie_c1eq, ie_c1ne, ie_c1lt, ie_c1ge, ie_c1gt, ie_c1le, ie_c2eq, ie_c2ne, ie_c2lt, ie_c2ge, ie_c2gt, ie_c2le, ie_fn0, ie_fn1, ie_fn2, ie_fn3, Nat.reduceAdd, ie_nc, Int.reduceAdd, Int.reduceLE, Int.reduceToNat, Nat.reduceLT, Nat.reduceLeDiff, Int.reduceNeg, eq_self, true_and, and_true, true_or, or_true, Nat.reduceBEq, List.elem_cons, List.elem_nil, Bool.or_false, Bool.false_or, Bool.or_true, Bool.true_or, Bool.false_eq_true, if_false, if_true, reduceIte, reduceCtorEq, ne_eq, not_false_eq_true, Classical.not_not, List.length_cons, List.length_nil, Nat.zero_le, List.map_cons, List.map_nil, List.cons_append, List.nil_append, List.replicate_succ, List.replicate_zero, Nat.reduceSub, sX6_chosen_0, sX6_chosen_1, sX6_chosen_4, sX6_chosen_7, gfX6_208_29, gfX6_47_0, ie_lr0]
set_option maxRecDepth 20000 in
set_option maxHeartbeats 4000000 in
theorem ct_point {n k : Nat} (hs : σ 30 2 = nI n) (hn : n ≤ 12) (hs2 : σ 33 2 = nI k) (hk : k ≤ 8) (w x y : Int32) : iv_Ct X mX6_point (d + 3) [.inl 0, .inr w, .inr x, .inr y] σ (fun r u =>
    ((zw w 0 1 && (zw x 0 99 && zw y 0 99)) = true → w = 0 → n < 12 → r = nI n ∧ u = iv_u (iv_u (iv_u σ 31 n x) 32 n y) 30 2 (nI (n + 1))) ∧
    ((zw w 0 1 && (zw x 0 99 && zw y 0 99)) = true → ¬ w = 0 → k < 8 → r = nI k ∧ u = iv_u (iv_u (iv_u σ 34 k x) 35 k y) 33 2 (nI (k + 1))) ∧
    ((zw w 0 1 && (zw x 0 99 && zw y 0 99)) = false ∨ (w = 0 ∧ ¬ n < 12) ∨ (¬ w = 0 ∧ ¬ k < 8) → r = -1 ∧ u = σ)) := by
  refine iv_ctl (own := RX6) (b := tbX6) (ls := [some (.inl 0), some (.inr w), some (.inr x), some (.inr y)]) (plainFor_of_name (by decide)) rfl okX6 (Nat.le_of_ble_eq_true rfl) rfl ?_
  refine iv_blk [] 60 ?_
  simp only [iv_sn, ie_cl0, ie_cl1, ie_cl2, ie_cl3, ie_cl4, ie_cl5, ie_cl6, ie_cl7, ie_cl8, ie_v5_0, ie_v5_1, ie_v5_2, ie_v5_3, ie_v5_4, ie_v6_0, ie_v8_0, ie_v12_0, ie_v24_0, ie_v30_0, ie_v3380_0, true_implies, false_implies, not_true_eq_false, implies_true, ie_10, ie_m10, ie_mm, iv_u_eq, iv_u_ne, Nat.reduceEqDiff, ie_p1, ie_p2, ie_pr, ie_pa, ie_ps, ie_d1, ie_d2, ie_r1, ie_o, ie_gr, ie_gi, ie_pt, ie_pf, ie_ri, ie_rz, ie_br, ie_c1eq, ie_c1ne, ie_c1lt, ie_c1ge, ie_c1gt, ie_c1le, ie_c2eq, ie_c2ne, ie_c2lt, ie_c2ge, ie_c2gt, ie_c2le, ie_fn0, ie_fn1, ie_fn2, ie_fn3, Nat.reduceAdd, ie_nc, Int.reduceAdd, Int.reduceLE, Int.reduceToNat, Nat.reduceLT, Nat.reduceLeDiff, Int.reduceNeg, eq_self, true_and, and_true, true_or, or_true, Nat.reduceBEq, List.elem_cons, List.elem_nil, Bool.or_false, Bool.false_or, Bool.or_true, Bool.true_or, Bool.false_eq_true, if_false, if_true, reduceIte, reduceCtorEq, ne_eq, not_false_eq_true, Classical.not_not, List.length_cons, List.length_nil, Nat.zero_le, List.map_cons, List.map_nil, List.cons_append, List.nil_append, List.replicate_succ, List.replicate_zero, Nat.reduceSub, sX6_point_0, sX6_point_1, sX6_point_2, sX6_point_3, sX6_point_6, sX6_point_9, sX6_point_10, sX6_point_11, sX6_point_14, sX6_point_17, sX6_point_18, sX6_point_19, sX6_point_20, sX6_point_23, sX6_point_24, sX6_point_27, sX6_point_30, sX6_point_31, sX6_point_32, sX6_point_35, sX6_point_38, sX6_point_39, sX6_point_42, sX6_point_45, sX6_point_46, sX6_point_47, sX6_point_50, cvX6_203, cvX6_57, cvX6_61, gfX6_133_29, gfX6_140_29, gfX6_47_0, ie_call1, ie_call2, ie_call3, ie_call4, ie_call5, ie_call6, ie_call7, ie_call8, ie_i0, ie_i1, ie_im1, ie_li1, ie_li2, ie_li3, ie_lr0, ie_rc1, ie_rc2, ie_rc3, ie_rc4, ie_rc5, ie_rc6, ie_rc7, ie_rc8, iv_cls_0, iv_cls_12, iv_cls_18, iv_cls_24, iv_cls_29, iv_cls_3, iv_cls_30, iv_cls_33, iv_cls_37, iv_cls_4]
  refine ⟨_, ct_isWithin _ _ _, ?_⟩
  rintro r1 σ1 ⟨rfl, rfl⟩
  simp only [zb0, zbn]
  refine ⟨fun h1 => by simp [h1], fun h1 => ?_⟩
  refine ⟨_, ct_isInTown _ _, ?_⟩
  rintro r1 σ1 ⟨rfl, rfl⟩
  simp only [zb0, zbn]
  refine ⟨fun h2 => ?_, fun h2 => by simp [h2]⟩
  refine ⟨fun h3 => ?_, fun h3 => ?_⟩
  · refine ⟨_, ct_saddS hs2 hk _ _, ?_⟩
    rintro r1 σ2 ⟨h5, h6⟩
    refine ⟨fun _ h => absurd h h3, fun _ _ => h5, fun h => h6 ?_⟩
    rcases h with h | h | h
    · simp [h1, h2] at h
    · exact absurd h.1 h3
    · exact h.2
  · refine ⟨_, ct_saddR hs hn _ _, ?_⟩
    rintro r1 σ2 ⟨h5, h6⟩
    refine ⟨fun _ _ => h5, fun _ h => absurd h3 h, fun h => h6 ?_⟩
    rcases h with h | h | h
    · simp [h1, h2] at h
    · exact h.2
    · exact absurd h3 h.1
end ZO
