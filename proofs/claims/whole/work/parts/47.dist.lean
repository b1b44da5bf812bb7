def zA (v : Int32) : Int32 := if v < 0 then -v else v
section YB
variable {X : iv_X} {d : Nat} {σ : iv_S}
set_option maxRecDepth 20000 in
set_option maxHeartbeats 4000000 in
theorem ct_distC {j : Nat} (hj : j < 6) (x y : Int32) : iv_Ct X mX4_distance (d + 2) [.inl 4, .inr (nI j), .inr x, .inr y] σ (fun r u => r = zA (σ 5 j - x) + zA (σ 6 j - y) ∧ u = σ) := by
  refine iv_ctl (own := RX4) (b := tbX4) (ls := [some (.inl 4), some (.inr (nI j)), some (.inr x), some (.inr y)]) (plainFor_of_name (by decide)) rfl okX4 (Nat.le_of_ble_eq_true rfl) rfl ?_
  refine iv_blk [] 60 ?_
  simp only [iv_sn, ie_cl0, ie_cl1, ie_cl2, ie_cl3, ie_cl4, ie_cl5, ie_cl6, ie_cl7, ie_cl8, ie_v5_0, ie_v5_1, ie_v5_2, ie_v5_3, ie_v5_4, ie_v6_0, ie_v8_0, ie_v12_0, ie_v24_0, ie_v30_0, ie_v3380_0, true_implies, false_implies, not_true_eq_false, implies_true, ie_10, ie_m10, ie_mm, iv_u_eq, iv_u_ne, Nat.reduceEqDiff, ie_p1, ie_p2, ie_pr, ie_pa, ie_ps, ie_d1, ie_d2, ie_r1, ie_o, ie_gr, ie_gi, ie_pt, ie_pf, ie_ri, ie_rz, ie_br, ie_c1eq, ie_c1ne, ie_c1lt, ie_c1ge, ie_c1gt, ie_c1le, ie_c2eq, ie_c2ne, ie_c2lt, ie_c2ge, ie_c2gt, ie_c2le, ie_fn0, ie_fn1, ie_fn2, ie_fn3, Nat.reduceAdd, ie_nc, Int.reduceAdd, Int.reduceLE, Int.reduceToNat, Nat.reduceLT, Nat.reduceLeDiff, Int.reduceNeg, eq_self, true_and, and_true, true_or, or_true, Nat.reduceBEq, List.elem_cons, List.elem_nil, Bool.or_false, Bool.false_or, Bool.or_true, Bool.true_or, Bool.false_eq_true, if_false, if_true, reduceIte, reduceCtorEq, ne_eq, not_false_eq_true, Classical.not_not, List.length_cons, List.length_nil, Nat.zero_le, List.map_cons, List.map_nil, List.cons_append, List.nil_append, List.replicate_succ, List.replicate_zero, Nat.reduceSub, sX4_distance_0, sX4_distance_1, sX4_distance_4, sX4_distance_5, sX4_distance_6, sX4_distance_7, sX4_distance_8, sX4_distance_11, sX4_distance_12, sX4_distance_15, sX4_distance_16, sX4_distance_17, sX4_distance_18, sX4_distance_19, sX4_distance_22, sX4_distance_23, cvX4_28, gfX4_15_30, gfX4_15_33, gfX4_15_4, gfX4_21_30, gfX4_21_33, gfX4_21_4, ie_call1, ie_call2, ie_call3, ie_call4, ie_call5, ie_call6, ie_call7, ie_call8, ie_li1, ie_li2, ie_li3, ie_lr0, iv_ar_1, iv_ar_10, iv_ar_11, iv_ar_13, iv_ar_14, iv_ar_15, iv_ar_16, iv_ar_17, iv_ar_19, iv_ar_2, iv_ar_20, iv_ar_21, iv_ar_22, iv_ar_23, iv_ar_25, iv_ar_26, iv_ar_27, iv_ar_28, iv_ar_31, iv_ar_32, iv_ar_34, iv_ar_35, iv_ar_36, iv_ar_38, iv_ar_39, iv_ar_40, iv_ar_41, iv_ar_42, iv_ar_43, iv_ar_44, iv_ar_45, iv_ar_46, iv_ar_47, iv_ar_48, iv_ar_49, iv_ar_5, iv_ar_50, iv_ar_51, iv_ar_52, iv_ar_53, iv_ar_54, iv_ar_55, iv_ar_56, iv_ar_6, iv_ar_7, iv_ar_8, iv_ar_9, z_cl (show j < 2 ^ 31 by omega), z_in hj (by decide)]
  refine ⟨_, ct_abs _, ?_⟩
  rintro r1 σ1 ⟨rfl, h1⟩
  subst h1
  refine ⟨_, ct_abs _, ?_⟩
  rintro r1 σ2 ⟨rfl, h1⟩
  subst h1
  exact ⟨rfl, rfl⟩
set_option maxRecDepth 20000 in
set_option maxHeartbeats 4000000 in
theorem ct_distR {j : Nat} (hj : j < 12) (x y : Int32) : iv_Ct X mX4_distance (d + 2) [.inl 30, .inr (nI j), .inr x, .inr y] σ (fun r u => r = zA (σ 31 j - x) + zA (σ 32 j - y) ∧ u = σ) := by
  refine iv_ctl (own := RX4) (b := tbX4) (ls := [some (.inl 30), some (.inr (nI j)), some (.inr x), some (.inr y)]) (plainFor_of_name (by decide)) rfl okX4 (Nat.le_of_ble_eq_true rfl) rfl ?_
  refine iv_blk [] 60 ?_
  simp only [iv_sn, ie_cl0, ie_cl1, ie_cl2, ie_cl3, ie_cl4, ie_cl5, ie_cl6, ie_cl7, ie_cl8, ie_v5_0, ie_v5_1, ie_v5_2, ie_v5_3, ie_v5_4, ie_v6_0, ie_v8_0, ie_v12_0, ie_v24_0, ie_v30_0, ie_v3380_0, true_implies, false_implies, not_true_eq_false, implies_true, ie_10, ie_m10, ie_mm, iv_u_eq, iv_u_ne, Nat.reduceEqDiff, ie_p1, ie_p2, ie_pr, ie_pa, ie_ps, ie_d1, ie_d2, ie_r1, ie_o, ie_gr, ie_gi, ie_pt, ie_pf, ie_ri, ie_rz, ie_br, ie_c1eq, ie_c1ne, ie_c1lt, ie_c1ge, ie_c1gt, ie_c1le, ie_c2eq, ie_c2ne, ie_c2lt, ie_c2ge, ie_c2gt, ie_c2le, ie_fn0, ie_fn1, ie_fn2, ie_fn3, Nat.reduceAdd, ie_nc, Int.reduceAdd, Int.reduceLE, Int.reduceToNat, Nat.reduceLT, Nat.reduceLeDiff, Int.reduceNeg, eq_self, true_and, and_true, true_or, or_true, Nat.reduceBEq, List.elem_cons, List.elem_nil, Bool.or_false, Bool.false_or, Bool.or_true, Bool.true_or, Bool.false_eq_true, if_false, if_true, reduceIte, reduceCtorEq, ne_eq, not_false_eq_true, Classical.not_not, List.length_cons, List.length_nil, Nat.zero_le, List.map_cons, List.map_nil, List.cons_append, List.nil_append, List.replicate_succ, List.replicate_zero, Nat.reduceSub, sX4_distance_0, sX4_distance_1, sX4_distance_4, sX4_distance_5, sX4_distance_6, sX4_distance_7, sX4_distance_8, sX4_distance_11, sX4_distance_12, sX4_distance_15, sX4_distance_16, sX4_distance_17, sX4_distance_18, sX4_distance_19, sX4_distance_22, sX4_distance_23, cvX4_28, gfX4_15_30, gfX4_15_33, gfX4_15_4, gfX4_21_30, gfX4_21_33, gfX4_21_4, ie_call1, ie_call2, ie_call3, ie_call4, ie_call5, ie_call6, ie_call7, ie_call8, ie_li1, ie_li2, ie_li3, ie_lr0, iv_ar_1, iv_ar_10, iv_ar_11, iv_ar_13, iv_ar_14, iv_ar_15, iv_ar_16, iv_ar_17, iv_ar_19, iv_ar_2, iv_ar_20, iv_ar_21, iv_ar_22, iv_ar_23, iv_ar_25, iv_ar_26, iv_ar_27, iv_ar_28, iv_ar_31, iv_ar_32, iv_ar_34, iv_ar_35, iv_ar_36, iv_ar_38, iv_ar_39, iv_ar_40, iv_ar_41, iv_ar_42, iv_ar_43, iv_ar_44, iv_ar_45, iv_ar_46, iv_ar_47, iv_ar_48, iv_ar_49, iv_ar_5, iv_ar_50, iv_ar_51, iv_ar_52, iv_ar_53, iv_ar_54, iv_ar_55, iv_ar_56, iv_ar_6, iv_ar_7, iv_ar_8, iv_ar_9, z_cl (show j < 2 ^ 31 by omega), z_in hj (by decide)]
  refine ⟨_, ct_abs _, ?_⟩
  rintro r1 σ1 ⟨rfl, h1⟩
  subst h1
  refine ⟨_, ct_abs _, ?_⟩
  rintro r1 σ2 ⟨rfl, h1⟩
  subst h1
  exact ⟨rfl, rfl⟩
set_option maxRecDepth 20000 in
set_option maxHeartbeats 4000000 in
theorem ct_distS {j : Nat} (hj : j < 8) (x y : Int32) : iv_Ct X mX4_distance (d + 2) [.inl 33, .inr (nI j), .inr x, .inr y] σ (fun r u => r = zA (σ 34 j - x) + zA (σ 35 j - y) ∧ u = σ) := by
  refine iv_ctl (own := RX4) (b := tbX4) (ls := [some (.inl 33), some (.inr (nI j)), some (.inr x), some (.inr y)]) (plainFor_of_name (by decide)) rfl okX4 (Nat.le_of_ble_eq_true rfl) rfl ?_
  refine iv_blk [] 60 ?_
  simp only [iv_sn, ie_cl0, ie_cl1, ie_cl2, ie_cl3, ie_cl4, ie_cl5, ie_cl6, ie_cl7, ie_cl8, ie_v5_0, ie_v5_1, ie_v5_2, ie_v5_3, ie_v5_4, ie_v6_0, ie_v8_0, ie_v12_0, ie_v24_0, ie_v30_0, ie_v3380_0, true_implies, false_implies, not_true_eq_false, implies_true, ie_10, ie_m10, ie_mm, iv_u_eq, iv_u_ne, Nat.reduceEqDiff, ie_p1, ie_p2, ie_pr, ie_pa, ie_ps, ie_d1, ie_d2, ie_r1, ie_o, ie_gr, ie_gi, ie_pt, ie_pf, ie_ri, ie_rz, ie_br, ie_c1eq, ie_c1ne, ie_c1lt, ie_c1ge, ie_c1gt, ie_c1le, ie_c2eq, ie_c2ne, ie_c2lt, ie_c2ge, ie_c2gt, ie_c2le, ie_fn0, ie_fn1, ie_fn2, ie_fn3, Nat.reduceAdd, ie_nc, Int.reduceAdd, Int.reduceLE, Int.reduceToNat, Nat.reduceLT, Nat.reduceLeDiff, Int.reduceNeg, eq_self, true_and, and_true, true_or, or_true, Nat.reduceBEq, List.elem_cons, List.elem_nil, Bool.or_false, Bool.false_or, Bool.or_true, Bool.true_or, Bool.false_eq_true, if_false, if_true, reduceIte, reduceCtorEq, ne_eq, not_false_eq_true, Classical.not_not, List.length_cons, List.length_nil, Nat.zero_le, List.map_cons, List.map_nil, List.cons_append, List.nil_append, List.replicate_succ, List.replicate_zero, Nat.reduceSub, sX4_distance_0, sX4_distance_1, sX4_distance_4, sX4_distance_5, sX4_distance_6, sX4_distance_7, sX4_distance_8, sX4_distance_11, sX4_distance_12, sX4_distance_15, sX4_distance_16, sX4_distance_17, sX4_distance_18, sX4_distance_19, sX4_distance_22, sX4_distance_23, cvX4_28, gfX4_15_30, gfX4_15_33, gfX4_15_4, gfX4_21_30, gfX4_21_33, gfX4_21_4, ie_call1, ie_call2, ie_call3, ie_call4, ie_call5, ie_call6, ie_call7, ie_call8, ie_li1, ie_li2, ie_li3, ie_lr0, iv_ar_1, iv_ar_10, iv_ar_11, iv_ar_13, iv_ar_14, iv_ar_15, iv_ar_16, iv_ar_17, iv_ar_19, iv_ar_2, iv_ar_20, iv_ar_21, iv_ar_22, iv_ar_23, iv_ar_25, iv_ar_26, iv_ar_27, iv_ar_28, iv_ar_31, iv_ar_32, iv_ar_34, iv_ar_35, iv_ar_36, iv_ar_38, iv_ar_39, iv_ar_40, iv_ar_41, iv_ar_42, iv_ar_43, iv_ar_44, iv_ar_45, iv_ar_46, iv_ar_47, iv_ar_48, iv_ar_49, iv_ar_5, iv_ar_50, iv_ar_51, iv_ar_52, iv_ar_53, iv_ar_54, iv_ar_55, iv_ar_56, iv_ar_6, iv_ar_7, iv_ar_8, iv_ar_9, z_cl (show j < 2 ^ 31 by omega), z_in hj (by decide)]
  refine ⟨_, ct_abs _, ?_⟩
  rintro r1 σ1 ⟨rfl, h1⟩
  subst h1
  refine ⟨_, ct_abs _, ?_⟩
  rintro r1 σ2 ⟨rfl, h1⟩
  subst h1
  exact ⟨rfl, rfl⟩
set_option maxRecDepth 20000 in
set_option maxHeartbeats 4000000 in
theorem ct_m_away (x y a b : Int32) : iv_Ct X mX7_away (d + 2) [.inr x, .inr y, .inr a, .inr b] σ (fun r u => r = zA (x - a) + zA (y - b) ∧ u = σ) := by
  refine iv_ctl (own := RX7) (b := tbX7) (ls := [some (.inr x), some (.inr y), some (.inr a), some (.inr b)]) (plainFor_of_name (by decide)) rfl okX7 (Nat.le_of_ble_eq_true rfl) rfl ?_
  refine iv_blk [] 60 ?_
  simp only [iv_sn, ie_cl0, ie_cl1, ie_cl2, ie_cl3, ie_cl4, ie_cl5, ie_cl6, ie_cl7, ie_cl8, ie_v5_0, ie_v5_1, ie_v5_2, ie_v5_3, ie_v5_4, ie_v6_0, ie_v8_0, ie_v12_0, ie_v24_0, ie_v30_0, ie_v3380_0, true_implies, false_implies, not_true_eq_false, implies_true, ie_10, ie_m10, ie_mm, iv_u_eq, iv_u_ne, Nat.reduceEqDiff, ie_p1, ie_p2, ie_pr, ie_pa, ie_ps, ie_d1, ie_d2, ie_r1, ie_o, ie_gr, ie_gi, ie_pt, ie_pf, ie_ri, ie_rz, ie_br, ie_c1eq, ie_c1ne, ie_c1lt, ie_c1ge, ie_c1gt, ie_c1le, ie_c2eq, ie_c2ne, ie_c2lt, ie_c2ge, ie_c2gt, ie_c2le, ie_fn0, ie_fn1, ie_fn2, ie_fn3, Nat.reduceAdd, ie_nc, Int.reduceAdd, Int.reduceLE, Int.reduceToNat, Nat.reduceLT, Nat.reduceLeDiff, Int.reduceNeg, eq_self, true_and, and_true, true_or, or_true, Nat.reduceBEq, List.elem_cons, List.elem_nil, Bool.or_false, Bool.false_or, Bool.or_true, Bool.true_or, Bool.false_eq_true, if_false, if_true, reduceIte, reduceCtorEq, ne_eq, not_false_eq_true, Classical.not_not, List.length_cons, List.length_nil, Nat.zero_le, List.map_cons, List.map_nil, List.cons_append, List.nil_append, List.replicate_succ, List.replicate_zero, Nat.reduceSub, sX7_away_0, sX7_away_1, sX7_away_2, sX7_away_3, sX7_away_6, sX7_away_7, sX7_away_8, sX7_away_9, sX7_away_12, sX7_away_13, cvX7_150, ie_call1, ie_call2, ie_call3, ie_call4, ie_call5, ie_call6, ie_call7, ie_call8, ie_li0, ie_li1, ie_li2, ie_li3]
  refine ⟨_, ct_abs _, ?_⟩
  rintro r1 σ1 ⟨rfl, h1⟩
  subst h1
  refine ⟨_, ct_abs _, ?_⟩
  rintro r1 σ2 ⟨rfl, h1⟩
  subst h1
  exact ⟨rfl, rfl⟩
end YB
