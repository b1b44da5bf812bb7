def zu (x : Int32) (k : Int32) : Int32 := (x.toUInt32 >>> (k.toUInt32 &&& Int32.toUInt32 31)).toInt32
def zB1 (x : Int32) : Int32 := x - (zu x 1 &&& 1431655765)
def zB2 (x : Int32) : Int32 := (x &&& 858993459) + (zu x 2 &&& 858993459)
def zB3 (x : Int32) : Int32 := (x + zu x 4) &&& 252645135
def zBC (x : Int32) : Int32 := ((zB3 (zB2 (zB1 x)) + zu (zB3 (zB2 (zB1 x))) 8) + zu (zB3 (zB2 (zB1 x)) + zu (zB3 (zB2 (zB1 x))) 8) 16) &&& 63
section YC
variable {X : iv_X} {d : Nat} {σ : iv_S}

set_option maxRecDepth 20000 in
set_option maxHeartbeats 4000000 in
theorem ct_bitCount (x : Int32) : iv_Ct X mJ6_bitCount_0f7a4 (d + 1) [.inr x] σ (fun r u => r = zBC x ∧ u = σ) := by
  refine iv_ctl (own := RJ6) (b := tbJ6) (ls := [some (.inr x)]) (plainFor_of_name (by decide)) rfl okJ6 (Nat.le_of_ble_eq_true rfl) rfl ?_
  refine iv_blk [] 60 ?_
  simp only [iv_sn, ie_cl0, ie_cl1, ie_cl2, ie_cl3, ie_cl4, ie_cl5, ie_cl6, ie_cl7, ie_cl8, ie_v5_0, ie_v5_1, ie_v5_2, ie_v5_3, ie_v5_4, ie_v6_0, ie_v8_0, ie_v12_0, ie_v24_0, ie_v30_0, ie_v3380_0, true_implies, false_implies, not_true_eq_false, implies_true, ie_10, ie_m10, ie_mm, iv_u_eq, iv_u_ne, Nat.reduceEqDiff, ie_p1, ie_p2, ie_pr, ie_pa, ie_ps, ie_d1, ie_d2, ie_r1, ie_o, ie_gr, ie_gi, ie_pt, ie_pf, ie_ri, ie_rz, ie_br, ie_c1eq, ie_c1ne, ie_c1lt, ie_c1ge, ie_c1gt, ie_c1le, ie_c2eq, ie_c2ne, ie_c2lt, ie_c2ge, ie_c2gt, ie_c2le, ie_fn0, ie_fn1, ie_fn2, ie_fn3, Nat.reduceAdd, ie_nc, Int.reduceAdd, Int.reduceLE, Int.reduceToNat, Nat.reduceLT, Nat.reduceLeDiff, Int.reduceNeg, eq_self, true_and, and_true, true_or, or_true, Nat.reduceBEq, List.elem_cons, List.elem_nil, Bool.or_false, Bool.false_or, Bool.or_true, Bool.true_or, Bool.false_eq_true, if_false, if_true, reduceIte, reduceCtorEq, ne_eq, not_false_eq_true, Classical.not_not, List.length_cons, List.length_nil, Nat.zero_le, List.map_cons, List.map_nil, List.cons_append, List.nil_append, List.replicate_succ, List.replicate_zero, Nat.reduceSub, sJ6_bitCount_0f7a4_0, sJ6_bitCount_0f7a4_1, sJ6_bitCount_0f7a4_2, sJ6_bitCount_0f7a4_3, sJ6_bitCount_0f7a4_4, sJ6_bitCount_0f7a4_7, sJ6_bitCount_0f7a4_8, sJ6_bitCount_0f7a4_9, sJ6_bitCount_0f7a4_10, sJ6_bitCount_0f7a4_11, sJ6_bitCount_0f7a4_14, sJ6_bitCount_0f7a4_15, sJ6_bitCount_0f7a4_16, sJ6_bitCount_0f7a4_17, sJ6_bitCount_0f7a4_18, sJ6_bitCount_0f7a4_21, sJ6_bitCount_0f7a4_22, sJ6_bitCount_0f7a4_23, sJ6_bitCount_0f7a4_24, sJ6_bitCount_0f7a4_25, sJ6_bitCount_0f7a4_26, sJ6_bitCount_0f7a4_27, sJ6_bitCount_0f7a4_28, sJ6_bitCount_0f7a4_29, sJ6_bitCount_0f7a4_32, sJ6_bitCount_0f7a4_33, sJ6_bitCount_0f7a4_34, sJ6_bitCount_0f7a4_35, sJ6_bitCount_0f7a4_36, sJ6_bitCount_0f7a4_38, sJ6_bitCount_0f7a4_39, sJ6_bitCount_0f7a4_40, sJ6_bitCount_0f7a4_41, sJ6_bitCount_0f7a4_42, sJ6_bitCount_0f7a4_43, sJ6_bitCount_0f7a4_45, sJ6_bitCount_0f7a4_46, sJ6_bitCount_0f7a4_47, sJ6_bitCount_0f7a4_48, sJ6_bitCount_0f7a4_49, sJ6_bitCount_0f7a4_51, sJ6_bitCount_0f7a4_52, csJ6_265, csJ6_266, csJ6_267, ie_b16, ie_b63, ie_b8, ie_i1, ie_i2, ie_i4, ie_li0, ie_ls0]
  rfl
end YC
