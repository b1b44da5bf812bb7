def vR (F : vB) : Int32 := match F with
  | none => -2
  | some q => q.1
def vPM (st : Nat) (κ15 : Int32) (κ : Nat → Int32) (σ : iv_S) (B : vB) : Prop := match B with
  | none => σ 37 15 = κ15 ∧ σ 47 = κ
  | some q => σ 37 15 = nI st ∧ q.2.length = st ∧ ∀ i c, q.2[i]? = some c → σ 47 i = nI c
theorem vRep_r {st : Nat} {κ4 : Int32} {κ : Nat → Int32} {σ : iv_S} {B : vB} (h : vRep st κ4 κ σ B) : σ 24 7 = vR B := by
  cases B with
  | none => exact h.1
  | some q => exact h.1
def vQr (st : Nat) (σ : iv_S) (F : vB) (r : Int32) (u : iv_S) : Prop := r = vR F ∧ (∀ q, q ≠ 24 → q ≠ 25 → q ≠ 27 → q ≠ 28 → u q = σ q) ∧ vRep st (σ 24 4) (σ 28) u F
def vQrM (st : Nat) (σ : iv_S) (F : vB) (r : Int32) (u : iv_S) : Prop := r = vR F ∧ (∀ q, q ≠ 37 → q ≠ 47 → q ≠ 55 → q ≠ 56 → u q = σ q) ∧ (∀ j, j ≠ 15 → j ≠ 29 → u 37 j = σ 37 j) ∧ vPM st (σ 37 15) (σ 47) u F
theorem zsub0 {x y : Int32} : x - y = 0 ↔ x = y := by
  constructor
  · intro h
    have h2 : x - y + y = 0 + y := by rw [h]
    rw [Int32.sub_add_cancel, Int32.zero_add] at h2
    exact h2
  · rintro rfl
    exact Int32.sub_self _
section YF
variable {X : iv_X} {d : Nat} {σ σ0 : iv_S}
set_option maxRecDepth 20000 in
set_option maxHeartbeats 4000000 in
theorem ct_keepShortest {nc st : Nat} {sp xs ys κ : Nat → Int32} {van κ4 : Int32} (hst6 : st ≤ 6) (hnc : nc ≤ 6) (hT : ∀ c, c < nc → zT (xs c) ∧ zT (ys c)) (hst : σ 24 6 = nI st) (hn : σ 4 2 = nI nc) (h25 : ∀ c, c < nc → σ 25 c = sp c) (h5 : ∀ c, c < nc → σ 5 c = xs c) (h6 : ∀ c, c < nc → σ 6 c = ys c) (hvan : σ 24 5 = van) (hV : ∀ c, c < nc → σ 26 c = 0) (hB : vRep st κ4 κ σ none) :
    iv_Ct X mX5_keepShortest (d + 10) [.inl 24, .inl 4] σ (fun r u => r = vR (vS nc sp xs ys van st (fun _ => false) [] 0 0 0 0 none) ∧ vQ st κ4 κ 0 σ (vS nc sp xs ys van st (fun _ => false) [] 0 0 0 0 none) 0 u) := by
  generalize hF : vS nc sp xs ys van st (fun _ => false) [] 0 0 0 0 none = F
  generalize hQ : (fun (r : Int32) (u : iv_S) => r = vR F ∧ vQ st κ4 κ 0 σ F 0 u) = Q
  have hcall := ct_extend (X := X) (κ := κ) (κ4 := κ4) hst6 hnc hT st (d + 8) σ [] (fun _ => false) 0 0 0 0 none (by omega) hst (by simp) hn h25 h5 h6 hvan ⟨by decide, by decide⟩ ⟨by decide, by decide⟩ (by decide) (by show (0 : Int) + _ ≤ _; omega) hV (fun i c h => by simp at h) hB
  rw [hF, List.length_nil, nI_0] at hcall
  refine iv_ctl (own := RX5) (b := tbX5) (ls := [some (.inl 24), some (.inl 4)]) (plainFor_of_name (by decide)) rfl okX5 (Nat.le_of_ble_eq_true rfl) rfl ?_
  refine iv_blk [] 30 ?_
  simp only [iv_sn, ie_cl0, ie_cl1, ie_cl2, ie_cl3, ie_cl4, ie_cl5, ie_cl6, ie_cl7, ie_cl8, ie_v5_0, ie_v5_1, ie_v5_2, ie_v5_3, ie_v5_4, ie_v6_0, ie_v8_0, ie_v12_0, ie_v24_0, ie_v30_0, ie_v3380_0, true_implies, false_implies, not_true_eq_false, implies_true, ie_10, ie_m10, ie_mm, iv_u_eq, iv_u_ne, Nat.reduceEqDiff, ie_p1, ie_p2, ie_pr, ie_pa, ie_ps, ie_d1, ie_d2, ie_r1, ie_o, ie_gr, ie_gi, ie_pt, ie_pf, ie_ri, ie_rz, ie_br, ie_c1eq, ie_c1ne, ie_c1lt, ie_c1ge, ie_c1gt, ie_c1le, ie_c2eq, ie_c2ne, ie_c2lt, ie_c2ge, ie_c2gt, ie_c2le, ie_fn0, ie_fn1, ie_fn2, ie_fn3, Nat.reduceAdd, ie_nc, Int.reduceAdd, Int.reduceLE, Int.reduceToNat, Nat.reduceLT, Nat.reduceLeDiff, Int.reduceNeg, eq_self, true_and, and_true, true_or, or_true, Nat.reduceBEq, List.elem_cons, List.elem_nil, Bool.or_false, Bool.false_or, Bool.or_true, Bool.true_or, Bool.false_eq_true, if_false, if_true, reduceIte, reduceCtorEq, ne_eq, not_false_eq_true, Classical.not_not, List.length_cons, List.length_nil, Nat.zero_le, List.map_cons, List.map_nil, List.cons_append, List.nil_append, List.replicate_succ, List.replicate_zero, Nat.reduceSub, sX5_keepShortest_0, sX5_keepShortest_1, sX5_keepShortest_2, sX5_keepShortest_3, sX5_keepShortest_4, sX5_keepShortest_5, sX5_keepShortest_6, sX5_keepShortest_7, sX5_keepShortest_10, sX5_keepShortest_11, sX5_keepShortest_14, cvX5_35, gfX5_32_24, ie_call1, ie_call2, ie_call3, ie_call4, ie_call5, ie_call6, ie_call7, ie_call8, ie_i0, ie_lr0, ie_lr1, ie_rc1, ie_rc2, ie_rc3, ie_rc4, ie_rc5, ie_rc6, ie_rc7, ie_rc8, iv_cls_0, iv_cls_12, iv_cls_18, iv_cls_24, iv_cls_29, iv_cls_3, iv_cls_30, iv_cls_33, iv_cls_37, iv_cls_4]
  refine ⟨_, hcall, ?_⟩
  intro r1 u hu
  rw [← hQ]
  exact ⟨vRep_r hu.2.2.2, hu⟩
set_option maxRecDepth 20000 in
set_option maxHeartbeats 4000000 in
theorem ct_round {np nc st : Nat} {sp xs ys : Nat → Int32} (hs : σ 12 5 = nI np) (hnp : np ≤ 30) (hc : σ 4 2 = nI nc) (hnc : nc ≤ 6) (hsp : ∀ c, c < nc → nI (zc (fun p => decide (σ 16 p = nI c)) np) - σ 11 c = sp c) (h5 : ∀ c, c < nc → σ 5 c = xs c) (h6 : ∀ c, c < nc → σ 6 c = ys c) (hT : ∀ c, c < nc → zT (xs c) ∧ zT (ys c)) (hV : ∀ c, c < nc → σ 26 c = 0) (hst : zc (fun c => !decide (sp c = 0)) nc = st) :
    iv_Ct X mX6_round (d + 11) [.inl 0] σ (vQr st σ (vS nc sp xs ys (σ 1 4) st (fun _ => false) [] 0 0 0 0 none)) := by
  generalize hF : vS nc sp xs ys (σ 1 4) st (fun _ => false) [] 0 0 0 0 none = F
  have hst6 : st ≤ 6 := by
    have := zc_le (fun c => !decide (sp c = 0)) nc
    omega
  refine iv_ctl (own := RX6) (b := tbX6) (ls := [some (.inl 0), none]) (plainFor_of_name (by decide)) rfl okX6 (Nat.le_of_ble_eq_true rfl) rfl ?_
  refine iv_blk [15] 30 ?_
  simp only [iv_sn, ie_cl0, ie_cl1, ie_cl2, ie_cl3, ie_cl4, ie_cl5, ie_cl6, ie_cl7, ie_cl8, ie_v5_0, ie_v5_1, ie_v5_2, ie_v5_3, ie_v5_4, ie_v6_0, ie_v8_0, ie_v12_0, ie_v24_0, ie_v30_0, ie_v3380_0, true_implies, false_implies, not_true_eq_false, implies_true, ie_10, ie_m10, ie_mm, iv_u_eq, iv_u_ne, Nat.reduceEqDiff, ie_p1, ie_p2, ie_pr, ie_pa, ie_ps, ie_d1, ie_d2, ie_r1, ie_o, ie_gr, ie_gi, ie_pt, ie_pf, ie_ri, ie_rz, ie_br, ie_c1eq, ie_c1ne, ie_c1lt, ie_c1ge, ie_c1gt, ie_c1le, ie_c2eq, ie_c2ne, ie_c2lt, ie_c2ge, ie_c2gt, ie_c2le, ie_fn0, ie_fn1, ie_fn2, ie_fn3, Nat.reduceAdd, ie_nc, Int.reduceAdd, Int.reduceLE, Int.reduceToNat, Nat.reduceLT, Nat.reduceLeDiff, Int.reduceNeg, eq_self, true_and, and_true, true_or, or_true, Nat.reduceBEq, List.elem_cons, List.elem_nil, Bool.or_false, Bool.false_or, Bool.or_true, Bool.true_or, Bool.false_eq_true, if_false, if_true, reduceIte, reduceCtorEq, ne_eq, not_false_eq_true, Classical.not_not, List.length_cons, List.length_nil, Nat.zero_le, List.map_cons, List.map_nil, List.cons_append, List.nil_append, List.replicate_succ, List.replicate_zero, Nat.reduceSub, sX6_round_0, sX6_round_1, sX6_round_4, sX6_round_5, sX6_round_8, sX6_round_9, sX6_round_10, sX6_round_13, sX6_round_14, cvX6_186, gfX6_40_0, gfX6_7_0, ie_call1, ie_call2, ie_call3, ie_call4, ie_call5, ie_call6, ie_call7, ie_call8, ie_i0, ie_i4, ie_li1, ie_lr0, ie_ls1, ie_rc1, ie_rc2, ie_rc3, ie_rc4, ie_rc5, ie_rc6, ie_rc7, ie_rc8, iv_ar_1, iv_ar_10, iv_ar_11, iv_ar_13, iv_ar_14, iv_ar_15, iv_ar_16, iv_ar_17, iv_ar_19, iv_ar_2, iv_ar_20, iv_ar_21, iv_ar_22, iv_ar_23, iv_ar_25, iv_ar_26, iv_ar_27, iv_ar_28, iv_ar_31, iv_ar_32, iv_ar_34, iv_ar_35, iv_ar_36, iv_ar_38, iv_ar_39, iv_ar_40, iv_ar_41, iv_ar_42, iv_ar_43, iv_ar_44, iv_ar_45, iv_ar_46, iv_ar_47, iv_ar_48, iv_ar_49, iv_ar_5, iv_ar_50, iv_ar_51, iv_ar_52, iv_ar_53, iv_ar_54, iv_ar_55, iv_ar_56, iv_ar_6, iv_ar_7, iv_ar_8, iv_ar_9, iv_cls_0, iv_cls_12, iv_cls_18, iv_cls_24, iv_cls_29, iv_cls_3, iv_cls_30, iv_cls_33, iv_cls_37, iv_cls_4]
  refine ⟨_, ct_vbegin _, ?_⟩
  rintro r1 σ1 rfl
  have key := z_down (n := nc) (P := fun i => ∀ (τ : iv_S), (∀ q, q ≠ 24 → q ≠ 25 → τ q = σ q) → τ 24 4 = σ 24 4 → τ 24 5 = σ 1 4 → τ 24 7 = -2 → τ 24 6 = nI (zc (fun c => !decide (sp c = 0)) i) → (∀ c, c < i → τ 25 c = sp c) → iv_Sf X (d + 10) mX6_round tbX6 (vQr st σ F) 15 [some (.inl 0), some (.inr (nI i))] [] τ) ?_ ?_
  · refine key _ ?_ ?_ ?_ ?_ ?_ ?_
    · intro q q1 q2
      rw [iv_u_ne q1, iv_u_ne q1, iv_u_ne q1]
    · simp [iv_u, upd]
    · simp [iv_u, upd]
    · simp [iv_u, upd]
    · simp [iv_u, upd, zc, nI_0]
    · intro c hc
      omega
  · intro τ f1 f2 f3 f4 f5 f6
    have e4 : τ 4 2 = nI nc := by rw [f1 4 (by decide) (by decide)]; exact hc
    refine iv_blk [15] 60 ?_
    simp only [iv_sn, ie_cl0, ie_cl1, ie_cl2, ie_cl3, ie_cl4, ie_cl5, ie_cl6, ie_cl7, ie_cl8, ie_v5_0, ie_v5_1, ie_v5_2, ie_v5_3, ie_v5_4, ie_v6_0, ie_v8_0, ie_v12_0, ie_v24_0, ie_v30_0, ie_v3380_0, true_implies, false_implies, not_true_eq_false, implies_true, ie_10, ie_m10, ie_mm, iv_u_eq, iv_u_ne, Nat.reduceEqDiff, ie_p1, ie_p2, ie_pr, ie_pa, ie_ps, ie_d1, ie_d2, ie_r1, ie_o, ie_gr, ie_gi, ie_pt, ie_pf, ie_ri, ie_rz, ie_br, ie_c1eq, ie_c1ne, ie_c1lt, ie_c1ge, ie_c1gt, ie_c1le, ie_c2eq, ie_c2ne, ie_c2lt, ie_c2ge, ie_c2gt, ie_c2le, ie_fn0, ie_fn1, ie_fn2, ie_fn3, Nat.reduceAdd, ie_nc, Int.reduceAdd, Int.reduceLE, Int.reduceToNat, Nat.reduceLT, Nat.reduceLeDiff, Int.reduceNeg, eq_self, true_and, and_true, true_or, or_true, Nat.reduceBEq, List.elem_cons, List.elem_nil, Bool.or_false, Bool.false_or, Bool.or_true, Bool.true_or, Bool.false_eq_true, if_false, if_true, reduceIte, reduceCtorEq, ne_eq, not_false_eq_true, Classical.not_not, List.length_cons, List.length_nil, Nat.zero_le, List.map_cons, List.map_nil, List.cons_append, List.nil_append, List.replicate_succ, List.replicate_zero, Nat.reduceSub, sX6_round_15, sX6_round_16, sX6_round_17, sX6_round_20, sX6_round_23, sX6_round_26, sX6_round_27, sX6_round_30, sX6_round_31, sX6_round_32, sX6_round_35, sX6_round_36, sX6_round_39, sX6_round_40, sX6_round_43, sX6_round_46, sX6_round_47, sX6_round_48, sX6_round_49, sX6_round_52, sX6_round_55, sX6_round_58, sX6_round_59, sX6_round_62, sX6_round_63, sX6_round_66, sX6_round_69, sX6_round_72, cvX6_107, cvX6_120, cvX6_190, cvX6_197, gfX6_170_3, gfX6_194_3, gfX6_19_0, gfX6_26_0, gfX6_40_0, ie_call1, ie_call2, ie_call3, ie_call4, ie_call5, ie_call6, ie_call7, ie_call8, ie_i1, ie_li1, ie_lr0, ie_ls1, ie_rc1, ie_rc2, ie_rc3, ie_rc4, ie_rc5, ie_rc6, ie_rc7, ie_rc8, iv_ar_1, iv_ar_10, iv_ar_11, iv_ar_13, iv_ar_14, iv_ar_15, iv_ar_16, iv_ar_17, iv_ar_19, iv_ar_2, iv_ar_20, iv_ar_21, iv_ar_22, iv_ar_23, iv_ar_25, iv_ar_26, iv_ar_27, iv_ar_28, iv_ar_31, iv_ar_32, iv_ar_34, iv_ar_35, iv_ar_36, iv_ar_38, iv_ar_39, iv_ar_40, iv_ar_41, iv_ar_42, iv_ar_43, iv_ar_44, iv_ar_45, iv_ar_46, iv_ar_47, iv_ar_48, iv_ar_49, iv_ar_5, iv_ar_50, iv_ar_51, iv_ar_52, iv_ar_53, iv_ar_54, iv_ar_55, iv_ar_56, iv_ar_6, iv_ar_7, iv_ar_8, iv_ar_9, iv_cls_0, iv_cls_12, iv_cls_18, iv_cls_24, iv_cls_29, iv_cls_3, iv_cls_30, iv_cls_33, iv_cls_37, iv_cls_4]
    refine ⟨_, ct_csize, ?_⟩
    rintro r1 σ1 ⟨rfl, hs1⟩
    subst hs1
    rw [e4]
    refine ⟨fun _ => ?_, fun h => absurd (z_nn (by omega)) h⟩
    refine ⟨_, ct_keepShortest (κ := σ 28) (κ4 := σ 24 4) (sp := sp) (xs := xs) (ys := ys) (van := σ 1 4) hst6 hnc hT (by rw [f5, hst]) e4 f6 (fun c hc => by rw [f1 5 (by decide) (by decide)]; exact h5 c hc) (fun c hc => by rw [f1 6 (by decide) (by decide)]; exact h6 c hc) f3 (fun c hc => by rw [f1 26 (by decide) (by decide)]; exact hV c hc) ⟨f4, f2, f1 28 (by decide) (by decide)⟩, ?_⟩
    rw [hF]
    rintro r2 u ⟨rfl, g1, g2, g3, g4⟩
    refine ⟨rfl, fun q q1 q2 q3 q4 => ?_, g4⟩
    rw [g1 q q1 q3 q4, f1 q q1 q2]
  · intro i hi ih τ f1 f2 f3 f4 f5 f6
    have e4 : τ 4 2 = nI nc := by rw [f1 4 (by decide) (by decide)]; exact hc
    have e16 := f1 16 (by decide) (by decide)
    have e11 := f1 11 (by decide) (by decide)
    refine iv_blk [15] 60 ?_
    simp only [iv_sn, ie_cl0, ie_cl1, ie_cl2, ie_cl3, ie_cl4, ie_cl5, ie_cl6, ie_cl7, ie_cl8, ie_v5_0, ie_v5_1, ie_v5_2, ie_v5_3, ie_v5_4, ie_v6_0, ie_v8_0, ie_v12_0, ie_v24_0, ie_v30_0, ie_v3380_0, true_implies, false_implies, not_true_eq_false, implies_true, ie_10, ie_m10, ie_mm, iv_u_eq, iv_u_ne, Nat.reduceEqDiff, ie_p1, ie_p2, ie_pr, ie_pa, ie_ps, ie_d1, ie_d2, ie_r1, ie_o, ie_gr, ie_gi, ie_pt, ie_pf, ie_ri, ie_rz, ie_br, ie_c1eq, ie_c1ne, ie_c1lt, ie_c1ge, ie_c1gt, ie_c1le, ie_c2eq, ie_c2ne, ie_c2lt, ie_c2ge, ie_c2gt, ie_c2le, ie_fn0, ie_fn1, ie_fn2, ie_fn3, Nat.reduceAdd, ie_nc, Int.reduceAdd, Int.reduceLE, Int.reduceToNat, Nat.reduceLT, Nat.reduceLeDiff, Int.reduceNeg, eq_self, true_and, and_true, true_or, or_true, Nat.reduceBEq, List.elem_cons, List.elem_nil, Bool.or_false, Bool.false_or, Bool.or_true, Bool.true_or, Bool.false_eq_true, if_false, if_true, reduceIte, reduceCtorEq, ne_eq, not_false_eq_true, Classical.not_not, List.length_cons, List.length_nil, Nat.zero_le, List.map_cons, List.map_nil, List.cons_append, List.nil_append, List.replicate_succ, List.replicate_zero, Nat.reduceSub, sX6_round_15, sX6_round_16, sX6_round_17, sX6_round_20, sX6_round_23, sX6_round_26, sX6_round_27, sX6_round_30, sX6_round_31, sX6_round_32, sX6_round_35, sX6_round_36, sX6_round_39, sX6_round_40, sX6_round_43, sX6_round_46, sX6_round_47, sX6_round_48, sX6_round_49, sX6_round_52, sX6_round_55, cvX6_107, cvX6_120, cvX6_190, gfX6_170_3, gfX6_19_0, gfX6_26_0, gfX6_40_0, ie_call1, ie_call2, ie_call3, ie_call4, ie_call5, ie_call6, ie_call7, ie_call8, ie_i1, ie_li1, ie_lr0, ie_ls1, ie_rc1, ie_rc2, ie_rc3, ie_rc4, ie_rc5, ie_rc6, ie_rc7, ie_rc8, iv_ar_1, iv_ar_10, iv_ar_11, iv_ar_13, iv_ar_14, iv_ar_15, iv_ar_16, iv_ar_17, iv_ar_19, iv_ar_2, iv_ar_20, iv_ar_21, iv_ar_22, iv_ar_23, iv_ar_25, iv_ar_26, iv_ar_27, iv_ar_28, iv_ar_31, iv_ar_32, iv_ar_34, iv_ar_35, iv_ar_36, iv_ar_38, iv_ar_39, iv_ar_40, iv_ar_41, iv_ar_42, iv_ar_43, iv_ar_44, iv_ar_45, iv_ar_46, iv_ar_47, iv_ar_48, iv_ar_49, iv_ar_5, iv_ar_50, iv_ar_51, iv_ar_52, iv_ar_53, iv_ar_54, iv_ar_55, iv_ar_56, iv_ar_6, iv_ar_7, iv_ar_8, iv_ar_9, iv_cls_0, iv_cls_12, iv_cls_18, iv_cls_24, iv_cls_29, iv_cls_3, iv_cls_30, iv_cls_33, iv_cls_37, iv_cls_4]
    refine ⟨_, ct_csize, ?_⟩
    rintro r1 σ1 ⟨rfl, hs1⟩
    subst hs1
    rw [e4]
    refine ⟨fun h => absurd h (nI_ge hi (by omega)), fun _ => ?_⟩
    refine ⟨_, ct_countIn (n := np) (by rw [f1 12 (by decide) (by decide)]; exact hs) hnp _, ?_⟩
    rintro r1 σ2 ⟨rfl, hs2⟩
    subst hs2
    simp only [e16, e11, z_cl (show i < 2 ^ 31 by omega), z_in (show i < 6 by omega) (by decide), hsp i hi, true_and]
    refine ⟨_, ct_addSurplus (show i < 6 by omega) _, ?_⟩
    rintro r2 σ3 rfl
    rw [nI_1]
    by_cases h0 : sp i = 0
    · rw [if_pos h0]
      refine ih _ ?_ ?_ ?_ ?_ ?_ ?_
      · intro q q1 q2
        rw [iv_u_ne q2]; exact f1 q q1 q2
      · rw [iv_u_ne (by decide)]; exact f2
      · rw [iv_u_ne (by decide)]; exact f3
      · rw [iv_u_ne (by decide)]; exact f4
      · rw [iv_u_ne (by decide), f5, zc_f (by simp [h0])]
      · intro c hc
        rw [iv_u_eq]
        by_cases hci : c = i
        · subst hci; rw [upd_same]
        · rw [upd_ne hci]; exact f6 c (by omega)
    · rw [if_neg h0]
      refine ih _ ?_ ?_ ?_ ?_ ?_ ?_
      · intro q q1 q2
        rw [iv_u_ne q1, iv_u_ne q2]; exact f1 q q1 q2
      · rw [iv_u_eq, upd_ne (by decide), iv_u_ne (by decide)]; exact f2
      · rw [iv_u_eq, upd_ne (by decide), iv_u_ne (by decide)]; exact f3
      · rw [iv_u_eq, upd_ne (by decide), iv_u_ne (by decide)]; exact f4
      · rw [iv_u_eq, upd_same, f5, zc_t (by simp [h0]), nI_1]
      · intro c hc
        rw [iv_u_ne (by decide), iv_u_eq]
        by_cases hci : c = i
        · subst hci; rw [upd_same]
        · rw [upd_ne hci]; exact f6 c (by omega)
set_option maxRecDepth 20000 in
set_option maxHeartbeats 4000000 in
theorem ct_m_round {np nc st : Nat} {sp xs ys : Nat → Int32} (h0 : σ0 = iv_u σ 37 23 0) (hs : σ0 37 6 = nI np) (hnp : np ≤ 30) (hc : σ0 37 1 = nI nc) (hnc : nc ≤ 6) (hsp : ∀ c, c < nc → nI (zc (fun p => decide (σ0 41 p = nI c)) np) - σ0 38 (7 * c + 6) = sp c) (h5 : ∀ c, c < nc → σ0 38 (7 * c) = xs c) (h6 : ∀ c, c < nc → σ0 38 (7 * c + 1) = ys c) (hT : ∀ c, c < nc → zT (xs c) ∧ zT (ys c)) (hst : zc (fun c => !decide (sp c = 0)) nc = st) :
    iv_Ct X mX7_round (d + 11) [.inl 37] σ (vQrM st σ0 (vS nc sp xs ys (σ0 43 4) st (fun _ => false) [] 0 0 0 0 none)) := by
  generalize hF : vS nc sp xs ys (σ0 43 4) st (fun _ => false) [] 0 0 0 0 none = F
  have hst6 : st ≤ 6 := by
    have := zc_le (fun c => !decide (sp c = 0)) nc
    omega
  generalize hff : (fun c => !decide (sp c = 0)) = ff at hst
  have hffc : ∀ c, ff c = !decide (sp c = 0) := fun c => by rw [← hff]
  have hml : ∀ i, i ≤ nc → vm ff i < 64 := by
    intro i hi
    have h1 := vm_lt ff i
    have h2 : 2 ^ i ≤ 2 ^ 6 := Nat.pow_le_pow_right (by omega) (by omega)
    omega
  refine iv_ctl (own := RX7) (b := tbX7) (ls := [some (.inl 37), none, none]) (plainFor_of_name (by decide)) rfl okX7 (Nat.le_of_ble_eq_true rfl) rfl ?_
  refine iv_blk [5] 9 ?_
  simp only [iv_sn, ie_cl0, ie_cl1, ie_cl2, ie_cl3, ie_cl4, ie_cl5, ie_cl6, ie_cl7, ie_cl8, ie_v5_0, ie_v5_1, ie_v5_2, ie_v5_3, ie_v5_4, ie_v6_0, ie_v8_0, ie_v12_0, ie_v24_0, ie_v30_0, ie_v3380_0, true_implies, false_implies, not_true_eq_false, implies_true, ie_10, ie_m10, ie_mm, iv_u_eq, iv_u_ne, Nat.reduceEqDiff, ie_p1, ie_p2, ie_pr, ie_pa, ie_ps, ie_d1, ie_d2, ie_r1, ie_o, ie_gr, ie_gi, ie_pt, ie_pf, ie_ri, ie_rz, ie_br, ie_c1eq, ie_c1ne, ie_c1lt, ie_c1ge, ie_c1gt, ie_c1le, ie_c2eq, ie_c2ne, ie_c2lt, ie_c2ge, ie_c2gt, ie_c2le, ie_fn0, ie_fn1, ie_fn2, ie_fn3, Nat.reduceAdd, ie_nc, Int.reduceAdd, Int.reduceLE, Int.reduceToNat, Nat.reduceLT, Nat.reduceLeDiff, Int.reduceNeg, eq_self, true_and, and_true, true_or, or_true, Nat.reduceBEq, List.elem_cons, List.elem_nil, Bool.or_false, Bool.false_or, Bool.or_true, Bool.true_or, Bool.false_eq_true, if_false, if_true, reduceIte, reduceCtorEq, ne_eq, not_false_eq_true, Classical.not_not, List.length_cons, List.length_nil, Nat.zero_le, List.map_cons, List.map_nil, List.cons_append, List.nil_append, List.replicate_succ, List.replicate_zero, Nat.reduceSub, sX7_round_0, sX7_round_1, sX7_round_2, gfX7_68_37, ie_i0, ie_lr0]
  rw [← h0]
  clear h0
  refine iv_blk [9] 30 ?_
  simp only [iv_sn, ie_cl0, ie_cl1, ie_cl2, ie_cl3, ie_cl4, ie_cl5, ie_cl6, ie_cl7, ie_cl8, ie_v5_0, ie_v5_1, ie_v5_2, ie_v5_3, ie_v5_4, ie_v6_0, ie_v8_0, ie_v12_0, ie_v24_0, ie_v30_0, ie_v3380_0, true_implies, false_implies, not_true_eq_false, implies_true, ie_10, ie_m10, ie_mm, iv_u_eq, iv_u_ne, Nat.reduceEqDiff, ie_p1, ie_p2, ie_pr, ie_pa, ie_ps, ie_d1, ie_d2, ie_r1, ie_o, ie_gr, ie_gi, ie_pt, ie_pf, ie_ri, ie_rz, ie_br, ie_c1eq, ie_c1ne, ie_c1lt, ie_c1ge, ie_c1gt, ie_c1le, ie_c2eq, ie_c2ne, ie_c2lt, ie_c2ge, ie_c2gt, ie_c2le, ie_fn0, ie_fn1, ie_fn2, ie_fn3, Nat.reduceAdd, ie_nc, Int.reduceAdd, Int.reduceLE, Int.reduceToNat, Nat.reduceLT, Nat.reduceLeDiff, Int.reduceNeg, eq_self, true_and, and_true, true_or, or_true, Nat.reduceBEq, List.elem_cons, List.elem_nil, Bool.or_false, Bool.false_or, Bool.or_true, Bool.true_or, Bool.false_eq_true, if_false, if_true, reduceIte, reduceCtorEq, ne_eq, not_false_eq_true, Classical.not_not, List.length_cons, List.length_nil, Nat.zero_le, List.map_cons, List.map_nil, List.cons_append, List.nil_append, List.replicate_succ, List.replicate_zero, Nat.reduceSub, sX7_round_5, sX7_round_6, sX7_round_7, sX7_round_8, ie_i0, ie_li1, ie_li2, ie_ls1, ie_ls2]
  have key := z_down (n := nc) (P := fun i => iv_Sf X (d + 10) mX7_round tbX7 (vQrM st σ0 F) 9 [some (.inl 37), some (.inr (nI (vm ff i))), some (.inr (nI i))] [] σ0) ?_ ?_
  · exact key
  · have hz : zc (fun c => (vm ff nc).testBit c) 6 = st := by
      have e : (fun c => (vm ff nc).testBit c) = fun c => decide (c < nc) && ff c := funext (vm_bit ff nc)
      rw [e, zc_cut 6 hnc, hst]
    refine iv_blk [9, 65] 60 ?_
    simp only [iv_sn, ie_cl0, ie_cl1, ie_cl2, ie_cl3, ie_cl4, ie_cl5, ie_cl6, ie_cl7, ie_cl8, ie_v5_0, ie_v5_1, ie_v5_2, ie_v5_3, ie_v5_4, ie_v6_0, ie_v8_0, ie_v12_0, ie_v24_0, ie_v30_0, ie_v3380_0, true_implies, false_implies, not_true_eq_false, implies_true, ie_10, ie_m10, ie_mm, iv_u_eq, iv_u_ne, Nat.reduceEqDiff, ie_p1, ie_p2, ie_pr, ie_pa, ie_ps, ie_d1, ie_d2, ie_r1, ie_o, ie_gr, ie_gi, ie_pt, ie_pf, ie_ri, ie_rz, ie_br, ie_c1eq, ie_c1ne, ie_c1lt, ie_c1ge, ie_c1gt, ie_c1le, ie_c2eq, ie_c2ne, ie_c2lt, ie_c2ge, ie_c2gt, ie_c2le, ie_fn0, ie_fn1, ie_fn2, ie_fn3, Nat.reduceAdd, ie_nc, Int.reduceAdd, Int.reduceLE, Int.reduceToNat, Nat.reduceLT, Nat.reduceLeDiff, Int.reduceNeg, eq_self, true_and, and_true, true_or, or_true, Nat.reduceBEq, List.elem_cons, List.elem_nil, Bool.or_false, Bool.false_or, Bool.or_true, Bool.true_or, Bool.false_eq_true, if_false, if_true, reduceIte, reduceCtorEq, ne_eq, not_false_eq_true, Classical.not_not, List.length_cons, List.length_nil, Nat.zero_le, List.map_cons, List.map_nil, List.cons_append, List.nil_append, List.replicate_succ, List.replicate_zero, Nat.reduceSub, sX7_round_9, sX7_round_10, sX7_round_11, sX7_round_14, sX7_round_17, sX7_round_18, sX7_round_19, sX7_round_22, sX7_round_23, sX7_round_26, sX7_round_28, sX7_round_29, sX7_round_30, sX7_round_32, sX7_round_33, sX7_round_34, sX7_round_37, sX7_round_38, sX7_round_39, sX7_round_40, sX7_round_41, sX7_round_42, sX7_round_43, sX7_round_46, sX7_round_49, sX7_round_50, sX7_round_51, sX7_round_54, sX7_round_55, sX7_round_56, sX7_round_57, sX7_round_58, sX7_round_59, sX7_round_60, sX7_round_61, sX7_round_62, cvX7_160, cvX7_82, gfX7_153_37, gfX7_72_37, gfX7_9_37, ie_b6, ie_b7, ie_call1, ie_call2, ie_call3, ie_call4, ie_call5, ie_call6, ie_call7, ie_call8, ie_i0, ie_i1, ie_im1, ie_li1, ie_li2, ie_lr0, ie_ls1, ie_ls2, ie_rc1, ie_rc2, ie_rc3, ie_rc4, ie_rc5, ie_rc6, ie_rc7, ie_rc8, iv_ar_1, iv_ar_10, iv_ar_11, iv_ar_13, iv_ar_14, iv_ar_15, iv_ar_16, iv_ar_17, iv_ar_19, iv_ar_2, iv_ar_20, iv_ar_21, iv_ar_22, iv_ar_23, iv_ar_25, iv_ar_26, iv_ar_27, iv_ar_28, iv_ar_31, iv_ar_32, iv_ar_34, iv_ar_35, iv_ar_36, iv_ar_38, iv_ar_39, iv_ar_40, iv_ar_41, iv_ar_42, iv_ar_43, iv_ar_44, iv_ar_45, iv_ar_46, iv_ar_47, iv_ar_48, iv_ar_49, iv_ar_5, iv_ar_50, iv_ar_51, iv_ar_52, iv_ar_53, iv_ar_54, iv_ar_55, iv_ar_56, iv_ar_6, iv_ar_7, iv_ar_8, iv_ar_9, iv_cls_0, iv_cls_12, iv_cls_18, iv_cls_24, iv_cls_29, iv_cls_3, iv_cls_30, iv_cls_33, iv_cls_37, iv_cls_4, hc]
    refine ⟨fun _ => ?_, fun h => absurd (z_nn (by omega)) h⟩
    have hcall := ct_m_goOn (X := X) (nc := nc) (st := st) (np := np) (a := vm ff nc) (sp := sp) (xs := xs) (ys := ys) (van := σ0 43 4) hst6 hnc hnp (hml nc (Nat.le_refl _)) (fun c hc => by rw [vm_bit]; simp [hc, hffc]) (fun c hc => by rw [vm_bit]; simp [show ¬ c < nc by omega]) hT st (d + 9) (iv_u σ0 37 29 (-1)) [] 0 0 0 0 0 none (by omega) (by rw [← hz]; congr 1; funext c; simp) (by decide) (fun c h => by simp at h) (by simp)
      (by rw [iv_u_eq, upd_ne (by decide)]; exact hc) (by rw [iv_u_eq, upd_ne (by decide)]; exact hs) (fun c hc => by rw [iv_u_ne (by decide), iv_u_ne (by decide)]; exact hsp c hc) (fun c hc => by rw [iv_u_ne (by decide)]; exact h5 c hc) (fun c hc => by rw [iv_u_ne (by decide)]; exact h6 c hc) (by rw [iv_u_ne (by decide)]) ⟨by decide, by decide⟩ ⟨by decide, by decide⟩ (by decide) (by show (0 : Int) + _ ≤ _; omega) (fun i c h => by simp at h) (by show iv_u σ0 37 29 (-1) 37 29 = -1; rw [iv_u_eq, upd_same])
    have hV : (fun c => (0 : Nat).testBit c) = fun _ => false := by funext c; simp
    rw [hV, hF, List.length_nil, nI_0] at hcall
    refine ⟨_, hcall, ?_⟩
    rintro r1 u ⟨g1, g2, g3, g4⟩
    cases F with
    | none =>
      have hb : u 37 29 = -1 := g4
      refine iv_blk [85] 60 ?_
      simp only [iv_sn, ie_cl0, ie_cl1, ie_cl2, ie_cl3, ie_cl4, ie_cl5, ie_cl6, ie_cl7, ie_cl8, ie_v5_0, ie_v5_1, ie_v5_2, ie_v5_3, ie_v5_4, ie_v6_0, ie_v8_0, ie_v12_0, ie_v24_0, ie_v30_0, ie_v3380_0, true_implies, false_implies, not_true_eq_false, implies_true, ie_10, ie_m10, ie_mm, iv_u_eq, iv_u_ne, Nat.reduceEqDiff, ie_p1, ie_p2, ie_pr, ie_pa, ie_ps, ie_d1, ie_d2, ie_r1, ie_o, ie_gr, ie_gi, ie_pt, ie_pf, ie_ri, ie_rz, ie_br, ie_c1eq, ie_c1ne, ie_c1lt, ie_c1ge, ie_c1gt, ie_c1le, ie_c2eq, ie_c2ne, ie_c2lt, ie_c2ge, ie_c2gt, ie_c2le, ie_fn0, ie_fn1, ie_fn2, ie_fn3, Nat.reduceAdd, ie_nc, Int.reduceAdd, Int.reduceLE, Int.reduceToNat, Nat.reduceLT, Nat.reduceLeDiff, Int.reduceNeg, eq_self, true_and, and_true, true_or, or_true, Nat.reduceBEq, List.elem_cons, List.elem_nil, Bool.or_false, Bool.false_or, Bool.or_true, Bool.true_or, Bool.false_eq_true, if_false, if_true, reduceIte, reduceCtorEq, ne_eq, not_false_eq_true, Classical.not_not, List.length_cons, List.length_nil, Nat.zero_le, List.map_cons, List.map_nil, List.cons_append, List.nil_append, List.replicate_succ, List.replicate_zero, Nat.reduceSub, sX7_round_65, sX7_round_66, sX7_round_69, sX7_round_72, sX7_round_74, sX7_round_75, sX7_round_76, sX7_round_77, sX7_round_80, sX7_round_83, sX7_round_84, cvX7_164, gfX7_153_37, gfX7_169_37, ie_bm2, ie_call1, ie_call2, ie_call3, ie_call4, ie_call5, ie_call6, ie_call7, ie_call8, ie_i0, ie_li1, ie_li2, ie_lr0, ie_ls2, hb]
      refine ⟨fun h => absurd h (by decide), fun _ => ⟨rfl, fun q q1 q2 q3 q4 => ?_, fun j j1 j2 => ?_, ?_, ?_⟩⟩
      · rw [g1 q q1 q3 q4, iv_u_ne q1]
      · rw [g2 j j2, iv_u_eq, upd_ne j2]
      · rw [g2 15 (by decide), iv_u_eq, upd_ne (by decide)]
      · rw [g1 47 (by decide) (by decide) (by decide), iv_u_ne (by decide)]
    | some q =>
      obtain ⟨b1, b2, b3, b4⟩ := g4
      have hge : 0 ≤ q.1 := by rw [z_le]; exact b2
      refine iv_blk [85] 60 ?_
      simp only [iv_sn, ie_cl0, ie_cl1, ie_cl2, ie_cl3, ie_cl4, ie_cl5, ie_cl6, ie_cl7, ie_cl8, ie_v5_0, ie_v5_1, ie_v5_2, ie_v5_3, ie_v5_4, ie_v6_0, ie_v8_0, ie_v12_0, ie_v24_0, ie_v30_0, ie_v3380_0, true_implies, false_implies, not_true_eq_false, implies_true, ie_10, ie_m10, ie_mm, iv_u_eq, iv_u_ne, Nat.reduceEqDiff, ie_p1, ie_p2, ie_pr, ie_pa, ie_ps, ie_d1, ie_d2, ie_r1, ie_o, ie_gr, ie_gi, ie_pt, ie_pf, ie_ri, ie_rz, ie_br, ie_c1eq, ie_c1ne, ie_c1lt, ie_c1ge, ie_c1gt, ie_c1le, ie_c2eq, ie_c2ne, ie_c2lt, ie_c2ge, ie_c2gt, ie_c2le, ie_fn0, ie_fn1, ie_fn2, ie_fn3, Nat.reduceAdd, ie_nc, Int.reduceAdd, Int.reduceLE, Int.reduceToNat, Nat.reduceLT, Nat.reduceLeDiff, Int.reduceNeg, eq_self, true_and, and_true, true_or, or_true, Nat.reduceBEq, List.elem_cons, List.elem_nil, Bool.or_false, Bool.false_or, Bool.or_true, Bool.true_or, Bool.false_eq_true, if_false, if_true, reduceIte, reduceCtorEq, ne_eq, not_false_eq_true, Classical.not_not, List.length_cons, List.length_nil, Nat.zero_le, List.map_cons, List.map_nil, List.cons_append, List.nil_append, List.replicate_succ, List.replicate_zero, Nat.reduceSub, sX7_round_65, sX7_round_66, sX7_round_69, sX7_round_72, sX7_round_74, sX7_round_75, sX7_round_76, sX7_round_77, sX7_round_80, sX7_round_83, sX7_round_84, cvX7_164, gfX7_153_37, gfX7_169_37, ie_bm2, ie_call1, ie_call2, ie_call3, ie_call4, ie_call5, ie_call6, ie_call7, ie_call8, ie_i0, ie_li1, ie_li2, ie_lr0, ie_ls2, b1]
      refine ⟨fun _ => ?_, fun h => absurd hge h⟩
      refine ⟨_, ct_bitCount _, ?_⟩
      rintro r2 u2 ⟨rfl, hu2⟩
      subst hu2
      rw [vb_cnt _ (hml nc (Nat.le_refl _)), hz]
      have key := z_down (n := st) (P := fun i => ∀ (τ : iv_S), (∀ q, q ≠ 37 → q ≠ 47 → τ q = u2 q) → (τ 37 = upd (u2 37) 15 (nI st)) → (∀ t, t < i → τ 47 t = u2 56 t) → iv_Sf X (d + 10) mX7_round tbX7 (vQrM st σ0 (some q)) 85 [some (.inl 37), some (.inr (nI (vm ff nc))), some (.inr (nI i))] [] τ) ?_ ?_
      · refine key _ ?_ ?_ ?_
        · intro q q1 q2
          rw [iv_u_ne q1]
        · rw [iv_u_eq]
        · intro t ht
          omega
      · intro τ f1 f2 f3
        have e15 : τ 37 15 = nI st := by rw [f2, upd_same]
        have e29 : τ 37 29 = q.1 := by rw [f2, upd_ne (by decide)]; exact b1
        refine iv_blk [85] 60 ?_
        simp only [iv_sn, ie_cl0, ie_cl1, ie_cl2, ie_cl3, ie_cl4, ie_cl5, ie_cl6, ie_cl7, ie_cl8, ie_v5_0, ie_v5_1, ie_v5_2, ie_v5_3, ie_v5_4, ie_v6_0, ie_v8_0, ie_v12_0, ie_v24_0, ie_v30_0, ie_v3380_0, true_implies, false_implies, not_true_eq_false, implies_true, ie_10, ie_m10, ie_mm, iv_u_eq, iv_u_ne, Nat.reduceEqDiff, ie_p1, ie_p2, ie_pr, ie_pa, ie_ps, ie_d1, ie_d2, ie_r1, ie_o, ie_gr, ie_gi, ie_pt, ie_pf, ie_ri, ie_rz, ie_br, ie_c1eq, ie_c1ne, ie_c1lt, ie_c1ge, ie_c1gt, ie_c1le, ie_c2eq, ie_c2ne, ie_c2lt, ie_c2ge, ie_c2gt, ie_c2le, ie_fn0, ie_fn1, ie_fn2, ie_fn3, Nat.reduceAdd, ie_nc, Int.reduceAdd, Int.reduceLE, Int.reduceToNat, Nat.reduceLT, Nat.reduceLeDiff, Int.reduceNeg, eq_self, true_and, and_true, true_or, or_true, Nat.reduceBEq, List.elem_cons, List.elem_nil, Bool.or_false, Bool.false_or, Bool.or_true, Bool.true_or, Bool.false_eq_true, if_false, if_true, reduceIte, reduceCtorEq, ne_eq, not_false_eq_true, Classical.not_not, List.length_cons, List.length_nil, Nat.zero_le, List.map_cons, List.map_nil, List.cons_append, List.nil_append, List.replicate_succ, List.replicate_zero, Nat.reduceSub, sX7_round_85, sX7_round_86, sX7_round_87, sX7_round_90, sX7_round_93, sX7_round_94, sX7_round_97, sX7_round_98, sX7_round_99, sX7_round_102, sX7_round_103, sX7_round_104, sX7_round_105, sX7_round_108, sX7_round_111, sX7_round_112, sX7_round_115, gfX7_153_37, gfX7_169_37, gfX7_38_37, gfX7_65_37, ie_i1, ie_li2, ie_lr0, ie_ls2, iv_ar_1, iv_ar_10, iv_ar_11, iv_ar_13, iv_ar_14, iv_ar_15, iv_ar_16, iv_ar_17, iv_ar_19, iv_ar_2, iv_ar_20, iv_ar_21, iv_ar_22, iv_ar_23, iv_ar_25, iv_ar_26, iv_ar_27, iv_ar_28, iv_ar_31, iv_ar_32, iv_ar_34, iv_ar_35, iv_ar_36, iv_ar_38, iv_ar_39, iv_ar_40, iv_ar_41, iv_ar_42, iv_ar_43, iv_ar_44, iv_ar_45, iv_ar_46, iv_ar_47, iv_ar_48, iv_ar_49, iv_ar_5, iv_ar_50, iv_ar_51, iv_ar_52, iv_ar_53, iv_ar_54, iv_ar_55, iv_ar_56, iv_ar_6, iv_ar_7, iv_ar_8, iv_ar_9, e15, e29]
        refine ⟨fun _ => ⟨rfl, fun t q1 q2 q3 q4 => ?_, fun j j1 j2 => ?_, e15, b3, ?_⟩, fun h => absurd (z_nn (by omega)) h⟩
        · rw [f1 t q1 q2, g1 t q1 q3 q4, iv_u_ne q1]
        · rw [f2, upd_ne j1, g2 j j2, iv_u_eq, upd_ne j2]
        · intro i c hic
          have hl := (List.getElem?_eq_some_iff.mp hic).1
          rw [f3 i (by omega)]
          exact b4 i c hic
      · intro i hi ih τ f1 f2 f3
        have e15 : τ 37 15 = nI st := by rw [f2, upd_same]
        have e56 := f1 56 (by decide) (by decide)
        refine iv_blk [85] 60 ?_
        simp only [iv_sn, ie_cl0, ie_cl1, ie_cl2, ie_cl3, ie_cl4, ie_cl5, ie_cl6, ie_cl7, ie_cl8, ie_v5_0, ie_v5_1, ie_v5_2, ie_v5_3, ie_v5_4, ie_v6_0, ie_v8_0, ie_v12_0, ie_v24_0, ie_v30_0, ie_v3380_0, true_implies, false_implies, not_true_eq_false, implies_true, ie_10, ie_m10, ie_mm, iv_u_eq, iv_u_ne, Nat.reduceEqDiff, ie_p1, ie_p2, ie_pr, ie_pa, ie_ps, ie_d1, ie_d2, ie_r1, ie_o, ie_gr, ie_gi, ie_pt, ie_pf, ie_ri, ie_rz, ie_br, ie_c1eq, ie_c1ne, ie_c1lt, ie_c1ge, ie_c1gt, ie_c1le, ie_c2eq, ie_c2ne, ie_c2lt, ie_c2ge, ie_c2gt, ie_c2le, ie_fn0, ie_fn1, ie_fn2, ie_fn3, Nat.reduceAdd, ie_nc, Int.reduceAdd, Int.reduceLE, Int.reduceToNat, Nat.reduceLT, Nat.reduceLeDiff, Int.reduceNeg, eq_self, true_and, and_true, true_or, or_true, Nat.reduceBEq, List.elem_cons, List.elem_nil, Bool.or_false, Bool.false_or, Bool.or_true, Bool.true_or, Bool.false_eq_true, if_false, if_true, reduceIte, reduceCtorEq, ne_eq, not_false_eq_true, Classical.not_not, List.length_cons, List.length_nil, Nat.zero_le, List.map_cons, List.map_nil, List.cons_append, List.nil_append, List.replicate_succ, List.replicate_zero, Nat.reduceSub, sX7_round_85, sX7_round_86, sX7_round_87, sX7_round_90, sX7_round_93, sX7_round_94, sX7_round_97, sX7_round_98, sX7_round_99, sX7_round_102, sX7_round_103, sX7_round_104, sX7_round_105, sX7_round_108, sX7_round_111, sX7_round_112, sX7_round_115, gfX7_153_37, gfX7_169_37, gfX7_38_37, gfX7_65_37, ie_i1, ie_li2, ie_lr0, ie_ls2, iv_ar_1, iv_ar_10, iv_ar_11, iv_ar_13, iv_ar_14, iv_ar_15, iv_ar_16, iv_ar_17, iv_ar_19, iv_ar_2, iv_ar_20, iv_ar_21, iv_ar_22, iv_ar_23, iv_ar_25, iv_ar_26, iv_ar_27, iv_ar_28, iv_ar_31, iv_ar_32, iv_ar_34, iv_ar_35, iv_ar_36, iv_ar_38, iv_ar_39, iv_ar_40, iv_ar_41, iv_ar_42, iv_ar_43, iv_ar_44, iv_ar_45, iv_ar_46, iv_ar_47, iv_ar_48, iv_ar_49, iv_ar_5, iv_ar_50, iv_ar_51, iv_ar_52, iv_ar_53, iv_ar_54, iv_ar_55, iv_ar_56, iv_ar_6, iv_ar_7, iv_ar_8, iv_ar_9, e15, e56, nI_1, z_cl (show i < 2 ^ 31 by omega), z_in (show i < 6 by omega) (by decide)]
        refine ⟨fun h => absurd h (nI_ge hi (by omega)), fun _ => ih _ ?_ ?_ ?_⟩
        · intro q q1 q2
          rw [iv_u_ne q2]
          exact f1 q q1 q2
        · rw [iv_u_ne (by decide)]; exact f2
        · intro t ht
          rw [iv_u_eq]
          by_cases hti : t = i
          · subst hti; rw [upd_same]
          · rw [upd_ne hti]; exact f3 t (by omega)
  · intro i hi ih
    refine iv_blk [9, 65] 60 ?_
    simp only [iv_sn, ie_cl0, ie_cl1, ie_cl2, ie_cl3, ie_cl4, ie_cl5, ie_cl6, ie_cl7, ie_cl8, ie_v5_0, ie_v5_1, ie_v5_2, ie_v5_3, ie_v5_4, ie_v6_0, ie_v8_0, ie_v12_0, ie_v24_0, ie_v30_0, ie_v3380_0, true_implies, false_implies, not_true_eq_false, implies_true, ie_10, ie_m10, ie_mm, iv_u_eq, iv_u_ne, Nat.reduceEqDiff, ie_p1, ie_p2, ie_pr, ie_pa, ie_ps, ie_d1, ie_d2, ie_r1, ie_o, ie_gr, ie_gi, ie_pt, ie_pf, ie_ri, ie_rz, ie_br, ie_c1eq, ie_c1ne, ie_c1lt, ie_c1ge, ie_c1gt, ie_c1le, ie_c2eq, ie_c2ne, ie_c2lt, ie_c2ge, ie_c2gt, ie_c2le, ie_fn0, ie_fn1, ie_fn2, ie_fn3, Nat.reduceAdd, ie_nc, Int.reduceAdd, Int.reduceLE, Int.reduceToNat, Nat.reduceLT, Nat.reduceLeDiff, Int.reduceNeg, eq_self, true_and, and_true, true_or, or_true, Nat.reduceBEq, List.elem_cons, List.elem_nil, Bool.or_false, Bool.false_or, Bool.or_true, Bool.true_or, Bool.false_eq_true, if_false, if_true, reduceIte, reduceCtorEq, ne_eq, not_false_eq_true, Classical.not_not, List.length_cons, List.length_nil, Nat.zero_le, List.map_cons, List.map_nil, List.cons_append, List.nil_append, List.replicate_succ, List.replicate_zero, Nat.reduceSub, sX7_round_9, sX7_round_10, sX7_round_11, sX7_round_14, sX7_round_17, sX7_round_18, sX7_round_19, sX7_round_22, sX7_round_23, sX7_round_26, sX7_round_28, sX7_round_29, sX7_round_30, sX7_round_32, sX7_round_33, sX7_round_34, sX7_round_37, sX7_round_38, sX7_round_39, sX7_round_40, sX7_round_41, sX7_round_42, sX7_round_43, sX7_round_46, cvX7_82, gfX7_72_37, gfX7_9_37, ie_b6, ie_b7, ie_call1, ie_call2, ie_call3, ie_call4, ie_call5, ie_call6, ie_call7, ie_call8, ie_i1, ie_li1, ie_li2, ie_lr0, ie_ls1, ie_ls2, ie_rc1, ie_rc2, ie_rc3, ie_rc4, ie_rc5, ie_rc6, ie_rc7, ie_rc8, iv_ar_1, iv_ar_10, iv_ar_11, iv_ar_13, iv_ar_14, iv_ar_15, iv_ar_16, iv_ar_17, iv_ar_19, iv_ar_2, iv_ar_20, iv_ar_21, iv_ar_22, iv_ar_23, iv_ar_25, iv_ar_26, iv_ar_27, iv_ar_28, iv_ar_31, iv_ar_32, iv_ar_34, iv_ar_35, iv_ar_36, iv_ar_38, iv_ar_39, iv_ar_40, iv_ar_41, iv_ar_42, iv_ar_43, iv_ar_44, iv_ar_45, iv_ar_46, iv_ar_47, iv_ar_48, iv_ar_49, iv_ar_5, iv_ar_50, iv_ar_51, iv_ar_52, iv_ar_53, iv_ar_54, iv_ar_55, iv_ar_56, iv_ar_6, iv_ar_7, iv_ar_8, iv_ar_9, iv_cls_0, iv_cls_12, iv_cls_18, iv_cls_24, iv_cls_29, iv_cls_3, iv_cls_30, iv_cls_33, iv_cls_37, iv_cls_4, hc, nI_1]
    refine ⟨fun h => absurd h (nI_ge hi (by omega)), fun _ => ?_⟩
    refine ⟨_, ct_m_inside (n := np) hs hnp _, ?_⟩
    rintro r1 σ1 ⟨rfl, hs1⟩
    subst hs1
    simp only [z7, za6, z_cl (show 7 * i + 6 < 2 ^ 31 by omega), z_in (show 7 * i + 6 < 42 by omega) (by decide), vb_or (vm ff i) (hml i (by omega)) i (by omega), true_and]
    have hq := hsp i hi
    refine ⟨fun h => ?_, fun h => ?_⟩
    rotate_left
    · have h2 : ¬ ff i = false := by
        rw [hffc]
        simp only [Bool.not_eq_false', decide_eq_true_eq]
        intro h3
        rw [h3] at hq
        exact h (zsub0.mp hq)
      have h2' : ff i = true := by simpa using h2
      simp only [vm, h2', if_true] at ih
      exact ih
    · have h2 : ff i = false := by
        rw [hffc]
        simp only [Bool.not_eq_false', decide_eq_true_eq]
        rw [← hq]
        exact zsub0.mpr h
      simp only [vm, h2, Bool.false_eq_true, if_false] at ih
      exact ih
end YF
