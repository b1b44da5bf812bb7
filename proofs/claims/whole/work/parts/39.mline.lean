theorem ie_nz0 : vp_nar .boolean 0 = 0 := by decide +kernel
theorem ie_nz1 : vp_nar .boolean 1 = 1 := by decide +kernel
section ZV
variable {X : iv_X} {d : Nat} {σ σ0 : iv_S}
set_option maxRecDepth 20000 in
set_option maxHeartbeats 4000000 in
theorem ct_ml_find {n j : Nat} {Q : Int32 → iv_S → Prop} {E : Nat → Bool} (hs : σ 37 6 = nI n) (hn : n ≤ 30) (hE : yE (σ 41) (σ 42) (σ 43) (σ 39) (σ 40) (nI j) = E) : ∀ (τ : iv_S) (D : Nat → Bool) (m : Nat) , (∀ k, k ≠ 52 → k ≠ 53 → τ k = σ k) → (∀ p, p < n → (D p = true ↔ ¬ τ 52 p = 0)) → iv_Sf X (d + 1) mX7_line tbX7 Q 123 [some (.inl 37), some (.inr (nI j)), some (.inr (nI m)), some (.inr (zo (zp (fun p => E p && !D p) (σ 39) (σ 40) n))), some (.inr (nI n))] [] τ → iv_Sf X (d + 1) mX7_line tbX7 Q 45 [some (.inl 37), some (.inr (nI j)), some (.inr (nI m)), some (.inr (-1)), some (.inr 0)] [] τ := by
  intro τ D m f1 f2 hgo
  have e37 := f1 37 (by decide) (by decide)
  have e41 := f1 41 (by decide) (by decide)
  have e42 := f1 42 (by decide) (by decide)
  have e43 := f1 43 (by decide) (by decide)
  have e39 := f1 39 (by decide) (by decide)
  have e40 := f1 40 (by decide) (by decide)
  generalize hG : (fun p => E p && !D p) = G at hgo
  refine z_down (n := n) (P := fun i => iv_Sf X (d + 1) mX7_line tbX7 Q 45 [some (.inl 37), some (.inr (nI j)), some (.inr (nI m)), some (.inr (zo (zp G (σ 39) (σ 40) i))), some (.inr (nI i))] [] τ) ?_ ?_
  · refine iv_blk [45, 123] 60 ?_
    simp only [iv_sn, ie_cl0, ie_cl1, ie_cl2, ie_cl3, ie_cl4, ie_cl5, ie_cl6, ie_cl7, ie_cl8, ie_v5_0, ie_v5_1, ie_v5_2, ie_v5_3, ie_v5_4, ie_v6_0, ie_v8_0, ie_v12_0, ie_v24_0, ie_v30_0, ie_v3380_0, true_implies, false_implies, not_true_eq_false, implies_true, ie_10, ie_m10, ie_mm, iv_u_eq, iv_u_ne, Nat.reduceEqDiff, ie_p1, ie_p2, ie_pr, ie_pa, ie_ps, ie_d1, ie_d2, ie_r1, ie_o, ie_gr, ie_gi, ie_pt, ie_pf, ie_ri, ie_rz, ie_br, ie_c1eq, ie_c1ne, ie_c1lt, ie_c1ge, ie_c1gt, ie_c1le, ie_c2eq, ie_c2ne, ie_c2lt, ie_c2ge, ie_c2gt, ie_c2le, ie_fn0, ie_fn1, ie_fn2, ie_fn3, Nat.reduceAdd, ie_nc, Int.reduceAdd, Int.reduceLE, Int.reduceToNat, Nat.reduceLT, Nat.reduceLeDiff, Int.reduceNeg, eq_self, true_and, and_true, true_or, or_true, Nat.reduceBEq, List.elem_cons, List.elem_nil, Bool.or_false, Bool.false_or, Bool.or_true, Bool.true_or, Bool.false_eq_true, if_false, if_true, reduceIte, reduceCtorEq, ne_eq, not_false_eq_true, Classical.not_not, List.length_cons, List.length_nil, Nat.zero_le, List.map_cons, List.map_nil, List.cons_append, List.nil_append, List.replicate_succ, List.replicate_zero, Nat.reduceSub, sX7_line_45, sX7_line_47, sX7_line_48, sX7_line_51, sX7_line_54, sX7_line_55, sX7_line_58, sX7_line_60, sX7_line_61, sX7_line_62, sX7_line_65, sX7_line_66, sX7_line_69, sX7_line_71, sX7_line_72, sX7_line_75, sX7_line_76, sX7_line_78, sX7_line_81, sX7_line_84, sX7_line_85, sX7_line_88, sX7_line_90, sX7_line_91, sX7_line_93, sX7_line_96, sX7_line_99, sX7_line_100, sX7_line_101, sX7_line_104, sX7_line_105, sX7_line_107, sX7_line_108, sX7_line_111, sX7_line_114, sX7_line_116, sX7_line_117, sX7_line_120, cvX7_86, cvX7_93, gfX7_13_37, gfX7_19_37, gfX7_53_37, gfX7_79_37, ie_b100, ie_call1, ie_call2, ie_call3, ie_call4, ie_call5, ie_call6, ie_call7, ie_call8, ie_i1, ie_im1, ie_li1, ie_li3, ie_li4, ie_lr0, ie_ls3, ie_ls4, ie_rc1, ie_rc2, ie_rc3, ie_rc4, ie_rc5, ie_rc6, ie_rc7, ie_rc8, iv_ar_1, iv_ar_10, iv_ar_11, iv_ar_13, iv_ar_14, iv_ar_15, iv_ar_16, iv_ar_17, iv_ar_19, iv_ar_2, iv_ar_20, iv_ar_21, iv_ar_22, iv_ar_23, iv_ar_25, iv_ar_26, iv_ar_27, iv_ar_28, iv_ar_31, iv_ar_32, iv_ar_34, iv_ar_35, iv_ar_36, iv_ar_38, iv_ar_39, iv_ar_40, iv_ar_41, iv_ar_42, iv_ar_43, iv_ar_44, iv_ar_45, iv_ar_46, iv_ar_47, iv_ar_48, iv_ar_49, iv_ar_5, iv_ar_50, iv_ar_51, iv_ar_52, iv_ar_53, iv_ar_54, iv_ar_55, iv_ar_56, iv_ar_6, iv_ar_7, iv_ar_8, iv_ar_9, iv_cls_0, iv_cls_12, iv_cls_18, iv_cls_24, iv_cls_29, iv_cls_3, iv_cls_30, iv_cls_33, iv_cls_37, iv_cls_4, e37, hs]
    exact ⟨fun _ => hgo, fun h => absurd (z_nn (by omega)) h⟩
  · intro i hi ih
    refine iv_blk [45, 123] 60 ?_
    simp only [iv_sn, ie_cl0, ie_cl1, ie_cl2, ie_cl3, ie_cl4, ie_cl5, ie_cl6, ie_cl7, ie_cl8, ie_v5_0, ie_v5_1, ie_v5_2, ie_v5_3, ie_v5_4, ie_v6_0, ie_v8_0, ie_v12_0, ie_v24_0, ie_v30_0, ie_v3380_0, true_implies, false_implies, not_true_eq_false, implies_true, ie_10, ie_m10, ie_mm, iv_u_eq, iv_u_ne, Nat.reduceEqDiff, ie_p1, ie_p2, ie_pr, ie_pa, ie_ps, ie_d1, ie_d2, ie_r1, ie_o, ie_gr, ie_gi, ie_pt, ie_pf, ie_ri, ie_rz, ie_br, ie_c1eq, ie_c1ne, ie_c1lt, ie_c1ge, ie_c1gt, ie_c1le, ie_c2eq, ie_c2ne, ie_c2lt, ie_c2ge, ie_c2gt, ie_c2le, ie_fn0, ie_fn1, ie_fn2, ie_fn3, Nat.reduceAdd, ie_nc, Int.reduceAdd, Int.reduceLE, Int.reduceToNat, Nat.reduceLT, Nat.reduceLeDiff, Int.reduceNeg, eq_self, true_and, and_true, true_or, or_true, Nat.reduceBEq, List.elem_cons, List.elem_nil, Bool.or_false, Bool.false_or, Bool.or_true, Bool.true_or, Bool.false_eq_true, if_false, if_true, reduceIte, reduceCtorEq, ne_eq, not_false_eq_true, Classical.not_not, List.length_cons, List.length_nil, Nat.zero_le, List.map_cons, List.map_nil, List.cons_append, List.nil_append, List.replicate_succ, List.replicate_zero, Nat.reduceSub, sX7_line_45, sX7_line_47, sX7_line_48, sX7_line_51, sX7_line_54, sX7_line_55, sX7_line_58, sX7_line_60, sX7_line_61, sX7_line_62, sX7_line_65, sX7_line_66, sX7_line_69, sX7_line_71, sX7_line_72, sX7_line_75, sX7_line_76, sX7_line_78, sX7_line_81, sX7_line_84, sX7_line_85, sX7_line_88, sX7_line_90, sX7_line_91, sX7_line_93, sX7_line_96, sX7_line_99, sX7_line_100, sX7_line_101, sX7_line_104, sX7_line_105, sX7_line_107, sX7_line_108, sX7_line_111, sX7_line_114, sX7_line_116, sX7_line_117, sX7_line_120, cvX7_86, cvX7_93, gfX7_13_37, gfX7_19_37, gfX7_53_37, gfX7_79_37, ie_b100, ie_call1, ie_call2, ie_call3, ie_call4, ie_call5, ie_call6, ie_call7, ie_call8, ie_i1, ie_im1, ie_li1, ie_li3, ie_li4, ie_lr0, ie_ls3, ie_ls4, ie_rc1, ie_rc2, ie_rc3, ie_rc4, ie_rc5, ie_rc6, ie_rc7, ie_rc8, iv_ar_1, iv_ar_10, iv_ar_11, iv_ar_13, iv_ar_14, iv_ar_15, iv_ar_16, iv_ar_17, iv_ar_19, iv_ar_2, iv_ar_20, iv_ar_21, iv_ar_22, iv_ar_23, iv_ar_25, iv_ar_26, iv_ar_27, iv_ar_28, iv_ar_31, iv_ar_32, iv_ar_34, iv_ar_35, iv_ar_36, iv_ar_38, iv_ar_39, iv_ar_40, iv_ar_41, iv_ar_42, iv_ar_43, iv_ar_44, iv_ar_45, iv_ar_46, iv_ar_47, iv_ar_48, iv_ar_49, iv_ar_5, iv_ar_50, iv_ar_51, iv_ar_52, iv_ar_53, iv_ar_54, iv_ar_55, iv_ar_56, iv_ar_6, iv_ar_7, iv_ar_8, iv_ar_9, iv_cls_0, iv_cls_12, iv_cls_18, iv_cls_24, iv_cls_29, iv_cls_3, iv_cls_30, iv_cls_33, iv_cls_37, iv_cls_4, e37, hs, e41, e39, nI_1, z_cl (show i < 2 ^ 31 by omega), z_in (show i < 30 by omega) (by decide)]
    have hGi : G i = (E i && !D i) := by rw [← hG]
    have hEi : E i = (decide (σ 41 i = nI j) && (zF (σ 40) (σ 42) (σ 43) i && decide (σ 39 i < 100))) := by rw [← hE]; rfl
    refine ⟨fun h => absurd h (nI_ge hi (by omega)), fun _ => ⟨fun h2 => ?_, fun h2 => ⟨fun h3 => ?_, fun h3 => ?_⟩⟩⟩
    · rw [zp_f (by rw [hGi, hEi]; simp [h2])] at ih
      exact ih
    · rw [zp_f (by rw [hGi, (f2 i hi).mpr h3]; simp)] at ih
      exact ih
    · have hD : D i = false := by
        cases hD : D i with
        | false => rfl
        | true => exact absurd h3 ((f2 i hi).mp hD)
      refine ⟨_, ct_m_isFit (show i < 30 by omega), ?_⟩
      rintro r1 σ1 ⟨rfl, h5⟩
      subst h5
      simp only [zb0, zbn, e40, e42, e43, e39]
      refine ⟨fun h4 => ?_, fun h4 => ⟨fun h5 => ?_, fun h5 => ?_⟩⟩
      · rw [zp_f (by rw [hGi, hEi]; simp [h4])] at ih
        exact ih
      · rw [zp_t (by rw [hGi, hEi]; simp [h2, h4, h5, hD])] at ih
        cases hz : zp G (σ 39) (σ 40) i with
        | none =>
          rw [hz] at ih
          exact ⟨fun _ => ih, fun h => absurd rfl h⟩
        | some q =>
          have hq := zp_lt hz
          rw [hz] at ih
          simp only [zo, z_ne (show q < 2 ^ 31 by omega), false_implies, true_and]
          intro _
          refine ⟨_, ct_m_isAhead (show i < 30 by omega) hq, ?_⟩
          rintro r1 σ3 ⟨rfl, h6⟩
          subst h6
          simp only [zb0, zbn, e39, e40]
          simp only [za] at ih
          refine ⟨fun h7 => ?_, fun h7 => ?_⟩
          · rw [h7] at ih
            exact ih
          · rw [h7] at ih
            exact ih
      · rw [zp_f (by rw [hGi, hEi]; simp [h5])] at ih
        exact ih
set_option maxRecDepth 20000 in
set_option maxHeartbeats 4000000 in
theorem ct_ml_rows {n j l : Nat} {Q : Int32 → iv_S → Prop} {E : Nat → Bool} (hs : σ 37 6 = nI n) (hn : n ≤ 30) (hE : yE (σ 41) (σ 42) (σ 43) (σ 39) (σ 40) (nI j) = E) (hj : j < 6) (hl : σ 38 (7 * j + 3) = nI l) (hlb : l ≤ 8) {L : List Nat} (hL : zl E (σ 39) (σ 40) n l (fun _ => false) = L) (hin : ∀ (r : Int32) (u : iv_S), (r = nI L.length ∧ (∀ k, k ≠ 52 → k ≠ 53 → u k = σ k) ∧ ∀ i q, L[i]? = some q → u 53 i = nI q) → Q r u) : ∀ (τ : iv_S) (v3 v4 : Option iv_V), (∀ k, k ≠ 52 → k ≠ 53 → τ k = σ k) → (∀ p, p < n → τ 52 p = 0) → iv_Sf X (d + 1) mX7_line tbX7 Q 25 [some (.inl 37), some (.inr (nI j)), some (.inr 0), v3, v4] [] τ := by
  have find := ct_ml_find (X := X) (d := d) (j := j) (Q := Q) hs hn hE
  intro τ0 v30 v40 g1 g2
  have key := z_down (n := l) (P := fun m => ∀ (τ : iv_S) (v3 v4 : Option iv_V) (D : Nat → Bool) (M : List Nat), (∀ k, k ≠ 52 → k ≠ 53 → τ k = σ k) → (∀ p, p < n → (D p = true ↔ ¬ τ 52 p = 0)) → L = M ++ zl E (σ 39) (σ 40) n (l - m) D → M.length = m → (∀ i q, M[i]? = some q → τ 53 i = nI q) →
      iv_Sf X (d + 1) mX7_line tbX7 Q 25 [some (.inl 37), some (.inr (nI j)), some (.inr (nI m)), v3, v4] [] τ) ?_ ?_
  · exact key τ0 v30 v40 (fun _ => false) [] g1 (fun p hp => ⟨fun h => (by cases h), fun h => absurd (g2 p hp) h⟩) (by simp [hL]) rfl (fun i q h => by simp at h)
  · intro τ v3 v4 D M f1 f2 f3 f4 f5
    have e38 := f1 38 (by decide) (by decide)
    rw [Nat.sub_self] at f3
    refine iv_blk [25, 45] 60 ?_
    simp only [iv_sn, ie_cl0, ie_cl1, ie_cl2, ie_cl3, ie_cl4, ie_cl5, ie_cl6, ie_cl7, ie_cl8, ie_v5_0, ie_v5_1, ie_v5_2, ie_v5_3, ie_v5_4, ie_v6_0, ie_v8_0, ie_v12_0, ie_v24_0, ie_v30_0, ie_v3380_0, true_implies, false_implies, not_true_eq_false, implies_true, ie_10, ie_m10, ie_mm, iv_u_eq, iv_u_ne, Nat.reduceEqDiff, ie_p1, ie_p2, ie_pr, ie_pa, ie_ps, ie_d1, ie_d2, ie_r1, ie_o, ie_gr, ie_gi, ie_pt, ie_pf, ie_ri, ie_rz, ie_br, ie_c1eq, ie_c1ne, ie_c1lt, ie_c1ge, ie_c1gt, ie_c1le, ie_c2eq, ie_c2ne, ie_c2lt, ie_c2ge, ie_c2gt, ie_c2le, ie_fn0, ie_fn1, ie_fn2, ie_fn3, Nat.reduceAdd, ie_nc, Int.reduceAdd, Int.reduceLE, Int.reduceToNat, Nat.reduceLT, Nat.reduceLeDiff, Int.reduceNeg, eq_self, true_and, and_true, true_or, or_true, Nat.reduceBEq, List.elem_cons, List.elem_nil, Bool.or_false, Bool.false_or, Bool.or_true, Bool.true_or, Bool.false_eq_true, if_false, if_true, reduceIte, reduceCtorEq, ne_eq, not_false_eq_true, Classical.not_not, List.length_cons, List.length_nil, Nat.zero_le, List.map_cons, List.map_nil, List.cons_append, List.nil_append, List.replicate_succ, List.replicate_zero, Nat.reduceSub, sX7_line_25, sX7_line_26, sX7_line_27, sX7_line_30, sX7_line_32, sX7_line_33, sX7_line_34, sX7_line_35, sX7_line_36, sX7_line_37, sX7_line_40, sX7_line_41, sX7_line_42, sX7_line_43, sX7_line_45, gfX7_9_37, ie_b7, ie_i0, ie_i3, ie_im1, ie_li1, ie_li2, ie_li3, ie_li4, ie_lr0, ie_ls3, ie_ls4, iv_ar_1, iv_ar_10, iv_ar_11, iv_ar_13, iv_ar_14, iv_ar_15, iv_ar_16, iv_ar_17, iv_ar_19, iv_ar_2, iv_ar_20, iv_ar_21, iv_ar_22, iv_ar_23, iv_ar_25, iv_ar_26, iv_ar_27, iv_ar_28, iv_ar_31, iv_ar_32, iv_ar_34, iv_ar_35, iv_ar_36, iv_ar_38, iv_ar_39, iv_ar_40, iv_ar_41, iv_ar_42, iv_ar_43, iv_ar_44, iv_ar_45, iv_ar_46, iv_ar_47, iv_ar_48, iv_ar_49, iv_ar_5, iv_ar_50, iv_ar_51, iv_ar_52, iv_ar_53, iv_ar_54, iv_ar_55, iv_ar_56, iv_ar_6, iv_ar_7, iv_ar_8, iv_ar_9, iv_sn, ie_cl0, ie_cl1, ie_cl2, ie_cl3, ie_cl4, ie_cl5, ie_cl6, ie_cl7, ie_cl8, ie_v5_0, ie_v5_1, ie_v5_2, ie_v5_3, ie_v5_4, ie_v6_0, ie_v8_0, ie_v12_0, ie_v24_0, ie_v30_0, ie_v3380_0, true_implies, false_implies, not_true_eq_false, implies_true, ie_10, ie_m10, ie_mm, iv_u_eq, iv_u_ne, Nat.reduceEqDiff, ie_p1, ie_p2, ie_pr, ie_pa, ie_ps, ie_d1, ie_d2, ie_r1, ie_o, ie_gr, ie_gi, ie_pt, ie_pf, ie_ri, ie_rz, ie_br, ie_c1eq, ie_c1ne, ie_c1lt, ie_c1ge, ie_c1gt, ie_c1le, ie_c2eq, ie_c2ne, ie_c2lt, ie_c2ge, ie_c2gt, ie_c2le, ie_fn0, ie_fn1, ie_fn2, ie_fn3, Nat.reduceAdd, ie_nc, Int.reduceAdd, Int.reduceLE, Int.reduceToNat, Nat.reduceLT, Nat.reduceLeDiff, Int.reduceNeg, eq_self, true_and, and_true, true_or, or_true, Nat.reduceBEq, List.elem_cons, List.elem_nil, Bool.or_false, Bool.false_or, Bool.or_true, Bool.true_or, Bool.false_eq_true, if_false, if_true, reduceIte, reduceCtorEq, ne_eq, not_false_eq_true, Classical.not_not, List.length_cons, List.length_nil, Nat.zero_le, List.map_cons, List.map_nil, List.cons_append, List.nil_append, List.replicate_succ, List.replicate_zero, Nat.reduceSub, sX7_line_150, sX7_line_151, ie_li2, e38, z7, za3, hl, z_cl (show 7 * j + 3 < 2 ^ 31 by omega), z_in (show 7 * j + 3 < 42 by omega) (by decide)]
    refine ⟨fun _ => hin _ _ ⟨?_, f1, ?_⟩, fun h => absurd (z_nn (by omega)) h⟩
    · rw [f3]; simp [zl, f4]
    · rw [f3]; simpa [zl] using f5
  · intro m hm ih τ v3 v4 D M f1 f2 f3 f4 f5
    have e38 := f1 38 (by decide) (by decide)
    refine iv_blk [25, 45] 60 ?_
    simp only [iv_sn, ie_cl0, ie_cl1, ie_cl2, ie_cl3, ie_cl4, ie_cl5, ie_cl6, ie_cl7, ie_cl8, ie_v5_0, ie_v5_1, ie_v5_2, ie_v5_3, ie_v5_4, ie_v6_0, ie_v8_0, ie_v12_0, ie_v24_0, ie_v30_0, ie_v3380_0, true_implies, false_implies, not_true_eq_false, implies_true, ie_10, ie_m10, ie_mm, iv_u_eq, iv_u_ne, Nat.reduceEqDiff, ie_p1, ie_p2, ie_pr, ie_pa, ie_ps, ie_d1, ie_d2, ie_r1, ie_o, ie_gr, ie_gi, ie_pt, ie_pf, ie_ri, ie_rz, ie_br, ie_c1eq, ie_c1ne, ie_c1lt, ie_c1ge, ie_c1gt, ie_c1le, ie_c2eq, ie_c2ne, ie_c2lt, ie_c2ge, ie_c2gt, ie_c2le, ie_fn0, ie_fn1, ie_fn2, ie_fn3, Nat.reduceAdd, ie_nc, Int.reduceAdd, Int.reduceLE, Int.reduceToNat, Nat.reduceLT, Nat.reduceLeDiff, Int.reduceNeg, eq_self, true_and, and_true, true_or, or_true, Nat.reduceBEq, List.elem_cons, List.elem_nil, Bool.or_false, Bool.false_or, Bool.or_true, Bool.true_or, Bool.false_eq_true, if_false, if_true, reduceIte, reduceCtorEq, ne_eq, not_false_eq_true, Classical.not_not, List.length_cons, List.length_nil, Nat.zero_le, List.map_cons, List.map_nil, List.cons_append, List.nil_append, List.replicate_succ, List.replicate_zero, Nat.reduceSub, sX7_line_25, sX7_line_26, sX7_line_27, sX7_line_30, sX7_line_32, sX7_line_33, sX7_line_34, sX7_line_35, sX7_line_36, sX7_line_37, sX7_line_40, sX7_line_41, sX7_line_42, sX7_line_43, sX7_line_45, gfX7_9_37, ie_b7, ie_i0, ie_i3, ie_im1, ie_li1, ie_li2, ie_li3, ie_li4, ie_lr0, ie_ls3, ie_ls4, iv_ar_1, iv_ar_10, iv_ar_11, iv_ar_13, iv_ar_14, iv_ar_15, iv_ar_16, iv_ar_17, iv_ar_19, iv_ar_2, iv_ar_20, iv_ar_21, iv_ar_22, iv_ar_23, iv_ar_25, iv_ar_26, iv_ar_27, iv_ar_28, iv_ar_31, iv_ar_32, iv_ar_34, iv_ar_35, iv_ar_36, iv_ar_38, iv_ar_39, iv_ar_40, iv_ar_41, iv_ar_42, iv_ar_43, iv_ar_44, iv_ar_45, iv_ar_46, iv_ar_47, iv_ar_48, iv_ar_49, iv_ar_5, iv_ar_50, iv_ar_51, iv_ar_52, iv_ar_53, iv_ar_54, iv_ar_55, iv_ar_56, iv_ar_6, iv_ar_7, iv_ar_8, iv_ar_9, iv_sn, ie_cl0, ie_cl1, ie_cl2, ie_cl3, ie_cl4, ie_cl5, ie_cl6, ie_cl7, ie_cl8, ie_v5_0, ie_v5_1, ie_v5_2, ie_v5_3, ie_v5_4, ie_v6_0, ie_v8_0, ie_v12_0, ie_v24_0, ie_v30_0, ie_v3380_0, true_implies, false_implies, not_true_eq_false, implies_true, ie_10, ie_m10, ie_mm, iv_u_eq, iv_u_ne, Nat.reduceEqDiff, ie_p1, ie_p2, ie_pr, ie_pa, ie_ps, ie_d1, ie_d2, ie_r1, ie_o, ie_gr, ie_gi, ie_pt, ie_pf, ie_ri, ie_rz, ie_br, ie_c1eq, ie_c1ne, ie_c1lt, ie_c1ge, ie_c1gt, ie_c1le, ie_c2eq, ie_c2ne, ie_c2lt, ie_c2ge, ie_c2gt, ie_c2le, ie_fn0, ie_fn1, ie_fn2, ie_fn3, Nat.reduceAdd, ie_nc, Int.reduceAdd, Int.reduceLE, Int.reduceToNat, Nat.reduceLT, Nat.reduceLeDiff, Int.reduceNeg, eq_self, true_and, and_true, true_or, or_true, Nat.reduceBEq, List.elem_cons, List.elem_nil, Bool.or_false, Bool.false_or, Bool.or_true, Bool.true_or, Bool.false_eq_true, if_false, if_true, reduceIte, reduceCtorEq, ne_eq, not_false_eq_true, Classical.not_not, List.length_cons, List.length_nil, Nat.zero_le, List.map_cons, List.map_nil, List.cons_append, List.nil_append, List.replicate_succ, List.replicate_zero, Nat.reduceSub, sX7_line_150, sX7_line_151, ie_li2, e38, z7, za3, hl, z_cl (show 7 * j + 3 < 2 ^ 31 by omega), z_in (show 7 * j + 3 < 42 by omega) (by decide)]
    refine ⟨fun h => absurd h (nI_ge hm (by omega)), fun _ => find τ D m f1 f2 ?_⟩
    rw [show l - m = (l - (m + 1)) + 1 by omega] at f3
    cases hp : zp (fun p => E p && !D p) (σ 39) (σ 40) n with
    | none =>
      rw [zl_none hp] at f3
      refine iv_blk [25] 60 ?_
      simp only [iv_sn, ie_cl0, ie_cl1, ie_cl2, ie_cl3, ie_cl4, ie_cl5, ie_cl6, ie_cl7, ie_cl8, ie_v5_0, ie_v5_1, ie_v5_2, ie_v5_3, ie_v5_4, ie_v6_0, ie_v8_0, ie_v12_0, ie_v24_0, ie_v30_0, ie_v3380_0, true_implies, false_implies, not_true_eq_false, implies_true, ie_10, ie_m10, ie_mm, iv_u_eq, iv_u_ne, Nat.reduceEqDiff, ie_p1, ie_p2, ie_pr, ie_pa, ie_ps, ie_d1, ie_d2, ie_r1, ie_o, ie_gr, ie_gi, ie_pt, ie_pf, ie_ri, ie_rz, ie_br, ie_c1eq, ie_c1ne, ie_c1lt, ie_c1ge, ie_c1gt, ie_c1le, ie_c2eq, ie_c2ne, ie_c2lt, ie_c2ge, ie_c2gt, ie_c2le, ie_fn0, ie_fn1, ie_fn2, ie_fn3, Nat.reduceAdd, ie_nc, Int.reduceAdd, Int.reduceLE, Int.reduceToNat, Nat.reduceLT, Nat.reduceLeDiff, Int.reduceNeg, eq_self, true_and, and_true, true_or, or_true, Nat.reduceBEq, List.elem_cons, List.elem_nil, Bool.or_false, Bool.false_or, Bool.or_true, Bool.true_or, Bool.false_eq_true, if_false, if_true, reduceIte, reduceCtorEq, ne_eq, not_false_eq_true, Classical.not_not, List.length_cons, List.length_nil, Nat.zero_le, List.map_cons, List.map_nil, List.cons_append, List.nil_append, List.replicate_succ, List.replicate_zero, Nat.reduceSub, sX7_line_123, sX7_line_124, sX7_line_125, sX7_line_128, sX7_line_129, sX7_line_130, sX7_line_131, sX7_line_134, sX7_line_135, sX7_line_136, sX7_line_137, sX7_line_138, sX7_line_141, sX7_line_142, sX7_line_143, sX7_line_144, sX7_line_147, gfX7_53_37, gfX7_56_37, ie_i1, ie_im1, ie_li2, ie_li3, ie_lr0, ie_ls2, iv_ar_1, iv_ar_10, iv_ar_11, iv_ar_13, iv_ar_14, iv_ar_15, iv_ar_16, iv_ar_17, iv_ar_19, iv_ar_2, iv_ar_20, iv_ar_21, iv_ar_22, iv_ar_23, iv_ar_25, iv_ar_26, iv_ar_27, iv_ar_28, iv_ar_31, iv_ar_32, iv_ar_34, iv_ar_35, iv_ar_36, iv_ar_38, iv_ar_39, iv_ar_40, iv_ar_41, iv_ar_42, iv_ar_43, iv_ar_44, iv_ar_45, iv_ar_46, iv_ar_47, iv_ar_48, iv_ar_49, iv_ar_5, iv_ar_50, iv_ar_51, iv_ar_52, iv_ar_53, iv_ar_54, iv_ar_55, iv_ar_56, iv_ar_6, iv_ar_7, iv_ar_8, iv_ar_9, zo]
      refine hin _ _ ⟨?_, f1, ?_⟩
      · rw [f3]; simp [f4]
      · rw [f3]; simpa using f5
    | some q =>
      have hq := zp_lt hp
      rw [zl_some hp] at f3
      refine iv_blk [25] 60 ?_
      simp only [iv_sn, ie_cl0, ie_cl1, ie_cl2, ie_cl3, ie_cl4, ie_cl5, ie_cl6, ie_cl7, ie_cl8, ie_v5_0, ie_v5_1, ie_v5_2, ie_v5_3, ie_v5_4, ie_v6_0, ie_v8_0, ie_v12_0, ie_v24_0, ie_v30_0, ie_v3380_0, true_implies, false_implies, not_true_eq_false, implies_true, ie_10, ie_m10, ie_mm, iv_u_eq, iv_u_ne, Nat.reduceEqDiff, ie_p1, ie_p2, ie_pr, ie_pa, ie_ps, ie_d1, ie_d2, ie_r1, ie_o, ie_gr, ie_gi, ie_pt, ie_pf, ie_ri, ie_rz, ie_br, ie_c1eq, ie_c1ne, ie_c1lt, ie_c1ge, ie_c1gt, ie_c1le, ie_c2eq, ie_c2ne, ie_c2lt, ie_c2ge, ie_c2gt, ie_c2le, ie_fn0, ie_fn1, ie_fn2, ie_fn3, Nat.reduceAdd, ie_nc, Int.reduceAdd, Int.reduceLE, Int.reduceToNat, Nat.reduceLT, Nat.reduceLeDiff, Int.reduceNeg, eq_self, true_and, and_true, true_or, or_true, Nat.reduceBEq, List.elem_cons, List.elem_nil, Bool.or_false, Bool.false_or, Bool.or_true, Bool.true_or, Bool.false_eq_true, if_false, if_true, reduceIte, reduceCtorEq, ne_eq, not_false_eq_true, Classical.not_not, List.length_cons, List.length_nil, Nat.zero_le, List.map_cons, List.map_nil, List.cons_append, List.nil_append, List.replicate_succ, List.replicate_zero, Nat.reduceSub, sX7_line_123, sX7_line_124, sX7_line_125, sX7_line_128, sX7_line_129, sX7_line_130, sX7_line_131, sX7_line_134, sX7_line_135, sX7_line_136, sX7_line_137, sX7_line_138, sX7_line_141, sX7_line_142, sX7_line_143, sX7_line_144, sX7_line_147, gfX7_53_37, gfX7_56_37, ie_i1, ie_im1, ie_li2, ie_li3, ie_lr0, ie_ls2, iv_ar_1, iv_ar_10, iv_ar_11, iv_ar_13, iv_ar_14, iv_ar_15, iv_ar_16, iv_ar_17, iv_ar_19, iv_ar_2, iv_ar_20, iv_ar_21, iv_ar_22, iv_ar_23, iv_ar_25, iv_ar_26, iv_ar_27, iv_ar_28, iv_ar_31, iv_ar_32, iv_ar_34, iv_ar_35, iv_ar_36, iv_ar_38, iv_ar_39, iv_ar_40, iv_ar_41, iv_ar_42, iv_ar_43, iv_ar_44, iv_ar_45, iv_ar_46, iv_ar_47, iv_ar_48, iv_ar_49, iv_ar_5, iv_ar_50, iv_ar_51, iv_ar_52, iv_ar_53, iv_ar_54, iv_ar_55, iv_ar_56, iv_ar_6, iv_ar_7, iv_ar_8, iv_ar_9, zo, nI_1, z_ne (show q < 2 ^ 31 by omega), z_cl (show q < 2 ^ 31 by omega), z_in (show q < 30 by omega) (by decide), z_cl (show m < 2 ^ 31 by omega), z_in (show m < 8 by omega) (by decide), ie_nz1]
      refine ih _ _ _ (fun p => D p || decide (p = q)) (M ++ [q]) ?_ ?_ ?_ ?_ ?_
      · intro k k1 k2
        rw [iv_u_ne k2, iv_u_ne k1]
        exact f1 k k1 k2
      · intro p hp2
        simp only [iv_u_ne, iv_u_eq, ne_eq, Nat.reduceEqDiff, not_false_eq_true]
        by_cases hpq : p = q
        · subst hpq
          simp [upd_same]
        · simp [upd_ne hpq, hpq, f2 p hp2]
      · rw [f3]; simp
      · simp [f4]
      · intro i t ht
        simp only [iv_u_ne, iv_u_eq, ne_eq, Nat.reduceEqDiff, not_false_eq_true]
        by_cases hi : i = m
        · subst hi
          rw [List.getElem?_append_right (by omega), f4] at ht
          simp at ht
          rw [upd_same, ht]
        · rw [upd_ne hi]
          rcases Nat.lt_or_ge i m with h | h
          · rw [List.getElem?_append_left (by omega)] at ht
            exact f5 i t ht
          · rw [List.getElem?_eq_none (by simp; omega)] at ht
            cases ht
end ZV
