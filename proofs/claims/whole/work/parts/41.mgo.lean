theorem zl_lt {e : Nat → Bool} {ch ag : Nat → Int32} {n : Nat} : ∀ {k : Nat} {D : Nat → Bool} {i q : Nat}, (zl e ch ag n k D)[i]? = some q → q < n
  | 0, D, i, q, h => by simp [zl] at h
  | k + 1, D, i, q, h => by
    unfold zl at h
    split at h
    · simp at h
    · next t ht =>
      cases i with
      | zero => simp at h; subst h; exact zp_lt ht
      | succ i => rw [List.getElem?_cons_succ] at h; exact zl_lt h
theorem z_upd7 (f : Nat → Int32) (i : Nat) (v : Int32) : (fun j => upd f (7 * i + 5) v (7 * j + 5)) = upd (fun j => f (7 * j + 5)) i v := by
  funext j
  by_cases h : j = i
  · subst h; rw [upd_same, upd_same]
  · rw [upd_ne h, upd_ne (by omega)]
section ZW
variable {X : iv_X} {d : Nat} {σ σ0 : iv_S}
set_option maxRecDepth 20000 in
set_option maxHeartbeats 4000000 in
theorem ct_mg_in {n j : Nat} {Q : Int32 → iv_S → Prop} (hs : σ 37 6 = nI n) (hn : n ≤ 30) (hj : j < 6) (price : Int32) (L : List Nat) (hLl : L.length ≤ 8) (hLn : ∀ (i : Nat) (q : Nat), L[i]? = some q → q < n) (hL : ∀ (i : Nat) (q : Nat), L[i]? = some q → σ 53 i = nI q) (F : (Nat → Int32) × (Nat → Int32) × Int32) (hF : yC n (σ 41) (σ 42) (σ 43) (nI j) (σ 38 (7 * j + 4)) price L (σ 39) (σ 40) (σ 38 (7 * j + 5)) = F)
    (kk : ∀ (u : iv_S) (v4 v5 v6 : Option iv_V), (∀ k, k ≠ 38 → k ≠ 39 → k ≠ 40 → u k = σ k) → u 39 = F.1 → u 40 = F.2.1 → u 38 = upd (σ 38) (7 * j + 5) F.2.2 → iv_Sf X (d + 3) mX7_goHour tbX7 Q 145 [some (.inl 37), some (.inr price), some (.inr (nI j)), some (.inr (nI L.length)), v4, v5, v6] [] u) (v5 v6 : Option iv_V) :
    iv_Sf X (d + 3) mX7_goHour tbX7 Q 32 [some (.inl 37), some (.inr price), some (.inr (nI j)), some (.inr (nI L.length)), some (.inr 0), v5, v6] [] σ := by
  have key := z_down (n := L.length) (P := fun i => ∀ (τ : iv_S) (v5 v6 : Option iv_V), (∀ k, k ≠ 38 → k ≠ 39 → k ≠ 40 → τ k = σ k) → (∀ q, q ≠ 7 * j + 5 → τ 38 q = σ 38 q) → yC n (σ 41) (σ 42) (σ 43) (nI j) (σ 38 (7 * j + 4)) price (L.drop i) (τ 39) (τ 40) (τ 38 (7 * j + 5)) = F →
      iv_Sf X (d + 3) mX7_goHour tbX7 Q 32 [some (.inl 37), some (.inr price), some (.inr (nI j)), some (.inr (nI L.length)), some (.inr (nI i)), v5, v6] [] τ) ?_ ?_
  · exact key σ v5 v6 (fun _ _ _ _ => rfl) (fun _ _ => rfl) hF
  · intro τ v5 v6 f1 f2 f3
    rw [List.drop_length] at f3
    refine iv_blk [32, 145] 60 ?_
    simp only [iv_sn, ie_cl0, ie_cl1, ie_cl2, ie_cl3, ie_cl4, ie_cl5, ie_cl6, ie_cl7, ie_cl8, ie_v5_0, ie_v5_1, ie_v5_2, ie_v5_3, ie_v5_4, ie_v6_0, ie_v8_0, ie_v12_0, ie_v24_0, ie_v30_0, ie_v3380_0, true_implies, false_implies, not_true_eq_false, implies_true, ie_10, ie_m10, ie_mm, iv_u_eq, iv_u_ne, Nat.reduceEqDiff, ie_p1, ie_p2, ie_pr, ie_pa, ie_ps, ie_d1, ie_d2, ie_r1, ie_o, ie_gr, ie_gi, ie_pt, ie_pf, ie_ri, ie_rz, ie_br, ie_c1eq, ie_c1ne, ie_c1lt, ie_c1ge, ie_c1gt, ie_c1le, ie_c2eq, ie_c2ne, ie_c2lt, ie_c2ge, ie_c2gt, ie_c2le, ie_fn0, ie_fn1, ie_fn2, ie_fn3, Nat.reduceAdd, ie_nc, Int.reduceAdd, Int.reduceLE, Int.reduceToNat, Nat.reduceLT, Nat.reduceLeDiff, Int.reduceNeg, eq_self, true_and, and_true, true_or, or_true, Nat.reduceBEq, List.elem_cons, List.elem_nil, Bool.or_false, Bool.false_or, Bool.or_true, Bool.true_or, Bool.false_eq_true, if_false, if_true, reduceIte, reduceCtorEq, ne_eq, not_false_eq_true, Classical.not_not, List.length_cons, List.length_nil, Nat.zero_le, List.map_cons, List.map_nil, List.cons_append, List.nil_append, List.replicate_succ, List.replicate_zero, Nat.reduceSub, sX7_goHour_0, sX7_goHour_1, sX7_goHour_4, sX7_goHour_5, sX7_goHour_8, sX7_goHour_10, sX7_goHour_11, sX7_goHour_12, sX7_goHour_13, sX7_goHour_14, sX7_goHour_15, sX7_goHour_16, sX7_goHour_17, sX7_goHour_20, sX7_goHour_23, sX7_goHour_24, sX7_goHour_25, sX7_goHour_28, sX7_goHour_29, sX7_goHour_30, sX7_goHour_32, sX7_goHour_34, sX7_goHour_35, sX7_goHour_38, sX7_goHour_39, sX7_goHour_40, sX7_goHour_43, sX7_goHour_44, sX7_goHour_45, sX7_goHour_48, sX7_goHour_49, sX7_goHour_50, sX7_goHour_53, sX7_goHour_54, sX7_goHour_57, sX7_goHour_59, sX7_goHour_60, sX7_goHour_61, sX7_goHour_62, sX7_goHour_63, sX7_goHour_64, sX7_goHour_67, sX7_goHour_70, sX7_goHour_71, sX7_goHour_74, sX7_goHour_76, sX7_goHour_77, sX7_goHour_79, sX7_goHour_80, sX7_goHour_83, sX7_goHour_84, sX7_goHour_85, sX7_goHour_87, sX7_goHour_88, sX7_goHour_91, sX7_goHour_93, sX7_goHour_94, sX7_goHour_95, sX7_goHour_98, sX7_goHour_100, sX7_goHour_101, sX7_goHour_104, sX7_goHour_106, sX7_goHour_107, sX7_goHour_108, sX7_goHour_110, sX7_goHour_111, sX7_goHour_112, sX7_goHour_113, sX7_goHour_116, sX7_goHour_118, sX7_goHour_119, sX7_goHour_120, sX7_goHour_122, sX7_goHour_123, sX7_goHour_124, sX7_goHour_125, sX7_goHour_128, sX7_goHour_130, sX7_goHour_131, sX7_goHour_132, sX7_goHour_133, sX7_goHour_134, sX7_goHour_135, sX7_goHour_136, sX7_goHour_137, sX7_goHour_138, sX7_goHour_139, sX7_goHour_142, sX7_goHour_145, sX7_goHour_148, sX7_goHour_151, sX7_goHour_152, sX7_goHour_153, sX7_goHour_156, sX7_goHour_157, sX7_goHour_158, sX7_goHour_161, cvX7_122, cvX7_125, cvX7_128, gfX7_119_37, gfX7_13_37, gfX7_16_37, gfX7_26_37, gfX7_29_37, gfX7_56_37, gfX7_72_37, gfX7_9_37, ie_b100, ie_b24, ie_b7, ie_call1, ie_call2, ie_call3, ie_call4, ie_call5, ie_call6, ie_call7, ie_call8, ie_i0, ie_i1, ie_i2, ie_i3, ie_i4, ie_i5, ie_li1, ie_li2, ie_li3, ie_li4, ie_li5, ie_li6, ie_lr0, ie_ls1, ie_ls2, ie_ls3, ie_ls4, ie_ls5, ie_ls6, ie_rc1, ie_rc2, ie_rc3, ie_rc4, ie_rc5, ie_rc6, ie_rc7, ie_rc8, iv_ar_1, iv_ar_10, iv_ar_11, iv_ar_13, iv_ar_14, iv_ar_15, iv_ar_16, iv_ar_17, iv_ar_19, iv_ar_2, iv_ar_20, iv_ar_21, iv_ar_22, iv_ar_23, iv_ar_25, iv_ar_26, iv_ar_27, iv_ar_28, iv_ar_31, iv_ar_32, iv_ar_34, iv_ar_35, iv_ar_36, iv_ar_38, iv_ar_39, iv_ar_40, iv_ar_41, iv_ar_42, iv_ar_43, iv_ar_44, iv_ar_45, iv_ar_46, iv_ar_47, iv_ar_48, iv_ar_49, iv_ar_5, iv_ar_50, iv_ar_51, iv_ar_52, iv_ar_53, iv_ar_54, iv_ar_55, iv_ar_56, iv_ar_6, iv_ar_7, iv_ar_8, iv_ar_9, iv_cls_0, iv_cls_12, iv_cls_18, iv_cls_24, iv_cls_29, iv_cls_3, iv_cls_30, iv_cls_33, iv_cls_37, iv_cls_4]
    refine ⟨fun _ => kk τ _ _ _ f1 (by rw [← f3]; rfl) (by rw [← f3]; rfl) ?_, fun h => absurd (z_nn (by omega)) h⟩
    rw [← f3]
    funext q
    by_cases hq : q = 7 * j + 5
    · subst hq; rw [upd_same]; rfl
    · rw [upd_ne hq, f2 q hq]
  · intro i hi ih τ v5 v6 f1 f2 f3
    have e37 := f1 37 (by decide) (by decide) (by decide)
    have e41 := f1 41 (by decide) (by decide) (by decide)
    have e42 := f1 42 (by decide) (by decide) (by decide)
    have e43 := f1 43 (by decide) (by decide) (by decide)
    have e53 := f1 53 (by decide) (by decide) (by decide)
    have e38 : τ 38 (7 * j + 4) = σ 38 (7 * j + 4) := f2 _ (by omega)
    obtain ⟨q, hq⟩ : ∃ q, L[i]? = some q := ⟨L[i], List.getElem?_eq_getElem hi⟩
    have hqn := hLn i q hq
    have hq53 : τ 53 i = nI q := by rw [e53]; exact hL i q hq
    have hdrop : L.drop i = q :: L.drop (i + 1) := by
      rw [List.drop_eq_getElem_cons hi]
      have := List.getElem?_eq_getElem hi
      rw [hq] at this
      cases this
      rfl
    rw [hdrop] at f3
    have hstop : (decide (σ 43 2 < price) && decide (σ 38 (7 * j + 4) ≤ nI (yR n (σ 41) (σ 42) (σ 43) (nI j) (τ 39) (τ 40)))) = true → ∀ v4, iv_Sf X (d + 3) mX7_goHour tbX7 Q 145 [some (.inl 37), some (.inr price), some (.inr (nI j)), some (.inr (nI L.length)), v4, v5, v6] [] τ := by
      intro hst v4
      rw [yC_stop hst] at f3
      refine kk τ _ _ _ f1 (by rw [← f3]) (by rw [← f3]) ?_
      rw [← f3]
      funext t
      by_cases ht : t = 7 * j + 5
      · subst ht; rw [upd_same]
      · rw [upd_ne ht, f2 t ht]
    have hnext : (decide (σ 43 2 < price) && decide (σ 38 (7 * j + 4) ≤ nI (yR n (σ 41) (σ 42) (σ 43) (nI j) (τ 39) (τ 40)))) = false → iv_Sf X (d + 3) mX7_goHour tbX7 Q 70 [some (.inl 37), some (.inr price), some (.inr (nI j)), some (.inr (nI L.length)), some (.inr (nI i)), v5, v6] [] τ := by
      intro hgo
      rw [yC_go hgo] at f3
      refine iv_blk [32] 90 ?_
      simp only [iv_sn, ie_cl0, ie_cl1, ie_cl2, ie_cl3, ie_cl4, ie_cl5, ie_cl6, ie_cl7, ie_cl8, ie_v5_0, ie_v5_1, ie_v5_2, ie_v5_3, ie_v5_4, ie_v6_0, ie_v8_0, ie_v12_0, ie_v24_0, ie_v30_0, ie_v3380_0, true_implies, false_implies, not_true_eq_false, implies_true, ie_10, ie_m10, ie_mm, iv_u_eq, iv_u_ne, Nat.reduceEqDiff, ie_p1, ie_p2, ie_pr, ie_pa, ie_ps, ie_d1, ie_d2, ie_r1, ie_o, ie_gr, ie_gi, ie_pt, ie_pf, ie_ri, ie_rz, ie_br, ie_c1eq, ie_c1ne, ie_c1lt, ie_c1ge, ie_c1gt, ie_c1le, ie_c2eq, ie_c2ne, ie_c2lt, ie_c2ge, ie_c2gt, ie_c2le, ie_fn0, ie_fn1, ie_fn2, ie_fn3, Nat.reduceAdd, ie_nc, Int.reduceAdd, Int.reduceLE, Int.reduceToNat, Nat.reduceLT, Nat.reduceLeDiff, Int.reduceNeg, eq_self, true_and, and_true, true_or, or_true, Nat.reduceBEq, List.elem_cons, List.elem_nil, Bool.or_false, Bool.false_or, Bool.or_true, Bool.true_or, Bool.false_eq_true, if_false, if_true, reduceIte, reduceCtorEq, ne_eq, not_false_eq_true, Classical.not_not, List.length_cons, List.length_nil, Nat.zero_le, List.map_cons, List.map_nil, List.cons_append, List.nil_append, List.replicate_succ, List.replicate_zero, Nat.reduceSub, sX7_goHour_0, sX7_goHour_1, sX7_goHour_4, sX7_goHour_5, sX7_goHour_8, sX7_goHour_10, sX7_goHour_11, sX7_goHour_12, sX7_goHour_13, sX7_goHour_14, sX7_goHour_15, sX7_goHour_16, sX7_goHour_17, sX7_goHour_20, sX7_goHour_23, sX7_goHour_24, sX7_goHour_25, sX7_goHour_28, sX7_goHour_29, sX7_goHour_30, sX7_goHour_32, sX7_goHour_34, sX7_goHour_35, sX7_goHour_38, sX7_goHour_39, sX7_goHour_40, sX7_goHour_43, sX7_goHour_44, sX7_goHour_45, sX7_goHour_48, sX7_goHour_49, sX7_goHour_50, sX7_goHour_53, sX7_goHour_54, sX7_goHour_57, sX7_goHour_59, sX7_goHour_60, sX7_goHour_61, sX7_goHour_62, sX7_goHour_63, sX7_goHour_64, sX7_goHour_67, sX7_goHour_70, sX7_goHour_71, sX7_goHour_74, sX7_goHour_76, sX7_goHour_77, sX7_goHour_79, sX7_goHour_80, sX7_goHour_83, sX7_goHour_84, sX7_goHour_85, sX7_goHour_87, sX7_goHour_88, sX7_goHour_91, sX7_goHour_93, sX7_goHour_94, sX7_goHour_95, sX7_goHour_98, sX7_goHour_100, sX7_goHour_101, sX7_goHour_104, sX7_goHour_106, sX7_goHour_107, sX7_goHour_108, sX7_goHour_110, sX7_goHour_111, sX7_goHour_112, sX7_goHour_113, sX7_goHour_116, sX7_goHour_118, sX7_goHour_119, sX7_goHour_120, sX7_goHour_122, sX7_goHour_123, sX7_goHour_124, sX7_goHour_125, sX7_goHour_128, sX7_goHour_130, sX7_goHour_131, sX7_goHour_132, sX7_goHour_133, sX7_goHour_134, sX7_goHour_135, sX7_goHour_136, sX7_goHour_137, sX7_goHour_138, sX7_goHour_139, sX7_goHour_142, sX7_goHour_145, sX7_goHour_148, sX7_goHour_151, sX7_goHour_152, sX7_goHour_153, sX7_goHour_156, sX7_goHour_157, sX7_goHour_158, sX7_goHour_161, cvX7_122, cvX7_125, cvX7_128, gfX7_119_37, gfX7_13_37, gfX7_16_37, gfX7_26_37, gfX7_29_37, gfX7_56_37, gfX7_72_37, gfX7_9_37, ie_b100, ie_b24, ie_b7, ie_call1, ie_call2, ie_call3, ie_call4, ie_call5, ie_call6, ie_call7, ie_call8, ie_i0, ie_i1, ie_i2, ie_i3, ie_i4, ie_i5, ie_li1, ie_li2, ie_li3, ie_li4, ie_li5, ie_li6, ie_lr0, ie_ls1, ie_ls2, ie_ls3, ie_ls4, ie_ls5, ie_ls6, ie_rc1, ie_rc2, ie_rc3, ie_rc4, ie_rc5, ie_rc6, ie_rc7, ie_rc8, iv_ar_1, iv_ar_10, iv_ar_11, iv_ar_13, iv_ar_14, iv_ar_15, iv_ar_16, iv_ar_17, iv_ar_19, iv_ar_2, iv_ar_20, iv_ar_21, iv_ar_22, iv_ar_23, iv_ar_25, iv_ar_26, iv_ar_27, iv_ar_28, iv_ar_31, iv_ar_32, iv_ar_34, iv_ar_35, iv_ar_36, iv_ar_38, iv_ar_39, iv_ar_40, iv_ar_41, iv_ar_42, iv_ar_43, iv_ar_44, iv_ar_45, iv_ar_46, iv_ar_47, iv_ar_48, iv_ar_49, iv_ar_5, iv_ar_50, iv_ar_51, iv_ar_52, iv_ar_53, iv_ar_54, iv_ar_55, iv_ar_56, iv_ar_6, iv_ar_7, iv_ar_8, iv_ar_9, iv_cls_0, iv_cls_12, iv_cls_18, iv_cls_24, iv_cls_29, iv_cls_3, iv_cls_30, iv_cls_33, iv_cls_37, iv_cls_4, z_cl (show i < 2 ^ 31 by omega), z_in (show i < 8 by omega) (by decide), hq53, z_cl (show q < 2 ^ 31 by omega), z_in (show q < 30 by omega) (by decide)]
      refine ⟨_, ct_min _ _, ?_⟩
      rintro r1 σ1 ⟨rfl, h1⟩
      subst h1
      simp only [z_cl (show q < 2 ^ 31 by omega), z_in (show q < 30 by omega) (by decide), z7, za5, z_cl (show 7 * j + 5 < 2 ^ 31 by omega), z_in (show 7 * j + 5 < 42 by omega) (by decide), iv_u_ne, iv_u_eq, ne_eq, Nat.reduceEqDiff, not_false_eq_true, nI_1, true_and]
      refine ih _ _ _ ?_ ?_ ?_
      · intro k k1 k2 k3
        rw [iv_u_ne k1, iv_u_ne k3, iv_u_ne k2]
        exact f1 k k1 k2 k3
      · intro t ht
        simp only [iv_u_ne, iv_u_eq, ne_eq, Nat.reduceEqDiff, not_false_eq_true, upd_ne ht]
        exact f2 t ht
      · simp only [iv_u_ne, iv_u_eq, ne_eq, Nat.reduceEqDiff, not_false_eq_true, upd_same]
        rw [e43]
        exact f3
    refine iv_blk [32, 70, 145] 90 ?_
    simp only [iv_sn, ie_cl0, ie_cl1, ie_cl2, ie_cl3, ie_cl4, ie_cl5, ie_cl6, ie_cl7, ie_cl8, ie_v5_0, ie_v5_1, ie_v5_2, ie_v5_3, ie_v5_4, ie_v6_0, ie_v8_0, ie_v12_0, ie_v24_0, ie_v30_0, ie_v3380_0, true_implies, false_implies, not_true_eq_false, implies_true, ie_10, ie_m10, ie_mm, iv_u_eq, iv_u_ne, Nat.reduceEqDiff, ie_p1, ie_p2, ie_pr, ie_pa, ie_ps, ie_d1, ie_d2, ie_r1, ie_o, ie_gr, ie_gi, ie_pt, ie_pf, ie_ri, ie_rz, ie_br, ie_c1eq, ie_c1ne, ie_c1lt, ie_c1ge, ie_c1gt, ie_c1le, ie_c2eq, ie_c2ne, ie_c2lt, ie_c2ge, ie_c2gt, ie_c2le, ie_fn0, ie_fn1, ie_fn2, ie_fn3, Nat.reduceAdd, ie_nc, Int.reduceAdd, Int.reduceLE, Int.reduceToNat, Nat.reduceLT, Nat.reduceLeDiff, Int.reduceNeg, eq_self, true_and, and_true, true_or, or_true, Nat.reduceBEq, List.elem_cons, List.elem_nil, Bool.or_false, Bool.false_or, Bool.or_true, Bool.true_or, Bool.false_eq_true, if_false, if_true, reduceIte, reduceCtorEq, ne_eq, not_false_eq_true, Classical.not_not, List.length_cons, List.length_nil, Nat.zero_le, List.map_cons, List.map_nil, List.cons_append, List.nil_append, List.replicate_succ, List.replicate_zero, Nat.reduceSub, sX7_goHour_0, sX7_goHour_1, sX7_goHour_4, sX7_goHour_5, sX7_goHour_8, sX7_goHour_10, sX7_goHour_11, sX7_goHour_12, sX7_goHour_13, sX7_goHour_14, sX7_goHour_15, sX7_goHour_16, sX7_goHour_17, sX7_goHour_20, sX7_goHour_23, sX7_goHour_24, sX7_goHour_25, sX7_goHour_28, sX7_goHour_29, sX7_goHour_30, sX7_goHour_32, sX7_goHour_34, sX7_goHour_35, sX7_goHour_38, sX7_goHour_39, sX7_goHour_40, sX7_goHour_43, sX7_goHour_44, sX7_goHour_45, sX7_goHour_48, sX7_goHour_49, sX7_goHour_50, sX7_goHour_53, sX7_goHour_54, sX7_goHour_57, sX7_goHour_59, sX7_goHour_60, sX7_goHour_61, sX7_goHour_62, sX7_goHour_63, sX7_goHour_64, sX7_goHour_67, sX7_goHour_70, sX7_goHour_71, sX7_goHour_74, sX7_goHour_76, sX7_goHour_77, sX7_goHour_79, sX7_goHour_80, sX7_goHour_83, sX7_goHour_84, sX7_goHour_85, sX7_goHour_87, sX7_goHour_88, sX7_goHour_91, sX7_goHour_93, sX7_goHour_94, sX7_goHour_95, sX7_goHour_98, sX7_goHour_100, sX7_goHour_101, sX7_goHour_104, sX7_goHour_106, sX7_goHour_107, sX7_goHour_108, sX7_goHour_110, sX7_goHour_111, sX7_goHour_112, sX7_goHour_113, sX7_goHour_116, sX7_goHour_118, sX7_goHour_119, sX7_goHour_120, sX7_goHour_122, sX7_goHour_123, sX7_goHour_124, sX7_goHour_125, sX7_goHour_128, sX7_goHour_130, sX7_goHour_131, sX7_goHour_132, sX7_goHour_133, sX7_goHour_134, sX7_goHour_135, sX7_goHour_136, sX7_goHour_137, sX7_goHour_138, sX7_goHour_139, sX7_goHour_142, sX7_goHour_145, sX7_goHour_148, sX7_goHour_151, sX7_goHour_152, sX7_goHour_153, sX7_goHour_156, sX7_goHour_157, sX7_goHour_158, sX7_goHour_161, cvX7_122, cvX7_125, cvX7_128, gfX7_119_37, gfX7_13_37, gfX7_16_37, gfX7_26_37, gfX7_29_37, gfX7_56_37, gfX7_72_37, gfX7_9_37, ie_b100, ie_b24, ie_b7, ie_call1, ie_call2, ie_call3, ie_call4, ie_call5, ie_call6, ie_call7, ie_call8, ie_i0, ie_i1, ie_i2, ie_i3, ie_i4, ie_i5, ie_li1, ie_li2, ie_li3, ie_li4, ie_li5, ie_li6, ie_lr0, ie_ls1, ie_ls2, ie_ls3, ie_ls4, ie_ls5, ie_ls6, ie_rc1, ie_rc2, ie_rc3, ie_rc4, ie_rc5, ie_rc6, ie_rc7, ie_rc8, iv_ar_1, iv_ar_10, iv_ar_11, iv_ar_13, iv_ar_14, iv_ar_15, iv_ar_16, iv_ar_17, iv_ar_19, iv_ar_2, iv_ar_20, iv_ar_21, iv_ar_22, iv_ar_23, iv_ar_25, iv_ar_26, iv_ar_27, iv_ar_28, iv_ar_31, iv_ar_32, iv_ar_34, iv_ar_35, iv_ar_36, iv_ar_38, iv_ar_39, iv_ar_40, iv_ar_41, iv_ar_42, iv_ar_43, iv_ar_44, iv_ar_45, iv_ar_46, iv_ar_47, iv_ar_48, iv_ar_49, iv_ar_5, iv_ar_50, iv_ar_51, iv_ar_52, iv_ar_53, iv_ar_54, iv_ar_55, iv_ar_56, iv_ar_6, iv_ar_7, iv_ar_8, iv_ar_9, iv_cls_0, iv_cls_12, iv_cls_18, iv_cls_24, iv_cls_29, iv_cls_3, iv_cls_30, iv_cls_33, iv_cls_37, iv_cls_4, e43, z7, za4, z_cl (show 7 * j + 4 < 2 ^ 31 by omega), z_in (show 7 * j + 4 < 42 by omega) (by decide)]
    refine ⟨fun h => absurd h (nI_ge hi (by omega)), fun _ => ⟨fun h2 => hnext (by simp [z_nlt.mpr h2]), fun h2 => ?_⟩⟩
    refine ⟨_, ct_m_readyIn (by rw [e37]; exact hs) hn _, ?_⟩
    rintro r1 σ1 ⟨rfl, h1⟩
    subst h1
    have hy : zc (fun p => decide (σ1 41 p = nI j) && zR (σ1 39) (σ1 40) (σ1 42) (σ1 41) (σ1 43) p) n = yR n (σ 41) (σ 42) (σ 43) (nI j) (σ1 39) (σ1 40) := by rw [e41, e42, e43]; rfl
    rw [hy, e38]
    exact ⟨fun h3 => hnext (by simp [z_nle.mpr h3]), fun h3 => hstop (by simp [z_nle.mp h2, z_nlt.mp h3]) _⟩
end ZW
