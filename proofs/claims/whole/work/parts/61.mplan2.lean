section YL
variable {X : iv_X} {d : Nat} {σ : iv_S} {n L h : Nat} {nd pr : Nat → Nat}
-- all rows
set_option maxRecDepth 20000 in
set_option maxHeartbeats 4000000 in
theorem ct_mp3 {Q : Int32 → iv_S → Prop} (hn : n ≤ 12) (hL : L ≤ 20) (hh : σ 37 9 = nI h) (hhb : h ≤ 10000) (hnd : ∀ i, i < n → σ 45 i = nI (nd i) ∧ nd i ≤ 20) (hpr : ∀ i, i < n → σ 44 ((h + i) % 24) = nI (pr i) ∧ pr i ≤ 1000) (hT : dT n L nd pr σ n)
    (kk : ∀ (u : iv_S) (v2 v3 v4 v5 v6 v7 : Option iv_V), (∀ q, q ≠ 54 → u q = σ q) → (∀ i, i ≤ n → dT n L nd pr u i) → iv_Sf X (d + 1) mX7_plan tbX7 Q 219 [some (.inl 37), some (.inr (nI L)), v2, v3, v4, v5, v6, v7] [] u) (v4 v5 v6 v7 : Option iv_V) :
    iv_Sf X (d + 1) mX7_plan tbX7 Q 92 [some (.inl 37), some (.inr (nI L)), some (.inr (nI (su nd n))), some (.inr (nI n + (-1))), v4, v5, v6, v7] [] σ := by
  have hsb : su nd n ≤ 20 * n := su_bound (fun i hi => (hnd i hi).2)
  have key : ∀ j, j ≤ n → ∀ (τ : iv_S) (v4 v5 v6 v7 : Option iv_V), (∀ q, q ≠ 54 → τ q = σ q) → (∀ i, j ≤ i → i ≤ n → dT n L nd pr τ i) → iv_Sf X (d + 1) mX7_plan tbX7 Q 92 [some (.inl 37), some (.inr (nI L)), some (.inr (nI (su nd j))), some (.inr (nI j + (-1))), v4, v5, v6, v7] [] τ := by
    intro j
    induction j with
    | zero =>
      intro _ τ v4 v5 v6 v7 f1 f2
      refine iv_blk [92, 219] 60 ?_
      simp only [iv_sn, ie_cl0, ie_cl1, ie_cl2, ie_cl3, ie_cl4, ie_cl5, ie_cl6, ie_cl7, ie_cl8, ie_v5_0, ie_v5_1, ie_v5_2, ie_v5_3, ie_v5_4, ie_v6_0, ie_v8_0, ie_v12_0, ie_v24_0, ie_v30_0, ie_v3380_0, true_implies, false_implies, not_true_eq_false, implies_true, ie_10, ie_m10, ie_mm, iv_u_eq, iv_u_ne, Nat.reduceEqDiff, ie_p1, ie_p2, ie_pr, ie_pa, ie_ps, ie_d1, ie_d2, ie_r1, ie_o, ie_gr, ie_gi, ie_pt, ie_pf, ie_ri, ie_rz, ie_br, ie_c1eq, ie_c1ne, ie_c1lt, ie_c1ge, ie_c1gt, ie_c1le, ie_c2eq, ie_c2ne, ie_c2lt, ie_c2ge, ie_c2gt, ie_c2le, ie_fn0, ie_fn1, ie_fn2, ie_fn3, Nat.reduceAdd, ie_nc, Int.reduceAdd, Int.reduceLE, Int.reduceToNat, Nat.reduceLT, Nat.reduceLeDiff, Int.reduceNeg, eq_self, true_and, and_true, true_or, or_true, Nat.reduceBEq, List.elem_cons, List.elem_nil, Bool.or_false, Bool.false_or, Bool.or_true, Bool.true_or, Bool.false_eq_true, if_false, if_true, reduceIte, reduceCtorEq, ne_eq, not_false_eq_true, Classical.not_not, List.length_cons, List.length_nil, Nat.zero_le, List.map_cons, List.map_nil, List.cons_append, List.nil_append, List.replicate_succ, List.replicate_zero, Nat.reduceSub, sX7_plan_92, sX7_plan_93, ie_li3]
      exact ⟨fun _ => kk τ _ _ _ _ _ _ f1 (fun i hi => f2 i (Nat.zero_le _) hi), fun hx => absurd (by decide) hx⟩
    | succ j ih =>
      intro hj τ v4 v5 v6 v7 f1 f2
      have e37 := f1 37 (by decide)
      have e44 : τ 44 ((h + j) % 24) = nI (pr j) := by rw [f1 44 (by decide)]; exact (hpr j (by omega)).1
      have hm := Nat.mod_lt (h + j) (show 24 > 0 by decide)
      have h24 : nI (h + j) - nI (h + j) / 24 * 24 = nI ((h + j) % 24) := pk_rem (d := 24) (by omega) (by decide) (by decide)
      refine iv_blk [92, 115, 219] 60 ?_
      simp only [iv_sn, ie_cl0, ie_cl1, ie_cl2, ie_cl3, ie_cl4, ie_cl5, ie_cl6, ie_cl7, ie_cl8, ie_v5_0, ie_v5_1, ie_v5_2, ie_v5_3, ie_v5_4, ie_v6_0, ie_v8_0, ie_v12_0, ie_v24_0, ie_v30_0, ie_v3380_0, true_implies, false_implies, not_true_eq_false, implies_true, ie_10, ie_m10, ie_mm, iv_u_eq, iv_u_ne, Nat.reduceEqDiff, ie_p1, ie_p2, ie_pr, ie_pa, ie_ps, ie_d1, ie_d2, ie_r1, ie_o, ie_gr, ie_gi, ie_pt, ie_pf, ie_ri, ie_rz, ie_br, ie_c1eq, ie_c1ne, ie_c1lt, ie_c1ge, ie_c1gt, ie_c1le, ie_c2eq, ie_c2ne, ie_c2lt, ie_c2ge, ie_c2gt, ie_c2le, ie_fn0, ie_fn1, ie_fn2, ie_fn3, Nat.reduceAdd, ie_nc, Int.reduceAdd, Int.reduceLE, Int.reduceToNat, Nat.reduceLT, Nat.reduceLeDiff, Int.reduceNeg, eq_self, true_and, and_true, true_or, or_true, Nat.reduceBEq, List.elem_cons, List.elem_nil, Bool.or_false, Bool.false_or, Bool.or_true, Bool.true_or, Bool.false_eq_true, if_false, if_true, reduceIte, reduceCtorEq, ne_eq, not_false_eq_true, Classical.not_not, List.length_cons, List.length_nil, Nat.zero_le, List.map_cons, List.map_nil, List.cons_append, List.nil_append, List.replicate_succ, List.replicate_zero, Nat.reduceSub, sX7_plan_92, sX7_plan_93, sX7_plan_96, sX7_plan_97, sX7_plan_100, sX7_plan_101, sX7_plan_104, sX7_plan_105, sX7_plan_106, sX7_plan_108, sX7_plan_109, sX7_plan_110, sX7_plan_112, sX7_plan_113, gfX7_119_37, gfX7_29_37, ie_b24, ie_i0, ie_li3, ie_li4, ie_li5, ie_lr0, ie_ls4, ie_ls5, iv_ar_1, iv_ar_10, iv_ar_11, iv_ar_13, iv_ar_14, iv_ar_15, iv_ar_16, iv_ar_17, iv_ar_19, iv_ar_2, iv_ar_20, iv_ar_21, iv_ar_22, iv_ar_23, iv_ar_25, iv_ar_26, iv_ar_27, iv_ar_28, iv_ar_31, iv_ar_32, iv_ar_34, iv_ar_35, iv_ar_36, iv_ar_38, iv_ar_39, iv_ar_40, iv_ar_41, iv_ar_42, iv_ar_43, iv_ar_44, iv_ar_45, iv_ar_46, iv_ar_47, iv_ar_48, iv_ar_49, iv_ar_5, iv_ar_50, iv_ar_51, iv_ar_52, iv_ar_53, iv_ar_54, iv_ar_55, iv_ar_56, iv_ar_6, iv_ar_7, iv_ar_8, iv_ar_9, pk_m1, e37, hh, nI_add, h24, z_cl (show (h + j) % 24 < 2 ^ 31 by omega), z_in hm (by decide), e44]
      refine ⟨fun hx => absurd hx (nI_pos (by omega)), fun _ => ⟨by decide, ?_⟩⟩
      rw [← nI_0]
      refine ct_mp2 (i := j) (by omega) hn hL (by omega) (hpr j (by omega)).2 (f2 (j + 1) (Nat.le_refl _) hj) ?_ _ _
      intro u w5 w6 w7 g1 g2 g3
      have e45 : u 45 j = nI (nd j) := by rw [g1 45 (by decide), f1 45 (by decide)]; exact (hnd j (by omega)).1
      have hsub : nI (su nd (j + 1)) - nI (nd j) = nI (su nd j) := by rw [pk_sub (by rw [su_s]; omega), su_s, Nat.add_sub_cancel]
      refine iv_blk [92, 115] 60 ?_
      simp only [iv_sn, ie_cl0, ie_cl1, ie_cl2, ie_cl3, ie_cl4, ie_cl5, ie_cl6, ie_cl7, ie_cl8, ie_v5_0, ie_v5_1, ie_v5_2, ie_v5_3, ie_v5_4, ie_v6_0, ie_v8_0, ie_v12_0, ie_v24_0, ie_v30_0, ie_v3380_0, true_implies, false_implies, not_true_eq_false, implies_true, ie_10, ie_m10, ie_mm, iv_u_eq, iv_u_ne, Nat.reduceEqDiff, ie_p1, ie_p2, ie_pr, ie_pa, ie_ps, ie_d1, ie_d2, ie_r1, ie_o, ie_gr, ie_gi, ie_pt, ie_pf, ie_ri, ie_rz, ie_br, ie_c1eq, ie_c1ne, ie_c1lt, ie_c1ge, ie_c1gt, ie_c1le, ie_c2eq, ie_c2ne, ie_c2lt, ie_c2ge, ie_c2gt, ie_c2le, ie_fn0, ie_fn1, ie_fn2, ie_fn3, Nat.reduceAdd, ie_nc, Int.reduceAdd, Int.reduceLE, Int.reduceToNat, Nat.reduceLT, Nat.reduceLeDiff, Int.reduceNeg, eq_self, true_and, and_true, true_or, or_true, Nat.reduceBEq, List.elem_cons, List.elem_nil, Bool.or_false, Bool.false_or, Bool.or_true, Bool.true_or, Bool.false_eq_true, if_false, if_true, reduceIte, reduceCtorEq, ne_eq, not_false_eq_true, Classical.not_not, List.length_cons, List.length_nil, Nat.zero_le, List.map_cons, List.map_nil, List.cons_append, List.nil_append, List.replicate_succ, List.replicate_zero, Nat.reduceSub, sX7_plan_204, sX7_plan_205, sX7_plan_206, sX7_plan_209, sX7_plan_210, sX7_plan_211, sX7_plan_212, sX7_plan_213, sX7_plan_216, gfX7_32_37, ie_im1, ie_li2, ie_li3, ie_lr0, ie_ls2, ie_ls3, iv_ar_1, iv_ar_10, iv_ar_11, iv_ar_13, iv_ar_14, iv_ar_15, iv_ar_16, iv_ar_17, iv_ar_19, iv_ar_2, iv_ar_20, iv_ar_21, iv_ar_22, iv_ar_23, iv_ar_25, iv_ar_26, iv_ar_27, iv_ar_28, iv_ar_31, iv_ar_32, iv_ar_34, iv_ar_35, iv_ar_36, iv_ar_38, iv_ar_39, iv_ar_40, iv_ar_41, iv_ar_42, iv_ar_43, iv_ar_44, iv_ar_45, iv_ar_46, iv_ar_47, iv_ar_48, iv_ar_49, iv_ar_5, iv_ar_50, iv_ar_51, iv_ar_52, iv_ar_53, iv_ar_54, iv_ar_55, iv_ar_56, iv_ar_6, iv_ar_7, iv_ar_8, iv_ar_9, z_cl (show j < 2 ^ 31 by omega), z_in (show j < 12 by omega) (by decide), e45, hsub]
      refine ih (by omega) u _ _ _ _ (fun q hq => by rw [g1 q hq]; exact f1 q hq) (fun i hi hin => ?_)
      by_cases hij : i = j
      · subst hij; exact g3
      · intro k hk
        rw [g2 _ (by omega)]
        exact f2 i (by omega) hin k hk
  exact key n (Nat.le_refl _) σ _ _ _ _ (fun _ _ => rfl) (fun i a b => by
    have : i = n := by omega
    subst this
    exact hT)
-- the plan, read off the table
set_option maxRecDepth 20000 in
set_option maxHeartbeats 4000000 in
theorem ct_mp4 {Q : Int32 → iv_S → Prop} (hs : σ 37 11 = nI n) (hn : n ≤ 12) (hL : L ≤ 20) (hh : σ 37 9 = nI h) (hhb : h ≤ 10000) (hnd : ∀ i, i < n → σ 45 i = nI (nd i) ∧ nd i ≤ 20) (hpr : ∀ i, i < n → σ 44 ((h + i) % 24) = nI (pr i) ∧ pr i ≤ 1000) (hT : ∀ i, i ≤ n → dT n L nd pr σ i) (h0 : dR n L nd pr n 0 < 268435456)
    (kk : ∀ (u : iv_S), (∀ q, q ≠ 46 → u q = σ q) → (∀ i, i < n → u 46 i = nI (dc n L nd pr i)) → ∀ (v2 v3 v4 v5 v6 v7 : Option iv_V), iv_Sf X (d + 1) mX7_plan tbX7 Q 357 [some (.inl 37), some (.inr (nI L)), v2, v3, v4, v5, v6, v7] [] u) (v2 v6 v7 : Option iv_V) :
    iv_Sf X (d + 1) mX7_plan tbX7 Q 241 [some (.inl 37), some (.inr (nI L)), v2, some (.inr (nI 0)), some (.inr (nI 0)), some (.inr (nI 0)), v6, v7] [] σ := by
  have hsb : su nd n ≤ 20 * n := su_bound (fun i hi => (hnd i hi).2)
  have key := z_down (n := n) (P := fun i => ∀ (τ : iv_S) (v6 v7 : Option iv_V), (∀ q, q ≠ 46 → τ q = σ q) → (∀ t, t < i → τ 46 t = nI (dc n L nd pr t)) → iv_Sf X (d + 1) mX7_plan tbX7 Q 241 [some (.inl 37), some (.inr (nI L)), v2, some (.inr (nI (dA n L nd pr i))), some (.inr (nI (su nd i))), some (.inr (nI i)), v6, v7] [] τ) ?_ ?_
  · exact key σ _ _ (fun _ _ => rfl) (fun t ht => by omega)
  · intro τ v6 v7 f1 f2
    have e37 : τ 37 11 = nI n := by rw [f1 37 (by decide)]; exact hs
    refine iv_blk [241, 357] 60 ?_
    simp only [iv_sn, ie_cl0, ie_cl1, ie_cl2, ie_cl3, ie_cl4, ie_cl5, ie_cl6, ie_cl7, ie_cl8, ie_v5_0, ie_v5_1, ie_v5_2, ie_v5_3, ie_v5_4, ie_v6_0, ie_v8_0, ie_v12_0, ie_v24_0, ie_v30_0, ie_v3380_0, true_implies, false_implies, not_true_eq_false, implies_true, ie_10, ie_m10, ie_mm, iv_u_eq, iv_u_ne, Nat.reduceEqDiff, ie_p1, ie_p2, ie_pr, ie_pa, ie_ps, ie_d1, ie_d2, ie_r1, ie_o, ie_gr, ie_gi, ie_pt, ie_pf, ie_ri, ie_rz, ie_br, ie_c1eq, ie_c1ne, ie_c1lt, ie_c1ge, ie_c1gt, ie_c1le, ie_c2eq, ie_c2ne, ie_c2lt, ie_c2ge, ie_c2gt, ie_c2le, ie_fn0, ie_fn1, ie_fn2, ie_fn3, Nat.reduceAdd, ie_nc, Int.reduceAdd, Int.reduceLE, Int.reduceToNat, Nat.reduceLT, Nat.reduceLeDiff, Int.reduceNeg, eq_self, true_and, and_true, true_or, or_true, Nat.reduceBEq, List.elem_cons, List.elem_nil, Bool.or_false, Bool.false_or, Bool.or_true, Bool.true_or, Bool.false_eq_true, if_false, if_true, reduceIte, reduceCtorEq, ne_eq, not_false_eq_true, Classical.not_not, List.length_cons, List.length_nil, Nat.zero_le, List.map_cons, List.map_nil, List.cons_append, List.nil_append, List.replicate_succ, List.replicate_zero, Nat.reduceSub, sX7_plan_241, sX7_plan_243, sX7_plan_244, sX7_plan_247, gfX7_137_37, ie_li5, ie_lr0, e37]
    exact ⟨fun _ => kk τ f1 f2 _ _ _ _ _ _, fun hx => absurd (z_nn (by omega)) hx⟩
  · intro i hi ih τ v6 v7 f1 f2
    have e37 := f1 37 (by decide)
    have e44 : τ 44 ((h + i) % 24) = nI (pr i) := by rw [f1 44 (by decide)]; exact (hpr i hi).1
    have e45 : τ 45 i = nI (nd i) := by rw [f1 45 (by decide)]; exact (hnd i hi).1
    have e54 := f1 54 (by decide)
    have hpri := (hpr i hi).2
    have hm := Nat.mod_lt (h + i) (show 24 > 0 by decide)
    have h24 : nI (h + i) - nI (h + i) / 24 * 24 = nI ((h + i) % 24) := pk_rem (d := 24) (by omega) (by decide) (by decide)
    have hup : su nd (i + 1) ≤ su nd n := su_mono nd (by omega)
    have hA : dA n L nd pr i ≤ 20 * i := Nat.le_trans (dA_le n L nd pr i) (Nat.mul_le_mul hL (Nat.le_refl _))
    have hok := (dc_ok h0 i (by omega)).2 hi
    have hdl : dc n L nd pr i ≤ L := dMx_le _ _
    have hdA : dA n L nd pr i + dc n L nd pr i = dA n L nd pr (i + 1) := rfl
    refine iv_blk [241, 282, 357] 60 ?_
    simp only [iv_sn, ie_cl0, ie_cl1, ie_cl2, ie_cl3, ie_cl4, ie_cl5, ie_cl6, ie_cl7, ie_cl8, ie_v5_0, ie_v5_1, ie_v5_2, ie_v5_3, ie_v5_4, ie_v6_0, ie_v8_0, ie_v12_0, ie_v24_0, ie_v30_0, ie_v3380_0, true_implies, false_implies, not_true_eq_false, implies_true, ie_10, ie_m10, ie_mm, iv_u_eq, iv_u_ne, Nat.reduceEqDiff, ie_p1, ie_p2, ie_pr, ie_pa, ie_ps, ie_d1, ie_d2, ie_r1, ie_o, ie_gr, ie_gi, ie_pt, ie_pf, ie_ri, ie_rz, ie_br, ie_c1eq, ie_c1ne, ie_c1lt, ie_c1ge, ie_c1gt, ie_c1le, ie_c2eq, ie_c2ne, ie_c2lt, ie_c2ge, ie_c2gt, ie_c2le, ie_fn0, ie_fn1, ie_fn2, ie_fn3, Nat.reduceAdd, ie_nc, Int.reduceAdd, Int.reduceLE, Int.reduceToNat, Nat.reduceLT, Nat.reduceLeDiff, Int.reduceNeg, eq_self, true_and, and_true, true_or, or_true, Nat.reduceBEq, List.elem_cons, List.elem_nil, Bool.or_false, Bool.false_or, Bool.or_true, Bool.true_or, Bool.false_eq_true, if_false, if_true, reduceIte, reduceCtorEq, ne_eq, not_false_eq_true, Classical.not_not, List.length_cons, List.length_nil, Nat.zero_le, List.map_cons, List.map_nil, List.cons_append, List.nil_append, List.replicate_succ, List.replicate_zero, Nat.reduceSub, sX7_plan_241, sX7_plan_243, sX7_plan_244, sX7_plan_247, sX7_plan_250, sX7_plan_251, sX7_plan_254, sX7_plan_255, sX7_plan_258, sX7_plan_260, sX7_plan_261, sX7_plan_263, sX7_plan_264, sX7_plan_265, sX7_plan_267, sX7_plan_269, sX7_plan_270, sX7_plan_273, sX7_plan_275, sX7_plan_276, sX7_plan_277, sX7_plan_279, sX7_plan_280, gfX7_119_37, gfX7_137_37, gfX7_29_37, gfX7_32_37, ie_b24, ie_li1, ie_li4, ie_li5, ie_li6, ie_li7, ie_lr0, ie_ls4, ie_ls6, ie_ls7, iv_ar_1, iv_ar_10, iv_ar_11, iv_ar_13, iv_ar_14, iv_ar_15, iv_ar_16, iv_ar_17, iv_ar_19, iv_ar_2, iv_ar_20, iv_ar_21, iv_ar_22, iv_ar_23, iv_ar_25, iv_ar_26, iv_ar_27, iv_ar_28, iv_ar_31, iv_ar_32, iv_ar_34, iv_ar_35, iv_ar_36, iv_ar_38, iv_ar_39, iv_ar_40, iv_ar_41, iv_ar_42, iv_ar_43, iv_ar_44, iv_ar_45, iv_ar_46, iv_ar_47, iv_ar_48, iv_ar_49, iv_ar_5, iv_ar_50, iv_ar_51, iv_ar_52, iv_ar_53, iv_ar_54, iv_ar_55, iv_ar_56, iv_ar_6, iv_ar_7, iv_ar_8, iv_ar_9, e37, hs, hh, nI_add, h24, z_cl (show (h + i) % 24 < 2 ^ 31 by omega), z_in hm (by decide), e44, e45, z_cl (show i < 2 ^ 31 by omega), z_in (show i < 12 by omega) (by decide)]
    refine ⟨fun hx => absurd hx (nI_ge hi (by omega)), fun _ => ⟨by decide, ?_⟩⟩
    have hwhile : ∀ e c, c = dc n L nd pr i + e → c ≤ L → iv_Sf X (d + 1) mX7_plan tbX7 Q 282 [some (.inl 37), some (.inr (nI L)), v2, some (.inr (nI (dA n L nd pr i))), some (.inr (nI (su nd (i + 1)))), some (.inr (nI i)), some (.inr (nI (pr i))), some (.inr (nI c))] [] τ := by
      intro e
      induction e with
      | zero =>
        intro c hc hcL
        rw [Nat.add_zero] at hc
        subst hc
        generalize hcc : dc n L nd pr i = c at hok hdl hdA ⊢
        generalize hAA : dA n L nd pr i = a at hok hA hdA ⊢
        simp only [dOk, Bool.and_eq_true, decide_eq_true_eq] at hok
        have r1 : τ 54 (260 * (i + 1) + a + c) = nI (dR n L nd pr (n - (i + 1)) (a + c)) := by
          rw [e54, Nat.add_assoc]
          exact hT (i + 1) (by omega) (a + c) (by omega)
        have r2 : τ 54 (260 * i + a) = nI (dR n L nd pr (n - i) a) := by
          rw [e54]
          exact hT i (by omega) a hA
        refine iv_blk [241, 282] 60 ?_
        simp only [iv_sn, ie_cl0, ie_cl1, ie_cl2, ie_cl3, ie_cl4, ie_cl5, ie_cl6, ie_cl7, ie_cl8, ie_v5_0, ie_v5_1, ie_v5_2, ie_v5_3, ie_v5_4, ie_v6_0, ie_v8_0, ie_v12_0, ie_v24_0, ie_v30_0, ie_v3380_0, true_implies, false_implies, not_true_eq_false, implies_true, ie_10, ie_m10, ie_mm, iv_u_eq, iv_u_ne, Nat.reduceEqDiff, ie_p1, ie_p2, ie_pr, ie_pa, ie_ps, ie_d1, ie_d2, ie_r1, ie_o, ie_gr, ie_gi, ie_pt, ie_pf, ie_ri, ie_rz, ie_br, ie_c1eq, ie_c1ne, ie_c1lt, ie_c1ge, ie_c1gt, ie_c1le, ie_c2eq, ie_c2ne, ie_c2lt, ie_c2ge, ie_c2gt, ie_c2le, ie_fn0, ie_fn1, ie_fn2, ie_fn3, Nat.reduceAdd, ie_nc, Int.reduceAdd, Int.reduceLE, Int.reduceToNat, Nat.reduceLT, Nat.reduceLeDiff, Int.reduceNeg, eq_self, true_and, and_true, true_or, or_true, Nat.reduceBEq, List.elem_cons, List.elem_nil, Bool.or_false, Bool.false_or, Bool.or_true, Bool.true_or, Bool.false_eq_true, if_false, if_true, reduceIte, reduceCtorEq, ne_eq, not_false_eq_true, Classical.not_not, List.length_cons, List.length_nil, Nat.zero_le, List.map_cons, List.map_nil, List.cons_append, List.nil_append, List.replicate_succ, List.replicate_zero, Nat.reduceSub, sX7_plan_282, sX7_plan_283, sX7_plan_285, sX7_plan_286, sX7_plan_288, sX7_plan_291, sX7_plan_293, sX7_plan_295, sX7_plan_296, sX7_plan_297, sX7_plan_300, sX7_plan_303, sX7_plan_305, sX7_plan_306, sX7_plan_307, sX7_plan_308, sX7_plan_309, sX7_plan_310, sX7_plan_312, sX7_plan_313, sX7_plan_314, sX7_plan_315, sX7_plan_316, sX7_plan_319, sX7_plan_322, sX7_plan_324, sX7_plan_325, sX7_plan_326, sX7_plan_327, sX7_plan_328, gfX7_59_37, ie_i1, ie_li3, ie_li4, ie_li5, ie_li6, ie_li7, ie_lr0, ie_s260, iv_ar_1, iv_ar_10, iv_ar_11, iv_ar_13, iv_ar_14, iv_ar_15, iv_ar_16, iv_ar_17, iv_ar_19, iv_ar_2, iv_ar_20, iv_ar_21, iv_ar_22, iv_ar_23, iv_ar_25, iv_ar_26, iv_ar_27, iv_ar_28, iv_ar_31, iv_ar_32, iv_ar_34, iv_ar_35, iv_ar_36, iv_ar_38, iv_ar_39, iv_ar_40, iv_ar_41, iv_ar_42, iv_ar_43, iv_ar_44, iv_ar_45, iv_ar_46, iv_ar_47, iv_ar_48, iv_ar_49, iv_ar_5, iv_ar_50, iv_ar_51, iv_ar_52, iv_ar_53, iv_ar_54, iv_ar_55, iv_ar_56, iv_ar_6, iv_ar_7, iv_ar_8, iv_ar_9, iv_sn, ie_cl0, ie_cl1, ie_cl2, ie_cl3, ie_cl4, ie_cl5, ie_cl6, ie_cl7, ie_cl8, ie_v5_0, ie_v5_1, ie_v5_2, ie_v5_3, ie_v5_4, ie_v6_0, ie_v8_0, ie_v12_0, ie_v24_0, ie_v30_0, ie_v3380_0, true_implies, false_implies, not_true_eq_false, implies_true, ie_10, ie_m10, ie_mm, iv_u_eq, iv_u_ne, Nat.reduceEqDiff, ie_p1, ie_p2, ie_pr, ie_pa, ie_ps, ie_d1, ie_d2, ie_r1, ie_o, ie_gr, ie_gi, ie_pt, ie_pf, ie_ri, ie_rz, ie_br, ie_c1eq, ie_c1ne, ie_c1lt, ie_c1ge, ie_c1gt, ie_c1le, ie_c2eq, ie_c2ne, ie_c2lt, ie_c2ge, ie_c2gt, ie_c2le, ie_fn0, ie_fn1, ie_fn2, ie_fn3, Nat.reduceAdd, ie_nc, Int.reduceAdd, Int.reduceLE, Int.reduceToNat, Nat.reduceLT, Nat.reduceLeDiff, Int.reduceNeg, eq_self, true_and, and_true, true_or, or_true, Nat.reduceBEq, List.elem_cons, List.elem_nil, Bool.or_false, Bool.false_or, Bool.or_true, Bool.true_or, Bool.false_eq_true, if_false, if_true, reduceIte, reduceCtorEq, ne_eq, not_false_eq_true, Classical.not_not, List.length_cons, List.length_nil, Nat.zero_le, List.map_cons, List.map_nil, List.cons_append, List.nil_append, List.replicate_succ, List.replicate_zero, Nat.reduceSub, sX7_plan_337, sX7_plan_338, sX7_plan_341, sX7_plan_343, sX7_plan_345, sX7_plan_346, sX7_plan_347, sX7_plan_349, sX7_plan_350, sX7_plan_351, sX7_plan_354, gfX7_35_37, ie_i1, ie_li3, ie_li5, ie_li7, ie_lr0, ie_ls3, ie_ls5, iv_ar_1, iv_ar_10, iv_ar_11, iv_ar_13, iv_ar_14, iv_ar_15, iv_ar_16, iv_ar_17, iv_ar_19, iv_ar_2, iv_ar_20, iv_ar_21, iv_ar_22, iv_ar_23, iv_ar_25, iv_ar_26, iv_ar_27, iv_ar_28, iv_ar_31, iv_ar_32, iv_ar_34, iv_ar_35, iv_ar_36, iv_ar_38, iv_ar_39, iv_ar_40, iv_ar_41, iv_ar_42, iv_ar_43, iv_ar_44, iv_ar_45, iv_ar_46, iv_ar_47, iv_ar_48, iv_ar_49, iv_ar_5, iv_ar_50, iv_ar_51, iv_ar_52, iv_ar_53, iv_ar_54, iv_ar_55, iv_ar_56, iv_ar_6, iv_ar_7, iv_ar_8, iv_ar_9, nI_1, z260, nI_add, pk_mul, z_cl (show 260 * (i + 1) + a + c < 2 ^ 31 by omega), z_in (show 260 * (i + 1) + a + c < 3380 by omega) (by decide), z_cl (show 260 * i + a < 2 ^ 31 by omega), z_in (show 260 * i + a < 3380 by omega) (by decide), z_cl (show i < 2 ^ 31 by omega), z_in (show i < 12 by omega) (by decide), r1, r2, hok.2]
        refine ⟨fun hx => absurd hx (nI_nlt hok.1 (by omega)), fun _ => ?_⟩
        rw [hdA]
        refine ih _ _ _ (fun q hq => by rw [iv_u_ne hq]; exact f1 q hq) (fun t ht => ?_)
        rw [iv_u_eq]
        by_cases hti : t = i
        · subst hti; rw [upd_same, hcc]
        · rw [upd_ne hti]; exact f2 t (by omega)
      | succ e ihe =>
        intro c hc hcL
        have hbad := dMx_top (P := dOk n L nd pr i (dA n L nd pr i)) (h := L) (e := c) (by show dc n L nd pr i < c; omega) hcL
        obtain ⟨c', rfl⟩ : ∃ c', c = c' + 1 := ⟨c - 1, by omega⟩
        have hnext := ihe c' (by omega) (by omega)
        generalize hAA : dA n L nd pr i = a at hbad hA hnext ⊢
        have r1 : τ 54 (260 * (i + 1) + a + (c' + 1)) = nI (dR n L nd pr (n - (i + 1)) (a + (c' + 1))) := by
          rw [e54, Nat.add_assoc]
          exact hT (i + 1) (by omega) (a + (c' + 1)) (by omega)
        have r2 : τ 54 (260 * i + a) = nI (dR n L nd pr (n - i) a) := by
          rw [e54]
          exact hT i (by omega) a hA
        have hg := dR_far n L nd pr (n - (i + 1)) (a + (c' + 1))
        have hg2 := dR_far n L nd pr (n - i) a
        have hcp : (c' + 1) * pr i ≤ 20 * 1000 := Nat.mul_le_mul (by omega) hpri
        simp only [dOk, Bool.and_eq_false_iff, decide_eq_false_iff_not] at hbad
        have hdec : iv_Sf X (d + 1) mX7_plan tbX7 Q 331 [some (.inl 37), some (.inr (nI L)), v2, some (.inr (nI a)), some (.inr (nI (su nd (i + 1)))), some (.inr (nI i)), some (.inr (nI (pr i))), some (.inr (nI (c' + 1)))] [] τ := by
          refine iv_blk [282] 60 ?_
          simp only [iv_sn, ie_cl0, ie_cl1, ie_cl2, ie_cl3, ie_cl4, ie_cl5, ie_cl6, ie_cl7, ie_cl8, ie_v5_0, ie_v5_1, ie_v5_2, ie_v5_3, ie_v5_4, ie_v6_0, ie_v8_0, ie_v12_0, ie_v24_0, ie_v30_0, ie_v3380_0, true_implies, false_implies, not_true_eq_false, implies_true, ie_10, ie_m10, ie_mm, iv_u_eq, iv_u_ne, Nat.reduceEqDiff, ie_p1, ie_p2, ie_pr, ie_pa, ie_ps, ie_d1, ie_d2, ie_r1, ie_o, ie_gr, ie_gi, ie_pt, ie_pf, ie_ri, ie_rz, ie_br, ie_c1eq, ie_c1ne, ie_c1lt, ie_c1ge, ie_c1gt, ie_c1le, ie_c2eq, ie_c2ne, ie_c2lt, ie_c2ge, ie_c2gt, ie_c2le, ie_fn0, ie_fn1, ie_fn2, ie_fn3, Nat.reduceAdd, ie_nc, Int.reduceAdd, Int.reduceLE, Int.reduceToNat, Nat.reduceLT, Nat.reduceLeDiff, Int.reduceNeg, eq_self, true_and, and_true, true_or, or_true, Nat.reduceBEq, List.elem_cons, List.elem_nil, Bool.or_false, Bool.false_or, Bool.or_true, Bool.true_or, Bool.false_eq_true, if_false, if_true, reduceIte, reduceCtorEq, ne_eq, not_false_eq_true, Classical.not_not, List.length_cons, List.length_nil, Nat.zero_le, List.map_cons, List.map_nil, List.cons_append, List.nil_append, List.replicate_succ, List.replicate_zero, Nat.reduceSub, sX7_plan_331, sX7_plan_334, ie_im1, ie_li7, ie_ls7, pk_m1]
          exact hnext
        refine iv_blk [241, 282, 331, 337] 60 ?_
        simp only [iv_sn, ie_cl0, ie_cl1, ie_cl2, ie_cl3, ie_cl4, ie_cl5, ie_cl6, ie_cl7, ie_cl8, ie_v5_0, ie_v5_1, ie_v5_2, ie_v5_3, ie_v5_4, ie_v6_0, ie_v8_0, ie_v12_0, ie_v24_0, ie_v30_0, ie_v3380_0, true_implies, false_implies, not_true_eq_false, implies_true, ie_10, ie_m10, ie_mm, iv_u_eq, iv_u_ne, Nat.reduceEqDiff, ie_p1, ie_p2, ie_pr, ie_pa, ie_ps, ie_d1, ie_d2, ie_r1, ie_o, ie_gr, ie_gi, ie_pt, ie_pf, ie_ri, ie_rz, ie_br, ie_c1eq, ie_c1ne, ie_c1lt, ie_c1ge, ie_c1gt, ie_c1le, ie_c2eq, ie_c2ne, ie_c2lt, ie_c2ge, ie_c2gt, ie_c2le, ie_fn0, ie_fn1, ie_fn2, ie_fn3, Nat.reduceAdd, ie_nc, Int.reduceAdd, Int.reduceLE, Int.reduceToNat, Nat.reduceLT, Nat.reduceLeDiff, Int.reduceNeg, eq_self, true_and, and_true, true_or, or_true, Nat.reduceBEq, List.elem_cons, List.elem_nil, Bool.or_false, Bool.false_or, Bool.or_true, Bool.true_or, Bool.false_eq_true, if_false, if_true, reduceIte, reduceCtorEq, ne_eq, not_false_eq_true, Classical.not_not, List.length_cons, List.length_nil, Nat.zero_le, List.map_cons, List.map_nil, List.cons_append, List.nil_append, List.replicate_succ, List.replicate_zero, Nat.reduceSub, sX7_plan_282, sX7_plan_283, sX7_plan_285, sX7_plan_286, sX7_plan_288, sX7_plan_291, sX7_plan_293, sX7_plan_295, sX7_plan_296, sX7_plan_297, sX7_plan_300, sX7_plan_303, sX7_plan_305, sX7_plan_306, sX7_plan_307, sX7_plan_308, sX7_plan_309, sX7_plan_310, sX7_plan_312, sX7_plan_313, sX7_plan_314, sX7_plan_315, sX7_plan_316, sX7_plan_319, sX7_plan_322, sX7_plan_324, sX7_plan_325, sX7_plan_326, sX7_plan_327, sX7_plan_328, gfX7_59_37, ie_i1, ie_li3, ie_li4, ie_li5, ie_li6, ie_li7, ie_lr0, ie_s260, iv_ar_1, iv_ar_10, iv_ar_11, iv_ar_13, iv_ar_14, iv_ar_15, iv_ar_16, iv_ar_17, iv_ar_19, iv_ar_2, iv_ar_20, iv_ar_21, iv_ar_22, iv_ar_23, iv_ar_25, iv_ar_26, iv_ar_27, iv_ar_28, iv_ar_31, iv_ar_32, iv_ar_34, iv_ar_35, iv_ar_36, iv_ar_38, iv_ar_39, iv_ar_40, iv_ar_41, iv_ar_42, iv_ar_43, iv_ar_44, iv_ar_45, iv_ar_46, iv_ar_47, iv_ar_48, iv_ar_49, iv_ar_5, iv_ar_50, iv_ar_51, iv_ar_52, iv_ar_53, iv_ar_54, iv_ar_55, iv_ar_56, iv_ar_6, iv_ar_7, iv_ar_8, iv_ar_9, nI_1, z260, nI_add, pk_mul, z_cl (show 260 * (i + 1) + a + (c' + 1) < 2 ^ 31 by omega), z_in (show 260 * (i + 1) + a + (c' + 1) < 3380 by omega) (by decide), z_cl (show 260 * i + a < 2 ^ 31 by omega), z_in (show 260 * i + a < 3380 by omega) (by decide), r1, r2]
        refine ⟨fun _ => hdec, fun hx => ⟨fun hy => ?_, fun _ => hdec⟩⟩
        exfalso
        rw [nI_ltI (by omega) (by omega)] at hx
        rw [nI_eq (by omega) (by omega)] at hy
        rcases hbad with q | q
        · omega
        · exact q hy
    exact hwhile (L - dc n L nd pr i) L (by omega) (Nat.le_refl _)
end YL
section YM
variable {X : iv_X} {d : Nat} {σ σ0 : iv_S}
set_option maxRecDepth 20000 in
set_option maxHeartbeats 4000000 in
theorem ct_m_plan {n h : Nat} {nd pr : Nat → Nat} (h0 : σ0 = iv_u σ 37 23 0) (hs : σ0 37 11 = nI n) (hn : n ≤ 12) (hh : σ0 37 9 = nI h) (hhb : h ≤ 10000) (hnd : ∀ i, i < n → σ0 45 i = nI (nd i) ∧ nd i ≤ 20) (hpr : ∀ i, i < n → σ0 44 ((h + i) % 24) = nI (pr i) ∧ pr i ≤ 1000) (L : Int32) : iv_Ct X mX7_plan (d + 2) [.inl 37, .inr L] σ (fun r u => (zw L 0 20 = true → plQM n L.toNatClampNeg nd pr σ0 r u) ∧ (zw L 0 20 = false → r = -1 ∧ u = σ0)) := by
  generalize hQ : (fun (r : Int32) (u : iv_S) => (zw L 0 20 = true → plQM n L.toNatClampNeg nd pr σ0 r u) ∧ (zw L 0 20 = false → r = -1 ∧ u = σ0)) = Q
  refine iv_ctl (own := RX7) (b := tbX7) (ls := [some (.inl 37), some (.inr L), none, none, none, none, none, none]) (plainFor_of_name (by decide)) rfl okX7 (Nat.le_of_ble_eq_true rfl) rfl ?_
  refine iv_blk [5] 9 ?_
  simp only [iv_sn, ie_cl0, ie_cl1, ie_cl2, ie_cl3, ie_cl4, ie_cl5, ie_cl6, ie_cl7, ie_cl8, ie_v5_0, ie_v5_1, ie_v5_2, ie_v5_3, ie_v5_4, ie_v6_0, ie_v8_0, ie_v12_0, ie_v24_0, ie_v30_0, ie_v3380_0, true_implies, false_implies, not_true_eq_false, implies_true, ie_10, ie_m10, ie_mm, iv_u_eq, iv_u_ne, Nat.reduceEqDiff, ie_p1, ie_p2, ie_pr, ie_pa, ie_ps, ie_d1, ie_d2, ie_r1, ie_o, ie_gr, ie_gi, ie_pt, ie_pf, ie_ri, ie_rz, ie_br, ie_c1eq, ie_c1ne, ie_c1lt, ie_c1ge, ie_c1gt, ie_c1le, ie_c2eq, ie_c2ne, ie_c2lt, ie_c2ge, ie_c2gt, ie_c2le, ie_fn0, ie_fn1, ie_fn2, ie_fn3, Nat.reduceAdd, ie_nc, Int.reduceAdd, Int.reduceLE, Int.reduceToNat, Nat.reduceLT, Nat.reduceLeDiff, Int.reduceNeg, eq_self, true_and, and_true, true_or, or_true, Nat.reduceBEq, List.elem_cons, List.elem_nil, Bool.or_false, Bool.false_or, Bool.or_true, Bool.true_or, Bool.false_eq_true, if_false, if_true, reduceIte, reduceCtorEq, ne_eq, not_false_eq_true, Classical.not_not, List.length_cons, List.length_nil, Nat.zero_le, List.map_cons, List.map_nil, List.cons_append, List.nil_append, List.replicate_succ, List.replicate_zero, Nat.reduceSub, sX7_plan_0, sX7_plan_1, sX7_plan_2, gfX7_68_37, ie_i0, ie_lr0]
  rw [← h0]
  clear h0
  refine iv_blk [17] 60 ?_
  simp only [iv_sn, ie_cl0, ie_cl1, ie_cl2, ie_cl3, ie_cl4, ie_cl5, ie_cl6, ie_cl7, ie_cl8, ie_v5_0, ie_v5_1, ie_v5_2, ie_v5_3, ie_v5_4, ie_v6_0, ie_v8_0, ie_v12_0, ie_v24_0, ie_v30_0, ie_v3380_0, true_implies, false_implies, not_true_eq_false, implies_true, ie_10, ie_m10, ie_mm, iv_u_eq, iv_u_ne, Nat.reduceEqDiff, ie_p1, ie_p2, ie_pr, ie_pa, ie_ps, ie_d1, ie_d2, ie_r1, ie_o, ie_gr, ie_gi, ie_pt, ie_pf, ie_ri, ie_rz, ie_br, ie_c1eq, ie_c1ne, ie_c1lt, ie_c1ge, ie_c1gt, ie_c1le, ie_c2eq, ie_c2ne, ie_c2lt, ie_c2ge, ie_c2gt, ie_c2le, ie_fn0, ie_fn1, ie_fn2, ie_fn3, Nat.reduceAdd, ie_nc, Int.reduceAdd, Int.reduceLE, Int.reduceToNat, Nat.reduceLT, Nat.reduceLeDiff, Int.reduceNeg, eq_self, true_and, and_true, true_or, or_true, Nat.reduceBEq, List.elem_cons, List.elem_nil, Bool.or_false, Bool.false_or, Bool.or_true, Bool.true_or, Bool.false_eq_true, if_false, if_true, reduceIte, reduceCtorEq, ne_eq, not_false_eq_true, Classical.not_not, List.length_cons, List.length_nil, Nat.zero_le, List.map_cons, List.map_nil, List.cons_append, List.nil_append, List.replicate_succ, List.replicate_zero, Nat.reduceSub, sX7_plan_5, sX7_plan_6, sX7_plan_7, sX7_plan_9, sX7_plan_12, sX7_plan_15, sX7_plan_16, cvX7_75, ie_b20, ie_call1, ie_call2, ie_call3, ie_call4, ie_call5, ie_call6, ie_call7, ie_call8, ie_i0, ie_im1, ie_li1]
  refine ⟨_, ct_m_in _ _ _, ?_⟩
  rintro r1 σ1 ⟨rfl, hs1⟩
  subst hs1
  simp only [zb0, zbn]
  refine ⟨fun hz => ?_, fun hz => by rw [← hQ]; simp [hz]⟩
  obtain ⟨hk, hkk⟩ := z_idx0 (n := 20) (by decide) hz
  generalize hkn : L.toNatClampNeg = l at hk hkk
  subst hkk
  have hin : ∀ r u, plQM n l nd pr σ1 r u → Q r u := by
    intro r u hu
    rw [← hQ, hkn]
    exact ⟨fun _ => hu, fun hf => by rw [hz] at hf; cases hf⟩
  refine ct_mp1 (pr := pr) hs hn hk hnd ?_ _ _ _ _ _
  intro u1 w3 w4 w5 w6 w7 a1 a2
  have b37 := a1 37 (by decide)
  refine iv_blk [92] 60 ?_
  simp only [iv_sn, ie_cl0, ie_cl1, ie_cl2, ie_cl3, ie_cl4, ie_cl5, ie_cl6, ie_cl7, ie_cl8, ie_v5_0, ie_v5_1, ie_v5_2, ie_v5_3, ie_v5_4, ie_v6_0, ie_v8_0, ie_v12_0, ie_v24_0, ie_v30_0, ie_v3380_0, true_implies, false_implies, not_true_eq_false, implies_true, ie_10, ie_m10, ie_mm, iv_u_eq, iv_u_ne, Nat.reduceEqDiff, ie_p1, ie_p2, ie_pr, ie_pa, ie_ps, ie_d1, ie_d2, ie_r1, ie_o, ie_gr, ie_gi, ie_pt, ie_pf, ie_ri, ie_rz, ie_br, ie_c1eq, ie_c1ne, ie_c1lt, ie_c1ge, ie_c1gt, ie_c1le, ie_c2eq, ie_c2ne, ie_c2lt, ie_c2ge, ie_c2gt, ie_c2le, ie_fn0, ie_fn1, ie_fn2, ie_fn3, Nat.reduceAdd, ie_nc, Int.reduceAdd, Int.reduceLE, Int.reduceToNat, Nat.reduceLT, Nat.reduceLeDiff, Int.reduceNeg, eq_self, true_and, and_true, true_or, or_true, Nat.reduceBEq, List.elem_cons, List.elem_nil, Bool.or_false, Bool.false_or, Bool.or_true, Bool.true_or, Bool.false_eq_true, if_false, if_true, reduceIte, reduceCtorEq, ne_eq, not_false_eq_true, Classical.not_not, List.length_cons, List.length_nil, Nat.zero_le, List.map_cons, List.map_nil, List.cons_append, List.nil_append, List.replicate_succ, List.replicate_zero, Nat.reduceSub, sX7_plan_85, sX7_plan_86, sX7_plan_89, sX7_plan_90, sX7_plan_91, gfX7_137_37, ie_i1, ie_li3, ie_lr0, ie_ls3, b37, hs, nI_m1]
  refine ct_mp3 (pr := pr) (h := h) hn hk (by rw [b37]; exact hh) hhb (fun i hi => by rw [a1 45 (by decide)]; exact hnd i hi) (fun i hi => by rw [a1 44 (by decide)]; exact hpr i hi) a2 ?_ _ _ _ _
  intro u2 x2 x3 x4 x5 x6 x7 c1 c2
  have d37 : u2 37 = σ1 37 := by rw [c1 37 (by decide)]; exact b37
  have hq : ∀ q, q ≠ 54 → u2 q = σ1 q := fun q hq => by rw [c1 q hq]; exact a1 q hq
  have hr0 : u2 54 0 = nI (dR n l nd pr n 0) := by
    have := c2 0 (Nat.zero_le _) 0 (Nat.zero_le _)
    exact this
  have hfar := dR_far n l nd pr n 0
  refine iv_blk [241] 60 ?_
  simp only [iv_sn, ie_cl0, ie_cl1, ie_cl2, ie_cl3, ie_cl4, ie_cl5, ie_cl6, ie_cl7, ie_cl8, ie_v5_0, ie_v5_1, ie_v5_2, ie_v5_3, ie_v5_4, ie_v6_0, ie_v8_0, ie_v12_0, ie_v24_0, ie_v30_0, ie_v3380_0, true_implies, false_implies, not_true_eq_false, implies_true, ie_10, ie_m10, ie_mm, iv_u_eq, iv_u_ne, Nat.reduceEqDiff, ie_p1, ie_p2, ie_pr, ie_pa, ie_ps, ie_d1, ie_d2, ie_r1, ie_o, ie_gr, ie_gi, ie_pt, ie_pf, ie_ri, ie_rz, ie_br, ie_c1eq, ie_c1ne, ie_c1lt, ie_c1ge, ie_c1gt, ie_c1le, ie_c2eq, ie_c2ne, ie_c2lt, ie_c2ge, ie_c2gt, ie_c2le, ie_fn0, ie_fn1, ie_fn2, ie_fn3, Nat.reduceAdd, ie_nc, Int.reduceAdd, Int.reduceLE, Int.reduceToNat, Nat.reduceLT, Nat.reduceLeDiff, Int.reduceNeg, eq_self, true_and, and_true, true_or, or_true, Nat.reduceBEq, List.elem_cons, List.elem_nil, Bool.or_false, Bool.false_or, Bool.or_true, Bool.true_or, Bool.false_eq_true, if_false, if_true, reduceIte, reduceCtorEq, ne_eq, not_false_eq_true, Classical.not_not, List.length_cons, List.length_nil, Nat.zero_le, List.map_cons, List.map_nil, List.cons_append, List.nil_append, List.replicate_succ, List.replicate_zero, Nat.reduceSub, sX7_plan_219, sX7_plan_220, sX7_plan_223, sX7_plan_224, sX7_plan_225, sX7_plan_227, sX7_plan_230, sX7_plan_232, sX7_plan_233, sX7_plan_234, sX7_plan_235, sX7_plan_236, sX7_plan_238, sX7_plan_239, csX7_146, gfX7_59_37, ie_bm2, ie_i0, ie_li3, ie_li4, ie_li5, ie_lr0, ie_ls3, ie_ls4, ie_ls5, iv_ar_1, iv_ar_10, iv_ar_11, iv_ar_13, iv_ar_14, iv_ar_15, iv_ar_16, iv_ar_17, iv_ar_19, iv_ar_2, iv_ar_20, iv_ar_21, iv_ar_22, iv_ar_23, iv_ar_25, iv_ar_26, iv_ar_27, iv_ar_28, iv_ar_31, iv_ar_32, iv_ar_34, iv_ar_35, iv_ar_36, iv_ar_38, iv_ar_39, iv_ar_40, iv_ar_41, iv_ar_42, iv_ar_43, iv_ar_44, iv_ar_45, iv_ar_46, iv_ar_47, iv_ar_48, iv_ar_49, iv_ar_5, iv_ar_50, iv_ar_51, iv_ar_52, iv_ar_53, iv_ar_54, iv_ar_55, iv_ar_56, iv_ar_6, iv_ar_7, iv_ar_8, iv_ar_9, hr0]
  rw [zFAR, nI_ltI (by omega) (by decide)]
  refine ⟨fun hx => ?_, fun hx => hin _ _ ⟨fun q q1 q2 q3 => hq q q3, fun j _ => by rw [d37], Or.inl ⟨by omega, rfl, by rw [d37], hq 46 (by decide)⟩⟩⟩
  rw [← nI_0]
  refine ct_mp4 (pr := pr) (nd := nd) (n := n) (L := l) (h := h) (by rw [d37]; exact hs) hn hk (by rw [d37]; exact hh) hhb (fun i hi => by rw [hq 45 (by decide)]; exact hnd i hi) (fun i hi => by rw [hq 44 (by decide)]; exact hpr i hi) c2 hx ?_ _ _ _
  intro u3 e1 e2 y2 y3 y4 y5 y6 y7
  have f37 : u3 37 = σ1 37 := by rw [e1 37 (by decide)]; exact d37
  have hr3 : u3 54 0 = nI (dR n l nd pr n 0) := by rw [e1 54 (by decide)]; exact hr0
  refine iv_blk [] 60 ?_
  simp only [iv_sn, ie_cl0, ie_cl1, ie_cl2, ie_cl3, ie_cl4, ie_cl5, ie_cl6, ie_cl7, ie_cl8, ie_v5_0, ie_v5_1, ie_v5_2, ie_v5_3, ie_v5_4, ie_v6_0, ie_v8_0, ie_v12_0, ie_v24_0, ie_v30_0, ie_v3380_0, true_implies, false_implies, not_true_eq_false, implies_true, ie_10, ie_m10, ie_mm, iv_u_eq, iv_u_ne, Nat.reduceEqDiff, ie_p1, ie_p2, ie_pr, ie_pa, ie_ps, ie_d1, ie_d2, ie_r1, ie_o, ie_gr, ie_gi, ie_pt, ie_pf, ie_ri, ie_rz, ie_br, ie_c1eq, ie_c1ne, ie_c1lt, ie_c1ge, ie_c1gt, ie_c1le, ie_c2eq, ie_c2ne, ie_c2lt, ie_c2ge, ie_c2gt, ie_c2le, ie_fn0, ie_fn1, ie_fn2, ie_fn3, Nat.reduceAdd, ie_nc, Int.reduceAdd, Int.reduceLE, Int.reduceToNat, Nat.reduceLT, Nat.reduceLeDiff, Int.reduceNeg, eq_self, true_and, and_true, true_or, or_true, Nat.reduceBEq, List.elem_cons, List.elem_nil, Bool.or_false, Bool.false_or, Bool.or_true, Bool.true_or, Bool.false_eq_true, if_false, if_true, reduceIte, reduceCtorEq, ne_eq, not_false_eq_true, Classical.not_not, List.length_cons, List.length_nil, Nat.zero_le, List.map_cons, List.map_nil, List.cons_append, List.nil_append, List.replicate_succ, List.replicate_zero, Nat.reduceSub, sX7_plan_357, sX7_plan_358, sX7_plan_359, sX7_plan_362, sX7_plan_365, sX7_plan_366, sX7_plan_369, sX7_plan_370, sX7_plan_371, gfX7_137_37, gfX7_147_37, gfX7_59_37, ie_i0, ie_lr0, iv_ar_1, iv_ar_10, iv_ar_11, iv_ar_13, iv_ar_14, iv_ar_15, iv_ar_16, iv_ar_17, iv_ar_19, iv_ar_2, iv_ar_20, iv_ar_21, iv_ar_22, iv_ar_23, iv_ar_25, iv_ar_26, iv_ar_27, iv_ar_28, iv_ar_31, iv_ar_32, iv_ar_34, iv_ar_35, iv_ar_36, iv_ar_38, iv_ar_39, iv_ar_40, iv_ar_41, iv_ar_42, iv_ar_43, iv_ar_44, iv_ar_45, iv_ar_46, iv_ar_47, iv_ar_48, iv_ar_49, iv_ar_5, iv_ar_50, iv_ar_51, iv_ar_52, iv_ar_53, iv_ar_54, iv_ar_55, iv_ar_56, iv_ar_6, iv_ar_7, iv_ar_8, iv_ar_9, f37, hs, hr3, iv_u_ne, ne_eq, Nat.reduceEqDiff, not_false_eq_true]
  refine hin _ _ ⟨fun q q1 q2 q3 => ?_, fun j hj => ?_, Or.inr ⟨hx, rfl, ?_, fun i hi => ?_⟩⟩
  · rw [iv_u_ne q1, e1 q q2]; exact hq q q3
  · rw [iv_u_eq, upd_ne hj, f37]
  · rw [iv_u_eq, upd_same]
  · rw [iv_u_ne (by decide)]; exact e2 i hi
end YM
