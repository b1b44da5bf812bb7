def vRep (st : Nat) (κ4 : Int32) (κ : Nat → Int32) (σ : iv_S) (B : vB) : Prop := match B with
  | none => σ 24 7 = -2 ∧ σ 24 4 = κ4 ∧ σ 28 = κ
  | some q => σ 24 7 = q.1 ∧ 0 ≤ q.1.toInt ∧ σ 24 4 = nI st ∧ q.2.length = st ∧ ∀ i c, q.2[i]? = some c → σ 28 i = nI c
def vQ (st : Nat) (κ4 : Int32) (κ : Nat → Int32) (n : Nat) (σ : iv_S) (F : vB) (_ : Int32) (u : iv_S) : Prop :=
  (∀ q, q ≠ 24 → q ≠ 27 → q ≠ 28 → u q = σ q) ∧ (∀ j, j ≠ 4 → j ≠ 7 → u 24 j = σ 24 j) ∧ (∀ i, i < n → u 27 i = σ 27 i) ∧ vRep st κ4 κ u F
theorem vRep_same {st : Nat} {κ4 : Int32} {κ : Nat → Int32} {σ τ : iv_S} {B : vB} (h : vRep st κ4 κ σ B) (h1 : τ 24 = σ 24) (h2 : τ 28 = σ 28) : vRep st κ4 κ τ B := by
  unfold vRep at h ⊢
  rw [h1, h2]
  exact h
section YD
variable {X : iv_X}
set_option maxRecDepth 20000 in
set_option maxHeartbeats 4000000 in
theorem ct_xhead {L k nc st : Nat} {σ : iv_S} {sp xs ys κ : Nat → Int32} {van κ4 : Int32} {R : List Nat} {V : Nat → Bool} {x y ld len : Int32} {B : vB} (hT : ∀ c, c < nc → zT (xs c) ∧ zT (ys c)) (hx : zT x) (hy : zT y) (h0 : 0 ≤ len.toInt) (h1 : len.toInt + 400 * k ≤ 100000) (hB : vRep st κ4 κ σ B)
    (h28 : (∀ q, B = some q → len + x + y < q.1) → iv_Sf X L mX5_extend tbX5 (vQ st κ4 κ R.length σ (vS nc sp xs ys van k V R x y ld len B)) 28 [some (.inl 24), some (.inl 4), some (.inr (nI R.length)), some (.inr x), some (.inr y), some (.inr ld), some (.inr len), some (.inr (len + x + y)), none, none, none] [] σ) :
    iv_Ct X mX5_extend (L + 1) [.inl 24, .inl 4, .inr (nI R.length), .inr x, .inr y, .inr ld, .inr len] σ (vQ st κ4 κ R.length σ (vS nc sp xs ys van k V R x y ld len B)) := by
  refine iv_ctl (own := RX5) (b := tbX5) (ls := [some (.inl 24), some (.inl 4), some (.inr (nI R.length)), some (.inr x), some (.inr y), some (.inr ld), some (.inr len), none, none, none, none]) (plainFor_of_name (by decide)) rfl okX5 (Nat.le_of_ble_eq_true rfl) rfl ?_
  refine iv_blk [28] 30 ?_
  simp only [iv_sn, ie_cl0, ie_cl1, ie_cl2, ie_cl3, ie_cl4, ie_cl5, ie_cl6, ie_cl7, ie_cl8, ie_v5_0, ie_v5_1, ie_v5_2, ie_v5_3, ie_v5_4, ie_v6_0, ie_v8_0, ie_v12_0, ie_v24_0, ie_v30_0, ie_v3380_0, true_implies, false_implies, not_true_eq_false, implies_true, ie_10, ie_m10, ie_mm, iv_u_eq, iv_u_ne, Nat.reduceEqDiff, ie_p1, ie_p2, ie_pr, ie_pa, ie_ps, ie_d1, ie_d2, ie_r1, ie_o, ie_gr, ie_gi, ie_pt, ie_pf, ie_ri, ie_rz, ie_br, ie_c1eq, ie_c1ne, ie_c1lt, ie_c1ge, ie_c1gt, ie_c1le, ie_c2eq, ie_c2ne, ie_c2lt, ie_c2ge, ie_c2gt, ie_c2le, ie_fn0, ie_fn1, ie_fn2, ie_fn3, Nat.reduceAdd, ie_nc, Int.reduceAdd, Int.reduceLE, Int.reduceToNat, Nat.reduceLT, Nat.reduceLeDiff, Int.reduceNeg, eq_self, true_and, and_true, true_or, or_true, Nat.reduceBEq, List.elem_cons, List.elem_nil, Bool.or_false, Bool.false_or, Bool.or_true, Bool.true_or, Bool.false_eq_true, if_false, if_true, reduceIte, reduceCtorEq, ne_eq, not_false_eq_true, Classical.not_not, List.length_cons, List.length_nil, Nat.zero_le, List.map_cons, List.map_nil, List.cons_append, List.nil_append, List.replicate_succ, List.replicate_zero, Nat.reduceSub, sX5_extend_0, sX5_extend_2, sX5_extend_3, sX5_extend_4, sX5_extend_6, sX5_extend_7, sX5_extend_9, sX5_extend_10, sX5_extend_13, sX5_extend_15, sX5_extend_18, sX5_extend_20, sX5_extend_21, sX5_extend_24, sX5_extend_27, gfX5_32_24, ie_bm2, ie_li3, ie_li4, ie_li6, ie_li7, ie_lr0, ie_ls7]
  cases B with
  | none =>
    have hb := hB.1
    exact ⟨fun _ => h28 (fun q h => by cases h), fun h => absurd hb h⟩
  | some q =>
    obtain ⟨b1, b2, b3, b4, b5⟩ := hB
    rw [b1]
    have hne : ¬ q.1 = -2 := by
      intro e
      rw [e] at b2
      revert b2
      decide
    refine ⟨fun h => absurd h hne, fun _ => ⟨fun h => h28 (fun q' e => by cases e; exact h), fun h => ?_⟩⟩
    have hp : vS nc sp xs ys van k V R x y ld len (some q) = some q := by
      obtain ⟨l, R0⟩ := q
      have hx' := hx
      have hy' := hy
      obtain ⟨x1, x2⟩ := hx'
      obtain ⟨y1, y2⟩ := hy'
      have e1 : (len + x).toInt = len.toInt + x.toInt := z_add (by omega) (by omega)
      have e2 : (len + x + y).toInt = len.toInt + x.toInt + y.toInt := by rw [z_add (by omega) (by omega), e1]
      rw [z_lt, e2] at h
      exact vS_prune hT k V R x y ld len l R0 hx hy h0 h1 (by dsimp only at h; omega)
    rw [hp]
    exact ⟨fun _ _ _ _ => rfl, fun _ _ _ => rfl, fun _ _ => rfl, b1, b2, b3, b4, b5⟩
set_option maxRecDepth 20000 in
set_option maxHeartbeats 4000000 in
theorem ct_extend {nc st : Nat} {sp xs ys κ : Nat → Int32} {van κ4 : Int32} (hst6 : st ≤ 6) (hnc : nc ≤ 6) (hT : ∀ c, c < nc → zT (xs c) ∧ zT (ys c)) : ∀ (k L : Nat) (σ : iv_S) (R : List Nat) (V : Nat → Bool) (x y ld len : Int32) (B : vB), k + 2 ≤ L →
    σ 24 6 = nI st → R.length + k = st → σ 4 2 = nI nc → (∀ c, c < nc → σ 25 c = sp c) → (∀ c, c < nc → σ 5 c = xs c) → (∀ c, c < nc → σ 6 c = ys c) → σ 24 5 = van → zT x → zT y → 0 ≤ len.toInt → len.toInt + 400 * k ≤ 100000 → (∀ c, c < nc → σ 26 c = zb (V c)) → (∀ i c, R[i]? = some c → σ 27 i = nI c) → vRep st κ4 κ σ B →
    iv_Ct X mX5_extend (L + 1) [.inl 24, .inl 4, .inr (nI R.length), .inr x, .inr y, .inr ld, .inr len] σ (vQ st κ4 κ R.length σ (vS nc sp xs ys van k V R x y ld len B)) := by
  intro k
  induction k with
  | zero =>
    intro L σ R V x y ld len B hL hst hk hn h25 h5 h6 hvan hx hy h0 h1 hV hR hB
    refine ct_xhead hT hx hy h0 h1 hB (fun hlt => ?_)
    obtain ⟨e, rfl⟩ : ∃ e, L = e + 2 := ⟨L - 2, by omega⟩
    have hk : R.length = st := by omega
    refine iv_blk [46] 30 ?_
    simp only [iv_sn, ie_cl0, ie_cl1, ie_cl2, ie_cl3, ie_cl4, ie_cl5, ie_cl6, ie_cl7, ie_cl8, ie_v5_0, ie_v5_1, ie_v5_2, ie_v5_3, ie_v5_4, ie_v6_0, ie_v8_0, ie_v12_0, ie_v24_0, ie_v30_0, ie_v3380_0, true_implies, false_implies, not_true_eq_false, implies_true, ie_10, ie_m10, ie_mm, iv_u_eq, iv_u_ne, Nat.reduceEqDiff, ie_p1, ie_p2, ie_pr, ie_pa, ie_ps, ie_d1, ie_d2, ie_r1, ie_o, ie_gr, ie_gi, ie_pt, ie_pf, ie_ri, ie_rz, ie_br, ie_c1eq, ie_c1ne, ie_c1lt, ie_c1ge, ie_c1gt, ie_c1le, ie_c2eq, ie_c2ne, ie_c2lt, ie_c2ge, ie_c2gt, ie_c2le, ie_fn0, ie_fn1, ie_fn2, ie_fn3, Nat.reduceAdd, ie_nc, Int.reduceAdd, Int.reduceLE, Int.reduceToNat, Nat.reduceLT, Nat.reduceLeDiff, Int.reduceNeg, eq_self, true_and, and_true, true_or, or_true, Nat.reduceBEq, List.elem_cons, List.elem_nil, Bool.or_false, Bool.false_or, Bool.or_true, Bool.true_or, Bool.false_eq_true, if_false, if_true, reduceIte, reduceCtorEq, ne_eq, not_false_eq_true, Classical.not_not, List.length_cons, List.length_nil, Nat.zero_le, List.map_cons, List.map_nil, List.cons_append, List.nil_append, List.replicate_succ, List.replicate_zero, Nat.reduceSub, sX5_extend_28, sX5_extend_29, sX5_extend_30, sX5_extend_33, sX5_extend_36, sX5_extend_37, sX5_extend_39, sX5_extend_42, cvX5_39, gfX5_29_24, ie_call1, ie_call2, ie_call3, ie_call4, ie_call5, ie_call6, ie_call7, ie_call8, ie_li2, ie_li7, ie_lr0, ie_rc1, ie_rc2, ie_rc3, ie_rc4, ie_rc5, ie_rc6, ie_rc7, ie_rc8, iv_cls_0, iv_cls_12, iv_cls_18, iv_cls_24, iv_cls_29, iv_cls_3, iv_cls_30, iv_cls_33, iv_cls_37, iv_cls_4, hst, hk]
    refine ⟨fun h => absurd h (nI_nlt (Nat.le_refl _) (by omega)), fun _ => ?_⟩
    refine ⟨_, ct_keepRow hst hst6 _, ?_⟩
    rintro r1 u ⟨g1, g2, g3⟩
    have hF : vS nc sp xs ys van 0 V R x y ld len B = some (len + x + y, R) := by
      simp only [vS]
      cases B with
      | none => rfl
      | some q => exact vU_lt (hlt q rfl)
    rw [hF]
    have hx' := hx
    have hy' := hy
    obtain ⟨x1, x2⟩ := hx'
    obtain ⟨y1, y2⟩ := hy'
    have e1 : (len + x).toInt = len.toInt + x.toInt := z_add (by omega) (by omega)
    have e2 : (len + x + y).toInt = len.toInt + x.toInt + y.toInt := by rw [z_add (by omega) (by omega), e1]
    refine ⟨fun q a b c => g1 q a c, fun j a b => ?_, fun i _ => by rw [g1 27 (by decide) (by decide)], ?_⟩
    · rw [g2, upd_ne a, upd_ne b]
    · refine ⟨?_, by show 0 ≤ (len + x + y).toInt; omega, ?_, hk, ?_⟩
      · rw [g2, upd_ne (by decide), upd_same]
      · rw [g2, upd_same]
      · intro i c hi
        have hl : i < st := by
          have := (List.getElem?_eq_some_iff.mp hi).1
          dsimp only at this
          omega
        rw [g3]
        simp only [hl, if_true]
        exact hR i c hi
  | succ k ih =>
    intro L σ R V x y ld len B hL hst hk hn h25 h5 h6 hvan hx hy h0 h1 hV hR hB
    refine ct_xhead hT hx hy h0 h1 hB (fun _ => ?_)
    obtain ⟨e, rfl⟩ : ∃ e, L = e + 3 := ⟨L - 3, by omega⟩
    refine iv_blk [46] 30 ?_
    simp only [iv_sn, ie_cl0, ie_cl1, ie_cl2, ie_cl3, ie_cl4, ie_cl5, ie_cl6, ie_cl7, ie_cl8, ie_v5_0, ie_v5_1, ie_v5_2, ie_v5_3, ie_v5_4, ie_v6_0, ie_v8_0, ie_v12_0, ie_v24_0, ie_v30_0, ie_v3380_0, true_implies, false_implies, not_true_eq_false, implies_true, ie_10, ie_m10, ie_mm, iv_u_eq, iv_u_ne, Nat.reduceEqDiff, ie_p1, ie_p2, ie_pr, ie_pa, ie_ps, ie_d1, ie_d2, ie_r1, ie_o, ie_gr, ie_gi, ie_pt, ie_pf, ie_ri, ie_rz, ie_br, ie_c1eq, ie_c1ne, ie_c1lt, ie_c1ge, ie_c1gt, ie_c1le, ie_c2eq, ie_c2ne, ie_c2lt, ie_c2ge, ie_c2gt, ie_c2le, ie_fn0, ie_fn1, ie_fn2, ie_fn3, Nat.reduceAdd, ie_nc, Int.reduceAdd, Int.reduceLE, Int.reduceToNat, Nat.reduceLT, Nat.reduceLeDiff, Int.reduceNeg, eq_self, true_and, and_true, true_or, or_true, Nat.reduceBEq, List.elem_cons, List.elem_nil, Bool.or_false, Bool.false_or, Bool.or_true, Bool.true_or, Bool.false_eq_true, if_false, if_true, reduceIte, reduceCtorEq, ne_eq, not_false_eq_true, Classical.not_not, List.length_cons, List.length_nil, Nat.zero_le, List.map_cons, List.map_nil, List.cons_append, List.nil_append, List.replicate_succ, List.replicate_zero, Nat.reduceSub, sX5_extend_28, sX5_extend_29, sX5_extend_30, sX5_extend_33, sX5_extend_36, sX5_extend_37, sX5_extend_39, sX5_extend_42, sX5_extend_43, sX5_extend_44, cvX5_39, gfX5_29_24, ie_call1, ie_call2, ie_call3, ie_call4, ie_call5, ie_call6, ie_call7, ie_call8, ie_i0, ie_li2, ie_li7, ie_li8, ie_lr0, ie_ls8, ie_rc1, ie_rc2, ie_rc3, ie_rc4, ie_rc5, ie_rc6, ie_rc7, ie_rc8, iv_cls_0, iv_cls_12, iv_cls_18, iv_cls_24, iv_cls_29, iv_cls_3, iv_cls_30, iv_cls_33, iv_cls_37, iv_cls_4, hst]
    refine ⟨fun _ => ?_, fun h => absurd (nI_lt (by omega) (by omega)) h⟩
    generalize hF : vS nc sp xs ys van (k + 1) V R x y ld len B = F
    simp only [vS] at hF
    generalize hf : (fun c B' => if vG sp van V ld c then vS nc sp xs ys van k (fun q => V q || decide (q = c)) (R ++ [c]) (xs c) (ys c) (ld + sp c) (len + vD xs ys c x y) B' else B') = f at hF
    have key := z_down (n := nc) (P := fun i => ∀ (τ : iv_S) (B' : vB) (v9 v10 : Option iv_V), (∀ q, q ≠ 24 → q ≠ 27 → q ≠ 28 → τ q = σ q) → (∀ j, j ≠ 4 → j ≠ 7 → τ 24 j = σ 24 j) → (∀ i, i < R.length → τ 27 i = σ 27 i) → vRep st κ4 κ τ B' → vL f i (nc - i) B' = F →
      iv_Sf X (e + 3) mX5_extend tbX5 (vQ st κ4 κ R.length σ F) 46 [some (.inl 24), some (.inl 4), some (.inr (nI R.length)), some (.inr x), some (.inr y), some (.inr ld), some (.inr len), some (.inr (len + x + y)), some (.inr (nI i)), v9, v10] [] τ) ?_ ?_
    · exact key σ B _ _ (fun _ _ _ _ => rfl) (fun _ _ _ => rfl) (fun _ _ => rfl) hB (by rw [Nat.sub_zero]; exact hF)
    · intro τ B' v9 v10 f1 f2 f3 f4 f5
      rw [Nat.sub_self] at f5
      have e4 : τ 4 2 = nI nc := by rw [f1 4 (by decide) (by decide) (by decide)]; exact hn
      refine iv_blk [46] 60 ?_
      simp only [iv_sn, ie_cl0, ie_cl1, ie_cl2, ie_cl3, ie_cl4, ie_cl5, ie_cl6, ie_cl7, ie_cl8, ie_v5_0, ie_v5_1, ie_v5_2, ie_v5_3, ie_v5_4, ie_v6_0, ie_v8_0, ie_v12_0, ie_v24_0, ie_v30_0, ie_v3380_0, true_implies, false_implies, not_true_eq_false, implies_true, ie_10, ie_m10, ie_mm, iv_u_eq, iv_u_ne, Nat.reduceEqDiff, ie_p1, ie_p2, ie_pr, ie_pa, ie_ps, ie_d1, ie_d2, ie_r1, ie_o, ie_gr, ie_gi, ie_pt, ie_pf, ie_ri, ie_rz, ie_br, ie_c1eq, ie_c1ne, ie_c1lt, ie_c1ge, ie_c1gt, ie_c1le, ie_c2eq, ie_c2ne, ie_c2lt, ie_c2ge, ie_c2gt, ie_c2le, ie_fn0, ie_fn1, ie_fn2, ie_fn3, Nat.reduceAdd, ie_nc, Int.reduceAdd, Int.reduceLE, Int.reduceToNat, Nat.reduceLT, Nat.reduceLeDiff, Int.reduceNeg, eq_self, true_and, and_true, true_or, or_true, Nat.reduceBEq, List.elem_cons, List.elem_nil, Bool.or_false, Bool.false_or, Bool.or_true, Bool.true_or, Bool.false_eq_true, if_false, if_true, reduceIte, reduceCtorEq, ne_eq, not_false_eq_true, Classical.not_not, List.length_cons, List.length_nil, Nat.zero_le, List.map_cons, List.map_nil, List.cons_append, List.nil_append, List.replicate_succ, List.replicate_zero, Nat.reduceSub, sX5_extend_46, sX5_extend_48, sX5_extend_49, sX5_extend_52, sX5_extend_55, sX5_extend_57, sX5_extend_58, sX5_extend_61, sX5_extend_63, sX5_extend_64, sX5_extend_65, sX5_extend_67, sX5_extend_68, sX5_extend_71, sX5_extend_73, sX5_extend_74, sX5_extend_77, sX5_extend_78, sX5_extend_81, sX5_extend_83, sX5_extend_84, sX5_extend_87, sX5_extend_89, sX5_extend_90, sX5_extend_91, sX5_extend_94, sX5_extend_97, sX5_extend_100, sX5_extend_101, sX5_extend_104, sX5_extend_106, sX5_extend_107, sX5_extend_108, sX5_extend_109, sX5_extend_112, sX5_extend_113, sX5_extend_115, sX5_extend_116, sX5_extend_118, sX5_extend_119, sX5_extend_121, sX5_extend_122, sX5_extend_124, sX5_extend_127, sX5_extend_128, sX5_extend_130, sX5_extend_131, sX5_extend_132, sX5_extend_133, sX5_extend_134, sX5_extend_135, sX5_extend_136, sX5_extend_139, sX5_extend_141, sX5_extend_142, sX5_extend_143, sX5_extend_146, sX5_extend_148, sX5_extend_149, sX5_extend_151, sX5_extend_153, sX5_extend_156, sX5_extend_157, sX5_extend_160, sX5_extend_162, sX5_extend_163, sX5_extend_164, sX5_extend_167, sX5_extend_170, cvX5_35, cvX5_48, cvX5_52, gfX5_15_24, gfX5_19_24, gfX5_25_24, gfX5_43_30, gfX5_43_33, gfX5_43_4, gfX5_56_30, gfX5_56_33, gfX5_56_4, gfX5_59_30, gfX5_59_33, gfX5_59_4, gfX5_9_24, ie_call1, ie_call2, ie_call3, ie_call4, ie_call5, ie_call6, ie_call7, ie_call8, ie_i0, ie_i1, ie_li10, ie_li2, ie_li3, ie_li4, ie_li5, ie_li6, ie_li8, ie_li9, ie_lr0, ie_lr1, ie_ls10, ie_ls8, ie_ls9, ie_rc1, ie_rc2, ie_rc3, ie_rc4, ie_rc5, ie_rc6, ie_rc7, ie_rc8, iv_ar_1, iv_ar_10, iv_ar_11, iv_ar_13, iv_ar_14, iv_ar_15, iv_ar_16, iv_ar_17, iv_ar_19, iv_ar_2, iv_ar_20, iv_ar_21, iv_ar_22, iv_ar_23, iv_ar_25, iv_ar_26, iv_ar_27, iv_ar_28, iv_ar_31, iv_ar_32, iv_ar_34, iv_ar_35, iv_ar_36, iv_ar_38, iv_ar_39, iv_ar_40, iv_ar_41, iv_ar_42, iv_ar_43, iv_ar_44, iv_ar_45, iv_ar_46, iv_ar_47, iv_ar_48, iv_ar_49, iv_ar_5, iv_ar_50, iv_ar_51, iv_ar_52, iv_ar_53, iv_ar_54, iv_ar_55, iv_ar_56, iv_ar_6, iv_ar_7, iv_ar_8, iv_ar_9, iv_cls_0, iv_cls_12, iv_cls_18, iv_cls_24, iv_cls_29, iv_cls_3, iv_cls_30, iv_cls_33, iv_cls_37, iv_cls_4, e4]
      refine ⟨fun _ => ⟨f1, f2, f3, ?_⟩, fun h => absurd (z_nn (by omega)) h⟩
      rw [← f5]
      exact f4
    · intro i hi ihi τ B' v9 v10 f1 f2 f3 f4 f5
      rw [show nc - i = (nc - (i + 1)) + 1 by omega] at f5
      simp only [vL] at f5
      have e4 : τ 4 2 = nI nc := by rw [f1 4 (by decide) (by decide) (by decide)]; exact hn
      have e25 : τ 25 i = sp i := by rw [f1 25 (by decide) (by decide) (by decide)]; exact h25 i hi
      have e26 : τ 26 i = zb (V i) := by rw [f1 26 (by decide) (by decide) (by decide)]; exact hV i hi
      have e5 : τ 5 i = xs i := by rw [f1 5 (by decide) (by decide) (by decide)]; exact h5 i hi
      have e6 : τ 6 i = ys i := by rw [f1 6 (by decide) (by decide) (by decide)]; exact h6 i hi
      have evan : τ 24 5 = van := by rw [f2 5 (by decide) (by decide)]; exact hvan
      have hskip : vG sp van V ld i = false → ∀ w9 w10, iv_Sf X (e + 3) mX5_extend tbX5 (vQ st κ4 κ R.length σ F) 164 [some (.inl 24), some (.inl 4), some (.inr (nI R.length)), some (.inr x), some (.inr y), some (.inr ld), some (.inr len), some (.inr (len + x + y)), some (.inr (nI i)), w9, w10] [] τ := by
        intro hg w9 w10
        have hfi : f i B' = B' := by rw [← hf]; simp only [hg, Bool.false_eq_true, if_false]
        rw [hfi] at f5
        refine iv_blk [46] 60 ?_
        simp only [iv_sn, ie_cl0, ie_cl1, ie_cl2, ie_cl3, ie_cl4, ie_cl5, ie_cl6, ie_cl7, ie_cl8, ie_v5_0, ie_v5_1, ie_v5_2, ie_v5_3, ie_v5_4, ie_v6_0, ie_v8_0, ie_v12_0, ie_v24_0, ie_v30_0, ie_v3380_0, true_implies, false_implies, not_true_eq_false, implies_true, ie_10, ie_m10, ie_mm, iv_u_eq, iv_u_ne, Nat.reduceEqDiff, ie_p1, ie_p2, ie_pr, ie_pa, ie_ps, ie_d1, ie_d2, ie_r1, ie_o, ie_gr, ie_gi, ie_pt, ie_pf, ie_ri, ie_rz, ie_br, ie_c1eq, ie_c1ne, ie_c1lt, ie_c1ge, ie_c1gt, ie_c1le, ie_c2eq, ie_c2ne, ie_c2lt, ie_c2ge, ie_c2gt, ie_c2le, ie_fn0, ie_fn1, ie_fn2, ie_fn3, Nat.reduceAdd, ie_nc, Int.reduceAdd, Int.reduceLE, Int.reduceToNat, Nat.reduceLT, Nat.reduceLeDiff, Int.reduceNeg, eq_self, true_and, and_true, true_or, or_true, Nat.reduceBEq, List.elem_cons, List.elem_nil, Bool.or_false, Bool.false_or, Bool.or_true, Bool.true_or, Bool.false_eq_true, if_false, if_true, reduceIte, reduceCtorEq, ne_eq, not_false_eq_true, Classical.not_not, List.length_cons, List.length_nil, Nat.zero_le, List.map_cons, List.map_nil, List.cons_append, List.nil_append, List.replicate_succ, List.replicate_zero, Nat.reduceSub, sX5_extend_164, sX5_extend_167, sX5_extend_170, ie_i1, ie_li8, ie_ls8, nI_1]
        exact ihi τ B' _ _ f1 f2 f3 f4 f5
      refine iv_blk [46, 100, 164] 60 ?_
      simp only [iv_sn, ie_cl0, ie_cl1, ie_cl2, ie_cl3, ie_cl4, ie_cl5, ie_cl6, ie_cl7, ie_cl8, ie_v5_0, ie_v5_1, ie_v5_2, ie_v5_3, ie_v5_4, ie_v6_0, ie_v8_0, ie_v12_0, ie_v24_0, ie_v30_0, ie_v3380_0, true_implies, false_implies, not_true_eq_false, implies_true, ie_10, ie_m10, ie_mm, iv_u_eq, iv_u_ne, Nat.reduceEqDiff, ie_p1, ie_p2, ie_pr, ie_pa, ie_ps, ie_d1, ie_d2, ie_r1, ie_o, ie_gr, ie_gi, ie_pt, ie_pf, ie_ri, ie_rz, ie_br, ie_c1eq, ie_c1ne, ie_c1lt, ie_c1ge, ie_c1gt, ie_c1le, ie_c2eq, ie_c2ne, ie_c2lt, ie_c2ge, ie_c2gt, ie_c2le, ie_fn0, ie_fn1, ie_fn2, ie_fn3, Nat.reduceAdd, ie_nc, Int.reduceAdd, Int.reduceLE, Int.reduceToNat, Nat.reduceLT, Nat.reduceLeDiff, Int.reduceNeg, eq_self, true_and, and_true, true_or, or_true, Nat.reduceBEq, List.elem_cons, List.elem_nil, Bool.or_false, Bool.false_or, Bool.or_true, Bool.true_or, Bool.false_eq_true, if_false, if_true, reduceIte, reduceCtorEq, ne_eq, not_false_eq_true, Classical.not_not, List.length_cons, List.length_nil, Nat.zero_le, List.map_cons, List.map_nil, List.cons_append, List.nil_append, List.replicate_succ, List.replicate_zero, Nat.reduceSub, sX5_extend_46, sX5_extend_48, sX5_extend_49, sX5_extend_52, sX5_extend_55, sX5_extend_57, sX5_extend_58, sX5_extend_61, sX5_extend_63, sX5_extend_64, sX5_extend_65, sX5_extend_67, sX5_extend_68, sX5_extend_71, sX5_extend_73, sX5_extend_74, sX5_extend_77, sX5_extend_78, sX5_extend_81, sX5_extend_83, sX5_extend_84, sX5_extend_87, sX5_extend_89, sX5_extend_90, sX5_extend_91, sX5_extend_94, sX5_extend_97, cvX5_48, gfX5_15_24, gfX5_25_24, gfX5_43_30, gfX5_43_33, gfX5_43_4, gfX5_9_24, ie_call1, ie_call2, ie_call3, ie_call4, ie_call5, ie_call6, ie_call7, ie_call8, ie_i0, ie_li5, ie_li8, ie_li9, ie_lr0, ie_lr1, ie_ls9, iv_ar_1, iv_ar_10, iv_ar_11, iv_ar_13, iv_ar_14, iv_ar_15, iv_ar_16, iv_ar_17, iv_ar_19, iv_ar_2, iv_ar_20, iv_ar_21, iv_ar_22, iv_ar_23, iv_ar_25, iv_ar_26, iv_ar_27, iv_ar_28, iv_ar_31, iv_ar_32, iv_ar_34, iv_ar_35, iv_ar_36, iv_ar_38, iv_ar_39, iv_ar_40, iv_ar_41, iv_ar_42, iv_ar_43, iv_ar_44, iv_ar_45, iv_ar_46, iv_ar_47, iv_ar_48, iv_ar_49, iv_ar_5, iv_ar_50, iv_ar_51, iv_ar_52, iv_ar_53, iv_ar_54, iv_ar_55, iv_ar_56, iv_ar_6, iv_ar_7, iv_ar_8, iv_ar_9, e4, e25, e26, evan, zn0, zb0, z_cl (show i < 2 ^ 31 by omega), z_in (show i < 6 by omega) (by decide)]
      refine ⟨fun h => absurd h (nI_ge hi (by omega)), fun _ => ⟨fun h2 => hskip (by simp [vG, h2]) _ _, fun h2 => ⟨fun h3 => hskip (by simp [vG, h3]) _ _, fun h3 => ?_⟩⟩⟩
      refine ⟨_, ct_isWithin _ _ _, ?_⟩
      rintro r1 σ1 ⟨rfl, hs1⟩
      subst hs1
      simp only [zb0, zbn, zbm] at h3 ⊢
      refine ⟨fun h4 => hskip (by simp [vG, h4]) _ _, fun h4 => ?_⟩
      have hg : vG sp van V ld i = true := by simp [vG, h2, h3, h4]
      have hfi : f i B' = vS nc sp xs ys van k (fun q => V q || decide (q = i)) (R ++ [i]) (xs i) (ys i) (ld + sp i) (len + vD xs ys i x y) B' := by rw [← hf]; simp only [hg, if_true]
      refine iv_blk [46] 60 ?_
      simp only [iv_sn, ie_cl0, ie_cl1, ie_cl2, ie_cl3, ie_cl4, ie_cl5, ie_cl6, ie_cl7, ie_cl8, ie_v5_0, ie_v5_1, ie_v5_2, ie_v5_3, ie_v5_4, ie_v6_0, ie_v8_0, ie_v12_0, ie_v24_0, ie_v30_0, ie_v3380_0, true_implies, false_implies, not_true_eq_false, implies_true, ie_10, ie_m10, ie_mm, iv_u_eq, iv_u_ne, Nat.reduceEqDiff, ie_p1, ie_p2, ie_pr, ie_pa, ie_ps, ie_d1, ie_d2, ie_r1, ie_o, ie_gr, ie_gi, ie_pt, ie_pf, ie_ri, ie_rz, ie_br, ie_c1eq, ie_c1ne, ie_c1lt, ie_c1ge, ie_c1gt, ie_c1le, ie_c2eq, ie_c2ne, ie_c2lt, ie_c2ge, ie_c2gt, ie_c2le, ie_fn0, ie_fn1, ie_fn2, ie_fn3, Nat.reduceAdd, ie_nc, Int.reduceAdd, Int.reduceLE, Int.reduceToNat, Nat.reduceLT, Nat.reduceLeDiff, Int.reduceNeg, eq_self, true_and, and_true, true_or, or_true, Nat.reduceBEq, List.elem_cons, List.elem_nil, Bool.or_false, Bool.false_or, Bool.or_true, Bool.true_or, Bool.false_eq_true, if_false, if_true, reduceIte, reduceCtorEq, ne_eq, not_false_eq_true, Classical.not_not, List.length_cons, List.length_nil, Nat.zero_le, List.map_cons, List.map_nil, List.cons_append, List.nil_append, List.replicate_succ, List.replicate_zero, Nat.reduceSub, sX5_extend_100, sX5_extend_101, sX5_extend_104, sX5_extend_106, sX5_extend_107, sX5_extend_108, sX5_extend_109, sX5_extend_112, sX5_extend_113, sX5_extend_115, sX5_extend_116, sX5_extend_118, sX5_extend_119, sX5_extend_121, sX5_extend_122, sX5_extend_124, sX5_extend_127, sX5_extend_128, sX5_extend_130, sX5_extend_131, sX5_extend_132, sX5_extend_133, sX5_extend_134, sX5_extend_135, sX5_extend_136, sX5_extend_139, sX5_extend_141, sX5_extend_142, sX5_extend_143, sX5_extend_146, sX5_extend_148, sX5_extend_149, sX5_extend_151, sX5_extend_153, sX5_extend_156, sX5_extend_157, sX5_extend_160, sX5_extend_162, sX5_extend_163, sX5_extend_164, sX5_extend_167, sX5_extend_170, cvX5_35, cvX5_52, gfX5_15_24, gfX5_19_24, gfX5_56_30, gfX5_56_33, gfX5_56_4, gfX5_59_30, gfX5_59_33, gfX5_59_4, ie_call1, ie_call2, ie_call3, ie_call4, ie_call5, ie_call6, ie_call7, ie_call8, ie_i0, ie_i1, ie_li10, ie_li2, ie_li3, ie_li4, ie_li6, ie_li8, ie_li9, ie_lr0, ie_lr1, ie_ls10, ie_ls8, ie_rc1, ie_rc2, ie_rc3, ie_rc4, ie_rc5, ie_rc6, ie_rc7, ie_rc8, iv_ar_1, iv_ar_10, iv_ar_11, iv_ar_13, iv_ar_14, iv_ar_15, iv_ar_16, iv_ar_17, iv_ar_19, iv_ar_2, iv_ar_20, iv_ar_21, iv_ar_22, iv_ar_23, iv_ar_25, iv_ar_26, iv_ar_27, iv_ar_28, iv_ar_31, iv_ar_32, iv_ar_34, iv_ar_35, iv_ar_36, iv_ar_38, iv_ar_39, iv_ar_40, iv_ar_41, iv_ar_42, iv_ar_43, iv_ar_44, iv_ar_45, iv_ar_46, iv_ar_47, iv_ar_48, iv_ar_49, iv_ar_5, iv_ar_50, iv_ar_51, iv_ar_52, iv_ar_53, iv_ar_54, iv_ar_55, iv_ar_56, iv_ar_6, iv_ar_7, iv_ar_8, iv_ar_9, iv_cls_0, iv_cls_12, iv_cls_18, iv_cls_24, iv_cls_29, iv_cls_3, iv_cls_30, iv_cls_33, iv_cls_37, iv_cls_4, z_cl (show i < 2 ^ 31 by omega), z_in (show i < 6 by omega) (by decide), z_cl (show R.length < 2 ^ 31 by omega), z_in (show R.length < 6 by omega) (by decide), vp1]
      refine ⟨_, ct_distC (show i < 6 by omega) _ _, ?_⟩
      rintro r1 σ2 ⟨rfl, hs2⟩
      subst hs2
      simp only [iv_u_ne, iv_u_eq, ne_eq, Nat.reduceEqDiff, not_false_eq_true, e5, e6, nI_1, true_and]
      have t := hT i hi
      have ed := vD_val (xs := xs) (ys := ys) t.1 t.2 hx hy
      have hx' := hx
      have hy' := hy
      obtain ⟨x1, x2⟩ := hx'
      obtain ⟨y1, y2⟩ := hy'
      obtain ⟨⟨a1, a2⟩, ⟨b1, b2⟩⟩ := t
      have el : (len + vD xs ys i x y).toInt = len.toInt + (vD xs ys i x y).toInt := z_add (by omega) (by omega)
      have hlen : (R ++ [i]).length = R.length + 1 := by simp
      have hcall := ih (e + 2) (iv_u (iv_u σ1 26 i 1) 27 R.length (nI i)) (R ++ [i]) (fun q => V q || decide (q = i)) (xs i) (ys i) (ld + sp i) (len + vD xs ys i x y) B' (by omega)
        (by rw [iv_u_ne (by decide), iv_u_ne (by decide), f2 6 (by decide) (by decide)]; exact hst) (by rw [hlen]; omega)
        (by rw [iv_u_ne (by decide), iv_u_ne (by decide)]; exact e4)
        (fun c hc => by rw [iv_u_ne (by decide), iv_u_ne (by decide), f1 25 (by decide) (by decide) (by decide)]; exact h25 c hc)
        (fun c hc => by rw [iv_u_ne (by decide), iv_u_ne (by decide), f1 5 (by decide) (by decide) (by decide)]; exact h5 c hc)
        (fun c hc => by rw [iv_u_ne (by decide), iv_u_ne (by decide), f1 6 (by decide) (by decide) (by decide)]; exact h6 c hc)
        (by rw [iv_u_ne (by decide), iv_u_ne (by decide)]; exact evan) (hT i hi).1 (hT i hi).2 (by omega) (by omega)
        (fun c hc => by
          rw [iv_u_ne (by decide), iv_u_eq]
          by_cases hci : c = i
          · subst hci; simp [upd_same, zb]
          · rw [upd_ne hci, f1 26 (by decide) (by decide) (by decide), hV c hc]; simp [hci])
        (fun j c hj => by
          rw [iv_u_eq]
          by_cases hjr : j < R.length
          · rw [upd_ne (by omega), iv_u_ne (by decide), f3 j hjr]
            rw [List.getElem?_append_left hjr] at hj
            exact hR j c hj
          · have hjl := (List.getElem?_eq_some_iff.mp hj).1
            have : j = R.length := by rw [hlen] at hjl; omega
            subst this
            rw [List.getElem?_append_right (Nat.le_refl _), Nat.sub_self] at hj
            cases hj
            rw [upd_same])
        (vRep_same f4 (by rw [iv_u_ne (by decide), iv_u_ne (by decide)]) (by rw [iv_u_ne (by decide), iv_u_ne (by decide)]))
      rw [hlen] at hcall
      refine ⟨_, hcall, ?_⟩
      rintro r2 u ⟨g1, g2, g3, g4⟩
      simp only [vp0]
      refine ihi _ (f i B') _ _ ?_ ?_ ?_ ?_ f5
      · intro q q1 q2 q3
        by_cases h26 : q = 26
        · subst h26
          rw [iv_u_eq, g1 26 q1 q2 q3, iv_u_ne (by decide), iv_u_eq, ← f1 26 q1 q2 q3]
          funext t
          by_cases ht : t = i
          · subst ht; rw [upd_same, e26, h3]; rfl
          · rw [upd_ne ht, upd_ne ht]
        · rw [iv_u_ne h26, g1 q q1 q2 q3, iv_u_ne q2, iv_u_ne h26]
          exact f1 q q1 q2 q3
      · intro j j1 j2
        rw [iv_u_ne (by decide), g2 j j1 j2, iv_u_ne (by decide), iv_u_ne (by decide)]
        exact f2 j j1 j2
      · intro j hj
        rw [iv_u_ne (by decide), g3 j (by omega), iv_u_eq, upd_ne (by omega), iv_u_ne (by decide)]
        exact f3 j hj
      · rw [hfi]
        exact vRep_same g4 (by rw [iv_u_ne (by decide)]) (by rw [iv_u_ne (by decide)])
end YD
