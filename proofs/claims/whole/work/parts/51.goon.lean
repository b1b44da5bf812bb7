def vRepM (st : Nat) (σ : iv_S) (B : vB) : Prop := match B with
  | none => σ 37 29 = -1
  | some q => σ 37 29 = q.1 ∧ 0 ≤ q.1.toInt ∧ q.2.length = st ∧ ∀ i c, q.2[i]? = some c → σ 56 i = nI c
def vQM (st n : Nat) (σ : iv_S) (F : vB) (_ : Int32) (u : iv_S) : Prop :=
  (∀ q, q ≠ 37 → q ≠ 55 → q ≠ 56 → u q = σ q) ∧ (∀ j, j ≠ 29 → u 37 j = σ 37 j) ∧ (∀ i, i < n → u 55 i = σ 55 i) ∧ vRepM st u F
theorem vRepM_same {st : Nat} {σ τ : iv_S} {B : vB} (h : vRepM st σ B) (h1 : τ 37 = σ 37) (h2 : τ 56 = σ 56) : vRepM st τ B := by
  unfold vRepM at h ⊢
  rw [h1, h2]
  exact h
section YE
variable {X : iv_X}
set_option maxRecDepth 20000 in
set_option maxHeartbeats 4000000 in
theorem ct_gleaf {L st nc : Nat} {σ : iv_S} {sp xs ys : Nat → Int32} {van : Int32} {R : List Nat} {V : Nat → Bool} {x y ld len : Int32} {B : vB} {a : Nat} (hst6 : st ≤ 6) (hk : R.length = st) (hx : zT x) (hy : zT y) (h0 : 0 ≤ len.toInt) (h1 : len.toInt ≤ 100000) (hR : ∀ i c, R[i]? = some c → σ 55 i = nI c) (hB : vRepM st σ B) :
    iv_Ct X mX7_goOn (L + 1) [.inl 37, .inr (nI R.length), .inr (nI a), .inr x, .inr y, .inr ld, .inr len, .inr (nI a)] σ (vQM st R.length σ (vS nc sp xs ys van 0 V R x y ld len B)) := by
  generalize hF : vS nc sp xs ys van 0 V R x y ld len B = F
  simp only [vS] at hF
  have hx' := hx
  have hy' := hy
  obtain ⟨x1, x2⟩ := hx'
  obtain ⟨y1, y2⟩ := hy'
  have e1 : (len + x).toInt = len.toInt + x.toInt := z_add (by omega) (by omega)
  have e2 : (len + x + y).toInt = len.toInt + x.toInt + y.toInt := by rw [z_add (by omega) (by omega), e1]
  refine iv_ctl (own := RX7) (b := tbX7) (ls := [some (.inl 37), some (.inr (nI R.length)), some (.inr (nI a)), some (.inr x), some (.inr y), some (.inr ld), some (.inr len), some (.inr (nI a)), none, none, none, none]) (plainFor_of_name (by decide)) rfl okX7 (Nat.le_of_ble_eq_true rfl) rfl ?_
  have hput : vU B (len + x + y) R = some (len + x + y, R) → iv_Sf X L mX7_goOn tbX7 (vQM st R.length σ F) 32 [some (.inl 37), some (.inr (nI R.length)), some (.inr (nI a)), some (.inr x), some (.inr y), some (.inr ld), some (.inr len), some (.inr (nI a)), some (.inr (len + x + y)), none, none, none] [] σ := by
    intro hu
    rw [hF] at hu
    subst hu
    have key := z_down (n := R.length) (P := fun i => ∀ (τ : iv_S), (∀ q, q ≠ 37 → q ≠ 56 → τ q = σ q) → (τ 37 = upd (σ 37) 29 (len + x + y)) → (τ 56 = fun t => if t < i then σ 55 t else σ 56 t) → iv_Sf X L mX7_goOn tbX7 (vQM st R.length σ (some (len + x + y, R))) 41 [some (.inl 37), some (.inr (nI R.length)), some (.inr (nI a)), some (.inr x), some (.inr y), some (.inr ld), some (.inr len), some (.inr (nI a)), some (.inr (len + x + y)), some (.inr (nI i)), none, none] [] τ) ?_ ?_
    · refine iv_blk [41] 60 ?_
      simp only [iv_sn, ie_cl0, ie_cl1, ie_cl2, ie_cl3, ie_cl4, ie_cl5, ie_cl6, ie_cl7, ie_cl8, ie_v5_0, ie_v5_1, ie_v5_2, ie_v5_3, ie_v5_4, ie_v6_0, ie_v8_0, ie_v12_0, ie_v24_0, ie_v30_0, ie_v3380_0, true_implies, false_implies, not_true_eq_false, implies_true, ie_10, ie_m10, ie_mm, iv_u_eq, iv_u_ne, Nat.reduceEqDiff, ie_p1, ie_p2, ie_pr, ie_pa, ie_ps, ie_d1, ie_d2, ie_r1, ie_o, ie_gr, ie_gi, ie_pt, ie_pf, ie_ri, ie_rz, ie_br, ie_c1eq, ie_c1ne, ie_c1lt, ie_c1ge, ie_c1gt, ie_c1le, ie_c2eq, ie_c2ne, ie_c2lt, ie_c2ge, ie_c2gt, ie_c2le, ie_fn0, ie_fn1, ie_fn2, ie_fn3, Nat.reduceAdd, ie_nc, Int.reduceAdd, Int.reduceLE, Int.reduceToNat, Nat.reduceLT, Nat.reduceLeDiff, Int.reduceNeg, eq_self, true_and, and_true, true_or, or_true, Nat.reduceBEq, List.elem_cons, List.elem_nil, Bool.or_false, Bool.false_or, Bool.or_true, Bool.true_or, Bool.false_eq_true, if_false, if_true, reduceIte, reduceCtorEq, ne_eq, not_false_eq_true, Classical.not_not, List.length_cons, List.length_nil, Nat.zero_le, List.map_cons, List.map_nil, List.cons_append, List.nil_append, List.replicate_succ, List.replicate_zero, Nat.reduceSub, sX7_goOn_32, sX7_goOn_33, sX7_goOn_35, sX7_goOn_38, sX7_goOn_39, gfX7_153_37, ie_i0, ie_li8, ie_li9, ie_lr0, ie_ls9]
      refine key _ ?_ ?_ ?_
      · intro q q1 q2
        rw [iv_u_ne q1]
      · rw [iv_u_eq]
      · rw [iv_u_ne (by decide)]
        simp
    · intro τ f1 f2 f3
      refine iv_blk [41] 60 ?_
      simp only [iv_sn, ie_cl0, ie_cl1, ie_cl2, ie_cl3, ie_cl4, ie_cl5, ie_cl6, ie_cl7, ie_cl8, ie_v5_0, ie_v5_1, ie_v5_2, ie_v5_3, ie_v5_4, ie_v6_0, ie_v8_0, ie_v12_0, ie_v24_0, ie_v30_0, ie_v3380_0, true_implies, false_implies, not_true_eq_false, implies_true, ie_10, ie_m10, ie_mm, iv_u_eq, iv_u_ne, Nat.reduceEqDiff, ie_p1, ie_p2, ie_pr, ie_pa, ie_ps, ie_d1, ie_d2, ie_r1, ie_o, ie_gr, ie_gi, ie_pt, ie_pf, ie_ri, ie_rz, ie_br, ie_c1eq, ie_c1ne, ie_c1lt, ie_c1ge, ie_c1gt, ie_c1le, ie_c2eq, ie_c2ne, ie_c2lt, ie_c2ge, ie_c2gt, ie_c2le, ie_fn0, ie_fn1, ie_fn2, ie_fn3, Nat.reduceAdd, ie_nc, Int.reduceAdd, Int.reduceLE, Int.reduceToNat, Nat.reduceLT, Nat.reduceLeDiff, Int.reduceNeg, eq_self, true_and, and_true, true_or, or_true, Nat.reduceBEq, List.elem_cons, List.elem_nil, Bool.or_false, Bool.false_or, Bool.or_true, Bool.true_or, Bool.false_eq_true, if_false, if_true, reduceIte, reduceCtorEq, ne_eq, not_false_eq_true, Classical.not_not, List.length_cons, List.length_nil, Nat.zero_le, List.map_cons, List.map_nil, List.cons_append, List.nil_append, List.replicate_succ, List.replicate_zero, Nat.reduceSub, sX7_goOn_41, sX7_goOn_43, sX7_goOn_44, sX7_goOn_47, sX7_goOn_48, sX7_goOn_51, sX7_goOn_53, sX7_goOn_54, sX7_goOn_57, sX7_goOn_59, sX7_goOn_60, sX7_goOn_61, sX7_goOn_64, sX7_goOn_67, gfX7_62_37, gfX7_65_37, ie_i1, ie_li1, ie_li9, ie_lr0, ie_ls9, iv_ar_1, iv_ar_10, iv_ar_11, iv_ar_13, iv_ar_14, iv_ar_15, iv_ar_16, iv_ar_17, iv_ar_19, iv_ar_2, iv_ar_20, iv_ar_21, iv_ar_22, iv_ar_23, iv_ar_25, iv_ar_26, iv_ar_27, iv_ar_28, iv_ar_31, iv_ar_32, iv_ar_34, iv_ar_35, iv_ar_36, iv_ar_38, iv_ar_39, iv_ar_40, iv_ar_41, iv_ar_42, iv_ar_43, iv_ar_44, iv_ar_45, iv_ar_46, iv_ar_47, iv_ar_48, iv_ar_49, iv_ar_5, iv_ar_50, iv_ar_51, iv_ar_52, iv_ar_53, iv_ar_54, iv_ar_55, iv_ar_56, iv_ar_6, iv_ar_7, iv_ar_8, iv_ar_9]
      refine ⟨fun _ => ⟨fun q q1 q2 q3 => f1 q q1 q3, fun j hj => by rw [f2, upd_ne hj], fun i _ => by rw [f1 55 (by decide) (by decide)], ?_, ?_, hk, ?_⟩, fun h => absurd (z_nn (by omega)) h⟩
      · rw [f2, upd_same]
      · show 0 ≤ (len + x + y).toInt
        omega
      · intro i c hi
        have hl := (List.getElem?_eq_some_iff.mp hi).1
        dsimp only at hl
        rw [f3]
        simp only [hl, if_true]
        exact hR i c hi
    · intro i hi ih τ f1 f2 f3
      have e55 := f1 55 (by decide) (by decide)
      refine iv_blk [41] 60 ?_
      simp only [iv_sn, ie_cl0, ie_cl1, ie_cl2, ie_cl3, ie_cl4, ie_cl5, ie_cl6, ie_cl7, ie_cl8, ie_v5_0, ie_v5_1, ie_v5_2, ie_v5_3, ie_v5_4, ie_v6_0, ie_v8_0, ie_v12_0, ie_v24_0, ie_v30_0, ie_v3380_0, true_implies, false_implies, not_true_eq_false, implies_true, ie_10, ie_m10, ie_mm, iv_u_eq, iv_u_ne, Nat.reduceEqDiff, ie_p1, ie_p2, ie_pr, ie_pa, ie_ps, ie_d1, ie_d2, ie_r1, ie_o, ie_gr, ie_gi, ie_pt, ie_pf, ie_ri, ie_rz, ie_br, ie_c1eq, ie_c1ne, ie_c1lt, ie_c1ge, ie_c1gt, ie_c1le, ie_c2eq, ie_c2ne, ie_c2lt, ie_c2ge, ie_c2gt, ie_c2le, ie_fn0, ie_fn1, ie_fn2, ie_fn3, Nat.reduceAdd, ie_nc, Int.reduceAdd, Int.reduceLE, Int.reduceToNat, Nat.reduceLT, Nat.reduceLeDiff, Int.reduceNeg, eq_self, true_and, and_true, true_or, or_true, Nat.reduceBEq, List.elem_cons, List.elem_nil, Bool.or_false, Bool.false_or, Bool.or_true, Bool.true_or, Bool.false_eq_true, if_false, if_true, reduceIte, reduceCtorEq, ne_eq, not_false_eq_true, Classical.not_not, List.length_cons, List.length_nil, Nat.zero_le, List.map_cons, List.map_nil, List.cons_append, List.nil_append, List.replicate_succ, List.replicate_zero, Nat.reduceSub, sX7_goOn_41, sX7_goOn_43, sX7_goOn_44, sX7_goOn_47, sX7_goOn_48, sX7_goOn_51, sX7_goOn_53, sX7_goOn_54, sX7_goOn_57, sX7_goOn_59, sX7_goOn_60, sX7_goOn_61, sX7_goOn_64, sX7_goOn_67, gfX7_62_37, gfX7_65_37, ie_i1, ie_li1, ie_li9, ie_lr0, ie_ls9, iv_ar_1, iv_ar_10, iv_ar_11, iv_ar_13, iv_ar_14, iv_ar_15, iv_ar_16, iv_ar_17, iv_ar_19, iv_ar_2, iv_ar_20, iv_ar_21, iv_ar_22, iv_ar_23, iv_ar_25, iv_ar_26, iv_ar_27, iv_ar_28, iv_ar_31, iv_ar_32, iv_ar_34, iv_ar_35, iv_ar_36, iv_ar_38, iv_ar_39, iv_ar_40, iv_ar_41, iv_ar_42, iv_ar_43, iv_ar_44, iv_ar_45, iv_ar_46, iv_ar_47, iv_ar_48, iv_ar_49, iv_ar_5, iv_ar_50, iv_ar_51, iv_ar_52, iv_ar_53, iv_ar_54, iv_ar_55, iv_ar_56, iv_ar_6, iv_ar_7, iv_ar_8, iv_ar_9, e55, nI_1, z_cl (show i < 2 ^ 31 by omega), z_in (show i < 6 by omega) (by decide)]
      refine ⟨fun h => absurd h (nI_ge hi (by omega)), fun _ => ih _ ?_ ?_ ?_⟩
      · intro q q1 q2
        rw [iv_u_ne q2]
        exact f1 q q1 q2
      · rw [iv_u_ne (by decide)]; exact f2
      · rw [iv_u_eq, f3]
        funext t
        by_cases ht : t = i
        · subst ht; simp [upd_same]
        · rw [upd_ne ht]
          by_cases h2 : t < i
          · simp [h2, show t < i + 1 by omega]
          · simp [h2, show ¬ t < i + 1 by omega]
  refine iv_blk [32] 60 ?_
  simp only [iv_sn, ie_cl0, ie_cl1, ie_cl2, ie_cl3, ie_cl4, ie_cl5, ie_cl6, ie_cl7, ie_cl8, ie_v5_0, ie_v5_1, ie_v5_2, ie_v5_3, ie_v5_4, ie_v6_0, ie_v8_0, ie_v12_0, ie_v24_0, ie_v30_0, ie_v3380_0, true_implies, false_implies, not_true_eq_false, implies_true, ie_10, ie_m10, ie_mm, iv_u_eq, iv_u_ne, Nat.reduceEqDiff, ie_p1, ie_p2, ie_pr, ie_pa, ie_ps, ie_d1, ie_d2, ie_r1, ie_o, ie_gr, ie_gi, ie_pt, ie_pf, ie_ri, ie_rz, ie_br, ie_c1eq, ie_c1ne, ie_c1lt, ie_c1ge, ie_c1gt, ie_c1le, ie_c2eq, ie_c2ne, ie_c2lt, ie_c2ge, ie_c2gt, ie_c2le, ie_fn0, ie_fn1, ie_fn2, ie_fn3, Nat.reduceAdd, ie_nc, Int.reduceAdd, Int.reduceLE, Int.reduceToNat, Nat.reduceLT, Nat.reduceLeDiff, Int.reduceNeg, eq_self, true_and, and_true, true_or, or_true, Nat.reduceBEq, List.elem_cons, List.elem_nil, Bool.or_false, Bool.false_or, Bool.or_true, Bool.true_or, Bool.false_eq_true, if_false, if_true, reduceIte, reduceCtorEq, ne_eq, not_false_eq_true, Classical.not_not, List.length_cons, List.length_nil, Nat.zero_le, List.map_cons, List.map_nil, List.cons_append, List.nil_append, List.replicate_succ, List.replicate_zero, Nat.reduceSub, sX7_goOn_0, sX7_goOn_1, sX7_goOn_3, sX7_goOn_6, sX7_goOn_8, sX7_goOn_9, sX7_goOn_10, sX7_goOn_12, sX7_goOn_13, sX7_goOn_15, sX7_goOn_16, sX7_goOn_19, sX7_goOn_22, sX7_goOn_24, sX7_goOn_25, sX7_goOn_28, sX7_goOn_31, gfX7_153_37, ie_li2, ie_li3, ie_li4, ie_li6, ie_li7, ie_li8, ie_lr0, ie_ls8]
  cases B with
  | none =>
    have hb : σ 37 29 = -1 := hB
    rw [hb]
    refine ⟨fun _ => hput rfl, fun h => absurd (by decide) h⟩
  | some q =>
    obtain ⟨b1, b2, b3, b4⟩ := hB
    rw [b1]
    refine ⟨fun h => ?_, fun _ => ⟨fun h => hput (vU_lt h), fun h => ?_⟩⟩
    · rw [z_lt] at h
      have h00 : (0 : Int32).toInt = 0 := rfl
      omega
    · rw [vU_ge h] at hF
      subst hF
      exact ⟨fun _ _ _ _ => rfl, fun _ _ => rfl, fun _ _ => rfl, b1, b2, b3, b4⟩
set_option maxRecDepth 20000 in
set_option maxHeartbeats 4000000 in
theorem ct_m_goOn {nc st np a : Nat} {sp xs ys : Nat → Int32} {van : Int32} (hst6 : st ≤ 6) (hnc : nc ≤ 6) (hnp : np ≤ 30) (ha : a < 64) (hab : ∀ c, c < nc → a.testBit c = !decide (sp c = 0)) (hab2 : ∀ c, nc ≤ c → a.testBit c = false) (hT : ∀ c, c < nc → zT (xs c) ∧ zT (ys c)) : ∀ (k L : Nat) (σ : iv_S) (R : List Nat) (v : Nat) (x y ld len : Int32) (B : vB), k + 3 ≤ L →
    zc (fun c => a.testBit c && !v.testBit c) 6 = k → v < 64 → (∀ c, v.testBit c = true → a.testBit c = true) → R.length + k = st → σ 37 1 = nI nc → σ 37 6 = nI np → (∀ c, c < nc → nI (zc (fun p => decide (σ 41 p = nI c)) np) - σ 38 (7 * c + 6) = sp c) → (∀ c, c < nc → σ 38 (7 * c) = xs c) → (∀ c, c < nc → σ 38 (7 * c + 1) = ys c) → σ 43 4 = van → zT x → zT y → 0 ≤ len.toInt → len.toInt + 400 * k ≤ 100000 → (∀ i c, R[i]? = some c → σ 55 i = nI c) → vRepM st σ B →
    iv_Ct X mX7_goOn (L + 1) [.inl 37, .inr (nI R.length), .inr (nI v), .inr x, .inr y, .inr ld, .inr len, .inr (nI a)] σ (vQM st R.length σ (vS nc sp xs ys van k (fun c => v.testBit c) R x y ld len B)) := by
  intro k
  induction k with
  | zero =>
    intro L σ R v x y ld len B hL hz hv hsub hk hn hp h25 h5 h6 hvan hx hy h0 h1 hR hB
    have hva : v = a := by
      refine (vm_eq ha hv (fun c hc => ?_)).symm
      have := zc_zero hz c hc
      cases h1 : v.testBit c with
      | true => exact hsub c h1
      | false => rw [h1] at this; simpa using this
    subst hva
    exact ct_gleaf hst6 (by omega) hx hy h0 (by omega) hR hB
  | succ k ih =>
    intro L σ R v x y ld len B hL hz hv hsub hk hn hp h25 h5 h6 hvan hx hy h0 h1 hR hB
    have hva : ¬ nI v = nI a := by
      rw [nI_eq (by omega) (by omega)]
      intro e
      subst e
      rw [zc_none (fun c _ => by cases v.testBit c <;> rfl)] at hz
      omega
    obtain ⟨e, rfl⟩ : ∃ e, L = e + 4 := ⟨L - 4, by omega⟩
    generalize hF : vS nc sp xs ys van (k + 1) (fun c => v.testBit c) R x y ld len B = F
    simp only [vS] at hF
    generalize hf : (fun c B' => if vG sp van (fun c => v.testBit c) ld c then vS nc sp xs ys van k (fun q => v.testBit q || decide (q = c)) (R ++ [c]) (xs c) (ys c) (ld + sp c) (len + vD xs ys c x y) B' else B') = f at hF
    refine iv_ctl (own := RX7) (b := tbX7) (ls := [some (.inl 37), some (.inr (nI R.length)), some (.inr (nI v)), some (.inr x), some (.inr y), some (.inr ld), some (.inr len), some (.inr (nI a)), none, none, none, none]) (plainFor_of_name (by decide)) rfl okX7 (Nat.le_of_ble_eq_true rfl) rfl ?_
    refine iv_blk [6, 71] 30 ?_
    simp only [iv_sn, ie_cl0, ie_cl1, ie_cl2, ie_cl3, ie_cl4, ie_cl5, ie_cl6, ie_cl7, ie_cl8, ie_v5_0, ie_v5_1, ie_v5_2, ie_v5_3, ie_v5_4, ie_v6_0, ie_v8_0, ie_v12_0, ie_v24_0, ie_v30_0, ie_v3380_0, true_implies, false_implies, not_true_eq_false, implies_true, ie_10, ie_m10, ie_mm, iv_u_eq, iv_u_ne, Nat.reduceEqDiff, ie_p1, ie_p2, ie_pr, ie_pa, ie_ps, ie_d1, ie_d2, ie_r1, ie_o, ie_gr, ie_gi, ie_pt, ie_pf, ie_ri, ie_rz, ie_br, ie_c1eq, ie_c1ne, ie_c1lt, ie_c1ge, ie_c1gt, ie_c1le, ie_c2eq, ie_c2ne, ie_c2lt, ie_c2ge, ie_c2gt, ie_c2le, ie_fn0, ie_fn1, ie_fn2, ie_fn3, Nat.reduceAdd, ie_nc, Int.reduceAdd, Int.reduceLE, Int.reduceToNat, Nat.reduceLT, Nat.reduceLeDiff, Int.reduceNeg, eq_self, true_and, and_true, true_or, or_true, Nat.reduceBEq, List.elem_cons, List.elem_nil, Bool.or_false, Bool.false_or, Bool.or_true, Bool.true_or, Bool.false_eq_true, if_false, if_true, reduceIte, reduceCtorEq, ne_eq, not_false_eq_true, Classical.not_not, List.length_cons, List.length_nil, Nat.zero_le, List.map_cons, List.map_nil, List.cons_append, List.nil_append, List.replicate_succ, List.replicate_zero, Nat.reduceSub, sX7_goOn_0, sX7_goOn_1, sX7_goOn_3, ie_li2, ie_li7, iv_sn, ie_cl0, ie_cl1, ie_cl2, ie_cl3, ie_cl4, ie_cl5, ie_cl6, ie_cl7, ie_cl8, ie_v5_0, ie_v5_1, ie_v5_2, ie_v5_3, ie_v5_4, ie_v6_0, ie_v8_0, ie_v12_0, ie_v24_0, ie_v30_0, ie_v3380_0, true_implies, false_implies, not_true_eq_false, implies_true, ie_10, ie_m10, ie_mm, iv_u_eq, iv_u_ne, Nat.reduceEqDiff, ie_p1, ie_p2, ie_pr, ie_pa, ie_ps, ie_d1, ie_d2, ie_r1, ie_o, ie_gr, ie_gi, ie_pt, ie_pf, ie_ri, ie_rz, ie_br, ie_c1eq, ie_c1ne, ie_c1lt, ie_c1ge, ie_c1gt, ie_c1le, ie_c2eq, ie_c2ne, ie_c2lt, ie_c2ge, ie_c2gt, ie_c2le, ie_fn0, ie_fn1, ie_fn2, ie_fn3, Nat.reduceAdd, ie_nc, Int.reduceAdd, Int.reduceLE, Int.reduceToNat, Nat.reduceLT, Nat.reduceLeDiff, Int.reduceNeg, eq_self, true_and, and_true, true_or, or_true, Nat.reduceBEq, List.elem_cons, List.elem_nil, Bool.or_false, Bool.false_or, Bool.or_true, Bool.true_or, Bool.false_eq_true, if_false, if_true, reduceIte, reduceCtorEq, ne_eq, not_false_eq_true, Classical.not_not, List.length_cons, List.length_nil, Nat.zero_le, List.map_cons, List.map_nil, List.cons_append, List.nil_append, List.replicate_succ, List.replicate_zero, Nat.reduceSub, sX7_goOn_68, sX7_goOn_69, ie_i0, ie_li8, ie_ls8]
    refine ⟨fun _ => ?_, fun h => absurd h hva⟩
    have key := z_down (n := nc) (P := fun i => ∀ (τ : iv_S) (B' : vB) (v9 v10 v11 : Option iv_V), (∀ q, q ≠ 37 → q ≠ 55 → q ≠ 56 → τ q = σ q) → (∀ j, j ≠ 29 → τ 37 j = σ 37 j) → (∀ i, i < R.length → τ 55 i = σ 55 i) → vRepM st τ B' → vL f i (nc - i) B' = F →
      iv_Sf X (e + 4) mX7_goOn tbX7 (vQM st R.length σ F) 71 [some (.inl 37), some (.inr (nI R.length)), some (.inr (nI v)), some (.inr x), some (.inr y), some (.inr ld), some (.inr len), some (.inr (nI a)), some (.inr (nI i)), v9, v10, v11] [] τ) ?_ ?_
    · exact key σ B _ _ _ (fun _ _ _ _ => rfl) (fun _ _ => rfl) (fun _ _ => rfl) hB (by rw [Nat.sub_zero]; exact hF)
    · intro τ B' v9 v10 v11 f1 f2 f3 f4 f5
      rw [Nat.sub_self] at f5
      have e4 : τ 37 1 = nI nc := by rw [f2 1 (by decide)]; exact hn
      refine iv_blk [71] 60 ?_
      simp only [iv_sn, ie_cl0, ie_cl1, ie_cl2, ie_cl3, ie_cl4, ie_cl5, ie_cl6, ie_cl7, ie_cl8, ie_v5_0, ie_v5_1, ie_v5_2, ie_v5_3, ie_v5_4, ie_v6_0, ie_v8_0, ie_v12_0, ie_v24_0, ie_v30_0, ie_v3380_0, true_implies, false_implies, not_true_eq_false, implies_true, ie_10, ie_m10, ie_mm, iv_u_eq, iv_u_ne, Nat.reduceEqDiff, ie_p1, ie_p2, ie_pr, ie_pa, ie_ps, ie_d1, ie_d2, ie_r1, ie_o, ie_gr, ie_gi, ie_pt, ie_pf, ie_ri, ie_rz, ie_br, ie_c1eq, ie_c1ne, ie_c1lt, ie_c1ge, ie_c1gt, ie_c1le, ie_c2eq, ie_c2ne, ie_c2lt, ie_c2ge, ie_c2gt, ie_c2le, ie_fn0, ie_fn1, ie_fn2, ie_fn3, Nat.reduceAdd, ie_nc, Int.reduceAdd, Int.reduceLE, Int.reduceToNat, Nat.reduceLT, Nat.reduceLeDiff, Int.reduceNeg, eq_self, true_and, and_true, true_or, or_true, Nat.reduceBEq, List.elem_cons, List.elem_nil, Bool.or_false, Bool.false_or, Bool.or_true, Bool.true_or, Bool.false_eq_true, if_false, if_true, reduceIte, reduceCtorEq, ne_eq, not_false_eq_true, Classical.not_not, List.length_cons, List.length_nil, Nat.zero_le, List.map_cons, List.map_nil, List.cons_append, List.nil_append, List.replicate_succ, List.replicate_zero, Nat.reduceSub, sX7_goOn_71, sX7_goOn_73, sX7_goOn_74, sX7_goOn_77, gfX7_72_37, ie_li8, ie_lr0, iv_sn, ie_cl0, ie_cl1, ie_cl2, ie_cl3, ie_cl4, ie_cl5, ie_cl6, ie_cl7, ie_cl8, ie_v5_0, ie_v5_1, ie_v5_2, ie_v5_3, ie_v5_4, ie_v6_0, ie_v8_0, ie_v12_0, ie_v24_0, ie_v30_0, ie_v3380_0, true_implies, false_implies, not_true_eq_false, implies_true, ie_10, ie_m10, ie_mm, iv_u_eq, iv_u_ne, Nat.reduceEqDiff, ie_p1, ie_p2, ie_pr, ie_pa, ie_ps, ie_d1, ie_d2, ie_r1, ie_o, ie_gr, ie_gi, ie_pt, ie_pf, ie_ri, ie_rz, ie_br, ie_c1eq, ie_c1ne, ie_c1lt, ie_c1ge, ie_c1gt, ie_c1le, ie_c2eq, ie_c2ne, ie_c2lt, ie_c2ge, ie_c2gt, ie_c2le, ie_fn0, ie_fn1, ie_fn2, ie_fn3, Nat.reduceAdd, ie_nc, Int.reduceAdd, Int.reduceLE, Int.reduceToNat, Nat.reduceLT, Nat.reduceLeDiff, Int.reduceNeg, eq_self, true_and, and_true, true_or, or_true, Nat.reduceBEq, List.elem_cons, List.elem_nil, Bool.or_false, Bool.false_or, Bool.or_true, Bool.true_or, Bool.false_eq_true, if_false, if_true, reduceIte, reduceCtorEq, ne_eq, not_false_eq_true, Classical.not_not, List.length_cons, List.length_nil, Nat.zero_le, List.map_cons, List.map_nil, List.cons_append, List.nil_append, List.replicate_succ, List.replicate_zero, Nat.reduceSub, sX7_goOn_220, e4]
      refine ⟨fun _ => ⟨f1, f2, f3, ?_⟩, fun h => absurd (z_nn (by omega)) h⟩
      rw [← f5]
      exact f4
    · intro i hi ihi τ B' v9 v10 v11 f1 f2 f3 f4 f5
      rw [show nc - i = (nc - (i + 1)) + 1 by omega] at f5
      simp only [vL] at f5
      have e4 : τ 37 1 = nI nc := by rw [f2 1 (by decide)]; exact hn
      have e38 := f1 38 (by decide) (by decide) (by decide)
      have e41 := f1 41 (by decide) (by decide) (by decide)
      have e43 := f1 43 (by decide) (by decide) (by decide)
      have hskip : vG sp van (fun c => v.testBit c) ld i = false → ∀ w9 w10 w11, iv_Sf X (e + 4) mX7_goOn tbX7 (vQM st R.length σ F) 214 [some (.inl 37), some (.inr (nI R.length)), some (.inr (nI v)), some (.inr x), some (.inr y), some (.inr ld), some (.inr len), some (.inr (nI a)), some (.inr (nI i)), w9, w10, w11] [] τ := by
        intro hg w9 w10 w11
        have hfi : f i B' = B' := by rw [← hf]; simp only [hg, Bool.false_eq_true, if_false]
        rw [hfi] at f5
        refine iv_blk [71] 60 ?_
        simp only [iv_sn, ie_cl0, ie_cl1, ie_cl2, ie_cl3, ie_cl4, ie_cl5, ie_cl6, ie_cl7, ie_cl8, ie_v5_0, ie_v5_1, ie_v5_2, ie_v5_3, ie_v5_4, ie_v6_0, ie_v8_0, ie_v12_0, ie_v24_0, ie_v30_0, ie_v3380_0, true_implies, false_implies, not_true_eq_false, implies_true, ie_10, ie_m10, ie_mm, iv_u_eq, iv_u_ne, Nat.reduceEqDiff, ie_p1, ie_p2, ie_pr, ie_pa, ie_ps, ie_d1, ie_d2, ie_r1, ie_o, ie_gr, ie_gi, ie_pt, ie_pf, ie_ri, ie_rz, ie_br, ie_c1eq, ie_c1ne, ie_c1lt, ie_c1ge, ie_c1gt, ie_c1le, ie_c2eq, ie_c2ne, ie_c2lt, ie_c2ge, ie_c2gt, ie_c2le, ie_fn0, ie_fn1, ie_fn2, ie_fn3, Nat.reduceAdd, ie_nc, Int.reduceAdd, Int.reduceLE, Int.reduceToNat, Nat.reduceLT, Nat.reduceLeDiff, Int.reduceNeg, eq_self, true_and, and_true, true_or, or_true, Nat.reduceBEq, List.elem_cons, List.elem_nil, Bool.or_false, Bool.false_or, Bool.or_true, Bool.true_or, Bool.false_eq_true, if_false, if_true, reduceIte, reduceCtorEq, ne_eq, not_false_eq_true, Classical.not_not, List.length_cons, List.length_nil, Nat.zero_le, List.map_cons, List.map_nil, List.cons_append, List.nil_append, List.replicate_succ, List.replicate_zero, Nat.reduceSub, sX7_goOn_214, sX7_goOn_217, ie_i1, ie_li8, ie_ls8, nI_1]
        exact ihi τ B' _ _ _ f1 f2 f3 f4 f5
      refine iv_blk [71, 103, 214] 60 ?_
      simp only [iv_sn, ie_cl0, ie_cl1, ie_cl2, ie_cl3, ie_cl4, ie_cl5, ie_cl6, ie_cl7, ie_cl8, ie_v5_0, ie_v5_1, ie_v5_2, ie_v5_3, ie_v5_4, ie_v6_0, ie_v8_0, ie_v12_0, ie_v24_0, ie_v30_0, ie_v3380_0, true_implies, false_implies, not_true_eq_false, implies_true, ie_10, ie_m10, ie_mm, iv_u_eq, iv_u_ne, Nat.reduceEqDiff, ie_p1, ie_p2, ie_pr, ie_pa, ie_ps, ie_d1, ie_d2, ie_r1, ie_o, ie_gr, ie_gi, ie_pt, ie_pf, ie_ri, ie_rz, ie_br, ie_c1eq, ie_c1ne, ie_c1lt, ie_c1ge, ie_c1gt, ie_c1le, ie_c2eq, ie_c2ne, ie_c2lt, ie_c2ge, ie_c2gt, ie_c2le, ie_fn0, ie_fn1, ie_fn2, ie_fn3, Nat.reduceAdd, ie_nc, Int.reduceAdd, Int.reduceLE, Int.reduceToNat, Nat.reduceLT, Nat.reduceLeDiff, Int.reduceNeg, eq_self, true_and, and_true, true_or, or_true, Nat.reduceBEq, List.elem_cons, List.elem_nil, Bool.or_false, Bool.false_or, Bool.or_true, Bool.true_or, Bool.false_eq_true, if_false, if_true, reduceIte, reduceCtorEq, ne_eq, not_false_eq_true, Classical.not_not, List.length_cons, List.length_nil, Nat.zero_le, List.map_cons, List.map_nil, List.cons_append, List.nil_append, List.replicate_succ, List.replicate_zero, Nat.reduceSub, sX7_goOn_71, sX7_goOn_73, sX7_goOn_74, sX7_goOn_77, sX7_goOn_80, sX7_goOn_82, sX7_goOn_84, sX7_goOn_85, sX7_goOn_86, sX7_goOn_87, sX7_goOn_90, sX7_goOn_91, sX7_goOn_93, sX7_goOn_94, sX7_goOn_95, sX7_goOn_96, sX7_goOn_97, sX7_goOn_100, gfX7_72_37, ie_i1, ie_li2, ie_li7, ie_li8, ie_lr0, e4, vb_bit a ha i (by omega), vb_bit v hv i (by omega), zb0, zb1]
      refine ⟨fun h => absurd h (nI_ge hi (by omega)), fun _ => ⟨fun h2 => hskip ?_ _ _ _, fun h2 => ⟨fun h3 => ?_, fun h3 => hskip (by simp [vG, h3]) _ _ _⟩⟩⟩
      · rw [hab i hi] at h2
        simp only [Bool.not_eq_false', decide_eq_true_eq] at h2
        simp [vG, h2]
      have h2' : ¬ sp i = 0 := by
        rw [hab i hi] at h2
        simpa using h2
      have h3' : v.testBit i = false := by simpa using h3
      refine iv_blk [71, 146, 214] 60 ?_
      simp only [iv_sn, ie_cl0, ie_cl1, ie_cl2, ie_cl3, ie_cl4, ie_cl5, ie_cl6, ie_cl7, ie_cl8, ie_v5_0, ie_v5_1, ie_v5_2, ie_v5_3, ie_v5_4, ie_v6_0, ie_v8_0, ie_v12_0, ie_v24_0, ie_v30_0, ie_v3380_0, true_implies, false_implies, not_true_eq_false, implies_true, ie_10, ie_m10, ie_mm, iv_u_eq, iv_u_ne, Nat.reduceEqDiff, ie_p1, ie_p2, ie_pr, ie_pa, ie_ps, ie_d1, ie_d2, ie_r1, ie_o, ie_gr, ie_gi, ie_pt, ie_pf, ie_ri, ie_rz, ie_br, ie_c1eq, ie_c1ne, ie_c1lt, ie_c1ge, ie_c1gt, ie_c1le, ie_c2eq, ie_c2ne, ie_c2lt, ie_c2ge, ie_c2gt, ie_c2le, ie_fn0, ie_fn1, ie_fn2, ie_fn3, Nat.reduceAdd, ie_nc, Int.reduceAdd, Int.reduceLE, Int.reduceToNat, Nat.reduceLT, Nat.reduceLeDiff, Int.reduceNeg, eq_self, true_and, and_true, true_or, or_true, Nat.reduceBEq, List.elem_cons, List.elem_nil, Bool.or_false, Bool.false_or, Bool.or_true, Bool.true_or, Bool.false_eq_true, if_false, if_true, reduceIte, reduceCtorEq, ne_eq, not_false_eq_true, Classical.not_not, List.length_cons, List.length_nil, Nat.zero_le, List.map_cons, List.map_nil, List.cons_append, List.nil_append, List.replicate_succ, List.replicate_zero, Nat.reduceSub, sX7_goOn_103, sX7_goOn_105, sX7_goOn_106, sX7_goOn_108, sX7_goOn_111, sX7_goOn_112, sX7_goOn_113, sX7_goOn_116, sX7_goOn_118, sX7_goOn_120, sX7_goOn_121, sX7_goOn_123, sX7_goOn_124, sX7_goOn_125, sX7_goOn_126, sX7_goOn_128, sX7_goOn_130, sX7_goOn_131, sX7_goOn_132, sX7_goOn_135, sX7_goOn_136, sX7_goOn_137, sX7_goOn_140, sX7_goOn_143, cvX7_75, cvX7_82, gfX7_26_37, gfX7_9_37, ie_b6, ie_b7, ie_call1, ie_call2, ie_call3, ie_call4, ie_call5, ie_call6, ie_call7, ie_call8, ie_i0, ie_i4, ie_li5, ie_li8, ie_li9, ie_lr0, ie_ls9, ie_rc1, ie_rc2, ie_rc3, ie_rc4, ie_rc5, ie_rc6, ie_rc7, ie_rc8, iv_ar_1, iv_ar_10, iv_ar_11, iv_ar_13, iv_ar_14, iv_ar_15, iv_ar_16, iv_ar_17, iv_ar_19, iv_ar_2, iv_ar_20, iv_ar_21, iv_ar_22, iv_ar_23, iv_ar_25, iv_ar_26, iv_ar_27, iv_ar_28, iv_ar_31, iv_ar_32, iv_ar_34, iv_ar_35, iv_ar_36, iv_ar_38, iv_ar_39, iv_ar_40, iv_ar_41, iv_ar_42, iv_ar_43, iv_ar_44, iv_ar_45, iv_ar_46, iv_ar_47, iv_ar_48, iv_ar_49, iv_ar_5, iv_ar_50, iv_ar_51, iv_ar_52, iv_ar_53, iv_ar_54, iv_ar_55, iv_ar_56, iv_ar_6, iv_ar_7, iv_ar_8, iv_ar_9, iv_cls_0, iv_cls_12, iv_cls_18, iv_cls_24, iv_cls_29, iv_cls_3, iv_cls_30, iv_cls_33, iv_cls_37, iv_cls_4]
      refine ⟨_, ct_m_inside (n := np) (by rw [f2 6 (by decide)]; exact hp) hnp _, ?_⟩
      rintro r1 σ1 ⟨rfl, hs1⟩
      subst hs1
      simp only [z7, za6, z_cl (show 7 * i + 6 < 2 ^ 31 by omega), z_in (show 7 * i + 6 < 42 by omega) (by decide), z_asub, e38, e41, e43, h25 i hi, hvan, true_and]
      refine ⟨_, ct_m_in _ _ _, ?_⟩
      rintro r1 σ2 ⟨rfl, hs2⟩
      subst hs2
      simp only [zb0, zbn]
      refine ⟨fun h4 => ?_, fun h4 => hskip (by simp [vG, h4]) _ _ _⟩
      have hg : vG sp van (fun c => v.testBit c) ld i = true := by simp [vG, h2', h3', h4]
      have hfi : f i B' = vS nc sp xs ys van k (fun q => v.testBit q || decide (q = i)) (R ++ [i]) (xs i) (ys i) (ld + sp i) (len + vD xs ys i x y) B' := by rw [← hf]; simp only [hg, if_true]
      have hV : (fun q => v.testBit q || decide (q = i)) = fun q => (v ||| 2 ^ i).testBit q := by
        funext q
        rw [Nat.testBit_or, Nat.testBit_two_pow]
        congr 1
        simp only [decide_eq_decide]
        exact eq_comm
      rw [hV] at hfi
      refine iv_blk [71] 60 ?_
      simp only [iv_sn, ie_cl0, ie_cl1, ie_cl2, ie_cl3, ie_cl4, ie_cl5, ie_cl6, ie_cl7, ie_cl8, ie_v5_0, ie_v5_1, ie_v5_2, ie_v5_3, ie_v5_4, ie_v6_0, ie_v8_0, ie_v12_0, ie_v24_0, ie_v30_0, ie_v3380_0, true_implies, false_implies, not_true_eq_false, implies_true, ie_10, ie_m10, ie_mm, iv_u_eq, iv_u_ne, Nat.reduceEqDiff, ie_p1, ie_p2, ie_pr, ie_pa, ie_ps, ie_d1, ie_d2, ie_r1, ie_o, ie_gr, ie_gi, ie_pt, ie_pf, ie_ri, ie_rz, ie_br, ie_c1eq, ie_c1ne, ie_c1lt, ie_c1ge, ie_c1gt, ie_c1le, ie_c2eq, ie_c2ne, ie_c2lt, ie_c2ge, ie_c2gt, ie_c2le, ie_fn0, ie_fn1, ie_fn2, ie_fn3, Nat.reduceAdd, ie_nc, Int.reduceAdd, Int.reduceLE, Int.reduceToNat, Nat.reduceLT, Nat.reduceLeDiff, Int.reduceNeg, eq_self, true_and, and_true, true_or, or_true, Nat.reduceBEq, List.elem_cons, List.elem_nil, Bool.or_false, Bool.false_or, Bool.or_true, Bool.true_or, Bool.false_eq_true, if_false, if_true, reduceIte, reduceCtorEq, ne_eq, not_false_eq_true, Classical.not_not, List.length_cons, List.length_nil, Nat.zero_le, List.map_cons, List.map_nil, List.cons_append, List.nil_append, List.replicate_succ, List.replicate_zero, Nat.reduceSub, sX7_goOn_146, sX7_goOn_147, sX7_goOn_150, sX7_goOn_151, sX7_goOn_153, sX7_goOn_154, sX7_goOn_155, sX7_goOn_158, sX7_goOn_160, sX7_goOn_162, sX7_goOn_163, sX7_goOn_164, sX7_goOn_166, sX7_goOn_167, sX7_goOn_170, sX7_goOn_172, sX7_goOn_174, sX7_goOn_175, sX7_goOn_176, sX7_goOn_177, sX7_goOn_178, sX7_goOn_180, sX7_goOn_181, sX7_goOn_182, sX7_goOn_183, sX7_goOn_184, sX7_goOn_185, sX7_goOn_186, sX7_goOn_188, sX7_goOn_189, sX7_goOn_190, sX7_goOn_192, sX7_goOn_194, sX7_goOn_196, sX7_goOn_198, sX7_goOn_199, sX7_goOn_201, sX7_goOn_203, sX7_goOn_205, sX7_goOn_208, sX7_goOn_209, sX7_goOn_211, sX7_goOn_214, sX7_goOn_217, cvX7_156, cvX7_160, gfX7_62_37, gfX7_9_37, ie_b7, ie_call1, ie_call2, ie_call3, ie_call4, ie_call5, ie_call6, ie_call7, ie_call8, ie_i1, ie_li1, ie_li10, ie_li11, ie_li2, ie_li3, ie_li4, ie_li6, ie_li7, ie_li8, ie_li9, ie_lr0, ie_ls10, ie_ls11, ie_ls8, ie_rc1, ie_rc2, ie_rc3, ie_rc4, ie_rc5, ie_rc6, ie_rc7, ie_rc8, iv_ar_1, iv_ar_10, iv_ar_11, iv_ar_13, iv_ar_14, iv_ar_15, iv_ar_16, iv_ar_17, iv_ar_19, iv_ar_2, iv_ar_20, iv_ar_21, iv_ar_22, iv_ar_23, iv_ar_25, iv_ar_26, iv_ar_27, iv_ar_28, iv_ar_31, iv_ar_32, iv_ar_34, iv_ar_35, iv_ar_36, iv_ar_38, iv_ar_39, iv_ar_40, iv_ar_41, iv_ar_42, iv_ar_43, iv_ar_44, iv_ar_45, iv_ar_46, iv_ar_47, iv_ar_48, iv_ar_49, iv_ar_5, iv_ar_50, iv_ar_51, iv_ar_52, iv_ar_53, iv_ar_54, iv_ar_55, iv_ar_56, iv_ar_6, iv_ar_7, iv_ar_8, iv_ar_9, iv_cls_0, iv_cls_12, iv_cls_18, iv_cls_24, iv_cls_29, iv_cls_3, iv_cls_30, iv_cls_33, iv_cls_37, iv_cls_4, z7, nI_1, z_cl (show 7 * i < 2 ^ 31 by omega), z_in (show 7 * i < 42 by omega) (by decide), z_cl (show 7 * i + 1 < 2 ^ 31 by omega), z_in (show 7 * i + 1 < 42 by omega) (by decide), z_cl (show R.length < 2 ^ 31 by omega), z_in (show R.length < 6 by omega) (by decide), e38, h5 i hi, h6 i hi, vb_or v hv i (by omega)]
      refine ⟨_, ct_m_away _ _ _ _, ?_⟩
      rintro r1 σ3 ⟨rfl, hs3⟩
      subst hs3
      have t := hT i hi
      have ed := vD_val (xs := xs) (ys := ys) t.1 t.2 hx hy
      have hvd : zA (x - xs i) + zA (y - ys i) = vD xs ys i x y := by unfold vD; rw [zA_swap hx t.1, zA_swap hy t.2]
      rw [hvd]
      have hx' := hx
      have hy' := hy
      obtain ⟨x1, x2⟩ := hx'
      obtain ⟨y1, y2⟩ := hy'
      obtain ⟨⟨a1, a2⟩, ⟨b1, b2⟩⟩ := t
      have el : (len + vD xs ys i x y).toInt = len.toInt + (vD xs ys i x y).toInt := z_add (by omega) (by omega)
      have hlen : (R ++ [i]).length = R.length + 1 := by simp
      have hcall := ih (e + 3) (iv_u σ2 55 R.length (nI i)) (R ++ [i]) (v ||| 2 ^ i) (xs i) (ys i) (ld + sp i) (len + vD xs ys i x y) B' (by omega)
        (by
          have hz2 := zc_del (f := fun c => a.testBit c && !v.testBit c) (g := fun c => a.testBit c && !(v ||| 2 ^ i).testBit c) (c := i) (by rw [hab i hi, h3']; simp [h2']) (by rw [← congrFun hV i]; simp) (fun q hq => by rw [← congrFun hV q]; simp [hq]) 6 (by omega)
          omega)
        (Nat.or_lt_two_pow (n := 6) hv (Nat.pow_lt_pow_right (by omega) (by omega)))
        (fun c hc => by
          rw [← congrFun hV c] at hc
          simp only [Bool.or_eq_true, decide_eq_true_eq] at hc
          rcases hc with hc | hc
          · exact hsub c hc
          · subst hc; rw [hab c hi]; simp [h2'])
        (by rw [hlen]; omega)
        (by rw [iv_u_ne (by decide)]; exact e4)
        (by rw [iv_u_ne (by decide), f2 6 (by decide)]; exact hp)
        (fun c hc => by rw [iv_u_ne (by decide), iv_u_ne (by decide), e38, e41]; exact h25 c hc)
        (fun c hc => by rw [iv_u_ne (by decide), e38]; exact h5 c hc)
        (fun c hc => by rw [iv_u_ne (by decide), e38]; exact h6 c hc)
        (by rw [iv_u_ne (by decide), e43]; exact hvan) (hT i hi).1 (hT i hi).2 (by omega) (by omega)
        (fun j c hj => by
          rw [iv_u_eq]
          by_cases hjr : j < R.length
          · rw [upd_ne (by omega), f3 j hjr]
            rw [List.getElem?_append_left hjr] at hj
            exact hR j c hj
          · have hjl := (List.getElem?_eq_some_iff.mp hj).1
            have : j = R.length := by rw [hlen] at hjl; omega
            subst this
            rw [List.getElem?_append_right (Nat.le_refl _), Nat.sub_self] at hj
            cases hj
            rw [upd_same])
        (vRepM_same f4 (by rw [iv_u_ne (by decide)]) (by rw [iv_u_ne (by decide)]))
      rw [hlen] at hcall
      refine ⟨_, hcall, ?_⟩
      rintro r2 u ⟨g1, g2, g3, g4⟩
      refine ihi _ (f i B') _ _ _ ?_ ?_ ?_ ?_ f5
      · intro q q1 q2 q3
        rw [g1 q q1 q2 q3, iv_u_ne q2]
        exact f1 q q1 q2 q3
      · intro j j1
        rw [g2 j j1, iv_u_ne (by decide)]
        exact f2 j j1
      · intro j hj
        rw [g3 j (by omega), iv_u_eq, upd_ne (by omega)]
        exact f3 j hj
      · rw [hfi]
        exact g4
end YE
