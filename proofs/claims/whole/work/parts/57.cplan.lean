def cq (D : Nat → Bool) (P : Nat → Int32) : Nat → Option Nat
  | 0 => none
  | i + 1 => if D i then (match cq D P i with
    | none => some i
    | some a => if P i < P a then some i else some a) else cq D P i
theorem cq_lt {D : Nat → Bool} {P : Nat → Int32} : ∀ {n a : Nat}, cq D P n = some a → a < n ∧ D a = true
  | 0, a, h => by cases h
  | n + 1, a, h => by
    unfold cq at h
    split at h
    · next hD =>
      split at h
      · cases h; exact ⟨by omega, hD⟩
      · next b hb =>
        split at h
        · cases h; exact ⟨by omega, hD⟩
        · cases h
          obtain ⟨p, q⟩ := cq_lt hb
          exact ⟨by omega, q⟩
    · obtain ⟨p, q⟩ := cq_lt h
      exact ⟨by omega, q⟩
theorem cq_none {D : Nat → Bool} {P : Nat → Int32} : ∀ {n : Nat}, cq D P n = none → ∀ g, g < n → D g = false
  | 0, _, g, hg => by omega
  | n + 1, h, g, hg => by
    unfold cq at h
    split at h
    · split at h
      · cases h
      · split at h <;> cases h
    · next hD =>
      by_cases hgn : g = n
      · subst hgn; simpa using hD
      · exact cq_none h g (by omega)
theorem cq_best {D : Nat → Bool} {P : Nat → Int32} : ∀ {n a : Nat}, cq D P n = some a → ∀ g, g < n → D g = true → g ≠ a → P a < P g ∨ (P a = P g ∧ a < g)
  | 0, a, h, g, hg, _, _ => by omega
  | n + 1, a, h, g, hg, hD, hne => by
    unfold cq at h
    split at h
    · split at h
      · next hb =>
        cases h
        have := cq_none hb g (by omega)
        rw [hD] at this; cases this
      · next b hb =>
        obtain ⟨p, q⟩ := cq_lt hb
        split at h
        · next hlt =>
          cases h
          left
          by_cases hgb : g = b
          · subst hgb; exact hlt
          · rcases cq_best hb g (by omega) hD hgb with r | ⟨r, _⟩
            · rw [z_lt] at hlt r ⊢; omega
            · rw [← r]; exact hlt
        · next hlt =>
          cases h
          by_cases hgn : g = n
          · subst hgn
            rw [z_lt] at hlt
            by_cases he : P a = P g
            · exact Or.inr ⟨he, p⟩
            · left
              rw [z_eq] at he
              rw [z_lt]; omega
          · exact cq_best hb g (by omega) hD hne
    · next hDn =>
      by_cases hgn : g = n
      · subst hgn; exact absurd hD hDn
      · exact cq_best h g (by omega) hD hne
theorem pm_min {f : Nat → Int32} {um : Nat → Nat} {L : Nat} (hL : L < 2 ^ 31) : ∀ m, (∀ k, k < m → f k = nI (um k) ∧ um k < 2 ^ 31) → ∃ most, pm f (fun _ => true) m (nI L) = nI most ∧ most ≤ L ∧ (∀ k, k < m → most ≤ um k) ∧ (most = L ∨ ∃ k, k < m ∧ most = um k)
  | 0, _ => ⟨L, rfl, Nat.le_refl _, fun k hk => by omega, Or.inl rfl⟩
  | m + 1, h => by
    obtain ⟨q, a1, a2, a3, a4⟩ := pm_min hL m (fun k hk => h k (by omega))
    obtain ⟨b1, b2⟩ := h m (by omega)
    simp only [pm, if_true, a1, b1, nI_leI (show q < 2 ^ 31 by omega) b2]
    by_cases hq : q ≤ um m
    · rw [if_pos hq]
      refine ⟨q, rfl, a2, fun k hk => ?_, ?_⟩
      · by_cases hkm : k = m
        · subst hkm; exact hq
        · exact a3 k (by omega)
      · rcases a4 with e | ⟨k, hk, e⟩
        · exact Or.inl e
        · exact Or.inr ⟨k, by omega, e⟩
    · rw [if_neg hq]
      refine ⟨um m, rfl, by omega, fun k hk => ?_, Or.inr ⟨m, by omega, rfl⟩⟩
      by_cases hkm : k = m
      · subst hkm; exact Nat.le_refl _
      · have := a3 k (by omega); omega
theorem nI_m1 (n : Nat) : nI n - 1 = nI n + (-1) := Int32.sub_eq_add_neg _ _
def plQb (n h : Nat) (nd : Nat → Nat) (σ : iv_S) (_ : Int32) (u : iv_S) : Prop := (∀ q, q ≠ 20 → q ≠ 21 → q ≠ 22 → u q = σ q) ∧ ∀ i, i < n → u 20 i = -1 ∧ u 21 i = nI (su nd n - su nd i) ∧ u 22 i = σ 2 ((h + i) % 24)
def plQf (h : Nat) (M : Int32) (σ : iv_S) (_ : Int32) (u : iv_S) : Prop := (∀ q, q ≠ 20 → q ≠ 21 → u q = σ q) ∧ u 20 = upd (σ 20) h M ∧ ∀ k, u 21 k = if k < h + 1 then σ 21 k - M else σ 21 k
def plQk (n : Nat) (σ : iv_S) (r : Int32) (u : iv_S) : Prop := r = ps (fun i => σ 20 i * σ 22 i) n ∧ (∀ q, q ≠ 18 → q ≠ 23 → u q = σ q) ∧ u 18 = upd (σ 18) 6 (nI n) ∧ ∀ i, i < n → u 23 i = σ 20 i
section YI
variable {X : iv_X} {d : Nat} {σ : iv_S}
set_option maxRecDepth 20000 in
set_option maxHeartbeats 4000000 in
theorem ct_pbegin {n h : Nat} {nd : Nat → Nat} (hs : σ 18 5 = nI n) (hn : n ≤ 12) (hh : h ≤ 10000) (hnd : ∀ i, i < n → σ 19 i = nI (nd i)) : iv_Ct X mX1_begin (d + 2) [.inl 18, .inl 2, .inr (nI h)] σ (plQb n h nd σ) := by
  refine iv_ctl (own := RX1) (b := tbX1) (ls := [some (.inl 18), some (.inl 2), some (.inr (nI h)), none, none]) (plainFor_of_name (by decide)) rfl okX1 (Nat.le_of_ble_eq_true rfl) rfl ?_
  refine iv_blk [10] 30 ?_
  simp only [iv_sn, ie_cl0, ie_cl1, ie_cl2, ie_cl3, ie_cl4, ie_cl5, ie_cl6, ie_cl7, ie_cl8, ie_v5_0, ie_v5_1, ie_v5_2, ie_v5_3, ie_v5_4, ie_v6_0, ie_v8_0, ie_v12_0, ie_v24_0, ie_v30_0, ie_v3380_0, true_implies, false_implies, not_true_eq_false, implies_true, ie_10, ie_m10, ie_mm, iv_u_eq, iv_u_ne, Nat.reduceEqDiff, ie_p1, ie_p2, ie_pr, ie_pa, ie_ps, ie_d1, ie_d2, ie_r1, ie_o, ie_gr, ie_gi, ie_pt, ie_pf, ie_ri, ie_rz, ie_br, ie_c1eq, ie_c1ne, ie_c1lt, ie_c1ge, ie_c1gt, ie_c1le, ie_c2eq, ie_c2ne, ie_c2lt, ie_c2ge, ie_c2gt, ie_c2le, ie_fn0, ie_fn1, ie_fn2, ie_fn3, Nat.reduceAdd, ie_nc, Int.reduceAdd, Int.reduceLE, Int.reduceToNat, Nat.reduceLT, Nat.reduceLeDiff, Int.reduceNeg, eq_self, true_and, and_true, true_or, or_true, Nat.reduceBEq, List.elem_cons, List.elem_nil, Bool.or_false, Bool.false_or, Bool.or_true, Bool.true_or, Bool.false_eq_true, if_false, if_true, reduceIte, reduceCtorEq, ne_eq, not_false_eq_true, Classical.not_not, List.length_cons, List.length_nil, Nat.zero_le, List.map_cons, List.map_nil, List.cons_append, List.nil_append, List.replicate_succ, List.replicate_zero, Nat.reduceSub, sX1_begin_0, sX1_begin_1, sX1_begin_2, sX1_begin_3, sX1_begin_6, sX1_begin_7, sX1_begin_8, gfX1_27_18, ie_i0, ie_i1, ie_li3, ie_li4, ie_lr0, ie_ls3, ie_ls4, hs, nI_m1]
  have key : ∀ j, j ≤ n → ∀ (τ : iv_S), (∀ q, q ≠ 20 → q ≠ 21 → q ≠ 22 → τ q = σ q) → (∀ i, j ≤ i → i < n → τ 20 i = -1 ∧ τ 21 i = nI (su nd n - su nd i) ∧ τ 22 i = σ 2 ((h + i) % 24)) → iv_Sf X (d + 1) mX1_begin tbX1 (plQb n h nd σ) 10 [some (.inl 18), some (.inl 2), some (.inr (nI h)), some (.inr (nI (su nd n - su nd j))), some (.inr (nI j + (-1)))] [] τ := by
    intro j
    induction j with
    | zero =>
      intro _ τ f1 f2
      refine iv_blk [10] 60 ?_
      simp only [iv_sn, ie_cl0, ie_cl1, ie_cl2, ie_cl3, ie_cl4, ie_cl5, ie_cl6, ie_cl7, ie_cl8, ie_v5_0, ie_v5_1, ie_v5_2, ie_v5_3, ie_v5_4, ie_v6_0, ie_v8_0, ie_v12_0, ie_v24_0, ie_v30_0, ie_v3380_0, true_implies, false_implies, not_true_eq_false, implies_true, ie_10, ie_m10, ie_mm, iv_u_eq, iv_u_ne, Nat.reduceEqDiff, ie_p1, ie_p2, ie_pr, ie_pa, ie_ps, ie_d1, ie_d2, ie_r1, ie_o, ie_gr, ie_gi, ie_pt, ie_pf, ie_ri, ie_rz, ie_br, ie_c1eq, ie_c1ne, ie_c1lt, ie_c1ge, ie_c1gt, ie_c1le, ie_c2eq, ie_c2ne, ie_c2lt, ie_c2ge, ie_c2gt, ie_c2le, ie_fn0, ie_fn1, ie_fn2, ie_fn3, Nat.reduceAdd, ie_nc, Int.reduceAdd, Int.reduceLE, Int.reduceToNat, Nat.reduceLT, Nat.reduceLeDiff, Int.reduceNeg, eq_self, true_and, and_true, true_or, or_true, Nat.reduceBEq, List.elem_cons, List.elem_nil, Bool.or_false, Bool.false_or, Bool.or_true, Bool.true_or, Bool.false_eq_true, if_false, if_true, reduceIte, reduceCtorEq, ne_eq, not_false_eq_true, Classical.not_not, List.length_cons, List.length_nil, Nat.zero_le, List.map_cons, List.map_nil, List.cons_append, List.nil_append, List.replicate_succ, List.replicate_zero, Nat.reduceSub, sX1_begin_10, sX1_begin_12, ie_li4, iv_sn, ie_cl0, ie_cl1, ie_cl2, ie_cl3, ie_cl4, ie_cl5, ie_cl6, ie_cl7, ie_cl8, ie_v5_0, ie_v5_1, ie_v5_2, ie_v5_3, ie_v5_4, ie_v6_0, ie_v8_0, ie_v12_0, ie_v24_0, ie_v30_0, ie_v3380_0, true_implies, false_implies, not_true_eq_false, implies_true, ie_10, ie_m10, ie_mm, iv_u_eq, iv_u_ne, Nat.reduceEqDiff, ie_p1, ie_p2, ie_pr, ie_pa, ie_ps, ie_d1, ie_d2, ie_r1, ie_o, ie_gr, ie_gi, ie_pt, ie_pf, ie_ri, ie_rz, ie_br, ie_c1eq, ie_c1ne, ie_c1lt, ie_c1ge, ie_c1gt, ie_c1le, ie_c2eq, ie_c2ne, ie_c2lt, ie_c2ge, ie_c2gt, ie_c2le, ie_fn0, ie_fn1, ie_fn2, ie_fn3, Nat.reduceAdd, ie_nc, Int.reduceAdd, Int.reduceLE, Int.reduceToNat, Nat.reduceLT, Nat.reduceLeDiff, Int.reduceNeg, eq_self, true_and, and_true, true_or, or_true, Nat.reduceBEq, List.elem_cons, List.elem_nil, Bool.or_false, Bool.false_or, Bool.or_true, Bool.true_or, Bool.false_eq_true, if_false, if_true, reduceIte, reduceCtorEq, ne_eq, not_false_eq_true, Classical.not_not, List.length_cons, List.length_nil, Nat.zero_le, List.map_cons, List.map_nil, List.cons_append, List.nil_append, List.replicate_succ, List.replicate_zero, Nat.reduceSub, sX1_begin_65]
      exact ⟨fun _ => ⟨f1, fun i hi => f2 i (Nat.zero_le _) hi⟩, fun hx => absurd (by decide) hx⟩
    | succ j ih =>
      intro hj τ f1 f2
      have hm := Nat.mod_lt (h + j) (show 24 > 0 by decide)
      have e19 : τ 19 j = nI (nd j) := by rw [f1 19 (by decide) (by decide) (by decide)]; exact hnd j (by omega)
      have e2 := f1 2 (by decide) (by decide) (by decide)
      have hsum : su nd n - su nd (j + 1) + nd j = su nd n - su nd j := by
        have := su_mono nd (show j + 1 ≤ n by omega)
        rw [su_s] at this ⊢
        omega
      refine iv_blk [10] 60 ?_
      simp only [iv_sn, ie_cl0, ie_cl1, ie_cl2, ie_cl3, ie_cl4, ie_cl5, ie_cl6, ie_cl7, ie_cl8, ie_v5_0, ie_v5_1, ie_v5_2, ie_v5_3, ie_v5_4, ie_v6_0, ie_v8_0, ie_v12_0, ie_v24_0, ie_v30_0, ie_v3380_0, true_implies, false_implies, not_true_eq_false, implies_true, ie_10, ie_m10, ie_mm, iv_u_eq, iv_u_ne, Nat.reduceEqDiff, ie_p1, ie_p2, ie_pr, ie_pa, ie_ps, ie_d1, ie_d2, ie_r1, ie_o, ie_gr, ie_gi, ie_pt, ie_pf, ie_ri, ie_rz, ie_br, ie_c1eq, ie_c1ne, ie_c1lt, ie_c1ge, ie_c1gt, ie_c1le, ie_c2eq, ie_c2ne, ie_c2lt, ie_c2ge, ie_c2gt, ie_c2le, ie_fn0, ie_fn1, ie_fn2, ie_fn3, Nat.reduceAdd, ie_nc, Int.reduceAdd, Int.reduceLE, Int.reduceToNat, Nat.reduceLT, Nat.reduceLeDiff, Int.reduceNeg, eq_self, true_and, and_true, true_or, or_true, Nat.reduceBEq, List.elem_cons, List.elem_nil, Bool.or_false, Bool.false_or, Bool.or_true, Bool.true_or, Bool.false_eq_true, if_false, if_true, reduceIte, reduceCtorEq, ne_eq, not_false_eq_true, Classical.not_not, List.length_cons, List.length_nil, Nat.zero_le, List.map_cons, List.map_nil, List.cons_append, List.nil_append, List.replicate_succ, List.replicate_zero, Nat.reduceSub, sX1_begin_10, sX1_begin_12, sX1_begin_15, sX1_begin_16, sX1_begin_17, sX1_begin_20, sX1_begin_22, sX1_begin_23, sX1_begin_24, sX1_begin_25, sX1_begin_26, sX1_begin_29, sX1_begin_31, sX1_begin_32, sX1_begin_33, sX1_begin_34, sX1_begin_37, sX1_begin_39, sX1_begin_40, sX1_begin_41, sX1_begin_42, sX1_begin_45, sX1_begin_47, sX1_begin_48, sX1_begin_49, sX1_begin_51, sX1_begin_52, sX1_begin_54, sX1_begin_57, sX1_begin_58, sX1_begin_59, sX1_begin_62, cvX1_46, gfX1_15_18, gfX1_18_18, gfX1_21_18, gfX1_9_18, ie_b24, ie_call1, ie_call2, ie_call3, ie_call4, ie_call5, ie_call6, ie_call7, ie_call8, ie_im1, ie_li2, ie_li3, ie_li4, ie_lr0, ie_lr1, ie_ls3, ie_ls4, iv_ar_1, iv_ar_10, iv_ar_11, iv_ar_13, iv_ar_14, iv_ar_15, iv_ar_16, iv_ar_17, iv_ar_19, iv_ar_2, iv_ar_20, iv_ar_21, iv_ar_22, iv_ar_23, iv_ar_25, iv_ar_26, iv_ar_27, iv_ar_28, iv_ar_31, iv_ar_32, iv_ar_34, iv_ar_35, iv_ar_36, iv_ar_38, iv_ar_39, iv_ar_40, iv_ar_41, iv_ar_42, iv_ar_43, iv_ar_44, iv_ar_45, iv_ar_46, iv_ar_47, iv_ar_48, iv_ar_49, iv_ar_5, iv_ar_50, iv_ar_51, iv_ar_52, iv_ar_53, iv_ar_54, iv_ar_55, iv_ar_56, iv_ar_6, iv_ar_7, iv_ar_8, iv_ar_9, pk_m1, e19, nI_add, hsum, z_cl (show j < 2 ^ 31 by omega), z_in (show j < 12 by omega) (by decide)]
      refine ⟨fun hx => absurd hx (nI_pos (by omega)), fun _ => ?_⟩
      refine ⟨_, ct_floorMod (show h + j < 2 ^ 30 by omega), ?_⟩
      rintro r1 σ1 ⟨rfl, hs1⟩
      subst hs1
      simp only [z_cl (show (h + j) % 24 < 2 ^ 31 by omega), z_in hm (by decide), true_and, iv_u_ne, ne_eq, Nat.reduceEqDiff, not_false_eq_true, e2]
      refine ih (by omega) _ ?_ ?_
      · intro q q1 q2 q3
        rw [iv_u_ne q3, iv_u_ne q1, iv_u_ne q2]
        exact f1 q q1 q2 q3
      · intro i hi hin
        simp only [iv_u_ne, iv_u_eq, ne_eq, Nat.reduceEqDiff, not_false_eq_true]
        by_cases hij : i = j
        · subst hij
          simp only [upd_same]
          exact ⟨trivial, trivial, trivial⟩
        · simp only [upd_ne hij]
          exact f2 i (by omega) hin
  have h0 : (0 : Int32) = nI (su nd n - su nd n) := by rw [Nat.sub_self]; exact nI_0.symm
  rw [h0]
  exact key n (Nat.le_refl _) σ (fun _ _ _ _ => rfl) (fun i a b => by omega)
set_option maxRecDepth 20000 in
set_option maxHeartbeats 4000000 in
theorem ct_cheapest {n : Nat} (hs : σ 18 5 = nI n) (hn : n ≤ 12) : iv_Ct X mX1_cheapestUnfilled (d + 1) [.inl 18] σ (fun r u => r = zo (cq (fun i => decide (σ 20 i = -1)) (σ 22) n) ∧ u = σ) := by
  generalize hD : (fun i => decide (σ 20 i = -1)) = D
  have hDi : ∀ i, D i = decide (σ 20 i = -1) := fun i => by rw [← hD]
  refine iv_ctl (own := RX1) (b := tbX1) (ls := [some (.inl 18), none, none]) (plainFor_of_name (by decide)) rfl okX1 (Nat.le_of_ble_eq_true rfl) rfl ?_
  refine iv_blk [4] 30 ?_
  simp only [iv_sn, ie_cl0, ie_cl1, ie_cl2, ie_cl3, ie_cl4, ie_cl5, ie_cl6, ie_cl7, ie_cl8, ie_v5_0, ie_v5_1, ie_v5_2, ie_v5_3, ie_v5_4, ie_v6_0, ie_v8_0, ie_v12_0, ie_v24_0, ie_v30_0, ie_v3380_0, true_implies, false_implies, not_true_eq_false, implies_true, ie_10, ie_m10, ie_mm, iv_u_eq, iv_u_ne, Nat.reduceEqDiff, ie_p1, ie_p2, ie_pr, ie_pa, ie_ps, ie_d1, ie_d2, ie_r1, ie_o, ie_gr, ie_gi, ie_pt, ie_pf, ie_ri, ie_rz, ie_br, ie_c1eq, ie_c1ne, ie_c1lt, ie_c1ge, ie_c1gt, ie_c1le, ie_c2eq, ie_c2ne, ie_c2lt, ie_c2ge, ie_c2gt, ie_c2le, ie_fn0, ie_fn1, ie_fn2, ie_fn3, Nat.reduceAdd, ie_nc, Int.reduceAdd, Int.reduceLE, Int.reduceToNat, Nat.reduceLT, Nat.reduceLeDiff, Int.reduceNeg, eq_self, true_and, and_true, true_or, or_true, Nat.reduceBEq, List.elem_cons, List.elem_nil, Bool.or_false, Bool.false_or, Bool.or_true, Bool.true_or, Bool.false_eq_true, if_false, if_true, reduceIte, reduceCtorEq, ne_eq, not_false_eq_true, Classical.not_not, List.length_cons, List.length_nil, Nat.zero_le, List.map_cons, List.map_nil, List.cons_append, List.nil_append, List.replicate_succ, List.replicate_zero, Nat.reduceSub, sX1_cheapestUnfilled_0, sX1_cheapestUnfilled_1, sX1_cheapestUnfilled_2, sX1_cheapestUnfilled_3, ie_i0, ie_im1, ie_li1, ie_li2, ie_ls1, ie_ls2]
  refine z_down (n := n) (P := fun i => iv_Sf X d mX1_cheapestUnfilled tbX1 (fun r u => r = zo (cq D (σ 22) n) ∧ u = σ) 4 [some (.inl 18), some (.inr (zo (cq D (σ 22) i))), some (.inr (nI i))] [] σ) ?_ ?_
  · refine iv_blk [4] 60 ?_
    simp only [iv_sn, ie_cl0, ie_cl1, ie_cl2, ie_cl3, ie_cl4, ie_cl5, ie_cl6, ie_cl7, ie_cl8, ie_v5_0, ie_v5_1, ie_v5_2, ie_v5_3, ie_v5_4, ie_v6_0, ie_v8_0, ie_v12_0, ie_v24_0, ie_v30_0, ie_v3380_0, true_implies, false_implies, not_true_eq_false, implies_true, ie_10, ie_m10, ie_mm, iv_u_eq, iv_u_ne, Nat.reduceEqDiff, ie_p1, ie_p2, ie_pr, ie_pa, ie_ps, ie_d1, ie_d2, ie_r1, ie_o, ie_gr, ie_gi, ie_pt, ie_pf, ie_ri, ie_rz, ie_br, ie_c1eq, ie_c1ne, ie_c1lt, ie_c1ge, ie_c1gt, ie_c1le, ie_c2eq, ie_c2ne, ie_c2lt, ie_c2ge, ie_c2gt, ie_c2le, ie_fn0, ie_fn1, ie_fn2, ie_fn3, Nat.reduceAdd, ie_nc, Int.reduceAdd, Int.reduceLE, Int.reduceToNat, Nat.reduceLT, Nat.reduceLeDiff, Int.reduceNeg, eq_self, true_and, and_true, true_or, or_true, Nat.reduceBEq, List.elem_cons, List.elem_nil, Bool.or_false, Bool.false_or, Bool.or_true, Bool.true_or, Bool.false_eq_true, if_false, if_true, reduceIte, reduceCtorEq, ne_eq, not_false_eq_true, Classical.not_not, List.length_cons, List.length_nil, Nat.zero_le, List.map_cons, List.map_nil, List.cons_append, List.nil_append, List.replicate_succ, List.replicate_zero, Nat.reduceSub, sX1_cheapestUnfilled_4, sX1_cheapestUnfilled_5, sX1_cheapestUnfilled_6, sX1_cheapestUnfilled_9, gfX1_27_18, ie_li2, ie_lr0, iv_sn, ie_cl0, ie_cl1, ie_cl2, ie_cl3, ie_cl4, ie_cl5, ie_cl6, ie_cl7, ie_cl8, ie_v5_0, ie_v5_1, ie_v5_2, ie_v5_3, ie_v5_4, ie_v6_0, ie_v8_0, ie_v12_0, ie_v24_0, ie_v30_0, ie_v3380_0, true_implies, false_implies, not_true_eq_false, implies_true, ie_10, ie_m10, ie_mm, iv_u_eq, iv_u_ne, Nat.reduceEqDiff, ie_p1, ie_p2, ie_pr, ie_pa, ie_ps, ie_d1, ie_d2, ie_r1, ie_o, ie_gr, ie_gi, ie_pt, ie_pf, ie_ri, ie_rz, ie_br, ie_c1eq, ie_c1ne, ie_c1lt, ie_c1ge, ie_c1gt, ie_c1le, ie_c2eq, ie_c2ne, ie_c2lt, ie_c2ge, ie_c2gt, ie_c2le, ie_fn0, ie_fn1, ie_fn2, ie_fn3, Nat.reduceAdd, ie_nc, Int.reduceAdd, Int.reduceLE, Int.reduceToNat, Nat.reduceLT, Nat.reduceLeDiff, Int.reduceNeg, eq_self, true_and, and_true, true_or, or_true, Nat.reduceBEq, List.elem_cons, List.elem_nil, Bool.or_false, Bool.false_or, Bool.or_true, Bool.true_or, Bool.false_eq_true, if_false, if_true, reduceIte, reduceCtorEq, ne_eq, not_false_eq_true, Classical.not_not, List.length_cons, List.length_nil, Nat.zero_le, List.map_cons, List.map_nil, List.cons_append, List.nil_append, List.replicate_succ, List.replicate_zero, Nat.reduceSub, sX1_cheapestUnfilled_50, sX1_cheapestUnfilled_51, ie_li1, hs]
    exact fun h => absurd (z_nn (by omega)) h
  · intro i hi ih
    cases hq : cq D (σ 22) i with
    | none =>
      refine iv_blk [4] 60 ?_
      simp only [iv_sn, ie_cl0, ie_cl1, ie_cl2, ie_cl3, ie_cl4, ie_cl5, ie_cl6, ie_cl7, ie_cl8, ie_v5_0, ie_v5_1, ie_v5_2, ie_v5_3, ie_v5_4, ie_v6_0, ie_v8_0, ie_v12_0, ie_v24_0, ie_v30_0, ie_v3380_0, true_implies, false_implies, not_true_eq_false, implies_true, ie_10, ie_m10, ie_mm, iv_u_eq, iv_u_ne, Nat.reduceEqDiff, ie_p1, ie_p2, ie_pr, ie_pa, ie_ps, ie_d1, ie_d2, ie_r1, ie_o, ie_gr, ie_gi, ie_pt, ie_pf, ie_ri, ie_rz, ie_br, ie_c1eq, ie_c1ne, ie_c1lt, ie_c1ge, ie_c1gt, ie_c1le, ie_c2eq, ie_c2ne, ie_c2lt, ie_c2ge, ie_c2gt, ie_c2le, ie_fn0, ie_fn1, ie_fn2, ie_fn3, Nat.reduceAdd, ie_nc, Int.reduceAdd, Int.reduceLE, Int.reduceToNat, Nat.reduceLT, Nat.reduceLeDiff, Int.reduceNeg, eq_self, true_and, and_true, true_or, or_true, Nat.reduceBEq, List.elem_cons, List.elem_nil, Bool.or_false, Bool.false_or, Bool.or_true, Bool.true_or, Bool.false_eq_true, if_false, if_true, reduceIte, reduceCtorEq, ne_eq, not_false_eq_true, Classical.not_not, List.length_cons, List.length_nil, Nat.zero_le, List.map_cons, List.map_nil, List.cons_append, List.nil_append, List.replicate_succ, List.replicate_zero, Nat.reduceSub, sX1_cheapestUnfilled_4, sX1_cheapestUnfilled_5, sX1_cheapestUnfilled_6, sX1_cheapestUnfilled_9, sX1_cheapestUnfilled_12, sX1_cheapestUnfilled_13, sX1_cheapestUnfilled_16, sX1_cheapestUnfilled_17, sX1_cheapestUnfilled_18, sX1_cheapestUnfilled_19, sX1_cheapestUnfilled_22, sX1_cheapestUnfilled_23, sX1_cheapestUnfilled_24, sX1_cheapestUnfilled_27, sX1_cheapestUnfilled_28, sX1_cheapestUnfilled_31, sX1_cheapestUnfilled_32, sX1_cheapestUnfilled_33, sX1_cheapestUnfilled_34, sX1_cheapestUnfilled_37, sX1_cheapestUnfilled_38, sX1_cheapestUnfilled_39, sX1_cheapestUnfilled_42, sX1_cheapestUnfilled_43, sX1_cheapestUnfilled_44, sX1_cheapestUnfilled_47, gfX1_15_18, gfX1_21_18, gfX1_27_18, ie_i1, ie_im1, ie_li1, ie_li2, ie_lr0, ie_ls1, ie_ls2, iv_ar_1, iv_ar_10, iv_ar_11, iv_ar_13, iv_ar_14, iv_ar_15, iv_ar_16, iv_ar_17, iv_ar_19, iv_ar_2, iv_ar_20, iv_ar_21, iv_ar_22, iv_ar_23, iv_ar_25, iv_ar_26, iv_ar_27, iv_ar_28, iv_ar_31, iv_ar_32, iv_ar_34, iv_ar_35, iv_ar_36, iv_ar_38, iv_ar_39, iv_ar_40, iv_ar_41, iv_ar_42, iv_ar_43, iv_ar_44, iv_ar_45, iv_ar_46, iv_ar_47, iv_ar_48, iv_ar_49, iv_ar_5, iv_ar_50, iv_ar_51, iv_ar_52, iv_ar_53, iv_ar_54, iv_ar_55, iv_ar_56, iv_ar_6, iv_ar_7, iv_ar_8, iv_ar_9, hs, zo, nI_1, z_cl (show i < 2 ^ 31 by omega), z_in (show i < 12 by omega) (by decide)]
      refine ⟨fun h => absurd h (nI_ge hi (by omega)), fun _ => ⟨fun h2 => ?_, fun h2 => ?_⟩⟩
      · simp only [cq, hDi, h2, decide_false, Bool.false_eq_true, if_false, hq, zo] at ih
        exact ih
      · simp only [cq, hDi, h2, decide_true, if_true, hq, zo] at ih
        exact ih
    | some a =>
      obtain ⟨ha, -⟩ := cq_lt hq
      refine iv_blk [4] 60 ?_
      simp only [iv_sn, ie_cl0, ie_cl1, ie_cl2, ie_cl3, ie_cl4, ie_cl5, ie_cl6, ie_cl7, ie_cl8, ie_v5_0, ie_v5_1, ie_v5_2, ie_v5_3, ie_v5_4, ie_v6_0, ie_v8_0, ie_v12_0, ie_v24_0, ie_v30_0, ie_v3380_0, true_implies, false_implies, not_true_eq_false, implies_true, ie_10, ie_m10, ie_mm, iv_u_eq, iv_u_ne, Nat.reduceEqDiff, ie_p1, ie_p2, ie_pr, ie_pa, ie_ps, ie_d1, ie_d2, ie_r1, ie_o, ie_gr, ie_gi, ie_pt, ie_pf, ie_ri, ie_rz, ie_br, ie_c1eq, ie_c1ne, ie_c1lt, ie_c1ge, ie_c1gt, ie_c1le, ie_c2eq, ie_c2ne, ie_c2lt, ie_c2ge, ie_c2gt, ie_c2le, ie_fn0, ie_fn1, ie_fn2, ie_fn3, Nat.reduceAdd, ie_nc, Int.reduceAdd, Int.reduceLE, Int.reduceToNat, Nat.reduceLT, Nat.reduceLeDiff, Int.reduceNeg, eq_self, true_and, and_true, true_or, or_true, Nat.reduceBEq, List.elem_cons, List.elem_nil, Bool.or_false, Bool.false_or, Bool.or_true, Bool.true_or, Bool.false_eq_true, if_false, if_true, reduceIte, reduceCtorEq, ne_eq, not_false_eq_true, Classical.not_not, List.length_cons, List.length_nil, Nat.zero_le, List.map_cons, List.map_nil, List.cons_append, List.nil_append, List.replicate_succ, List.replicate_zero, Nat.reduceSub, sX1_cheapestUnfilled_4, sX1_cheapestUnfilled_5, sX1_cheapestUnfilled_6, sX1_cheapestUnfilled_9, sX1_cheapestUnfilled_12, sX1_cheapestUnfilled_13, sX1_cheapestUnfilled_16, sX1_cheapestUnfilled_17, sX1_cheapestUnfilled_18, sX1_cheapestUnfilled_19, sX1_cheapestUnfilled_22, sX1_cheapestUnfilled_23, sX1_cheapestUnfilled_24, sX1_cheapestUnfilled_27, sX1_cheapestUnfilled_28, sX1_cheapestUnfilled_31, sX1_cheapestUnfilled_32, sX1_cheapestUnfilled_33, sX1_cheapestUnfilled_34, sX1_cheapestUnfilled_37, sX1_cheapestUnfilled_38, sX1_cheapestUnfilled_39, sX1_cheapestUnfilled_42, sX1_cheapestUnfilled_43, sX1_cheapestUnfilled_44, sX1_cheapestUnfilled_47, gfX1_15_18, gfX1_21_18, gfX1_27_18, ie_i1, ie_im1, ie_li1, ie_li2, ie_lr0, ie_ls1, ie_ls2, iv_ar_1, iv_ar_10, iv_ar_11, iv_ar_13, iv_ar_14, iv_ar_15, iv_ar_16, iv_ar_17, iv_ar_19, iv_ar_2, iv_ar_20, iv_ar_21, iv_ar_22, iv_ar_23, iv_ar_25, iv_ar_26, iv_ar_27, iv_ar_28, iv_ar_31, iv_ar_32, iv_ar_34, iv_ar_35, iv_ar_36, iv_ar_38, iv_ar_39, iv_ar_40, iv_ar_41, iv_ar_42, iv_ar_43, iv_ar_44, iv_ar_45, iv_ar_46, iv_ar_47, iv_ar_48, iv_ar_49, iv_ar_5, iv_ar_50, iv_ar_51, iv_ar_52, iv_ar_53, iv_ar_54, iv_ar_55, iv_ar_56, iv_ar_6, iv_ar_7, iv_ar_8, iv_ar_9, hs, zo, nI_1, z_cl (show i < 2 ^ 31 by omega), z_in (show i < 12 by omega) (by decide), z_cl (show a < 2 ^ 31 by omega), z_in (show a < 12 by omega) (by decide), z_ne (show a < 2 ^ 31 by omega)]
      refine ⟨fun h => absurd h (nI_ge hi (by omega)), fun _ => ⟨fun h2 => ?_, fun h2 => ⟨fun h3 => ?_, fun h3 => ?_⟩⟩⟩
      · simp only [cq, hDi, h2, decide_false, Bool.false_eq_true, if_false, hq, zo] at ih
        exact ih
      · have h4 : ¬ σ 22 i < σ 22 a := z_nlt.mpr h3
        simp only [cq, hDi, h2, decide_true, if_true, hq, h4, if_false, zo] at ih
        exact ih
      · have h4 : σ 22 i < σ 22 a := z_nle.mp h3
        simp only [cq, hDi, h2, decide_true, if_true, hq, h4, zo] at ih
        exact ih
set_option maxRecDepth 20000 in
set_option maxHeartbeats 4000000 in
theorem ct_fill {h : Nat} (hh : h < 12) (L : Int32) (M : Int32) (hM : pm (σ 21) (fun _ => true) (h + 1) L = M) : iv_Ct X mX1_fill (d + 2) [.inl 18, .inr (nI h), .inr L] σ (plQf h M σ) := by
  refine iv_ctl (own := RX1) (b := tbX1) (ls := [some (.inl 18), some (.inr (nI h)), some (.inr L), none, none]) (plainFor_of_name (by decide)) rfl okX1 (Nat.le_of_ble_eq_true rfl) rfl ?_
  refine iv_blk [5] 30 ?_
  simp only [iv_sn, ie_cl0, ie_cl1, ie_cl2, ie_cl3, ie_cl4, ie_cl5, ie_cl6, ie_cl7, ie_cl8, ie_v5_0, ie_v5_1, ie_v5_2, ie_v5_3, ie_v5_4, ie_v6_0, ie_v8_0, ie_v12_0, ie_v24_0, ie_v30_0, ie_v3380_0, true_implies, false_implies, not_true_eq_false, implies_true, ie_10, ie_m10, ie_mm, iv_u_eq, iv_u_ne, Nat.reduceEqDiff, ie_p1, ie_p2, ie_pr, ie_pa, ie_ps, ie_d1, ie_d2, ie_r1, ie_o, ie_gr, ie_gi, ie_pt, ie_pf, ie_ri, ie_rz, ie_br, ie_c1eq, ie_c1ne, ie_c1lt, ie_c1ge, ie_c1gt, ie_c1le, ie_c2eq, ie_c2ne, ie_c2lt, ie_c2ge, ie_c2gt, ie_c2le, ie_fn0, ie_fn1, ie_fn2, ie_fn3, Nat.reduceAdd, ie_nc, Int.reduceAdd, Int.reduceLE, Int.reduceToNat, Nat.reduceLT, Nat.reduceLeDiff, Int.reduceNeg, eq_self, true_and, and_true, true_or, or_true, Nat.reduceBEq, List.elem_cons, List.elem_nil, Bool.or_false, Bool.false_or, Bool.or_true, Bool.true_or, Bool.false_eq_true, if_false, if_true, reduceIte, reduceCtorEq, ne_eq, not_false_eq_true, Classical.not_not, List.length_cons, List.length_nil, Nat.zero_le, List.map_cons, List.map_nil, List.cons_append, List.nil_append, List.replicate_succ, List.replicate_zero, Nat.reduceSub, sX1_fill_0, sX1_fill_1, sX1_fill_2, sX1_fill_3, ie_i0, ie_li2, ie_li3, ie_li4, ie_ls3, ie_ls4]
  have key2 := z_down (n := h + 1) (P := fun i => ∀ (τ : iv_S), (∀ q, q ≠ 21 → τ q = σ q) → (∀ k, τ 21 k = if k < i then σ 21 k - M else σ 21 k) → iv_Sf X (d + 1) mX1_fill tbX1 (plQf h M σ) 32 [some (.inl 18), some (.inr (nI h)), some (.inr L), some (.inr M), some (.inr (nI i))] [] τ) ?_ ?_
  · refine z_down (n := h + 1) (P := fun i => iv_Sf X (d + 1) mX1_fill tbX1 (plQf h M σ) 5 [some (.inl 18), some (.inr (nI h)), some (.inr L), some (.inr (pm (σ 21) (fun _ => true) i L)), some (.inr (nI i))] [] σ) ?_ ?_
    · rw [hM]
      refine iv_blk [5, 32] 60 ?_
      simp only [iv_sn, ie_cl0, ie_cl1, ie_cl2, ie_cl3, ie_cl4, ie_cl5, ie_cl6, ie_cl7, ie_cl8, ie_v5_0, ie_v5_1, ie_v5_2, ie_v5_3, ie_v5_4, ie_v6_0, ie_v8_0, ie_v12_0, ie_v24_0, ie_v30_0, ie_v3380_0, true_implies, false_implies, not_true_eq_false, implies_true, ie_10, ie_m10, ie_mm, iv_u_eq, iv_u_ne, Nat.reduceEqDiff, ie_p1, ie_p2, ie_pr, ie_pa, ie_ps, ie_d1, ie_d2, ie_r1, ie_o, ie_gr, ie_gi, ie_pt, ie_pf, ie_ri, ie_rz, ie_br, ie_c1eq, ie_c1ne, ie_c1lt, ie_c1ge, ie_c1gt, ie_c1le, ie_c2eq, ie_c2ne, ie_c2lt, ie_c2ge, ie_c2gt, ie_c2le, ie_fn0, ie_fn1, ie_fn2, ie_fn3, Nat.reduceAdd, ie_nc, Int.reduceAdd, Int.reduceLE, Int.reduceToNat, Nat.reduceLT, Nat.reduceLeDiff, Int.reduceNeg, eq_self, true_and, and_true, true_or, or_true, Nat.reduceBEq, List.elem_cons, List.elem_nil, Bool.or_false, Bool.false_or, Bool.or_true, Bool.true_or, Bool.false_eq_true, if_false, if_true, reduceIte, reduceCtorEq, ne_eq, not_false_eq_true, Classical.not_not, List.length_cons, List.length_nil, Nat.zero_le, List.map_cons, List.map_nil, List.cons_append, List.nil_append, List.replicate_succ, List.replicate_zero, Nat.reduceSub, sX1_fill_5, sX1_fill_7, sX1_fill_8, ie_li1, ie_li4, iv_sn, ie_cl0, ie_cl1, ie_cl2, ie_cl3, ie_cl4, ie_cl5, ie_cl6, ie_cl7, ie_cl8, ie_v5_0, ie_v5_1, ie_v5_2, ie_v5_3, ie_v5_4, ie_v6_0, ie_v8_0, ie_v12_0, ie_v24_0, ie_v30_0, ie_v3380_0, true_implies, false_implies, not_true_eq_false, implies_true, ie_10, ie_m10, ie_mm, iv_u_eq, iv_u_ne, Nat.reduceEqDiff, ie_p1, ie_p2, ie_pr, ie_pa, ie_ps, ie_d1, ie_d2, ie_r1, ie_o, ie_gr, ie_gi, ie_pt, ie_pf, ie_ri, ie_rz, ie_br, ie_c1eq, ie_c1ne, ie_c1lt, ie_c1ge, ie_c1gt, ie_c1le, ie_c2eq, ie_c2ne, ie_c2lt, ie_c2ge, ie_c2gt, ie_c2le, ie_fn0, ie_fn1, ie_fn2, ie_fn3, Nat.reduceAdd, ie_nc, Int.reduceAdd, Int.reduceLE, Int.reduceToNat, Nat.reduceLT, Nat.reduceLeDiff, Int.reduceNeg, eq_self, true_and, and_true, true_or, or_true, Nat.reduceBEq, List.elem_cons, List.elem_nil, Bool.or_false, Bool.false_or, Bool.or_true, Bool.true_or, Bool.false_eq_true, if_false, if_true, reduceIte, reduceCtorEq, ne_eq, not_false_eq_true, Classical.not_not, List.length_cons, List.length_nil, Nat.zero_le, List.map_cons, List.map_nil, List.cons_append, List.nil_append, List.replicate_succ, List.replicate_zero, Nat.reduceSub, sX1_fill_29, sX1_fill_30, ie_i0, ie_li4, ie_ls4]
      exact ⟨fun _ => key2 σ (fun _ _ => rfl) (fun k => by simp), fun hx => absurd (nI_lt (by omega) (by omega)) hx⟩
    · intro i hi ih
      refine iv_blk [5, 32] 60 ?_
      simp only [iv_sn, ie_cl0, ie_cl1, ie_cl2, ie_cl3, ie_cl4, ie_cl5, ie_cl6, ie_cl7, ie_cl8, ie_v5_0, ie_v5_1, ie_v5_2, ie_v5_3, ie_v5_4, ie_v6_0, ie_v8_0, ie_v12_0, ie_v24_0, ie_v30_0, ie_v3380_0, true_implies, false_implies, not_true_eq_false, implies_true, ie_10, ie_m10, ie_mm, iv_u_eq, iv_u_ne, Nat.reduceEqDiff, ie_p1, ie_p2, ie_pr, ie_pa, ie_ps, ie_d1, ie_d2, ie_r1, ie_o, ie_gr, ie_gi, ie_pt, ie_pf, ie_ri, ie_rz, ie_br, ie_c1eq, ie_c1ne, ie_c1lt, ie_c1ge, ie_c1gt, ie_c1le, ie_c2eq, ie_c2ne, ie_c2lt, ie_c2ge, ie_c2gt, ie_c2le, ie_fn0, ie_fn1, ie_fn2, ie_fn3, Nat.reduceAdd, ie_nc, Int.reduceAdd, Int.reduceLE, Int.reduceToNat, Nat.reduceLT, Nat.reduceLeDiff, Int.reduceNeg, eq_self, true_and, and_true, true_or, or_true, Nat.reduceBEq, List.elem_cons, List.elem_nil, Bool.or_false, Bool.false_or, Bool.or_true, Bool.true_or, Bool.false_eq_true, if_false, if_true, reduceIte, reduceCtorEq, ne_eq, not_false_eq_true, Classical.not_not, List.length_cons, List.length_nil, Nat.zero_le, List.map_cons, List.map_nil, List.cons_append, List.nil_append, List.replicate_succ, List.replicate_zero, Nat.reduceSub, sX1_fill_5, sX1_fill_7, sX1_fill_8, sX1_fill_11, sX1_fill_12, sX1_fill_13, sX1_fill_16, sX1_fill_18, sX1_fill_19, sX1_fill_22, sX1_fill_23, sX1_fill_26, cvX1_52, gfX1_18_18, ie_call1, ie_call2, ie_call3, ie_call4, ie_call5, ie_call6, ie_call7, ie_call8, ie_i1, ie_li1, ie_li3, ie_li4, ie_lr0, ie_ls3, ie_ls4, iv_ar_1, iv_ar_10, iv_ar_11, iv_ar_13, iv_ar_14, iv_ar_15, iv_ar_16, iv_ar_17, iv_ar_19, iv_ar_2, iv_ar_20, iv_ar_21, iv_ar_22, iv_ar_23, iv_ar_25, iv_ar_26, iv_ar_27, iv_ar_28, iv_ar_31, iv_ar_32, iv_ar_34, iv_ar_35, iv_ar_36, iv_ar_38, iv_ar_39, iv_ar_40, iv_ar_41, iv_ar_42, iv_ar_43, iv_ar_44, iv_ar_45, iv_ar_46, iv_ar_47, iv_ar_48, iv_ar_49, iv_ar_5, iv_ar_50, iv_ar_51, iv_ar_52, iv_ar_53, iv_ar_54, iv_ar_55, iv_ar_56, iv_ar_6, iv_ar_7, iv_ar_8, iv_ar_9, nI_1, z_cl (show i < 2 ^ 31 by omega), z_in (show i < 12 by omega) (by decide)]
      refine ⟨fun hx => absurd hx (nI_nlt (by omega) (by omega)), fun _ => ?_⟩
      refine ⟨_, ct_min _ _, ?_⟩
      rintro r1 σ1 ⟨rfl, hs1⟩
      subst hs1
      rw [pm_T rfl] at ih
      exact ih
  · intro τ f1 f2
    refine iv_blk [32] 60 ?_
    simp only [iv_sn, ie_cl0, ie_cl1, ie_cl2, ie_cl3, ie_cl4, ie_cl5, ie_cl6, ie_cl7, ie_cl8, ie_v5_0, ie_v5_1, ie_v5_2, ie_v5_3, ie_v5_4, ie_v6_0, ie_v8_0, ie_v12_0, ie_v24_0, ie_v30_0, ie_v3380_0, true_implies, false_implies, not_true_eq_false, implies_true, ie_10, ie_m10, ie_mm, iv_u_eq, iv_u_ne, Nat.reduceEqDiff, ie_p1, ie_p2, ie_pr, ie_pa, ie_ps, ie_d1, ie_d2, ie_r1, ie_o, ie_gr, ie_gi, ie_pt, ie_pf, ie_ri, ie_rz, ie_br, ie_c1eq, ie_c1ne, ie_c1lt, ie_c1ge, ie_c1gt, ie_c1le, ie_c2eq, ie_c2ne, ie_c2lt, ie_c2ge, ie_c2gt, ie_c2le, ie_fn0, ie_fn1, ie_fn2, ie_fn3, Nat.reduceAdd, ie_nc, Int.reduceAdd, Int.reduceLE, Int.reduceToNat, Nat.reduceLT, Nat.reduceLeDiff, Int.reduceNeg, eq_self, true_and, and_true, true_or, or_true, Nat.reduceBEq, List.elem_cons, List.elem_nil, Bool.or_false, Bool.false_or, Bool.or_true, Bool.true_or, Bool.false_eq_true, if_false, if_true, reduceIte, reduceCtorEq, ne_eq, not_false_eq_true, Classical.not_not, List.length_cons, List.length_nil, Nat.zero_le, List.map_cons, List.map_nil, List.cons_append, List.nil_append, List.replicate_succ, List.replicate_zero, Nat.reduceSub, sX1_fill_32, sX1_fill_34, sX1_fill_35, ie_li1, ie_li4, iv_sn, ie_cl0, ie_cl1, ie_cl2, ie_cl3, ie_cl4, ie_cl5, ie_cl6, ie_cl7, ie_cl8, ie_v5_0, ie_v5_1, ie_v5_2, ie_v5_3, ie_v5_4, ie_v6_0, ie_v8_0, ie_v12_0, ie_v24_0, ie_v30_0, ie_v3380_0, true_implies, false_implies, not_true_eq_false, implies_true, ie_10, ie_m10, ie_mm, iv_u_eq, iv_u_ne, Nat.reduceEqDiff, ie_p1, ie_p2, ie_pr, ie_pa, ie_ps, ie_d1, ie_d2, ie_r1, ie_o, ie_gr, ie_gi, ie_pt, ie_pf, ie_ri, ie_rz, ie_br, ie_c1eq, ie_c1ne, ie_c1lt, ie_c1ge, ie_c1gt, ie_c1le, ie_c2eq, ie_c2ne, ie_c2lt, ie_c2ge, ie_c2gt, ie_c2le, ie_fn0, ie_fn1, ie_fn2, ie_fn3, Nat.reduceAdd, ie_nc, Int.reduceAdd, Int.reduceLE, Int.reduceToNat, Nat.reduceLT, Nat.reduceLeDiff, Int.reduceNeg, eq_self, true_and, and_true, true_or, or_true, Nat.reduceBEq, List.elem_cons, List.elem_nil, Bool.or_false, Bool.false_or, Bool.or_true, Bool.true_or, Bool.false_eq_true, if_false, if_true, reduceIte, reduceCtorEq, ne_eq, not_false_eq_true, Classical.not_not, List.length_cons, List.length_nil, Nat.zero_le, List.map_cons, List.map_nil, List.cons_append, List.nil_append, List.replicate_succ, List.replicate_zero, Nat.reduceSub, sX1_fill_55, sX1_fill_56, sX1_fill_59, sX1_fill_60, sX1_fill_61, sX1_fill_62, gfX1_15_18, ie_li1, ie_li3, ie_lr0, iv_ar_1, iv_ar_10, iv_ar_11, iv_ar_13, iv_ar_14, iv_ar_15, iv_ar_16, iv_ar_17, iv_ar_19, iv_ar_2, iv_ar_20, iv_ar_21, iv_ar_22, iv_ar_23, iv_ar_25, iv_ar_26, iv_ar_27, iv_ar_28, iv_ar_31, iv_ar_32, iv_ar_34, iv_ar_35, iv_ar_36, iv_ar_38, iv_ar_39, iv_ar_40, iv_ar_41, iv_ar_42, iv_ar_43, iv_ar_44, iv_ar_45, iv_ar_46, iv_ar_47, iv_ar_48, iv_ar_49, iv_ar_5, iv_ar_50, iv_ar_51, iv_ar_52, iv_ar_53, iv_ar_54, iv_ar_55, iv_ar_56, iv_ar_6, iv_ar_7, iv_ar_8, iv_ar_9, z_cl (show h < 2 ^ 31 by omega), z_in hh (by decide)]
    refine ⟨fun _ => ⟨fun q q1 q2 => ?_, ?_, fun k => ?_⟩, fun hx => absurd (nI_lt (by omega) (by omega)) hx⟩
    · rw [iv_u_ne q1]; exact f1 q q2
    · rw [iv_u_eq, f1 20 (by decide)]
    · rw [iv_u_ne (by decide)]; exact f2 k
  · intro i hi ih τ f1 f2
    refine iv_blk [32] 60 ?_
    simp only [iv_sn, ie_cl0, ie_cl1, ie_cl2, ie_cl3, ie_cl4, ie_cl5, ie_cl6, ie_cl7, ie_cl8, ie_v5_0, ie_v5_1, ie_v5_2, ie_v5_3, ie_v5_4, ie_v6_0, ie_v8_0, ie_v12_0, ie_v24_0, ie_v30_0, ie_v3380_0, true_implies, false_implies, not_true_eq_false, implies_true, ie_10, ie_m10, ie_mm, iv_u_eq, iv_u_ne, Nat.reduceEqDiff, ie_p1, ie_p2, ie_pr, ie_pa, ie_ps, ie_d1, ie_d2, ie_r1, ie_o, ie_gr, ie_gi, ie_pt, ie_pf, ie_ri, ie_rz, ie_br, ie_c1eq, ie_c1ne, ie_c1lt, ie_c1ge, ie_c1gt, ie_c1le, ie_c2eq, ie_c2ne, ie_c2lt, ie_c2ge, ie_c2gt, ie_c2le, ie_fn0, ie_fn1, ie_fn2, ie_fn3, Nat.reduceAdd, ie_nc, Int.reduceAdd, Int.reduceLE, Int.reduceToNat, Nat.reduceLT, Nat.reduceLeDiff, Int.reduceNeg, eq_self, true_and, and_true, true_or, or_true, Nat.reduceBEq, List.elem_cons, List.elem_nil, Bool.or_false, Bool.false_or, Bool.or_true, Bool.true_or, Bool.false_eq_true, if_false, if_true, reduceIte, reduceCtorEq, ne_eq, not_false_eq_true, Classical.not_not, List.length_cons, List.length_nil, Nat.zero_le, List.map_cons, List.map_nil, List.cons_append, List.nil_append, List.replicate_succ, List.replicate_zero, Nat.reduceSub, sX1_fill_32, sX1_fill_34, sX1_fill_35, sX1_fill_38, sX1_fill_39, sX1_fill_42, sX1_fill_44, sX1_fill_45, sX1_fill_46, sX1_fill_47, sX1_fill_48, sX1_fill_49, sX1_fill_52, gfX1_18_18, ie_i1, ie_li1, ie_li3, ie_li4, ie_lr0, ie_ls4, iv_ar_1, iv_ar_10, iv_ar_11, iv_ar_13, iv_ar_14, iv_ar_15, iv_ar_16, iv_ar_17, iv_ar_19, iv_ar_2, iv_ar_20, iv_ar_21, iv_ar_22, iv_ar_23, iv_ar_25, iv_ar_26, iv_ar_27, iv_ar_28, iv_ar_31, iv_ar_32, iv_ar_34, iv_ar_35, iv_ar_36, iv_ar_38, iv_ar_39, iv_ar_40, iv_ar_41, iv_ar_42, iv_ar_43, iv_ar_44, iv_ar_45, iv_ar_46, iv_ar_47, iv_ar_48, iv_ar_49, iv_ar_5, iv_ar_50, iv_ar_51, iv_ar_52, iv_ar_53, iv_ar_54, iv_ar_55, iv_ar_56, iv_ar_6, iv_ar_7, iv_ar_8, iv_ar_9, nI_1, z_cl (show i < 2 ^ 31 by omega), z_in (show i < 12 by omega) (by decide)]
    refine ⟨fun hx => absurd hx (nI_nlt (by omega) (by omega)), fun _ => ih _ ?_ ?_⟩
    · intro q hq
      rw [iv_u_ne hq]; exact f1 q hq
    · intro k
      rw [iv_u_eq]
      by_cases hk : k = i
      · subst hk
        rw [upd_same, f2 k]
        simp
      · rw [upd_ne hk, f2 k]
        by_cases hki : k < i
        · simp [hki, show k < i + 1 by omega]
        · simp [hki, show ¬ k < i + 1 by omega]
set_option maxRecDepth 20000 in
set_option maxHeartbeats 4000000 in
theorem ct_keepDraft {n : Nat} (hs : σ 18 5 = nI n) (hn : n ≤ 12) : iv_Ct X mX1_keepDraft (d + 1) [.inl 18] σ (plQk n σ) := by
  refine iv_ctl (own := RX1) (b := tbX1) (ls := [some (.inl 18), none, none]) (plainFor_of_name (by decide)) rfl okX1 (Nat.le_of_ble_eq_true rfl) rfl ?_
  refine iv_blk [4] 30 ?_
  simp only [iv_sn, ie_cl0, ie_cl1, ie_cl2, ie_cl3, ie_cl4, ie_cl5, ie_cl6, ie_cl7, ie_cl8, ie_v5_0, ie_v5_1, ie_v5_2, ie_v5_3, ie_v5_4, ie_v6_0, ie_v8_0, ie_v12_0, ie_v24_0, ie_v30_0, ie_v3380_0, true_implies, false_implies, not_true_eq_false, implies_true, ie_10, ie_m10, ie_mm, iv_u_eq, iv_u_ne, Nat.reduceEqDiff, ie_p1, ie_p2, ie_pr, ie_pa, ie_ps, ie_d1, ie_d2, ie_r1, ie_o, ie_gr, ie_gi, ie_pt, ie_pf, ie_ri, ie_rz, ie_br, ie_c1eq, ie_c1ne, ie_c1lt, ie_c1ge, ie_c1gt, ie_c1le, ie_c2eq, ie_c2ne, ie_c2lt, ie_c2ge, ie_c2gt, ie_c2le, ie_fn0, ie_fn1, ie_fn2, ie_fn3, Nat.reduceAdd, ie_nc, Int.reduceAdd, Int.reduceLE, Int.reduceToNat, Nat.reduceLT, Nat.reduceLeDiff, Int.reduceNeg, eq_self, true_and, and_true, true_or, or_true, Nat.reduceBEq, List.elem_cons, List.elem_nil, Bool.or_false, Bool.false_or, Bool.or_true, Bool.true_or, Bool.false_eq_true, if_false, if_true, reduceIte, reduceCtorEq, ne_eq, not_false_eq_true, Classical.not_not, List.length_cons, List.length_nil, Nat.zero_le, List.map_cons, List.map_nil, List.cons_append, List.nil_append, List.replicate_succ, List.replicate_zero, Nat.reduceSub, sX1_keepDraft_0, sX1_keepDraft_1, sX1_keepDraft_2, sX1_keepDraft_3, ie_i0, ie_li1, ie_li2, ie_ls1, ie_ls2]
  have key := z_down (n := n) (P := fun i => ∀ (τ : iv_S), (∀ q, q ≠ 23 → τ q = σ q) → (∀ t, t < i → τ 23 t = σ 20 t) → iv_Sf X d mX1_keepDraft tbX1 (plQk n σ) 4 [some (.inl 18), some (.inr (ps (fun i => σ 20 i * σ 22 i) i)), some (.inr (nI i))] [] τ) ?_ ?_
  · exact key σ (fun _ _ => rfl) (fun t ht => by omega)
  · intro τ f1 f2
    have e18 := f1 18 (by decide)
    refine iv_blk [4] 60 ?_
    simp only [iv_sn, ie_cl0, ie_cl1, ie_cl2, ie_cl3, ie_cl4, ie_cl5, ie_cl6, ie_cl7, ie_cl8, ie_v5_0, ie_v5_1, ie_v5_2, ie_v5_3, ie_v5_4, ie_v6_0, ie_v8_0, ie_v12_0, ie_v24_0, ie_v30_0, ie_v3380_0, true_implies, false_implies, not_true_eq_false, implies_true, ie_10, ie_m10, ie_mm, iv_u_eq, iv_u_ne, Nat.reduceEqDiff, ie_p1, ie_p2, ie_pr, ie_pa, ie_ps, ie_d1, ie_d2, ie_r1, ie_o, ie_gr, ie_gi, ie_pt, ie_pf, ie_ri, ie_rz, ie_br, ie_c1eq, ie_c1ne, ie_c1lt, ie_c1ge, ie_c1gt, ie_c1le, ie_c2eq, ie_c2ne, ie_c2lt, ie_c2ge, ie_c2gt, ie_c2le, ie_fn0, ie_fn1, ie_fn2, ie_fn3, Nat.reduceAdd, ie_nc, Int.reduceAdd, Int.reduceLE, Int.reduceToNat, Nat.reduceLT, Nat.reduceLeDiff, Int.reduceNeg, eq_self, true_and, and_true, true_or, or_true, Nat.reduceBEq, List.elem_cons, List.elem_nil, Bool.or_false, Bool.false_or, Bool.or_true, Bool.true_or, Bool.false_eq_true, if_false, if_true, reduceIte, reduceCtorEq, ne_eq, not_false_eq_true, Classical.not_not, List.length_cons, List.length_nil, Nat.zero_le, List.map_cons, List.map_nil, List.cons_append, List.nil_append, List.replicate_succ, List.replicate_zero, Nat.reduceSub, sX1_keepDraft_4, sX1_keepDraft_5, sX1_keepDraft_6, sX1_keepDraft_9, gfX1_27_18, ie_li2, ie_lr0, iv_sn, ie_cl0, ie_cl1, ie_cl2, ie_cl3, ie_cl4, ie_cl5, ie_cl6, ie_cl7, ie_cl8, ie_v5_0, ie_v5_1, ie_v5_2, ie_v5_3, ie_v5_4, ie_v6_0, ie_v8_0, ie_v12_0, ie_v24_0, ie_v30_0, ie_v3380_0, true_implies, false_implies, not_true_eq_false, implies_true, ie_10, ie_m10, ie_mm, iv_u_eq, iv_u_ne, Nat.reduceEqDiff, ie_p1, ie_p2, ie_pr, ie_pa, ie_ps, ie_d1, ie_d2, ie_r1, ie_o, ie_gr, ie_gi, ie_pt, ie_pf, ie_ri, ie_rz, ie_br, ie_c1eq, ie_c1ne, ie_c1lt, ie_c1ge, ie_c1gt, ie_c1le, ie_c2eq, ie_c2ne, ie_c2lt, ie_c2ge, ie_c2gt, ie_c2le, ie_fn0, ie_fn1, ie_fn2, ie_fn3, Nat.reduceAdd, ie_nc, Int.reduceAdd, Int.reduceLE, Int.reduceToNat, Nat.reduceLT, Nat.reduceLeDiff, Int.reduceNeg, eq_self, true_and, and_true, true_or, or_true, Nat.reduceBEq, List.elem_cons, List.elem_nil, Bool.or_false, Bool.false_or, Bool.or_true, Bool.true_or, Bool.false_eq_true, if_false, if_true, reduceIte, reduceCtorEq, ne_eq, not_false_eq_true, Classical.not_not, List.length_cons, List.length_nil, Nat.zero_le, List.map_cons, List.map_nil, List.cons_append, List.nil_append, List.replicate_succ, List.replicate_zero, Nat.reduceSub, sX1_keepDraft_46, sX1_keepDraft_47, sX1_keepDraft_48, sX1_keepDraft_51, sX1_keepDraft_54, sX1_keepDraft_55, gfX1_27_18, gfX1_55_18, ie_li1, ie_lr0, e18, hs]
    refine ⟨fun _ => ⟨rfl, fun q q1 q2 => ?_, ?_, fun i hi => ?_⟩, fun hx => absurd (z_nn (by omega)) hx⟩
    · rw [iv_u_ne q1]; exact f1 q q2
    · rw [iv_u_eq, e18]
    · rw [iv_u_ne (by decide)]; exact f2 i hi
  · intro i hi ih τ f1 f2
    have e18 := f1 18 (by decide)
    have e20 := f1 20 (by decide)
    have e22 := f1 22 (by decide)
    refine iv_blk [4] 60 ?_
    simp only [iv_sn, ie_cl0, ie_cl1, ie_cl2, ie_cl3, ie_cl4, ie_cl5, ie_cl6, ie_cl7, ie_cl8, ie_v5_0, ie_v5_1, ie_v5_2, ie_v5_3, ie_v5_4, ie_v6_0, ie_v8_0, ie_v12_0, ie_v24_0, ie_v30_0, ie_v3380_0, true_implies, false_implies, not_true_eq_false, implies_true, ie_10, ie_m10, ie_mm, iv_u_eq, iv_u_ne, Nat.reduceEqDiff, ie_p1, ie_p2, ie_pr, ie_pa, ie_ps, ie_d1, ie_d2, ie_r1, ie_o, ie_gr, ie_gi, ie_pt, ie_pf, ie_ri, ie_rz, ie_br, ie_c1eq, ie_c1ne, ie_c1lt, ie_c1ge, ie_c1gt, ie_c1le, ie_c2eq, ie_c2ne, ie_c2lt, ie_c2ge, ie_c2gt, ie_c2le, ie_fn0, ie_fn1, ie_fn2, ie_fn3, Nat.reduceAdd, ie_nc, Int.reduceAdd, Int.reduceLE, Int.reduceToNat, Nat.reduceLT, Nat.reduceLeDiff, Int.reduceNeg, eq_self, true_and, and_true, true_or, or_true, Nat.reduceBEq, List.elem_cons, List.elem_nil, Bool.or_false, Bool.false_or, Bool.or_true, Bool.true_or, Bool.false_eq_true, if_false, if_true, reduceIte, reduceCtorEq, ne_eq, not_false_eq_true, Classical.not_not, List.length_cons, List.length_nil, Nat.zero_le, List.map_cons, List.map_nil, List.cons_append, List.nil_append, List.replicate_succ, List.replicate_zero, Nat.reduceSub, sX1_keepDraft_4, sX1_keepDraft_5, sX1_keepDraft_6, sX1_keepDraft_9, sX1_keepDraft_12, sX1_keepDraft_13, sX1_keepDraft_16, sX1_keepDraft_17, sX1_keepDraft_18, sX1_keepDraft_21, sX1_keepDraft_22, sX1_keepDraft_23, sX1_keepDraft_24, sX1_keepDraft_25, sX1_keepDraft_26, sX1_keepDraft_29, sX1_keepDraft_30, sX1_keepDraft_31, sX1_keepDraft_32, sX1_keepDraft_35, sX1_keepDraft_36, sX1_keepDraft_37, sX1_keepDraft_38, sX1_keepDraft_39, sX1_keepDraft_40, sX1_keepDraft_43, gfX1_15_18, gfX1_21_18, gfX1_24_18, gfX1_27_18, ie_i1, ie_li1, ie_li2, ie_lr0, ie_ls1, ie_ls2, iv_ar_1, iv_ar_10, iv_ar_11, iv_ar_13, iv_ar_14, iv_ar_15, iv_ar_16, iv_ar_17, iv_ar_19, iv_ar_2, iv_ar_20, iv_ar_21, iv_ar_22, iv_ar_23, iv_ar_25, iv_ar_26, iv_ar_27, iv_ar_28, iv_ar_31, iv_ar_32, iv_ar_34, iv_ar_35, iv_ar_36, iv_ar_38, iv_ar_39, iv_ar_40, iv_ar_41, iv_ar_42, iv_ar_43, iv_ar_44, iv_ar_45, iv_ar_46, iv_ar_47, iv_ar_48, iv_ar_49, iv_ar_5, iv_ar_50, iv_ar_51, iv_ar_52, iv_ar_53, iv_ar_54, iv_ar_55, iv_ar_56, iv_ar_6, iv_ar_7, iv_ar_8, iv_ar_9, e18, hs, nI_1, z_cl (show i < 2 ^ 31 by omega), z_in (show i < 12 by omega) (by decide), e20, e22, iv_u_ne, ne_eq, Nat.reduceEqDiff, not_false_eq_true]
    refine ⟨fun hx => absurd hx (nI_ge hi (by omega)), fun _ => ?_⟩
    refine ih _ ?_ ?_
    · intro q hq
      rw [iv_u_ne hq]; exact f1 q hq
    · intro t ht
      rw [iv_u_eq]
      by_cases hti : t = i
      · subst hti; rw [upd_same]
      · rw [upd_ne hti]; exact f2 t (by omega)
end YI
