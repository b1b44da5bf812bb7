def plQ (n L : Nat) (nd pr : Nat → Nat) (σ : iv_S) (r : Int32) (u : iv_S) : Prop := (∀ q, q ≠ 18 → q ≠ 20 → q ≠ 21 → q ≠ 22 → q ≠ 23 → u q = σ q) ∧ (∀ j, j ≠ 6 → u 18 j = σ 18 j) ∧
  ∃ x : Nat → Nat, (∀ c, plO n L nd pr c → ∀ j, j < n → x j = c j) ∧ ((plF n L nd x ∧ r = nI (plC pr x n) ∧ u 18 6 = nI n ∧ ∀ i, i < n → u 23 i = nI (x i)) ∨ (¬ su x n = su nd n ∧ r = -2 ∧ u 18 6 = σ 18 6 ∧ u 23 = σ 23))
theorem ps_nI {f : Nat → Int32} {g : Nat → Nat} : ∀ {n : Nat}, (∀ i, i < n → f i = nI (g i)) → ps f n = nI (su g n)
  | 0, _ => nI_0.symm
  | n + 1, h => by
    simp only [ps, su]
    rw [ps_nI (fun i hi => h i (by omega)), h n (by omega), nI_add]
theorem zc_all {f : Nat → Bool} : ∀ {n : Nat}, zc f n = n → ∀ c, c < n → f c = true
  | 0, _, c, hc => by omega
  | n + 1, h, c, hc => by
    have h1 := zc_le f n
    simp only [zc] at h
    cases hf : f n with
    | false => rw [hf] at h; simp at h; omega
    | true =>
      rw [hf] at h
      simp at h
      by_cases hcn : c = n
      · subst hcn; exact hf
      · exact zc_all h c (by omega)
/-- how far the draft is -/
def plI (n L : Nat) (nd pr : Nat → Nat) (F : Nat → Bool) (x : Nat → Nat) (σ τ : iv_S) : Prop :=
  (∀ q, q ≠ 20 → q ≠ 21 → q ≠ 22 → τ q = σ q) ∧ (∀ j, j < n → τ 22 j = nI (pr j)) ∧ (∀ j, j < n → F j = true → τ 20 j = nI (x j) ∧ x j ≤ L) ∧ (∀ j, j < n → F j = false → τ 20 j = -1) ∧ (∀ j, F j = false → x j = 0) ∧
  (∀ k, k < n → ∃ m, τ 21 k = nI m ∧ m + su x n + su nd k = su nd n + su x k) ∧ (∀ c, plO n L nd pr c → ∀ j, j < n → F j = true → x j = c j)
theorem su_one {x x' : Nat → Nat} {h v : Nat} (h1 : x' h = x h + v) (h2 : ∀ j, j ≠ h → x' j = x j) : ∀ t, su x' t = su x t + (if h < t then v else 0)
  | 0 => by simp [su]
  | t + 1 => by
    rw [su_s, su_s, su_one h1 h2 t]
    by_cases ht : t = h
    · subst ht
      simp [h1]
      omega
    · rw [h2 t ht]
      by_cases hl : h < t
      · simp [hl, show h < t + 1 by omega]; omega
      · simp [hl, show ¬ h < t + 1 by omega]
theorem pl_step {n L h : Nat} {nd pr : Nat → Nat} {F : Nat → Bool} {x : Nat → Nat} {σ τ u : iv_S} {M : Int32} (hn : n ≤ 12) (hL : L ≤ 20) (hnd : ∀ i, i < n → nd i ≤ 20) (hpr : ∀ i, i < n → pr i ≤ 1000) (hI : plI n L nd pr F x σ τ) (hq : cq (fun i => decide (τ 20 i = -1)) (τ 22) n = some h) (hM : pm (τ 21) (fun _ => true) (h + 1) (nI L) = M) (hu : plQf h M τ 0 u) :
    ∃ (F' : Nat → Bool) (x' : Nat → Nat), plI n L nd pr F' x' σ u ∧ zc F' n = zc F n + 1 := by
  obtain ⟨i1, i2, i3, i4, i5, i6, i7⟩ := hI
  obtain ⟨u1, u2, u3⟩ := hu
  obtain ⟨hh, hD⟩ := cq_lt hq
  have hbest := cq_best hq
  have hFh : F h = false := by
    cases hF : F h with
    | false => rfl
    | true =>
      have := (i3 h hh hF).1
      simp only [decide_eq_true_eq] at hD
      rw [this] at hD
      have hxl := (i3 h hh hF).2
      exact absurd hD (z_ne (by omega))
  have hsb : su nd n ≤ 20 * n := su_bound hnd
  obtain ⟨um, hum⟩ : ∃ um : Nat → Nat, ∀ k, k < n → τ 21 k = nI (um k) ∧ um k + su x n + su nd k = su nd n + su x k := by
    refine ⟨fun k => su nd n + su x k - su x n - su nd k, fun k hk => ?_⟩
    obtain ⟨m, m1, m2⟩ := i6 k hk
    have : su nd n + su x k - su x n - su nd k = m := by omega
    dsimp only
    rw [this]
    exact ⟨m1, m2⟩
  have humb : ∀ k, k < n → um k < 2 ^ 31 := by
    intro k hk
    obtain ⟨-, m2⟩ := hum k hk
    have := su_mono x (show k ≤ n by omega)
    omega
  obtain ⟨most, p1, p2, p3, p4⟩ := pm_min (f := τ 21) (um := um) (L := L) (by omega) (h + 1) (fun k hk => ⟨(hum k (by omega)).1, humb k (by omega)⟩)
  rw [p1] at hM
  subst hM
  generalize hx' : (fun j => if j = h then most else x j) = x'
  have e1 : x' h = x h + most := by rw [← hx', i5 h hFh]; simp
  have e2 : ∀ j, j ≠ h → x' j = x j := fun j hj => by rw [← hx']; simp [hj]
  have es := su_one e1 e2
  have esn : su x' n = su x n + most := by rw [es n]; simp [hh]
  refine ⟨fun j => F j || decide (j = h), x', ⟨?_, ?_, ?_, ?_, ?_, ?_, ?_⟩, ?_⟩
  · intro q q1 q2 q3
    rw [u1 q q1 q2]; exact i1 q q1 q2 q3
  · intro j hj
    rw [u1 22 (by decide) (by decide)]; exact i2 j hj
  · intro j hj hF
    rw [u2]
    by_cases hjh : j = h
    · subst hjh
      rw [upd_same, e1, i5 j hFh]
      exact ⟨by rw [Nat.zero_add], by omega⟩
    · rw [upd_ne hjh, e2 j hjh]
      simp [hjh] at hF
      exact i3 j hj hF
  · intro j hj hF
    simp at hF
    rw [u2, upd_ne hF.2]
    exact i4 j hj hF.1
  · intro j hF
    simp at hF
    rw [e2 j hF.2]
    exact i5 j hF.1
  · intro k hk
    obtain ⟨m1, m2⟩ := hum k hk
    rw [u3 k]
    by_cases hkh : k < h + 1
    · have hle := p3 k hkh
      simp only [hkh, if_true, m1]
      refine ⟨um k - most, pk_sub hle, ?_⟩
      have := es k
      simp only [show ¬ h < k by omega, if_false] at this
      omega
    · simp only [hkh, if_false]
      refine ⟨um k, m1, ?_⟩
      have := es k
      simp only [show h < k by omega, if_true] at this
      omega
  · intro c hc j hj hF
    by_cases hjh : j = h
    · subst hjh
      rw [e1, i5 j hFh, Nat.zero_add]
      refine pl_fill hc (F := F) (x := x) hh hFh (fun t ht hF => i7 c hc t ht hF) i5 ?_ p2 ?_ ?_
      · intro g hg hFg hgj
        have := hbest g hg (by simp [i4 g hg hFg]) hgj
        rw [i2 j hh, i2 g hg, nI_ltI (by have := hpr j hh; omega) (by have := hpr g hg; omega), nI_eq (by have := hpr j hh; omega) (by have := hpr g hg; omega)] at this
        exact this
      · intro k hk
        have := p3 k (by omega)
        have := (hum k (by omega)).2
        omega
      · rcases p4 with e | ⟨k, hk, e⟩
        · exact Or.inl e
        · refine Or.inr ⟨k, by omega, ?_⟩
          have := (hum k (by omega)).2
          omega
    · rw [e2 j hjh]
      simp [hjh] at hF
      exact i7 c hc j hj hF
  · exact (zc_del (f := fun j => F j || decide (j = h)) (g := F) (c := h) (by simp) hFh (fun q hq => by simp [hq]) n hh).symm
section YJ
variable {X : iv_X} {d : Nat} {σ : iv_S}
set_option maxRecDepth 20000 in
set_option maxHeartbeats 4000000 in
theorem ct_keepLeast {n L h : Nat} {nd pr : Nat → Nat} (hs : σ 18 5 = nI n) (hn : n ≤ 12) (hL : L ≤ 20) (hh : h ≤ 10000) (hnd : ∀ i, i < n → σ 19 i = nI (nd i) ∧ nd i ≤ 20) (hpr : ∀ i, i < n → σ 2 ((h + i) % 24) = nI (pr i) ∧ pr i ≤ 1000) : iv_Ct X mX1_keepLeast (d + 3) [.inl 18, .inl 2, .inr (nI h), .inr (nI L)] σ (plQ n L nd pr σ) := by
  refine iv_ctl (own := RX1) (b := tbX1) (ls := [some (.inl 18), some (.inl 2), some (.inr (nI h)), some (.inr (nI L)), none, none]) (plainFor_of_name (by decide)) rfl okX1 (Nat.le_of_ble_eq_true rfl) rfl ?_
  refine iv_blk [9] 30 ?_
  simp only [iv_sn, ie_cl0, ie_cl1, ie_cl2, ie_cl3, ie_cl4, ie_cl5, ie_cl6, ie_cl7, ie_cl8, ie_v5_0, ie_v5_1, ie_v5_2, ie_v5_3, ie_v5_4, ie_v6_0, ie_v8_0, ie_v12_0, ie_v24_0, ie_v30_0, ie_v3380_0, true_implies, false_implies, not_true_eq_false, implies_true, ie_10, ie_m10, ie_mm, iv_u_eq, iv_u_ne, Nat.reduceEqDiff, ie_p1, ie_p2, ie_pr, ie_pa, ie_ps, ie_d1, ie_d2, ie_r1, ie_o, ie_gr, ie_gi, ie_pt, ie_pf, ie_ri, ie_rz, ie_br, ie_c1eq, ie_c1ne, ie_c1lt, ie_c1ge, ie_c1gt, ie_c1le, ie_c2eq, ie_c2ne, ie_c2lt, ie_c2ge, ie_c2gt, ie_c2le, ie_fn0, ie_fn1, ie_fn2, ie_fn3, Nat.reduceAdd, ie_nc, Int.reduceAdd, Int.reduceLE, Int.reduceToNat, Nat.reduceLT, Nat.reduceLeDiff, Int.reduceNeg, eq_self, true_and, and_true, true_or, or_true, Nat.reduceBEq, List.elem_cons, List.elem_nil, Bool.or_false, Bool.false_or, Bool.or_true, Bool.true_or, Bool.false_eq_true, if_false, if_true, reduceIte, reduceCtorEq, ne_eq, not_false_eq_true, Classical.not_not, List.length_cons, List.length_nil, Nat.zero_le, List.map_cons, List.map_nil, List.cons_append, List.nil_append, List.replicate_succ, List.replicate_zero, Nat.reduceSub, sX1_keepLeast_0, sX1_keepLeast_1, sX1_keepLeast_2, sX1_keepLeast_3, sX1_keepLeast_6, sX1_keepLeast_7, cvX1_31, ie_call1, ie_call2, ie_call3, ie_call4, ie_call5, ie_call6, ie_call7, ie_call8, ie_i0, ie_li2, ie_li4, ie_lr0, ie_lr1, ie_ls4, ie_rc1, ie_rc2, ie_rc3, ie_rc4, ie_rc5, ie_rc6, ie_rc7, ie_rc8, iv_cls_0, iv_cls_12, iv_cls_18, iv_cls_24, iv_cls_29, iv_cls_3, iv_cls_30, iv_cls_33, iv_cls_37, iv_cls_4]
  refine ⟨_, ct_pbegin hs hn hh (fun i hi => (hnd i hi).1), ?_⟩
  rintro r1 σ1 ⟨g1, g2⟩
  have key := z_down (n := n) (P := fun s => ∀ (τ : iv_S) (v5 : Option iv_V) (F : Nat → Bool) (x : Nat → Nat), plI n L nd pr F x σ τ → zc F n = s → iv_Sf X (d + 2) mX1_keepLeast tbX1 (plQ n L nd pr σ) 9 [some (.inl 18), some (.inl 2), some (.inr (nI h)), some (.inr (nI L)), some (.inr (nI s)), v5] [] τ) ?_ ?_
  · refine key σ1 _ (fun _ => false) (fun _ => 0) ⟨g1, fun j hj => ?_, fun j _ hF => (by cases hF), fun j hj _ => (g2 j hj).1, fun _ _ => rfl, fun k hk => ?_, fun c _ j _ hF => (by cases hF)⟩ (zc_none (fun _ _ => rfl))
    · rw [(g2 j hj).2.2]; exact (hpr j hj).1
    · refine ⟨su nd n - su nd k, (g2 k hk).2.1, ?_⟩
      have h0 : ∀ t, su (fun _ => 0) t = 0 := by
        intro t
        induction t with
        | zero => rfl
        | succ t ih => rw [su_s, ih]
      rw [h0, h0]
      have := su_mono nd (show k ≤ n by omega)
      omega
  · intro τ v5 F x hI hz
    obtain ⟨i1, i2, i3, i4, i5, i6, i7⟩ := hI
    have hall := zc_all hz
    have e18 := i1 18 (by decide) (by decide) (by decide)
    have hend : su x n = su nd n → iv_Sf X (d + 2) mX1_keepLeast tbX1 (plQ n L nd pr σ) 62 [some (.inl 18), some (.inl 2), some (.inr (nI h)), some (.inr (nI L)), some (.inr (nI n)), v5] [] τ := by
      intro hsu
      refine iv_blk [] 60 ?_
      simp only [iv_sn, ie_cl0, ie_cl1, ie_cl2, ie_cl3, ie_cl4, ie_cl5, ie_cl6, ie_cl7, ie_cl8, ie_v5_0, ie_v5_1, ie_v5_2, ie_v5_3, ie_v5_4, ie_v6_0, ie_v8_0, ie_v12_0, ie_v24_0, ie_v30_0, ie_v3380_0, true_implies, false_implies, not_true_eq_false, implies_true, ie_10, ie_m10, ie_mm, iv_u_eq, iv_u_ne, Nat.reduceEqDiff, ie_p1, ie_p2, ie_pr, ie_pa, ie_ps, ie_d1, ie_d2, ie_r1, ie_o, ie_gr, ie_gi, ie_pt, ie_pf, ie_ri, ie_rz, ie_br, ie_c1eq, ie_c1ne, ie_c1lt, ie_c1ge, ie_c1gt, ie_c1le, ie_c2eq, ie_c2ne, ie_c2lt, ie_c2ge, ie_c2gt, ie_c2le, ie_fn0, ie_fn1, ie_fn2, ie_fn3, Nat.reduceAdd, ie_nc, Int.reduceAdd, Int.reduceLE, Int.reduceToNat, Nat.reduceLT, Nat.reduceLeDiff, Int.reduceNeg, eq_self, true_and, and_true, true_or, or_true, Nat.reduceBEq, List.elem_cons, List.elem_nil, Bool.or_false, Bool.false_or, Bool.or_true, Bool.true_or, Bool.false_eq_true, if_false, if_true, reduceIte, reduceCtorEq, ne_eq, not_false_eq_true, Classical.not_not, List.length_cons, List.length_nil, Nat.zero_le, List.map_cons, List.map_nil, List.cons_append, List.nil_append, List.replicate_succ, List.replicate_zero, Nat.reduceSub, sX1_keepLeast_62, sX1_keepLeast_63, sX1_keepLeast_66, cvX1_43, ie_call1, ie_call2, ie_call3, ie_call4, ie_call5, ie_call6, ie_call7, ie_call8, ie_lr0, ie_rc1, ie_rc2, ie_rc3, ie_rc4, ie_rc5, ie_rc6, ie_rc7, ie_rc8, iv_cls_0, iv_cls_12, iv_cls_18, iv_cls_24, iv_cls_29, iv_cls_3, iv_cls_30, iv_cls_33, iv_cls_37, iv_cls_4]
      refine ⟨_, ct_keepDraft (n := n) (by rw [e18]; exact hs) hn, ?_⟩
      rintro r2 u ⟨rfl, k1, k2, k3⟩
      refine ⟨fun q q1 q2 q3 q4 q5 => ?_, fun j hj => ?_, x, fun c hc j hj => i7 c hc j hj (hall j hj), Or.inl ⟨⟨fun j hj => (i3 j hj (hall j hj)).2, fun t ht => ?_, hsu⟩, ?_, ?_, fun i hi => ?_⟩⟩
      · rw [k1 q q1 q5]; exact i1 q q2 q3 q4
      · rw [k2, upd_ne hj, e18]
      · by_cases htn : t = n
        · subst htn; omega
        · obtain ⟨m, m1, m2⟩ := i6 t (by omega)
          omega
      · exact ps_nI (fun i hi => by rw [(i3 i hi (hall i hi)).1, i2 i hi, pk_mul])
      · rw [k2, upd_same]
      · rw [k3 i hi]; exact (i3 i hi (hall i hi)).1
    by_cases hn0 : n = 0
    · subst hn0
      refine iv_blk [62] 60 ?_
      simp only [iv_sn, ie_cl0, ie_cl1, ie_cl2, ie_cl3, ie_cl4, ie_cl5, ie_cl6, ie_cl7, ie_cl8, ie_v5_0, ie_v5_1, ie_v5_2, ie_v5_3, ie_v5_4, ie_v6_0, ie_v8_0, ie_v12_0, ie_v24_0, ie_v30_0, ie_v3380_0, true_implies, false_implies, not_true_eq_false, implies_true, ie_10, ie_m10, ie_mm, iv_u_eq, iv_u_ne, Nat.reduceEqDiff, ie_p1, ie_p2, ie_pr, ie_pa, ie_ps, ie_d1, ie_d2, ie_r1, ie_o, ie_gr, ie_gi, ie_pt, ie_pf, ie_ri, ie_rz, ie_br, ie_c1eq, ie_c1ne, ie_c1lt, ie_c1ge, ie_c1gt, ie_c1le, ie_c2eq, ie_c2ne, ie_c2lt, ie_c2ge, ie_c2gt, ie_c2le, ie_fn0, ie_fn1, ie_fn2, ie_fn3, Nat.reduceAdd, ie_nc, Int.reduceAdd, Int.reduceLE, Int.reduceToNat, Nat.reduceLT, Nat.reduceLeDiff, Int.reduceNeg, eq_self, true_and, and_true, true_or, or_true, Nat.reduceBEq, List.elem_cons, List.elem_nil, Bool.or_false, Bool.false_or, Bool.or_true, Bool.true_or, Bool.false_eq_true, if_false, if_true, reduceIte, reduceCtorEq, ne_eq, not_false_eq_true, Classical.not_not, List.length_cons, List.length_nil, Nat.zero_le, List.map_cons, List.map_nil, List.cons_append, List.nil_append, List.replicate_succ, List.replicate_zero, Nat.reduceSub, sX1_keepLeast_9, sX1_keepLeast_11, sX1_keepLeast_12, sX1_keepLeast_15, gfX1_27_18, ie_li4, ie_lr0, iv_sn, ie_cl0, ie_cl1, ie_cl2, ie_cl3, ie_cl4, ie_cl5, ie_cl6, ie_cl7, ie_cl8, ie_v5_0, ie_v5_1, ie_v5_2, ie_v5_3, ie_v5_4, ie_v6_0, ie_v8_0, ie_v12_0, ie_v24_0, ie_v30_0, ie_v3380_0, true_implies, false_implies, not_true_eq_false, implies_true, ie_10, ie_m10, ie_mm, iv_u_eq, iv_u_ne, Nat.reduceEqDiff, ie_p1, ie_p2, ie_pr, ie_pa, ie_ps, ie_d1, ie_d2, ie_r1, ie_o, ie_gr, ie_gi, ie_pt, ie_pf, ie_ri, ie_rz, ie_br, ie_c1eq, ie_c1ne, ie_c1lt, ie_c1ge, ie_c1gt, ie_c1le, ie_c2eq, ie_c2ne, ie_c2lt, ie_c2ge, ie_c2gt, ie_c2le, ie_fn0, ie_fn1, ie_fn2, ie_fn3, Nat.reduceAdd, ie_nc, Int.reduceAdd, Int.reduceLE, Int.reduceToNat, Nat.reduceLT, Nat.reduceLeDiff, Int.reduceNeg, eq_self, true_and, and_true, true_or, or_true, Nat.reduceBEq, List.elem_cons, List.elem_nil, Bool.or_false, Bool.false_or, Bool.or_true, Bool.true_or, Bool.false_eq_true, if_false, if_true, reduceIte, reduceCtorEq, ne_eq, not_false_eq_true, Classical.not_not, List.length_cons, List.length_nil, Nat.zero_le, List.map_cons, List.map_nil, List.cons_append, List.nil_append, List.replicate_succ, List.replicate_zero, Nat.reduceSub, sX1_keepLeast_43, sX1_keepLeast_44, sX1_keepLeast_47, sX1_keepLeast_50, sX1_keepLeast_51, sX1_keepLeast_54, sX1_keepLeast_55, sX1_keepLeast_56, sX1_keepLeast_59, sX1_keepLeast_61, gfX1_18_18, gfX1_27_18, ie_bm2, ie_i0, ie_lr0, iv_ar_1, iv_ar_10, iv_ar_11, iv_ar_13, iv_ar_14, iv_ar_15, iv_ar_16, iv_ar_17, iv_ar_19, iv_ar_2, iv_ar_20, iv_ar_21, iv_ar_22, iv_ar_23, iv_ar_25, iv_ar_26, iv_ar_27, iv_ar_28, iv_ar_31, iv_ar_32, iv_ar_34, iv_ar_35, iv_ar_36, iv_ar_38, iv_ar_39, iv_ar_40, iv_ar_41, iv_ar_42, iv_ar_43, iv_ar_44, iv_ar_45, iv_ar_46, iv_ar_47, iv_ar_48, iv_ar_49, iv_ar_5, iv_ar_50, iv_ar_51, iv_ar_52, iv_ar_53, iv_ar_54, iv_ar_55, iv_ar_56, iv_ar_6, iv_ar_7, iv_ar_8, iv_ar_9, e18, hs]
      refine ⟨fun _ => ⟨fun _ => hend rfl, fun hx => absurd (by decide) hx⟩, fun hx => absurd (z_nn (by decide)) hx⟩
    · obtain ⟨m, m1, m2⟩ := i6 0 (by omega)
      have hsb : su nd n ≤ 20 * n := su_bound (fun i hi => (hnd i hi).2)
      have hx0 : su x 0 = 0 := rfl
      have hd0 : su nd 0 = 0 := rfl
      refine iv_blk [62] 60 ?_
      simp only [iv_sn, ie_cl0, ie_cl1, ie_cl2, ie_cl3, ie_cl4, ie_cl5, ie_cl6, ie_cl7, ie_cl8, ie_v5_0, ie_v5_1, ie_v5_2, ie_v5_3, ie_v5_4, ie_v6_0, ie_v8_0, ie_v12_0, ie_v24_0, ie_v30_0, ie_v3380_0, true_implies, false_implies, not_true_eq_false, implies_true, ie_10, ie_m10, ie_mm, iv_u_eq, iv_u_ne, Nat.reduceEqDiff, ie_p1, ie_p2, ie_pr, ie_pa, ie_ps, ie_d1, ie_d2, ie_r1, ie_o, ie_gr, ie_gi, ie_pt, ie_pf, ie_ri, ie_rz, ie_br, ie_c1eq, ie_c1ne, ie_c1lt, ie_c1ge, ie_c1gt, ie_c1le, ie_c2eq, ie_c2ne, ie_c2lt, ie_c2ge, ie_c2gt, ie_c2le, ie_fn0, ie_fn1, ie_fn2, ie_fn3, Nat.reduceAdd, ie_nc, Int.reduceAdd, Int.reduceLE, Int.reduceToNat, Nat.reduceLT, Nat.reduceLeDiff, Int.reduceNeg, eq_self, true_and, and_true, true_or, or_true, Nat.reduceBEq, List.elem_cons, List.elem_nil, Bool.or_false, Bool.false_or, Bool.or_true, Bool.true_or, Bool.false_eq_true, if_false, if_true, reduceIte, reduceCtorEq, ne_eq, not_false_eq_true, Classical.not_not, List.length_cons, List.length_nil, Nat.zero_le, List.map_cons, List.map_nil, List.cons_append, List.nil_append, List.replicate_succ, List.replicate_zero, Nat.reduceSub, sX1_keepLeast_9, sX1_keepLeast_11, sX1_keepLeast_12, sX1_keepLeast_15, gfX1_27_18, ie_li4, ie_lr0, iv_sn, ie_cl0, ie_cl1, ie_cl2, ie_cl3, ie_cl4, ie_cl5, ie_cl6, ie_cl7, ie_cl8, ie_v5_0, ie_v5_1, ie_v5_2, ie_v5_3, ie_v5_4, ie_v6_0, ie_v8_0, ie_v12_0, ie_v24_0, ie_v30_0, ie_v3380_0, true_implies, false_implies, not_true_eq_false, implies_true, ie_10, ie_m10, ie_mm, iv_u_eq, iv_u_ne, Nat.reduceEqDiff, ie_p1, ie_p2, ie_pr, ie_pa, ie_ps, ie_d1, ie_d2, ie_r1, ie_o, ie_gr, ie_gi, ie_pt, ie_pf, ie_ri, ie_rz, ie_br, ie_c1eq, ie_c1ne, ie_c1lt, ie_c1ge, ie_c1gt, ie_c1le, ie_c2eq, ie_c2ne, ie_c2lt, ie_c2ge, ie_c2gt, ie_c2le, ie_fn0, ie_fn1, ie_fn2, ie_fn3, Nat.reduceAdd, ie_nc, Int.reduceAdd, Int.reduceLE, Int.reduceToNat, Nat.reduceLT, Nat.reduceLeDiff, Int.reduceNeg, eq_self, true_and, and_true, true_or, or_true, Nat.reduceBEq, List.elem_cons, List.elem_nil, Bool.or_false, Bool.false_or, Bool.or_true, Bool.true_or, Bool.false_eq_true, if_false, if_true, reduceIte, reduceCtorEq, ne_eq, not_false_eq_true, Classical.not_not, List.length_cons, List.length_nil, Nat.zero_le, List.map_cons, List.map_nil, List.cons_append, List.nil_append, List.replicate_succ, List.replicate_zero, Nat.reduceSub, sX1_keepLeast_43, sX1_keepLeast_44, sX1_keepLeast_47, sX1_keepLeast_50, sX1_keepLeast_51, sX1_keepLeast_54, sX1_keepLeast_55, sX1_keepLeast_56, sX1_keepLeast_59, sX1_keepLeast_61, gfX1_18_18, gfX1_27_18, ie_bm2, ie_i0, ie_lr0, iv_ar_1, iv_ar_10, iv_ar_11, iv_ar_13, iv_ar_14, iv_ar_15, iv_ar_16, iv_ar_17, iv_ar_19, iv_ar_2, iv_ar_20, iv_ar_21, iv_ar_22, iv_ar_23, iv_ar_25, iv_ar_26, iv_ar_27, iv_ar_28, iv_ar_31, iv_ar_32, iv_ar_34, iv_ar_35, iv_ar_36, iv_ar_38, iv_ar_39, iv_ar_40, iv_ar_41, iv_ar_42, iv_ar_43, iv_ar_44, iv_ar_45, iv_ar_46, iv_ar_47, iv_ar_48, iv_ar_49, iv_ar_5, iv_ar_50, iv_ar_51, iv_ar_52, iv_ar_53, iv_ar_54, iv_ar_55, iv_ar_56, iv_ar_6, iv_ar_7, iv_ar_8, iv_ar_9, e18, hs, m1]
      refine ⟨fun _ => ⟨fun hx => absurd hx (nI_nle (by omega) (by omega)), fun _ => ⟨fun hx => hend ?_, fun hx => ?_⟩⟩, fun hx => absurd (z_nn (by omega)) hx⟩
      · rw [← nI_0, nI_leI (by omega) (by decide)] at hx
        omega
      · have hm : m ≠ 0 := by
          rintro rfl
          exact hx (by rw [nI_0]; decide)
        refine ⟨fun q q1 q2 q3 q4 q5 => i1 q q2 q3 q4, fun j hj => by rw [e18], x, fun c hc j hj => i7 c hc j hj (hall j hj), Or.inr ⟨by omega, rfl, by rw [e18], i1 23 (by decide) (by decide) (by decide)⟩⟩
  · intro s hs2 ih τ v5 F x hI hz
    have hI' := hI
    obtain ⟨i1, i2, i3, i4, i5, i6, i7⟩ := hI'
    have e18 := i1 18 (by decide) (by decide) (by decide)
    refine iv_blk [9] 60 ?_
    simp only [iv_sn, ie_cl0, ie_cl1, ie_cl2, ie_cl3, ie_cl4, ie_cl5, ie_cl6, ie_cl7, ie_cl8, ie_v5_0, ie_v5_1, ie_v5_2, ie_v5_3, ie_v5_4, ie_v6_0, ie_v8_0, ie_v12_0, ie_v24_0, ie_v30_0, ie_v3380_0, true_implies, false_implies, not_true_eq_false, implies_true, ie_10, ie_m10, ie_mm, iv_u_eq, iv_u_ne, Nat.reduceEqDiff, ie_p1, ie_p2, ie_pr, ie_pa, ie_ps, ie_d1, ie_d2, ie_r1, ie_o, ie_gr, ie_gi, ie_pt, ie_pf, ie_ri, ie_rz, ie_br, ie_c1eq, ie_c1ne, ie_c1lt, ie_c1ge, ie_c1gt, ie_c1le, ie_c2eq, ie_c2ne, ie_c2lt, ie_c2ge, ie_c2gt, ie_c2le, ie_fn0, ie_fn1, ie_fn2, ie_fn3, Nat.reduceAdd, ie_nc, Int.reduceAdd, Int.reduceLE, Int.reduceToNat, Nat.reduceLT, Nat.reduceLeDiff, Int.reduceNeg, eq_self, true_and, and_true, true_or, or_true, Nat.reduceBEq, List.elem_cons, List.elem_nil, Bool.or_false, Bool.false_or, Bool.or_true, Bool.true_or, Bool.false_eq_true, if_false, if_true, reduceIte, reduceCtorEq, ne_eq, not_false_eq_true, Classical.not_not, List.length_cons, List.length_nil, Nat.zero_le, List.map_cons, List.map_nil, List.cons_append, List.nil_append, List.replicate_succ, List.replicate_zero, Nat.reduceSub, sX1_keepLeast_9, sX1_keepLeast_11, sX1_keepLeast_12, sX1_keepLeast_15, sX1_keepLeast_18, sX1_keepLeast_19, sX1_keepLeast_22, sX1_keepLeast_24, sX1_keepLeast_26, sX1_keepLeast_27, sX1_keepLeast_30, sX1_keepLeast_31, sX1_keepLeast_33, sX1_keepLeast_34, sX1_keepLeast_37, sX1_keepLeast_40, cvX1_35, cvX1_39, gfX1_27_18, ie_call1, ie_call2, ie_call3, ie_call4, ie_call5, ie_call6, ie_call7, ie_call8, ie_i1, ie_im1, ie_li3, ie_li4, ie_li5, ie_lr0, ie_ls4, ie_ls5, ie_rc1, ie_rc2, ie_rc3, ie_rc4, ie_rc5, ie_rc6, ie_rc7, ie_rc8, iv_cls_0, iv_cls_12, iv_cls_18, iv_cls_24, iv_cls_29, iv_cls_3, iv_cls_30, iv_cls_33, iv_cls_37, iv_cls_4, e18, hs, nI_1]
    refine ⟨fun hx => absurd hx (nI_ge hs2 (by omega)), fun _ => ?_⟩
    refine ⟨_, ct_cheapest (n := n) (by rw [e18]; exact hs) hn, ?_⟩
    rintro r2 σ2 ⟨rfl, hs3⟩
    subst hs3
    cases hq : cq (fun i => decide (σ2 20 i = -1)) (σ2 22) n with
    | none =>
      exfalso
      have hno := cq_none hq
      have hall : ∀ j, j < n → F j = true := by
        intro j hj
        cases hF : F j with
        | true => rfl
        | false =>
          have := hno j hj
          rw [i4 j hj hF] at this
          simp at this
      have : zc F n = n := by
        have : zc (fun j => !F j) n = 0 := zc_none (fun c hc => by simp [hall c hc])
        have h2 : ∀ m, m ≤ n → zc F m = m := by
          intro m
          induction m with
          | zero => intro _; rfl
          | succ m ih => intro hm; rw [zc_t (hall m (by omega)), ih (by omega)]
        exact h2 n (Nat.le_refl _)
      omega
    | some a =>
      obtain ⟨ha, -⟩ := cq_lt hq
      simp only [zo, z_ne (show a < 2 ^ 31 by omega), false_implies, true_and, not_false_eq_true, true_implies]
      refine ⟨_, ct_fill (show a < 12 by omega) (nI L) _ rfl, ?_⟩
      intro r3 u hu
      obtain ⟨F', x', j1, j2⟩ := pl_step hn hL (fun i hi => (hnd i hi).2) (fun i hi => (hpr i hi).2) hI hq rfl hu
      exact ih u _ F' x' j1 (by omega)
set_option maxRecDepth 20000 in
set_option maxHeartbeats 4000000 in
theorem ct_plan {n h : Nat} {nd pr : Nat → Nat} (hs : σ 18 5 = nI n) (hn : n ≤ 12) (hh : σ 0 7 = nI h) (hhb : h ≤ 10000) (hnd : ∀ i, i < n → σ 19 i = nI (nd i) ∧ nd i ≤ 20) (hpr : ∀ i, i < n → σ 2 ((h + i) % 24) = nI (pr i) ∧ pr i ≤ 1000) (L : Int32) : iv_Ct X mX6_plan (d + 4) [.inl 0, .inr L] σ (fun r u => (zw L 0 20 = true → plQ n L.toNatClampNeg nd pr σ r u) ∧ (zw L 0 20 = false → r = -1 ∧ u = σ)) := by
  generalize hQ : (fun (r : Int32) (u : iv_S) => (zw L 0 20 = true → plQ n L.toNatClampNeg nd pr σ r u) ∧ (zw L 0 20 = false → r = -1 ∧ u = σ)) = Q
  refine iv_ctl (own := RX6) (b := tbX6) (ls := [some (.inl 0), some (.inr L)]) (plainFor_of_name (by decide)) rfl okX6 (Nat.le_of_ble_eq_true rfl) rfl ?_
  refine iv_blk [] 60 ?_
  simp only [iv_sn, ie_cl0, ie_cl1, ie_cl2, ie_cl3, ie_cl4, ie_cl5, ie_cl6, ie_cl7, ie_cl8, ie_v5_0, ie_v5_1, ie_v5_2, ie_v5_3, ie_v5_4, ie_v6_0, ie_v8_0, ie_v12_0, ie_v24_0, ie_v30_0, ie_v3380_0, true_implies, false_implies, not_true_eq_false, implies_true, ie_10, ie_m10, ie_mm, iv_u_eq, iv_u_ne, Nat.reduceEqDiff, ie_p1, ie_p2, ie_pr, ie_pa, ie_ps, ie_d1, ie_d2, ie_r1, ie_o, ie_gr, ie_gi, ie_pt, ie_pf, ie_ri, ie_rz, ie_br, ie_c1eq, ie_c1ne, ie_c1lt, ie_c1ge, ie_c1gt, ie_c1le, ie_c2eq, ie_c2ne, ie_c2lt, ie_c2ge, ie_c2gt, ie_c2le, ie_fn0, ie_fn1, ie_fn2, ie_fn3, Nat.reduceAdd, ie_nc, Int.reduceAdd, Int.reduceLE, Int.reduceToNat, Nat.reduceLT, Nat.reduceLeDiff, Int.reduceNeg, eq_self, true_and, and_true, true_or, or_true, Nat.reduceBEq, List.elem_cons, List.elem_nil, Bool.or_false, Bool.false_or, Bool.or_true, Bool.true_or, Bool.false_eq_true, if_false, if_true, reduceIte, reduceCtorEq, ne_eq, not_false_eq_true, Classical.not_not, List.length_cons, List.length_nil, Nat.zero_le, List.map_cons, List.map_nil, List.cons_append, List.nil_append, List.replicate_succ, List.replicate_zero, Nat.reduceSub, sX6_plan_0, sX6_plan_1, sX6_plan_2, sX6_plan_4, sX6_plan_7, sX6_plan_10, sX6_plan_11, sX6_plan_14, sX6_plan_15, sX6_plan_18, sX6_plan_19, sX6_plan_22, sX6_plan_23, sX6_plan_26, sX6_plan_29, sX6_plan_30, cvX6_176, cvX6_61, gfX6_113_0, gfX6_13_0, gfX6_33_0, ie_b20, ie_call1, ie_call2, ie_call3, ie_call4, ie_call5, ie_call6, ie_call7, ie_call8, ie_i0, ie_im1, ie_li1, ie_lr0, ie_rc1, ie_rc2, ie_rc3, ie_rc4, ie_rc5, ie_rc6, ie_rc7, ie_rc8, iv_cls_0, iv_cls_12, iv_cls_18, iv_cls_24, iv_cls_29, iv_cls_3, iv_cls_30, iv_cls_33, iv_cls_37, iv_cls_4, hh]
  refine ⟨_, ct_isWithin _ _ _, ?_⟩
  rintro r1 σ1 ⟨rfl, hs1⟩
  subst hs1
  simp only [zb0, zbn]
  refine ⟨fun hz => by rw [← hQ]; simp [hz], fun hz => ?_⟩
  obtain ⟨hk, hkk⟩ := z_idx0 (n := 20) (by decide) hz
  have hcall := ct_keepLeast (X := X) (d := d) (L := L.toNatClampNeg) hs hn hk hhb hnd hpr
  rw [← hkk] at hcall
  rw [hh]
  refine ⟨_, hcall, ?_⟩
  intro r u hu
  rw [← hQ]
  exact ⟨fun _ => hu, fun hf => by rw [hz] at hf; cases hf⟩
end YJ
