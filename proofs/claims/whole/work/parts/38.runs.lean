/-! an hour in all cabinets; many hours -/
abbrev yS : Type := (Nat → Int32) × (Nat → Int32) × (Nat → Int32)
def yT (n : Nat) (hm sk se nd ln : Nat → Int32) (price : Int32) : Nat → yS → yS
  | 0, s => s
  | k + 1, s => ((yH n hm sk se (nI k) (nd k) price (ln k).toNatClampNeg (yT n hm sk se nd ln price k s).1 (yT n hm sk se nd ln price k s).2.1 ((yT n hm sk se nd ln price k s).2.2 k)).1,
      (yH n hm sk se (nI k) (nd k) price (ln k).toNatClampNeg (yT n hm sk se nd ln price k s).1 (yT n hm sk se nd ln price k s).2.1 ((yT n hm sk se nd ln price k s).2.2 k)).2.1,
      upd (yT n hm sk se nd ln price k s).2.2 k (yH n hm sk se (nI k) (nd k) price (ln k).toNatClampNeg (yT n hm sk se nd ln price k s).1 (yT n hm sk se nd ln price k s).2.1 ((yT n hm sk se nd ln price k s).2.2 k)).2.2)
def yI (n nc : Nat) (hm sk se nd ln pr : Nat → Int32) : Nat → Nat → yS → yS
  | 0, _, s => s
  | m + 1, h, s => yI n nc hm sk se nd ln pr m (h + 1) (yT n hm sk se nd ln (pr (h % 24)) nc s)
/-- the hours in which packs were charged last lie behind -/
def zLH (n h : Nat) (f : Nat → Int32) : Prop := ∀ p, p < n → f p = -1 ∨ ∃ g, g < h ∧ f p = nI g
theorem zLH_ne {n h : Nat} {f : Nat → Int32} (hf : zLH n h f) (hh : h < 2 ^ 31) {p : Nat} (hp : p < n) : ¬ f p = nI h := by
  rcases hf p hp with e | ⟨g, hg, e⟩
  · rw [e]; exact fun q => z_ne hh q.symm
  · rw [e, nI_eq (by omega) hh]; omega
section ZU
variable {X : iv_X} {d : Nat} {σ : iv_S}
set_option maxRecDepth 20000 in
set_option maxHeartbeats 4000000 in
theorem ct_passHour {n nc h : Nat} (hs : σ 12 5 = nI n) (hn : n ≤ 30) (hc : σ 4 2 = nI nc) (hnc : nc ≤ 6) (hh : σ 0 7 = nI h) (hhb : h ≤ 10000) (hln : ∀ j, j < nc → ∃ l, l ≤ 8 ∧ σ 8 j = nI l) (hlh : zLH n h (σ 17)) : iv_Ct X mX6_passHour (d + 5) [.inl 0] σ (fun _ u =>
    (∀ k, k ≠ 0 → k ≠ 10 → k ≠ 13 → k ≠ 14 → k ≠ 17 → u k = σ k) ∧ u 0 = upd (σ 0) 7 (nI (h + 1)) ∧ (u 13, u 14, u 10) = yT n (σ 16) (σ 15) (σ 1) (σ 9) (σ 8) (σ 2 (h % 24)) nc (σ 13, σ 14, σ 10) ∧ zLH n (h + 1) (u 17)) := by
  generalize hQ : (fun (_ : Int32) (u : iv_S) => (∀ k, k ≠ 0 → k ≠ 10 → k ≠ 13 → k ≠ 14 → k ≠ 17 → u k = σ k) ∧ u 0 = upd (σ 0) 7 (nI (h + 1)) ∧ (u 13, u 14, u 10) = yT n (σ 16) (σ 15) (σ 1) (σ 9) (σ 8) (σ 2 (h % 24)) nc (σ 13, σ 14, σ 10) ∧ zLH n (h + 1) (u 17)) = Q
  have hin : ∀ (r : Int32) (u : iv_S), ((∀ k, k ≠ 0 → k ≠ 10 → k ≠ 13 → k ≠ 14 → k ≠ 17 → u k = σ k) ∧ u 0 = upd (σ 0) 7 (nI (h + 1)) ∧ (u 13, u 14, u 10) = yT n (σ 16) (σ 15) (σ 1) (σ 9) (σ 8) (σ 2 (h % 24)) nc (σ 13, σ 14, σ 10) ∧ zLH n (h + 1) (u 17)) → Q r u := fun r u h => by rw [← hQ]; exact h
  refine iv_ctl (own := RX6) (b := tbX6) (ls := [some (.inl 0), none, none]) (plainFor_of_name (by decide)) rfl okX6 (Nat.le_of_ble_eq_true rfl) rfl ?_
  refine iv_blk [7] 30 ?_
  simp only [iv_sn, ie_cl0, ie_cl1, ie_cl2, ie_cl3, ie_cl4, ie_cl5, ie_cl6, ie_cl7, ie_cl8, ie_v5_0, ie_v5_1, ie_v5_2, ie_v5_3, ie_v5_4, ie_v6_0, ie_v8_0, ie_v12_0, ie_v24_0, ie_v30_0, ie_v3380_0, true_implies, false_implies, not_true_eq_false, implies_true, ie_10, ie_m10, ie_mm, iv_u_eq, iv_u_ne, Nat.reduceEqDiff, ie_p1, ie_p2, ie_pr, ie_pa, ie_ps, ie_d1, ie_d2, ie_r1, ie_o, ie_gr, ie_gi, ie_pt, ie_pf, ie_ri, ie_rz, ie_br, ie_c1eq, ie_c1ne, ie_c1lt, ie_c1ge, ie_c1gt, ie_c1le, ie_c2eq, ie_c2ne, ie_c2lt, ie_c2ge, ie_c2gt, ie_c2le, ie_fn0, ie_fn1, ie_fn2, ie_fn3, Nat.reduceAdd, ie_nc, Int.reduceAdd, Int.reduceLE, Int.reduceToNat, Nat.reduceLT, Nat.reduceLeDiff, Int.reduceNeg, eq_self, true_and, and_true, true_or, or_true, Nat.reduceBEq, List.elem_cons, List.elem_nil, Bool.or_false, Bool.false_or, Bool.or_true, Bool.true_or, Bool.false_eq_true, if_false, if_true, reduceIte, reduceCtorEq, ne_eq, not_false_eq_true, Classical.not_not, List.length_cons, List.length_nil, Nat.zero_le, List.map_cons, List.map_nil, List.cons_append, List.nil_append, List.replicate_succ, List.replicate_zero, Nat.reduceSub, sX6_passHour_0, sX6_passHour_1, sX6_passHour_4, sX6_passHour_5, sX6_passHour_6, sX6_passHour_7, sX6_passHour_8, sX6_passHour_9, sX6_passHour_12, sX6_passHour_15, sX6_passHour_18, sX6_passHour_19, sX6_passHour_20, sX6_passHour_21, sX6_passHour_24, sX6_passHour_27, sX6_passHour_30, sX6_passHour_31, sX6_passHour_32, sX6_passHour_35, sX6_passHour_36, sX6_passHour_37, sX6_passHour_40, cvX6_120, cvX6_143, cvX6_224, gfX6_113_0, gfX6_19_0, ie_call1, ie_call2, ie_call3, ie_call4, ie_call5, ie_call6, ie_call7, ie_call8, ie_i0, ie_i1, ie_li1, ie_li2, ie_lr0, ie_ls1, ie_ls2, ie_rc1, ie_rc2, ie_rc3, ie_rc4, ie_rc5, ie_rc6, ie_rc7, ie_rc8, iv_cls_0, iv_cls_12, iv_cls_18, iv_cls_24, iv_cls_29, iv_cls_3, iv_cls_30, iv_cls_33, iv_cls_37, iv_cls_4]
  refine ⟨_, ct_priceNow hh hhb, ?_⟩
  rintro r1 σ1 ⟨rfl, h1⟩
  subst h1
  generalize hpr : σ1 2 (h % 24) = price at hin
  have key := z_down (n := nc) (P := fun i => ∀ (τ : iv_S), (∀ k, k ≠ 10 → k ≠ 13 → k ≠ 14 → k ≠ 17 → τ k = σ1 k) → (τ 13, τ 14, τ 10) = yT n (σ1 16) (σ1 15) (σ1 1) (σ1 9) (σ1 8) price i (σ1 13, σ1 14, σ1 10) → (∀ p, τ 17 p = σ1 17 p ∨ τ 17 p = σ1 0 7) → (∀ p, (∀ c, c < i → ¬ σ1 16 p = nI c) → τ 17 p = σ1 17 p) →
      iv_Sf X (d + 4) mX6_passHour tbX6 Q 7 [some (.inl 0), some (.inr price), some (.inr (nI i))] [] τ) ?_ ?_
  · exact key σ1 (fun _ _ _ _ _ => rfl) rfl (fun _ => Or.inl rfl) (fun _ _ => rfl)
  · intro τ f1 f2 f3 f4
    have e4 := f1 4 (by decide) (by decide) (by decide) (by decide)
    have e0 := f1 0 (by decide) (by decide) (by decide) (by decide)
    refine iv_blk [7] 60 ?_
    simp only [iv_sn, ie_cl0, ie_cl1, ie_cl2, ie_cl3, ie_cl4, ie_cl5, ie_cl6, ie_cl7, ie_cl8, ie_v5_0, ie_v5_1, ie_v5_2, ie_v5_3, ie_v5_4, ie_v6_0, ie_v8_0, ie_v12_0, ie_v24_0, ie_v30_0, ie_v3380_0, true_implies, false_implies, not_true_eq_false, implies_true, ie_10, ie_m10, ie_mm, iv_u_eq, iv_u_ne, Nat.reduceEqDiff, ie_p1, ie_p2, ie_pr, ie_pa, ie_ps, ie_d1, ie_d2, ie_r1, ie_o, ie_gr, ie_gi, ie_pt, ie_pf, ie_ri, ie_rz, ie_br, ie_c1eq, ie_c1ne, ie_c1lt, ie_c1ge, ie_c1gt, ie_c1le, ie_c2eq, ie_c2ne, ie_c2lt, ie_c2ge, ie_c2gt, ie_c2le, ie_fn0, ie_fn1, ie_fn2, ie_fn3, Nat.reduceAdd, ie_nc, Int.reduceAdd, Int.reduceLE, Int.reduceToNat, Nat.reduceLT, Nat.reduceLeDiff, Int.reduceNeg, eq_self, true_and, and_true, true_or, or_true, Nat.reduceBEq, List.elem_cons, List.elem_nil, Bool.or_false, Bool.false_or, Bool.or_true, Bool.true_or, Bool.false_eq_true, if_false, if_true, reduceIte, reduceCtorEq, ne_eq, not_false_eq_true, Classical.not_not, List.length_cons, List.length_nil, Nat.zero_le, List.map_cons, List.map_nil, List.cons_append, List.nil_append, List.replicate_succ, List.replicate_zero, Nat.reduceSub, sX6_passHour_0, sX6_passHour_1, sX6_passHour_4, sX6_passHour_5, sX6_passHour_6, sX6_passHour_7, sX6_passHour_8, sX6_passHour_9, sX6_passHour_12, sX6_passHour_15, sX6_passHour_18, sX6_passHour_19, sX6_passHour_20, sX6_passHour_21, sX6_passHour_24, sX6_passHour_27, sX6_passHour_30, sX6_passHour_31, sX6_passHour_32, sX6_passHour_35, sX6_passHour_36, sX6_passHour_37, sX6_passHour_40, cvX6_120, cvX6_143, cvX6_224, gfX6_113_0, gfX6_19_0, ie_call1, ie_call2, ie_call3, ie_call4, ie_call5, ie_call6, ie_call7, ie_call8, ie_i0, ie_i1, ie_li1, ie_li2, ie_lr0, ie_ls1, ie_ls2, ie_rc1, ie_rc2, ie_rc3, ie_rc4, ie_rc5, ie_rc6, ie_rc7, ie_rc8, iv_cls_0, iv_cls_12, iv_cls_18, iv_cls_24, iv_cls_29, iv_cls_3, iv_cls_30, iv_cls_33, iv_cls_37, iv_cls_4]
    refine ⟨_, ct_csize, ?_⟩
    rintro r2 σ2 ⟨rfl, h2⟩
    subst h2
    rw [e4, hc, e0, hh, nI_1]
    refine ⟨fun _ => hin _ _ ⟨?_, ?_, ?_, ?_⟩, fun h => absurd (z_nn (by omega)) h⟩
    · intro k k0 k1 k2 k3 k4
      rw [iv_u_ne k0]
      exact f1 k k1 k2 k3 k4
    · rw [iv_u_eq, e0]
    · simp only [iv_u_ne, ne_eq, Nat.reduceEqDiff, not_false_eq_true]
      exact f2
    · intro p hp
      simp only [iv_u_ne, ne_eq, Nat.reduceEqDiff, not_false_eq_true]
      rcases f3 p with e | e
      · rw [e]
        rcases hlh p hp with a | ⟨g, hg, a⟩
        · exact Or.inl a
        · exact Or.inr ⟨g, by omega, a⟩
      · exact Or.inr ⟨h, by omega, by rw [e, hh]⟩
  · intro i hi ih τ f1 f2 f3 f4
    have e4 := f1 4 (by decide) (by decide) (by decide) (by decide)
    have e0 := f1 0 (by decide) (by decide) (by decide) (by decide)
    have e12 : τ 12 5 = nI n := by rw [f1 12 (by decide) (by decide) (by decide) (by decide)]; exact hs
    have e8 := f1 8 (by decide) (by decide) (by decide) (by decide)
    have e9 := f1 9 (by decide) (by decide) (by decide) (by decide)
    have e1 := f1 1 (by decide) (by decide) (by decide) (by decide)
    have e15 := f1 15 (by decide) (by decide) (by decide) (by decide)
    have e16 := f1 16 (by decide) (by decide) (by decide) (by decide)
    obtain ⟨l, hl, hl8⟩ := hln i hi
    refine iv_blk [7] 60 ?_
    simp only [iv_sn, ie_cl0, ie_cl1, ie_cl2, ie_cl3, ie_cl4, ie_cl5, ie_cl6, ie_cl7, ie_cl8, ie_v5_0, ie_v5_1, ie_v5_2, ie_v5_3, ie_v5_4, ie_v6_0, ie_v8_0, ie_v12_0, ie_v24_0, ie_v30_0, ie_v3380_0, true_implies, false_implies, not_true_eq_false, implies_true, ie_10, ie_m10, ie_mm, iv_u_eq, iv_u_ne, Nat.reduceEqDiff, ie_p1, ie_p2, ie_pr, ie_pa, ie_ps, ie_d1, ie_d2, ie_r1, ie_o, ie_gr, ie_gi, ie_pt, ie_pf, ie_ri, ie_rz, ie_br, ie_c1eq, ie_c1ne, ie_c1lt, ie_c1ge, ie_c1gt, ie_c1le, ie_c2eq, ie_c2ne, ie_c2lt, ie_c2ge, ie_c2gt, ie_c2le, ie_fn0, ie_fn1, ie_fn2, ie_fn3, Nat.reduceAdd, ie_nc, Int.reduceAdd, Int.reduceLE, Int.reduceToNat, Nat.reduceLT, Nat.reduceLeDiff, Int.reduceNeg, eq_self, true_and, and_true, true_or, or_true, Nat.reduceBEq, List.elem_cons, List.elem_nil, Bool.or_false, Bool.false_or, Bool.or_true, Bool.true_or, Bool.false_eq_true, if_false, if_true, reduceIte, reduceCtorEq, ne_eq, not_false_eq_true, Classical.not_not, List.length_cons, List.length_nil, Nat.zero_le, List.map_cons, List.map_nil, List.cons_append, List.nil_append, List.replicate_succ, List.replicate_zero, Nat.reduceSub, sX6_passHour_0, sX6_passHour_1, sX6_passHour_4, sX6_passHour_5, sX6_passHour_6, sX6_passHour_7, sX6_passHour_8, sX6_passHour_9, sX6_passHour_12, sX6_passHour_15, sX6_passHour_18, sX6_passHour_19, sX6_passHour_20, sX6_passHour_21, sX6_passHour_24, sX6_passHour_27, sX6_passHour_30, sX6_passHour_31, sX6_passHour_32, sX6_passHour_35, sX6_passHour_36, sX6_passHour_37, sX6_passHour_40, cvX6_120, cvX6_143, cvX6_224, gfX6_113_0, gfX6_19_0, ie_call1, ie_call2, ie_call3, ie_call4, ie_call5, ie_call6, ie_call7, ie_call8, ie_i0, ie_i1, ie_li1, ie_li2, ie_lr0, ie_ls1, ie_ls2, ie_rc1, ie_rc2, ie_rc3, ie_rc4, ie_rc5, ie_rc6, ie_rc7, ie_rc8, iv_cls_0, iv_cls_12, iv_cls_18, iv_cls_24, iv_cls_29, iv_cls_3, iv_cls_30, iv_cls_33, iv_cls_37, iv_cls_4]
    refine ⟨_, ct_csize, ?_⟩
    rintro r2 σ2 ⟨rfl, h2⟩
    subst h2
    rw [e4, hc]
    refine ⟨fun h => absurd h (nI_ge hi (by omega)), fun _ => ?_⟩
    refine ⟨_, ct_chargeIn e12 hn (show i < 6 by omega) (by rw [e8]; exact hl8) hl ?_ price _ rfl, ?_⟩
    · intro p hp hcp
      rw [e16] at hcp
      rw [e0, f4 p (fun c hci => by rw [hcp, nI_eq (by omega) (by omega)]; omega), hh]
      exact zLH_ne hlh (by omega) hp
    · rintro r3 u ⟨g1, g2, g3, g4, g5, g6⟩
      rw [nI_1]
      have hT : ∀ s : yS, s = (σ2 13, σ2 14, σ2 10) → yT n (σ1 16) (σ1 15) (σ1 1) (σ1 9) (σ1 8) price i (σ1 13, σ1 14, σ1 10) = s → yT n (σ1 16) (σ1 15) (σ1 1) (σ1 9) (σ1 8) price (i + 1) (σ1 13, σ1 14, σ1 10) = ((yH n (σ1 16) (σ1 15) (σ1 1) (nI i) (σ1 9 i) price l s.1 s.2.1 (s.2.2 i)).1, (yH n (σ1 16) (σ1 15) (σ1 1) (nI i) (σ1 9 i) price l s.1 s.2.1 (s.2.2 i)).2.1, upd s.2.2 i (yH n (σ1 16) (σ1 15) (σ1 1) (nI i) (σ1 9 i) price l s.1 s.2.1 (s.2.2 i)).2.2) := by
        intro s _ hs2
        rw [← hs2]
        simp only [yT, hl8, z_cl (show l < 2 ^ 31 by omega)]
      refine ih u ?_ ?_ ?_ ?_
      · intro k k1 k2 k3 k4
        rw [g1 k k1 k2 k3 k4, f1 k k1 k2 k3 k4]
      · rw [hT _ rfl f2.symm, g2, g3, g4, e16, e15, e1, e9]
      · intro p
        rcases g6 p with e | e
        · rw [e]; exact f3 p
        · rw [e, e0]; exact Or.inr rfl
      · intro p hp
        rw [g5 p (by rw [e16]; exact hp i (by omega))]
        exact f4 p (fun c hci => hp c (by omega))
set_option maxRecDepth 20000 in
set_option maxHeartbeats 4000000 in
theorem ct_run {n nc h : Nat} (hs : σ 12 5 = nI n) (hn : n ≤ 30) (hc : σ 4 2 = nI nc) (hnc : nc ≤ 6) (hh : σ 0 7 = nI h) (hhb : h ≤ 10000) (hln : ∀ j, j < nc → ∃ l, l ≤ 8 ∧ σ 8 j = nI l) (hlh : zLH n h (σ 17)) (m : Int32) : iv_Ct X mX6_run (d + 6) [.inl 0, .inr m] σ (fun r u =>
    ((zw m 0 200 && decide (nI h + m ≤ 10000)) = true → r = nI (h + m.toNatClampNeg) ∧ h + m.toNatClampNeg ≤ 10000 ∧ (∀ k, k ≠ 0 → k ≠ 10 → k ≠ 13 → k ≠ 14 → k ≠ 17 → u k = σ k) ∧ u 0 = upd (σ 0) 7 (nI (h + m.toNatClampNeg)) ∧ (u 13, u 14, u 10) = yI n nc (σ 16) (σ 15) (σ 1) (σ 9) (σ 8) (σ 2) m.toNatClampNeg h (σ 13, σ 14, σ 10) ∧ zLH n (h + m.toNatClampNeg) (u 17)) ∧
    ((zw m 0 200 && decide (nI h + m ≤ 10000)) = false → r = -1 ∧ u = σ)) := by
  generalize hQ : (fun (r : Int32) (u : iv_S) => ((zw m 0 200 && decide (nI h + m ≤ 10000)) = true → r = nI (h + m.toNatClampNeg) ∧ h + m.toNatClampNeg ≤ 10000 ∧ (∀ k, k ≠ 0 → k ≠ 10 → k ≠ 13 → k ≠ 14 → k ≠ 17 → u k = σ k) ∧ u 0 = upd (σ 0) 7 (nI (h + m.toNatClampNeg)) ∧ (u 13, u 14, u 10) = yI n nc (σ 16) (σ 15) (σ 1) (σ 9) (σ 8) (σ 2) m.toNatClampNeg h (σ 13, σ 14, σ 10) ∧ zLH n (h + m.toNatClampNeg) (u 17)) ∧
    ((zw m 0 200 && decide (nI h + m ≤ 10000)) = false → r = -1 ∧ u = σ)) = Q
  refine iv_ctl (own := RX6) (b := tbX6) (ls := [some (.inl 0), some (.inr m), none]) (plainFor_of_name (by decide)) rfl okX6 (Nat.le_of_ble_eq_true rfl) rfl ?_
  refine iv_blk [27] 60 ?_
  simp only [iv_sn, ie_cl0, ie_cl1, ie_cl2, ie_cl3, ie_cl4, ie_cl5, ie_cl6, ie_cl7, ie_cl8, ie_v5_0, ie_v5_1, ie_v5_2, ie_v5_3, ie_v5_4, ie_v6_0, ie_v8_0, ie_v12_0, ie_v24_0, ie_v30_0, ie_v3380_0, true_implies, false_implies, not_true_eq_false, implies_true, ie_10, ie_m10, ie_mm, iv_u_eq, iv_u_ne, Nat.reduceEqDiff, ie_p1, ie_p2, ie_pr, ie_pa, ie_ps, ie_d1, ie_d2, ie_r1, ie_o, ie_gr, ie_gi, ie_pt, ie_pf, ie_ri, ie_rz, ie_br, ie_c1eq, ie_c1ne, ie_c1lt, ie_c1ge, ie_c1gt, ie_c1le, ie_c2eq, ie_c2ne, ie_c2lt, ie_c2ge, ie_c2gt, ie_c2le, ie_fn0, ie_fn1, ie_fn2, ie_fn3, Nat.reduceAdd, ie_nc, Int.reduceAdd, Int.reduceLE, Int.reduceToNat, Nat.reduceLT, Nat.reduceLeDiff, Int.reduceNeg, eq_self, true_and, and_true, true_or, or_true, Nat.reduceBEq, List.elem_cons, List.elem_nil, Bool.or_false, Bool.false_or, Bool.or_true, Bool.true_or, Bool.false_eq_true, if_false, if_true, reduceIte, reduceCtorEq, ne_eq, not_false_eq_true, Classical.not_not, List.length_cons, List.length_nil, Nat.zero_le, List.map_cons, List.map_nil, List.cons_append, List.nil_append, List.replicate_succ, List.replicate_zero, Nat.reduceSub, sX6_run_0, sX6_run_1, sX6_run_2, sX6_run_5, sX6_run_8, sX6_run_11, sX6_run_12, sX6_run_15, sX6_run_16, sX6_run_17, sX6_run_20, sX6_run_23, sX6_run_24, sX6_run_25, sX6_run_26, sX6_run_27, sX6_run_28, sX6_run_29, sX6_run_32, sX6_run_33, sX6_run_36, sX6_run_39, sX6_run_42, sX6_run_43, sX6_run_46, cvX6_117, cvX6_61, gfX6_113_0, ie_call1, ie_call2, ie_call3, ie_call4, ie_call5, ie_call6, ie_call7, ie_call8, ie_i0, ie_i1, ie_im1, ie_li1, ie_li2, ie_lr0, ie_ls2, ie_rc1, ie_rc2, ie_rc3, ie_rc4, ie_rc5, ie_rc6, ie_rc7, ie_rc8, ie_s10000, ie_s200, iv_cls_0, iv_cls_12, iv_cls_18, iv_cls_24, iv_cls_29, iv_cls_3, iv_cls_30, iv_cls_33, iv_cls_37, iv_cls_4]
  refine ⟨_, ct_isWithin _ _ _, ?_⟩
  rintro r1 σ1 ⟨rfl, h1⟩
  subst h1
  simp only [zb0, zbn, hh]
  refine ⟨fun hz => by rw [← hQ]; simp [hz], fun hz => ⟨fun hz2 => ?_, fun hz2 => by rw [← hQ]; simp [z_nle.mpr (z_nle.mp hz2)]⟩⟩
  obtain ⟨hk, hm⟩ := z_cln (n := 201) hz (by decide)
  generalize hkk : m.toNatClampNeg = k at hk hm
  subst hm
  have hz2' := hz2
  rw [nI_add, show (10000 : Int32) = nI 10000 from rfl, nI_leI (by omega) (by decide)] at hz2'
  have hg : (zw (nI k) 0 200 && decide (nI h + nI k ≤ 10000)) = true := by simp [hz, hz2]
  generalize hF : yI n nc (σ1 16) (σ1 15) (σ1 1) (σ1 9) (σ1 8) (σ1 2) k h (σ1 13, σ1 14, σ1 10) = F at hQ
  have hin : ∀ (u : iv_S), (∀ k, k ≠ 0 → k ≠ 10 → k ≠ 13 → k ≠ 14 → k ≠ 17 → u k = σ1 k) → u 0 = upd (σ1 0) 7 (nI (h + k)) → (u 13, u 14, u 10) = F → zLH n (h + k) (u 17) → Q (nI (h + k)) u := by
    intro u a b c e
    rw [← hQ]
    simp only [hkk]
    exact ⟨fun _ => ⟨trivial, hz2', a, b, by rw [c, ← hF], e⟩, fun hf => by rw [hg] at hf; cases hf⟩
  have key := z_down (n := k) (P := fun i => ∀ (τ : iv_S), (∀ k, k ≠ 0 → k ≠ 10 → k ≠ 13 → k ≠ 14 → k ≠ 17 → τ k = σ1 k) → τ 0 = upd (σ1 0) 7 (nI (h + i)) → yI n nc (σ1 16) (σ1 15) (σ1 1) (σ1 9) (σ1 8) (σ1 2) (k - i) (h + i) (τ 13, τ 14, τ 10) = F → zLH n (h + i) (τ 17) →
      iv_Sf X (d + 5) mX6_run tbX6 Q 27 [some (.inl 0), some (.inr (nI k)), some (.inr (nI i))] [] τ) ?_ ?_
  · refine key σ1 (fun _ _ _ _ _ _ => rfl) ?_ hF hlh
    funext q
    by_cases hq : q = 7
    · subst hq; rw [upd_same]; exact hh
    · rw [upd_ne hq]
  · intro τ f1 f2 f3 f4
    rw [Nat.sub_self] at f3
    refine iv_blk [27] 60 ?_
    simp only [iv_sn, ie_cl0, ie_cl1, ie_cl2, ie_cl3, ie_cl4, ie_cl5, ie_cl6, ie_cl7, ie_cl8, ie_v5_0, ie_v5_1, ie_v5_2, ie_v5_3, ie_v5_4, ie_v6_0, ie_v8_0, ie_v12_0, ie_v24_0, ie_v30_0, ie_v3380_0, true_implies, false_implies, not_true_eq_false, implies_true, ie_10, ie_m10, ie_mm, iv_u_eq, iv_u_ne, Nat.reduceEqDiff, ie_p1, ie_p2, ie_pr, ie_pa, ie_ps, ie_d1, ie_d2, ie_r1, ie_o, ie_gr, ie_gi, ie_pt, ie_pf, ie_ri, ie_rz, ie_br, ie_c1eq, ie_c1ne, ie_c1lt, ie_c1ge, ie_c1gt, ie_c1le, ie_c2eq, ie_c2ne, ie_c2lt, ie_c2ge, ie_c2gt, ie_c2le, ie_fn0, ie_fn1, ie_fn2, ie_fn3, Nat.reduceAdd, ie_nc, Int.reduceAdd, Int.reduceLE, Int.reduceToNat, Nat.reduceLT, Nat.reduceLeDiff, Int.reduceNeg, eq_self, true_and, and_true, true_or, or_true, Nat.reduceBEq, List.elem_cons, List.elem_nil, Bool.or_false, Bool.false_or, Bool.or_true, Bool.true_or, Bool.false_eq_true, if_false, if_true, reduceIte, reduceCtorEq, ne_eq, not_false_eq_true, Classical.not_not, List.length_cons, List.length_nil, Nat.zero_le, List.map_cons, List.map_nil, List.cons_append, List.nil_append, List.replicate_succ, List.replicate_zero, Nat.reduceSub, sX6_run_0, sX6_run_1, sX6_run_2, sX6_run_5, sX6_run_8, sX6_run_11, sX6_run_12, sX6_run_15, sX6_run_16, sX6_run_17, sX6_run_20, sX6_run_23, sX6_run_24, sX6_run_25, sX6_run_26, sX6_run_27, sX6_run_28, sX6_run_29, sX6_run_32, sX6_run_33, sX6_run_36, sX6_run_39, sX6_run_42, sX6_run_43, sX6_run_46, cvX6_117, cvX6_61, gfX6_113_0, ie_call1, ie_call2, ie_call3, ie_call4, ie_call5, ie_call6, ie_call7, ie_call8, ie_i0, ie_i1, ie_im1, ie_li1, ie_li2, ie_lr0, ie_ls2, ie_rc1, ie_rc2, ie_rc3, ie_rc4, ie_rc5, ie_rc6, ie_rc7, ie_rc8, ie_s10000, ie_s200, iv_cls_0, iv_cls_12, iv_cls_18, iv_cls_24, iv_cls_29, iv_cls_3, iv_cls_30, iv_cls_33, iv_cls_37, iv_cls_4, f2, upd_same]
    exact ⟨fun _ => hin τ f1 f2 f3 f4, fun h => absurd (z_nn (by omega)) h⟩
  · intro i hi ih τ f1 f2 f3 f4
    have e1 := f1 1 (by decide) (by decide) (by decide) (by decide) (by decide)
    have e2 := f1 2 (by decide) (by decide) (by decide) (by decide) (by decide)
    have e4 := f1 4 (by decide) (by decide) (by decide) (by decide) (by decide)
    have e8 := f1 8 (by decide) (by decide) (by decide) (by decide) (by decide)
    have e9 := f1 9 (by decide) (by decide) (by decide) (by decide) (by decide)
    have e12 := f1 12 (by decide) (by decide) (by decide) (by decide) (by decide)
    have e15 := f1 15 (by decide) (by decide) (by decide) (by decide) (by decide)
    have e16 := f1 16 (by decide) (by decide) (by decide) (by decide) (by decide)
    refine iv_blk [27] 60 ?_
    simp only [iv_sn, ie_cl0, ie_cl1, ie_cl2, ie_cl3, ie_cl4, ie_cl5, ie_cl6, ie_cl7, ie_cl8, ie_v5_0, ie_v5_1, ie_v5_2, ie_v5_3, ie_v5_4, ie_v6_0, ie_v8_0, ie_v12_0, ie_v24_0, ie_v30_0, ie_v3380_0, true_implies, false_implies, not_true_eq_false, implies_true, ie_10, ie_m10, ie_mm, iv_u_eq, iv_u_ne, Nat.reduceEqDiff, ie_p1, ie_p2, ie_pr, ie_pa, ie_ps, ie_d1, ie_d2, ie_r1, ie_o, ie_gr, ie_gi, ie_pt, ie_pf, ie_ri, ie_rz, ie_br, ie_c1eq, ie_c1ne, ie_c1lt, ie_c1ge, ie_c1gt, ie_c1le, ie_c2eq, ie_c2ne, ie_c2lt, ie_c2ge, ie_c2gt, ie_c2le, ie_fn0, ie_fn1, ie_fn2, ie_fn3, Nat.reduceAdd, ie_nc, Int.reduceAdd, Int.reduceLE, Int.reduceToNat, Nat.reduceLT, Nat.reduceLeDiff, Int.reduceNeg, eq_self, true_and, and_true, true_or, or_true, Nat.reduceBEq, List.elem_cons, List.elem_nil, Bool.or_false, Bool.false_or, Bool.or_true, Bool.true_or, Bool.false_eq_true, if_false, if_true, reduceIte, reduceCtorEq, ne_eq, not_false_eq_true, Classical.not_not, List.length_cons, List.length_nil, Nat.zero_le, List.map_cons, List.map_nil, List.cons_append, List.nil_append, List.replicate_succ, List.replicate_zero, Nat.reduceSub, sX6_run_0, sX6_run_1, sX6_run_2, sX6_run_5, sX6_run_8, sX6_run_11, sX6_run_12, sX6_run_15, sX6_run_16, sX6_run_17, sX6_run_20, sX6_run_23, sX6_run_24, sX6_run_25, sX6_run_26, sX6_run_27, sX6_run_28, sX6_run_29, sX6_run_32, sX6_run_33, sX6_run_36, sX6_run_39, sX6_run_42, sX6_run_43, sX6_run_46, cvX6_117, cvX6_61, gfX6_113_0, ie_call1, ie_call2, ie_call3, ie_call4, ie_call5, ie_call6, ie_call7, ie_call8, ie_i0, ie_i1, ie_im1, ie_li1, ie_li2, ie_lr0, ie_ls2, ie_rc1, ie_rc2, ie_rc3, ie_rc4, ie_rc5, ie_rc6, ie_rc7, ie_rc8, ie_s10000, ie_s200, iv_cls_0, iv_cls_12, iv_cls_18, iv_cls_24, iv_cls_29, iv_cls_3, iv_cls_30, iv_cls_33, iv_cls_37, iv_cls_4]
    refine ⟨fun h => absurd h (nI_ge hi (by omega)), fun _ => ?_⟩
    refine ⟨_, ct_passHour (h := h + i) (by rw [e12]; exact hs) hn (by rw [e4]; exact hc) hnc (by rw [f2, upd_same]) (by omega) (by rw [e8]; exact hln) f4, ?_⟩
    rintro r2 u ⟨g1, g2, g3, g4⟩
    rw [nI_1]
    refine ih u ?_ ?_ ?_ g4
    · intro k k0 k1 k2 k3 k4
      rw [g1 k k0 k1 k2 k3 k4, f1 k k0 k1 k2 k3 k4]
    · rw [g2, f2]
      funext q
      by_cases hq : q = 7
      · subst hq; rw [upd_same, upd_same]; rfl
      · rw [upd_ne hq, upd_ne hq, upd_ne hq]
    · rw [g3, e16, e15, e1, e9, e8, e2, ← f3]
      rw [show k - i = (k - (i + 1)) + 1 by omega]
      rfl
end ZU
