/-- the two rows of bounds, which the class keeps as statics -/
def iv_Sx (A : Nat → Prop) (U : State) (H : Heap) : Prop := ∃ t1 t2 : Nat, va_Z RX6 "LEAST_SETTING" "[I" (.ref t1) A U H ∧ va_T .int t1 5 (fun j => .int (zLo (nI j))) A U H ∧ va_Z RX6 "MOST_SETTING" "[I" (.ref t2) A U H ∧ va_T .int t2 5 (fun j => .int (zHi (nI j))) A U H
theorem ls_76 : Cond.fieldLink RX6 76 RX6 "LEAST_SETTING" "[I" ∈ iv_g := by decide +kernel
theorem ls_79 : Cond.fieldLink RX6 79 RX6 "MOST_SETTING" "[I" ∈ iv_g := by decide +kernel
/-- a contract that asks for the statics too -/
def iv_CtS (X : iv_X) (y : iv_M) (d : Nat) (av : List iv_V) (σ : iv_S) (Q : Int32 → iv_S → Prop) : Prop :=
  ∀ sz : Nat, Met X.1 y.1 (.code y.1 y.2.1 y.2.2.1 y.2.2.2 :: iv_g) (iv_rm d) (fun a U => iv_Pc X av σ sz a U ∧ iv_Sx (iv_A X σ sz) U U.heap) (iv_Qc X y.2.2.2 σ sz Q) 0 0 (iv_A X σ sz)
set_option maxRecDepth 20000 in
set_option maxHeartbeats 4000000 in
theorem ct_set {X : iv_X} {d : Nat} {σ : iv_S} (w v : Int32) : iv_CtS X mX6_set (d + 2) [.inl 0, .inr w, .inr v] σ (fun r u => ((zw w 0 4 && zw v (zLo w) (zHi w)) = true → r = σ 1 w.toNatClampNeg ∧ u = iv_u σ 1 w.toNatClampNeg v) ∧ ((zw w 0 4 && zw v (zLo w) (zHi w)) = false → r = -1 ∧ u = σ)) := by
  generalize hQ : (fun (r : Int32) (u : iv_S) => ((zw w 0 4 && zw v (zLo w) (zHi w)) = true → r = σ 1 w.toNatClampNeg ∧ u = iv_u σ 1 w.toNatClampNeg v) ∧ ((zw w 0 4 && zw v (zLo w) (zHi w)) = false → r = -1 ∧ u = σ)) = Q
  intro sz
  refine iv_ofW (cc := cX6_set) (maxL := 4) (ret := some .int) (plainFor_of_name (by decide)) rfl ?_
  intro p e s m args below meth c s₁ B hml hv
  obtain ⟨⟨rfl, hsz, hP, hK, hD0, hN⟩, t1, t2, hZ1, hT1, hZ2, hT2⟩ := hv
  subst hsz
  have hts := atoms_spec (ws := .code yX6_set cX6_set 4 (some .int) :: iv_g) B.pre
  have hown : s.vm.findClass RX6 = some m.cls := findClass_of_methodNamed B.named
  have hD := hD0.self (sz := s.heap.size)
  have hA : ∀ q : Nat, s.heap.size ≤ q → iv_A X σ s.heap.size q := fun q h => Or.inr h
  have hS : va_S (iv_A X σ s.heap.size) s.heap s.heap [] := va_S.rf
  have hl := lv_entry ([Sum.inl 0, Sum.inr w, Sum.inr v].map (iv_e X.2.2.1)) (n := 4) (Nat.le_of_ble_eq_true rfl)
  rw [lg_entry_eq]
  have sn := fun (cut : List Nat) => iv_sn_g (p := p) (e := e) (s := s) (m := m) (args := ([Sum.inl 0, Sum.inr w, Sum.inr v].map (iv_e X.2.2.1)).toArray) (below := below) (meth := meth) (c := c) (X := X) (d := d + 1) (sz := s.heap.size) (y := mX6_set) (b := tbX6) (own := RX6) (Q := Q) (cw := .code yX6_set cX6_set 4 (some .int)) (σ0 := σ) (R := iv_rm (d + 1 + 1)) (cells := 0) (slots := 0) (QM := MQ below (iv_Qc X mX6_set.2.2.2 σ s.heap.size Q) ([Sum.inl 0, Sum.inr w, Sum.inr v].map (iv_e X.2.2.1)).toArray s 0 0 (iv_A X σ s.heap.size)) (cut := cut) ⟨Nat.le_refl _, Nat.le_refl _, Nat.le_refl _, Nat.le_refl _⟩ B.exec B.bytes B.returns hml hown hts B.notSynchronized okX6 hA (fun _ _ _ h => h)
  refine sn [10] 40 0 [some (.inl 0), some (.inr w), some (.inr v), none] [] σ ?_ s.heap [] _ ⟨hK, hP, hD, hS, hN⟩ ⟨_, hl, fun i v2 hv => by
    have := iv_args_mem X.2.2.1 [Sum.inl 0, Sum.inr w, Sum.inr v] 1 0 i v2 hv
    simpa using this⟩
  simp only [iv_sn, ie_cl0, ie_cl1, ie_cl2, ie_cl3, ie_cl4, ie_cl5, ie_cl6, ie_cl7, ie_cl8, ie_v5_0, ie_v5_1, ie_v5_2, ie_v5_3, ie_v5_4, ie_v6_0, ie_v8_0, ie_v12_0, ie_v24_0, ie_v30_0, ie_v3380_0, true_implies, false_implies, not_true_eq_false, implies_true, ie_10, ie_m10, ie_mm, iv_u_eq, iv_u_ne, Nat.reduceEqDiff, ie_p1, ie_p2, ie_pr, ie_pa, ie_ps, ie_d1, ie_d2, ie_r1, ie_o, ie_gr, ie_gi, ie_pt, ie_pf, ie_ri, ie_rz, ie_br, ie_c1eq, ie_c1ne, ie_c1lt, ie_c1ge, ie_c1gt, ie_c1le, ie_c2eq, ie_c2ne, ie_c2lt, ie_c2ge, ie_c2gt, ie_c2le, ie_fn0, ie_fn1, ie_fn2, ie_fn3, Nat.reduceAdd, ie_nc, Int.reduceAdd, Int.reduceLE, Int.reduceToNat, Nat.reduceLT, Nat.reduceLeDiff, Int.reduceNeg, eq_self, true_and, and_true, true_or, or_true, Nat.reduceBEq, List.elem_cons, List.elem_nil, Bool.or_false, Bool.false_or, Bool.or_true, Bool.true_or, Bool.false_eq_true, if_false, if_true, reduceIte, reduceCtorEq, ne_eq, not_false_eq_true, Classical.not_not, List.length_cons, List.length_nil, Nat.zero_le, List.map_cons, List.map_nil, List.cons_append, List.nil_append, List.replicate_succ, List.replicate_zero, Nat.reduceSub, sX6_set_0, sX6_set_1, sX6_set_2, sX6_set_3, sX6_set_6, sX6_set_9, cvX6_61, ie_call1, ie_call2, ie_call3, ie_call4, ie_call5, ie_call6, ie_call7, ie_call8, ie_i0, ie_i4, ie_li1, ie_li2, iv_sn, ie_cl0, ie_cl1, ie_cl2, ie_cl3, ie_cl4, ie_cl5, ie_cl6, ie_cl7, ie_cl8, ie_v5_0, ie_v5_1, ie_v5_2, ie_v5_3, ie_v5_4, ie_v6_0, ie_v8_0, ie_v12_0, ie_v24_0, ie_v30_0, ie_v3380_0, true_implies, false_implies, not_true_eq_false, implies_true, ie_10, ie_m10, ie_mm, iv_u_eq, iv_u_ne, Nat.reduceEqDiff, ie_p1, ie_p2, ie_pr, ie_pa, ie_ps, ie_d1, ie_d2, ie_r1, ie_o, ie_gr, ie_gi, ie_pt, ie_pf, ie_ri, ie_rz, ie_br, ie_c1eq, ie_c1ne, ie_c1lt, ie_c1ge, ie_c1gt, ie_c1le, ie_c2eq, ie_c2ne, ie_c2lt, ie_c2ge, ie_c2gt, ie_c2le, ie_fn0, ie_fn1, ie_fn2, ie_fn3, Nat.reduceAdd, ie_nc, Int.reduceAdd, Int.reduceLE, Int.reduceToNat, Nat.reduceLT, Nat.reduceLeDiff, Int.reduceNeg, eq_self, true_and, and_true, true_or, or_true, Nat.reduceBEq, List.elem_cons, List.elem_nil, Bool.or_false, Bool.false_or, Bool.or_true, Bool.true_or, Bool.false_eq_true, if_false, if_true, reduceIte, reduceCtorEq, ne_eq, not_false_eq_true, Classical.not_not, List.length_cons, List.length_nil, Nat.zero_le, List.map_cons, List.map_nil, List.cons_append, List.nil_append, List.replicate_succ, List.replicate_zero, Nat.reduceSub, sX6_set_26, sX6_set_27, sX6_set_28, sX6_set_29, sX6_set_32, sX6_set_33, sX6_set_34, sX6_set_35, sX6_set_36, sX6_set_39, sX6_set_40, sX6_set_41, sX6_set_42, sX6_set_43, gfX6_7_0, ie_im1, ie_li1, ie_li2, ie_li3, ie_lr0, ie_ls3, iv_ar_1, iv_ar_10, iv_ar_11, iv_ar_13, iv_ar_14, iv_ar_15, iv_ar_16, iv_ar_17, iv_ar_19, iv_ar_2, iv_ar_20, iv_ar_21, iv_ar_22, iv_ar_23, iv_ar_25, iv_ar_26, iv_ar_27, iv_ar_28, iv_ar_31, iv_ar_32, iv_ar_34, iv_ar_35, iv_ar_36, iv_ar_38, iv_ar_39, iv_ar_40, iv_ar_41, iv_ar_42, iv_ar_43, iv_ar_44, iv_ar_45, iv_ar_46, iv_ar_47, iv_ar_48, iv_ar_49, iv_ar_5, iv_ar_50, iv_ar_51, iv_ar_52, iv_ar_53, iv_ar_54, iv_ar_55, iv_ar_56, iv_ar_6, iv_ar_7, iv_ar_8, iv_ar_9]
  refine ⟨_, ct_isWithin _ _ _, ?_⟩
  rintro r1 σ1 ⟨rfl, h1⟩
  subst h1
  simp only [zb0, zbn]
  refine ⟨fun hz => by rw [← hQ]; simp [hz], fun hz => ?_⟩
  obtain ⟨hk, hm⟩ := z_cln (n := 5) hz (by decide)
  generalize hkk : w.toNatClampNeg = k at hk hm
  subst hm
  intro H locs lsA hw hl2
  have hS2 := hw.2.2.2.1
  have hg := fun w h => hts w (List.mem_cons_of_mem _ h)
  refine va_gets B.exec B.bytes hZ1 hS2 hown (hg _ ls_76) (fun _ h => h) dX6_set_10 ?_
  refine lv_iload_n B.exec B.bytes dX6_set_13 rfl (iv_lh_get hl2 (i := 1) (v := .inr (nI k)) rfl) ?_
  refine va_ti B.exec B.bytes hT1 hS2 (z_in hk (by decide)) rfl dX6_set_14 ?_
  refine va_gets B.exec B.bytes hZ2 hS2 hown (hg _ ls_79) (fun _ h => h) dX6_set_15 ?_
  refine lv_iload_n B.exec B.bytes dX6_set_18 rfl (iv_lh_get hl2 (i := 1) (v := .inr (nI k)) rfl) ?_
  refine va_ti B.exec B.bytes hT2 hS2 (z_in hk (by decide)) rfl dX6_set_19 ?_
  rw [hkk]
  refine sn [] 40 20 [some (.inl 0), some (.inr (nI k)), some (.inr v), none] [.inr (zHi (nI k)), .inr (zLo (nI k)), .inr v] σ1 ?_ H locs lsA hw hl2
  simp only [iv_sn, ie_cl0, ie_cl1, ie_cl2, ie_cl3, ie_cl4, ie_cl5, ie_cl6, ie_cl7, ie_cl8, ie_v5_0, ie_v5_1, ie_v5_2, ie_v5_3, ie_v5_4, ie_v6_0, ie_v8_0, ie_v12_0, ie_v24_0, ie_v30_0, ie_v3380_0, true_implies, false_implies, not_true_eq_false, implies_true, ie_10, ie_m10, ie_mm, iv_u_eq, iv_u_ne, Nat.reduceEqDiff, ie_p1, ie_p2, ie_pr, ie_pa, ie_ps, ie_d1, ie_d2, ie_r1, ie_o, ie_gr, ie_gi, ie_pt, ie_pf, ie_ri, ie_rz, ie_br, ie_c1eq, ie_c1ne, ie_c1lt, ie_c1ge, ie_c1gt, ie_c1le, ie_c2eq, ie_c2ne, ie_c2lt, ie_c2ge, ie_c2gt, ie_c2le, ie_fn0, ie_fn1, ie_fn2, ie_fn3, Nat.reduceAdd, ie_nc, Int.reduceAdd, Int.reduceLE, Int.reduceToNat, Nat.reduceLT, Nat.reduceLeDiff, Int.reduceNeg, eq_self, true_and, and_true, true_or, or_true, Nat.reduceBEq, List.elem_cons, List.elem_nil, Bool.or_false, Bool.false_or, Bool.or_true, Bool.true_or, Bool.false_eq_true, if_false, if_true, reduceIte, reduceCtorEq, ne_eq, not_false_eq_true, Classical.not_not, List.length_cons, List.length_nil, Nat.zero_le, List.map_cons, List.map_nil, List.cons_append, List.nil_append, List.replicate_succ, List.replicate_zero, Nat.reduceSub, sX6_set_20, sX6_set_23, sX6_set_26, sX6_set_27, sX6_set_28, sX6_set_29, sX6_set_32, sX6_set_33, sX6_set_34, sX6_set_35, sX6_set_36, sX6_set_39, sX6_set_40, sX6_set_41, sX6_set_42, sX6_set_43, cvX6_61, gfX6_7_0, ie_call1, ie_call2, ie_call3, ie_call4, ie_call5, ie_call6, ie_call7, ie_call8, ie_im1, ie_li1, ie_li2, ie_li3, ie_lr0, ie_ls3, iv_ar_1, iv_ar_10, iv_ar_11, iv_ar_13, iv_ar_14, iv_ar_15, iv_ar_16, iv_ar_17, iv_ar_19, iv_ar_2, iv_ar_20, iv_ar_21, iv_ar_22, iv_ar_23, iv_ar_25, iv_ar_26, iv_ar_27, iv_ar_28, iv_ar_31, iv_ar_32, iv_ar_34, iv_ar_35, iv_ar_36, iv_ar_38, iv_ar_39, iv_ar_40, iv_ar_41, iv_ar_42, iv_ar_43, iv_ar_44, iv_ar_45, iv_ar_46, iv_ar_47, iv_ar_48, iv_ar_49, iv_ar_5, iv_ar_50, iv_ar_51, iv_ar_52, iv_ar_53, iv_ar_54, iv_ar_55, iv_ar_56, iv_ar_6, iv_ar_7, iv_ar_8, iv_ar_9, hkk, z_in hk (show 5 < 2 ^ 31 by decide)]
  refine ⟨_, ct_isWithin _ _ _, ?_⟩
  rintro r1 σ2 ⟨rfl, h1⟩
  subst h1
  simp only [zb0, zbn]
  refine ⟨fun h2 => ?_, fun h2 => by rw [← hQ]; simp [h2]⟩
  rw [← hQ]
  simp [hz, h2, hkk]
