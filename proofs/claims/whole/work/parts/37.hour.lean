/-! an hour in one cabinet, as plain functions -/
theorem zp_e {e : Nat → Bool} {ch ag : Nat → Int32} : ∀ {n q : Nat}, zp e ch ag n = some q → e q = true
  | 0, _, h => by cases h
  | n + 1, q, h => by
    by_cases he : e n = true
    · rw [zp_t he] at h
      cases hz : zp e ch ag n with
      | none => rw [hz] at h; cases h; exact he
      | some t =>
        rw [hz] at h
        unfold za at h
        dsimp only at h
        split at h
        · cases h; exact he
        · cases h; exact zp_e hz
    · rw [zp_f (by simpa using he)] at h
      exact zp_e h
theorem zp_congr {e e' : Nat → Bool} {ch ag ch' ag' : Nat → Int32} : ∀ {n : Nat}, (∀ p, p < n → e p = e' p) → (∀ p, p < n → e p = true → ch p = ch' p ∧ ag p = ag' p) → zp e ch ag n = zp e' ch' ag' n
  | 0, _, _ => rfl
  | n + 1, h1, h2 => by
    have ih := zp_congr (n := n) (fun p hp => h1 p (by omega)) (fun p hp => h2 p (by omega))
    by_cases he : e n = true
    · have he' : e' n = true := by rw [← h1 n (by omega)]; exact he
      rw [zp_t he, zp_t he', ← ih]
      cases hz : zp e ch ag n with
      | none => rfl
      | some q =>
        have hq := zp_lt hz
        obtain ⟨a1, a2⟩ := h2 q (by omega) (zp_e hz)
        obtain ⟨b1, b2⟩ := h2 n (by omega) he
        simp only [za, a1, a2, b1, b2]
    · have he : e n = false := by simpa using he
      have he' : e' n = false := by rw [← h1 n (by omega)]; exact he
      rw [zp_f he, zp_f he', ih]
theorem zc_congr {f g : Nat → Bool} : ∀ {n : Nat}, (∀ p, p < n → f p = g p) → zc f n = zc g n
  | 0, _ => rfl
  | n + 1, h => by
    simp only [zc]
    rw [zc_congr (fun p hp => h p (by omega)), h n (by omega)]
/-- the row of packs that are charged, in their order -/
def zl (e : Nat → Bool) (ch ag : Nat → Int32) (n : Nat) : Nat → (Nat → Bool) → List Nat
  | 0, _ => []
  | k + 1, D => match zp (fun p => e p && !D p) ch ag n with
    | none => []
    | some q => q :: zl e ch ag n k (fun p => D p || decide (p = q))
theorem zl_len (e : Nat → Bool) (ch ag : Nat → Int32) (n : Nat) : ∀ (k : Nat) (D : Nat → Bool), (zl e ch ag n k D).length ≤ k
  | 0, D => Nat.le_refl _
  | k + 1, D => by
    unfold zl
    split
    · exact Nat.zero_le _
    · have := zl_len e ch ag n k (fun p => D p || decide (p = ‹Nat›))
      simp only [List.length_cons]
      exact Nat.succ_le_succ (zl_len e ch ag n k _)
def yE (hm sk se ch ag : Nat → Int32) (c : Int32) (p : Nat) : Bool := decide (hm p = c) && (zF ag sk se p && decide (ch p < 100))
def yR (n : Nat) (hm sk se : Nat → Int32) (c : Int32) (ch ag : Nat → Int32) : Nat := zc (fun p => decide (hm p = c) && zR ch ag sk hm se p) n
def yM (rate : Int32) (ch : Nat → Int32) (q : Nat) : Int32 := if rate ≤ 100 - ch q then rate else 100 - ch q
def yC (n : Nat) (hm sk se : Nat → Int32) (c need price : Int32) : List Nat → (Nat → Int32) → (Nat → Int32) → Int32 → (Nat → Int32) × (Nat → Int32) × Int32
  | [], ch, ag, b => (ch, ag, b)
  | q :: L, ch, ag, b => if decide (se 2 < price) && decide (need ≤ nI (yR n hm sk se c ch ag)) then (ch, ag, b) else yC n hm sk se c need price L (upd ch q (ch q + yM (se 3) ch q)) (upd ag q (ag q + yM (se 3) ch q)) (b + price)
/-- the whole of it: with this many lines -/
def yH (n : Nat) (hm sk se : Nat → Int32) (c need price : Int32) (lines : Nat) (ch ag : Nat → Int32) (b : Int32) : (Nat → Int32) × (Nat → Int32) × Int32 :=
  yC n hm sk se c need price (zl (yE hm sk se ch ag c) ch ag n lines (fun _ => false)) ch ag b
theorem yC_stop {n : Nat} {hm sk se : Nat → Int32} {c need price : Int32} {L : List Nat} {ch ag : Nat → Int32} {b : Int32} (h : (decide (se 2 < price) && decide (need ≤ nI (yR n hm sk se c ch ag))) = true) : yC n hm sk se c need price L ch ag b = (ch, ag, b) := by
  cases L with
  | nil => rfl
  | cons q L => simp only [yC, h, if_true]
theorem yC_go {n : Nat} {hm sk se : Nat → Int32} {c need price : Int32} {q : Nat} {L : List Nat} {ch ag : Nat → Int32} {b : Int32} (h : (decide (se 2 < price) && decide (need ≤ nI (yR n hm sk se c ch ag))) = false) : yC n hm sk se c need price (q :: L) ch ag b = yC n hm sk se c need price L (upd ch q (ch q + yM (se 3) ch q)) (upd ag q (ag q + yM (se 3) ch q)) (b + price) := by
  simp only [yC, h, Bool.false_eq_true, if_false]
theorem zl_none {e : Nat → Bool} {ch ag : Nat → Int32} {n k : Nat} {D : Nat → Bool} (h : zp (fun p => e p && !D p) ch ag n = none) : zl e ch ag n k D = [] := by
  cases k with
  | zero => rfl
  | succ k => simp only [zl, h]
theorem zl_some {e : Nat → Bool} {ch ag : Nat → Int32} {n k q : Nat} {D : Nat → Bool} (h : zp (fun p => e p && !D p) ch ag n = some q) : zl e ch ag n (k + 1) D = q :: zl e ch ag n k (fun p => D p || decide (p = q)) := by
  simp only [zl, h]
section ZH
variable {X : iv_X} {d : Nat} {σ : iv_S}
set_option maxRecDepth 20000 in
set_option maxHeartbeats 4000000 in
theorem ct_chargeIn {n j l : Nat} (hs : σ 12 5 = nI n) (hn : n ≤ 30) (hj : j < 6) (hl : σ 8 j = nI l) (hlb : l ≤ 8) (hlh : ∀ p, p < n → σ 16 p = nI j → ¬ σ 17 p = σ 0 7) (price : Int32) (F : (Nat → Int32) × (Nat → Int32) × Int32) (hF : yH n (σ 16) (σ 15) (σ 1) (nI j) (σ 9 j) price l (σ 13) (σ 14) (σ 10 j) = F) : iv_Ct X mX6_chargeIn (d + 4) [.inl 0, .inr (nI j), .inr price] σ (fun _ u =>
    (∀ k, k ≠ 10 → k ≠ 13 → k ≠ 14 → k ≠ 17 → u k = σ k) ∧ u 13 = F.1 ∧ u 14 = F.2.1 ∧ u 10 = upd (σ 10) j F.2.2 ∧
    (∀ p, ¬ σ 16 p = nI j → u 17 p = σ 17 p) ∧ (∀ p, u 17 p = σ 17 p ∨ u 17 p = σ 0 7)) := by
  generalize hQ : (fun (_ : Int32) (u : iv_S) => (∀ k, k ≠ 10 → k ≠ 13 → k ≠ 14 → k ≠ 17 → u k = σ k) ∧ u 13 = F.1 ∧ u 14 = F.2.1 ∧ u 10 = upd (σ 10) j F.2.2 ∧
    (∀ p, ¬ σ 16 p = nI j → u 17 p = σ 17 p) ∧ (∀ p, u 17 p = σ 17 p ∨ u 17 p = σ 0 7)) = Q
  have hin : ∀ (r : Int32) (u : iv_S), ((∀ k, k ≠ 10 → k ≠ 13 → k ≠ 14 → k ≠ 17 → u k = σ k) ∧ u 13 = F.1 ∧ u 14 = F.2.1 ∧ u 10 = upd (σ 10) j F.2.2 ∧
    (∀ p, ¬ σ 16 p = nI j → u 17 p = σ 17 p) ∧ (∀ p, u 17 p = σ 17 p ∨ u 17 p = σ 0 7)) → Q r u := fun r u h => by rw [← hQ]; exact h
  refine iv_ctl (own := RX6) (b := tbX6) (ls := [some (.inl 0), some (.inr (nI j)), some (.inr price), none, none, none]) (plainFor_of_name (by decide)) rfl okX6 (Nat.le_of_ble_eq_true rfl) rfl ?_
  refine iv_blk [2] 30 ?_
  simp only [iv_sn, ie_cl0, ie_cl1, ie_cl2, ie_cl3, ie_cl4, ie_cl5, ie_cl6, ie_cl7, ie_cl8, ie_v5_0, ie_v5_1, ie_v5_2, ie_v5_3, ie_v5_4, ie_v6_0, ie_v8_0, ie_v12_0, ie_v24_0, ie_v30_0, ie_v3380_0, true_implies, false_implies, not_true_eq_false, implies_true, ie_10, ie_m10, ie_mm, iv_u_eq, iv_u_ne, Nat.reduceEqDiff, ie_p1, ie_p2, ie_pr, ie_pa, ie_ps, ie_d1, ie_d2, ie_r1, ie_o, ie_gr, ie_gi, ie_pt, ie_pf, ie_ri, ie_rz, ie_br, ie_c1eq, ie_c1ne, ie_c1lt, ie_c1ge, ie_c1gt, ie_c1le, ie_c2eq, ie_c2ne, ie_c2lt, ie_c2ge, ie_c2gt, ie_c2le, ie_fn0, ie_fn1, ie_fn2, ie_fn3, Nat.reduceAdd, ie_nc, Int.reduceAdd, Int.reduceLE, Int.reduceToNat, Nat.reduceLT, Nat.reduceLeDiff, Int.reduceNeg, eq_self, true_and, and_true, true_or, or_true, Nat.reduceBEq, List.elem_cons, List.elem_nil, Bool.or_false, Bool.false_or, Bool.or_true, Bool.true_or, Bool.false_eq_true, if_false, if_true, reduceIte, reduceCtorEq, ne_eq, not_false_eq_true, Classical.not_not, List.length_cons, List.length_nil, Nat.zero_le, List.map_cons, List.map_nil, List.cons_append, List.nil_append, List.replicate_succ, List.replicate_zero, Nat.reduceSub, sX6_chargeIn_0, sX6_chargeIn_1, sX6_chargeIn_2, sX6_chargeIn_3, sX6_chargeIn_4, sX6_chargeIn_7, sX6_chargeIn_10, sX6_chargeIn_11, sX6_chargeIn_12, sX6_chargeIn_15, sX6_chargeIn_16, sX6_chargeIn_17, sX6_chargeIn_20, sX6_chargeIn_21, sX6_chargeIn_22, sX6_chargeIn_25, sX6_chargeIn_26, sX6_chargeIn_29, sX6_chargeIn_30, sX6_chargeIn_32, sX6_chargeIn_34, sX6_chargeIn_37, sX6_chargeIn_38, sX6_chargeIn_39, sX6_chargeIn_42, sX6_chargeIn_43, sX6_chargeIn_46, sX6_chargeIn_49, sX6_chargeIn_50, sX6_chargeIn_51, sX6_chargeIn_54, sX6_chargeIn_55, sX6_chargeIn_56, sX6_chargeIn_57, sX6_chargeIn_60, sX6_chargeIn_62, sX6_chargeIn_64, sX6_chargeIn_65, sX6_chargeIn_68, sX6_chargeIn_69, sX6_chargeIn_70, sX6_chargeIn_73, sX6_chargeIn_75, sX6_chargeIn_76, sX6_chargeIn_79, sX6_chargeIn_80, sX6_chargeIn_81, sX6_chargeIn_82, sX6_chargeIn_85, sX6_chargeIn_88, sX6_chargeIn_89, sX6_chargeIn_92, sX6_chargeIn_95, sX6_chargeIn_96, sX6_chargeIn_97, sX6_chargeIn_98, sX6_chargeIn_99, sX6_chargeIn_100, sX6_chargeIn_101, sX6_chargeIn_104, sX6_chargeIn_107, cvX6_164, cvX6_233, cvX6_236, gfX6_113_0, gfX6_167_3, gfX6_19_0, gfX6_227_3, gfX6_230_3, gfX6_26_0, gfX6_7_0, ie_call1, ie_call2, ie_call3, ie_call4, ie_call5, ie_call6, ie_call7, ie_call8, ie_i0, ie_i1, ie_i2, ie_i3, ie_im1, ie_li1, ie_li2, ie_li3, ie_li4, ie_li5, ie_lr0, ie_ls3, ie_ls4, ie_ls5, ie_rc1, ie_rc2, ie_rc3, ie_rc4, ie_rc5, ie_rc6, ie_rc7, ie_rc8, iv_ar_1, iv_ar_10, iv_ar_11, iv_ar_13, iv_ar_14, iv_ar_15, iv_ar_16, iv_ar_17, iv_ar_19, iv_ar_2, iv_ar_20, iv_ar_21, iv_ar_22, iv_ar_23, iv_ar_25, iv_ar_26, iv_ar_27, iv_ar_28, iv_ar_31, iv_ar_32, iv_ar_34, iv_ar_35, iv_ar_36, iv_ar_38, iv_ar_39, iv_ar_40, iv_ar_41, iv_ar_42, iv_ar_43, iv_ar_44, iv_ar_45, iv_ar_46, iv_ar_47, iv_ar_48, iv_ar_49, iv_ar_5, iv_ar_50, iv_ar_51, iv_ar_52, iv_ar_53, iv_ar_54, iv_ar_55, iv_ar_56, iv_ar_6, iv_ar_7, iv_ar_8, iv_ar_9, iv_cls_0, iv_cls_12, iv_cls_18, iv_cls_24, iv_cls_29, iv_cls_3, iv_cls_30, iv_cls_33, iv_cls_37, iv_cls_4]
  have key := z_down (n := l) (P := fun i => ∀ (τ : iv_S) (v4 v5 : Option iv_V) (D : Nat → Bool), (∀ k, k ≠ 10 → k ≠ 13 → k ≠ 14 → k ≠ 17 → τ k = σ k) → (∀ p, D p = false → τ 13 p = σ 13 p ∧ τ 14 p = σ 14 p) → (∀ p, p < n → σ 16 p = nI j → (D p = true ↔ τ 17 p = σ 0 7)) →
      yC n (σ 16) (σ 15) (σ 1) (nI j) (σ 9 j) price (zl (yE (σ 16) (σ 15) (σ 1) (σ 13) (σ 14) (nI j)) (σ 13) (σ 14) n (l - i) D) (τ 13) (τ 14) (τ 10 j) = F → (∀ q, q ≠ j → τ 10 q = σ 10 q) → (∀ p, ¬ σ 16 p = nI j → τ 17 p = σ 17 p) → (∀ p, τ 17 p = σ 17 p ∨ τ 17 p = σ 0 7) →
      iv_Sf X (d + 3) mX6_chargeIn tbX6 Q 2 [some (.inl 0), some (.inr (nI j)), some (.inr price), some (.inr (nI i)), v4, v5] [] τ) ?_ ?_
  · exact key σ none none (fun _ => false) (fun _ _ _ _ _ => rfl) (fun p _ => ⟨rfl, rfl⟩) (fun p hp hc => ⟨fun h => (by cases h), fun h => absurd h (hlh p hp hc)⟩) hF (fun _ _ => rfl) (fun _ _ => rfl) (fun _ => Or.inl rfl)
  · intro τ v4 v5 D f1 f2 f3 f4 f5 f6 f7
    refine iv_blk [2] 90 ?_
    simp only [iv_sn, ie_cl0, ie_cl1, ie_cl2, ie_cl3, ie_cl4, ie_cl5, ie_cl6, ie_cl7, ie_cl8, ie_v5_0, ie_v5_1, ie_v5_2, ie_v5_3, ie_v5_4, ie_v6_0, ie_v8_0, ie_v12_0, ie_v24_0, ie_v30_0, ie_v3380_0, true_implies, false_implies, not_true_eq_false, implies_true, ie_10, ie_m10, ie_mm, iv_u_eq, iv_u_ne, Nat.reduceEqDiff, ie_p1, ie_p2, ie_pr, ie_pa, ie_ps, ie_d1, ie_d2, ie_r1, ie_o, ie_gr, ie_gi, ie_pt, ie_pf, ie_ri, ie_rz, ie_br, ie_c1eq, ie_c1ne, ie_c1lt, ie_c1ge, ie_c1gt, ie_c1le, ie_c2eq, ie_c2ne, ie_c2lt, ie_c2ge, ie_c2gt, ie_c2le, ie_fn0, ie_fn1, ie_fn2, ie_fn3, Nat.reduceAdd, ie_nc, Int.reduceAdd, Int.reduceLE, Int.reduceToNat, Nat.reduceLT, Nat.reduceLeDiff, Int.reduceNeg, eq_self, true_and, and_true, true_or, or_true, Nat.reduceBEq, List.elem_cons, List.elem_nil, Bool.or_false, Bool.false_or, Bool.or_true, Bool.true_or, Bool.false_eq_true, if_false, if_true, reduceIte, reduceCtorEq, ne_eq, not_false_eq_true, Classical.not_not, List.length_cons, List.length_nil, Nat.zero_le, List.map_cons, List.map_nil, List.cons_append, List.nil_append, List.replicate_succ, List.replicate_zero, Nat.reduceSub, sX6_chargeIn_0, sX6_chargeIn_1, sX6_chargeIn_2, sX6_chargeIn_3, sX6_chargeIn_4, sX6_chargeIn_7, sX6_chargeIn_10, sX6_chargeIn_11, sX6_chargeIn_12, sX6_chargeIn_15, sX6_chargeIn_16, sX6_chargeIn_17, sX6_chargeIn_20, sX6_chargeIn_21, sX6_chargeIn_22, sX6_chargeIn_25, sX6_chargeIn_26, sX6_chargeIn_29, sX6_chargeIn_30, sX6_chargeIn_32, sX6_chargeIn_34, sX6_chargeIn_37, sX6_chargeIn_38, sX6_chargeIn_39, sX6_chargeIn_42, sX6_chargeIn_43, sX6_chargeIn_46, sX6_chargeIn_49, sX6_chargeIn_50, sX6_chargeIn_51, sX6_chargeIn_54, sX6_chargeIn_55, sX6_chargeIn_56, sX6_chargeIn_57, sX6_chargeIn_60, sX6_chargeIn_62, sX6_chargeIn_64, sX6_chargeIn_65, sX6_chargeIn_68, sX6_chargeIn_69, sX6_chargeIn_70, sX6_chargeIn_73, sX6_chargeIn_75, sX6_chargeIn_76, sX6_chargeIn_79, sX6_chargeIn_80, sX6_chargeIn_81, sX6_chargeIn_82, sX6_chargeIn_85, sX6_chargeIn_88, sX6_chargeIn_89, sX6_chargeIn_92, sX6_chargeIn_95, sX6_chargeIn_96, sX6_chargeIn_97, sX6_chargeIn_98, sX6_chargeIn_99, sX6_chargeIn_100, sX6_chargeIn_101, sX6_chargeIn_104, sX6_chargeIn_107, cvX6_164, cvX6_233, cvX6_236, gfX6_113_0, gfX6_167_3, gfX6_19_0, gfX6_227_3, gfX6_230_3, gfX6_26_0, gfX6_7_0, ie_call1, ie_call2, ie_call3, ie_call4, ie_call5, ie_call6, ie_call7, ie_call8, ie_i0, ie_i1, ie_i2, ie_i3, ie_im1, ie_li1, ie_li2, ie_li3, ie_li4, ie_li5, ie_lr0, ie_ls3, ie_ls4, ie_ls5, ie_rc1, ie_rc2, ie_rc3, ie_rc4, ie_rc5, ie_rc6, ie_rc7, ie_rc8, iv_ar_1, iv_ar_10, iv_ar_11, iv_ar_13, iv_ar_14, iv_ar_15, iv_ar_16, iv_ar_17, iv_ar_19, iv_ar_2, iv_ar_20, iv_ar_21, iv_ar_22, iv_ar_23, iv_ar_25, iv_ar_26, iv_ar_27, iv_ar_28, iv_ar_31, iv_ar_32, iv_ar_34, iv_ar_35, iv_ar_36, iv_ar_38, iv_ar_39, iv_ar_40, iv_ar_41, iv_ar_42, iv_ar_43, iv_ar_44, iv_ar_45, iv_ar_46, iv_ar_47, iv_ar_48, iv_ar_49, iv_ar_5, iv_ar_50, iv_ar_51, iv_ar_52, iv_ar_53, iv_ar_54, iv_ar_55, iv_ar_56, iv_ar_6, iv_ar_7, iv_ar_8, iv_ar_9, iv_cls_0, iv_cls_12, iv_cls_18, iv_cls_24, iv_cls_29, iv_cls_3, iv_cls_30, iv_cls_33, iv_cls_37, iv_cls_4, z_cl (show j < 2 ^ 31 by omega), z_in hj (by decide), f1 8 (by decide) (by decide) (by decide) (by decide), hl]
    rw [Nat.sub_self] at f4
    refine ⟨fun h => hin _ _ ⟨f1, ?_, ?_, ?_, f6, f7⟩, fun h => absurd (z_nn (by omega)) h⟩
    · rw [← f4]; rfl
    · rw [← f4]; rfl
    · rw [← f4]
      funext q
      by_cases hq : q = j
      · subst hq; rw [upd_same]; rfl
      · rw [upd_ne hq, f5 q hq]
  · intro i hi ih τ v4 v5 D f1 f2 f3 f4 f5 f6 f7
    have e8 := f1 8 (by decide) (by decide) (by decide) (by decide)
    have e1 := f1 1 (by decide) (by decide) (by decide) (by decide)
    have e9 := f1 9 (by decide) (by decide) (by decide) (by decide)
    have e16 := f1 16 (by decide) (by decide) (by decide) (by decide)
    have e15 := f1 15 (by decide) (by decide) (by decide) (by decide)
    have e0 := f1 0 (by decide) (by decide) (by decide) (by decide)
    have e12 : τ 12 5 = nI n := by rw [f1 12 (by decide) (by decide) (by decide) (by decide)]; exact hs
    have hstop : (decide (σ 1 2 < price) && decide (σ 9 j ≤ nI (yR n (σ 16) (σ 15) (σ 1) (nI j) (τ 13) (τ 14)))) = true → Q 0 τ := by
      intro hst
      rw [yC_stop hst] at f4
      refine hin _ _ ⟨f1, by rw [← f4], by rw [← f4], ?_, f6, f7⟩
      rw [← f4]
      funext q
      by_cases hq : q = j
      · subst hq; rw [upd_same]
      · rw [upd_ne hq, f5 q hq]
    -- what comes behind the question of the price
    have hnext : (decide (σ 1 2 < price) && decide (σ 9 j ≤ nI (yR n (σ 16) (σ 15) (σ 1) (nI j) (τ 13) (τ 14)))) = false → ∀ v5', iv_Sf X (d + 3) mX6_chargeIn tbX6 Q 55 [some (.inl 0), some (.inr (nI j)), some (.inr price), some (.inr (nI i)), v5', v5] [] τ := by
      intro hgo v5'
      have hz : zp (fun p => decide (τ 16 p = nI j) && (zF (τ 14) (τ 15) (τ 1) p && (decide (τ 13 p < 100) && !decide (τ 17 p = τ 0 7)))) (τ 13) (τ 14) n = zp (fun p => yE (σ 16) (σ 15) (σ 1) (σ 13) (σ 14) (nI j) p && !D p) (σ 13) (σ 14) n := by
        refine zp_congr (fun p hp => ?_) (fun p hp he => ?_)
        · rw [e16, e15, e1, e0]
          by_cases hc : σ 16 p = nI j
          · cases hD : D p with
            | true => simp [(f3 p hp hc).mp hD]
            | false =>
              have h17 : ¬ τ 17 p = σ 0 7 := fun h => by rw [(f3 p hp hc).mpr h] at hD; cases hD
              obtain ⟨g1, g2⟩ := f2 p hD
              simp [yE, hc, h17, g1, g2, zF, Bool.and_assoc]
          · simp [yE, hc]
        · rw [e16, e15, e1, e0] at he
          simp only [Bool.and_eq_true, decide_eq_true_eq, Bool.not_eq_true', decide_eq_false_iff_not] at he
          have hD : D p = false := by
            cases hD : D p with
            | false => rfl
            | true => exact absurd ((f3 p hp he.1).mp hD) he.2.2.2
          exact f2 p hD
      refine iv_blk [2] 90 ?_
      simp only [iv_sn, ie_cl0, ie_cl1, ie_cl2, ie_cl3, ie_cl4, ie_cl5, ie_cl6, ie_cl7, ie_cl8, ie_v5_0, ie_v5_1, ie_v5_2, ie_v5_3, ie_v5_4, ie_v6_0, ie_v8_0, ie_v12_0, ie_v24_0, ie_v30_0, ie_v3380_0, true_implies, false_implies, not_true_eq_false, implies_true, ie_10, ie_m10, ie_mm, iv_u_eq, iv_u_ne, Nat.reduceEqDiff, ie_p1, ie_p2, ie_pr, ie_pa, ie_ps, ie_d1, ie_d2, ie_r1, ie_o, ie_gr, ie_gi, ie_pt, ie_pf, ie_ri, ie_rz, ie_br, ie_c1eq, ie_c1ne, ie_c1lt, ie_c1ge, ie_c1gt, ie_c1le, ie_c2eq, ie_c2ne, ie_c2lt, ie_c2ge, ie_c2gt, ie_c2le, ie_fn0, ie_fn1, ie_fn2, ie_fn3, Nat.reduceAdd, ie_nc, Int.reduceAdd, Int.reduceLE, Int.reduceToNat, Nat.reduceLT, Nat.reduceLeDiff, Int.reduceNeg, eq_self, true_and, and_true, true_or, or_true, Nat.reduceBEq, List.elem_cons, List.elem_nil, Bool.or_false, Bool.false_or, Bool.or_true, Bool.true_or, Bool.false_eq_true, if_false, if_true, reduceIte, reduceCtorEq, ne_eq, not_false_eq_true, Classical.not_not, List.length_cons, List.length_nil, Nat.zero_le, List.map_cons, List.map_nil, List.cons_append, List.nil_append, List.replicate_succ, List.replicate_zero, Nat.reduceSub, sX6_chargeIn_0, sX6_chargeIn_1, sX6_chargeIn_2, sX6_chargeIn_3, sX6_chargeIn_4, sX6_chargeIn_7, sX6_chargeIn_10, sX6_chargeIn_11, sX6_chargeIn_12, sX6_chargeIn_15, sX6_chargeIn_16, sX6_chargeIn_17, sX6_chargeIn_20, sX6_chargeIn_21, sX6_chargeIn_22, sX6_chargeIn_25, sX6_chargeIn_26, sX6_chargeIn_29, sX6_chargeIn_30, sX6_chargeIn_32, sX6_chargeIn_34, sX6_chargeIn_37, sX6_chargeIn_38, sX6_chargeIn_39, sX6_chargeIn_42, sX6_chargeIn_43, sX6_chargeIn_46, sX6_chargeIn_49, sX6_chargeIn_50, sX6_chargeIn_51, sX6_chargeIn_54, sX6_chargeIn_55, sX6_chargeIn_56, sX6_chargeIn_57, sX6_chargeIn_60, sX6_chargeIn_62, sX6_chargeIn_64, sX6_chargeIn_65, sX6_chargeIn_68, sX6_chargeIn_69, sX6_chargeIn_70, sX6_chargeIn_73, sX6_chargeIn_75, sX6_chargeIn_76, sX6_chargeIn_79, sX6_chargeIn_80, sX6_chargeIn_81, sX6_chargeIn_82, sX6_chargeIn_85, sX6_chargeIn_88, sX6_chargeIn_89, sX6_chargeIn_92, sX6_chargeIn_95, sX6_chargeIn_96, sX6_chargeIn_97, sX6_chargeIn_98, sX6_chargeIn_99, sX6_chargeIn_100, sX6_chargeIn_101, sX6_chargeIn_104, sX6_chargeIn_107, cvX6_164, cvX6_233, cvX6_236, gfX6_113_0, gfX6_167_3, gfX6_19_0, gfX6_227_3, gfX6_230_3, gfX6_26_0, gfX6_7_0, ie_call1, ie_call2, ie_call3, ie_call4, ie_call5, ie_call6, ie_call7, ie_call8, ie_i0, ie_i1, ie_i2, ie_i3, ie_im1, ie_li1, ie_li2, ie_li3, ie_li4, ie_li5, ie_lr0, ie_ls3, ie_ls4, ie_ls5, ie_rc1, ie_rc2, ie_rc3, ie_rc4, ie_rc5, ie_rc6, ie_rc7, ie_rc8, iv_ar_1, iv_ar_10, iv_ar_11, iv_ar_13, iv_ar_14, iv_ar_15, iv_ar_16, iv_ar_17, iv_ar_19, iv_ar_2, iv_ar_20, iv_ar_21, iv_ar_22, iv_ar_23, iv_ar_25, iv_ar_26, iv_ar_27, iv_ar_28, iv_ar_31, iv_ar_32, iv_ar_34, iv_ar_35, iv_ar_36, iv_ar_38, iv_ar_39, iv_ar_40, iv_ar_41, iv_ar_42, iv_ar_43, iv_ar_44, iv_ar_45, iv_ar_46, iv_ar_47, iv_ar_48, iv_ar_49, iv_ar_5, iv_ar_50, iv_ar_51, iv_ar_52, iv_ar_53, iv_ar_54, iv_ar_55, iv_ar_56, iv_ar_6, iv_ar_7, iv_ar_8, iv_ar_9, iv_cls_0, iv_cls_12, iv_cls_18, iv_cls_24, iv_cls_29, iv_cls_3, iv_cls_30, iv_cls_33, iv_cls_37, iv_cls_4, z_cl (show j < 2 ^ 31 by omega), z_in hj (by decide)]
      refine ⟨_, ct_nextToCharge e12 hn _, ?_⟩
      rintro r1 σ1 ⟨rfl, h1⟩
      subst h1
      rw [hz]
      rw [show l - i = (l - (i + 1)) + 1 by omega] at f4
      cases hp : zp (fun p => yE (σ 16) (σ 15) (σ 1) (σ 13) (σ 14) (nI j) p && !D p) (σ 13) (σ 14) n with
      | none =>
        rw [zl_none hp] at f4
        refine ⟨fun h => absurd rfl h, fun _ => hin _ _ ⟨f1, by rw [← f4]; rfl, by rw [← f4]; rfl, ?_, f6, f7⟩⟩
        rw [← f4]
        funext q
        by_cases hq : q = j
        · subst hq; rw [upd_same]; rfl
        · rw [upd_ne hq, f5 q hq]
      | some q =>
        have hq := zp_lt hp
        have hqe := zp_e hp
        rw [zl_some hp, yC_go hgo] at f4
        simp only [zo, z_ne (show q < 2 ^ 31 by omega), false_implies, and_true]
        intro _
        refine ⟨_, ct_load (show q < 30 by omega) _ _, ?_⟩
        rintro r2 σ2 rfl
        have hcq : σ 16 q = nI j := by
          simp only [yE, Bool.and_eq_true, decide_eq_true_eq] at hqe
          exact hqe.1.1
        rw [nI_1]
        refine ih _ _ _ (fun p => D p || decide (p = q)) ?_ ?_ ?_ ?_ ?_ ?_ ?_
        · intro k k1 k2 k3 k4
          rw [iv_u_ne k1, iv_u_ne k4, iv_u_ne k3, iv_u_ne k2]
          exact f1 k k1 k2 k3 k4
        · intro p hp2
          simp only [Bool.or_eq_false_iff, decide_eq_false_iff_not] at hp2
          obtain ⟨g1, g2⟩ := f2 p hp2.1
          simp only [iv_u_ne, iv_u_eq, ne_eq, Nat.reduceEqDiff, not_false_eq_true, upd_ne hp2.2]
          exact ⟨g1, g2⟩
        · intro p hp2 hc2
          simp only [iv_u_ne, iv_u_eq, ne_eq, Nat.reduceEqDiff, not_false_eq_true]
          by_cases hpq : p = q
          · subst hpq
            simp [upd_same, e0]
          · simp [upd_ne hpq, hpq, f3 p hp2 hc2]
        · simp only [iv_u_ne, iv_u_eq, ne_eq, Nat.reduceEqDiff, not_false_eq_true, upd_same]
          rw [e1]
          exact f4
        · intro t ht
          simp only [iv_u_ne, iv_u_eq, ne_eq, Nat.reduceEqDiff, not_false_eq_true, upd_ne ht]
          exact f5 t ht
        · intro p hp2
          have hpq : p ≠ q := fun h => hp2 (by rw [h]; exact hcq)
          simp only [iv_u_ne, iv_u_eq, ne_eq, Nat.reduceEqDiff, not_false_eq_true, upd_ne hpq]
          exact f6 p hp2
        · intro p
          simp only [iv_u_ne, iv_u_eq, ne_eq, Nat.reduceEqDiff, not_false_eq_true]
          by_cases hpq : p = q
          · subst hpq
            rw [upd_same, e0]
            exact Or.inr rfl
          · rw [upd_ne hpq]
            exact f7 p
    refine iv_blk [2, 55] 90 ?_
    simp only [iv_sn, ie_cl0, ie_cl1, ie_cl2, ie_cl3, ie_cl4, ie_cl5, ie_cl6, ie_cl7, ie_cl8, ie_v5_0, ie_v5_1, ie_v5_2, ie_v5_3, ie_v5_4, ie_v6_0, ie_v8_0, ie_v12_0, ie_v24_0, ie_v30_0, ie_v3380_0, true_implies, false_implies, not_true_eq_false, implies_true, ie_10, ie_m10, ie_mm, iv_u_eq, iv_u_ne, Nat.reduceEqDiff, ie_p1, ie_p2, ie_pr, ie_pa, ie_ps, ie_d1, ie_d2, ie_r1, ie_o, ie_gr, ie_gi, ie_pt, ie_pf, ie_ri, ie_rz, ie_br, ie_c1eq, ie_c1ne, ie_c1lt, ie_c1ge, ie_c1gt, ie_c1le, ie_c2eq, ie_c2ne, ie_c2lt, ie_c2ge, ie_c2gt, ie_c2le, ie_fn0, ie_fn1, ie_fn2, ie_fn3, Nat.reduceAdd, ie_nc, Int.reduceAdd, Int.reduceLE, Int.reduceToNat, Nat.reduceLT, Nat.reduceLeDiff, Int.reduceNeg, eq_self, true_and, and_true, true_or, or_true, Nat.reduceBEq, List.elem_cons, List.elem_nil, Bool.or_false, Bool.false_or, Bool.or_true, Bool.true_or, Bool.false_eq_true, if_false, if_true, reduceIte, reduceCtorEq, ne_eq, not_false_eq_true, Classical.not_not, List.length_cons, List.length_nil, Nat.zero_le, List.map_cons, List.map_nil, List.cons_append, List.nil_append, List.replicate_succ, List.replicate_zero, Nat.reduceSub, sX6_chargeIn_0, sX6_chargeIn_1, sX6_chargeIn_2, sX6_chargeIn_3, sX6_chargeIn_4, sX6_chargeIn_7, sX6_chargeIn_10, sX6_chargeIn_11, sX6_chargeIn_12, sX6_chargeIn_15, sX6_chargeIn_16, sX6_chargeIn_17, sX6_chargeIn_20, sX6_chargeIn_21, sX6_chargeIn_22, sX6_chargeIn_25, sX6_chargeIn_26, sX6_chargeIn_29, sX6_chargeIn_30, sX6_chargeIn_32, sX6_chargeIn_34, sX6_chargeIn_37, sX6_chargeIn_38, sX6_chargeIn_39, sX6_chargeIn_42, sX6_chargeIn_43, sX6_chargeIn_46, sX6_chargeIn_49, sX6_chargeIn_50, sX6_chargeIn_51, sX6_chargeIn_54, sX6_chargeIn_55, sX6_chargeIn_56, sX6_chargeIn_57, sX6_chargeIn_60, sX6_chargeIn_62, sX6_chargeIn_64, sX6_chargeIn_65, sX6_chargeIn_68, sX6_chargeIn_69, sX6_chargeIn_70, sX6_chargeIn_73, sX6_chargeIn_75, sX6_chargeIn_76, sX6_chargeIn_79, sX6_chargeIn_80, sX6_chargeIn_81, sX6_chargeIn_82, sX6_chargeIn_85, sX6_chargeIn_88, sX6_chargeIn_89, sX6_chargeIn_92, sX6_chargeIn_95, sX6_chargeIn_96, sX6_chargeIn_97, sX6_chargeIn_98, sX6_chargeIn_99, sX6_chargeIn_100, sX6_chargeIn_101, sX6_chargeIn_104, sX6_chargeIn_107, cvX6_164, cvX6_233, cvX6_236, gfX6_113_0, gfX6_167_3, gfX6_19_0, gfX6_227_3, gfX6_230_3, gfX6_26_0, gfX6_7_0, ie_call1, ie_call2, ie_call3, ie_call4, ie_call5, ie_call6, ie_call7, ie_call8, ie_i0, ie_i1, ie_i2, ie_i3, ie_im1, ie_li1, ie_li2, ie_li3, ie_li4, ie_li5, ie_lr0, ie_ls3, ie_ls4, ie_ls5, ie_rc1, ie_rc2, ie_rc3, ie_rc4, ie_rc5, ie_rc6, ie_rc7, ie_rc8, iv_ar_1, iv_ar_10, iv_ar_11, iv_ar_13, iv_ar_14, iv_ar_15, iv_ar_16, iv_ar_17, iv_ar_19, iv_ar_2, iv_ar_20, iv_ar_21, iv_ar_22, iv_ar_23, iv_ar_25, iv_ar_26, iv_ar_27, iv_ar_28, iv_ar_31, iv_ar_32, iv_ar_34, iv_ar_35, iv_ar_36, iv_ar_38, iv_ar_39, iv_ar_40, iv_ar_41, iv_ar_42, iv_ar_43, iv_ar_44, iv_ar_45, iv_ar_46, iv_ar_47, iv_ar_48, iv_ar_49, iv_ar_5, iv_ar_50, iv_ar_51, iv_ar_52, iv_ar_53, iv_ar_54, iv_ar_55, iv_ar_56, iv_ar_6, iv_ar_7, iv_ar_8, iv_ar_9, iv_cls_0, iv_cls_12, iv_cls_18, iv_cls_24, iv_cls_29, iv_cls_3, iv_cls_30, iv_cls_33, iv_cls_37, iv_cls_4, z_cl (show j < 2 ^ 31 by omega), z_in hj (by decide), e8, e1, hl]
    refine ⟨fun h => absurd h (nI_ge hi (by omega)), fun h => ⟨fun h2 => hnext (by simp [z_nlt.mpr h2]) _, fun h2 => ?_⟩⟩
    refine ⟨_, ct_countReadyIn e12 hn _, ?_⟩
    rintro r1 σ1 ⟨rfl, h1⟩
    subst h1
    have hy : zc (fun p => decide (σ1 16 p = nI j) && zR (σ1 13) (σ1 14) (σ1 15) (σ1 16) (σ1 1) p) n = yR n (σ 16) (σ 15) (σ 1) (nI j) (σ1 13) (σ1 14) := by rw [e16, e15, e1]; rfl
    rw [hy, e9]
    exact ⟨fun h3 => hnext (by simp [z_nle.mpr h3]) _, fun h3 => hstop (by simp [z_nle.mp h2, z_nlt.mp h3])⟩
end ZH
