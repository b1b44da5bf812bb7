/-! the law's loop over its script -/
theorem ll_cmp {L i : Nat} (hL : L ≤ 3072) (hi : i < 2 ^ 30) : Int32.ofNat L - 6 < nI i ↔ L < i + 6 := by
  have h1 : (Int32.ofNat L).toInt = (L : Int) := nI_toInt (n := L) (by omega)
  have h6 : (6 : Int32).toInt = 6 := rfl
  rw [z_lt, z_sub (by rw [h1, h6]; omega) (by rw [h1, h6]; omega), h1, h6, nI_toInt (by omega)]
  omega
section ILL
variable {p : Program} {e : Env} {s : State} {m : MethodId} {below : List Frame} {meth : Method} {c : Code} {X : iv_X} {cJ : ClassId} {o b L sa sb : Nat} {xs : Nat → Int32}
theorem law_loop (hr : meth.sig.returnType = ret) (hlocks : meth.locks = false) (hL3 : L ≤ 3072) (C : lc_C p s m c #[Value.ref b] X (fun q => s.heap.size ≤ q) room_1 b L xs sa sb) :
    ∀ (n j : Nat), j + n = 513 → ∀ (σ : iv_S) (f : Nat → Int64) (H : Heap) (locs : List Loc) (ls : Array Slot), il_Wo X cJ o (fun q => s.heap.size ≤ q) s σ f H locs → iInv σ → lv_has ls 7 (lc_lv X b o (6 * j)) →
      W p X.1 e room_1 s m #[Value.ref b] below meth c H locs (58 + j) (4127 + 6 * j) (lw_Z below #[Value.ref b] s) (F0 m 23 ls []) := by
  obtain ⟨hx, hb, hml, hown, hts, hA, hX, hbl, hbA, hL, hSx, hZ, hst, hRf, hRl⟩ := id C
  intro n
  induction n with
  | zero =>
    intro j hj σ f H locs ls hw hI hl
    have hS := hw.1.2.2.2.1
    refine lv_iload hx hb dL_law_23 (lv_at hl 0 rfl) ?_
    refine lv_aload_n hx hb dL_law_25 rfl (lv_at hl 1 rfl) ?_
    refine va_slen hx hb hX hbl hbA hS dL_law_26 ?_
    refine lv_bipush (v := 6) hx hb dL_law_27 rfl ?_
    refine lv_isub hx hb dL_law_29 ?_
    refine lv_icmp_gt (tgt := 956) hx hb dL_law_30 rfl (fun _ => ?_) (fun h => absurd ((ll_cmp hL3 (by omega)).mpr (by omega)) h)
    refine lv_iconst (v := 1) hx hb dL_law_956 (by decide) ?_
    refine va_forget (fun q hq => hS.2.2 q hq) ?_
    exact W.widen (by omega) (by omega) (lw_ret hx hb hr hlocks dL_law_957)
  | succ n ih =>
    intro j hj σ f H locs ls hw hI hl
    have hS := hw.1.2.2.2.1
    refine lv_iload hx hb dL_law_23 (lv_at hl 0 rfl) ?_
    refine lv_aload_n hx hb dL_law_25 rfl (lv_at hl 1 rfl) ?_
    refine va_slen hx hb hX hbl hbA hS dL_law_26 ?_
    refine lv_bipush (v := 6) hx hb dL_law_27 rfl ?_
    refine lv_isub hx hb dL_law_29 ?_
    refine lv_icmp_gt (tgt := 956) hx hb dL_law_30 rfl (fun _ => ?_) (fun h => ?_)
    · refine lv_iconst (v := 1) hx hb dL_law_956 (by decide) ?_
      refine va_forget (fun q hq => hS.2.2 q hq) ?_
      exact W.widen (by omega) (by omega) (lw_ret hx hb hr hlocks dL_law_957)
    · rw [ll_cmp hL3 (by omega)] at h
      have hi : 6 * j + 6 ≤ L := by omega
      refine lv_aload_n hx hb dL_law_33 rfl (lv_at hl 1 rfl) ?_
      refine lv_iload hx hb dL_law_34 (lv_at hl 0 rfl) ?_
      refine va_sld hx hb hX hbl hbA hS (z_in (show 6 * j < L by omega) hL) dL_law_36 ?_
      refine lv_bipush (v := 31) hx hb dL_law_37 rfl ?_
      refine lv_iand hx hb dL_law_39 ?_
      have step : ∀ (σ' : iv_S) (f' : Nat → Int64) (H1 : Heap) (locs1 : List Loc) (ls1 : Array Slot), il_Wo X cJ o (fun q => s.heap.size ≤ q) s σ' f' H1 locs1 → iInv σ' → lv_has ls1 7 (lc_lv X b o (6 * j)) → W p X.1 e room_1 s m #[Value.ref b] below meth c H1 locs1 (58 + j + 1) (4127 + 6 * j + 6) (lw_Z below #[Value.ref b] s) (F0 m 950 ls1 []) := by
        intro σ' f' H1 locs1 ls1 hw1 hI1 hl1
        refine lv_iinc (k := 0) (v := nI (6 * (j + 1))) (lv' := lc_lv X b o (6 * (j + 1))) hx hb dL_law_950 hl1 rfl (by rw [show Int32.ofInt 6 = nI 6 from rfl, nI_add, show 6 * j + 6 = 6 * (j + 1) by omega]) (by decide) rfl (fun ls2 hl2 => ?_)
        refine lv_goto (tgt := 23) hx hb dL_law_953 rfl ?_
        exact ih (j + 1) (by omega) σ' f' H1 locs1 ls2 hw1 hI1 hl2
      have hRc : 58 + j + 1 ≤ room_1.cells ∧ 4127 + 6 * j + 6 ≤ room_1.slots := ⟨by show 58 + j + 1 ≤ 601024; omega, by show 4127 + 6 * j + 6 ≤ 7293034; omega⟩
      generalize hxv : xs (nI (6 * j)).toNatClampNeg &&& 31 = x
      by_cases hq : x.toInt < 0 ∨ 22 < x.toInt
      · exact lv_tableOut (tgt := 950) hx hb dL_law_40 hq rfl (W.widen (by omega) (by omega) (step σ f H locs ls hw hI hl))
      · have h1 : ¬ x.toInt < 0 := fun h => hq (Or.inl h)
        have h2 : ¬ 22 < x.toInt := fun h => hq (Or.inr h)
        rcases (show x.toInt = 0 ∨ x.toInt = 1 ∨ x.toInt = 2 ∨ x.toInt = 3 ∨ x.toInt = 4 ∨ x.toInt = 5 ∨ x.toInt = 6 ∨ x.toInt = 7 ∨ x.toInt = 8 ∨ x.toInt = 9 ∨ x.toInt = 10 ∨ x.toInt = 11 ∨ x.toInt = 12 ∨ x.toInt = 13 ∨ x.toInt = 14 ∨ x.toInt = 15 ∨ x.toInt = 16 ∨ x.toInt = 17 ∨ x.toInt = 18 ∨ x.toInt = 19 ∨ x.toInt = 20 ∨ x.toInt = 21 ∨ x.toInt = 22 by omega) with h | h | h | h | h | h | h | h | h | h | h | h | h | h | h | h | h | h | h | h | h | h | h
        · exact lv_tableIn (off := 108) (tgt := 148) hx hb dL_law_40 h1 h2 (by rw [h]; rfl) rfl (lc_0 C hRc hw hI hl hi step)
        · exact lv_tableIn (off := 181) (tgt := 221) hx hb dL_law_40 h1 h2 (by rw [h]; rfl) rfl (lc_1 C hRc hw hI hl hi step)
        · exact lv_tableIn (off := 218) (tgt := 258) hx hb dL_law_40 h1 h2 (by rw [h]; rfl) rfl (lc_2 C hRc hw hI hl hi step)
        · exact lv_tableIn (off := 255) (tgt := 295) hx hb dL_law_40 h1 h2 (by rw [h]; rfl) rfl (lc_3 C hRc hw hI hl hi step)
        · exact lv_tableIn (off := 292) (tgt := 332) hx hb dL_law_40 h1 h2 (by rw [h]; rfl) rfl (lc_4 C hRc hw hI hl hi step)
        · exact lv_tableIn (off := 345) (tgt := 385) hx hb dL_law_40 h1 h2 (by rw [h]; rfl) rfl (lc_5 C hRc hw hI hl hi step)
        · exact lv_tableIn (off := 370) (tgt := 410) hx hb dL_law_40 h1 h2 (by rw [h]; rfl) rfl (lc_6 C hRc hw hI hl hi step)
        · exact lv_tableIn (off := 419) (tgt := 459) hx hb dL_law_40 h1 h2 (by rw [h]; rfl) rfl (lc_7 C hRc hw hI hl hi step)
        · exact lv_tableIn (off := 468) (tgt := 508) hx hb dL_law_40 h1 h2 (by rw [h]; rfl) rfl (lc_8 C hRc hw hI hl hi step)
        · exact lv_tableIn (off := 505) (tgt := 545) hx hb dL_law_40 h1 h2 (by rw [h]; rfl) rfl (lc_9 C hRc hw hI hl hi step)
        · exact lv_tableIn (off := 530) (tgt := 570) hx hb dL_law_40 h1 h2 (by rw [h]; rfl) rfl (lc_10 C hRc hw hI hl hi step)
        · exact lv_tableIn (off := 555) (tgt := 595) hx hb dL_law_40 h1 h2 (by rw [h]; rfl) rfl (lc_11 C hRc hw hI hl hi step)
        · exact lv_tableIn (off := 623) (tgt := 663) hx hb dL_law_40 h1 h2 (by rw [h]; rfl) rfl (lc_12 C hRc hw hI hl hi step)
        · exact lv_tableIn (off := 660) (tgt := 700) hx hb dL_law_40 h1 h2 (by rw [h]; rfl) rfl (lc_13 C hRc hw hI hl hi step)
        · exact lv_tableIn (off := 685) (tgt := 725) hx hb dL_law_40 h1 h2 (by rw [h]; rfl) rfl (lc_14 C hRc hw hI hl hi step)
        · exact lv_tableIn (off := 698) (tgt := 738) hx hb dL_law_40 h1 h2 (by rw [h]; rfl) rfl (lc_15 C hRc hw hI hl hi step)
        · exact lv_tableIn (off := 723) (tgt := 763) hx hb dL_law_40 h1 h2 (by rw [h]; rfl) rfl (lc_16 C hRc hw hI hl hi step)
        · exact lv_tableIn (off := 748) (tgt := 788) hx hb dL_law_40 h1 h2 (by rw [h]; rfl) rfl (lc_17 C hRc hw hI hl hi step)
        · exact lv_tableIn (off := 785) (tgt := 825) hx hb dL_law_40 h1 h2 (by rw [h]; rfl) rfl (lc_18 C hRc hw hI hl hi step)
        · exact lv_tableIn (off := 798) (tgt := 838) hx hb dL_law_40 h1 h2 (by rw [h]; rfl) rfl (lc_19 C hRc hw hI hl hi step)
        · exact lv_tableIn (off := 823) (tgt := 863) hx hb dL_law_40 h1 h2 (by rw [h]; rfl) rfl (lc_20 C hRc hw hI hl hi step)
        · exact lv_tableIn (off := 872) (tgt := 912) hx hb dL_law_40 h1 h2 (by rw [h]; rfl) rfl (lc_21 C hRc hw hI hl hi step)
        · exact lv_tableIn (off := 897) (tgt := 937) hx hb dL_law_40 h1 h2 (by rw [h]; rfl) rfl (lc_22 C hRc hw hI hl hi step)
end ILL
