/-! both objects made, their row out, and the loop -/
abbrev sx_s1 : iv_S := ic_fill (iv_u (iv_u (iv_u (iv_u (iv_u (fun _ _ => 0) 1 0 2000) 1 1 80) 1 2 1000) 1 3 25) 1 4 10)
abbrev sx_s2 : iv_S := ic_fill7 (iv_u (iv_u (iv_u (iv_u (iv_u sx_s1 43 0 2000) 43 1 80) 43 2 1000) 43 3 25) 43 4 10)
theorem sx_ne {k : Nat} (h1 : ¬ k = 1) (h2 : ¬ k = 2) (h3 : ¬ k = 43) (h4 : ¬ k = 44) : sx_s2 k = fun _ => 0 := by
  simp [sx_s2, sx_s1, ic_fill, ic_fill7, ic_fl, iv_u, h1, h2, h3, h4]
theorem sx_I : iInv sx_s2 := by
  have z : ∀ k j : Nat, (decide (k = 1) || decide (k = 2) || decide (k = 43) || decide (k = 44)) = false → sx_s2 k j = 0 := by
    intro k j h
    simp only [Bool.or_eq_false_iff, decide_eq_false_iff_not] at h
    rw [sx_ne h.1.1.1 h.1.1.2 h.1.2 h.2]
  have zf : ∀ k q : Nat, (decide (k = 1) || decide (k = 2) || decide (k = 43) || decide (k = 44)) = false → (decide (q = 1) || decide (q = 2) || decide (q = 43) || decide (q = 44)) = false → sx_s2 k = sx_s2 q := by
    intro k q h1 h2
    funext j
    rw [z k j h1, z q j h2]
  have h2 : ∀ j, sx_s2 2 j = if j < 24 then 10 else 0 := by
    intro j
    simp [sx_s2, sx_s1, ic_fill, ic_fill7, ic_fl, iv_u]
  have h44 : ∀ j, sx_s2 44 j = if j < 24 then 10 else 0 := by
    intro j
    simp [sx_s2, sx_s1, ic_fill, ic_fill7, ic_fl, iv_u]
  have h1 : sx_s2 43 = sx_s2 1 := by
    simp [sx_s2, sx_s1, ic_fill, ic_fill7, ic_fl, iv_u]
  have n0 : nI 0 = 0 := nI_0
  refine ⟨0, 0, 0, 0, 0, 0, 0, 0, ⟨by decide, by decide, by decide, by decide, by decide, by decide, by decide, by decide⟩, ?_, ?_, ⟨h1, ?_, ?_, ?_, ?_, ?_, ?_, ?_, ?_, ?_, ?_⟩, ?_, ⟨?_, ?_⟩, ⟨?_, ?_, ?_, ?_, ?_, ?_, ?_⟩⟩
  · rw [n0]
    exact ⟨z _ _ rfl, z _ _ rfl, z _ _ rfl, z _ _ rfl, z _ _ rfl, z _ _ rfl, z _ _ rfl, z _ _ rfl⟩
  · rw [n0]
    exact ⟨z _ _ rfl, z _ _ rfl, z _ _ rfl, z _ _ rfl, z _ _ rfl, z _ _ rfl, z _ _ rfl, z _ _ rfl, (z _ _ rfl).trans (z _ _ rfl).symm⟩
  · funext j
    rw [h2, h44]
  · exact zf _ _ rfl rfl
  · exact zf _ _ rfl rfl
  · exact zf _ _ rfl rfl
  · exact zf _ _ rfl rfl
  · exact zf _ _ rfl rfl
  · exact zf _ _ rfl rfl
  · exact zf _ _ rfl rfl
  · exact zf _ _ rfl rfl
  · exact zf _ _ rfl rfl
  · intro j
    exact ⟨(z _ _ rfl).trans (z _ _ rfl).symm, (z _ _ rfl).trans (z _ _ rfl).symm, (z _ _ rfl).trans (z _ _ rfl).symm, (z _ _ rfl).trans (z _ _ rfl).symm, (z _ _ rfl).trans (z _ _ rfl).symm, (z _ _ rfl).trans (z _ _ rfl).symm, (z _ _ rfl).trans (z _ _ rfl).symm⟩
  · intro i hi; omega
  · intro i hi; omega
  · intro i hi; omega
  · intro j hj
    exact ⟨10, by decide, by rw [h2, if_pos hj]; rfl⟩
  · intro i hi; omega
  · intro i hi; omega
  · intro i hi; omega
  · intro i hi; omega
  · intro c _
    exact z _ _ rfl
theorem sx_k1 : Cond.classLink RL 8 RX6 ∈ iv_g := by decide +kernel
theorem sx_k2 : Cond.initialized RX6 ∈ iv_g := by decide +kernel
theorem sx_k3 : Cond.classLink RL 16 RX7 ∈ iv_g := by decide +kernel
theorem sx_k4 : Cond.initialized RX7 ∈ iv_g := by decide +kernel
theorem sx_k5 : Cond.code yX6_init cX6_init 1 none ∈ iv_g := by decide +kernel
theorem sx_k6 : Cond.methodLink RL 15 yX6_init ∈ iv_g := by decide +kernel
theorem sx_k7 : Cond.instanceMethod yX6_init ∈ iv_g := by decide +kernel
theorem sx_k8 : Cond.code yX7_init cX7_init 2 none ∈ iv_g := by decide +kernel
theorem sx_k9 : Cond.methodLink RL 18 yX7_init ∈ iv_g := by decide +kernel
theorem sx_k10 : Cond.instanceMethod yX7_init ∈ iv_g := by decide +kernel
theorem sx_k11 : Cond.arrayClass .int ∈ iv_g ∧ Cond.arrayClass .boolean ∈ iv_g ∧ Cond.arrayClass .long ∈ iv_g := by decide +kernel
theorem sx_k12 : Cond.initialized RX6 ∈ lw_tbl := by decide +kernel
set_option maxHeartbeats 4000000 in
set_option maxRecDepth 100000 in
theorem whole_start {p : Program} {e : Env} {s : State} {m : MethodId} {below : List Frame} {meth : Method} {c : Code} (l : Launch) (hfl : l.stackTraces = false) {b L : Nat} {xs : Nat → Int32} (hL : L ≤ 3072) (C0 : lw_At p s m meth c b L xs) : W p l e room_1 s m #[Value.ref b] below meth c s.heap [] 0 0 (lw_Z below #[Value.ref b] s) (entryFrame m ([Value.ref b] : List Value).toArray 7) := by
  obtain ⟨hx, hb, hr, hml, hown, hts0, hX, hbl, hlocks, hgv⟩ := id C0
  have hA : ∀ q : Nat, s.heap.size ≤ q → (fun q : Nat => s.heap.size ≤ q) q := fun _ h => h
  have hbA : ¬ (fun q : Nat => s.heap.size ≤ q) b := Nat.not_le.mpr hbl
  have hnA : ∀ a : Nat, a < s.heap.size → ¬ (fun q : Nat => s.heap.size ≤ q) a := fun a h => Nat.not_le.mpr h
  have hg : ∀ w ∈ iv_g, w.before #[Value.ref b] s = true := fun w h => hts0 w (List.mem_filter.mp h).1
  have hts : ∀ w ∈ Cond.initialized RX6 :: iv_g, w.before #[Value.ref b] s = true := fun w h => by
    rcases List.mem_cons.mp h with rfl | h
    · exact hts0 _ sx_k12
    · exact hg w h
  have hq : ∀ w ∈ sx_q, w.before #[Value.ref b] s = true := fun w h => flat_of_before _ hgv w (sx_qin w h)
  obtain ⟨dC, dI, hKc⟩ := sx_K hg
  obtain ⟨cI, aI, nI'⟩ := sx_arr (hg _ sx_k11.1)
  obtain ⟨cZ, aZ, nZ⟩ := sx_arr (hg _ sx_k11.2.1)
  obtain ⟨sa, sb, hZ⟩ := sx_Z (A := fun q => s.heap.size ≤ q) (hKc 6 _ rfl).2.1 hts0 hq hnA
  have hSx : iv_Sx (fun q => s.heap.size ≤ q) s s.heap := sx_Sx hts0 hq hnA
  obtain ⟨X, hXd⟩ : ∃ X : iv_X, X = (l, (dC, dI), (fun k => s.heap.size + k), cI, cZ) := ⟨_, rfl⟩
  have hX1 : X.1 = l := by rw [hXd]
  have ha : ∀ k, k < 57 → X.2.2.1 k = s.heap.size + k := fun k _ => by rw [hXd]
  have hK : va_K X.2.1 vwCl (iv_T X.2.2.2.1 X.2.2.2.2) s := by
    rw [hXd]
    refine ⟨hKc, fun k q h => ?_⟩
    have hl := (List.getElem?_eq_some_iff.mp h).1
    simp [iv_T] at hl
    rcases (show k = 0 ∨ k = 1 by omega) with rfl | rfl
    · cases h
      exact ⟨aI, nI'⟩
    · cases h
      exact ⟨aZ, nZ⟩
  clear hXd
  subst hX1
  have hw : ic_Wo X 0 (fun _ _ => false) (fun _ _ => 0) (fun q => s.heap.size ≤ q) s s.heap [] := ⟨hK, fun k q h => by simp [ic_w] at h, ⟨fun i j p q h => by simp [ic_w] at h, fun k q h => by simp [ic_w] at h⟩, va_S.rf, sx_N sx_t1 hts0⟩
  have hl := lv_entry ([.ref b]) (n := 7) (Nat.le_of_ble_eq_true rfl)
  rw [lg_entry_eq]
  generalize (lg_sl ([.ref b]) ++ List.replicate (7 - (lg_sl ([.ref b])).length) Slot.unset).toArray = ls at hl ⊢
  have hl : lv_has ls 7 [(0, .ref b)] := hl
  refine ic_new (base := s.heap.size) (n := 0) (ci := 6) (C := RX6) (T := TX6) (N := 8) hx hb hts hA hown rfl rfl sx_k1 sx_i6 sx_k2 tyX6 tyX6_ok iv_cX6 dfX6 rfl rfl rfl (Or.inr rfl) ha (by decide) hw (Nat.le_of_ble_eq_true rfl) (Nat.le_of_ble_eq_true rfl) dL_law_0 (fun H1 hw => ?_)
  refine lv_dup hx hb dL_law_3 rfl ?_
  refine ic_ctor (base := s.heap.size) (n := 1) hx hb hml hown hts hA (mk_X6_0 ha (fun k _ => rfl) (fun k _ => rfl)) rfl rfl sx_k5 sx_k2 (Or.inl sx_k6) sx_k7 (by decide +kernel) ⟨Nat.le_of_ble_eq_true rfl, Nat.le_of_ble_eq_true rfl⟩ ⟨Nat.le_of_ble_eq_true rfl, Nat.le_of_ble_eq_true rfl⟩ hl.1 (Nat.le_of_ble_eq_true rfl) rfl (by omega) (Or.inl (by decide)) ha (by decide) hw dL_law_4 (fun H1 locs1 hw => ?_)
  refine lv_astore_n (lv' := [(1, .ref (X.2.2.1 0)), (0, .ref b)]) hx hb dL_law_7 rfl hl (by decide) rfl (fun ls hl => ?_)
  refine ic_new (base := s.heap.size) (n := 37) (ci := 7) (C := RX7) (T := TX7) (N := 30) hx hb hts hA hown rfl rfl sx_k3 sx_i7 sx_k4 tyX7 tyX7_ok iv_cX7 dfX7 rfl rfl (by omega) (Or.inl (by decide)) ha (by decide) hw (Nat.le_of_ble_eq_true rfl) (Nat.le_of_ble_eq_true rfl) dL_law_8 (fun H1 hw => ?_)
  refine lv_dup hx hb dL_law_11 rfl ?_
  refine ic_ctor (base := s.heap.size) (n := 38) hx hb hml hown hts hA (mk_X7_37 ha (fun k hk => by
      simp [ic_r, show ¬ k = 0 by omega, show ¬ k = 3 by omega, show ¬ k = 4 by omega, show ¬ k = 12 by omega, show ¬ k = 18 by omega, show ¬ k = 24 by omega, show ¬ k = 29 by omega, show ¬ k = 30 by omega, show ¬ k = 33 by omega]) (fun k hk => by
      simp [ic_fill, ic_fl, iv_u, show ¬ k = 1 by omega, show ¬ k = 2 by omega])) rfl rfl sx_k8 sx_k4 (Or.inl sx_k9) sx_k10 (by decide +kernel) ⟨Nat.le_of_ble_eq_true rfl, Nat.le_of_ble_eq_true rfl⟩ ⟨Nat.le_of_ble_eq_true rfl, Nat.le_of_ble_eq_true rfl⟩ hl.1 (Nat.le_of_ble_eq_true rfl) rfl (by omega) (Or.inl (by decide)) ha (by decide) hw dL_law_12 (fun H1 locs1 hw => ?_)
  refine lv_astore_n (lv' := [(2, .ref (X.2.2.1 37)), (1, .ref (X.2.2.1 0)), (0, .ref b)]) hx hb dL_law_15 rfl hl (by decide) rfl (fun ls hl => ?_)
  refine lv_iconst (v := 1) hx hb dL_law_16 (by decide) ?_
  refine ic_sz (base := s.heap.size) (n := 57) (by omega) (Or.inl (by decide)) ha (by decide) hw (fun hsz => ?_)
  obtain ⟨hK2, hP2, hD2, hS2, -⟩ := hw
  rw [sx_w (by decide +kernel)] at hP2 hD2
  refine va_newaK (atype := .long) hx hb (hg _ sx_k11.2.2) rfl dL_law_17 rfl (by decide) rfl (by decide) (Nat.le_of_ble_eq_true rfl) (Nat.le_of_ble_eq_true rfl) hsz (fun H2 cJ e1 z1 o1 hAr hNm => ?_)
  refine lv_astore_n (lv' := [(3, .ref (s.heap.size + 57)), (2, .ref (X.2.2.1 37)), (1, .ref (X.2.2.1 0)), (0, .ref b)]) hx hb dL_law_19 rfl hl (by decide) rfl (fun ls hl => ?_)
  refine lv_iconst (v := 0) hx hb dL_law_20 (by decide) ?_
  refine lv_istore (lv' := [(4, .int 0), (3, .ref (s.heap.size + 57)), (2, .ref (X.2.2.1 37)), (1, .ref (X.2.2.1 0)), (0, .ref b)]) hx hb dL_law_21 hl (by decide) rfl (fun ls hl => ?_)
  have hS3 : va_S (fun q => s.heap.size ≤ q) s.heap H2 locs1 := ⟨by omega, fun q h1 h2 => by rw [o1 q (by omega)]; exact hS2.2.1 q h1 h2, hS2.2.2⟩
  have hwl : il_Wo X cJ (s.heap.size + 57) (fun q => s.heap.size ≤ q) s sx_s2 (fun _ => 0) H2 locs1 :=
    ⟨⟨hK2, hP2.kept (fun k q hq => o1 q.1 (by have := (hP2 k q hq).lt; omega)), hD2, hS3, sx_N sx_t2 hts0⟩, e1, fun k hk => by rw [ha k hk]; omega, Nat.le_add_right _ _, hAr, hNm⟩
  exact law_loop (X := X) hr hlocks hL ⟨hx, hb, hml, hown, hts, hA, hX, hbl, hbA, by omega, hSx, hZ, hfl, Nat.le_of_ble_eq_true rfl, Nat.le_of_ble_eq_true rfl⟩ 513 0 rfl sx_s2 (fun _ => 0) H2 locs1 ls hwl sx_I (lv_sub hl [0, 4, 3, 2, 1] rfl)
