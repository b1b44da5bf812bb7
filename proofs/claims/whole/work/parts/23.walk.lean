def iv_Wo (X : iv_X) (A : Nat → Prop) (s : State) (σ : iv_S) (H : Heap) (locs : List Loc) : Prop :=
  va_K X.2.1 vwCl (iv_T X.2.2.2.1 X.2.2.2.2) s ∧ va_P X.2.1 vwCl (iv_w X.2.2.1 X.2.2.2.1 X.2.2.2.2 σ) H ∧ va_D A (iv_w X.2.2.1 X.2.2.2.1 X.2.2.2.2 σ) ∧ va_S A s.heap H locs ∧ ∀ w ∈ iv_N, va_Nw w s
def iv_lh (a : Nat → Nat) (lsA : Array Slot) (nL : Nat) (ls : iv_Ls) : Prop := ∃ lv, lv_has lsA nL lv ∧ ∀ i v, ls[i]? = some (some v) → (i, iv_e a v) ∈ lv
theorem iv_lh_get {a : Nat → Nat} {lsA : Array Slot} {nL : Nat} {ls : iv_Ls} (h : iv_lh a lsA nL ls) {i : Nat} {v : iv_V} (hv : ls[i]? = some (some v)) : lsA[i]? = some (.val (iv_e a v)) := by
  obtain ⟨lv, h1, h2⟩ := h
  exact h1.2.2 _ (h2 i v hv)
theorem iv_cat (a : Nat → Nat) (v : iv_V) : (iv_e a v).category = 1 := by cases v <;> rfl
theorem iv_lh_set {a : Nat → Nat} {lv : List (Nat × Value)} {ls : iv_Ls} (h2 : ∀ i v, ls[i]? = some (some v) → (i, iv_e a v) ∈ lv) (j : Nat) (w : iv_V) : ∀ i v, (ls.set j (some w))[i]? = some (some v) → (i, iv_e a v) ∈ (j, iv_e a w) :: lv.filter (fun q => !(q.1 == j) && !(q.1 + 1 == j && q.2.category == 2)) := by
  intro i v h
  by_cases hij : j = i
  · subst hij
    have hl : j < ls.length := by
      rcases Nat.lt_or_ge j ls.length with q | q
      · exact q
      · rw [List.getElem?_eq_none (by simp; exact q)] at h; cases h
    rw [List.getElem?_set_self hl] at h
    cases h
    exact List.mem_cons_self
  · rw [List.getElem?_set_ne hij] at h
    refine List.mem_cons_of_mem _ (List.mem_filter.mpr ⟨h2 i v h, ?_⟩)
    have h1 : (iv_e a v).category = 1 := iv_cat a v
    simp [h1, Ne.symm hij]
section IVW
variable {p : Program} {e : Env} {R : Room} {s : State} {m : MethodId} {args : Array Value} {below : List Frame} {meth : Method} {c : Code} {X : iv_X} {A : Nat → Prop} {QM : State → Prop}
theorem iv_hF {σ : iv_S} {H : Heap} {locs : List Loc} (hw : iv_Wo X A s σ H locs) (hA : ∀ q, s.heap.size ≤ q → A q) : ∀ q, iv_A X σ H.size q → A q := by
  intro q h
  rcases h with ⟨k, e, h⟩ | h
  · exact hw.2.2.1.2 k (q, e) h
  · exact hA q (Nat.le_trans hw.2.2.2.1.1 h)
/-- a call behind its run -/
theorem iv_callr {pc : Nat} {ls : Array Slot} {st0 rest : List Value} {a : Array Value} {σ : iv_S} {H : Heap} {locs : List Loc} {cells slots : Nat} {Q : Int32 → iv_S → Prop} {ret : Option FieldType} (hr : va_Run p X.1 e R s m args below meth c H locs cells slots 0 0 (F0 m pc ls st0) rest (iv_Qc X ret σ H.size Q a) (iv_A X σ H.size)) (hw : iv_Wo X A s σ H locs) (hA : ∀ q, s.heap.size ≤ q → A q)
    (kk : ∀ (r : Int32) (u : iv_S) (H1 : Heap) (locs1 : List Loc), Q r u → iv_Wo X A s u H1 locs1 → W p X.1 e R s m args below meth c H1 locs1 cells slots QM (F0 m (pc + 3) ls ((iv_ov ret r).toList ++ rest))) : W p X.1 e R s m args below meth c H locs cells slots QM (F0 m pc ls st0) := by
  intro T hT Y
  have hF := iv_hF hw hA
  obtain ⟨v, st₀, t, T', L, h0, X', hL, e1, e2, ⟨⟨r, u, hv, hp, hb1, hb2, hb3⟩, hz, hk⟩, st⟩ := hr T hT Y
  cases hv
  rw [h0] at hz hk
  obtain ⟨hK, hP, hD, hS, hN⟩ := hw
  have hS' : va_S A s.heap T'.heap (locs ++ L) := ⟨Nat.le_trans hS.1 (by rw [e1]; exact hz), fun q h1 h2 => by rw [e1, hk q (Nat.lt_of_lt_of_le h1 hS.1) (fun z => h2 (hF q z))]; exact hS.2.1 q h1 h2, fun q hq => by
      rcases List.mem_append.mp hq with h | h
      · exact hS.2.2 q h
      · exact hF _ (hL q h)⟩
  obtain ⟨t2, a1, b1⟩ := kk r u T'.heap (locs ++ L) hp ⟨hK, by rw [e1]; exact hb1, hb3.weaken (fun k q _ h => hF q.1 h), hS', hN⟩ T' rfl X'
  exact ⟨t2, st t2 a1, b1⟩
theorem iv_blind (av : List iv_V) (σ : iv_S) (sz : Nat) : FrameBlind (iv_Pc X av σ sz) := by
  intro a U g mk q
  obtain ⟨q0, q1, qP, qK, qD, qN⟩ := q
  exact ⟨q0, q1, qP, va_K.moved (u := U) (U := U.calling g mk a) (Vm.Alike.refl U.vm) qK, qD, fun w hw => va_Nw.same (by
    simp only [iv_N, List.mem_cons, List.not_mem_nil, or_false] at hw
    rcases hw with rfl | rfl | rfl <;> rfl) (u := U) rfl (qN w hw)⟩
theorem iv_nwarm {U : State} (hW : s.WarmedH U.vm) (hN : ∀ w ∈ iv_N, va_Nw w s) : ∀ w ∈ iv_N, va_Nw w U := by
  intro w hw
  have h := hN w hw
  simp only [iv_N, List.mem_cons, List.not_mem_nil, or_false] at hw
  rcases hw with rfl | rfl | rfl <;> exact va_Nw.warmM hW h
theorem iv_preU {σ : iv_S} {H : Heap} {locs : List Loc} (hw : iv_Wo X A s σ H locs) (av : List iv_V) : ∀ U : State, U.heap = H → s.WarmedH U.vm → iv_Pc X av σ H.size (av.map (iv_e X.2.2.1)).toArray U := by
  intro U hU hW
  obtain ⟨hK, hP, hD, hS, hN⟩ := hw
  exact ⟨rfl, by rw [hU], by rw [hU]; exact hP, va_K.moved hW.alike hK, hD.weaken (fun _ _ _ _ => trivial), iv_nwarm hW hN⟩
theorem iv_goodIn {own : Cond} {ym : iv_M} (h : Cond.code ym.1 ym.2.1 ym.2.2.1 ym.2.2.2 ∈ iv_g) : GoodIn (own :: iv_g) (.code ym.1 ym.2.1 ym.2.2.1 ym.2.2.2 :: iv_g) := by
  intro w hw
  have h1 : w ∈ iv_g := by
    rcases List.mem_cons.mp hw with rfl | h2
    · exact h
    · exact h2
  exact ⟨List.mem_cons_of_mem _ h1, good_of_word (List.mem_filter.mp h1).2⟩
theorem iv_good1 {w : Cond} {own : Cond} (h : w ∈ iv_g) : w ∈ own :: iv_g ∧ ((w.onTables && w.keeps) = true ∨ ∃ ty, w = .arrayClass ty) := ⟨List.mem_cons_of_mem _ h, good_of_word (List.mem_filter.mp h).2⟩
end IVW
theorem iv_sum1 (a : Nat → Nat) : ∀ st : List iv_V, ((st.map (iv_e a)).map fun v => v.category).sum = st.length
  | [] => rfl
  | v :: st => by
    rw [List.map_cons, List.map_cons, List.sum_cons, iv_sum1 a st, iv_cat, List.length_cons]
    omega
theorem iv_toL (a : Nat → Nat) (ret : Option FieldType) {vd : Bool} (h : vd = ret.isNone) (r : Int32) (st : List iv_V) : (iv_ov ret r).toList ++ st.map (iv_e a) = (iv_push vd r st).map (iv_e a) := by
  subst h
  cases ret <;> rfl
section IVC
variable {p : Program} {e : Env} {s : State} {m : MethodId} {args : Array Value} {below : List Frame} {meth : Method} {c : Code} {X : iv_X} {A : Nat → Prop} {QM : State → Prop} {d nL : Nat} {own : String} {cc : ByteArray} {cw : Cond}
/-- a virtual call -/
theorem iv_cV (hx : p.tables.exec = Jvm.exec) (hb : c.code = cc) (hml : c.maxLocals = nL) (hown : s.vm.findClass own = some m.cls) (hts : ∀ w ∈ cw :: iv_g, w.before args s = true) (hA : ∀ q, s.heap.size ≤ q → A q)
    {idx : Nat} {z : iv_C} (hok : iv_cokB own idx z.1 z.2.1 z.2.2.1 z.2.2.2 = true) {pc : Nat} (hd : decode cc pc = .ok (.invokevirtual idx, 3)) {st : List iv_V} {σ : iv_S} (hrc : iv_rc z st) {K : List iv_V → iv_S → Prop} (hc : iv_call X d z st σ K)
    {H : Heap} {locs : List Loc} {lsA : Array Slot} (hw : iv_Wo X A s σ H locs) (hl : lsA.size = nL)
    (kk : ∀ st' σ' H1 locs1, K st' σ' → iv_Wo X A s σ' H1 locs1 → W p X.1 e (iv_rm (d + 1)) s m args below meth c H1 locs1 0 0 QM (F0 m (pc + 3) lsA (st'.map (iv_e X.2.2.1)))) :
    W p X.1 e (iv_rm (d + 1)) s m args below meth c H locs 0 0 QM (F0 m pc lsA (st.map (iv_e X.2.2.1))) := by
  obtain ⟨n, ck, vd, ym⟩ := z
  dsimp only at hok
  obtain ⟨hn, h8, Q, hCt, hK⟩ := hc
  dsimp only at hn h8 hCt hK
  unfold iv_rc at hrc
  dsimp only at hrc
  split at hrc
  · next q tl htake =>
    obtain ⟨hcls, hne⟩ := hrc
    cases ck with
    | none => exact absurd rfl hne
    | some ci =>
      simp only [iv_cokB, Bool.and_eq_true, decide_eq_true_eq] at hok
      obtain ⟨⟨⟨⟨⟨⟨hvd, n1⟩, n2⟩, hcode⟩, hini⟩, hmx⟩, ⟨⟨⟨hpar, hinst⟩, hsel⟩, hlink⟩, hvw⟩ := hok
      have hsplit : st = (Sum.inl q :: tl).reverse ++ st.drop n := by
        rw [← htake, List.reverse_reverse, List.take_append_drop]
      have hlen : (Sum.inl q :: tl : List iv_V).length = n := by rw [← htake]; simp; omega
      rw [htake] at hCt
      -- the receiver's class
      have hq : ∃ fs, iv_lay q = .inr (ci, fs) := by
        unfold iv_cls at hcls
        split at hcls
        · cases hcls
        · next x hx =>
          obtain ⟨c1, f1⟩ := x
          cases hcls
          exact ⟨f1, hx⟩
      obtain ⟨fs, hfs⟩ := hq
      have h57 : q < 57 := by
        rcases Nat.lt_or_ge q 57 with h | h
        · exact h
        · rw [iv_lay_big (by omega)] at hfs
          cases hfs
          simp [vwCl] at hvw
      have hent : (iv_w X.2.2.1 X.2.2.2.1 X.2.2.2.2 σ)[q]? = some (X.2.2.1 q, .inr (ci, iv_flds X.2.2.1 (σ q) fs 0)) := by
        rw [iv_w_get h57]
        unfold iv_en
        rw [hfs]
      obtain ⟨r, hr1, hr2⟩ := Option.map_eq_some_iff.mp hvw
      have hrecv := va_recv hw.1 hw.2.1 hr1 hent
      rw [hr2] at hrecv
      obtain ⟨psig, hps, hpl⟩ := Option.map_eq_some_iff.mp hpar
      have hT : GoodIn (cw :: iv_g) (wsV own idx ym.1.cls ym.1 (.code ym.1 ym.2.1 ym.2.2.1 ym.2.2.2 :: iv_g)) := by
        intro w hw2
        unfold wsV at hw2
        rcases List.mem_append.mp hw2 with h | h
        · simp only [List.mem_cons, List.not_mem_nil, or_false] at h
          rcases h with rfl | rfl | rfl | rfl
          · exact iv_good1 hlink
          · exact iv_good1 hinst
          · exact iv_good1 hsel
          · exact iv_good1 hini
        · exact iv_goodIn hcode w h
      have hW : W p X.1 e (iv_rm (d + 1)) s m args below meth c H locs 0 0 QM (F0 m pc lsA ((tl.map (iv_e X.2.2.1)).reverse ++ .ref (X.2.2.1 q) :: (st.drop n).map (iv_e X.2.2.1))) := by
        refine iv_callr (va_runV (Ts := cw :: iv_g) (nL := nL) (As := tl.map (iv_e X.2.2.1)) (rest := (st.drop n).map (iv_e X.2.2.1)) (b := X.2.2.1 q) ⟨hx, hb, hml, hown, hts⟩ (hCt H.size) (cwV (maxL := ym.2.2.1) (ret := ym.2.2.2) (bytes := ym.2.1) (ws' := iv_g) tl.length hts hT rfl rfl rfl ⟨rfl, n1, n2, by rw [hps]; simp at hlen; simp; omega⟩ ⟨Nat.le_refl (d + 1), by show 8 + (ym.2.2.1 + 11) + 40 * d ≤ 40 * (d + 1); omega⟩) ⟨iv_blind _ _ _, hrecv, iv_preU hw (Sum.inl q :: tl)⟩ rfl (by simp) hl rfl (lv_room (by rw [iv_sum1]; exact h8)) hd ⟨Nat.zero_le _, Nat.zero_le _⟩) hw hA ?_
        intro r u H1 locs1 hq1 hw1
        rw [iv_toL _ _ hvd]
        exact kk _ _ _ _ (hK r u hq1) hw1
      have hst : st.map (iv_e X.2.2.1) = (tl.map (iv_e X.2.2.1)).reverse ++ .ref (X.2.2.1 q) :: (st.drop n).map (iv_e X.2.2.1) := by
        conv => lhs; rw [hsplit]
        rw [List.map_append, List.reverse_cons, List.map_append, List.map_reverse, List.append_assoc]
        rfl
      rw [hst]
      exact hW
  · exact hrc.elim
/-- a static call -/
theorem iv_cS (hx : p.tables.exec = Jvm.exec) (hb : c.code = cc) (hml : c.maxLocals = nL) (hown : s.vm.findClass own = some m.cls) (hts : ∀ w ∈ cw :: iv_g, w.before args s = true) (hA : ∀ q, s.heap.size ≤ q → A q)
    {idx : Nat} {z : iv_C} (hok : iv_cokB own idx z.1 z.2.1 z.2.2.1 z.2.2.2 = true) {pc : Nat} (hd : decode cc pc = .ok (.invokestatic idx, 3)) {st : List iv_V} {σ : iv_S} (hrc : z.2.1 = none) {K : List iv_V → iv_S → Prop} (hc : iv_call X d z st σ K)
    {H : Heap} {locs : List Loc} {lsA : Array Slot} (hw : iv_Wo X A s σ H locs) (hl : lsA.size = nL)
    (kk : ∀ st' σ' H1 locs1, K st' σ' → iv_Wo X A s σ' H1 locs1 → W p X.1 e (iv_rm (d + 1)) s m args below meth c H1 locs1 0 0 QM (F0 m (pc + 3) lsA (st'.map (iv_e X.2.2.1)))) :
    W p X.1 e (iv_rm (d + 1)) s m args below meth c H locs 0 0 QM (F0 m pc lsA (st.map (iv_e X.2.2.1))) := by
  obtain ⟨n, ck, vd, ym⟩ := z
  dsimp only at hok hrc
  subst hrc
  obtain ⟨hn, h8, Q, hCt, hK⟩ := hc
  dsimp only at hn h8 hCt hK
  simp only [iv_cokB, Bool.and_eq_true, Bool.or_eq_true, decide_eq_true_eq] at hok
  obtain ⟨⟨⟨⟨⟨⟨hvd, n1⟩, n2⟩, hcode⟩, hini⟩, hmx⟩, ⟨hpar, hstat⟩, hlink⟩ := hok
  have hlen : (st.take n).reverse.length = n := by simp; omega
  have hst : st.map (iv_e X.2.2.1) = (((st.take n).reverse).map (iv_e X.2.2.1)).reverse ++ (st.drop n).map (iv_e X.2.2.1) := by
    rw [← List.map_reverse, List.reverse_reverse, ← List.map_append, List.take_append_drop]
  have hR : (iv_rm d).frames + 1 ≤ (iv_rm (d + 1)).frames ∧ 8 + (ym.2.2.1 + 11) + (iv_rm d).locals ≤ (iv_rm (d + 1)).locals := ⟨Nat.le_refl (d + 1), by show 8 + (ym.2.2.1 + 11) + 40 * d ≤ 40 * (d + 1); omega⟩
  have hfin : ∀ (r : Int32) (u : iv_S) (H1 : Heap) (locs1 : List Loc), Q r u → iv_Wo X A s u H1 locs1 → W p X.1 e (iv_rm (d + 1)) s m args below meth c H1 locs1 0 0 QM (F0 m (pc + 3) lsA ((iv_ov ym.2.2.2 r).toList ++ (st.drop n).map (iv_e X.2.2.1))) := by
    intro r u H1 locs1 hq1 hw1
    rw [iv_toL _ _ hvd]
    exact kk _ _ _ _ (hK r u hq1) hw1
  rw [hst]
  rcases hlink with hlink | hlink
  · have hG : GoodIn (cw :: iv_g) (.code ym.1 ym.2.1 ym.2.2.1 ym.2.2.2 :: iv_g) := iv_goodIn hcode
    exact iv_callr (va_runS (Ts := cw :: iv_g) (nL := nL) (As := ((st.take n).reverse).map (iv_e X.2.2.1)) (rest := (st.drop n).map (iv_e X.2.2.1)) ⟨hx, hb, hml, hown, hts⟩ (hCt H.size) ⟨callB_of (maxL := ym.2.2.1) (ret := ym.2.2.2) (bytes := ym.2.1) (ws' := iv_g) n hts hG rfl rfl rfl (hts _ (List.mem_cons_of_mem _ hini)) (hts _ (List.mem_cons_of_mem _ hlink)) ⟨n1, n2, hpar⟩ hR, hts _ (List.mem_cons_of_mem _ hstat)⟩ ⟨iv_blind _ _ _, iv_preU hw _⟩ rfl (by rw [List.length_map]; exact hlen) hl rfl (lv_room (by rw [iv_sum1]; exact h8)) hd ⟨Nat.zero_le _, Nat.zero_le _⟩) hw hA hfin
  · have hG : GoodIn (cw :: iv_g) (.code ym.1 ym.2.1 ym.2.2.1 ym.2.2.2 :: iv_g) := iv_goodIn hcode
    exact iv_callr (va_runSN (Ts := cw :: iv_g) (nL := nL) (As := ((st.take n).reverse).map (iv_e X.2.2.1)) (rest := (st.drop n).map (iv_e X.2.2.1)) ⟨hx, hb, hml, hown, hts⟩ (hCt H.size) ⟨va_cnB (host := RX6) (maxL := ym.2.2.1) (ret := ym.2.2.2) (bytes := ym.2.1) (ws' := iv_g) n hts hG rfl rfl rfl (hw.2.2.2.2 _ hlink) (hts _ (List.mem_cons_of_mem _ hini)) ⟨n1, n2, hpar⟩ hR, hts _ (List.mem_cons_of_mem _ hstat), trivial⟩ ⟨iv_blind _ _ _, iv_preU hw _⟩ rfl (by rw [List.length_map]; exact hlen) hl rfl (lv_room (by rw [iv_sum1]; exact h8)) hd ⟨Nat.zero_le _, Nat.zero_le _⟩) hw hA hfin
end IVC
