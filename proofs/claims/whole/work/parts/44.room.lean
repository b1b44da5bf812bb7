section IVD
variable {p : Program} {e : Env} {s : State} {m : MethodId} {args : Array Value} {below : List Frame} {meth : Method} {c : Code} {X : iv_X} {A : Nat → Prop} {QM : State → Prop} {d nL cells slots : Nat} {R : Room} {own : String} {cc : ByteArray} {cw : Cond}
/-- a virtual call -/
theorem iv_cVg (hRm : d + 1 ≤ R.frames ∧ 40 * (d + 1) ≤ R.locals ∧ cells ≤ R.cells ∧ slots ≤ R.slots) (hx : p.tables.exec = Jvm.exec) (hb : c.code = cc) (hml : c.maxLocals = nL) (hown : s.vm.findClass own = some m.cls) (hts : ∀ w ∈ cw :: iv_g, w.before args s = true) (hA : ∀ q, s.heap.size ≤ q → A q)
    {idx : Nat} {z : iv_C} (hok : iv_cokB own idx z.1 z.2.1 z.2.2.1 z.2.2.2 = true) {pc : Nat} (hd : decode cc pc = .ok (.invokevirtual idx, 3)) {st : List iv_V} {σ : iv_S} (hrc : iv_rc z st) {K : List iv_V → iv_S → Prop} (hc : iv_call X d z st σ K)
    {H : Heap} {locs : List Loc} {lsA : Array Slot} (hw : iv_Wo X A s σ H locs) (hl : lsA.size = nL)
    (kk : ∀ st' σ' H1 locs1, K st' σ' → iv_Wo X A s σ' H1 locs1 → W p X.1 e R s m args below meth c H1 locs1 cells slots QM (F0 m (pc + 3) lsA (st'.map (iv_e X.2.2.1)))) :
    W p X.1 e R s m args below meth c H locs cells slots QM (F0 m pc lsA (st.map (iv_e X.2.2.1))) := by
  obtain ⟨n, ck, vd, ym⟩ := z
  dsimp only at hok
  obtain ⟨hn, h8, Q, hCt, hK⟩ := hc
  dsimp only at hn h8 hCt hK
  unfold iv_rc at hrc
  dsimp only at hrc
  split at hrc
  · next q tl htake =>
    obtain ⟨hcls, hne⟩ := hrc
    cases ck with
    | none => exact absurd rfl hne
    | some ci =>
      simp only [iv_cokB, Bool.and_eq_true, decide_eq_true_eq] at hok
      obtain ⟨⟨⟨⟨⟨⟨hvd, n1⟩, n2⟩, hcode⟩, hini⟩, hmx⟩, ⟨⟨⟨hpar, hinst⟩, hsel⟩, hlink⟩, hvw⟩ := hok
      have hsplit : st = (Sum.inl q :: tl).reverse ++ st.drop n := by
        rw [← htake, List.reverse_reverse, List.take_append_drop]
      have hlen : (Sum.inl q :: tl : List iv_V).length = n := by rw [← htake]; simp; omega
      rw [htake] at hCt
      -- the receiver's class
      have hq : ∃ fs, iv_lay q = .inr (ci, fs) := by
        unfold iv_cls at hcls
        split at hcls
        · cases hcls
        · next x hx =>
          obtain ⟨c1, f1⟩ := x
          cases hcls
          exact ⟨f1, hx⟩
      obtain ⟨fs, hfs⟩ := hq
      have h57 : q < 57 := by
        rcases Nat.lt_or_ge q 57 with h | h
        · exact h
        · rw [iv_lay_big (by omega)] at hfs
          cases hfs
          simp [vwCl] at hvw
      have hent : (iv_w X.2.2.1 X.2.2.2.1 X.2.2.2.2 σ)[q]? = some (X.2.2.1 q, .inr (ci, iv_flds X.2.2.1 (σ q) fs 0)) := by
        rw [iv_w_get h57]
        unfold iv_en
        rw [hfs]
      obtain ⟨r, hr1, hr2⟩ := Option.map_eq_some_iff.mp hvw
      have hrecv := va_recv hw.1 hw.2.1 hr1 hent
      rw [hr2] at hrecv
      obtain ⟨psig, hps, hpl⟩ := Option.map_eq_some_iff.mp hpar
      have hT : GoodIn (cw :: iv_g) (wsV own idx ym.1.cls ym.1 (.code ym.1 ym.2.1 ym.2.2.1 ym.2.2.2 :: iv_g)) := by
        intro w hw2
        unfold wsV at hw2
        rcases List.mem_append.mp hw2 with h | h
        · simp only [List.mem_cons, List.not_mem_nil, or_false] at h
          rcases h with rfl | rfl | rfl | rfl
          · exact iv_good1 hlink
          · exact iv_good1 hinst
          · exact iv_good1 hsel
          · exact iv_good1 hini
        · exact iv_goodIn hcode w h
      have hW : W p X.1 e R s m args below meth c H locs cells slots QM (F0 m pc lsA ((tl.map (iv_e X.2.2.1)).reverse ++ .ref (X.2.2.1 q) :: (st.drop n).map (iv_e X.2.2.1))) := by
        refine iv_callr (va_runV (Ts := cw :: iv_g) (nL := nL) (As := tl.map (iv_e X.2.2.1)) (rest := (st.drop n).map (iv_e X.2.2.1)) (b := X.2.2.1 q) ⟨hx, hb, hml, hown, hts⟩ (hCt H.size) (cwV (maxL := ym.2.2.1) (ret := ym.2.2.2) (bytes := ym.2.1) (ws' := iv_g) tl.length hts hT rfl rfl rfl ⟨rfl, n1, n2, by rw [hps]; simp at hlen; simp; omega⟩ ⟨hRm.1, by show 8 + (ym.2.2.1 + 11) + 40 * d ≤ R.locals; have := hRm.2.1; omega⟩) ⟨iv_blind _ _ _, hrecv, iv_preU hw (Sum.inl q :: tl)⟩ rfl (by simp) hl rfl (lv_room (by rw [iv_sum1]; exact h8)) hd ⟨hRm.2.2.1, hRm.2.2.2⟩) hw hA ?_
        intro r u H1 locs1 hq1 hw1
        rw [iv_toL _ _ hvd]
        exact kk _ _ _ _ (hK r u hq1) hw1
      have hst : st.map (iv_e X.2.2.1) = (tl.map (iv_e X.2.2.1)).reverse ++ .ref (X.2.2.1 q) :: (st.drop n).map (iv_e X.2.2.1) := by
        conv => lhs; rw [hsplit]
        rw [List.map_append, List.reverse_cons, List.map_append, List.map_reverse, List.append_assoc]
        rfl
      rw [hst]
      exact hW
  · exact hrc.elim
/-- a static call -/
theorem iv_cSg (hRm : d + 1 ≤ R.frames ∧ 40 * (d + 1) ≤ R.locals ∧ cells ≤ R.cells ∧ slots ≤ R.slots) (hx : p.tables.exec = Jvm.exec) (hb : c.code = cc) (hml : c.maxLocals = nL) (hown : s.vm.findClass own = some m.cls) (hts : ∀ w ∈ cw :: iv_g, w.before args s = true) (hA : ∀ q, s.heap.size ≤ q → A q)
    {idx : Nat} {z : iv_C} (hok : iv_cokB own idx z.1 z.2.1 z.2.2.1 z.2.2.2 = true) {pc : Nat} (hd : decode cc pc = .ok (.invokestatic idx, 3)) {st : List iv_V} {σ : iv_S} (hrc : z.2.1 = none) {K : List iv_V → iv_S → Prop} (hc : iv_call X d z st σ K)
    {H : Heap} {locs : List Loc} {lsA : Array Slot} (hw : iv_Wo X A s σ H locs) (hl : lsA.size = nL)
    (kk : ∀ st' σ' H1 locs1, K st' σ' → iv_Wo X A s σ' H1 locs1 → W p X.1 e R s m args below meth c H1 locs1 cells slots QM (F0 m (pc + 3) lsA (st'.map (iv_e X.2.2.1)))) :
    W p X.1 e R s m args below meth c H locs cells slots QM (F0 m pc lsA (st.map (iv_e X.2.2.1))) := by
  obtain ⟨n, ck, vd, ym⟩ := z
  dsimp only at hok hrc
  subst hrc
  obtain ⟨hn, h8, Q, hCt, hK⟩ := hc
  dsimp only at hn h8 hCt hK
  simp only [iv_cokB, Bool.and_eq_true, Bool.or_eq_true, decide_eq_true_eq] at hok
  obtain ⟨⟨⟨⟨⟨⟨hvd, n1⟩, n2⟩, hcode⟩, hini⟩, hmx⟩, ⟨hpar, hstat⟩, hlink⟩ := hok
  have hlen : (st.take n).reverse.length = n := by simp; omega
  have hst : st.map (iv_e X.2.2.1) = (((st.take n).reverse).map (iv_e X.2.2.1)).reverse ++ (st.drop n).map (iv_e X.2.2.1) := by
    rw [← List.map_reverse, List.reverse_reverse, ← List.map_append, List.take_append_drop]
  have hR : (iv_rm d).frames + 1 ≤ R.frames ∧ 8 + (ym.2.2.1 + 11) + (iv_rm d).locals ≤ R.locals := ⟨hRm.1, by show 8 + (ym.2.2.1 + 11) + 40 * d ≤ R.locals; have := hRm.2.1; omega⟩
  have hfin : ∀ (r : Int32) (u : iv_S) (H1 : Heap) (locs1 : List Loc), Q r u → iv_Wo X A s u H1 locs1 → W p X.1 e R s m args below meth c H1 locs1 cells slots QM (F0 m (pc + 3) lsA ((iv_ov ym.2.2.2 r).toList ++ (st.drop n).map (iv_e X.2.2.1))) := by
    intro r u H1 locs1 hq1 hw1
    rw [iv_toL _ _ hvd]
    exact kk _ _ _ _ (hK r u hq1) hw1
  rw [hst]
  rcases hlink with hlink | hlink
  · have hG : GoodIn (cw :: iv_g) (.code ym.1 ym.2.1 ym.2.2.1 ym.2.2.2 :: iv_g) := iv_goodIn hcode
    exact iv_callr (va_runS (Ts := cw :: iv_g) (nL := nL) (As := ((st.take n).reverse).map (iv_e X.2.2.1)) (rest := (st.drop n).map (iv_e X.2.2.1)) ⟨hx, hb, hml, hown, hts⟩ (hCt H.size) ⟨callB_of (maxL := ym.2.2.1) (ret := ym.2.2.2) (bytes := ym.2.1) (ws' := iv_g) n hts hG rfl rfl rfl (hts _ (List.mem_cons_of_mem _ hini)) (hts _ (List.mem_cons_of_mem _ hlink)) ⟨n1, n2, hpar⟩ hR, hts _ (List.mem_cons_of_mem _ hstat)⟩ ⟨iv_blind _ _ _, iv_preU hw _⟩ rfl (by rw [List.length_map]; exact hlen) hl rfl (lv_room (by rw [iv_sum1]; exact h8)) hd ⟨hRm.2.2.1, hRm.2.2.2⟩) hw hA hfin
  · have hG : GoodIn (cw :: iv_g) (.code ym.1 ym.2.1 ym.2.2.1 ym.2.2.2 :: iv_g) := iv_goodIn hcode
    exact iv_callr (va_runSN (Ts := cw :: iv_g) (nL := nL) (As := ((st.take n).reverse).map (iv_e X.2.2.1)) (rest := (st.drop n).map (iv_e X.2.2.1)) ⟨hx, hb, hml, hown, hts⟩ (hCt H.size) ⟨va_cnB (host := RX6) (maxL := ym.2.2.1) (ret := ym.2.2.2) (bytes := ym.2.1) (ws' := iv_g) n hts hG rfl rfl rfl (hw.2.2.2.2 _ hlink) (hts _ (List.mem_cons_of_mem _ hini)) ⟨n1, n2, hpar⟩ hR, hts _ (List.mem_cons_of_mem _ hstat), trivial⟩ ⟨iv_blind _ _ _, iv_preU hw _⟩ rfl (by rw [List.length_map]; exact hlen) hl rfl (lv_room (by rw [iv_sum1]; exact h8)) hd ⟨hRm.2.2.1, hRm.2.2.2⟩) hw hA hfin
end IVD
def iv_Gg (p : Program) (e : Env) (R : Room) (s : State) (m : MethodId) (args : Array Value) (below : List Frame) (meth : Method) (c : Code) (X : iv_X) (A : Nat → Prop) (QM : State → Prop) (cells slots nL pc : Nat) (ls : iv_Ls) (st : List iv_V) (σ : iv_S) : Prop :=
  ∀ (H : Heap) (locs : List Loc) (lsA : Array Slot), iv_Wo X A s σ H locs → iv_lh X.2.2.1 lsA nL ls → W p X.1 e R s m args below meth c H locs cells slots QM (F0 m pc lsA (st.map (iv_e X.2.2.1)))
section IVE
variable {p : Program} {e : Env} {s : State} {m : MethodId} {args : Array Value} {below : List Frame} {meth : Method} {c : Code} {X : iv_X} {d sz : Nat} {y : iv_M} {b : iv_B} {own : String} {Q : Int32 → iv_S → Prop} {cw : Cond} {σ0 : iv_S} {R : Room} {cells slots : Nat} {QM : State → Prop}
set_option maxHeartbeats 4000000 in
theorem iv_step_g (hRm : d + 1 ≤ R.frames ∧ 40 * (d + 1) ≤ R.locals ∧ cells ≤ R.cells ∧ slots ≤ R.slots) (hx : p.tables.exec = Jvm.exec) (hb : c.code = y.2.1) (hr : meth.sig.returnType = y.2.2.2) (hml : c.maxLocals = y.2.2.1) (hown : s.vm.findClass own = some m.cls) (hts : ∀ w ∈ cw :: iv_g, w.before args s = true) (hlocks : meth.locks = false) (hok : iv_ok own b)
    (hA : ∀ q, s.heap.size ≤ q → iv_A X σ0 sz q) (hQM : ∀ (H : Heap) (locs : List Loc) (g : JFrame), W p X.1 e R s m args below meth c H locs cells slots (MQ below (iv_Qc X y.2.2.2 σ0 sz Q) args s cells slots (iv_A X σ0 sz)) g → W p X.1 e R s m args below meth c H locs cells slots QM g) {pc : Nat} {ls : iv_Ls} {st : List iv_V} {σ : iv_S}
    (hs : iv_st X d y b Q (iv_Gg p e R s m args below meth c X (iv_A X σ0 sz) QM cells slots y.2.2.1) pc ls st σ) :
    iv_Gg p e R s m args below meth c X (iv_A X σ0 sz) QM cells slots y.2.2.1 pc ls st σ := by
  intro H locs lsA hw hl
  have hK := hw.1
  have hP := hw.2.1
  have hD := hw.2.2.1
  have hS := hw.2.2.2.1
  have hN := hw.2.2.2.2
  have hgo : ∀ w ∈ iv_g, w.before args s = true := fun w h => hts w (List.mem_cons_of_mem _ h)
  unfold iv_st at hs
  split at hs
  · next xx hd =>
    obtain ⟨i, n⟩ := xx
    dsimp only at hs
    unfold iv_si at hs
    split at hs
    · replace hs := iv_q_spec hs
      obtain ⟨rfl, hs⟩ := hs
      exact lv_iconst hx hb hd rfl (hs H locs lsA hw hl)
    · replace hs := iv_q_spec hs
      obtain ⟨rfl, hs⟩ := hs
      exact lv_bipush hx hb hd rfl (hs H locs lsA hw hl)
    · replace hs := iv_q_spec hs
      obtain ⟨rfl, hs⟩ := hs
      exact lv_sipush hx hb hd rfl (hs H locs lsA hw hl)
    · replace hs := iv_q_spec hs
      obtain ⟨rfl, hs⟩ := hs
      obtain ⟨v, hv, hs⟩ := iv_o_spec hs
      exact lv_ldc hx hb hown (hgo _ (hok.2.1 _ _ hv)) hd (hs H locs lsA hw hl)
    · replace hs := iv_q_spec hs
      obtain ⟨rfl, hs⟩ := hs
      obtain ⟨v, hv, hs⟩ := iv_o_spec hs
      exact lv_ldcw hx hb hown (hgo _ (hok.2.1 _ _ hv)) hd (hs H locs lsA hw hl)
    · replace hs := iv_q_spec hs
      obtain ⟨rfl, hs⟩ := hs
      obtain ⟨v, hv, hs⟩ := iv_li_spec hs
      exact lv_iload_n hx hb hd rfl (iv_lh_get hl hv) (hs H locs lsA hw hl)
    · replace hs := iv_q_spec hs
      obtain ⟨rfl, hs⟩ := hs
      obtain ⟨v, hv, hs⟩ := iv_li_spec hs
      exact lv_iload hx hb hd (iv_lh_get hl hv) (hs H locs lsA hw hl)
    · replace hs := iv_q_spec hs
      obtain ⟨rfl, hs⟩ := hs
      obtain ⟨v, hv, hs⟩ := iv_lr_spec hs
      exact lv_aload_n hx hb hd rfl (iv_lh_get hl hv) (hs H locs lsA hw hl)
    · replace hs := iv_q_spec hs
      obtain ⟨rfl, hs⟩ := hs
      obtain ⟨v, hv, hs⟩ := iv_lr_spec hs
      exact lv_aload hx hb hd (iv_lh_get hl hv) (hs H locs lsA hw hl)
    · replace hs := iv_q_spec hs
      obtain ⟨rfl, hs⟩ := hs
      obtain ⟨hj, hs⟩ := iv_q_spec hs
      obtain ⟨x, r, rfl, hs⟩ := iv_p1_spec hs
      obtain ⟨lv, h1, h2⟩ := hl
      exact lv_istore_n hx hb hd rfl h1 hj rfl (fun ls' hl' => hs H locs ls' hw ⟨_, hl', iv_lh_set h2 _ (.inr x)⟩)
    · replace hs := iv_q_spec hs
      obtain ⟨rfl, hs⟩ := hs
      obtain ⟨hj, hs⟩ := iv_q_spec hs
      obtain ⟨x, r, rfl, hs⟩ := iv_p1_spec hs
      obtain ⟨lv, h1, h2⟩ := hl
      exact lv_istore hx hb hd h1 hj rfl (fun ls' hl' => hs H locs ls' hw ⟨_, hl', iv_lh_set h2 _ (.inr x)⟩)
    · replace hs := iv_q_spec hs
      obtain ⟨rfl, hs⟩ := hs
      obtain ⟨hj, hs⟩ := iv_q_spec hs
      obtain ⟨x, hv, hs⟩ := iv_li_spec hs
      obtain ⟨lv, h1, h2⟩ := hl
      obtain ⟨k, hk⟩ := List.getElem?_of_mem (h2 _ _ hv)
      exact lv_iinc hx hb hd h1 hk rfl hj rfl (fun ls' hl' => hs H locs ls' hw ⟨_, hl', iv_lh_set h2 _ (.inr _)⟩)
    · replace hs := iv_q_spec hs
      obtain ⟨rfl, hs⟩ := hs
      obtain ⟨x, z, r, rfl, hs⟩ := iv_p2_spec hs
      exact lv_iadd hx hb hd (hs H locs lsA hw hl)
    · replace hs := iv_q_spec hs
      obtain ⟨rfl, hs⟩ := hs
      obtain ⟨x, z, r, rfl, hs⟩ := iv_p2_spec hs
      exact lv_isub hx hb hd (hs H locs lsA hw hl)
    · replace hs := iv_q_spec hs
      obtain ⟨rfl, hs⟩ := hs
      obtain ⟨x, z, r, rfl, hs⟩ := iv_p2_spec hs
      exact lv_imul hx hb hd (hs H locs lsA hw hl)
    · replace hs := iv_q_spec hs
      obtain ⟨rfl, hs⟩ := hs
      obtain ⟨x, z, r, rfl, hs⟩ := iv_p2_spec hs
      exact lv_iand hx hb hd (hs H locs lsA hw hl)
    · replace hs := iv_q_spec hs
      obtain ⟨rfl, hs⟩ := hs
      obtain ⟨x, z, r, rfl, hs⟩ := iv_p2_spec hs
      exact lv_ior hx hb hd (hs H locs lsA hw hl)
    · replace hs := iv_q_spec hs
      obtain ⟨rfl, hs⟩ := hs
      obtain ⟨x, z, r, rfl, hs⟩ := iv_p2_spec hs
      exact lv_ixor hx hb hd (hs H locs lsA hw hl)
    · replace hs := iv_q_spec hs
      obtain ⟨rfl, hs⟩ := hs
      obtain ⟨x, z, r, rfl, hz, hs⟩ := iv_p2_spec hs
      exact lv_irem hx hb hd hz (hs H locs lsA hw hl)
    · replace hs := iv_q_spec hs
      obtain ⟨rfl, hs⟩ := hs
      obtain ⟨x, z, r, rfl, hs⟩ := iv_p2_spec hs
      exact lv_ishl hx hb hd (hs H locs lsA hw hl)
    · replace hs := iv_q_spec hs
      obtain ⟨rfl, hs⟩ := hs
      obtain ⟨x, z, r, rfl, hs⟩ := iv_p2_spec hs
      exact lv_ishr hx hb hd (hs H locs lsA hw hl)
    · replace hs := iv_q_spec hs
      obtain ⟨rfl, hs⟩ := hs
      obtain ⟨x, z, r, rfl, hs⟩ := iv_p2_spec hs
      exact lv_iushr hx hb hd rfl (hs H locs lsA hw hl)
    · replace hs := iv_q_spec hs
      obtain ⟨rfl, hs⟩ := hs
      obtain ⟨x, r, rfl, hs⟩ := iv_p1_spec hs
      exact lv_ineg hx hb hd (hs H locs lsA hw hl)
    · replace hs := iv_q_spec hs
      obtain ⟨rfl, hs⟩ := hs
      obtain ⟨x, r, rfl, hs⟩ := iv_d1_spec hs
      exact lv_dup hx hb hd (iv_cat _ _) (hs H locs lsA hw hl)
    · replace hs := iv_q_spec hs
      obtain ⟨rfl, hs⟩ := hs
      obtain ⟨x, z, r, rfl, hs⟩ := iv_d2_spec hs
      exact lv_dup2_11 hx hb hd (iv_cat _ _) (iv_cat _ _) (hs H locs lsA hw hl)
    · replace hs := iv_q_spec hs
      obtain ⟨rfl, hs⟩ := hs
      obtain ⟨x, r, rfl, hs⟩ := iv_d1_spec hs
      exact lv_pop hx hb hd (iv_cat _ _) (hs H locs lsA hw hl)
    · next cd off =>
      replace hs := iv_q_spec hs
      obtain ⟨rfl, hs⟩ := hs
      obtain ⟨h0, hs⟩ := iv_q_spec hs
      obtain ⟨x, r, rfl, hs⟩ := iv_p1_spec hs
      have kt : ∀ q : iv_c1 cd x, W p X.1 e R s m args below meth c H locs cells slots QM (F0 m ((pc : Int) + off).toNat lsA (r.map (iv_e X.2.2.1))) := fun q => hs.1 q H locs lsA hw hl
      have kf : ∀ q : ¬ iv_c1 cd x, W p X.1 e R s m args below meth c H locs cells slots QM (F0 m (pc + 3) lsA (r.map (iv_e X.2.2.1))) := fun q => hs.2 q H locs lsA hw hl
      have ht : (pc : Int) + off = (((pc : Int) + off).toNat : Int) := (Int.toNat_of_nonneg h0).symm
      cases cd
      · exact lv_if_eq hx hb hd ht kt kf
      · exact lv_if_ne hx hb hd ht kt (fun q => kf (fun h => h q))
      · exact lv_if_lt hx hb hd ht kt kf
      · exact lv_if_ge hx hb hd ht kt kf
      · exact lv_if_gt hx hb hd ht kt kf
      · exact lv_if_le hx hb hd ht kt kf
    · next cd off =>
      replace hs := iv_q_spec hs
      obtain ⟨rfl, hs⟩ := hs
      obtain ⟨h0, hs⟩ := iv_q_spec hs
      obtain ⟨x, z, r, rfl, hs⟩ := iv_p2_spec hs
      have kt : ∀ q : iv_c2 cd x z, W p X.1 e R s m args below meth c H locs cells slots QM (F0 m ((pc : Int) + off).toNat lsA (r.map (iv_e X.2.2.1))) := fun q => hs.1 q H locs lsA hw hl
      have kf : ∀ q : ¬ iv_c2 cd x z, W p X.1 e R s m args below meth c H locs cells slots QM (F0 m (pc + 3) lsA (r.map (iv_e X.2.2.1))) := fun q => hs.2 q H locs lsA hw hl
      have ht : (pc : Int) + off = (((pc : Int) + off).toNat : Int) := (Int.toNat_of_nonneg h0).symm
      cases cd
      · exact lv_icmp_eq hx hb hd ht kt kf
      · exact lv_icmp_ne hx hb hd ht kt (fun q => kf (fun h => h q))
      · exact lv_icmp_lt hx hb hd ht kt kf
      · exact lv_icmp_ge hx hb hd ht kt kf
      · exact lv_icmp_gt hx hb hd ht kt kf
      · exact lv_icmp_le hx hb hd ht kt kf
    · replace hs := iv_q_spec hs
      obtain ⟨rfl, hs⟩ := hs
      obtain ⟨h0, hs⟩ := iv_q_spec hs
      exact lv_goto hx hb hd (Int.toNat_of_nonneg h0).symm (hs H locs lsA hw hl)
    · replace hs := iv_q_spec hs
      obtain ⟨rfl, hs⟩ := hs
      obtain ⟨q, r, rfl, hs⟩ := iv_pr_spec hs
      obtain ⟨z, hz, hs⟩ := iv_o_spec hs
      obtain ⟨ci, fs, hf, hla, hfs⟩ := iv_gf_spec hz
      obtain ⟨qc, hq1, hq2, hq3⟩ := iv_fok (hok.1 _ _ _ hf)
      obtain ⟨ty0, -, -, hin⟩ := iv_cl_ok hq1
      have hent : (iv_w X.2.2.1 X.2.2.2.1 X.2.2.2.2 σ)[q]? = some (X.2.2.1 q, .inr (ci, iv_flds X.2.2.1 (σ q) fs 0)) := by
        rw [iv_w_get (iv_lt_of hla hfs)]
        unfold iv_en
        rw [hla]
      refine va_get (v := iv_e X.2.2.1 (iv_gv σ q z)) hx hb hgo hin hown hK hP q hent hq1 z.2 hq2 (hgo _ hq3) (fun _ h9 => h9) ?_ hd (hs H locs lsA hw hl)
      rw [iv_flds_get, hfs]
      obtain ⟨z1, z2⟩ := z
      cases z1 <;> simp [iv_fv, iv_gv, iv_e]
    · replace hs := iv_q_spec hs
      obtain ⟨rfl, hs⟩ := hs
      obtain ⟨q, x, r, rfl, hs⟩ := iv_pa_spec hs
      obtain ⟨⟨z1, z2⟩, hz, hzn, hs⟩ := iv_o_spec hs
      obtain ⟨ci, fs, hf, hla, hfs⟩ := iv_gf_spec hz
      dsimp only at hzn hf hfs hs
      subst hzn
      obtain ⟨qc, hq1, hq2, hq3⟩ := iv_fok (hok.1 _ _ _ hf)
      obtain ⟨ty0, hty, hnm, hin⟩ := iv_cl_ok hq1
      have hent : (iv_w X.2.2.1 X.2.2.2.1 X.2.2.2.2 σ)[q]? = some (X.2.2.1 q, .inr (ci, iv_flds X.2.2.1 (σ q) fs 0)) := by
        rw [iv_w_get (iv_lt_of hla hfs)]
        unfold iv_en
        rw [hla]
      obtain ⟨hI, hfin⟩ := iv_lay_of hla hq1 hfs
      have hset : (iv_w X.2.2.1 X.2.2.2.1 X.2.2.2.2 σ).set q (X.2.2.1 q, .inr (ci, (iv_flds X.2.2.1 (σ q) fs 0).set z2 (.int x))) = iv_w X.2.2.1 X.2.2.2.1 X.2.2.2.2 (iv_u σ q z2 x) := by
        refine iv_w_set (iv_lt_of hla hfs) ?_ (fun t ht => iv_u_ne ht)
        unfold iv_en
        rw [hla, iv_flds_set _ _ _ _ _ hfs, iv_u_eq]
      refine va_put (v := .int x) (ty := .int) hx hb hgo hin ty0 hty hnm hown hK hP hD hS q hent hq1 z2 hq2 (hgo _ hq3) (fun _ h9 => h9) hfin (by rw [hI]; decide +kernel) rfl rfl (by rw [iv_flds_len]; exact (List.getElem?_eq_some_iff.mp hfs).1) hd (fun H1 locs1 hP1 hD1 hS1 => ?_)
      rw [hset] at hP1 hD1
      exact hs H1 locs1 lsA ⟨hK, hP1, hD1, hS1, hN⟩ hl
    · replace hs := iv_q_spec hs
      obtain ⟨rfl, hs⟩ := hs
      obtain ⟨q, i, r, rfl, hs⟩ := iv_pa_spec hs
      obtain ⟨⟨z1, z2⟩, hz, hz1, hin, hs⟩ := iv_o_spec hs
      dsimp only at hz1 hin
      subst hz1
      obtain ⟨h57, hen⟩ := iv_ar_spec hz
      have hent : (iv_w X.2.2.1 X.2.2.2.1 X.2.2.2.2 σ)[q]? = some (X.2.2.1 q, .inl (X.2.2.2.1, z2, .inl (σ q))) := by
        rw [iv_w_get h57, hen]
        rfl
      exact va_iald hx hb hK hP q 0 hent rfl hin hd (hs H locs lsA hw hl)
    · replace hs := iv_q_spec hs
      obtain ⟨rfl, hs⟩ := hs
      obtain ⟨q, i, r, rfl, hs⟩ := iv_pa_spec hs
      obtain ⟨⟨z1, z2⟩, hz, hz1, hin, hs⟩ := iv_o_spec hs
      dsimp only at hz1 hin
      subst hz1
      obtain ⟨h57, hen⟩ := iv_ar_spec hz
      have hent : (iv_w X.2.2.1 X.2.2.2.1 X.2.2.2.2 σ)[q]? = some (X.2.2.1 q, .inl (X.2.2.2.2, z2, .inl (σ q))) := by
        rw [iv_w_get h57, hen]
        rfl
      exact va_zald hx hb hK hP q 1 hent rfl hin hd (hs H locs lsA hw hl)
    · replace hs := iv_q_spec hs
      obtain ⟨rfl, hs⟩ := hs
      obtain ⟨q, i, x, r, rfl, hs⟩ := iv_ps_spec hs
      obtain ⟨⟨z1, z2⟩, hz, hz1, hin, hs⟩ := iv_o_spec hs
      dsimp only at hz1 hin
      subst hz1
      obtain ⟨h57, hen⟩ := iv_ar_spec hz
      have hent : (iv_w X.2.2.1 X.2.2.2.1 X.2.2.2.2 σ)[q]? = some (X.2.2.1 q, .inl (X.2.2.2.1, z2, .inl (σ q))) := by
        rw [iv_w_get h57, hen]
        rfl
      have hset : (iv_w X.2.2.1 X.2.2.2.1 X.2.2.2.2 σ).set q (X.2.2.1 q, .inl (X.2.2.2.1, z2, .inl (upd (σ q) i.toNatClampNeg x))) = iv_w X.2.2.1 X.2.2.2.1 X.2.2.2.2 (iv_u σ q i.toNatClampNeg x) := by
        refine iv_w_set h57 ?_ (fun t ht => iv_u_ne ht)
        rw [hen, iv_u_eq]
        rfl
      refine va_iast hx hb hK hP hD hS q 0 hent rfl hin hd (fun H1 locs1 hP1 hD1 hS1 => ?_)
      rw [hset] at hP1 hD1
      exact hs H1 locs1 lsA ⟨hK, hP1, hD1, hS1, hN⟩ hl
    · replace hs := iv_q_spec hs
      obtain ⟨rfl, hs⟩ := hs
      obtain ⟨q, i, x, r, rfl, hs⟩ := iv_ps_spec hs
      obtain ⟨⟨z1, z2⟩, hz, hz1, hin, hs⟩ := iv_o_spec hs
      dsimp only at hz1 hin
      subst hz1
      obtain ⟨h57, hen⟩ := iv_ar_spec hz
      have hent : (iv_w X.2.2.1 X.2.2.2.1 X.2.2.2.2 σ)[q]? = some (X.2.2.1 q, .inl (X.2.2.2.2, z2, .inl (σ q))) := by
        rw [iv_w_get h57, hen]
        rfl
      have hset : (iv_w X.2.2.1 X.2.2.2.1 X.2.2.2.2 σ).set q (X.2.2.1 q, .inl (X.2.2.2.2, z2, .inl (upd (σ q) i.toNatClampNeg (vp_nar .boolean x)))) = iv_w X.2.2.1 X.2.2.2.1 X.2.2.2.2 (iv_u σ q i.toNatClampNeg (vp_nar .boolean x)) := by
        refine iv_w_set h57 ?_ (fun t ht => iv_u_ne ht)
        rw [hen, iv_u_eq]
        rfl
      refine va_zast hx hb hK hP hD hS q 1 hent rfl hin hd (fun H1 locs1 hP1 hD1 hS1 => ?_)
      rw [hset] at hP1 hD1
      exact hs H1 locs1 lsA ⟨hK, hP1, hD1, hS1, hN⟩ hl
    · replace hs := iv_q_spec hs
      obtain ⟨rfl, hs⟩ := hs
      obtain ⟨q, r, rfl, hs⟩ := iv_pr_spec hs
      obtain ⟨⟨z1, z2⟩, hz, hs⟩ := iv_o_spec hs
      obtain ⟨h57, hen⟩ := iv_ar_spec hz
      have hent : (iv_w X.2.2.1 X.2.2.2.1 X.2.2.2.2 σ)[q]? = some (X.2.2.1 q, .inl (if z1 then X.2.2.2.2 else X.2.2.2.1, z2, .inl (σ q))) := by
        rw [iv_w_get h57, hen]
      cases z1
      · exact va_alen hx hb hK hP q 0 hent rfl (ty := .int) rfl hd (hs H locs lsA hw hl)
      · exact va_alen hx hb hK hP q 1 hent rfl (ty := .boolean) rfl hd (hs H locs lsA hw hl)
    · next dflt lo hi offs =>
      obtain ⟨x, r, rfl, hs⟩ := iv_p1_spec hs
      obtain ⟨hlen, hdf, hsw⟩ := iv_q_spec hs
      by_cases hout : x.toInt < lo ∨ hi < x.toInt
      · obtain ⟨h0, hk⟩ := iv_q_spec (hdf hout)
        exact lv_tableOut hx hb hd hout (Int.toNat_of_nonneg h0).symm (hk H locs lsA hw hl)
      · have h1 : ¬ x.toInt < lo := fun q => hout (Or.inl q)
        have h2 : ¬ hi < x.toInt := fun q => hout (Or.inr q)
        have hlt : (x.toInt - lo).toNat < offs.toList.length := by omega
        have hget : offs.toList[(x.toInt - lo).toNat]? = some (offs.toList[(x.toInt - lo).toNat]) := List.getElem?_eq_getElem hlt
        have hjj := iv_sw_spec _ _ hsw _ _ hget (by
          have e1 : lo + ((x.toInt - lo).toNat : Int) = x.toInt := by omega
          rw [e1, Int32.ofInt_toInt])
        obtain ⟨h0, hk⟩ := iv_q_spec hjj
        exact lv_tableIn hx hb hd h1 h2 (by rw [← Array.getElem?_toList]; exact hget) (Int.toNat_of_nonneg h0).symm (hk H locs lsA hw hl)
    · replace hs := iv_q_spec hs
      obtain ⟨rfl, hs⟩ := hs
      obtain ⟨z, hz, hrc, hc⟩ := iv_o_spec hs
      have hsz : lsA.size = y.2.2.1 := by obtain ⟨lv, h1, -⟩ := hl; exact h1.1
      exact iv_cVg hRm hx hb hml hown hts hA (hok.2.2 _ _ _ _ _ hz) hd hrc hc hw hsz (fun st' σ' H1 locs1 hk hw1 => hk H1 locs1 lsA hw1 hl)
    · replace hs := iv_q_spec hs
      obtain ⟨rfl, hs⟩ := hs
      obtain ⟨z, hz, hrc, hc⟩ := iv_o_spec hs
      have hsz : lsA.size = y.2.2.1 := by obtain ⟨lv, h1, -⟩ := hl; exact h1.1
      exact iv_cSg hRm hx hb hml hown hts hA (hok.2.2 _ _ _ _ _ hz) hd hrc hc hw hsz (fun st' σ' H1 locs1 hk hw1 => hk H1 locs1 lsA hw1 hl)
    · replace hs := iv_q_spec hs
      obtain ⟨rfl, hs⟩ := hs
      obtain ⟨v, rfl, hrk, hq⟩ := iv_r1_spec hs
      obtain ⟨ty, hty, hnar⟩ := iv_rk_nar hrk
      exact hQM _ _ _ (W.zret hx hb (hr.trans hty) hnar (fun t ht hW => ⟨⟨v, σ, by rw [hty]; rfl, hq, by rw [ht]; exact hP, va_K.moved hW.alike hK, hD⟩, hS.F ht⟩) hS.2.2 hd hlocks)
    · replace hs := iv_q_spec hs
      obtain ⟨rfl, hs⟩ := hs
      obtain ⟨rfl, hret, hq⟩ := hs
      exact hQM _ _ _ (W.vret hx hb (hr.trans hret) (fun t ht hW => ⟨⟨0, σ, by rw [hret]; rfl, hq, by rw [ht]; exact hP, va_K.moved hW.alike hK, hD⟩, hS.F ht⟩) hS.2.2 hd hlocks)
    · exact hs.elim
  · exact hs.elim
theorem iv_sn_g {cut : List Nat} (hRm : d + 1 ≤ R.frames ∧ 40 * (d + 1) ≤ R.locals ∧ cells ≤ R.cells ∧ slots ≤ R.slots) (hx : p.tables.exec = Jvm.exec) (hb : c.code = y.2.1) (hr : meth.sig.returnType = y.2.2.2) (hml : c.maxLocals = y.2.2.1) (hown : s.vm.findClass own = some m.cls) (hts : ∀ w ∈ cw :: iv_g, w.before args s = true) (hlocks : meth.locks = false) (hok : iv_ok own b)
    (hA : ∀ q, s.heap.size ≤ q → iv_A X σ0 sz q) (hQM : ∀ (H : Heap) (locs : List Loc) (g : JFrame), W p X.1 e R s m args below meth c H locs cells slots (MQ below (iv_Qc X y.2.2.2 σ0 sz Q) args s cells slots (iv_A X σ0 sz)) g → W p X.1 e R s m args below meth c H locs cells slots QM g) :
    ∀ (n pc : Nat) (ls : iv_Ls) (st : List iv_V) (σ : iv_S), iv_sn X d y b Q cut (iv_Gg p e R s m args below meth c X (iv_A X σ0 sz) QM cells slots y.2.2.1) n pc ls st σ → iv_Gg p e R s m args below meth c X (iv_A X σ0 sz) QM cells slots y.2.2.1 pc ls st σ
  | 0, _, _, _, _, h => h
  | n + 1, pc, ls, st, σ, h => by
    unfold iv_sn at h
    split at h
    · exact h
    · exact iv_step_g hRm hx hb hr hml hown hts hlocks hok hA hQM (iv_st_mono (fun pc ls st σ h => iv_sn_g hRm hx hb hr hml hown hts hlocks hok hA hQM n pc ls st σ h) h)
end IVE
