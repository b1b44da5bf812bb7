/-! the law's own steps: calls on both objects, its script, its row out -/
def il_Wo (X : iv_X) (cJ : ClassId) (o : Nat) (A : Nat → Prop) (s : State) (σ : iv_S) (f : Nat → Int64) (H : Heap) (locs : List Loc) : Prop :=
  iv_Wo X A s σ H locs ∧ H[o]? = some (vp_cell cJ (1, .inr (.inl f))) ∧ (∀ k, k < 57 → X.2.2.1 k ≠ o) ∧ A o ∧ ArrOfT s cJ .long ∧ va_RA s cJ .long
section ILW
variable {p : Program} {e : Env} {R : Room} {s : State} {m : MethodId} {args : Array Value} {below : List Frame} {meth : Method} {c : Code} {X : iv_X} {A : Nat → Prop} {QM : State → Prop} {cells slots : Nat} {cJ : ClassId} {o : Nat} {f : Nat → Int64} {σ : iv_S} {H : Heap} {locs : List Loc} {cc : ByteArray} {cw : Cond} {own : String} {pc nL : Nat} {ls : Array Slot}
theorem il_oA (hw : il_Wo X cJ o A s σ f H locs) : ¬ iv_A X σ H.size o := by
  rintro (⟨k, e, h⟩ | h)
  · have hl : k < 57 := by have := (List.getElem?_eq_some_iff.mp h).1; rw [iv_w_len] at this; exact this
    rw [iv_w_get hl] at h
    cases h
    exact hw.2.2.1 k hl rfl
  · have := (Array.getElem?_eq_some_iff.mp hw.2.1).1
    omega
theorem il_ol (hw : il_Wo X cJ o A s σ f H locs) : o < H.size := (Array.getElem?_eq_some_iff.mp hw.2.1).1
theorem il_callr {st0 rest : List Value} {a : Array Value} {Q : Int32 → iv_S → Prop} {ty : FieldType} (hr : va_Run p X.1 e R s m args below meth c H locs cells slots 0 0 (F0 m pc ls st0) rest (iv_Qc X (some ty) σ H.size Q a) (iv_A X σ H.size)) (hw : il_Wo X cJ o A s σ f H locs) (hA : ∀ q, s.heap.size ≤ q → A q)
    (kk : ∀ (r : Int32) (u : iv_S) (H1 : Heap) (locs1 : List Loc), Q r u → il_Wo X cJ o A s u f H1 locs1 → W p X.1 e R s m args below meth c H1 locs1 cells slots QM (F0 m (pc + 3) ls (.int r :: rest))) : W p X.1 e R s m args below meth c H locs cells slots QM (F0 m pc ls st0) := by
  intro T hT Y
  have hF := iv_hF hw.1 hA
  have hoA := il_oA hw
  have hol := il_ol hw
  obtain ⟨v, st₀, t, T', L, h0, X', hL, e1, e2, ⟨⟨r, u, hv, hp, hb1, hb2, hb3⟩, hz, hk⟩, st⟩ := hr T hT Y
  cases hv
  rw [h0] at hz hk
  obtain ⟨⟨hK, hP, hD, hS, hN⟩, ho1, ho2, ho3⟩ := hw
  have hS' : va_S A s.heap T'.heap (locs ++ L) := ⟨Nat.le_trans hS.1 (by rw [e1]; exact hz), fun q h1 h2 => by rw [e1, hk q (Nat.lt_of_lt_of_le h1 hS.1) (fun z => h2 (hF q z))]; exact hS.2.1 q h1 h2, fun q hq => by
      rcases List.mem_append.mp hq with h | h
      · exact hS.2.2 q h
      · exact hF _ (hL q h)⟩
  obtain ⟨t2, a1, b1⟩ := kk r u T'.heap (locs ++ L) hp ⟨⟨hK, by rw [e1]; exact hb1, hb3.weaken (fun k q _ h => hF q.1 h), hS', hN⟩, by rw [e1, hk o hol hoA]; exact ho1, ho2, ho3⟩ T' rfl X'
  exact ⟨t2, st t2 a1, b1⟩
theorem il_run {ci k idx d : Nat} {ym : iv_M} {ty : FieldType} {av rest : List iv_V} {Pc : Array Value → State → Prop} {Qc : Array Value → State → Outcome → State → Prop} {free : Nat → Prop} (hx : p.tables.exec = Jvm.exec) (hb : c.code = cc) (hml : c.maxLocals = nL) (hown : s.vm.findClass own = some m.cls) (hts : ∀ w ∈ cw :: iv_g, w.before args s = true)
    (hok : iv_cokB own idx (av.length + 1) (some ci) false ym = true) (hk : iv_cls k = some ci) (hCt : Met X.1 ym.1 (.code ym.1 ym.2.1 ym.2.2.1 ym.2.2.2 :: iv_g) (iv_rm d) Pc Qc 0 0 free) (hbl : FrameBlind Pc) (hpre : ∀ U : State, U.heap = H → s.WarmedH U.vm → Pc ((Sum.inl k :: av).map (iv_e X.2.2.1)).toArray U)
    (hRm : d + 1 ≤ R.frames ∧ 40 * (d + 1) ≤ R.locals ∧ cells ≤ R.cells ∧ slots ≤ R.slots) (h8 : rest.length ≤ 8) (hsize : ls.size = nL) (hd : decode cc pc = .ok (.invokevirtual idx, 3)) (hw : iv_Wo X A s σ H locs) :
    va_Run p X.1 e R s m args below meth c H locs cells slots 0 0 (F0 m pc ls ((av.map (iv_e X.2.2.1)).reverse ++ .ref (X.2.2.1 k) :: rest.map (iv_e X.2.2.1))) (rest.map (iv_e X.2.2.1)) (Qc ((Sum.inl k :: av).map (iv_e X.2.2.1)).toArray) free := by
  simp only [iv_cokB, Bool.and_eq_true, decide_eq_true_eq] at hok
  obtain ⟨⟨⟨⟨⟨⟨hvd, n1⟩, n2⟩, hcode⟩, hini⟩, hmx⟩, ⟨⟨⟨hpar, hinst⟩, hsel⟩, hlink⟩, hvw⟩ := hok
  have hq : ∃ fs, iv_lay k = .inr (ci, fs) := by
    unfold iv_cls at hk
    split at hk
    · cases hk
    · next x hx =>
      obtain ⟨c1, f1⟩ := x
      cases hk
      exact ⟨f1, hx⟩
  obtain ⟨fs, hfs⟩ := hq
  have h57 : k < 57 := by
    rcases Nat.lt_or_ge k 57 with h | h
    · exact h
    · rw [iv_lay_big (by omega)] at hfs
      cases hfs
      simp [vwCl] at hvw
  have hent : (iv_w X.2.2.1 X.2.2.2.1 X.2.2.2.2 σ)[k]? = some (X.2.2.1 k, .inr (ci, iv_flds X.2.2.1 (σ k) fs 0)) := by
    rw [iv_w_get h57]
    unfold iv_en
    rw [hfs]
  obtain ⟨r, hr1, hr2⟩ := Option.map_eq_some_iff.mp hvw
  have hrecv := va_recv hw.1 hw.2.1 hr1 hent
  rw [hr2] at hrecv
  obtain ⟨psig, hps, hpl⟩ := Option.map_eq_some_iff.mp hpar
  have hT : GoodIn (cw :: iv_g) (wsV own idx ym.1.cls ym.1 (.code ym.1 ym.2.1 ym.2.2.1 ym.2.2.2 :: iv_g)) := by
    intro w hw2
    unfold wsV at hw2
    rcases List.mem_append.mp hw2 with h | h
    · simp only [List.mem_cons, List.not_mem_nil, or_false] at h
      rcases h with rfl | rfl | rfl | rfl
      · exact iv_good1 hlink
      · exact iv_good1 hinst
      · exact iv_good1 hsel
      · exact iv_good1 hini
    · exact iv_goodIn hcode w h
  exact va_runV (Ts := cw :: iv_g) (nL := nL) (As := av.map (iv_e X.2.2.1)) (rest := rest.map (iv_e X.2.2.1)) (b := X.2.2.1 k) ⟨hx, hb, hml, hown, hts⟩ hCt (cwV (maxL := ym.2.2.1) (ret := ym.2.2.2) (bytes := ym.2.1) (ws' := iv_g) av.length hts hT rfl rfl rfl ⟨rfl, n1, n2, by rw [hps]; simp; omega⟩ ⟨hRm.1, by show 8 + (ym.2.2.1 + 11) + 40 * d ≤ R.locals; have := hRm.2.1; omega⟩) ⟨hbl, hrecv, hpre⟩ rfl (by simp) hsize rfl (lv_room (by rw [iv_sum1]; exact h8)) hd ⟨hRm.2.2.1, hRm.2.2.2⟩
theorem il_call {ci k idx d : Nat} {ym : iv_M} {ty : FieldType} {av rest : List iv_V} {st0 : List Value} {Q : Int32 → iv_S → Prop} (hx : p.tables.exec = Jvm.exec) (hb : c.code = cc) (hml : c.maxLocals = nL) (hown : s.vm.findClass own = some m.cls) (hts : ∀ w ∈ cw :: iv_g, w.before args s = true) (hA : ∀ q, s.heap.size ≤ q → A q)
    (hok : iv_cokB own idx (av.length + 1) (some ci) false ym = true) (hty : ym.2.2.2 = some ty) (hk : iv_cls k = some ci) (hCt : iv_Ct X ym d (.inl k :: av) σ Q)
    (hRm : d + 1 ≤ R.frames ∧ 40 * (d + 1) ≤ R.locals ∧ cells ≤ R.cells ∧ slots ≤ R.slots) (h8 : rest.length ≤ 8) (hsize : ls.size = nL) (hd : decode cc pc = .ok (.invokevirtual idx, 3)) (hst : st0 = (av.map (iv_e X.2.2.1)).reverse ++ .ref (X.2.2.1 k) :: rest.map (iv_e X.2.2.1)) (hw : il_Wo X cJ o A s σ f H locs)
    (kk : ∀ (r : Int32) (u : iv_S) (H1 : Heap) (locs1 : List Loc), Q r u → il_Wo X cJ o A s u f H1 locs1 → W p X.1 e R s m args below meth c H1 locs1 cells slots QM (F0 m (pc + 3) ls (.int r :: rest.map (iv_e X.2.2.1)))) : W p X.1 e R s m args below meth c H locs cells slots QM (F0 m pc ls st0) := by
  subst hst
  have h1 := il_run (ty := ty) (Pc := iv_Pc X (.inl k :: av) σ H.size) (Qc := iv_Qc X ym.2.2.2 σ H.size Q) (free := iv_A X σ H.size) (rest := rest) (R := R) (cells := cells) (slots := slots) (below := below) (meth := meth) (e := e) hx hb hml hown hts hok hk (hCt H.size) (iv_blind _ _ _) (iv_preU hw.1 (.inl k :: av)) hRm h8 hsize hd hw.1
  rw [hty] at h1
  exact il_callr h1 hw hA kk
theorem iv_Sx_at {A' : Nat → Prop} {U : State} (hZ : iv_Sx A s s.heap) (hS : va_S A s.heap H locs) (hAA : ∀ q, A' q → A q) (hU : U.heap = H) (hW : s.WarmedH U.vm) : iv_Sx A' U U.heap := by
  obtain ⟨t1, t2, z1, z2, z3, z4⟩ := hZ
  rw [hU]
  exact ⟨t1, t2, (va_Z.moved hW.alike (z1.kept hS.2.1)).narrow hAA, (va_T.moved hW.alike (z2.kept hS.2.1)).narrow hAA, (va_Z.moved hW.alike (z3.kept hS.2.1)).narrow hAA, (va_T.moved hW.alike (z4.kept hS.2.1)).narrow hAA⟩
theorem il_callS {ci k idx d : Nat} {ym : iv_M} {ty : FieldType} {av rest : List iv_V} {st0 : List Value} {Q : Int32 → iv_S → Prop} (hx : p.tables.exec = Jvm.exec) (hb : c.code = cc) (hml : c.maxLocals = nL) (hown : s.vm.findClass own = some m.cls) (hts : ∀ w ∈ cw :: iv_g, w.before args s = true) (hA : ∀ q, s.heap.size ≤ q → A q) (hZ : iv_Sx A s s.heap)
    (hok : iv_cokB own idx (av.length + 1) (some ci) false ym = true) (hty : ym.2.2.2 = some ty) (hk : iv_cls k = some ci) (hCt : iv_CtS X ym d (.inl k :: av) σ Q)
    (hRm : d + 1 ≤ R.frames ∧ 40 * (d + 1) ≤ R.locals ∧ cells ≤ R.cells ∧ slots ≤ R.slots) (h8 : rest.length ≤ 8) (hsize : ls.size = nL) (hd : decode cc pc = .ok (.invokevirtual idx, 3)) (hst : st0 = (av.map (iv_e X.2.2.1)).reverse ++ .ref (X.2.2.1 k) :: rest.map (iv_e X.2.2.1)) (hw : il_Wo X cJ o A s σ f H locs)
    (kk : ∀ (r : Int32) (u : iv_S) (H1 : Heap) (locs1 : List Loc), Q r u → il_Wo X cJ o A s u f H1 locs1 → W p X.1 e R s m args below meth c H1 locs1 cells slots QM (F0 m (pc + 3) ls (.int r :: rest.map (iv_e X.2.2.1)))) : W p X.1 e R s m args below meth c H locs cells slots QM (F0 m pc ls st0) := by
  subst hst
  have h1 := il_run (ty := ty) (Pc := fun a U => iv_Pc X (.inl k :: av) σ H.size a U ∧ iv_Sx (iv_A X σ H.size) U U.heap) (Qc := iv_Qc X ym.2.2.2 σ H.size Q) (free := iv_A X σ H.size) (rest := rest) (R := R) (cells := cells) (slots := slots) (below := below) (meth := meth) (e := e) hx hb hml hown hts hok hk (hCt H.size) (fun a U g mk q => ⟨iv_blind _ _ _ a U g mk q.1, by
    obtain ⟨t1, t2, z1, z2, z3, z4⟩ := q.2
    exact ⟨t1, t2, va_Z.moved (u := U) (U := U.calling g mk a) (Vm.Alike.refl U.vm) z1, va_T.moved (u := U) (U := U.calling g mk a) (Vm.Alike.refl U.vm) z2, va_Z.moved (u := U) (U := U.calling g mk a) (Vm.Alike.refl U.vm) z3, va_T.moved (u := U) (U := U.calling g mk a) (Vm.Alike.refl U.vm) z4⟩⟩) (fun U hU hW => ⟨iv_preU hw.1 (.inl k :: av) U hU hW, iv_Sx_at hZ hw.1.2.2.2.1 (iv_hF hw.1 hA) hU hW⟩) hRm h8 hsize hd hw.1
  rw [hty] at h1
  exact il_callr h1 hw hA kk
/-- one int of the script -/
theorem il_arg {b L i j : Nat} {xs : Nat → Int32} {rest : List Value} {n : Int} (hx : p.tables.exec = Jvm.exec) (hb : c.code = cc) (hX : va_X b L xs s s.heap) (hbl : b < s.heap.size) (hbA : ¬ A b) (hS : va_S A s.heap H locs) (hL : L < 2 ^ 31) (hij : i + j < L) (h0 : ls[0]? = some (.val (.ref b))) (h4 : ls[4]? = some (.val (.int (nI i)))) (hn : Int32.ofInt n = nI j)
    (d1 : decode cc pc = .ok (.aload_n 0, 1)) (d2 : decode cc (pc + 1) = .ok (.iload 4, 2)) (d3 : decode cc (pc + 3) = .ok (.iconst n, 1)) (d4 : decode cc (pc + 4) = .ok (.iadd, 1)) (d5 : decode cc (pc + 5) = .ok (.iaload, 1))
    (kk : W p X.1 e R s m args below meth c H locs cells slots QM (F0 m (pc + 6) ls (.int (xs (i + j)) :: rest))) : W p X.1 e R s m args below meth c H locs cells slots QM (F0 m pc ls rest) := by
  refine lv_aload_n hx hb d1 rfl h0 ?_
  refine lv_iload hx hb d2 h4 ?_
  refine lv_iconst hx hb d3 hn ?_
  refine lv_iadd hx hb d4 ?_
  rw [nI_add]
  refine va_sld hx hb hX hbl hbA hS (z_in hij hL) d5 ?_
  rw [z_cl (by omega)]
  exact kk
end ILW
