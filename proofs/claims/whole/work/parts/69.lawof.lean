/-! the law's own of: it catches what the class throws -/
def il_w (X : iv_X) (cJ : ClassId) (o : Nat) (σ : iv_S) (f : Nat → Int64) : va_W := iv_w X.2.2.1 X.2.2.2.1 X.2.2.2.2 σ ++ [(o, .inl (cJ, 1, .inr (.inl f)))]
def il_T (X : iv_X) (cJ : ClassId) : List (ClassId × FieldType) := [(X.2.2.2.1, .int), (X.2.2.2.2, .boolean), (cJ, .long)]
def il_A (X : iv_X) (cJ : ClassId) (o : Nat) (σ : iv_S) (f : Nat → Int64) (sz : Nat) : Nat → Prop := va_A (il_w X cJ o σ f) sz
theorem iv_w_len {a : Nat → Nat} {cI cZ : ClassId} {σ : iv_S} : (iv_w a cI cZ σ).length = 57 := by simp [iv_w]
theorem il_P1 {X : iv_X} {cJ : ClassId} {o : Nat} {σ : iv_S} {f : Nat → Int64} {H : Heap} (h : va_P X.2.1 vwCl (il_w X cJ o σ f) H) : va_P X.2.1 vwCl (iv_w X.2.2.1 X.2.2.2.1 X.2.2.2.2 σ) H := fun k q hq => h k q (by
  unfold il_w
  rw [List.getElem?_append_left (List.getElem?_eq_some_iff.mp hq).1]
  exact hq)
theorem il_D1 {X : iv_X} {cJ : ClassId} {o : Nat} {σ : iv_S} {f : Nat → Int64} {A : Nat → Prop} (h : va_D A (il_w X cJ o σ f)) : va_D A (iv_w X.2.2.1 X.2.2.2.1 X.2.2.2.2 σ) := by
  have hx : ∀ k q, (iv_w X.2.2.1 X.2.2.2.1 X.2.2.2.2 σ)[k]? = some q → (il_w X cJ o σ f)[k]? = some q := fun k q hq => by
    unfold il_w
    rw [List.getElem?_append_left (List.getElem?_eq_some_iff.mp hq).1]
    exact hq
  exact ⟨fun i j p q hp hq e => h.1 i j p q (hx i p hp) (hx j q hq) e, fun k q hq => h.2 k q (hx k q hq)⟩
theorem il_get {X : iv_X} {cJ : ClassId} {o : Nat} {σ : iv_S} {f : Nat → Int64} : (il_w X cJ o σ f)[57]? = some (o, .inl (cJ, 1, .inr (.inl f))) := by
  unfold il_w
  rw [List.getElem?_append_right (by rw [iv_w_len]; exact Nat.le_refl _), iv_w_len]
  rfl
theorem il_set {X : iv_X} {cJ : ClassId} {o : Nat} {σ : iv_S} {f g : Nat → Int64} : (il_w X cJ o σ f).set 57 (o, .inl (cJ, 1, .inr (.inl g))) = il_w X cJ o σ g := by
  unfold il_w
  rw [List.set_append_right _ _ (by rw [iv_w_len]; exact Nat.le_refl _), iv_w_len]
  rfl
/-- the cell of out is none of the others -/
theorem il_ne {X : iv_X} {cJ : ClassId} {o : Nat} {σ : iv_S} {f : Nat → Int64} {A : Nat → Prop} (h : va_D A (il_w X cJ o σ f)) : ∀ (k : Nat) (e : va_E), (iv_w X.2.2.1 X.2.2.2.1 X.2.2.2.2 σ)[k]? ≠ some (o, e) := by
  intro k e hk
  have hl : k < 57 := by have := (List.getElem?_eq_some_iff.mp hk).1; rw [iv_w_len] at this; exact this
  have h1 : (il_w X cJ o σ f)[k]? = some (o, e) := by
    unfold il_w
    rw [List.getElem?_append_left (by rw [iv_w_len]; exact hl)]
    exact hk
  have := h.1 k 57 _ _ h1 il_get rfl
  omega
/-- the world put together again -/
theorem il_P {X : iv_X} {cJ : ClassId} {o : Nat} {σ : iv_S} {f : Nat → Int64} {H : Heap} (h1 : va_P X.2.1 vwCl (iv_w X.2.2.1 X.2.2.2.1 X.2.2.2.2 σ) H) (h2 : H[o]? = some (vp_cell cJ (1, .inr (.inl f)))) : va_P X.2.1 vwCl (il_w X cJ o σ f) H := by
  unfold il_w
  refine h1.app (fun k q hq => ?_)
  have hk : k = 0 := by
    have := (List.getElem?_eq_some_iff.mp hq).1
    simp at this
    omega
  subst hk
  cases hq
  exact h2
theorem il_addr {X : iv_X} {cJ : ClassId} {o : Nat} {σ u : iv_S} {f g : Nat → Int64} (k : Nat) : ((il_w X cJ o σ f)[k]?).map (fun q => q.1) = ((il_w X cJ o u g)[k]?).map (fun q => q.1) := by
  unfold il_w
  by_cases hk : k < 57
  · rw [List.getElem?_append_left (by rw [iv_w_len]; exact hk), List.getElem?_append_left (by rw [iv_w_len]; exact hk), iv_w_get hk, iv_w_get hk]
    rfl
  · rw [List.getElem?_append_right (by rw [iv_w_len]; omega), List.getElem?_append_right (by rw [iv_w_len]; omega), iv_w_len, iv_w_len]
    by_cases h0 : k = 57
    · subst h0; rfl
    · rw [List.getElem?_eq_none (by simp; omega), List.getElem?_eq_none (by simp; omega)]
/-- apartness speaks of addresses alone -/
theorem il_D {X : iv_X} {cJ : ClassId} {o : Nat} {σ u : iv_S} {f g : Nat → Int64} {A : Nat → Prop} (h : va_D A (il_w X cJ o σ f)) : va_D A (il_w X cJ o u g) := by
  have key : ∀ (k : Nat) (q : Nat × va_E), (il_w X cJ o u g)[k]? = some q → ∃ q' : Nat × va_E, (il_w X cJ o σ f)[k]? = some q' ∧ q'.1 = q.1 := by
    intro k q hq
    have := il_addr (X := X) (cJ := cJ) (o := o) (σ := u) (u := σ) (f := g) (g := f) k
    rw [hq] at this
    obtain ⟨q', h1, h2⟩ := Option.map_eq_some_iff.mp this.symm
    exact ⟨q', h1, h2⟩
  refine ⟨fun i j p q hp hq e => ?_, fun k q hq => ?_⟩
  · obtain ⟨p', a1, a2⟩ := key i p hp
    obtain ⟨q', b1, b2⟩ := key j q hq
    exact h.1 i j p' q' a1 b1 (by rw [a2, b2]; exact e)
  · obtain ⟨q', b1, b2⟩ := key k q hq
    rw [← b2]
    exact h.2 k q' b1
def il_Pc (X : iv_X) (cJ : ClassId) (o : Nat) (p w : Int32) (σ : iv_S) (f : Nat → Int64) (sz sa sb : Nat) : Array Value → State → Prop := va_Pc [.ref (X.2.2.1 0), .int p, .int w, .ref o] (fun U => U.heap.size = sz ∧ va_P X.2.1 vwCl (il_w X cJ o σ f) U.heap ∧ va_K X.2.1 vwCl (il_T X cJ) U ∧ va_D (fun _ => True) (il_w X cJ o σ f) ∧ (∀ w ∈ iv_N, va_Nw w U) ∧ io_Z (il_A X cJ o σ f sz) sa sb U)
def il_q (n : Nat) (p w : Int32) (σ : iv_S) (r : Int32) (g : Nat → Int64) : Prop := (io_ok n p w = true → r = 0 ∧ g 0 = (io_v σ p w).toInt64) ∧ (io_ok n p w = false → r = 1)
def il_W (X : iv_X) (cJ : ClassId) (o : Nat) (σ : iv_S) (f : Nat → Int64) (sz : Nat) (g : Nat → Int64) (t : State) : Prop := va_P X.2.1 vwCl (il_w X cJ o σ g) t.heap ∧ va_K X.2.1 vwCl (il_T X cJ) t ∧ va_D (il_A X cJ o σ f sz) (il_w X cJ o σ g)
def il_ws : List Cond := .codeWith yL_of cL_of 5 (some .int) [(0, 10, 13, 13)] :: iv_g
def il_rm : Room := { frames := 12, cells := 1, slots := 6, locals := 500 }
theorem il_l7 : Cond.methodLink RL 7 yX6_of ∈ iv_g := by decide +kernel
theorem il_in : Cond.instanceMethod yX6_of ∈ iv_g := by decide +kernel
theorem il_se : Cond.selects RX6 yX6_of yX6_of ∈ iv_g := by decide +kernel
theorem il_i6 : Cond.initialized RX6 ∈ iv_g := by decide +kernel
theorem il_c6 : Cond.code yX6_of cX6_of 3 (some .int) ∈ iv_g := by decide +kernel
theorem il_k13 : Cond.classLink RL 13 io_E ∈ iv_g := by decide +kernel
theorem io_blind {X : iv_X} {p w : Int32} {σ : iv_S} {sz sa sb : Nat} : FrameBlind (io_Pc X p w σ sz sa sb) := by
  intro a U g mk q
  exact ⟨iv_blind _ _ _ a U g mk q.1, io_Z_call q.2 g mk a⟩
theorem il_K2 {X : iv_X} {cJ : ClassId} {U : State} (h : va_K X.2.1 vwCl (il_T X cJ) U) : va_K X.2.1 vwCl (iv_T X.2.2.2.1 X.2.2.2.2) U := ⟨h.1, fun k q hk => h.2 k q (by
  have hl := (List.getElem?_eq_some_iff.mp hk).1
  simp [iv_T] at hl
  unfold il_T
  rcases (show k = 0 ∨ k = 1 by omega) with rfl | rfl
  · exact hk
  · exact hk)⟩
set_option maxHeartbeats 4000000 in
set_option maxRecDepth 20000 in
set_option maxRecDepth 20000 in
set_option maxHeartbeats 4000000 in
theorem ct_lof {X : iv_X} {cJ : ClassId} {o : Nat} {σ : iv_S} {f : Nat → Int64} {n : Nat} (hl0 : X.1.stackTraces = false) (hs : σ 12 5 = nI n) (hn : n ≤ 30) (pk w : Int32) (sa sb sz : Nat) : Met X.1 yL_of il_ws il_rm (il_Pc X cJ o pk w σ f sz sa sb) (va_Qi (il_q n pk w σ) (il_W X cJ o σ f sz) (il_A X cJ o σ f sz)) 1 6 (il_A X cJ o σ f sz) := by
  refine va_MetW (cc := cL_of) (maxL := 5) (ret := some .int) (hh := [(0, 10, 13, 13)]) (by decide) rfl ?_
  intro p e s m args below meth c s₁ B hml hv
  obtain ⟨rfl, hsz, hP, hK, hD0, hN, hZ⟩ := hv
  subst hsz
  have hx := B.exec
  have hb := B.bytes
  have hr := B.returns
  have hts := atoms_spec (ws := il_ws) B.pre
  have hg := fun w h => hts w (List.mem_cons_of_mem _ h)
  have hown : s.vm.findClass RL = some m.cls := findClass_of_methodNamed B.named
  have htab := vx_table (x := yL_of) B (hts _ List.mem_cons_self)
  have hD := hD0.self (sz := s.heap.size)
  have hA : ∀ q : Nat, s.heap.size ≤ q → il_A X cJ o σ f s.heap.size q := fun q h => Or.inr h
  have hS : va_S (il_A X cJ o σ f s.heap.size) s.heap s.heap [] := va_S.rf
  have hl := lv_entry ([.ref (X.2.2.1 0), .int pk, .int w, .ref o]) (n := 5) (Nat.le_of_ble_eq_true rfl)
  show W _ _ _ _ _ _ _ _ _ _ _ _ _ _ _ (entryFrame m ([.ref (X.2.2.1 0), .int pk, .int w, .ref o] : List Value).toArray 5)
  rw [lg_entry_eq]
  generalize (lg_sl ([.ref (X.2.2.1 0), .int pk, .int w, .ref o]) ++ List.replicate (5 - (lg_sl ([.ref (X.2.2.1 0), .int pk, .int w, .ref o])).length) Slot.unset).toArray = ls at hl ⊢
  have hl : lv_has ls 5 [(0, .ref (X.2.2.1 0)), (1, .int pk), (2, .int w), (3, .ref o)] := hl
  have hsub : ∀ q, iv_A X σ s.heap.size q → il_A X cJ o σ f s.heap.size q := by
    intro q h
    rcases h with ⟨k, e, h⟩ | h
    · refine Or.inl ⟨k, e, ?_⟩
      unfold il_w
      rw [List.getElem?_append_left (List.getElem?_eq_some_iff.mp h).1]
      exact h
    · exact Or.inr h
  have hoc : s.heap[o]? = some (vp_cell cJ (1, .inr (.inl f))) := hP 57 _ il_get
  have hol : o < s.heap.size := (hP 57 _ il_get).lt
  have hoA : ¬ iv_A X σ s.heap.size o := by
    rintro (⟨k, e, h⟩ | h)
    · exact il_ne hD k e h
    · omega
  refine lv_aload_n hx hb dL_of_0 rfl (lv_at hl 3 rfl) ?_
  refine lv_iconst (v := 0) hx hb dL_of_1 (by decide) ?_
  refine lv_aload_n hx hb dL_of_2 rfl (lv_at hl 0 rfl) ?_
  refine lv_iload_n hx hb dL_of_3 rfl (lv_at hl 1 rfl) ?_
  refine lv_iload_n hx hb dL_of_4 rfl (lv_at hl 2 rfl) ?_
  have hT : GoodIn il_ws (wsV RL 7 RX6 yX6_of (.code yX6_of cX6_of 3 (some .int) :: iv_g)) := by
    intro w hw2
    unfold wsV at hw2
    rcases List.mem_append.mp hw2 with h | h
    · simp only [List.mem_cons, List.not_mem_nil, or_false] at h
      rcases h with rfl | rfl | rfl | rfl
      · exact iv_good1 il_l7
      · exact iv_good1 il_in
      · exact iv_good1 il_se
      · exact iv_good1 il_i6
    · exact iv_goodIn (ym := (yX6_of, cX6_of, 3, some .int)) il_c6 w h
  have hent : (iv_w X.2.2.1 X.2.2.2.1 X.2.2.2.2 σ)[0]? = some (X.2.2.1 0, .inr (6, iv_flds X.2.2.1 (σ 0) [some 1, some 2, some 3, some 12, some 18, some 24, some 29, none] 0)) := iv_w_get (by decide)
  refine vx_calli (A0 := il_A X cJ o σ f s.heap.size) (vx_runV (As := [.int pk, .int w]) (rest := [.int 0, .ref o]) (b := X.2.2.1 0) ⟨hx, hb, hml, hown, hts⟩ (ct_of hl0 hs hn pk w sa sb s.heap.size) (cwV (maxL := 3) (ret := some .int) (bytes := cX6_of) (ws' := iv_g) 2 hts hT rfl rfl rfl ⟨rfl, by decide, by decide, by decide +kernel⟩ ⟨Nat.le_of_ble_eq_true rfl, Nat.le_of_ble_eq_true rfl⟩) ⟨io_blind, va_recv (q := (RX6, TX6, 8)) (ci := 6) hK (il_P1 hP) rfl hent, fun U hU hW => ⟨⟨rfl, by rw [hU], by rw [hU]; exact il_P1 hP, va_K.moved hW.alike (il_K2 hK), il_D1 hD0, iv_nwarm hW hN⟩, io_Z_at hZ hS hsub hU hW⟩⟩ rfl rfl hl.1 rfl (lv_room (Nat.le_of_ble_eq_true rfl)) dL_of_5 ⟨Nat.le_of_ble_eq_true rfl, Nat.le_of_ble_eq_true rfl⟩) hS (fun q _ h => hsub q h) hsub (fun q _ h => hsub q h) ?_ ?_
  · intro E ce q9 u t H1 locs1 ht hal hno hBX hz1 hk1 hS1 hce hcv hcl
    obtain ⟨rfl, hP2, hK2, hD2⟩ := hBX
    rw [ht] at hP2
    have hP3 : va_P X.2.1 vwCl (il_w X cJ o σ f) H1 := il_P hP2 (by rw [hk1 o hol hoA]; exact hoc)
    refine vx_catch (own := RL) (name := io_E) hown [] ⟨0, 10, 13, 13⟩ [] (by rw [htab]; rfl) (fun z hz => by simp at hz) (by decide) (by decide) (hg _ il_k13) (va_Nw.use rfl (hZ.2.2.2.2 _ (by simp [io_B]))) hce hcv hcl ?_
    refine lv_astore (lv' := [(4, .ref q9), (0, .ref (X.2.2.1 0)), (1, .int pk), (2, .int w), (3, .ref o)]) hx hb dL_of_13 hl (by decide) rfl (fun ls hl => ?_)
    refine lv_iconst (v := 1) hx hb dL_of_15 (by decide) ?_
    exact W.iret hx hb hr (fun t2 ht2 hW2 => ⟨⟨1, f, rfl, ⟨fun h => (by rw [hno] at h; cases h), fun _ => rfl⟩, by rw [ht2]; exact hP3, va_K.moved hW2.alike hK, hD⟩, hS1.F ht2⟩) hS1.2.2 dL_of_16 B.notSynchronized
  · intro r u t H1 locs1 ht hal hq hBB hz1 hk1 hS1
    obtain ⟨hok, rfl, rfl⟩ := hq
    obtain ⟨hP2, hK2, hD2⟩ := hBB
    rw [ht] at hP2
    have hP3 : va_P X.2.1 vwCl (il_w X cJ o u f) H1 := il_P hP2 (by rw [hk1 o hol hoA]; exact hoc)
    refine lv_i2l hx hb dL_of_8 rfl ?_
    refine va_last hx hb hK hP3 hD hS1 57 2 il_get rfl (z_in0 (by decide) (by decide)) dL_of_9 (fun H2 locs2 hP4 hD4 hS4 => ?_)
    rw [il_set] at hP4 hD4
    refine lv_goto (tgt := 17) hx hb dL_of_10 rfl ?_
    refine lv_iconst (v := 0) hx hb dL_of_17 (by decide) ?_
    exact W.iret hx hb hr (fun t2 ht2 hW2 => ⟨⟨0, _, rfl, ⟨fun _ => ⟨rfl, by rw [ie_cl0]; simp [vp_updL]⟩, fun h => (by rw [hok] at h; cases h)⟩, by rw [ht2]; exact hP4, va_K.moved hW2.alike hK, hD4⟩, hS4.F ht2⟩) hS4.2.2 dL_of_18 B.notSynchronized
