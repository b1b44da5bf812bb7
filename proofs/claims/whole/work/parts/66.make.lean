/-! MAKING: the objects are made one behind another, each in the next cell; n cells are made, ρ says which reference fields are set -/
def ic_flds (a : Nat → Nat) (f : Nat → Int32) (r : Nat → Bool) : List (Option Nat) → Nat → List Value
  | [], _ => []
  | some q :: t, j => (if r j then .ref (a q) else .null) :: ic_flds a f r t (j + 1)
  | none :: t, j => .int (f j) :: ic_flds a f r t (j + 1)
def ic_fv (a : Nat → Nat) (f : Nat → Int32) (r : Nat → Bool) (j : Nat) (o : Option Nat) : Value := match o with
  | some q => if r j then .ref (a q) else .null
  | none => .int (f j)
theorem ic_flds_get (a : Nat → Nat) (f : Nat → Int32) (r : Nat → Bool) : ∀ (fs : List (Option Nat)) (j i : Nat), (ic_flds a f r fs j)[i]? = (fs[i]?).map (ic_fv a f r (j + i))
  | [], j, i => by simp [ic_flds]
  | some q :: t, j, 0 => by simp [ic_flds, ic_fv]
  | none :: t, j, 0 => by simp [ic_flds, ic_fv]
  | some q :: t, j, i + 1 => by
    simp only [ic_flds, List.getElem?_cons_succ, ic_flds_get a f r t (j + 1) i]
    rw [show j + 1 + i = j + (i + 1) by omega]
  | none :: t, j, i + 1 => by
    simp only [ic_flds, List.getElem?_cons_succ, ic_flds_get a f r t (j + 1) i]
    rw [show j + 1 + i = j + (i + 1) by omega]
theorem ic_flds_len (a : Nat → Nat) (f : Nat → Int32) (r : Nat → Bool) : ∀ (fs : List (Option Nat)) (j : Nat), (ic_flds a f r fs j).length = fs.length
  | [], j => rfl
  | some q :: t, j => by simp [ic_flds, ic_flds_len a f r t (j + 1)]
  | none :: t, j => by simp [ic_flds, ic_flds_len a f r t (j + 1)]
theorem ic_flds_set (a : Nat → Nat) (f : Nat → Int32) (r : Nat → Bool) (fs : List (Option Nat)) (i q : Nat) (h : fs[i]? = some (some q)) : (ic_flds a f r fs 0).set i (.ref (a q)) = ic_flds a f (fun j => r j || decide (j = i)) fs 0 := by
  apply List.ext_getElem?
  intro t
  have hl : i < fs.length := (List.getElem?_eq_some_iff.mp h).1
  by_cases ht : i = t
  · subst ht
    rw [List.getElem?_set_self (by rw [ic_flds_len]; exact hl), ic_flds_get, h]
    simp [ic_fv]
  · rw [List.getElem?_set_ne ht, ic_flds_get, ic_flds_get]
    cases fs[t]? with
    | none => rfl
    | some o =>
      cases o with
      | none => simp [ic_fv]
      | some q => simp [ic_fv, Ne.symm ht]
theorem ic_flds_all (a : Nat → Nat) (f : Nat → Int32) (r : Nat → Bool) (fs : List (Option Nat)) (h : ∀ i q, fs[i]? = some (some q) → r i = true) : ic_flds a f r fs 0 = iv_flds a f fs 0 := by
  apply List.ext_getElem?
  intro t
  rw [ic_flds_get, iv_flds_get]
  cases hf : fs[t]? with
  | none => rfl
  | some o =>
    cases o with
    | none => simp [ic_fv, iv_fv]
    | some q => simp [ic_fv, iv_fv, h t q hf]
abbrev ic_R : Type := Nat → Nat → Bool
def ic_r (ρ : ic_R) (k j : Nat) : ic_R := fun q => if q = k then (fun i => ρ k i || decide (i = j)) else ρ q
def ic_en (X : iv_X) (σ : iv_S) (ρ : ic_R) (k : Nat) : va_E := match iv_lay k with
  | .inl (z, n) => .inl (if z then X.2.2.2.2 else X.2.2.2.1, n, .inl (σ k))
  | .inr (ci, fs) => .inr (ci, ic_flds X.2.2.1 (σ k) (ρ k) fs 0)
def ic_w (X : iv_X) (σ : iv_S) (ρ : ic_R) (n : Nat) : va_W := (List.range n).map fun k => (X.2.2.1 k, ic_en X σ ρ k)
theorem ic_w_get {X : iv_X} {σ : iv_S} {ρ : ic_R} {n k : Nat} (h : k < n) : (ic_w X σ ρ n)[k]? = some (X.2.2.1 k, ic_en X σ ρ k) := by
  simp [ic_w, List.getElem?_map, List.getElem?_range h]
theorem ic_w_len {X : iv_X} {σ : iv_S} {ρ : ic_R} {n : Nat} : (ic_w X σ ρ n).length = n := by simp [ic_w]
theorem ic_w_succ {X : iv_X} {σ : iv_S} {ρ : ic_R} {n : Nat} : ic_w X σ ρ (n + 1) = ic_w X σ ρ n ++ [(X.2.2.1 n, ic_en X σ ρ n)] := by
  simp [ic_w, List.range_succ]
theorem ic_w_set {X : iv_X} {σ σ' : iv_S} {ρ ρ' : ic_R} {n k : Nat} {e : va_E} (h : k < n) (he : e = ic_en X σ' ρ' k) (ho : ∀ q, q ≠ k → σ' q = σ q ∧ ρ' q = ρ q) : (ic_w X σ ρ n).set k (X.2.2.1 k, e) = ic_w X σ' ρ' n := by
  apply List.ext_getElem?
  intro t
  by_cases ht : k = t
  · subst ht
    rw [List.getElem?_set_self (by rw [ic_w_len]; exact h), ic_w_get h, he]
  · rw [List.getElem?_set_ne ht]
    by_cases h5 : t < n
    · rw [ic_w_get h5, ic_w_get h5]
      obtain ⟨a, b⟩ := ho t (Ne.symm ht)
      unfold ic_en
      rw [a, b]
    · rw [List.getElem?_eq_none (by rw [ic_w_len]; omega), List.getElem?_eq_none (by rw [ic_w_len]; omega)]
def ic_N : List Cond := [.methodLinkNest RX6 18 yX0_init RX6, .methodLinkNest RX6 25 yX3_init RX6, .methodLinkNest RX6 32 yX1_init RX6, .methodLinkNest RX6 39 yX5_init RX6, .methodLinkNest RX6 46 yX2_init RX6]
def ic_Wo (X : iv_X) (n : Nat) (ρ : ic_R) (σ : iv_S) (A : Nat → Prop) (s : State) (H : Heap) (locs : List Loc) : Prop :=
  va_K X.2.1 vwCl (iv_T X.2.2.2.1 X.2.2.2.2) s ∧ va_P X.2.1 vwCl (ic_w X σ ρ n) H ∧ va_D A (ic_w X σ ρ n) ∧ va_S A s.heap H locs ∧ ∀ w ∈ ic_N, va_Nw w s
def ic_A (X : iv_X) (base n : Nat) (ρ : ic_R) (σ : iv_S) : Nat → Prop := va_A (ic_w X σ ρ n) (base + n)
def ic_Pc (X : iv_X) (base : Nat) (av : List iv_V) (n : Nat) (ρ : ic_R) (σ : iv_S) : Array Value → State → Prop := va_Pc (av.map (iv_e X.2.2.1)) (fun U => U.heap.size = base + n ∧ va_P X.2.1 vwCl (ic_w X σ ρ n) U.heap ∧ va_K X.2.1 vwCl (iv_T X.2.2.2.1 X.2.2.2.2) U ∧ va_D (fun _ => True) (ic_w X σ ρ n) ∧ ∀ w ∈ ic_N, va_Nw w U)
def ic_Qc (X : iv_X) (base n : Nat) (ρ : ic_R) (σ : iv_S) (n' : Nat) (ρ' : ic_R) (σ' : iv_S) : Array Value → State → Outcome → State → Prop := fun _ st oc t =>
  (oc = .returned none ∧ va_P X.2.1 vwCl (ic_w X σ' ρ' n') t.heap ∧ va_K X.2.1 vwCl (iv_T X.2.2.2.1 X.2.2.2.2) t ∧ va_D (ic_A X base n ρ σ) (ic_w X σ' ρ' n')) ∧ va_F (ic_A X base n ρ σ) st t
def ic_rm (d mc ms : Nat) : Room := { frames := d, cells := mc, slots := ms, locals := 40 * d }
def ic_Ct (X : iv_X) (base : Nat) (y : iv_M) (d : Nat) (av : List iv_V) (n : Nat) (ρ : ic_R) (σ : iv_S) (n' : Nat) (ρ' : ic_R) (σ' : iv_S) (mc ms : Nat) : Prop :=
  Met X.1 y.1 (.code y.1 y.2.1 y.2.2.1 y.2.2.2 :: iv_g) (ic_rm d mc ms) (ic_Pc X base av n ρ σ) (ic_Qc X base n ρ σ n' ρ' σ') mc ms (ic_A X base n ρ σ)
section ICW
variable {p : Program} {e : Env} {R : Room} {s : State} {m : MethodId} {args : Array Value} {below : List Frame} {meth : Method} {c : Code} {X : iv_X} {A : Nat → Prop} {Q : State → Prop} {cells slots base n : Nat} {ρ : ic_R} {σ : iv_S} {H : Heap} {locs : List Loc} {cc : ByteArray} {cw : Cond} {own : String} {pc : Nat} {ls : Array Slot} {rest : List Value}
theorem ic_sz {g : JFrame} (hcnt : s.heap.size + cells = base + n) (h0 : 0 < n ∨ cells = 0) (ha : ∀ k, k < 57 → X.2.2.1 k = base + k) (hn : n ≤ 57) (hw : ic_Wo X n ρ σ A s H locs) (kk : H.size = base + n → W p X.1 e R s m args below meth c H locs cells slots Q g) : W p X.1 e R s m args below meth c H locs cells slots Q g := by
  intro T hT Y
  have h1 : T.heap.size ≤ s.heap.size + cells := Y.same.2.2.1
  rw [hT] at h1
  have h2 : base + n ≤ H.size := by
    rcases h0 with h0 | h0
    · have h3 := (hw.2.1 (n - 1) _ (ic_w_get (by omega))).lt
      dsimp only at h3
      rw [ha (n - 1) (by omega)] at h3
      omega
    · have := hw.2.2.2.1.1
      omega
  exact kk (by omega) T hT Y
theorem ic_newarr (hx : p.tables.exec = Jvm.exec) (hb : c.code = cc) (hts : ∀ w ∈ cw :: iv_g, w.before args s = true) (hA : ∀ q, s.heap.size ≤ q → A q) {atype : ArrayType} {z : Bool} {N : Nat} (hz : newarray.typeOf atype = if z then .boolean else .int) (harr : Cond.arrayClass (newarray.typeOf atype) ∈ iv_g) (hlay : iv_lay n = .inl (z, N)) (hN : N < 4000)
    (hσ : σ n = fun _ => 0) (hcnt : s.heap.size + cells = base + n) (h0 : 0 < n ∨ cells = 0) (ha : ∀ k, k < 57 → X.2.2.1 k = base + k) (hn : n < 57) (hw : ic_Wo X n ρ σ A s H locs) (hcells : cells + 1 ≤ R.cells) (hslots : slots + N ≤ R.slots) {len : Int32} (hlen : len = nI N) (hd : decode cc pc = .ok (.newarray atype, 2))
    (kk : ∀ H1, ic_Wo X (n + 1) ρ σ A s H1 locs → W p X.1 e R s m args below meth c H1 locs (cells + 1) (slots + N) Q (F0 m (pc + 2) ls (.ref (X.2.2.1 n) :: rest))) : W p X.1 e R s m args below meth c H locs cells slots Q (F0 m pc ls (.int len :: rest)) := by
  subst hlen
  refine ic_sz hcnt h0 ha (by omega) hw (fun hsz => ?_)
  obtain ⟨hK, hP, hD, hS, hNn⟩ := hw
  refine va_newaK hx hb (hts _ (List.mem_cons_of_mem _ harr)) rfl hd rfl (nI_pos (by omega)) (nI_clamp (by omega)) (by cases z <;> simp [hz, componentBytes] <;> omega) hcells hslots hsz (fun H1 cA e1 z1 o1 hAr hNm => ?_)
  have hcA : cA = if z then X.2.2.2.2 else X.2.2.2.1 := by
    rw [hz] at hNm
    cases z with
    | false => exact Option.some.inj (hNm.symm.trans (hK.2 0 (X.2.2.2.1, .int) rfl).2)
    | true => exact Option.some.inj (hNm.symm.trans (hK.2 1 (X.2.2.2.2, .boolean) rfl).2)
  rw [← ha n hn] at e1 z1 o1 ⊢
  have han : X.2.2.1 n = H.size := by rw [ha n hn, hsz]
  refine kk H1 ⟨hK, ?_, ?_, ?_, hNn⟩
  · rw [ic_w_succ]
    refine (hP.kept (fun k q hq => o1 q.1 (by have := (hP k q hq).lt; omega))).app (fun k q hq => ?_)
    have hk : k = 0 := by
      have := (List.getElem?_eq_some_iff.mp hq).1
      simp at this
      omega
    subst hk
    cases hq
    unfold ic_en
    rw [hlay]
    show H1[X.2.2.1 n]? = some (vp_cell _ (N, .inl (σ n)))
    rw [e1, hσ, hcA, hz]
    cases z <;> rfl
  · rw [ic_w_succ]
    exact hD.push hP han (hA _ (by rw [han]; exact hS.1))
  · refine ⟨by have := hS.1; omega, fun q h1 h2 => ?_, hS.2.2⟩
    rw [o1 q (by have := hS.1; omega)]
    exact hS.2.1 q h1 h2
theorem ic_new (hx : p.tables.exec = Jvm.exec) (hb : c.code = cc) (hts : ∀ w ∈ cw :: iv_g, w.before args s = true) (hA : ∀ q, s.heap.size ≤ q → A q) (hown : s.vm.findClass own = some m.cls) {ci N index : Nat} {C : String} {T : u_T} {fs : List (Option Nat)} (hlay : iv_lay n = .inr (ci, fs)) (hc : vwCl[ci]? = some (C, T, N)) (hlink : Cond.classLink own index C ∈ iv_g) (hinst : Cond.instantiable C N ∈ iv_g) (hini : Cond.initialized C ∈ iv_g)
    (ty : Nat → FieldType) (hty : ∀ k, k < N → parseFieldDescriptor (T k).2.2.1 = some (ty k)) (hin : ∀ w ∈ u_ws C T N, w ∈ iv_g) (hfs : ∀ j, j < N → defaultValue (ty j) = vp_V (ic_flds X.2.2.1 (fun _ => 0) (fun _ => false) fs 0) j)
    (hσ : σ n = fun _ => 0) (hρ : ρ n = fun _ => false) (hcnt : s.heap.size + cells = base + n) (h0 : 0 < n ∨ cells = 0) (ha : ∀ k, k < 57 → X.2.2.1 k = base + k) (hn : n < 57) (hw : ic_Wo X n ρ σ A s H locs) (hcells : cells + 1 ≤ R.cells) (hslots : slots + N ≤ R.slots) (hd : decode cc pc = .ok (.new index, 3))
    (kk : ∀ H1, ic_Wo X (n + 1) ρ σ A s H1 locs → W p X.1 e R s m args below meth c H1 locs (cells + 1) (slots + N) Q (F0 m (pc + 3) ls (.ref (X.2.2.1 n) :: rest))) : W p X.1 e R s m args below meth c H locs cells slots Q (F0 m pc ls rest) := by
  refine ic_sz hcnt h0 ha (by omega) hw (fun hsz => ?_)
  obtain ⟨hK, hP, hD, hS, hNn⟩ := hw
  have hg := fun w h => hts w (List.mem_cons_of_mem _ h)
  have hKn := hK.1 ci _ hc
  refine W.newcK hx hb hown (hg _ hlink) (hg _ hinst) (hg _ hini) rfl hd hcells hslots hKn.2.1 hsz (fun H1 kC hkC e1 z1 o1 => ?_)
  rw [← ha n hn] at e1 z1 o1 ⊢
  have han : X.2.2.1 n = H.size := by rw [ha n hn, hsz]
  refine kk H1 ⟨hK, ?_, ?_, ?_, hNn⟩
  · rw [ic_w_succ]
    refine (hP.kept (fun k q hq => o1 q.1 (by have := (hP k q hq).lt; omega))).app (fun k q hq => ?_)
    have hk : k = 0 := by
      have := (List.getElem?_eq_some_iff.mp hq).1
      simp at this
      omega
    subst hk
    cases hq
    unfold ic_en
    rw [hlay, hσ, hρ]
    exact ⟨_, hc, (u_born ty hg hin hKn hkC e1 hty).to hfs⟩
  · rw [ic_w_succ]
    exact hD.push hP han (hA _ (by rw [han]; exact hS.1))
  · refine ⟨by have := hS.1; omega, fun q h1 h2 => ?_, hS.2.2⟩
    rw [o1 q (by have := hS.1; omega)]
    exact hS.2.1 q h1 h2
theorem ic_put (hx : p.tables.exec = Jvm.exec) (hb : c.code = cc) (hts : ∀ w ∈ cw :: iv_g, w.before args s = true) (hown : s.vm.findClass own = some m.cls) {ci N index q j v : Nat} {C ref : String} {T : u_T} {fs : List (Option Nat)} (hq : q < n) (hlay : iv_lay q = .inr (ci, fs)) (hf : fs[j]? = some (some v)) (hc : vwCl[ci]? = some (C, T, N)) (hj : j < N) (hlink : Cond.fieldLink own index ref (T j).2.1 (T j).2.2.1 ∈ iv_g) (href : (T j).1 = ref)
    (ty : Nat → FieldType) (hty : ∀ k, k < N → parseFieldDescriptor (T k).2.2.1 = some (ty k)) (hnm : ∀ a, a < N → ∀ b, b < N → a ≠ b → (T a).2.1 ≠ (T b).2.1) (hin : ∀ w ∈ u_ws C T N, w ∈ iv_g) (hfin : (T j).2.2.2 = true) (hin2 : meth.name = "<init>") (hdecl : (T j).1 = own) (hnr : narrow (ty j) (.ref (X.2.2.1 v)) = .ref (X.2.2.1 v)) (hfit : fits (ty j) (.ref (X.2.2.1 v)) = true)
    (hw : ic_Wo X n ρ σ A s H locs) (hd : decode cc pc = .ok (.putfield index, 3))
    (kk : ∀ H1 locs1, ic_Wo X n (ic_r ρ q j) σ A s H1 locs1 → W p X.1 e R s m args below meth c H1 locs1 cells slots Q (F0 m (pc + 3) ls rest)) : W p X.1 e R s m args below meth c H locs cells slots Q (F0 m pc ls (.ref (X.2.2.1 v) :: .ref (X.2.2.1 q) :: rest)) := by
  obtain ⟨hK, hP, hD, hS, hNn⟩ := hw
  have hg := fun w h => hts w (List.mem_cons_of_mem _ h)
  have hent : (ic_w X σ ρ n)[q]? = some (X.2.2.1 q, .inr (ci, ic_flds X.2.2.1 (σ q) (ρ q) fs 0)) := by
    rw [ic_w_get hq]
    unfold ic_en
    rw [hlay]
  have hset : (ic_w X σ ρ n).set q (X.2.2.1 q, .inr (ci, (ic_flds X.2.2.1 (σ q) (ρ q) fs 0).set j (.ref (X.2.2.1 v)))) = ic_w X σ (ic_r ρ q j) n := by
    refine ic_w_set hq ?_ (fun t ht => ⟨rfl, by simp [ic_r, ht]⟩)
    unfold ic_en
    rw [hlay, ic_flds_set _ _ _ _ _ _ hf]
    simp [ic_r]
  refine va_putF (v := .ref (X.2.2.1 v)) (ty := ty j) hx hb hg hin ty hty hnm hown hK hP hD hS q hent hc j hj (hg _ hlink) (fun x h => by rw [← href]; exact h) hfin hin2 hdecl (hty j hj) hnr hfit (by rw [ic_flds_len]; exact (List.getElem?_eq_some_iff.mp hf).1) hd (fun H1 locs1 hP1 hD1 hS1 => ?_)
  rw [hset] at hP1 hD1
  exact kk H1 locs1 ⟨hK, hP1, hD1, hS1, hNn⟩
theorem ic_get (hx : p.tables.exec = Jvm.exec) (hb : c.code = cc) (hts : ∀ w ∈ cw :: iv_g, w.before args s = true) (hown : s.vm.findClass own = some m.cls) {ci N index q j v : Nat} {C ref : String} {T : u_T} {fs : List (Option Nat)} (hq : q < n) (hlay : iv_lay q = .inr (ci, fs)) (hf : fs[j]? = some (some v)) (hr : ρ q j = true) (hc : vwCl[ci]? = some (C, T, N)) (hj : j < N) (hlink : Cond.fieldLink own index ref (T j).2.1 (T j).2.2.1 ∈ iv_g) (href : (T j).1 = ref) (hin : ∀ w ∈ u_ws C T N, w ∈ iv_g)
    (hw : ic_Wo X n ρ σ A s H locs) (hd : decode cc pc = .ok (.getfield index, 3))
    (kk : W p X.1 e R s m args below meth c H locs cells slots Q (F0 m (pc + 3) ls (.ref (X.2.2.1 v) :: rest))) : W p X.1 e R s m args below meth c H locs cells slots Q (F0 m pc ls (.ref (X.2.2.1 q) :: rest)) := by
  obtain ⟨hK, hP, hD, hS, hNn⟩ := hw
  have hg := fun w h => hts w (List.mem_cons_of_mem _ h)
  have hent : (ic_w X σ ρ n)[q]? = some (X.2.2.1 q, .inr (ci, ic_flds X.2.2.1 (σ q) (ρ q) fs 0)) := by
    rw [ic_w_get hq]
    unfold ic_en
    rw [hlay]
  refine va_get (v := .ref (X.2.2.1 v)) hx hb hg hin hown hK hP q hent hc j hj (hg _ hlink) (fun x h => by rw [← href]; exact h) ?_ hd kk
  rw [ic_flds_get, hf]
  simp [ic_fv, hr]
theorem ic_iast (hx : p.tables.exec = Jvm.exec) (hb : c.code = cc) {q N : Nat} (hq : q < n) (hlay : iv_lay q = .inl (false, N)) {i x : Int32} (hi : vp_in i N) (hw : ic_Wo X n ρ σ A s H locs) (hd : decode cc pc = .ok (.iastore, 1))
    (kk : ∀ H1 locs1, ic_Wo X n ρ (iv_u σ q i.toNatClampNeg x) A s H1 locs1 → W p X.1 e R s m args below meth c H1 locs1 cells slots Q (F0 m (pc + 1) ls rest)) : W p X.1 e R s m args below meth c H locs cells slots Q (F0 m pc ls (.int x :: .int i :: .ref (X.2.2.1 q) :: rest)) := by
  obtain ⟨hK, hP, hD, hS, hNn⟩ := hw
  have hent : (ic_w X σ ρ n)[q]? = some (X.2.2.1 q, .inl (X.2.2.2.1, N, .inl (σ q))) := by
    rw [ic_w_get hq]
    unfold ic_en
    rw [hlay]
    rfl
  have hset : (ic_w X σ ρ n).set q (X.2.2.1 q, .inl (X.2.2.2.1, N, .inl (upd (σ q) i.toNatClampNeg x))) = ic_w X (iv_u σ q i.toNatClampNeg x) ρ n := by
    refine ic_w_set hq ?_ (fun t ht => ⟨iv_u_ne ht, rfl⟩)
    unfold ic_en
    rw [hlay, iv_u_eq]
    rfl
  refine va_iast hx hb hK hP hD hS q 0 hent rfl hi hd (fun H1 locs1 hP1 hD1 hS1 => ?_)
  rw [hset] at hP1 hD1
  exact kk H1 locs1 ⟨hK, hP1, hD1, hS1, hNn⟩
theorem ic_blind (av : List iv_V) : FrameBlind (ic_Pc X base av n ρ σ) := by
  intro a U g mk q
  obtain ⟨q0, q1, qP, qK, qD, qN⟩ := q
  exact ⟨q0, q1, qP, va_K.moved (u := U) (U := U.calling g mk a) (Vm.Alike.refl U.vm) qK, qD, fun w hw => va_Nw.same (by
    simp only [ic_N, List.mem_cons, List.not_mem_nil, or_false] at hw
    rcases hw with rfl | rfl | rfl | rfl | rfl <;> rfl) (u := U) rfl (qN w hw)⟩
theorem ic_preU (hsz : H.size = base + n) (hw : ic_Wo X n ρ σ A s H locs) (av : List iv_V) : ∀ U : State, U.heap = H → s.WarmedH U.vm → ic_Pc X base av n ρ σ (av.map (iv_e X.2.2.1)).toArray U := by
  intro U hU hW
  obtain ⟨hK, hP, hD, hS, hN⟩ := hw
  refine ⟨rfl, by rw [hU]; exact hsz, by rw [hU]; exact hP, va_K.moved hW.alike hK, hD.weaken (fun _ _ _ _ => trivial), fun w hw => ?_⟩
  have h := hN w hw
  simp only [ic_N, List.mem_cons, List.not_mem_nil, or_false] at hw
  rcases hw with rfl | rfl | rfl | rfl | rfl <;> exact va_Nw.warmM hW h
theorem ic_callr {st0 : List Value} {a : Array Value} {n' mc ms : Nat} {ρ' : ic_R} {σ' : iv_S} (hr : va_Run p X.1 e R s m args below meth c H locs cells slots mc ms (F0 m pc ls st0) rest (ic_Qc X base n ρ σ n' ρ' σ' a) (ic_A X base n ρ σ)) (hsz : H.size = base + n) (hw : ic_Wo X n ρ σ A s H locs) (hA : ∀ q, s.heap.size ≤ q → A q)
    (kk : ∀ H1 locs1, ic_Wo X n' ρ' σ' A s H1 locs1 → W p X.1 e R s m args below meth c H1 locs1 (cells + mc) (slots + ms) Q (F0 m (pc + 3) ls rest)) : W p X.1 e R s m args below meth c H locs cells slots Q (F0 m pc ls st0) := by
  intro T hT Y
  have hF : ∀ q, ic_A X base n ρ σ q → A q := by
    intro q h
    rcases h with ⟨k, e, h⟩ | h
    · exact hw.2.2.1.2 k (q, e) h
    · exact hA q (by have := hw.2.2.2.1.1; omega)
  obtain ⟨v, st₀, t, T', L, h0, X', hL, e1, e2, ⟨⟨hv, hb1, hb2, hb3⟩, hz, hk⟩, st⟩ := hr T hT Y
  cases hv
  rw [h0] at hz hk
  obtain ⟨hK, hP, hD, hS, hN⟩ := hw
  have hS' : va_S A s.heap T'.heap (locs ++ L) := ⟨Nat.le_trans hS.1 (by rw [e1]; exact hz), fun q h1 h2 => by rw [e1, hk q (Nat.lt_of_lt_of_le h1 hS.1) (fun z => h2 (hF q z))]; exact hS.2.1 q h1 h2, fun q hq => by
      rcases List.mem_append.mp hq with h | h
      · exact hS.2.2 q h
      · exact hF _ (hL q h)⟩
  obtain ⟨t2, a1, b1⟩ := kk T'.heap (locs ++ L) ⟨hK, by rw [e1]; exact hb1, hb3.weaken (fun k q _ h => hF q.1 h), hS', hN⟩ T' rfl X'
  exact ⟨t2, st t2 a1, b1⟩
theorem ic_ctor {nL d k n' mc ms index : Nat} {y : iv_M} {av : List iv_V} {ρ' : ic_R} {σ' : iv_S} {st0 : List Value} (hx : p.tables.exec = Jvm.exec) (hb : c.code = cc) (hml : c.maxLocals = nL) (hown : s.vm.findClass own = some m.cls) (hts : ∀ w ∈ cw :: iv_g, w.before args s = true) (hA : ∀ q, s.heap.size ≤ q → A q)
    (hC : ic_Ct X base y d (.inl k :: av) n ρ σ n' ρ' σ' mc ms) (hret : y.2.2.2 = none) (hyn : y.1.name = "<init>") (hcode : Cond.code y.1 y.2.1 y.2.2.1 y.2.2.2 ∈ iv_g) (hini : Cond.initialized y.1.cls ∈ iv_g) (hlink : Cond.methodLink own index y.1 ∈ iv_g ∨ Cond.methodLinkNest own index y.1 RX6 ∈ ic_N) (hinst : Cond.instanceMethod y.1 ∈ iv_g)
    (hdd : y.1.cls ≠ "java/lang/invoke/MethodHandle" ∧ y.1.cls ≠ "java/lang/invoke/VarHandle" ∧ (parseMethodDescriptor y.1.desc).map (fun d => d.parameters.length) = some av.length) (hR : d + 1 ≤ R.frames ∧ 8 + (y.2.2.1 + 11) + 40 * d ≤ R.locals) (hRc : cells + mc ≤ R.cells ∧ slots + ms ≤ R.slots)
    (hsize : ls.size = nL) (h8 : (rest.map fun v => v.category).sum ≤ 8) (hst : st0 = (av.map (iv_e X.2.2.1)).reverse ++ .ref (X.2.2.1 k) :: rest) (hcnt : s.heap.size + cells = base + n) (h0 : 0 < n ∨ cells = 0) (ha : ∀ k, k < 57 → X.2.2.1 k = base + k) (hn : n ≤ 57) (hw : ic_Wo X n ρ σ A s H locs) (hd : decode cc pc = .ok (.invokespecial index, 3))
    (kk : ∀ H1 locs1, ic_Wo X n' ρ' σ' A s H1 locs1 → W p X.1 e R s m args below meth c H1 locs1 (cells + mc) (slots + ms) Q (F0 m (pc + 3) ls rest)) : W p X.1 e R s m args below meth c H locs cells slots Q (F0 m pc ls st0) := by
  subst hst
  refine ic_sz hcnt h0 ha hn hw (fun hsz => ?_)
  have hg := fun w h => hts w (List.mem_cons_of_mem _ h)
  obtain ⟨y1, y2, y3, y4⟩ := y
  dsimp only at hret hyn hcode hini hlink hinst hdd hR
  subst hret
  have hG : GoodIn (cw :: iv_g) (.code y1 y2 y3 none :: iv_g) := iv_goodIn (ym := (y1, y2, y3, none)) hcode
  rcases hlink with hlink | hlink
  · exact ic_callr (va_runI (Ts := cw :: iv_g) (nL := nL) (As := av.map (iv_e X.2.2.1)) (rest := rest) (b := X.2.2.1 k) ⟨hx, hb, hml, hown, hts⟩ hC (cwI (maxL := y3) (bytes := y2) (ws' := iv_g) av.length hts hG rfl rfl rfl (hg _ hini) (hg _ hlink) (hg _ hinst) hyn hdd hR) ⟨ic_blind _, ic_preU hsz hw (.inl k :: av)⟩ rfl (by simp) hsize rfl (lv_room h8) hd hRc) hsz hw hA kk
  · exact ic_callr (va_runIN (Ts := cw :: iv_g) (nL := nL) (As := av.map (iv_e X.2.2.1)) (rest := rest) (b := X.2.2.1 k) ⟨hx, hb, hml, hown, hts⟩ hC ⟨va_cnB (host := RX6) (maxL := y3) (ret := none) (bytes := y2) (ws' := iv_g) av.length hts hG rfl rfl rfl (hw.2.2.2.2 _ hlink) (hg _ hini) hdd hR, hyn, hg _ hinst⟩ ⟨ic_blind _, ic_preU hsz hw (.inl k :: av)⟩ rfl (by simp) hsize rfl (lv_room h8) hd hRc) hsz hw hA kk
theorem ic_stat {nL d n' mc ms index : Nat} {y : iv_M} {av : List iv_V} {ρ' : ic_R} {σ' : iv_S} {st0 : List Value} (hx : p.tables.exec = Jvm.exec) (hb : c.code = cc) (hml : c.maxLocals = nL) (hown : s.vm.findClass own = some m.cls) (hts : ∀ w ∈ cw :: iv_g, w.before args s = true) (hA : ∀ q, s.heap.size ≤ q → A q)
    (hC : ic_Ct X base y d av n ρ σ n' ρ' σ' mc ms) (hret : y.2.2.2 = none) (hcode : Cond.code y.1 y.2.1 y.2.2.1 y.2.2.2 ∈ iv_g) (hini : Cond.initialized y.1.cls ∈ iv_g) (hlink : Cond.methodLink own index y.1 ∈ iv_g) (hinst : Cond.static y.1 ∈ iv_g)
    (hdd : y.1.cls ≠ "java/lang/invoke/MethodHandle" ∧ y.1.cls ≠ "java/lang/invoke/VarHandle" ∧ (parseMethodDescriptor y.1.desc).map (fun d => d.parameters.length) = some av.length) (hR : d + 1 ≤ R.frames ∧ 8 + (y.2.2.1 + 11) + 40 * d ≤ R.locals) (hRc : cells + mc ≤ R.cells ∧ slots + ms ≤ R.slots)
    (hsize : ls.size = nL) (h8 : (rest.map fun v => v.category).sum ≤ 8) (hst : st0 = (av.map (iv_e X.2.2.1)).reverse ++ rest) (hcnt : s.heap.size + cells = base + n) (h0 : 0 < n ∨ cells = 0) (ha : ∀ k, k < 57 → X.2.2.1 k = base + k) (hn : n ≤ 57) (hw : ic_Wo X n ρ σ A s H locs) (hd : decode cc pc = .ok (.invokestatic index, 3))
    (kk : ∀ H1 locs1, ic_Wo X n' ρ' σ' A s H1 locs1 → W p X.1 e R s m args below meth c H1 locs1 (cells + mc) (slots + ms) Q (F0 m (pc + 3) ls rest)) : W p X.1 e R s m args below meth c H locs cells slots Q (F0 m pc ls st0) := by
  subst hst
  refine ic_sz hcnt h0 ha hn hw (fun hsz => ?_)
  have hg := fun w h => hts w (List.mem_cons_of_mem _ h)
  obtain ⟨y1, y2, y3, y4⟩ := y
  dsimp only at hret hcode hini hlink hinst hdd hR
  subst hret
  have hG : GoodIn (cw :: iv_g) (.code y1 y2 y3 none :: iv_g) := iv_goodIn (ym := (y1, y2, y3, none)) hcode
  exact ic_callr (va_runS (Ts := cw :: iv_g) (nL := nL) (As := av.map (iv_e X.2.2.1)) (rest := rest) ⟨hx, hb, hml, hown, hts⟩ hC ⟨callB_of (maxL := y3) (ret := none) (bytes := y2) (ws' := iv_g) av.length hts hG rfl rfl rfl (hg _ hini) (hg _ hlink) hdd hR, hg _ hinst⟩ ⟨ic_blind _, ic_preU hsz hw av⟩ rfl (by simp) hsize rfl (lv_room h8) hd hRc) hsz hw hA kk
end ICW
