/-! A METHOD'S STEPS as a predicate over the state: iv_st says what one instruction asks and gives; iv_Sf is its least fixed point. -/
abbrev iv_X : Type := Launch × va_G × (Nat → Nat) × ClassId × ClassId
abbrev iv_M : Type := MethodName × ByteArray × Nat × Option FieldType
abbrev iv_C : Type := Nat × Option Nat × Bool × iv_M
abbrev iv_B : Type := (Nat → Option (Nat × Nat)) × (Nat → Option Int32) × (Nat → Option iv_C)
abbrev iv_Ls : Type := List (Option iv_V)
def iv_g : List Cond := lw_tbl.filter goodWord
def iv_N : List Cond := [.methodLinkNest RX0 40 yX6_isWithin RX6, .methodLinkNest RX3 32 yX6_isWithin RX6, .methodLinkNest RX5 48 yX6_isWithin RX6]
def iv_T (cI cZ : ClassId) : List (ClassId × FieldType) := [(cI, .int), (cZ, .boolean)]
def iv_rm (d : Nat) : Room := { frames := d, cells := 0, slots := 0, locals := 40 * d }
def iv_Pc (X : iv_X) (av : List iv_V) (σ : iv_S) (sz : Nat) : Array Value → State → Prop := va_Pc (av.map (iv_e X.2.2.1)) (fun U => U.heap.size = sz ∧ va_P X.2.1 vwCl (iv_w X.2.2.1 X.2.2.2.1 X.2.2.2.2 σ) U.heap ∧ va_K X.2.1 vwCl (iv_T X.2.2.2.1 X.2.2.2.2) U ∧ va_D (fun _ => True) (iv_w X.2.2.1 X.2.2.2.1 X.2.2.2.2 σ) ∧ ∀ w ∈ iv_N, va_Nw w U)
def iv_A (X : iv_X) (σ : iv_S) (sz : Nat) : Nat → Prop := va_A (iv_w X.2.2.1 X.2.2.2.1 X.2.2.2.2 σ) sz
/-- what is given back: nothing, where the method is void -/
def iv_ov (ret : Option FieldType) (r : Int32) : Option Value := match ret with
  | none => none
  | some _ => some (.int r)
def iv_Qc (X : iv_X) (ret : Option FieldType) (σ : iv_S) (sz : Nat) (Q : Int32 → iv_S → Prop) : Array Value → State → Outcome → State → Prop := fun _ st oc t =>
  (∃ (r : Int32) (u : iv_S), oc = .returned (iv_ov ret r) ∧ Q r u ∧ (va_P X.2.1 vwCl (iv_w X.2.2.1 X.2.2.2.1 X.2.2.2.2 u) t.heap ∧ va_K X.2.1 vwCl (iv_T X.2.2.2.1 X.2.2.2.2) t ∧ va_D (iv_A X σ sz) (iv_w X.2.2.1 X.2.2.2.1 X.2.2.2.2 u))) ∧ va_F (iv_A X σ sz) st t
/-- a method's contract over the world -/
def iv_Ct (X : iv_X) (y : iv_M) (d : Nat) (av : List iv_V) (σ : iv_S) (Q : Int32 → iv_S → Prop) : Prop :=
  ∀ sz : Nat, Met X.1 y.1 (.code y.1 y.2.1 y.2.2.1 y.2.2.2 :: iv_g) (iv_rm d) (iv_Pc X av σ sz) (iv_Qc X y.2.2.2 σ sz Q) 0 0 (iv_A X σ sz)
def iv_o {α : Type} (o : Option α) (f : α → Prop) : Prop := match o with
  | some x => f x
  | none => False
def iv_p1 (st : List iv_V) (f : Int32 → List iv_V → Prop) : Prop := match st with
  | .inr x :: r => f x r
  | _ => False
def iv_p2 (st : List iv_V) (f : Int32 → Int32 → List iv_V → Prop) : Prop := match st with
  | .inr y :: .inr x :: r => f x y r
  | _ => False
def iv_pr (st : List iv_V) (f : Nat → List iv_V → Prop) : Prop := match st with
  | .inl k :: r => f k r
  | _ => False
def iv_pa (st : List iv_V) (f : Nat → Int32 → List iv_V → Prop) : Prop := match st with
  | .inr i :: .inl k :: r => f k i r
  | _ => False
def iv_ps (st : List iv_V) (f : Nat → Int32 → Int32 → List iv_V → Prop) : Prop := match st with
  | .inr x :: .inr i :: .inl k :: r => f k i x r
  | _ => False
def iv_d1 (st : List iv_V) (f : iv_V → List iv_V → Prop) : Prop := match st with
  | v :: r => f v r
  | _ => False
def iv_d2 (st : List iv_V) (f : iv_V → iv_V → List iv_V → Prop) : Prop := match st with
  | v :: w :: r => f v w r
  | _ => False
def iv_r1 (st : List iv_V) (f : Int32 → Prop) : Prop := match st with
  | [.inr x] => f x
  | _ => False
def iv_li (ls : iv_Ls) (i : Nat) (f : Int32 → Prop) : Prop := match ls[i]? with
  | some (some (.inr x)) => f x
  | _ => False
def iv_lr (ls : iv_Ls) (i : Nat) (f : Nat → Prop) : Prop := match ls[i]? with
  | some (some (.inl k)) => f k
  | _ => False
def iv_q (c : Prop) [Decidable c] (A : Prop) : Prop := if c then A else False
theorem iv_q_spec {c : Prop} [Decidable c] {A : Prop} (h : iv_q c A) : c ∧ A := by
  unfold iv_q at h
  split at h
  · next hc => exact ⟨hc, h⟩
  · exact h.elim
theorem iv_q_in {c : Prop} [Decidable c] {A : Prop} (hc : c) (h : A) : iv_q c A := by
  unfold iv_q
  rw [if_pos hc]
  exact h
def iv_j (pc : Nat) (off : Int) (f : Nat → Prop) : Prop := iv_q (0 ≤ (pc : Int) + off) (f ((pc : Int) + off).toNat)
def iv_br (c : Prop) (A B : Prop) : Prop := (c → A) ∧ (¬ c → B)
def iv_c1 (c : ClassFile.Cond) (x : Int32) : Prop := match c with
  | .eq => x = 0
  | .ne => ¬ x = 0
  | .lt => x < 0
  | .ge => 0 ≤ x
  | .gt => 0 < x
  | .le => x ≤ 0
def iv_c2 (c : ClassFile.Cond) (x y : Int32) : Prop := match c with
  | .eq => x = y
  | .ne => ¬ x = y
  | .lt => x < y
  | .ge => y ≤ x
  | .gt => y < x
  | .le => x ≤ y
def iv_sw (x : Int32) (pc : Nat) (f : Nat → Prop) : Int → List Int → Prop
  | _, [] => True
  | lo, o :: os => (x = Int32.ofInt lo → iv_j pc o f) ∧ iv_sw x pc f (lo + 1) os
def iv_push (vd : Bool) (r : Int32) (st : List iv_V) : List iv_V := match vd with
  | true => st
  | false => .inr r :: st
def iv_gv (σ : iv_S) (k : Nat) (z : Option Nat × Nat) : iv_V := match z.1 with
  | some q => .inl q
  | none => .inr (σ k z.2)
def iv_rk (ret : Option FieldType) (v : Int32) : Prop := match ret with
  | some .int => True
  | some .boolean => v = 0 ∨ v = 1
  | _ => False
/-- a call: n values from the stack; ck: what kind of receiver -/
def iv_call (X : iv_X) (d : Nat) (z : iv_C) (st : List iv_V) (σ : iv_S) (K : List iv_V → iv_S → Prop) : Prop :=
  z.1 ≤ st.length ∧ (st.drop z.1).length ≤ 8 ∧ ∃ Q : Int32 → iv_S → Prop, iv_Ct X z.2.2.2 d (st.take z.1).reverse σ Q ∧ ∀ r σ', Q r σ' → K (iv_push z.2.2.1 r (st.drop z.1)) σ'
def iv_rc (z : iv_C) (st : List iv_V) : Prop := match (st.take z.1).reverse with
  | .inl k :: _ => iv_cls k = z.2.1 ∧ z.2.1 ≠ none
  | _ => False
def iv_si (X : iv_X) (d : Nat) (y : iv_M) (b : iv_B) (Q : Int32 → iv_S → Prop) (k : Nat → iv_Ls → List iv_V → iv_S → Prop) (pc : Nat) (ls : iv_Ls) (st : List iv_V) (σ : iv_S) (i : Instr) (n : Nat) : Prop :=
  match i with
  | .iconst v => iv_q (n = 1) <| k (pc + 1) ls (.inr (Int32.ofInt v) :: st) σ
  | .bipush v => iv_q (n = 2) <| k (pc + 2) ls (.inr (Int8.ofInt v).toInt32 :: st) σ
  | .sipush v => iv_q (n = 3) <| k (pc + 3) ls (.inr (Int16.ofInt v).toInt32 :: st) σ
  | .ldc idx => iv_q (n = 2) <| iv_o (b.2.1 idx) fun v => k (pc + 2) ls (.inr v :: st) σ
  | .ldc_w idx => iv_q (n = 3) <| iv_o (b.2.1 idx) fun v => k (pc + 3) ls (.inr v :: st) σ
  | .iload_n j => iv_q (n = 1) <| iv_li ls j.val fun x => k (pc + 1) ls (.inr x :: st) σ
  | .iload j => iv_q (n = 2) <| iv_li ls j fun x => k (pc + 2) ls (.inr x :: st) σ
  | .aload_n j => iv_q (n = 1) <| iv_lr ls j.val fun q => k (pc + 1) ls (.inl q :: st) σ
  | .aload j => iv_q (n = 2) <| iv_lr ls j fun q => k (pc + 2) ls (.inl q :: st) σ
  | .istore_n j => iv_q (n = 1) <| iv_q (j.val < y.2.2.1) <| iv_p1 st fun x r => k (pc + 1) (ls.set j.val (some (.inr x))) r σ
  | .istore j => iv_q (n = 2) <| iv_q (j < y.2.2.1) <| iv_p1 st fun x r => k (pc + 2) (ls.set j (some (.inr x))) r σ
  | .iinc j v => iv_q (n = 3) <| iv_q (j < y.2.2.1) <| iv_li ls j fun x => k (pc + 3) (ls.set j (some (.inr (x + Int32.ofInt v)))) st σ
  | .iadd => iv_q (n = 1) <| iv_p2 st fun x y r => k (pc + 1) ls (.inr (x + y) :: r) σ
  | .isub => iv_q (n = 1) <| iv_p2 st fun x y r => k (pc + 1) ls (.inr (x - y) :: r) σ
  | .imul => iv_q (n = 1) <| iv_p2 st fun x y r => k (pc + 1) ls (.inr (x * y) :: r) σ
  | .iand => iv_q (n = 1) <| iv_p2 st fun x y r => k (pc + 1) ls (.inr (x &&& y) :: r) σ
  | .ior => iv_q (n = 1) <| iv_p2 st fun x y r => k (pc + 1) ls (.inr (x ||| y) :: r) σ
  | .ixor => iv_q (n = 1) <| iv_p2 st fun x y r => k (pc + 1) ls (.inr (x ^^^ y) :: r) σ
  | .irem => iv_q (n = 1) <| iv_p2 st fun x y r => ¬ y = 0 ∧ k (pc + 1) ls (.inr (x - x / y * y) :: r) σ
  | .ishl => iv_q (n = 1) <| iv_p2 st fun x y r => k (pc + 1) ls (.inr (x <<< (y &&& 31)) :: r) σ
  | .ishr => iv_q (n = 1) <| iv_p2 st fun x y r => k (pc + 1) ls (.inr (x >>> (y &&& 31)) :: r) σ
  | .iushr => iv_q (n = 1) <| iv_p2 st fun x y r => k (pc + 1) ls (.inr (x.toUInt32 >>> (y.toUInt32 &&& Int32.toUInt32 31)).toInt32 :: r) σ
  | .ineg => iv_q (n = 1) <| iv_p1 st fun x r => k (pc + 1) ls (.inr (-x) :: r) σ
  | .dup => iv_q (n = 1) <| iv_d1 st fun v r => k (pc + 1) ls (v :: v :: r) σ
  | .dup2 => iv_q (n = 1) <| iv_d2 st fun v w r => k (pc + 1) ls (v :: w :: v :: w :: r) σ
  | .pop => iv_q (n = 1) <| iv_d1 st fun _ r => k (pc + 1) ls r σ
  | .ifCond c off => iv_q (n = 3) <| iv_q (0 ≤ (pc : Int) + off) <| iv_p1 st fun x r => iv_br (iv_c1 c x) (k ((pc : Int) + off).toNat ls r σ) (k (pc + 3) ls r σ)
  | .if_icmp c off => iv_q (n = 3) <| iv_q (0 ≤ (pc : Int) + off) <| iv_p2 st fun x y r => iv_br (iv_c2 c x y) (k ((pc : Int) + off).toNat ls r σ) (k (pc + 3) ls r σ)
  | .goto off => iv_q (n = 3) <| iv_j pc off fun t => k t ls st σ
  | .getfield idx => iv_q (n = 3) <| iv_pr st fun q r => iv_o (iv_gf b.1 idx q) fun z => k (pc + 3) ls (iv_gv σ q z :: r) σ
  | .putfield idx => iv_q (n = 3) <| iv_pa st fun q x r => iv_o (iv_gf b.1 idx q) fun z => z.1 = none ∧ k (pc + 3) ls r (iv_u σ q z.2 x)
  | .iaload => iv_q (n = 1) <| iv_pa st fun q i r => iv_o (iv_ar q) fun z => z.1 = false ∧ vp_in i z.2 ∧ k (pc + 1) ls (.inr (σ q i.toNatClampNeg) :: r) σ
  | .baload => iv_q (n = 1) <| iv_pa st fun q i r => iv_o (iv_ar q) fun z => z.1 = true ∧ vp_in i z.2 ∧ k (pc + 1) ls (.inr (σ q i.toNatClampNeg) :: r) σ
  | .iastore => iv_q (n = 1) <| iv_ps st fun q i x r => iv_o (iv_ar q) fun z => z.1 = false ∧ vp_in i z.2 ∧ k (pc + 1) ls r (iv_u σ q i.toNatClampNeg x)
  | .bastore => iv_q (n = 1) <| iv_ps st fun q i x r => iv_o (iv_ar q) fun z => z.1 = true ∧ vp_in i z.2 ∧ k (pc + 1) ls r (iv_u σ q i.toNatClampNeg (vp_nar .boolean x))
  | .arraylength => iv_q (n = 1) <| iv_pr st fun q r => iv_o (iv_ar q) fun z => k (pc + 1) ls (.inr (nI z.2) :: r) σ
  | .tableswitch dflt lo hi offs => iv_p1 st fun x r => iv_q (hi < lo + offs.toList.length) <| ((x.toInt < lo ∨ hi < x.toInt) → iv_j pc dflt fun t => k t ls r σ) ∧ iv_sw x pc (fun t => k t ls r σ) lo offs.toList
  | .invokevirtual idx => iv_q (n = 3) <| iv_o (b.2.2 idx) fun z => iv_rc z st ∧ iv_call X d z st σ fun st' σ' => k (pc + 3) ls st' σ'
  | .invokestatic idx => iv_q (n = 3) <| iv_o (b.2.2 idx) fun z => z.2.1 = none ∧ iv_call X d z st σ fun st' σ' => k (pc + 3) ls st' σ'
  | .ireturn => iv_q (n = 1) <| iv_r1 st fun v => iv_rk y.2.2.2 v ∧ Q v σ
  | .return_ => iv_q (n = 1) <| st = [] ∧ y.2.2.2 = none ∧ Q 0 σ
  | _ => False
def iv_st (X : iv_X) (d : Nat) (y : iv_M) (b : iv_B) (Q : Int32 → iv_S → Prop) (k : Nat → iv_Ls → List iv_V → iv_S → Prop) (pc : Nat) (ls : iv_Ls) (st : List iv_V) (σ : iv_S) : Prop :=
  match decode y.2.1 pc with
  | .ok x => iv_si X d y b Q k pc ls st σ x.1 x.2
  | _ => False
theorem ie_st {X : iv_X} {d : Nat} {y : iv_M} {b : iv_B} {Q : Int32 → iv_S → Prop} {k : Nat → iv_Ls → List iv_V → iv_S → Prop} {pc : Nat} {ls : iv_Ls} {st : List iv_V} {σ : iv_S} {i : Instr} {n : Nat} (h : decode y.2.1 pc = .ok (i, n)) : iv_st X d y b Q k pc ls st σ = iv_si X d y b Q k pc ls st σ i n := by
  unfold iv_st
  rw [h]
def iv_Sf (X : iv_X) (d : Nat) (y : iv_M) (b : iv_B) (Q : Int32 → iv_S → Prop) (pc : Nat) (ls : iv_Ls) (st : List iv_V) (σ : iv_S) : Prop :=
  ∀ P : Nat → iv_Ls → List iv_V → iv_S → Prop, (∀ pc ls st σ, iv_st X d y b Q P pc ls st σ → P pc ls st σ) → P pc ls st σ
-- monotone
theorem iv_o_mono {α : Type} {o : Option α} {f g : α → Prop} (h : ∀ x, f x → g x) (hf : iv_o o f) : iv_o o g := by
  cases o with
  | none => exact hf
  | some x => exact h x hf
theorem iv_p1_spec {st : List iv_V} {f : Int32 → List iv_V → Prop} (h : iv_p1 st f) : ∃ x r, st = .inr x :: r ∧ f x r := by
  unfold iv_p1 at h
  split at h
  · exact ⟨_, _, rfl, h⟩
  · exact h.elim
theorem iv_p2_spec {st : List iv_V} {f : Int32 → Int32 → List iv_V → Prop} (h : iv_p2 st f) : ∃ x y r, st = .inr y :: .inr x :: r ∧ f x y r := by
  unfold iv_p2 at h
  split at h
  · exact ⟨_, _, _, rfl, h⟩
  · exact h.elim
theorem iv_pr_spec {st : List iv_V} {f : Nat → List iv_V → Prop} (h : iv_pr st f) : ∃ k r, st = .inl k :: r ∧ f k r := by
  unfold iv_pr at h
  split at h
  · exact ⟨_, _, rfl, h⟩
  · exact h.elim
theorem iv_pa_spec {st : List iv_V} {f : Nat → Int32 → List iv_V → Prop} (h : iv_pa st f) : ∃ k i r, st = .inr i :: .inl k :: r ∧ f k i r := by
  unfold iv_pa at h
  split at h
  · exact ⟨_, _, _, rfl, h⟩
  · exact h.elim
theorem iv_ps_spec {st : List iv_V} {f : Nat → Int32 → Int32 → List iv_V → Prop} (h : iv_ps st f) : ∃ k i x r, st = .inr x :: .inr i :: .inl k :: r ∧ f k i x r := by
  unfold iv_ps at h
  split at h
  · exact ⟨_, _, _, _, rfl, h⟩
  · exact h.elim
theorem iv_d1_spec {st : List iv_V} {f : iv_V → List iv_V → Prop} (h : iv_d1 st f) : ∃ v r, st = v :: r ∧ f v r := by
  unfold iv_d1 at h
  split at h
  · exact ⟨_, _, rfl, h⟩
  · exact h.elim
theorem iv_d2_spec {st : List iv_V} {f : iv_V → iv_V → List iv_V → Prop} (h : iv_d2 st f) : ∃ v w r, st = v :: w :: r ∧ f v w r := by
  unfold iv_d2 at h
  split at h
  · exact ⟨_, _, _, rfl, h⟩
  · exact h.elim
theorem iv_r1_spec {st : List iv_V} {f : Int32 → Prop} (h : iv_r1 st f) : ∃ x, st = [.inr x] ∧ f x := by
  unfold iv_r1 at h
  split at h
  · exact ⟨_, rfl, h⟩
  · exact h.elim
theorem iv_li_spec {ls : iv_Ls} {i : Nat} {f : Int32 → Prop} (h : iv_li ls i f) : ∃ x, ls[i]? = some (some (.inr x)) ∧ f x := by
  unfold iv_li at h
  split at h
  · next x hx => exact ⟨x, hx, h⟩
  · exact h.elim
theorem iv_lr_spec {ls : iv_Ls} {i : Nat} {f : Nat → Prop} (h : iv_lr ls i f) : ∃ x, ls[i]? = some (some (.inl x)) ∧ f x := by
  unfold iv_lr at h
  split at h
  · next x hx => exact ⟨x, hx, h⟩
  · exact h.elim
theorem iv_o_spec {α : Type} {o : Option α} {f : α → Prop} (h : iv_o o f) : ∃ x, o = some x ∧ f x := by
  cases o with
  | none => exact h.elim
  | some x => exact ⟨x, rfl, h⟩
theorem iv_j_mono {pc : Nat} {off : Int} {f g : Nat → Prop} (h : ∀ t, f t → g t) (hf : iv_j pc off f) : iv_j pc off g := iv_q_in (iv_q_spec hf).1 (h _ (iv_q_spec hf).2)
theorem iv_sw_mono {x : Int32} {pc : Nat} {f g : Nat → Prop} (h : ∀ t, f t → g t) : ∀ (os : List Int) (lo : Int), iv_sw x pc f lo os → iv_sw x pc g lo os
  | [], _, _ => trivial
  | o :: os, lo, hf => ⟨fun e => iv_j_mono h (hf.1 e), iv_sw_mono h os (lo + 1) hf.2⟩
