/-! what the tables and the statics say at the law's start -/
theorem sx_arr {ty : FieldType} {s : State} {args : Array Value} (h : (Cond.arrayClass ty).before args s = true) : ∃ cA : ClassId, ArrOfT s cA ty ∧ s.vm.findClass ("[" ++ ty.toString) = some cA := by
  obtain ⟨c, k, comp, h1, h2, h3⟩ := Cond.arrayClass_spec h
  exact ⟨c, fun n z => ⟨fun k h => (by cases h), k, h2, comp, h3⟩, h1⟩
theorem sx_i0 : Cond.instantiable RX0 6 ∈ iv_g := by decide +kernel
theorem sx_i1 : Cond.instantiable RX1 7 ∈ iv_g := by decide +kernel
theorem sx_i2 : Cond.instantiable RX2 4 ∈ iv_g := by decide +kernel
theorem sx_i3 : Cond.instantiable RX3 6 ∈ iv_g := by decide +kernel
theorem sx_i4 : Cond.instantiable RX4 3 ∈ iv_g := by decide +kernel
theorem sx_i5 : Cond.instantiable RX5 8 ∈ iv_g := by decide +kernel
theorem sx_i6 : Cond.instantiable RX6 8 ∈ iv_g := by decide +kernel
theorem sx_i7 : Cond.instantiable RX7 30 ∈ iv_g := by decide +kernel
theorem sx_K {s : State} {args : Array Value} (hg : ∀ w ∈ iv_g, w.before args s = true) : ∃ (dC : Nat → ClassId) (dI : Nat → Nat → Nat), ∀ (k : Nat) (q : vw_C), vwCl[k]? = some q → u_Kn s q.1 q.2.1 q.2.2 (dC k) (dI k) := by
  obtain ⟨c0, i0, h0⟩ := u_known (C := RX0) (T := TX0) (N := 6) (n := 6) hg iv_cX0 (hg _ sx_i0)
  obtain ⟨c1, i1, h1⟩ := u_known (C := RX1) (T := TX1) (N := 7) (n := 7) hg iv_cX1 (hg _ sx_i1)
  obtain ⟨c2, i2, h2⟩ := u_known (C := RX2) (T := TX2) (N := 4) (n := 4) hg iv_cX2 (hg _ sx_i2)
  obtain ⟨c3, i3, h3⟩ := u_known (C := RX3) (T := TX3) (N := 6) (n := 6) hg iv_cX3 (hg _ sx_i3)
  obtain ⟨c4, i4, h4⟩ := u_known (C := RX4) (T := TX4) (N := 3) (n := 3) hg iv_cX4 (hg _ sx_i4)
  obtain ⟨c5, i5, h5⟩ := u_known (C := RX5) (T := TX5) (N := 8) (n := 8) hg iv_cX5 (hg _ sx_i5)
  obtain ⟨c6, i6, h6⟩ := u_known (C := RX6) (T := TX6) (N := 8) (n := 8) hg iv_cX6 (hg _ sx_i6)
  obtain ⟨c7, i7, h7⟩ := u_known (C := RX7) (T := TX7) (N := 30) (n := 30) hg iv_cX7 (hg _ sx_i7)
  have h : ∀ k : Nat, ∃ (cC : ClassId) (iS : Nat → Nat), ∀ q : vw_C, vwCl[k]? = some q → u_Kn s q.1 q.2.1 q.2.2 cC iS := by
    intro k
    match k with
    | 0 => exact ⟨c0, i0, fun q hq => by cases hq; exact h0⟩
    | 1 => exact ⟨c1, i1, fun q hq => by cases hq; exact h1⟩
    | 2 => exact ⟨c2, i2, fun q hq => by cases hq; exact h2⟩
    | 3 => exact ⟨c3, i3, fun q hq => by cases hq; exact h3⟩
    | 4 => exact ⟨c4, i4, fun q hq => by cases hq; exact h4⟩
    | 5 => exact ⟨c5, i5, fun q hq => by cases hq; exact h5⟩
    | 6 => exact ⟨c6, i6, fun q hq => by cases hq; exact h6⟩
    | 7 => exact ⟨c7, i7, fun q hq => by cases hq; exact h7⟩
    | k + 8 => exact ⟨c0, i0, fun q hq => by simp [vwCl] at hq⟩
  exact ⟨fun k => (h k).choose, fun k => (h k).choose_spec.choose, fun k q hq => (h k).choose_spec.choose_spec q hq⟩
theorem sx_N {L : List Cond} {s : State} {args : Array Value} (hL : ∀ w ∈ L, w ∈ lw_tbl ∧ w.onTables = true) (hts : ∀ w ∈ lw_tbl, w.before args s = true) : ∀ w ∈ L, va_Nw w s := fun w h => va_Nw.of (hL w h).2 (hts w (hL w h).1)
theorem sx_t1 : ∀ w ∈ ic_N, w ∈ lw_tbl ∧ w.onTables = true := by decide +kernel
theorem sx_t2 : ∀ w ∈ iv_N, w ∈ lw_tbl ∧ w.onTables = true := by decide +kernel
theorem sx_t3 : ∀ w ∈ io_B, w ∈ lw_tbl ∧ w.onTables = true := by decide +kernel
abbrev sx_L : Term := .static RX6 "LEAST_SETTING" "[I"
abbrev sx_M : Term := .static RX6 "MOST_SETTING" "[I"
def sx_q : List Cond := [.arrayOf sx_L .int, .eq (.length sx_L) (.int 5), .eq (.elem sx_L (.int 0)) (.int 1), .eq (.elem sx_L (.int 1)) (.int 1), .eq (.elem sx_L (.int 2)) (.int 0), .eq (.elem sx_L (.int 3)) (.int 1), .eq (.elem sx_L (.int 4)) (.int 1),
  .arrayOf sx_M .int, .eq (.length sx_M) (.int 5), .eq (.elem sx_M (.int 0)) (.int 100000), .eq (.elem sx_M (.int 1)) (.int 100), .eq (.elem sx_M (.int 2)) (.int 1000), .eq (.elem sx_M (.int 3)) (.int 100), .eq (.elem sx_M (.int 4)) (.int 30),
  .isRef (.static _root_.Jvm.Bundle.tN "UNASSIGNED_STACK" _root_.Jvm.Bundle.steD), .isRef (.static _root_.Jvm.Bundle.tN "SUPPRESSED_SENTINEL" _root_.Jvm.Bundle.listD)]
theorem sx_qin : ∀ w ∈ sx_q, w ∈ flatC (Jvm.Cond.and given_1 narrow_1) := by decide +kernel
def sx_l : List Cond := [.laysStatic RX6 "LEAST_SETTING" "[I", .laysStatic RX6 "MOST_SETTING" "[I", .initialized RX6, .laysStatic _root_.Jvm.Bundle.tN "UNASSIGNED_STACK" _root_.Jvm.Bundle.steD, .laysStatic _root_.Jvm.Bundle.tN "SUPPRESSED_SENTINEL" _root_.Jvm.Bundle.listD, .initialized _root_.Jvm.Bundle.tN, .stringRef RX6 148 "no such pack", .stringRef RX6 162 "nothing such is known of a pack"]
theorem sx_lin : ∀ w ∈ sx_l, w ∈ lw_tbl := by decide +kernel
theorem sx_Sx {s : State} {args : Array Value} {A : Nat → Prop} (hts : ∀ w ∈ lw_tbl, w.before args s = true) (hq : ∀ w ∈ sx_q, w.before args s = true) (hA : ∀ a : Nat, a < s.heap.size → ¬ A a) : iv_Sx A s s.heap := by
  have ht := fun w h => hts w (sx_lin w h)
  obtain ⟨t1, e1, T1⟩ := va_Tof (tm := sx_L) (ty := .int) (N := 5) (f := fun j => .int (zLo (nI j))) (A := A) (by decide) (hq _ (by decide +kernel)) (va_eqt (hq (.eq (.length sx_L) (.int 5)) (by decide +kernel))) (fun j hj => by
    rcases (show j = 0 ∨ j = 1 ∨ j = 2 ∨ j = 3 ∨ j = 4 by omega) with rfl | rfl | rfl | rfl | rfl
    · exact va_eqt (hq (.eq (.elem sx_L (.int 0)) (.int 1)) (by decide +kernel))
    · exact va_eqt (hq (.eq (.elem sx_L (.int 1)) (.int 1)) (by decide +kernel))
    · exact va_eqt (hq (.eq (.elem sx_L (.int 2)) (.int 0)) (by decide +kernel))
    · exact va_eqt (hq (.eq (.elem sx_L (.int 3)) (.int 1)) (by decide +kernel))
    · exact va_eqt (hq (.eq (.elem sx_L (.int 4)) (.int 1)) (by decide +kernel))) hA
  obtain ⟨t2, e2, T2⟩ := va_Tof (tm := sx_M) (ty := .int) (N := 5) (f := fun j => .int (zHi (nI j))) (A := A) (by decide) (hq _ (by decide +kernel)) (va_eqt (hq (.eq (.length sx_M) (.int 5)) (by decide +kernel))) (fun j hj => by
    rcases (show j = 0 ∨ j = 1 ∨ j = 2 ∨ j = 3 ∨ j = 4 by omega) with rfl | rfl | rfl | rfl | rfl
    · exact va_eqt (hq (.eq (.elem sx_M (.int 0)) (.int 100000)) (by decide +kernel))
    · exact va_eqt (hq (.eq (.elem sx_M (.int 1)) (.int 100)) (by decide +kernel))
    · exact va_eqt (hq (.eq (.elem sx_M (.int 2)) (.int 1000)) (by decide +kernel))
    · exact va_eqt (hq (.eq (.elem sx_M (.int 3)) (.int 100)) (by decide +kernel))
    · exact va_eqt (hq (.eq (.elem sx_M (.int 4)) (.int 30)) (by decide +kernel))) hA
  exact ⟨t1, t2, va_Zof (ht _ (by decide +kernel)) (ht _ (by decide +kernel)) e1 hA, T1, va_Zof (ht _ (by decide +kernel)) (ht _ (by decide +kernel)) e2 hA, T2⟩
theorem sx_str {s : State} {args : Array Value} {cls text : String} {cur index : Nat} (hc : s.vm.findClass cls = some cur) (h : (Cond.stringRef cls index text).before args s = true) : ∃ a : Nat, vk_R cls index text a s := by
  obtain ⟨k, cf, i, a, -, -, -, -, -, he⟩ := Cond.stringRef_spec hc h
  exact ⟨a, vk_R.of h he⟩
theorem sx_Z {s : State} {args : Array Value} {A : Nat → Prop} {cur : ClassId} (hc : s.vm.findClass RX6 = some cur) (hts : ∀ w ∈ lw_tbl, w.before args s = true) (hq : ∀ w ∈ sx_q, w.before args s = true) (hA : ∀ a : Nat, a < s.heap.size → ¬ A a) : ∃ sa sb : Nat, io_Z A sa sb s := by
  have ht := fun w h => hts w (sx_lin w h)
  obtain ⟨sa, ha⟩ := sx_str hc (ht (.stringRef RX6 148 "no such pack") (by decide +kernel))
  obtain ⟨sb, hb⟩ := sx_str hc (ht (.stringRef RX6 162 "nothing such is known of a pack") (by decide +kernel))
  exact ⟨sa, sb, vx_Zqof (ht _ (by decide +kernel)) (ht _ (by decide +kernel)) (hq _ (by decide +kernel)) hA, vx_Zqof (ht _ (by decide +kernel)) (ht _ (by decide +kernel)) (hq _ (by decide +kernel)) hA, ha, hb, sx_N sx_t3 hts⟩
def sx_full (ρ : ic_R) : Bool := (List.range 57).all fun k => match iv_lay k with
  | .inl _ => true
  | .inr q => (List.range q.2.length).all fun i => match q.2[i]? with
    | some (some _) => ρ k i
    | _ => true
theorem sx_w {X : iv_X} {σ : iv_S} {ρ : ic_R} (h : sx_full ρ = true) : ic_w X σ ρ 57 = iv_w X.2.2.1 X.2.2.2.1 X.2.2.2.2 σ := by
  unfold ic_w iv_w
  apply List.map_congr_left
  intro k hk
  have h1 := List.all_eq_true.mp h k hk
  unfold ic_en iv_en
  cases hl : iv_lay k with
  | inl q => rfl
  | inr q =>
    obtain ⟨ci, fs⟩ := q
    rw [hl] at h1
    dsimp only at h1 ⊢
    rw [ic_flds_all _ _ _ _ (fun i q hq => ?_)]
    have h2 := List.all_eq_true.mp h1 i (List.mem_range.mpr (List.getElem?_eq_some_iff.mp hq).1)
    rw [hq] at h2
    exact h2
