/-! SOUND: what iv_Sf says, the machine does. -/
theorem iv_call_mono {X : iv_X} {d : Nat} {z : iv_C} {st : List iv_V} {σ : iv_S} {K K' : List iv_V → iv_S → Prop} (h : ∀ st σ, K st σ → K' st σ) (hf : iv_call X d z st σ K) : iv_call X d z st σ K' := by
  obtain ⟨h1, h2, Q, h3, h4⟩ := hf
  exact ⟨h1, h2, Q, h3, fun r σ' hq => h _ _ (h4 r σ' hq)⟩
theorem iv_st_mono {X : iv_X} {d : Nat} {y : iv_M} {b : iv_B} {Q : Int32 → iv_S → Prop} {k k' : Nat → iv_Ls → List iv_V → iv_S → Prop} (h : ∀ pc ls st σ, k pc ls st σ → k' pc ls st σ) {pc : Nat} {ls : iv_Ls} {st : List iv_V} {σ : iv_S} (hs : iv_st X d y b Q k pc ls st σ) : iv_st X d y b Q k' pc ls st σ := by
  unfold iv_st at hs ⊢
  split at hs
  · next x hd =>
    unfold iv_si at hs ⊢
    split at hs
    all_goals first
      | exact hs.elim
      | (obtain ⟨x, r, rfl, hk⟩ := iv_p1_spec hs; obtain ⟨hq, hk⟩ := iv_q_spec hk; exact iv_q_in hq ⟨fun c => iv_j_mono (fun t => h _ _ _ _) (hk.1 c), iv_sw_mono (fun t => h _ _ _ _) _ _ hk.2⟩)
      | (obtain ⟨hn, hs⟩ := iv_q_spec hs
         refine iv_q_in hn ?_
         first
         | exact h _ _ _ _ hs
         | exact iv_j_mono (fun t => h _ _ _ _) hs
         | (obtain ⟨x, hx, hk⟩ := iv_o_spec hs; rw [hx]; exact h _ _ _ _ hk)
         | (obtain ⟨x, hx, hk⟩ := iv_li_spec hs; unfold iv_li; rw [hx]; exact h _ _ _ _ hk)
         | (obtain ⟨x, hx, hk⟩ := iv_lr_spec hs; unfold iv_lr; rw [hx]; exact h _ _ _ _ hk)
         | (obtain ⟨hj, hs⟩ := iv_q_spec hs; obtain ⟨x, r, rfl, hk⟩ := iv_p1_spec hs; exact iv_q_in hj (h _ _ _ _ hk))
         | (obtain ⟨hj, hs⟩ := iv_q_spec hs; obtain ⟨x, hx, hk⟩ := iv_li_spec hs; refine iv_q_in hj ?_; unfold iv_li; rw [hx]; exact h _ _ _ _ hk)
         | (obtain ⟨x, y, r, rfl, hk⟩ := iv_p2_spec hs; exact h _ _ _ _ hk)
         | (obtain ⟨x, y, r, rfl, hk⟩ := iv_p2_spec hs; exact ⟨hk.1, h _ _ _ _ hk.2⟩)
         | (obtain ⟨x, r, rfl, hk⟩ := iv_p1_spec hs; exact h _ _ _ _ hk)
         | (obtain ⟨v, r, rfl, hk⟩ := iv_d1_spec hs; exact h _ _ _ _ hk)
         | (obtain ⟨v, w, r, rfl, hk⟩ := iv_d2_spec hs; exact h _ _ _ _ hk)
         | (obtain ⟨hj, hs⟩ := iv_q_spec hs; obtain ⟨x, r, rfl, hk⟩ := iv_p1_spec hs; exact iv_q_in hj ⟨fun c => h _ _ _ _ (hk.1 c), fun c => h _ _ _ _ (hk.2 c)⟩)
         | (obtain ⟨hj, hs⟩ := iv_q_spec hs; obtain ⟨x, y, r, rfl, hk⟩ := iv_p2_spec hs; exact iv_q_in hj ⟨fun c => h _ _ _ _ (hk.1 c), fun c => h _ _ _ _ (hk.2 c)⟩)
         | exact ⟨hs.1, h _ _ _ _ hs.2⟩
         | (obtain ⟨q, r, rfl, hk⟩ := iv_pr_spec hs; obtain ⟨z, hz, hk⟩ := iv_o_spec hk; show iv_o _ _; rw [hz]; exact h _ _ _ _ hk)
         | (obtain ⟨q, x, r, rfl, hk⟩ := iv_pa_spec hs; obtain ⟨z, hz, hk⟩ := iv_o_spec hk; show iv_o _ _; rw [hz]; exact ⟨hk.1, h _ _ _ _ hk.2⟩)
         | (obtain ⟨q, x, r, rfl, hk⟩ := iv_pa_spec hs; obtain ⟨z, hz, hk⟩ := iv_o_spec hk; show iv_o _ _; rw [hz]; exact ⟨hk.1, hk.2.1, h _ _ _ _ hk.2.2⟩)
         | (obtain ⟨q, i, x, r, rfl, hk⟩ := iv_ps_spec hs; obtain ⟨z, hz, hk⟩ := iv_o_spec hk; show iv_o _ _; rw [hz]; exact ⟨hk.1, hk.2.1, h _ _ _ _ hk.2.2⟩)
         | (obtain ⟨x, hx, hk⟩ := iv_o_spec hs; rw [hx]; exact ⟨hk.1, iv_call_mono (fun _ _ => h _ _ _ _) hk.2⟩)
         | exact hs)
  · exact hs.elim
theorem iv_Sf_in {X : iv_X} {d : Nat} {y : iv_M} {b : iv_B} {Q : Int32 → iv_S → Prop} {pc : Nat} {ls : iv_Ls} {st : List iv_V} {σ : iv_S} (h : iv_st X d y b Q (iv_Sf X d y b Q) pc ls st σ) : iv_Sf X d y b Q pc ls st σ := by
  intro P hP
  exact hP _ _ _ _ (iv_st_mono (fun pc ls st σ h => h P hP) h)
/-- n steps at most, not past a place of cut -/
def iv_sn (X : iv_X) (d : Nat) (y : iv_M) (b : iv_B) (Q : Int32 → iv_S → Prop) (cut : List Nat) (k : Nat → iv_Ls → List iv_V → iv_S → Prop) : Nat → Nat → iv_Ls → List iv_V → iv_S → Prop
  | 0, pc, ls, st, σ => k pc ls st σ
  | n + 1, pc, ls, st, σ => if cut.elem pc then k pc ls st σ else iv_st X d y b Q (iv_sn X d y b Q cut k n) pc ls st σ
theorem iv_sn_in {X : iv_X} {d : Nat} {y : iv_M} {b : iv_B} {Q : Int32 → iv_S → Prop} {cut : List Nat} : ∀ (n pc : Nat) (ls : iv_Ls) (st : List iv_V) (σ : iv_S), iv_sn X d y b Q cut (iv_Sf X d y b Q) n pc ls st σ → iv_Sf X d y b Q pc ls st σ
  | 0, _, _, _, _, h => h
  | n + 1, pc, ls, st, σ, h => by
    unfold iv_sn at h
    split at h
    · exact h
    · exact iv_Sf_in (iv_st_mono (fun pc ls st σ h => iv_sn_in n pc ls st σ h) h)
/-- a block: from pc on, up to the next cut -/
theorem iv_blk {X : iv_X} {d : Nat} {y : iv_M} {b : iv_B} {Q : Int32 → iv_S → Prop} (cut : List Nat) (n : Nat) {pc : Nat} {ls : iv_Ls} {st : List iv_V} {σ : iv_S} (h : iv_st X d y b Q (iv_sn X d y b Q cut (iv_Sf X d y b Q) n) pc ls st σ) : iv_Sf X d y b Q pc ls st σ :=
  iv_Sf_in (iv_st_mono (fun pc ls st σ h => iv_sn_in n pc ls st σ h) h)
-- the tables of a class
def iv_cokB (own : String) (idx n : Nat) (ck : Option Nat) (vd : Bool) (ym : iv_M) : Bool :=
  decide (vd = ym.2.2.2.isNone) && decide (ym.1.cls ≠ "java/lang/invoke/MethodHandle") && decide (ym.1.cls ≠ "java/lang/invoke/VarHandle") && decide (Cond.code ym.1 ym.2.1 ym.2.2.1 ym.2.2.2 ∈ iv_g) && decide (Cond.initialized ym.1.cls ∈ iv_g) && decide (ym.2.2.1 ≤ 20) && match ck with
  | none => decide ((parseMethodDescriptor ym.1.desc).map (fun d => d.parameters.length) = some n) && decide (Cond.static ym.1 ∈ iv_g) && (decide (Cond.methodLink own idx ym.1 ∈ iv_g) || decide (Cond.methodLinkNest own idx ym.1 RX6 ∈ iv_N))
  | some ci => decide ((parseMethodDescriptor ym.1.desc).map (fun d => d.parameters.length + 1) = some n) && decide (Cond.instanceMethod ym.1 ∈ iv_g) && decide (Cond.selects ym.1.cls ym.1 ym.1 ∈ iv_g) && decide (Cond.methodLink own idx ym.1 ∈ iv_g) && decide ((vwCl[ci]?).map (fun q => q.1) = some ym.1.cls)
def iv_fokB (own : String) (idx ci j : Nat) : Bool := match vwCl[ci]? with
  | some q => decide (j < q.2.2) && decide (Cond.fieldLink own idx (q.2.1 j).1 (q.2.1 j).2.1 (q.2.1 j).2.2.1 ∈ iv_g)
  | none => false
def iv_ok (own : String) (b : iv_B) : Prop := (∀ idx ci j, b.1 idx = some (ci, j) → iv_fokB own idx ci j = true) ∧ (∀ idx v, b.2.1 idx = some v → Cond.constant own idx v ∈ iv_g) ∧ ∀ idx n ck vd ym, b.2.2 idx = some (n, ck, vd, ym) → iv_cokB own idx n ck vd ym = true
theorem iv_fok {own : String} {idx ci j : Nat} (h : iv_fokB own idx ci j = true) : ∃ q, vwCl[ci]? = some q ∧ j < q.2.2 ∧ Cond.fieldLink own idx (q.2.1 j).1 (q.2.1 j).2.1 (q.2.1 j).2.2.1 ∈ iv_g := by
  unfold iv_fokB at h
  split at h
  · next q hq =>
    simp only [Bool.and_eq_true, decide_eq_true_eq] at h
    exact ⟨q, hq, h.1, h.2⟩
  · cases h
def iv_layB : Bool := (List.range 57).all fun k => match iv_lay k with
  | .inl _ => true
  | .inr x => match vwCl[x.1]? with
    | some q => decide (x.2.length = q.2.2) && (List.range q.2.2).all fun j => match x.2[j]? with
      | some none => decide ((q.2.1 j).2.2.1 = "I") && decide ((q.2.1 j).2.2.2 = false)
      | _ => true
    | none => false
theorem iv_lay_ok : iv_layB = true := by decide +kernel
theorem iv_lay_of {k ci j : Nat} {fs : List (Option Nat)} {q : vw_C} (h : iv_lay k = .inr (ci, fs)) (hq : vwCl[ci]? = some q) (hj : fs[j]? = some none) : (q.2.1 j).2.2.1 = "I" ∧ (q.2.1 j).2.2.2 = false := by
  have h5 := iv_lt_of h hj
  have h1 := iv_lay_ok
  unfold iv_layB at h1
  have h2 := List.all_eq_true.mp h1 k (List.mem_range.mpr h5)
  rw [h] at h2
  dsimp only at h2
  rw [hq] at h2
  simp only [Bool.and_eq_true, decide_eq_true_eq] at h2
  have hl := (List.getElem?_eq_some_iff.mp hj).1
  have h3 := List.all_eq_true.mp h2.2 j (List.mem_range.mpr (by omega))
  rw [hj] at h3
  simp only [Bool.and_eq_true, decide_eq_true_eq] at h3
  exact h3
theorem iv_len_of {k ci j : Nat} {fs : List (Option Nat)} {q : vw_C} {o : Option Nat} (h : iv_lay k = .inr (ci, fs)) (hq : vwCl[ci]? = some q) (hj : fs[j]? = some o) : fs.length = q.2.2 := by
  have h5 := iv_lt_of h hj
  have h1 := iv_lay_ok
  unfold iv_layB at h1
  have h2 := List.all_eq_true.mp h1 k (List.mem_range.mpr h5)
  rw [h] at h2
  dsimp only at h2
  rw [hq] at h2
  simp only [Bool.and_eq_true, decide_eq_true_eq] at h2
  exact h2.1
theorem iv_g_in {w : Cond} (h : w ∈ lw_tbl) (hg : goodWord w = true) : w ∈ iv_g := List.mem_filter.mpr ⟨h, hg⟩
theorem iv_cX0 : ∀ w ∈ wsX00, w ∈ iv_g := by decide +kernel
theorem iv_cX1 : ∀ w ∈ wsX10, w ∈ iv_g := by decide +kernel
theorem iv_cX2 : ∀ w ∈ wsX20, w ∈ iv_g := by decide +kernel
theorem iv_cX3 : ∀ w ∈ wsX30, w ∈ iv_g := by decide +kernel
theorem iv_cX4 : ∀ w ∈ wsX40, w ∈ iv_g := by decide +kernel
theorem iv_cX5 : ∀ w ∈ wsX50, w ∈ iv_g := by decide +kernel
theorem iv_cX6 : ∀ w ∈ wsX60, w ∈ iv_g := by decide +kernel
theorem iv_cX7 : ∀ w ∈ wsX70, w ∈ iv_g := by decide +kernel
theorem iv_cl_ok {ci : Nat} {q : vw_C} (h : vwCl[ci]? = some q) : ∃ ty0 : Nat → FieldType, (∀ k, k < q.2.2 → parseFieldDescriptor (q.2.1 k).2.2.1 = some (ty0 k)) ∧ (∀ a, a < q.2.2 → ∀ b, b < q.2.2 → a ≠ b → (q.2.1 a).2.1 ≠ (q.2.1 b).2.1) ∧ ∀ w ∈ u_ws q.1 q.2.1 q.2.2, w ∈ iv_g := by
  match ci, h with
  | 0, h => cases h; exact ⟨tyX0, tyX0_ok, nmX0, iv_cX0⟩
  | 1, h => cases h; exact ⟨tyX1, tyX1_ok, nmX1, iv_cX1⟩
  | 2, h => cases h; exact ⟨tyX2, tyX2_ok, nmX2, iv_cX2⟩
  | 3, h => cases h; exact ⟨tyX3, tyX3_ok, nmX3, iv_cX3⟩
  | 4, h => cases h; exact ⟨tyX4, tyX4_ok, nmX4, iv_cX4⟩
  | 5, h => cases h; exact ⟨tyX5, tyX5_ok, nmX5, iv_cX5⟩
  | 6, h => cases h; exact ⟨tyX6, tyX6_ok, nmX6, iv_cX6⟩
  | 7, h => cases h; exact ⟨tyX7, tyX7_ok, nmX7, iv_cX7⟩
  | k + 8, h => simp [vwCl] at h
