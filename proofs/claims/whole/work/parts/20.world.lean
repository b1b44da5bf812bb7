/-! THE WORLD: the class's and the reference's objects as ONE list of 57 cells. A state σ gives the int at place j of cell k; references are fixed. -/
abbrev iv_S : Type := Nat → Nat → Int32
abbrev iv_V : Type := Nat ⊕ Int32
def iv_e (a : Nat → Nat) (v : iv_V) : Value := match v with
  | .inl k => .ref (a k)
  | .inr x => .int x
def iv_u (σ : iv_S) (k j : Nat) (v : Int32) : iv_S := fun q => if q = k then upd (σ k) j v else σ q
def iv_L : List ((Bool × Nat) ⊕ (Nat × List (Option Nat))) := [
  .inr (6, [some 1, some 2, some 3, some 12, some 18, some 24, some 29, none]),
  .inl (false, 5), .inl (false, 24),
  .inr (0, [some 4, some 7, some 8, some 9, some 10, some 11]),
  .inr (4, [some 5, some 6, none]), .inl (false, 6), .inl (false, 6),
  .inl (false, 6), .inl (false, 6), .inl (false, 6), .inl (false, 6), .inl (false, 6),
  .inr (3, [some 13, some 14, some 15, some 16, some 17, none]),
  .inl (false, 30), .inl (false, 30), .inl (true, 30), .inl (false, 30), .inl (false, 30),
  .inr (1, [some 19, some 20, some 21, some 22, some 23, none, none]),
  .inl (false, 12), .inl (false, 12), .inl (false, 12), .inl (false, 12), .inl (false, 12),
  .inr (5, [some 25, some 26, some 27, some 28, none, none, none, none]),
  .inl (false, 6), .inl (true, 6), .inl (false, 6), .inl (false, 6),
  .inr (2, [some 30, some 33, some 36, none]),
  .inr (4, [some 31, some 32, none]), .inl (false, 12), .inl (false, 12),
  .inr (4, [some 34, some 35, none]), .inl (false, 8), .inl (false, 8),
  .inl (false, 12),
  .inr (7, [some 38, none, some 39, some 40, some 41, some 42, none, some 43, some 44, none, some 45, none, some 46, none, some 47, none, some 48, some 49, none, some 50, some 51, none, none, none, some 52, some 53, some 54, some 55, some 56, none]),
  .inl (false, 42), .inl (false, 30), .inl (false, 30), .inl (false, 30), .inl (true, 30), .inl (false, 5), .inl (false, 24),
  .inl (false, 12), .inl (false, 12), .inl (false, 6), .inl (false, 12), .inl (false, 12), .inl (false, 8), .inl (false, 8),
  .inl (true, 30), .inl (false, 8), .inl (false, 3380), .inl (false, 6), .inl (false, 6)]
def iv_lay (k : Nat) : (Bool × Nat) ⊕ (Nat × List (Option Nat)) := iv_L.getD k (.inr (99, []))
theorem iv_lay_big {k : Nat} (h : ¬ k < 57) : iv_lay k = .inr (99, []) := by
  have hl : iv_L.length = 57 := rfl
  unfold iv_lay
  rw [List.getD_eq_getElem?_getD, List.getElem?_eq_none (by omega)]
  rfl
def iv_flds (a : Nat → Nat) (f : Nat → Int32) : List (Option Nat) → Nat → List Value
  | [], _ => []
  | some q :: r, j => .ref (a q) :: iv_flds a f r (j + 1)
  | none :: r, j => .int (f j) :: iv_flds a f r (j + 1)
def iv_fv (a : Nat → Nat) (f : Nat → Int32) (j : Nat) (o : Option Nat) : Value := match o with
  | some q => .ref (a q)
  | none => .int (f j)
theorem iv_flds_get (a : Nat → Nat) (f : Nat → Int32) : ∀ (fs : List (Option Nat)) (j i : Nat), (iv_flds a f fs j)[i]? = (fs[i]?).map (iv_fv a f (j + i))
  | [], j, i => by simp [iv_flds]
  | some q :: r, j, 0 => by simp [iv_flds, iv_fv]
  | none :: r, j, 0 => by simp [iv_flds, iv_fv]
  | some q :: r, j, i + 1 => by
    simp only [iv_flds, List.getElem?_cons_succ, iv_flds_get a f r (j + 1) i]
    rw [show j + 1 + i = j + (i + 1) by omega]
  | none :: r, j, i + 1 => by
    simp only [iv_flds, List.getElem?_cons_succ, iv_flds_get a f r (j + 1) i]
    rw [show j + 1 + i = j + (i + 1) by omega]
theorem iv_flds_len (a : Nat → Nat) (f : Nat → Int32) : ∀ (fs : List (Option Nat)) (j : Nat), (iv_flds a f fs j).length = fs.length
  | [], j => rfl
  | some q :: r, j => by simp [iv_flds, iv_flds_len a f r (j + 1)]
  | none :: r, j => by simp [iv_flds, iv_flds_len a f r (j + 1)]
theorem iv_flds_set (a : Nat → Nat) (f : Nat → Int32) (fs : List (Option Nat)) (i : Nat) (x : Int32) (h : fs[i]? = some none) : (iv_flds a f fs 0).set i (.int x) = iv_flds a (upd f i x) fs 0 := by
  apply List.ext_getElem?
  intro t
  have hl : i < fs.length := (List.getElem?_eq_some_iff.mp h).1
  by_cases ht : i = t
  · subst ht
    rw [List.getElem?_set_self (by rw [iv_flds_len]; exact hl), iv_flds_get, h]
    simp [iv_fv, upd]
  · rw [List.getElem?_set_ne ht, iv_flds_get, iv_flds_get]
    cases fs[t]? with
    | none => rfl
    | some o =>
      cases o with
      | none => simp [iv_fv, upd, Ne.symm ht]
      | some q => simp [iv_fv]
def iv_en (a : Nat → Nat) (cI cZ : ClassId) (σ : iv_S) (k : Nat) : va_E := match iv_lay k with
  | .inl (z, n) => .inl (if z then cZ else cI, n, .inl (σ k))
  | .inr (ci, fs) => .inr (ci, iv_flds a (σ k) fs 0)
def iv_w (a : Nat → Nat) (cI cZ : ClassId) (σ : iv_S) : va_W := (List.range 57).map fun k => (a k, iv_en a cI cZ σ k)
theorem iv_w_get {a : Nat → Nat} {cI cZ : ClassId} {σ : iv_S} {k : Nat} (h : k < 57) : (iv_w a cI cZ σ)[k]? = some (a k, iv_en a cI cZ σ k) := by
  simp [iv_w, List.getElem?_map, List.getElem?_range h]
theorem iv_en_eq {a : Nat → Nat} {cI cZ : ClassId} {σ σ' : iv_S} {k : Nat} (h : σ' k = σ k) : iv_en a cI cZ σ' k = iv_en a cI cZ σ k := by
  unfold iv_en
  rw [h]
theorem iv_w_set {a : Nat → Nat} {cI cZ : ClassId} {σ σ' : iv_S} {k : Nat} {e : va_E} (h : k < 57) (he : e = iv_en a cI cZ σ' k) (ho : ∀ q, q ≠ k → σ' q = σ q) : (iv_w a cI cZ σ).set k (a k, e) = iv_w a cI cZ σ' := by
  apply List.ext_getElem?
  intro t
  have hl : (iv_w a cI cZ σ).length = 57 := by simp [iv_w]
  by_cases ht : k = t
  · subst ht
    rw [List.getElem?_set_self (by rw [hl]; exact h), iv_w_get h, he]
  · rw [List.getElem?_set_ne ht]
    by_cases h5 : t < 57
    · rw [iv_w_get h5, iv_w_get h5, iv_en_eq (ho t (Ne.symm ht))]
    · rw [List.getElem?_eq_none (by rw [hl]; omega), List.getElem?_eq_none (by simp [iv_w]; omega)]
theorem iv_u_ne {σ : iv_S} {k j : Nat} {v : Int32} {q : Nat} (h : q ≠ k) : iv_u σ k j v q = σ q := by simp [iv_u, h]
theorem iv_u_eq {σ : iv_S} {k j : Nat} {v : Int32} : iv_u σ k j v k = upd (σ k) j v := by simp [iv_u]
def iv_ar (k : Nat) : Option (Bool × Nat) := match iv_lay k with
  | .inl x => some x
  | .inr _ => none
def iv_cls (k : Nat) : Option Nat := match iv_lay k with
  | .inl _ => none
  | .inr x => some x.1
def iv_gf (fl : Nat → Option (Nat × Nat)) (idx k : Nat) : Option (Option Nat × Nat) := match fl idx with
  | none => none
  | some x => match iv_lay k with
    | .inl _ => none
    | .inr y => if y.1 = x.1 then (y.2[x.2]?).map (fun o => (o, x.2)) else none
theorem iv_ar_spec {k : Nat} {z : Bool × Nat} (h : iv_ar k = some z) : k < 57 ∧ ∀ (a : Nat → Nat) (cI cZ : ClassId) (σ : iv_S), iv_en a cI cZ σ k = .inl (if z.1 then cZ else cI, z.2, .inl (σ k)) := by
  unfold iv_ar at h
  have hk : k < 57 := by
    rcases Nat.lt_or_ge k 57 with q | q
    · exact q
    · rw [iv_lay_big (by omega)] at h; cases h
  refine ⟨hk, fun a cI cZ σ => ?_⟩
  unfold iv_en
  cases hl : iv_lay k with
  | inl x => rw [hl] at h; cases h; rfl
  | inr x => rw [hl] at h; cases h
theorem iv_gf_spec {fl : Nat → Option (Nat × Nat)} {idx k : Nat} {z : Option Nat × Nat} (h : iv_gf fl idx k = some z) : ∃ (ci : Nat) (fs : List (Option Nat)), fl idx = some (ci, z.2) ∧ iv_lay k = .inr (ci, fs) ∧ fs[z.2]? = some z.1 := by
  unfold iv_gf at h
  cases hf : fl idx with
  | none => rw [hf] at h; cases h
  | some x =>
    rw [hf] at h
    cases hl : iv_lay k with
    | inl y => rw [hl] at h; cases h
    | inr y =>
      rw [hl] at h
      dsimp only at h
      split at h
      · next hc =>
        obtain ⟨o, ho, hz⟩ := Option.map_eq_some_iff.mp h
        subst hz
        obtain ⟨c1, f1⟩ := y
        obtain ⟨c2, j2⟩ := x
        dsimp only at hc ho ⊢
        subst hc
        exact ⟨_, _, rfl, rfl, ho⟩
      · cases h
theorem iv_lt_of {k ci : Nat} {fs : List (Option Nat)} {j : Nat} {o : Option Nat} (h : iv_lay k = .inr (ci, fs)) (hj : fs[j]? = some o) : k < 57 := by
  rcases Nat.lt_or_ge k 57 with q | q
  · exact q
  · rw [iv_lay_big (by omega)] at h
    cases h
    simp at hj
