/-! the van's search, as a plain function: no way is cut off; the cut is a lemma -/
def vL {β : Type} (f : Nat → β → β) : Nat → Nat → β → β
  | _, 0, B => B
  | i, m + 1, B => vL f (i + 1) m (f i B)
abbrev vB : Type := Option (Int32 × List Nat)
def vU (B : vB) (l : Int32) (R : List Nat) : vB := match B with
  | none => some (l, R)
  | some q => if l < q.1 then some (l, R) else some q
def vD (xs ys : Nat → Int32) (c : Nat) (x y : Int32) : Int32 := zA (xs c - x) + zA (ys c - y)
def vG (sp : Nat → Int32) (van : Int32) (V : Nat → Bool) (ld : Int32) (c : Nat) : Bool := !decide (sp c = 0) && (!V c && zw (ld + sp c) 0 van)
def vS (nc : Nat) (sp xs ys : Nat → Int32) (van : Int32) : Nat → (Nat → Bool) → List Nat → Int32 → Int32 → Int32 → Int32 → vB → vB
  | 0, _, R, x, y, _, len, B => vU B (len + x + y) R
  | k + 1, V, R, x, y, ld, len, B => vL (fun c B' => if vG sp van V ld c then vS nc sp xs ys van k (fun q => V q || decide (q = c)) (R ++ [c]) (xs c) (ys c) (ld + sp c) (len + vD xs ys c x y) B' else B') 0 nc B
def zT (v : Int32) : Prop := 0 ≤ v.toInt ∧ v.toInt ≤ 99
theorem zA_val {v : Int32} (h1 : -1000 ≤ v.toInt) (h2 : v.toInt ≤ 1000) : (zA v).toInt = (v.toInt.natAbs : Int) := by
  unfold zA
  have h0 : (0 : Int32).toInt = 0 := rfl
  split
  · next h =>
    rw [z_lt, h0] at h
    rw [Int32.toInt_neg, Int.bmod_eq_of_le (by omega) (by omega)]
    omega
  · next h =>
    rw [z_lt, h0] at h
    omega
theorem zA_sub {a b : Int32} (ha : zT a) (hb : zT b) : (zA (a - b)).toInt = ((a.toInt - b.toInt).natAbs : Int) := by
  obtain ⟨a1, a2⟩ := ha
  obtain ⟨b1, b2⟩ := hb
  have e : (a - b).toInt = a.toInt - b.toInt := z_sub (by omega) (by omega)
  rw [zA_val (by omega) (by omega), e]
theorem zA_swap {a b : Int32} (ha : zT a) (hb : zT b) : zA (a - b) = zA (b - a) := by
  rw [z_eq, zA_sub ha hb, zA_sub hb ha]
  omega
theorem zAA_val {a b x y : Int32} (ha : zT a) (hb : zT b) (hx : zT x) (hy : zT y) : (zA (a - x) + zA (b - y)).toInt = ((a.toInt - x.toInt).natAbs : Int) + ((b.toInt - y.toInt).natAbs : Int) := by
  have e1 := zA_sub ha hx
  have e2 := zA_sub hb hy
  obtain ⟨a1, a2⟩ := ha
  obtain ⟨b1, b2⟩ := hb
  obtain ⟨x1, x2⟩ := hx
  obtain ⟨y1, y2⟩ := hy
  rw [z_add (by omega) (by omega), e1, e2]
theorem vD_val {xs ys : Nat → Int32} {c : Nat} {x y : Int32} (ha : zT (xs c)) (hb : zT (ys c)) (hx : zT x) (hy : zT y) : (vD xs ys c x y).toInt = (((xs c).toInt - x.toInt).natAbs : Int) + (((ys c).toInt - y.toInt).natAbs : Int) := zAA_val ha hb hx hy
theorem vL_id {β : Type} {f : Nat → β → β} {B : β} : ∀ (m i : Nat), (∀ c, i ≤ c → c < i + m → f c B = B) → vL f i m B = B
  | 0, _, _ => rfl
  | m + 1, i, h => by
    simp only [vL]
    rw [h i (Nat.le_refl _) (by omega)]
    exact vL_id m (i + 1) (fun c h1 h2 => h c (by omega) (by omega))
theorem vS_prune {nc : Nat} {sp xs ys : Nat → Int32} {van : Int32} (hT : ∀ c, c < nc → zT (xs c) ∧ zT (ys c)) : ∀ (k : Nat) (V : Nat → Bool) (R : List Nat) (x y ld len l : Int32) (R0 : List Nat), zT x → zT y → 0 ≤ len.toInt → len.toInt + 400 * k ≤ 100000 → l.toInt ≤ len.toInt + x.toInt + y.toInt → vS nc sp xs ys van k V R x y ld len (some (l, R0)) = some (l, R0)
  | 0, V, R, x, y, ld, len, l, R0, hx, hy, h0, h1, h2 => by
    obtain ⟨x1, x2⟩ := hx
    obtain ⟨y1, y2⟩ := hy
    simp only [vS, vU]
    have e1 : (len + x).toInt = len.toInt + x.toInt := z_add (by omega) (by omega)
    have e2 : (len + x + y).toInt = len.toInt + x.toInt + y.toInt := by rw [z_add (by omega) (by omega), e1]
    rw [if_neg]
    rw [z_lt, e2]
    omega
  | k + 1, V, R, x, y, ld, len, l, R0, hx, hy, h0, h1, h2 => by
    simp only [vS]
    refine vL_id _ _ (fun c _ hc => ?_)
    split
    · obtain ⟨t1, t2⟩ := hT c (by omega)
      have e := vD_val (xs := xs) (ys := ys) t1 t2 hx hy
      have hx' := hx
      have hy' := hy
      obtain ⟨x1, x2⟩ := hx'
      obtain ⟨y1, y2⟩ := hy'
      have u1 := t1
      have u2 := t2
      obtain ⟨a1, a2⟩ := u1
      obtain ⟨b1, b2⟩ := u2
      have e2 : (len + vD xs ys c x y).toInt = len.toInt + (vD xs ys c x y).toInt := z_add (by omega) (by omega)
      refine vS_prune hT k _ _ _ _ _ _ l R0 t1 t2 (by omega) (by omega) (by omega)
    · rfl
theorem vU_none (l : Int32) (R : List Nat) : vU none l R = some (l, R) := rfl
theorem vU_lt {q : Int32 × List Nat} {l : Int32} {R : List Nat} (h : l < q.1) : vU (some q) l R = some (l, R) := by simp [vU, h]
theorem vU_ge {q : Int32 × List Nat} {l : Int32} {R : List Nat} (h : ¬ l < q.1) : vU (some q) l R = some q := by simp [vU, h]
theorem zc_del {f g : Nat → Bool} {c : Nat} (hf : f c = true) (hg : g c = false) (h : ∀ q, q ≠ c → g q = f q) : ∀ n, c < n → zc g n + 1 = zc f n
  | 0, hc => by omega
  | n + 1, hc => by
    by_cases hn : c = n
    · subst hn
      have e : zc g c = zc f c := zc_congr (fun p hp => h p (by omega))
      simp [zc, hf, hg, e]
    · have ih := zc_del hf hg h n (by omega)
      simp only [zc, h n (fun e => hn e.symm)]
      omega
theorem zc_zero {f : Nat → Bool} : ∀ {n : Nat}, zc f n = 0 → ∀ c, c < n → f c = false
  | 0, _, c, hc => by omega
  | n + 1, h, c, hc => by
    simp only [zc] at h
    by_cases hn : c = n
    · subst hn
      cases hf : f c with
      | false => rfl
      | true => rw [hf] at h; simp at h
    · exact zc_zero (n := n) (by omega) c (by omega)
theorem zc_none {f : Nat → Bool} : ∀ {n : Nat}, (∀ c, c < n → f c = false) → zc f n = 0
  | 0, _ => rfl
  | n + 1, h => by
    have h1 := zc_none (f := f) (n := n) (fun c hc => h c (by omega))
    simp [zc, h n (by omega), h1]
theorem zc_cut {f : Nat → Bool} {n : Nat} : ∀ m, n ≤ m → zc (fun c => decide (c < n) && f c) m = zc f n
  | 0, h => by
    have : n = 0 := by omega
    subst this
    rfl
  | m + 1, h => by
    by_cases hn : n = m + 1
    · subst hn
      exact zc_congr (fun p hp => by simp [hp])
    · have e := zc_cut (f := f) (n := n) m (by omega)
      simp only [zc, e]
      simp [show ¬ m < n by omega]
/-- a mask -/
def vm (f : Nat → Bool) : Nat → Nat
  | 0 => 0
  | n + 1 => if f n then vm f n ||| 2 ^ n else vm f n
theorem vm_bit (f : Nat → Bool) : ∀ n c, (vm f n).testBit c = (decide (c < n) && f c)
  | 0, c => by simp [vm]
  | n + 1, c => by
    unfold vm
    have ih := vm_bit f n c
    split
    · next h =>
      rw [Nat.testBit_or, ih, Nat.testBit_two_pow]
      by_cases hc : n = c
      · subst hc; simp [h]
      · by_cases hc2 : c < n
        · simp [hc, hc2, show c < n + 1 by omega]
        · simp [hc, hc2, show ¬ c < n + 1 by omega]
    · next h =>
      rw [ih]
      by_cases hc : n = c
      · subst hc; simp [h]
      · by_cases hc2 : c < n
        · simp [hc2, show c < n + 1 by omega]
        · simp [hc2, show ¬ c < n + 1 by omega]
theorem vm_lt (f : Nat → Bool) : ∀ n, vm f n < 2 ^ n
  | 0 => by simp [vm]
  | n + 1 => by
    have ih := vm_lt f n
    have h2 : 2 ^ (n + 1) = 2 * 2 ^ n := by rw [Nat.pow_succ]; omega
    unfold vm
    split
    · exact Nat.or_lt_two_pow (by omega) (by omega)
    · omega
theorem vm_eq {a u : Nat} (ha : a < 64) (hu : u < 64) (h : ∀ c, c < 6 → a.testBit c = u.testBit c) : a = u := by
  apply Nat.eq_of_testBit_eq
  intro c
  by_cases hc : c < 6
  · exact h c hc
  · have hp : 64 ≤ 2 ^ c := Nat.pow_le_pow_right (n := 2) (i := 6) (j := c) (by omega) (by omega)
    rw [Nat.testBit_lt_two_pow (by omega), Nat.testBit_lt_two_pow (by omega)]
set_option maxRecDepth 100000 in
theorem vb_bit : ∀ a, a < 64 → ∀ c, c < 6 → (nI a >>> (nI c &&& 31)) &&& 1 = zb (a.testBit c) := by decide +kernel
set_option maxRecDepth 100000 in
theorem vb_or : ∀ a, a < 64 → ∀ c, c < 6 → nI a ||| (1 <<< (nI c &&& 31)) = nI (a ||| 2 ^ c) := by decide +kernel
set_option maxRecDepth 100000 in
theorem vb_cnt : ∀ a, a < 64 → zBC (nI a) = nI (zc (fun c => a.testBit c) 6) := by decide +kernel
theorem z_asub (x y z : Int32) : x + y - z = x + (y - z) := by rw [Int32.sub_eq_add_neg, Int32.sub_eq_add_neg, Int32.add_assoc]
theorem vp1 : vp_nar .boolean 1 = 1 := zb_nar (b := true)
theorem vp0 : vp_nar .boolean 0 = 0 := zb_nar (b := false)
