/-! new places: the least sum over the rows of k places, as plain functions -/
def pm (f : Nat → Int32) (g : Nat → Bool) : Nat → Int32 → Int32
  | 0, w => w
  | n + 1, w => if g n then (if pm f g n w ≤ f n then pm f g n w else f n) else pm f g n w
def ps (w : Nat → Int32) : Nat → Int32
  | 0 => 0
  | n + 1 => ps w n + w n
def pS (nr nc m : Nat) (dc ds : Nat → Nat → Int32) (w : Int32) (b : Nat) : Int32 := ps (fun r => pm (ds r) (fun s => b.testBit s) m (pm (dc r) (fun _ => true) nc w)) nr
def zt (x : Nat) : Nat := if x.testBit 0 then 0 else if x.testBit 1 then 1 else if x.testBit 2 then 2 else if x.testBit 3 then 3 else if x.testBit 4 then 4 else if x.testBit 5 then 5 else if x.testBit 6 then 6 else 7
theorem zt_lt (x : Nat) : zt x < 8 := by
  unfold zt
  repeat' split
  all_goals omega
def pF (a b : Nat) : Bool := a.testBit (zt (a ^^^ b))
def pC (b : Nat) : Nat := zc (fun c => b.testBit c) 8
def pN (S : Nat → Int32) (k : Nat) (b : Nat) (B : Option Nat) : Option Nat := if pC b = k then (match B with
  | none => some b
  | some a => if decide (S b < S a) || (decide (S b = S a) && pF b a) then some b else some a) else B
def pB (S : Nat → Int32) (k : Nat) : Nat → Option Nat
  | 0 => none
  | n + 1 => pN S k n (pB S k n)
def pL (S : Nat → Int32) (z : Int32) (B : Option Nat) : Int32 := match B with
  | none => z
  | some b => S b
theorem pB_lt {S : Nat → Int32} {k : Nat} : ∀ {n b : Nat}, pB S k n = some b → b < n ∧ pC b = k
  | 0, b, h => by cases h
  | n + 1, b, h => by
    unfold pB pN at h
    split at h
    · next hc =>
      split at h
      · cases h; exact ⟨by omega, hc⟩
      · next a ha =>
        split at h
        · cases h; exact ⟨by omega, hc⟩
        · cases h
          obtain ⟨h1, h2⟩ := pB_lt ha
          exact ⟨by omega, h2⟩
    · obtain ⟨h1, h2⟩ := pB_lt h
      exact ⟨by omega, h2⟩
theorem pN_some {S : Nat → Int32} {k b : Nat} {B : Option Nat} (h : B ≠ none ∨ pC b = k) : pN S k b B ≠ none := by
  unfold pN
  split
  · split
    · simp
    · split <;> simp
  · next hc =>
    rcases h with h | h
    · exact h
    · exact absurd h hc
theorem pB_some {S : Nat → Int32} {k : Nat} : ∀ (n b : Nat), b < n → pC b = k → pB S k n ≠ none
  | 0, b, h, _ => by omega
  | n + 1, b, h, hc => by
    unfold pB
    by_cases hb : b = n
    · subst hb; exact pN_some (Or.inr hc)
    · exact pN_some (Or.inl (pB_some n b (by omega) hc))
set_option maxRecDepth 100000 in
theorem pC_all : ∀ m, m < 9 → ∀ k, k ≤ m → pC (2 ^ k - 1) = k ∧ 2 ^ k - 1 < 2 ^ m := by decide +kernel
theorem pB_ex {S : Nat → Int32} {k m : Nat} (hm : m ≤ 8) (hk : k ≤ m) : ∃ b, pB S k (2 ^ m) = some b := by
  obtain ⟨h1, h2⟩ := pC_all m (by omega) k hk
  have h := pB_some (S := S) (2 ^ m) (2 ^ k - 1) h2 h1
  cases hB : pB S k (2 ^ m) with
  | none => exact absurd hB h
  | some b => exact ⟨b, rfl⟩
theorem pB_congr {S S' : Nat → Int32} {k : Nat} : ∀ n, (∀ b, b < n → pC b = k → S b = S' b) → pB S k n = pB S' k n
  | 0, _ => rfl
  | n + 1, h => by
    have ih := pB_congr n (fun b hb => h b (by omega))
    unfold pB
    rw [← ih]
    unfold pN
    split
    · next hc =>
      cases hB : pB S k n with
      | none => rfl
      | some a =>
        obtain ⟨h1, h2⟩ := pB_lt hB
        simp only [h n (by omega) hc, h a (by omega) h2]
    · rfl
theorem pm_le {f : Nat → Int32} {g : Nat → Bool} {M w1 w2 : Int32} : ∀ n, (∀ c, c < n → f c ≤ M) → M ≤ w1 → M ≤ w2 → (pm f g n w1 = pm f g n w2 ∧ pm f g n w1 ≤ M) ∨ ((∀ c, c < n → g c = false) ∧ pm f g n w1 = w1 ∧ pm f g n w2 = w2)
  | 0, _, _, _ => Or.inr ⟨fun c hc => by omega, rfl, rfl⟩
  | n + 1, h, h1, h2 => by
    have hn := h n (by omega)
    simp only [pm]
    cases hg : g n with
    | false =>
      simp only [Bool.false_eq_true, if_false]
      rcases pm_le n (fun c hc => h c (by omega)) h1 h2 with ⟨a, b⟩ | ⟨a, b, c⟩
      · exact Or.inl ⟨a, b⟩
      · refine Or.inr ⟨fun t ht => ?_, b, c⟩
        by_cases htn : t = n
        · subst htn; exact hg
        · exact a t (by omega)
    | true =>
      simp only [if_true]
      rcases pm_le n (fun c hc => h c (by omega)) h1 h2 with ⟨a, b⟩ | ⟨a, b, c⟩
      · rw [← a]
        refine Or.inl ⟨rfl, ?_⟩
        split
        · exact b
        · exact hn
      · rw [b, c]
        left
        rw [z_le] at hn h1 h2
        have e1 : (if w1 ≤ f n then w1 else f n) = f n := by
          split
          · next hh => rw [z_le] at hh; rw [z_eq]; omega
          · rfl
        have e2 : (if w2 ≤ f n then w2 else f n) = f n := by
          split
          · next hh => rw [z_le] at hh; rw [z_eq]; omega
          · rfl
        rw [e1, e2]
        exact ⟨rfl, by rw [z_le]; exact hn⟩
theorem pm_congr {f f' : Nat → Int32} {g g' : Nat → Bool} {w : Int32} : ∀ n, (∀ c, c < n → f c = f' c ∧ g c = g' c) → pm f g n w = pm f' g' n w
  | 0, _ => rfl
  | n + 1, h => by
    simp only [pm]
    rw [pm_congr n (fun c hc => h c (by omega)), (h n (by omega)).1, (h n (by omega)).2]
theorem ps_congr {f f' : Nat → Int32} : ∀ n, (∀ c, c < n → f c = f' c) → ps f n = ps f' n
  | 0, _ => rfl
  | n + 1, h => by
    simp only [ps]
    rw [ps_congr n (fun c hc => h c (by omega)), h n (by omega)]
/-- the two starts give one sum -/
theorem pS_start {nr nc m b : Nat} {dc ds : Nat → Nat → Int32} (hdc : ∀ r, r < nr → ∀ c, c < nc → dc r c ≤ 1000) (hds : ∀ r, r < nr → ∀ s, s < m → ds r s ≤ 1000) (h : 0 < nc ∨ ∃ s, s < m ∧ b.testBit s = true) : pS nr nc m dc ds 1000 b = pS nr nc m dc ds 268435456 b := by
  unfold pS
  refine ps_congr nr (fun r hr => ?_)
  have hk : (1000 : Int32) ≤ 268435456 := by decide
  rcases pm_le (g := fun _ => true) (M := 1000) (w1 := 1000) (w2 := 268435456) nc (hdc r hr) (by decide) hk with ⟨a, -⟩ | ⟨a, b1, b2⟩
  · rw [a]
  · rw [b1, b2]
    have hn : ¬ 0 < nc := fun hn => by have := a 0 hn; cases this
    rcases h with h | ⟨s, hs, hb⟩
    · exact absurd h hn
    · rcases pm_le (g := fun s => b.testBit s) (M := 1000) (w1 := 1000) (w2 := 268435456) m (hds r hr) (by decide) hk with ⟨a2, -⟩ | ⟨a2, -, -⟩
      · exact a2
      · rw [a2 s hs] at hb; cases hb
set_option maxRecDepth 100000 in
theorem px_low : ∀ x, x < 256 → x ≠ 0 → nI x &&& -(nI x) = nI (2 ^ zt x) := by decide +kernel
set_option maxRecDepth 100000 in
theorem px_and : ∀ a, a < 256 → ∀ t, t < 8 → nI a &&& nI (2 ^ t) = (if a.testBit t then nI (2 ^ t) else 0) := by decide +kernel
set_option maxRecDepth 100000 in
theorem px_shr : ∀ a, a < 256 → ∀ t, t < 8 → (nI a >>> (nI t &&& 31)) &&& 1 = zb (a.testBit t) := by decide +kernel
set_option maxRecDepth 100000 in
theorem px_cnt : ∀ a, a < 256 → zBC (nI a) = nI (pC a) := by decide +kernel
set_option maxRecDepth 100000 in
theorem px_pow : ∀ m, m < 9 → (1 : Int32) <<< (nI m &&& 31) = nI (2 ^ m) := by decide +kernel
set_option maxRecDepth 100000 in
theorem px_ntz : ∀ x, x < 256 → x ≠ 0 → (nI x ^^^ -1) &&& (nI x - 1) = nI (2 ^ zt x - 1) := by decide +kernel
theorem px_ne {a b : Nat} (h : a ≠ b) : a ^^^ b ≠ 0 := by
  intro e
  refine h (Nat.eq_of_testBit_eq (fun i => ?_))
  have h2 : (a ^^^ b).testBit i = false := by rw [e]; simp
  rw [Nat.testBit_xor] at h2
  cases h3 : a.testBit i <;> cases h4 : b.testBit i <;> simp [h3, h4] at h2 ⊢
theorem pC_pos {b m : Nat} (hb : b < 2 ^ m) (hm : m ≤ 8) (h : pC b ≠ 0) : ∃ s, s < m ∧ b.testBit s = true := by
  by_cases h2 : ∃ s, s < m ∧ b.testBit s = true
  · exact h2
  · exfalso
    refine h (zc_none (fun c hc => ?_))
    by_cases hcm : c < m
    · cases h3 : b.testBit c with
      | false => rfl
      | true => exact absurd ⟨c, hcm, h3⟩ h2
    · exact Nat.testBit_lt_two_pow (Nat.lt_of_lt_of_le hb (Nat.pow_le_pow_right (by omega) (by omega)))
