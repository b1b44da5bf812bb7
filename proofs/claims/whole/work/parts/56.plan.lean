/-! plans of charges: what a plan must keep, what the best one is; the greedy step takes what the best plan has -/
def su (c : Nat → Nat) : Nat → Nat
  | 0 => 0
  | t + 1 => su c t + c t
theorem su_s (c : Nat → Nat) (t : Nat) : su c (t + 1) = su c t + c t := rfl
theorem su_mono (c : Nat → Nat) : ∀ {a b : Nat}, a ≤ b → su c a ≤ su c b
  | a, 0, h => by
    have : a = 0 := by omega
    subst this
    exact Nat.le_refl _
  | a, b + 1, h => by
    by_cases hb : a = b + 1
    · subst hb; exact Nat.le_refl _
    · have := su_mono c (a := a) (b := b) (by omega)
      rw [su_s]
      omega
theorem su_congr {c e : Nat → Nat} : ∀ {t : Nat}, (∀ j, j < t → c j = e j) → su c t = su e t
  | 0, _ => rfl
  | t + 1, h => by rw [su_s, su_s, su_congr (fun j hj => h j (by omega)), h t (by omega)]
theorem su_bound {c : Nat → Nat} {L : Nat} : ∀ {t : Nat}, (∀ j, j < t → c j ≤ L) → su c t ≤ L * t
  | 0, _ => by simp [su]
  | t + 1, h => by
    have h1 := su_bound (c := c) (L := L) (t := t) (fun j hj => h j (by omega))
    have h2 := h t (by omega)
    rw [su_s, Nat.mul_succ]
    omega
def plF (n L : Nat) (nd c : Nat → Nat) : Prop := (∀ j, j < n → c j ≤ L) ∧ (∀ t, t ≤ n → su nd t ≤ su c t) ∧ su c n = su nd n
def plC (pr c : Nat → Nat) : Nat → Nat := su (fun j => c j * pr j)
def plO (n L : Nat) (nd pr c : Nat → Nat) : Prop := plF n L nd c ∧ ∀ e, plF n L nd e → plC pr c n < plC pr e n ∨ (plC pr c n = plC pr e n ∧ ((∀ j, j < n → e j = c j) ∨ ∃ t, t < n ∧ (∀ j, j < t → e j = c j) ∧ e t < c t))
theorem su_ex {f f' : Nat → Nat} {g h a b : Nat} (hgh : g ≠ h) (h1 : f' h = f h + b) (h2 : f' g + a = f g) (h3 : ∀ j, j ≠ g → j ≠ h → f' j = f j) : ∀ t, su f' t + (if g < t then a else 0) = su f t + (if h < t then b else 0)
  | 0 => by simp [su]
  | t + 1 => by
    have ih := su_ex hgh h1 h2 h3 t
    rw [su_s, su_s]
    by_cases hg : t = g
    · subst hg
      have e1 : ¬ t < t := by omega
      have e2 : t < t + 1 := by omega
      simp only [e1, e2, if_true, if_false] at ih ⊢
      by_cases hh : h < t
      · have : h < t + 1 := by omega
        simp only [hh, this, if_true] at ih ⊢
        omega
      · have : ¬ h < t + 1 := by omega
        simp only [hh, this, if_false] at ih ⊢
        omega
    · by_cases hh : t = h
      · subst hh
        have e1 : ¬ t < t := by omega
        have e2 : t < t + 1 := by omega
        simp only [e1, e2, if_true, if_false] at ih ⊢
        by_cases hg2 : g < t
        · have : g < t + 1 := by omega
          simp only [hg2, this, if_true] at ih ⊢
          omega
        · have : ¬ g < t + 1 := by omega
          simp only [hg2, this, if_false] at ih ⊢
          omega
      · rw [h3 t hg hh]
        have e1 : (g < t + 1) = (g < t) := by apply propext; omega
        have e2 : (h < t + 1) = (h < t) := by apply propext; omega
        simp only [e1, e2]
        omega
theorem su_gap {x c : Nat → Nat} {h k : Nat} (hk : k ≤ h) (h0 : x h = 0) : ∀ n, h < n → (∀ j, k ≤ j → j < n → x j ≤ c j) → su x n + su c k + c h ≤ su c n + su x k
  | 0, hn, _ => by omega
  | n + 1, hn, hj => by
    rw [su_s, su_s]
    by_cases hh : h = n
    · subst hh
      have key : ∀ m, k ≤ m → m ≤ h → su x m + su c k ≤ su c m + su x k := by
        intro m
        induction m with
        | zero =>
          intro a _
          have : k = 0 := by omega
          subst this
          omega
        | succ m ih =>
          intro a b
          by_cases hm : k = m + 1
          · subst hm; omega
          · have := ih (by omega) (by omega)
            have := hj m (by omega) (by omega)
            rw [su_s, su_s]
            omega
      have := key h hk (Nat.le_refl _)
      omega
    · have := su_gap hk h0 n (by omega) (fun j a b => hj j a (by omega))
      have := hj n (by omega) (by omega)
      omega
theorem su_gap2 {x c : Nat → Nat} {h k : Nat} (hk : k ≤ h) : ∀ n, h < n → (∀ j, k ≤ j → j < n → j ≠ h → c j ≤ x j) → su c n + su x k ≤ su x n + su c k + c h
  | 0, hn, _ => by omega
  | n + 1, hn, hj => by
    rw [su_s, su_s]
    by_cases hh : h = n
    · subst hh
      have key : ∀ m, k ≤ m → m ≤ h → su c m + su x k ≤ su x m + su c k := by
        intro m
        induction m with
        | zero =>
          intro a _
          have : k = 0 := by omega
          subst this
          omega
        | succ m ih =>
          intro a b
          by_cases hm : k = m + 1
          · subst hm; omega
          · have := ih (by omega) (by omega)
            have := hj m (by omega) (by omega) (by omega)
            rw [su_s, su_s]
            omega
      have := key h hk (Nat.le_refl _)
      omega
    · have := su_gap2 hk n (by omega) (fun j a b => hj j a (by omega))
      have := hj n (by omega) (by omega) (by omega)
      omega
theorem pl_last {P : Nat → Prop} (h0 : P 0) : ∀ h, ∃ t, t ≤ h ∧ P t ∧ ∀ i, t < i → i ≤ h → ¬ P i
  | 0 => ⟨0, Nat.le_refl _, h0, fun i a b => by omega⟩
  | h + 1 => by
    by_cases hp : P (h + 1)
    · exact ⟨h + 1, Nat.le_refl _, hp, fun i a b => by omega⟩
    · obtain ⟨t, a, b, c⟩ := pl_last h0 h
      refine ⟨t, by omega, b, fun i p q => ?_⟩
      by_cases hi : i = h + 1
      · subst hi; exact hp
      · exact c i p (by omega)
theorem pl_fill {n L : Nat} {nd pr c : Nat → Nat} (hO : plO n L nd pr c) {F : Nat → Bool} {x : Nat → Nat} {h most : Nat} (hh : h < n) (hF : F h = false) (hx : ∀ j, j < n → F j = true → x j = c j) (x0 : ∀ j, F j = false → x j = 0)
    (hord : ∀ g, g < n → F g = false → g ≠ h → pr h < pr g ∨ (pr h = pr g ∧ h < g))
    (m1 : most ≤ L) (m2 : ∀ k, k ≤ h → most + su x n + su nd k ≤ su nd n + su x k) (m3 : most = L ∨ ∃ k, k ≤ h ∧ most + su x n + su nd k = su nd n + su x k) : most = c h := by
  obtain ⟨⟨f1, f2, f3⟩, hopt⟩ := hO
  have hle : ∀ j, j < n → x j ≤ c j := by
    intro j hj
    cases hFj : F j with
    | true => rw [hx j hj hFj]; exact Nat.le_refl _
    | false => rw [x0 j hFj]; exact Nat.zero_le _
  have hge : c h ≤ most := by
    rcases m3 with e | ⟨k, hk, e⟩
    · rw [e]; exact f1 h hh
    · have g1 := su_gap (x := x) (c := c) hk (x0 h hF) n hh (fun j _ hj => hle j hj)
      have g2 := f2 k (by omega)
      omega
  by_cases hlt : c h < most
  · exfalso
    obtain ⟨t, t1, t2, t3⟩ := pl_last (P := fun i => su c i = su nd i) rfl h
    have hm := m2 t t1
    have hex : ∃ g, t ≤ g ∧ g < n ∧ g ≠ h ∧ x g < c g := by
      by_cases hq : ∃ g, t ≤ g ∧ g < n ∧ g ≠ h ∧ x g < c g
      · exact hq
      · exfalso
        have g2 := su_gap2 (x := x) (c := c) t1 n hh (fun j a b e => by
          rcases Nat.lt_or_ge (x j) (c j) with q | q
          · exact absurd ⟨j, a, b, e, q⟩ hq
          · exact q)
        have t2' : su c t = su nd t := t2
        omega
    obtain ⟨g, a1, a2, a3, a4⟩ := hex
    have hFg : F g = false := by
      cases hFj : F g with
      | false => rfl
      | true => have := hx g a2 hFj; omega
    have hpr := hord g a2 hFg a3
    generalize he : (fun j => if j = h then c h + 1 else if j = g then c g - 1 else c j) = e
    have e1 : e h = c h + 1 := by rw [← he]; simp
    have e2 : e g + 1 = c g := by rw [← he]; simp [a3]; omega
    have e3 : ∀ j, j ≠ g → j ≠ h → e j = c j := fun j p q => by rw [← he]; simp [p, q]
    have s1 := su_ex a3 e1 e2 e3
    have s2 := su_ex (f := fun j => c j * pr j) (f' := fun j => e j * pr j) (a := pr g) (b := pr h) a3 (by simp only [e1, Nat.succ_mul]) (by simp only [← e2, Nat.succ_mul]) (fun j p q => by simp only [e3 j p q]) n
    have hfe : plF n L nd e := by
      refine ⟨fun j hj => ?_, fun i hi => ?_, ?_⟩
      · by_cases q1 : j = h
        · subst q1; omega
        · by_cases q2 : j = g
          · subst q2; have := f1 j hj; omega
          · rw [e3 j q2 q1]; exact f1 j hj
      · have := s1 i
        have b2 := f2 i hi
        by_cases q1 : g < i
        · by_cases q2 : h < i
          · simp only [q1, q2, if_true] at this; omega
          · simp only [q1, q2, if_true, if_false] at this
            have := t3 i (by omega) (by omega)
            have : ¬ su c i = su nd i := this
            omega
        · simp only [q1, if_false] at this
          omega
      · have := s1 n
        simp only [a2, hh, if_true] at this
        omega
    simp only [a2, hh, if_true] at s2
    have hc1 : plC pr e n + pr g = plC pr c n + pr h := s2
    rcases hopt e hfe with q | ⟨q1, q2⟩
    · omega
    · rcases hpr with p | ⟨p1, p2⟩
      · omega
      · rcases q2 with q2 | ⟨t', q3, q4, q5⟩
        · have := q2 h hh; omega
        · have ht' : t' = g := by
            by_cases r1 : t' = g
            · exact r1
            · by_cases r2 : t' = h
              · subst r2; omega
              · have := e3 t' r1 r2; omega
          subst ht'
          have := q4 h p2
          omega
  · omega
