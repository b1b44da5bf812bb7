/-! the reference's table: what it holds, and that the plan read off it is the best one -/
def dV (p up k : Nat) (g : Nat → Nat) : Nat → Nat
  | 0 => 268435456
  | j + 1 => if up ≤ k + j then (if dV p up k g j ≤ j * p + g (k + j) then dV p up k g j else j * p + g (k + j)) else dV p up k g j
def dR (n L : Nat) (nd pr : Nat → Nat) : Nat → Nat → Nat
  | 0, k => if k = su nd n then 0 else 268435456
  | m + 1, k => dV (pr (n - (m + 1))) (su nd (n - m)) k (dR n L nd pr m) (L + 1)
theorem dV_far (p up k : Nat) (g : Nat → Nat) : ∀ j, dV p up k g j ≤ 268435456
  | 0 => Nat.le_refl _
  | j + 1 => by
    have ih := dV_far p up k g j
    unfold dV
    split
    · split
      · exact ih
      · omega
    · exact ih
theorem dR_far (n L : Nat) (nd pr : Nat → Nat) : ∀ m k, dR n L nd pr m k ≤ 268435456
  | 0, k => by unfold dR; split <;> omega
  | m + 1, k => dV_far _ _ _ _ _
theorem dV_le {p up k : Nat} {g : Nat → Nat} : ∀ {j c : Nat}, c < j → up ≤ k + c → dV p up k g j ≤ c * p + g (k + c)
  | 0, c, h, _ => by omega
  | j + 1, c, h, hu => by
    unfold dV
    by_cases hc : c = j
    · subst hc
      simp only [hu, if_true]
      split
      · assumption
      · exact Nat.le_refl _
    · have ih := dV_le (p := p) (g := g) (show c < j by omega) hu
      split
      · split
        · exact ih
        · omega
      · exact ih
theorem dV_ex {p up k : Nat} {g : Nat → Nat} : ∀ {j : Nat}, dV p up k g j < 268435456 → ∃ c, c < j ∧ up ≤ k + c ∧ c * p + g (k + c) = dV p up k g j
  | 0, h => absurd h (by simp [dV])
  | j + 1, h => by
    unfold dV at h ⊢
    split
    · next hu =>
      simp only [hu, if_true] at h
      split
      · next hle =>
        simp only [hle, if_true] at h
        obtain ⟨c, a, b, e⟩ := dV_ex h
        exact ⟨c, by omega, b, e⟩
      · exact ⟨j, by omega, hu, rfl⟩
    · next hu =>
      simp only [hu, if_false] at h
      obtain ⟨c, a, b, e⟩ := dV_ex h
      exact ⟨c, by omega, b, e⟩
def dMx (P : Nat → Bool) : Nat → Nat
  | 0 => 0
  | h + 1 => if P (h + 1) then h + 1 else dMx P h
theorem dMx_le (P : Nat → Bool) : ∀ h, dMx P h ≤ h
  | 0 => Nat.le_refl _
  | h + 1 => by
    have := dMx_le P h
    unfold dMx
    split <;> omega
theorem dMx_top {P : Nat → Bool} : ∀ {h e : Nat}, dMx P h < e → e ≤ h → P e = false
  | 0, e, a, b => by omega
  | h + 1, e, a, b => by
    unfold dMx at a
    split at a
    · omega
    · next hp =>
      by_cases he : e = h + 1
      · subst he; simpa using hp
      · exact dMx_top a (by omega)
theorem dMx_ok {P : Nat → Bool} : ∀ {h c : Nat}, c ≤ h → P c = true → P (dMx P h) = true
  | 0, c, a, b => by
    have : c = 0 := by omega
    subst this
    exact b
  | h + 1, c, a, b => by
    unfold dMx
    split
    · assumption
    · next hp =>
      by_cases he : c = h + 1
      · subst he; exact absurd b hp
      · exact dMx_ok (show c ≤ h by omega) b
def dOk (n L : Nat) (nd pr : Nat → Nat) (i a c : Nat) : Bool := decide (su nd (i + 1) ≤ a + c) && decide (c * pr i + dR n L nd pr (n - (i + 1)) (a + c) = dR n L nd pr (n - i) a)
def dA (n L : Nat) (nd pr : Nat → Nat) : Nat → Nat
  | 0 => 0
  | i + 1 => dA n L nd pr i + dMx (dOk n L nd pr i (dA n L nd pr i)) L
def dc (n L : Nat) (nd pr : Nat → Nat) (i : Nat) : Nat := dMx (dOk n L nd pr i (dA n L nd pr i)) L
theorem dA_su (n L : Nat) (nd pr : Nat → Nat) : ∀ i, su (dc n L nd pr) i = dA n L nd pr i
  | 0 => rfl
  | i + 1 => by rw [su_s, dA_su n L nd pr i]; rfl
theorem dA_le (n L : Nat) (nd pr : Nat → Nat) : ∀ i, dA n L nd pr i ≤ L * i
  | 0 => Nat.zero_le _
  | i + 1 => by
    have h1 := dA_le n L nd pr i
    have h2 := dMx_le (dOk n L nd pr i (dA n L nd pr i)) L
    rw [Nat.mul_succ]
    show dA n L nd pr i + dMx (dOk n L nd pr i (dA n L nd pr i)) L ≤ _
    omega
section DP
variable {n L : Nat} {nd pr : Nat → Nat}
theorem dR_s {i : Nat} (hi : i < n) (k : Nat) : dR n L nd pr (n - i) k = dV (pr i) (su nd (i + 1)) k (dR n L nd pr (n - (i + 1))) (L + 1) := by
  obtain ⟨m, hm⟩ : ∃ m, n - i = m + 1 := ⟨n - i - 1, by omega⟩
  rw [hm]
  have e1 : n - (m + 1) = i := by omega
  have e2 : n - m = i + 1 := by omega
  have e3 : n - (i + 1) = m := by omega
  rw [e3]
  simp only [dR, e1, e2]
theorem dc_ok (h0 : dR n L nd pr n 0 < 268435456) : ∀ i, i ≤ n → dR n L nd pr (n - i) (dA n L nd pr i) < 268435456 ∧ (i < n → dOk n L nd pr i (dA n L nd pr i) (dc n L nd pr i) = true)
  | 0, _ => by
    refine ⟨h0, fun hn => ?_⟩
    have h1 : dR n L nd pr (n - 0) 0 < 268435456 := h0
    rw [dR_s hn] at h1
    obtain ⟨c, a, b, e⟩ := dV_ex h1
    refine dMx_ok (c := c) (by omega) ?_
    show dOk n L nd pr 0 0 c = true
    simp only [dOk, Bool.and_eq_true, decide_eq_true_eq]
    exact ⟨b, by rw [e, dR_s hn]⟩
  | i + 1, hi => by
    obtain ⟨p, q⟩ := dc_ok h0 i (by omega)
    have q := q (by omega)
    simp only [dOk, Bool.and_eq_true, decide_eq_true_eq] at q
    have hA : dA n L nd pr (i + 1) = dA n L nd pr i + dc n L nd pr i := rfl
    have h1 : dR n L nd pr (n - (i + 1)) (dA n L nd pr (i + 1)) < 268435456 := by
      rw [hA]
      omega
    refine ⟨h1, fun hn => ?_⟩
    rw [dR_s hn] at h1
    obtain ⟨c, a, b, e⟩ := dV_ex h1
    refine dMx_ok (c := c) (by omega) ?_
    simp only [dOk, Bool.and_eq_true, decide_eq_true_eq]
    exact ⟨b, by rw [e, dR_s hn]⟩
theorem dp_low {e : Nat → Nat} (he : plF n L nd e) : ∀ m, m ≤ n → dR n L nd pr m (su e (n - m)) + plC pr e (n - m) ≤ plC pr e n
  | 0, _ => by
    rw [Nat.sub_zero]
    simp only [dR, he.2.2, if_true]
    omega
  | m + 1, hm => by
    have ih := dp_low he m (by omega)
    obtain ⟨i, hi⟩ : ∃ i, n - (m + 1) = i := ⟨_, rfl⟩
    have e1 : n - m = i + 1 := by omega
    have e2 : m + 1 = n - i := by omega
    have e3 : m = n - (i + 1) := by omega
    rw [hi, e2, dR_s (by omega), ← e3]
    rw [e1] at ih
    have h1 := dV_le (p := pr i) (g := dR n L nd pr m) (j := L + 1) (c := e i) (up := su nd (i + 1)) (k := su e i) (by have := he.1 i (by omega); omega) (by rw [← su_s]; exact he.2.1 (i + 1) (by omega))
    have h2 : plC pr e (i + 1) = plC pr e i + e i * pr i := rfl
    rw [su_s] at ih
    omega
theorem pl_diff (c e : Nat → Nat) : ∀ n, (∀ j, j < n → e j = c j) ∨ ∃ t, t < n ∧ (∀ j, j < t → e j = c j) ∧ e t ≠ c t
  | 0 => Or.inl (fun j hj => by omega)
  | n + 1 => by
    rcases pl_diff c e n with h | ⟨t, a, b, d⟩
    · by_cases hn : e n = c n
      · refine Or.inl (fun j hj => ?_)
        by_cases hjn : j = n
        · subst hjn; exact hn
        · exact h j (by omega)
      · exact Or.inr ⟨n, by omega, h, hn⟩
    · exact Or.inr ⟨t, by omega, b, d⟩
theorem dp_best (h0 : dR n L nd pr n 0 < 268435456) : plO n L nd pr (dc n L nd pr) ∧ plC pr (dc n L nd pr) n = dR n L nd pr n 0 := by
  have hok := fun i (hi : i < n) => (dc_ok (pr := pr) h0 i (by omega)).2 hi
  have hsum : ∀ i, i ≤ n → dR n L nd pr (n - i) (dA n L nd pr i) + plC pr (dc n L nd pr) i = dR n L nd pr n 0 := by
    intro i
    induction i with
    | zero => intro _; rfl
    | succ i ih =>
      intro hi
      have h1 := ih (by omega)
      have h2 := hok i (by omega)
      simp only [dOk, Bool.and_eq_true, decide_eq_true_eq] at h2
      have h3 : plC pr (dc n L nd pr) (i + 1) = plC pr (dc n L nd pr) i + dc n L nd pr i * pr i := rfl
      have hA : dA n L nd pr (i + 1) = dA n L nd pr i + dc n L nd pr i := rfl
      rw [hA]
      omega
  have hn := hsum n (Nat.le_refl _)
  rw [Nat.sub_self] at hn
  have htot : dA n L nd pr n = su nd n := by
    by_cases hq : dA n L nd pr n = su nd n
    · exact hq
    · simp only [dR, hq, if_false] at hn
      omega
  have hcost : plC pr (dc n L nd pr) n = dR n L nd pr n 0 := by
    simp only [dR, htot, if_true] at hn
    omega
  have hF : plF n L nd (dc n L nd pr) := by
    refine ⟨fun j _ => dMx_le _ _, fun t ht => ?_, by rw [dA_su]; exact htot⟩
    cases t with
    | zero => exact Nat.le_refl _
    | succ i =>
      have h2 := hok i (by omega)
      simp only [dOk, Bool.and_eq_true, decide_eq_true_eq] at h2
      rw [su_s (dc n L nd pr), dA_su]
      exact h2.1
  refine ⟨⟨hF, fun e he => ?_⟩, hcost⟩
  have hlow := dp_low (pr := pr) he n (Nat.le_refl _)
  rw [Nat.sub_self] at hlow
  have hs0 : su e 0 = 0 := rfl
  have hp0 : plC pr e 0 = 0 := rfl
  rw [hs0, hp0] at hlow
  by_cases hlt : plC pr (dc n L nd pr) n < plC pr e n
  · exact Or.inl hlt
  · have heq : plC pr (dc n L nd pr) n = plC pr e n := by omega
    refine Or.inr ⟨heq, ?_⟩
    rcases pl_diff (dc n L nd pr) e n with h | ⟨t, t1, t2, t3⟩
    · exact Or.inl h
    · refine Or.inr ⟨t, t1, t2, ?_⟩
      by_cases hge : e t < dc n L nd pr t
      · exact hge
      · exfalso
        have s1 : su e t = dA n L nd pr t := by rw [su_congr t2, dA_su]
        have s2 : plC pr e t = plC pr (dc n L nd pr) t := su_congr (fun j hj => by rw [t2 j hj])
        have hL := he.1 t t1
        have hup := he.2.1 (t + 1) (by omega)
        rw [su_s e, s1] at hup
        have hle := dV_le (p := pr t) (g := dR n L nd pr (n - (t + 1))) (j := L + 1) (c := e t) (up := su nd (t + 1)) (k := dA n L nd pr t) (by omega) hup
        rw [← dR_s t1] at hle
        have h1 := dp_low (pr := pr) he (n - (t + 1)) (by omega)
        rw [show n - (n - (t + 1)) = t + 1 by omega, su_s, s1] at h1
        have h2 : plC pr e (t + 1) = plC pr e t + e t * pr t := rfl
        have h3 := hsum t (by omega)
        have hbad : dOk n L nd pr t (dA n L nd pr t) (e t) = true := by
          simp only [dOk, Bool.and_eq_true, decide_eq_true_eq]
          exact ⟨hup, by omega⟩
        rw [dMx_top (P := dOk n L nd pr t (dA n L nd pr t)) (h := L) (e := e t) (by show dc n L nd pr t < e t; omega) hL] at hbad
        cases hbad
theorem dp_none (hL : L ≤ 20) (hn : n ≤ 12) (hpr : ∀ i, i < n → pr i ≤ 1000) (h0 : 268435456 ≤ dR n L nd pr n 0) {e : Nat → Nat} (he : plF n L nd e) : False := by
  have hlow := dp_low (pr := pr) he n (Nat.le_refl _)
  rw [Nat.sub_self] at hlow
  have hs0 : su e 0 = 0 := rfl
  have hp0 : plC pr e 0 = 0 := rfl
  rw [hs0, hp0] at hlow
  have hb : plC pr e n ≤ 20000 * n := by
    refine su_bound (fun j hj => ?_)
    have a := he.1 j hj
    have b := hpr j hj
    have := Nat.mul_le_mul (show e j ≤ 20 by omega) b
    omega
  omega
/-- both plans are one -/
theorem dp_join (hL : L ≤ 20) (hn : n ≤ 12) (hpr : ∀ i, i < n → pr i ≤ 1000) {x : Nat → Nat} (hx : ∀ c, plO n L nd pr c → ∀ j, j < n → x j = c j) :
    (plF n L nd x → dR n L nd pr n 0 < 268435456 ∧ plC pr x n = dR n L nd pr n 0 ∧ ∀ j, j < n → x j = dc n L nd pr j) ∧ (¬ su x n = su nd n → 268435456 ≤ dR n L nd pr n 0) := by
  constructor
  · intro hf
    have h0 : dR n L nd pr n 0 < 268435456 := by
      rcases Nat.lt_or_ge (dR n L nd pr n 0) 268435456 with q | q
      · exact q
      · exact (dp_none hL hn hpr q hf).elim
    obtain ⟨hO, hc⟩ := dp_best h0
    have hj := hx _ hO
    refine ⟨h0, ?_, hj⟩
    rw [← hc]
    exact su_congr (fun j hj2 => by rw [hj j hj2])
  · intro hne
    rcases Nat.lt_or_ge (dR n L nd pr n 0) 268435456 with q | q
    · obtain ⟨hO, hc⟩ := dp_best q
      have hj := hx _ hO
      exact absurd (by rw [su_congr hj]; exact hO.1.2.2) hne
    · exact q
end DP
