/-! the class and the reference hold the same -/
def iInv (σ : iv_S) : Prop := ∃ nc np hr nn nk nq nr ns : Nat,
  (nc ≤ 6 ∧ np ≤ 30 ∧ hr ≤ 10000 ∧ nn ≤ 12 ∧ nk ≤ 12 ∧ nq ≤ 6 ∧ nr ≤ 12 ∧ ns ≤ 8) ∧
  (σ 4 2 = nI nc ∧ σ 12 5 = nI np ∧ σ 0 7 = nI hr ∧ σ 18 5 = nI nn ∧ σ 18 6 = nI nk ∧ σ 24 4 = nI nq ∧ σ 30 2 = nI nr ∧ σ 33 2 = nI ns) ∧
  (σ 37 1 = nI nc ∧ σ 37 6 = nI np ∧ σ 37 9 = nI hr ∧ σ 37 11 = nI nn ∧ σ 37 13 = nI nk ∧ σ 37 15 = nI nq ∧ σ 37 18 = nI nr ∧ σ 37 21 = nI ns ∧ σ 37 22 = σ 29 3) ∧
  (σ 43 = σ 1 ∧ σ 44 = σ 2 ∧ σ 39 = σ 13 ∧ σ 40 = σ 14 ∧ σ 42 = σ 15 ∧ σ 41 = σ 16 ∧ σ 45 = σ 19 ∧ σ 48 = σ 31 ∧ σ 49 = σ 32 ∧ σ 50 = σ 34 ∧ σ 51 = σ 35) ∧
  (∀ j, σ 38 (7 * j) = σ 5 j ∧ σ 38 (7 * j + 1) = σ 6 j ∧ σ 38 (7 * j + 2) = σ 7 j ∧ σ 38 (7 * j + 3) = σ 8 j ∧ σ 38 (7 * j + 4) = σ 9 j ∧ σ 38 (7 * j + 5) = σ 10 j ∧ σ 38 (7 * j + 6) = σ 11 j) ∧
  ((∀ i, i < nk → σ 46 i = σ 23 i) ∧ (∀ i, i < nq → σ 47 i = σ 28 i)) ∧
  ((∀ j, j < nc → (∃ l, l ≤ 8 ∧ σ 8 j = nI l) ∧ zT (σ 5 j) ∧ zT (σ 6 j)) ∧ (∀ j, j < 24 → ∃ v, v ≤ 1000 ∧ σ 2 j = nI v) ∧ (∀ i, i < nn → ∃ v, v ≤ 20 ∧ σ 19 i = nI v) ∧ (∀ r, r < nr → zT (σ 31 r) ∧ zT (σ 32 r)) ∧ (∀ r, r < ns → zT (σ 34 r) ∧ zT (σ 35 r)) ∧ zLH np hr (σ 17) ∧ ∀ c, c < 6 → σ 26 c = 0)
/-- one call on both: what the class answers the reference answers, and they hold the same again -/
def iRel (X : iv_X) (yC yM : iv_M) (av : List iv_V) (σ : iv_S) : Prop := ∃ Q, iv_Ct X yC 20 (.inl 0 :: av) σ Q ∧ ∀ r σ1, Q r σ1 → ∃ Q', iv_Ct X yM 20 (.inl 37 :: av) σ1 Q' ∧ ∀ r' σ2, Q' r' σ2 → r = r' ∧ iInv σ2
theorem zT_of {v : Int32} (h : zw v 0 99 = true) : zT v := by
  rw [zw_t, z_le, z_le] at h
  exact h
theorem zw_ex {v : Int32} {n : Nat} (hn : n < 2 ^ 30) (h : zw v 0 (nI n) = true) : ∃ l, l ≤ n ∧ v = nI l := by
  obtain ⟨a, b⟩ := z_idx0 hn h
  exact ⟨_, a, b⟩
theorem iInv_thr {σ : iv_S} (hI : iInv σ) (v : Int32) : iInv (iv_u σ 37 23 v) := by
  obtain ⟨nc, np, hr, nn, nk, nq, nr, ns, ⟨b1, b2, b3, b4, b5, b6, b7, b8⟩, ⟨c1, c2, c3, c4, c5, c6, c7, c8⟩, ⟨m1, m2, m3, m4, m5, m6, m7, m8, m9⟩, ⟨f1, f2, f3, f4, f5, f6, f7, f8, f9, f10, f11⟩, k1, ⟨p1, p2⟩, ⟨w1, w2, w3, w4, w5, w6, w7⟩⟩ := hI
  exact ⟨(nc), (np), (hr), (nn), (nk), (nq), (nr), (ns), ⟨(by first | exact b1 | (simpa [iv_u, upd] using b1)), (by first | exact b2 | (simpa [iv_u, upd] using b2)), (by first | exact b3 | (simpa [iv_u, upd] using b3)), (by first | exact b4 | (simpa [iv_u, upd] using b4)), (by first | exact b5 | (simpa [iv_u, upd] using b5)), (by first | exact b6 | (simpa [iv_u, upd] using b6)), (by first | exact b7 | (simpa [iv_u, upd] using b7)), (by first | exact b8 | (simpa [iv_u, upd] using b8))⟩, ⟨(by first | exact c1 | (simpa [iv_u, upd] using c1)), (by first | exact c2 | (simpa [iv_u, upd] using c2)), (by first | exact c3 | (simpa [iv_u, upd] using c3)), (by first | exact c4 | (simpa [iv_u, upd] using c4)), (by first | exact c5 | (simpa [iv_u, upd] using c5)), (by first | exact c6 | (simpa [iv_u, upd] using c6)), (by first | exact c7 | (simpa [iv_u, upd] using c7)), (by first | exact c8 | (simpa [iv_u, upd] using c8))⟩, ⟨(by first | exact m1 | (simpa [iv_u, upd] using m1)), (by first | exact m2 | (simpa [iv_u, upd] using m2)), (by first | exact m3 | (simpa [iv_u, upd] using m3)), (by first | exact m4 | (simpa [iv_u, upd] using m4)), (by first | exact m5 | (simpa [iv_u, upd] using m5)), (by first | exact m6 | (simpa [iv_u, upd] using m6)), (by first | exact m7 | (simpa [iv_u, upd] using m7)), (by first | exact m8 | (simpa [iv_u, upd] using m8)), (by first | exact m9 | (simpa [iv_u, upd] using m9))⟩, ⟨(by first | exact f1 | (simpa [iv_u, upd] using f1)), (by first | exact f2 | (simpa [iv_u, upd] using f2)), (by first | exact f3 | (simpa [iv_u, upd] using f3)), (by first | exact f4 | (simpa [iv_u, upd] using f4)), (by first | exact f5 | (simpa [iv_u, upd] using f5)), (by first | exact f6 | (simpa [iv_u, upd] using f6)), (by first | exact f7 | (simpa [iv_u, upd] using f7)), (by first | exact f8 | (simpa [iv_u, upd] using f8)), (by first | exact f9 | (simpa [iv_u, upd] using f9)), (by first | exact f10 | (simpa [iv_u, upd] using f10)), (by first | exact f11 | (simpa [iv_u, upd] using f11))⟩, (by first | exact k1 | (simpa [iv_u, upd] using k1)), ⟨(by first | exact p1 | (simpa [iv_u, upd] using p1)), (by first | exact p2 | (simpa [iv_u, upd] using p2))⟩, ⟨(by first | exact w1 | (simpa [iv_u, upd] using w1)), (by first | exact w2 | (simpa [iv_u, upd] using w2)), (by first | exact w3 | (simpa [iv_u, upd] using w3)), (by first | exact w4 | (simpa [iv_u, upd] using w4)), (by first | exact w5 | (simpa [iv_u, upd] using w5)), (by first | exact w6 | (simpa [iv_u, upd] using w6)), (by first | exact w7 | (simpa [iv_u, upd] using w7))⟩⟩
section YN
variable {X : iv_X} {σ : iv_S}
theorem rl_chosen (hI : iInv σ) : iRel X mX6_chosen mX7_chosen [] σ := by
  refine ⟨_, ct_chosen, ?_⟩
  rintro r σ1 ⟨rfl, rfl⟩
  refine ⟨_, ct_m_chosen rfl, ?_⟩
  rintro r' σ2 ⟨rfl, rfl⟩
  refine ⟨?_, iInv_thr hI _⟩
  obtain ⟨nc, np, hr, nn, nk, nq, nr, ns, ⟨b1, b2, b3, b4, b5, b6, b7, b8⟩, ⟨c1, c2, c3, c4, c5, c6, c7, c8⟩, ⟨m1, m2, m3, m4, m5, m6, m7, m8, m9⟩, ⟨f1, f2, f3, f4, f5, f6, f7, f8, f9, f10, f11⟩, k1, ⟨p1, p2⟩, ⟨w1, w2, w3, w4, w5, w6, w7⟩⟩ := hI
  simpa [iv_u, upd] using m9.symm
theorem rl_clear (hI : iInv σ) : iRel X mX6_clear mX7_clear [] σ := by
  refine ⟨_, ct_clear, ?_⟩
  rintro r σ1 ⟨rfl, rfl⟩
  refine ⟨_, ct_m_clear rfl, ?_⟩
  rintro r' σ2 ⟨rfl, rfl⟩
  obtain ⟨nc, np, hr, nn, nk, nq, nr, ns, ⟨b1, b2, b3, b4, b5, b6, b7, b8⟩, ⟨c1, c2, c3, c4, c5, c6, c7, c8⟩, ⟨m1, m2, m3, m4, m5, m6, m7, m8, m9⟩, ⟨f1, f2, f3, f4, f5, f6, f7, f8, f9, f10, f11⟩, k1, ⟨p1, p2⟩, ⟨w1, w2, w3, w4, w5, w6, w7⟩⟩ := hI
  refine ⟨by simpa [iv_u, upd, c4] using m4.symm, ?_⟩
  exact ⟨(nc), (np), (hr), (0), (nk), (nq), (0), (0), ⟨(by first | exact b1 | (simpa [iv_u, upd] using b1)), (by first | exact b2 | (simpa [iv_u, upd] using b2)), (by first | exact b3 | (simpa [iv_u, upd] using b3)), Nat.zero_le _, (by first | exact b5 | (simpa [iv_u, upd] using b5)), (by first | exact b6 | (simpa [iv_u, upd] using b6)), Nat.zero_le _, Nat.zero_le _⟩, ⟨(by first | exact c1 | (simpa [iv_u, upd] using c1)), (by first | exact c2 | (simpa [iv_u, upd] using c2)), (by first | exact c3 | (simpa [iv_u, upd] using c3)), (by simp [iv_u, upd, nI_0]), (by first | exact c5 | (simpa [iv_u, upd] using c5)), (by first | exact c6 | (simpa [iv_u, upd] using c6)), (by simp [iv_u, upd, nI_0]), (by simp [iv_u, upd, nI_0])⟩, ⟨(by first | exact m1 | (simpa [iv_u, upd] using m1)), (by first | exact m2 | (simpa [iv_u, upd] using m2)), (by first | exact m3 | (simpa [iv_u, upd] using m3)), (by simp [iv_u, upd, nI_0]), (by first | exact m5 | (simpa [iv_u, upd] using m5)), (by first | exact m6 | (simpa [iv_u, upd] using m6)), (by simp [iv_u, upd, nI_0]), (by simp [iv_u, upd, nI_0]), (by first | exact m9 | (simpa [iv_u, upd] using m9))⟩, ⟨(by first | exact f1 | (simpa [iv_u, upd] using f1)), (by first | exact f2 | (simpa [iv_u, upd] using f2)), (by first | exact f3 | (simpa [iv_u, upd] using f3)), (by first | exact f4 | (simpa [iv_u, upd] using f4)), (by first | exact f5 | (simpa [iv_u, upd] using f5)), (by first | exact f6 | (simpa [iv_u, upd] using f6)), (by first | exact f7 | (simpa [iv_u, upd] using f7)), (by first | exact f8 | (simpa [iv_u, upd] using f8)), (by first | exact f9 | (simpa [iv_u, upd] using f9)), (by first | exact f10 | (simpa [iv_u, upd] using f10)), (by first | exact f11 | (simpa [iv_u, upd] using f11))⟩, (by first | exact k1 | (simpa [iv_u, upd] using k1)), ⟨(by first | exact p1 | (simpa [iv_u, upd] using p1)), (by first | exact p2 | (simpa [iv_u, upd] using p2))⟩, ⟨(by first | exact w1 | (simpa [iv_u, upd] using w1)), (by first | exact w2 | (simpa [iv_u, upd] using w2)), (fun i hi => by omega), (fun i hi => by omega), (fun i hi => by omega), (by first | exact w6 | (simpa [iv_u, upd] using w6)), (by first | exact w7 | (simpa [iv_u, upd] using w7))⟩⟩
theorem rl_price (hI : iInv σ) (h v : Int32) : iRel X mX6_price mX7_price [.inr h, .inr v] σ := by
  refine ⟨_, ct_price h v, ?_⟩
  rintro r σ1 ⟨rfl, rfl⟩
  refine ⟨_, ct_m_price rfl h v, ?_⟩
  rintro r' σ2 ⟨rfl, rfl⟩
  refine ⟨rfl, ?_⟩
  by_cases hz : (zw h 0 23 && zw v 0 1000) = true
  · simp only [hz, if_true]
    obtain ⟨z1, z2⟩ := Bool.and_eq_true_iff.mp hz
    obtain ⟨nc, np, hr, nn, nk, nq, nr, ns, ⟨b1, b2, b3, b4, b5, b6, b7, b8⟩, ⟨c1, c2, c3, c4, c5, c6, c7, c8⟩, ⟨m1, m2, m3, m4, m5, m6, m7, m8, m9⟩, ⟨f1, f2, f3, f4, f5, f6, f7, f8, f9, f10, f11⟩, k1, ⟨p1, p2⟩, ⟨w1, w2, w3, w4, w5, w6, w7⟩⟩ := hI
    refine ⟨(nc), (np), (hr), (nn), (nk), (nq), (nr), (ns), ⟨(by first | exact b1 | (simpa [iv_u, upd] using b1)), (by first | exact b2 | (simpa [iv_u, upd] using b2)), (by first | exact b3 | (simpa [iv_u, upd] using b3)), (by first | exact b4 | (simpa [iv_u, upd] using b4)), (by first | exact b5 | (simpa [iv_u, upd] using b5)), (by first | exact b6 | (simpa [iv_u, upd] using b6)), (by first | exact b7 | (simpa [iv_u, upd] using b7)), (by first | exact b8 | (simpa [iv_u, upd] using b8))⟩, ⟨(by first | exact c1 | (simpa [iv_u, upd] using c1)), (by first | exact c2 | (simpa [iv_u, upd] using c2)), (by first | exact c3 | (simpa [iv_u, upd] using c3)), (by first | exact c4 | (simpa [iv_u, upd] using c4)), (by first | exact c5 | (simpa [iv_u, upd] using c5)), (by first | exact c6 | (simpa [iv_u, upd] using c6)), (by first | exact c7 | (simpa [iv_u, upd] using c7)), (by first | exact c8 | (simpa [iv_u, upd] using c8))⟩, ⟨(by first | exact m1 | (simpa [iv_u, upd] using m1)), (by first | exact m2 | (simpa [iv_u, upd] using m2)), (by first | exact m3 | (simpa [iv_u, upd] using m3)), (by first | exact m4 | (simpa [iv_u, upd] using m4)), (by first | exact m5 | (simpa [iv_u, upd] using m5)), (by first | exact m6 | (simpa [iv_u, upd] using m6)), (by first | exact m7 | (simpa [iv_u, upd] using m7)), (by first | exact m8 | (simpa [iv_u, upd] using m8)), (by first | exact m9 | (simpa [iv_u, upd] using m9))⟩, ⟨(by first | exact f1 | (simpa [iv_u, upd] using f1)), (by simp [iv_u, f2]), (by first | exact f3 | (simpa [iv_u, upd] using f3)), (by first | exact f4 | (simpa [iv_u, upd] using f4)), (by first | exact f5 | (simpa [iv_u, upd] using f5)), (by first | exact f6 | (simpa [iv_u, upd] using f6)), (by first | exact f7 | (simpa [iv_u, upd] using f7)), (by first | exact f8 | (simpa [iv_u, upd] using f8)), (by first | exact f9 | (simpa [iv_u, upd] using f9)), (by first | exact f10 | (simpa [iv_u, upd] using f10)), (by first | exact f11 | (simpa [iv_u, upd] using f11))⟩, (by first | exact k1 | (simpa [iv_u, upd] using k1)), ⟨(by first | exact p1 | (simpa [iv_u, upd] using p1)), (by first | exact p2 | (simpa [iv_u, upd] using p2))⟩, ⟨(by first | exact w1 | (simpa [iv_u, upd] using w1)), ?_, (by first | exact w3 | (simpa [iv_u, upd] using w3)), (by first | exact w4 | (simpa [iv_u, upd] using w4)), (by first | exact w5 | (simpa [iv_u, upd] using w5)), (by first | exact w6 | (simpa [iv_u, upd] using w6)), (by first | exact w7 | (simpa [iv_u, upd] using w7))⟩⟩
    intro j hj
    by_cases hj2 : j = h.toNatClampNeg
    · subst hj2
      obtain ⟨l, q1, q2⟩ := zw_ex (n := 1000) (by decide) z2
      exact ⟨l, q1, by simp [iv_u, upd, q2]⟩
    · simpa [iv_u, upd, hj2] using w2 j hj
  · simp only [hz, if_false]
    exact iInv_thr hI _
theorem rl_sick (hI : iInv σ) (p b : Int32) : iRel X mX6_sick mX7_sick [.inr p, .inr b] σ := by
  obtain ⟨nc, np, hr, nn, nk, nq, nr, ns, ⟨b1, b2, b3, b4, b5, b6, b7, b8⟩, ⟨c1, c2, c3, c4, c5, c6, c7, c8⟩, ⟨m1, m2, m3, m4, m5, m6, m7, m8, m9⟩, ⟨f1, f2, f3, f4, f5, f6, f7, f8, f9, f10, f11⟩, k1, ⟨p1, p2⟩, ⟨w1, w2, w3, w4, w5, w6, w7⟩⟩ := id hI
  refine ⟨_, ct_sick c2 b2 p b, ?_⟩
  rintro r σ1 ⟨rfl, rfl⟩
  refine ⟨_, ct_m_sick (n := np) rfl (by split <;> simpa [iv_u, upd] using m2) b2 p b, ?_⟩
  rintro r' σ2 ⟨rfl, rfl⟩
  refine ⟨rfl, ?_⟩
  by_cases hz : zw p 0 (nI np - 1) = true
  · simp only [hz, if_true]
    exact ⟨(nc), (np), (hr), (nn), (nk), (nq), (nr), (ns), ⟨(by first | exact b1 | (simpa [iv_u, upd] using b1)), (by first | exact b2 | (simpa [iv_u, upd] using b2)), (by first | exact b3 | (simpa [iv_u, upd] using b3)), (by first | exact b4 | (simpa [iv_u, upd] using b4)), (by first | exact b5 | (simpa [iv_u, upd] using b5)), (by first | exact b6 | (simpa [iv_u, upd] using b6)), (by first | exact b7 | (simpa [iv_u, upd] using b7)), (by first | exact b8 | (simpa [iv_u, upd] using b8))⟩, ⟨(by first | exact c1 | (simpa [iv_u, upd] using c1)), (by first | exact c2 | (simpa [iv_u, upd] using c2)), (by first | exact c3 | (simpa [iv_u, upd] using c3)), (by first | exact c4 | (simpa [iv_u, upd] using c4)), (by first | exact c5 | (simpa [iv_u, upd] using c5)), (by first | exact c6 | (simpa [iv_u, upd] using c6)), (by first | exact c7 | (simpa [iv_u, upd] using c7)), (by first | exact c8 | (simpa [iv_u, upd] using c8))⟩, ⟨(by first | exact m1 | (simpa [iv_u, upd] using m1)), (by first | exact m2 | (simpa [iv_u, upd] using m2)), (by first | exact m3 | (simpa [iv_u, upd] using m3)), (by first | exact m4 | (simpa [iv_u, upd] using m4)), (by first | exact m5 | (simpa [iv_u, upd] using m5)), (by first | exact m6 | (simpa [iv_u, upd] using m6)), (by first | exact m7 | (simpa [iv_u, upd] using m7)), (by first | exact m8 | (simpa [iv_u, upd] using m8)), (by first | exact m9 | (simpa [iv_u, upd] using m9))⟩, ⟨(by first | exact f1 | (simpa [iv_u, upd] using f1)), (by first | exact f2 | (simpa [iv_u, upd] using f2)), (by first | exact f3 | (simpa [iv_u, upd] using f3)), (by first | exact f4 | (simpa [iv_u, upd] using f4)), (by simp [iv_u, f5]), (by first | exact f6 | (simpa [iv_u, upd] using f6)), (by first | exact f7 | (simpa [iv_u, upd] using f7)), (by first | exact f8 | (simpa [iv_u, upd] using f8)), (by first | exact f9 | (simpa [iv_u, upd] using f9)), (by first | exact f10 | (simpa [iv_u, upd] using f10)), (by first | exact f11 | (simpa [iv_u, upd] using f11))⟩, (by first | exact k1 | (simpa [iv_u, upd] using k1)), ⟨(by first | exact p1 | (simpa [iv_u, upd] using p1)), (by first | exact p2 | (simpa [iv_u, upd] using p2))⟩, ⟨(by first | exact w1 | (simpa [iv_u, upd] using w1)), (by first | exact w2 | (simpa [iv_u, upd] using w2)), (by first | exact w3 | (simpa [iv_u, upd] using w3)), (by first | exact w4 | (simpa [iv_u, upd] using w4)), (by first | exact w5 | (simpa [iv_u, upd] using w5)), (by first | exact w6 | (simpa [iv_u, upd] using w6)), (by first | exact w7 | (simpa [iv_u, upd] using w7))⟩⟩
  · simp only [hz, if_false]
    exact iInv_thr hI _
theorem gSlot_eq {nc np : Nat} {hm sl sl' : Nat → Int32} (h : ∀ j, sl j = sl' j) : gSlot nc np hm sl = gSlot nc np hm sl' := by
  rw [funext h]
theorem rl_cabinet (hI : iInv σ) (x y s l m : Int32) : iRel X mX6_cabinet mX7_cabinet [.inr x, .inr y, .inr s, .inr l, .inr m] σ := by
  obtain ⟨nc, np, hr, nn, nk, nq, nr, ns, ⟨b1, b2, b3, b4, b5, b6, b7, b8⟩, ⟨c1, c2, c3, c4, c5, c6, c7, c8⟩, ⟨m1, m2, m3, m4, m5, m6, m7, m8, m9⟩, ⟨f1, f2, f3, f4, f5, f6, f7, f8, f9, f10, f11⟩, k1, ⟨p1, p2⟩, ⟨w1, w2, w3, w4, w5, w6, w7⟩⟩ := id hI
  refine ⟨_, ct_cabinet c1 b1 x y s l m, ?_⟩
  rintro r σ1 ⟨q1, q2⟩
  cases hz : (zw x 0 99 && (zw y 0 99 && (zw s 1 8 && (zw l 0 8 && (zw m 0 8 && decide (nc < 6)))))) with
  | false =>
    obtain ⟨rfl, rfl⟩ := q2 hz
    refine ⟨_, ct_m_cabinet (nc := nc) rfl (by simpa [iv_u, upd] using m1) b1 x y s l m, ?_⟩
    rintro r' σ2 ⟨-, q4⟩
    obtain ⟨rfl, rfl⟩ := q4 hz
    exact ⟨rfl, iInv_thr hI _⟩
  | true =>
    obtain ⟨rfl, rfl⟩ := q1 hz
    refine ⟨_, ct_m_cabinet (nc := nc) rfl (by simpa [iv_u, upd] using m1) b1 x y s l m, ?_⟩
    rintro r' σ2 ⟨q3, -⟩
    obtain ⟨rfl, rfl⟩ := q3 hz
    refine ⟨rfl, ?_⟩
    simp only [Bool.and_eq_true, decide_eq_true_eq] at hz
    obtain ⟨z1, z2, z3, z4, z5, z6⟩ := hz
    have hk : ∀ j, j ≠ nc → ∀ s t, s < 7 → t < 7 → 7 * j + s ≠ 7 * nc + t := fun j hj s t hs ht => by omega
    refine ⟨(nc + 1), (np), (hr), (nn), (nk), (nq), (nr), (ns), ⟨(by omega), (by first | exact b2 | (simpa [iv_u, upd] using b2)), (by first | exact b3 | (simpa [iv_u, upd] using b3)), (by first | exact b4 | (simpa [iv_u, upd] using b4)), (by first | exact b5 | (simpa [iv_u, upd] using b5)), (by first | exact b6 | (simpa [iv_u, upd] using b6)), (by first | exact b7 | (simpa [iv_u, upd] using b7)), (by first | exact b8 | (simpa [iv_u, upd] using b8))⟩, ⟨(by simp [iv_u, upd]), (by first | exact c2 | (simpa [iv_u, upd] using c2)), (by first | exact c3 | (simpa [iv_u, upd] using c3)), (by first | exact c4 | (simpa [iv_u, upd] using c4)), (by first | exact c5 | (simpa [iv_u, upd] using c5)), (by first | exact c6 | (simpa [iv_u, upd] using c6)), (by first | exact c7 | (simpa [iv_u, upd] using c7)), (by first | exact c8 | (simpa [iv_u, upd] using c8))⟩, ⟨(by simp [iv_u, upd]), (by first | exact m2 | (simpa [iv_u, upd] using m2)), (by first | exact m3 | (simpa [iv_u, upd] using m3)), (by first | exact m4 | (simpa [iv_u, upd] using m4)), (by first | exact m5 | (simpa [iv_u, upd] using m5)), (by first | exact m6 | (simpa [iv_u, upd] using m6)), (by first | exact m7 | (simpa [iv_u, upd] using m7)), (by first | exact m8 | (simpa [iv_u, upd] using m8)), (by first | exact m9 | (simpa [iv_u, upd] using m9))⟩, ⟨(by first | exact f1 | (simpa [iv_u, upd] using f1)), (by first | exact f2 | (simpa [iv_u, upd] using f2)), (by first | exact f3 | (simpa [iv_u, upd] using f3)), (by first | exact f4 | (simpa [iv_u, upd] using f4)), (by first | exact f5 | (simpa [iv_u, upd] using f5)), (by first | exact f6 | (simpa [iv_u, upd] using f6)), (by first | exact f7 | (simpa [iv_u, upd] using f7)), (by first | exact f8 | (simpa [iv_u, upd] using f8)), (by first | exact f9 | (simpa [iv_u, upd] using f9)), (by first | exact f10 | (simpa [iv_u, upd] using f10)), (by first | exact f11 | (simpa [iv_u, upd] using f11))⟩, ?_, ⟨(by first | exact p1 | (simpa [iv_u, upd] using p1)), (by first | exact p2 | (simpa [iv_u, upd] using p2))⟩, ⟨?_, (by first | exact w2 | (simpa [iv_u, upd] using w2)), (by first | exact w3 | (simpa [iv_u, upd] using w3)), (by first | exact w4 | (simpa [iv_u, upd] using w4)), (by first | exact w5 | (simpa [iv_u, upd] using w5)), (by first | exact w6 | (simpa [iv_u, upd] using w6)), (by first | exact w7 | (simpa [iv_u, upd] using w7))⟩⟩
    · intro j
      by_cases hj : j = nc
      · subst hj
        have kj := k1 j
        simp (disch := omega) only [iv_u_eq, iv_u_ne, upd_same, upd_ne]
        exact ⟨trivial, trivial, trivial, trivial, trivial, kj.2.2.2.2.2.1, kj.2.2.2.2.2.2⟩
      · simp (disch := omega) only [iv_u_eq, iv_u_ne, upd_ne]
        exact k1 j
    · intro j hj
      by_cases hj2 : j = nc
      · subst hj2
        simp (disch := omega) only [iv_u_eq, iv_u_ne, upd_same]
        exact ⟨zw_ex (n := 8) (by decide) z4, zT_of z1, zT_of z2⟩
      · simp (disch := omega) only [iv_u_eq, iv_u_ne, upd_ne]
        exact w1 j (by omega)
end YN
