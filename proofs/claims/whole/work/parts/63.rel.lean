section YO
variable {X : iv_X} {σ : iv_S}
theorem rl_count (hI : iInv σ) (w : Int32) : iRel X mX6_count mX7_count [.inr w] σ := by
  obtain ⟨nc, np, hr, nn, nk, nq, nr, ns, ⟨b1, b2, b3, b4, b5, b6, b7, b8⟩, ⟨c1, c2, c3, c4, c5, c6, c7, c8⟩, ⟨m1, m2, m3, m4, m5, m6, m7, m8, m9⟩, ⟨f1, f2, f3, f4, f5, f6, f7, f8, f9, f10, f11⟩, k1, ⟨p1, p2⟩, ⟨w1, w2, w3, w4, w5, w6, w7⟩⟩ := id hI
  refine ⟨_, ct_count c2 b2 c3 b3 w, ?_⟩
  rintro r σ1 ⟨rfl, rfl⟩
  refine ⟨_, ct_m_count (n := np) (h := hr) rfl (by simpa [iv_u, upd] using m2) b2 (by simpa [iv_u, upd] using m3) b3 w, ?_⟩
  rintro r' σ2 ⟨rfl, rfl⟩
  refine ⟨?_, iInv_thr hI _⟩
  simp only [iv_u_ne, iv_u_eq, ne_eq, Nat.reduceEqDiff, not_false_eq_true, upd_ne, c1, c2, c3, c4, c7, c8, m1, m2, m3, m4, m7, m8, f1, f2, f4, f5, f6]
theorem rl_in (hI : iInv σ) (c w : Int32) : iRel X mX6_in mX7_in_ [.inr c, .inr w] σ := by
  obtain ⟨nc, np, hr, nn, nk, nq, nr, ns, ⟨b1, b2, b3, b4, b5, b6, b7, b8⟩, ⟨c1, c2, c3, c4, c5, c6, c7, c8⟩, ⟨m1, m2, m3, m4, m5, m6, m7, m8, m9⟩, ⟨f1, f2, f3, f4, f5, f6, f7, f8, f9, f10, f11⟩, k1, ⟨p1, p2⟩, ⟨w1, w2, w3, w4, w5, w6, w7⟩⟩ := id hI
  refine ⟨_, ct_in c2 b2 c1 b1 c w, ?_⟩
  rintro r σ1 ⟨rfl, rfl⟩
  refine ⟨_, ct_m_in_ (n := np) (nc := nc) rfl (by simpa [iv_u, upd] using m2) b2 (by simpa [iv_u, upd] using m1) b1 c w, ?_⟩
  rintro r' σ2 ⟨rfl, rfl⟩
  refine ⟨?_, iInv_thr hI _⟩
  have k10 : ∀ j, σ1 38 (7 * j + 5) = σ1 10 j := fun j => (k1 j).2.2.2.2.2.1
  have k11 : ∀ j, σ1 38 (7 * j + 6) = σ1 11 j := fun j => (k1 j).2.2.2.2.2.2
  simp only [iv_u_ne, ne_eq, Nat.reduceEqDiff, not_false_eq_true, f1, f3, f4, f5, f6, k10, k11]
theorem rl_planned (hI : iInv σ) (i : Int32) : iRel X mX6_planned mX7_planned [.inr i] σ := by
  obtain ⟨nc, np, hr, nn, nk, nq, nr, ns, ⟨b1, b2, b3, b4, b5, b6, b7, b8⟩, ⟨c1, c2, c3, c4, c5, c6, c7, c8⟩, ⟨m1, m2, m3, m4, m5, m6, m7, m8, m9⟩, ⟨f1, f2, f3, f4, f5, f6, f7, f8, f9, f10, f11⟩, k1, ⟨p1, p2⟩, ⟨w1, w2, w3, w4, w5, w6, w7⟩⟩ := id hI
  refine ⟨_, ct_planned c5 b5 i, ?_⟩
  rintro r σ1 ⟨rfl, rfl⟩
  refine ⟨_, ct_m_planned (k := nk) rfl (by simpa [iv_u, upd] using m5) b5 i, ?_⟩
  rintro r' σ2 ⟨rfl, rfl⟩
  refine ⟨?_, iInv_thr hI _⟩
  by_cases hz : zw i 0 (nI nk - 1) = true
  · simp only [hz, if_true, iv_u_ne, ne_eq, Nat.reduceEqDiff, not_false_eq_true]
    exact (p1 _ (z_cln hz (by omega)).1).symm
  · simp only [hz, if_false, Bool.false_eq_true]
theorem rl_stop (hI : iInv σ) (i : Int32) : iRel X mX6_stop mX7_stop [.inr i] σ := by
  obtain ⟨nc, np, hr, nn, nk, nq, nr, ns, ⟨b1, b2, b3, b4, b5, b6, b7, b8⟩, ⟨c1, c2, c3, c4, c5, c6, c7, c8⟩, ⟨m1, m2, m3, m4, m5, m6, m7, m8, m9⟩, ⟨f1, f2, f3, f4, f5, f6, f7, f8, f9, f10, f11⟩, k1, ⟨p1, p2⟩, ⟨w1, w2, w3, w4, w5, w6, w7⟩⟩ := id hI
  refine ⟨_, ct_stop c6 b6 i, ?_⟩
  rintro r σ1 ⟨rfl, rfl⟩
  refine ⟨_, ct_m_stop (k := nq) rfl (by simpa [iv_u, upd] using m6) b6 i, ?_⟩
  rintro r' σ2 ⟨rfl, rfl⟩
  refine ⟨?_, iInv_thr hI _⟩
  by_cases hz : zw i 0 (nI nq - 1) = true
  · simp only [hz, if_true, iv_u_ne, ne_eq, Nat.reduceEqDiff, not_false_eq_true]
    exact (p2 _ (z_cln hz (by omega)).1).symm
  · simp only [hz, if_false, Bool.false_eq_true]
theorem rl_need (hI : iInv σ) (v : Int32) : iRel X mX6_need mX7_need [.inr v] σ := by
  obtain ⟨nc, np, hr, nn, nk, nq, nr, ns, ⟨b1, b2, b3, b4, b5, b6, b7, b8⟩, ⟨c1, c2, c3, c4, c5, c6, c7, c8⟩, ⟨m1, m2, m3, m4, m5, m6, m7, m8, m9⟩, ⟨f1, f2, f3, f4, f5, f6, f7, f8, f9, f10, f11⟩, k1, ⟨p1, p2⟩, ⟨w1, w2, w3, w4, w5, w6, w7⟩⟩ := id hI
  refine ⟨_, ct_need c4 b4 v, ?_⟩
  rintro r σ1 ⟨q1, q2⟩
  cases hz : (zw v 0 20 && decide (nn < 12)) with
  | false =>
    obtain ⟨rfl, rfl⟩ := q2 hz
    refine ⟨_, ct_m_need (n := nn) rfl (by simpa [iv_u, upd] using m4) b4 v, ?_⟩
    rintro r' σ2 ⟨-, q4⟩
    obtain ⟨rfl, rfl⟩ := q4 hz
    exact ⟨rfl, iInv_thr hI _⟩
  | true =>
    obtain ⟨rfl, rfl⟩ := q1 hz
    refine ⟨_, ct_m_need (n := nn) rfl (by simpa [iv_u, upd] using m4) b4 v, ?_⟩
    rintro r' σ2 ⟨q3, -⟩
    obtain ⟨rfl, rfl⟩ := q3 hz
    refine ⟨rfl, ?_⟩
    simp only [Bool.and_eq_true, decide_eq_true_eq] at hz
    obtain ⟨z1, z2⟩ := hz
    refine ⟨(nc), (np), (hr), (nn + 1), (nk), (nq), (nr), (ns), ⟨(by first | exact b1 | (simpa [iv_u, upd] using b1)), (by first | exact b2 | (simpa [iv_u, upd] using b2)), (by first | exact b3 | (simpa [iv_u, upd] using b3)), (by omega), (by first | exact b5 | (simpa [iv_u, upd] using b5)), (by first | exact b6 | (simpa [iv_u, upd] using b6)), (by first | exact b7 | (simpa [iv_u, upd] using b7)), (by first | exact b8 | (simpa [iv_u, upd] using b8))⟩, ⟨(by first | exact c1 | (simpa [iv_u, upd] using c1)), (by first | exact c2 | (simpa [iv_u, upd] using c2)), (by first | exact c3 | (simpa [iv_u, upd] using c3)), (by simp [iv_u, upd]), (by first | exact c5 | (simpa [iv_u, upd] using c5)), (by first | exact c6 | (simpa [iv_u, upd] using c6)), (by first | exact c7 | (simpa [iv_u, upd] using c7)), (by first | exact c8 | (simpa [iv_u, upd] using c8))⟩, ⟨(by first | exact m1 | (simpa [iv_u, upd] using m1)), (by first | exact m2 | (simpa [iv_u, upd] using m2)), (by first | exact m3 | (simpa [iv_u, upd] using m3)), (by simp [iv_u, upd]), (by first | exact m5 | (simpa [iv_u, upd] using m5)), (by first | exact m6 | (simpa [iv_u, upd] using m6)), (by first | exact m7 | (simpa [iv_u, upd] using m7)), (by first | exact m8 | (simpa [iv_u, upd] using m8)), (by first | exact m9 | (simpa [iv_u, upd] using m9))⟩, ⟨(by first | exact f1 | (simpa [iv_u, upd] using f1)), (by first | exact f2 | (simpa [iv_u, upd] using f2)), (by first | exact f3 | (simpa [iv_u, upd] using f3)), (by first | exact f4 | (simpa [iv_u, upd] using f4)), (by first | exact f5 | (simpa [iv_u, upd] using f5)), (by first | exact f6 | (simpa [iv_u, upd] using f6)), (by simp [iv_u, f7]), (by first | exact f8 | (simpa [iv_u, upd] using f8)), (by first | exact f9 | (simpa [iv_u, upd] using f9)), (by first | exact f10 | (simpa [iv_u, upd] using f10)), (by first | exact f11 | (simpa [iv_u, upd] using f11))⟩, (by first | exact k1 | (simpa [iv_u, upd] using k1)), ⟨(by first | exact p1 | (simpa [iv_u, upd] using p1)), (by first | exact p2 | (simpa [iv_u, upd] using p2))⟩, ⟨(by first | exact w1 | (simpa [iv_u, upd] using w1)), (by first | exact w2 | (simpa [iv_u, upd] using w2)), ?_, (by first | exact w4 | (simpa [iv_u, upd] using w4)), (by first | exact w5 | (simpa [iv_u, upd] using w5)), (by first | exact w6 | (simpa [iv_u, upd] using w6)), (by first | exact w7 | (simpa [iv_u, upd] using w7))⟩⟩
    intro j hj
    by_cases hj2 : j = nn
    · subst hj2
      simp (disch := omega) only [iv_u_eq, iv_u_ne, upd_same]
      exact zw_ex (n := 20) (by decide) z1
    · simp (disch := omega) only [iv_u_eq, iv_u_ne, upd_ne]
      exact w3 j (by omega)
theorem rl_wish (hI : iInv σ) (c v : Int32) : iRel X mX6_wish mX7_wish [.inr c, .inr v] σ := by
  obtain ⟨nc, np, hr, nn, nk, nq, nr, ns, ⟨b1, b2, b3, b4, b5, b6, b7, b8⟩, ⟨c1, c2, c3, c4, c5, c6, c7, c8⟩, ⟨m1, m2, m3, m4, m5, m6, m7, m8, m9⟩, ⟨f1, f2, f3, f4, f5, f6, f7, f8, f9, f10, f11⟩, k1, ⟨p1, p2⟩, ⟨w1, w2, w3, w4, w5, w6, w7⟩⟩ := id hI
  refine ⟨_, ct_wish c1 b1 c v, ?_⟩
  rintro r σ1 ⟨rfl, rfl⟩
  refine ⟨_, ct_m_wish (nc := nc) rfl (by split <;> simpa [iv_u, upd] using m1) b1 c v, ?_⟩
  rintro r' σ2 ⟨rfl, rfl⟩
  refine ⟨rfl, ?_⟩
  by_cases hz : (zw c 0 (nI nc - 1) && zw v 0 8) = true
  · simp only [hz, if_true]
    refine ⟨(nc), (np), (hr), (nn), (nk), (nq), (nr), (ns), ⟨(by first | exact b1 | (simpa [iv_u, upd] using b1)), (by first | exact b2 | (simpa [iv_u, upd] using b2)), (by first | exact b3 | (simpa [iv_u, upd] using b3)), (by first | exact b4 | (simpa [iv_u, upd] using b4)), (by first | exact b5 | (simpa [iv_u, upd] using b5)), (by first | exact b6 | (simpa [iv_u, upd] using b6)), (by first | exact b7 | (simpa [iv_u, upd] using b7)), (by first | exact b8 | (simpa [iv_u, upd] using b8))⟩, ⟨(by first | exact c1 | (simpa [iv_u, upd] using c1)), (by first | exact c2 | (simpa [iv_u, upd] using c2)), (by first | exact c3 | (simpa [iv_u, upd] using c3)), (by first | exact c4 | (simpa [iv_u, upd] using c4)), (by first | exact c5 | (simpa [iv_u, upd] using c5)), (by first | exact c6 | (simpa [iv_u, upd] using c6)), (by first | exact c7 | (simpa [iv_u, upd] using c7)), (by first | exact c8 | (simpa [iv_u, upd] using c8))⟩, ⟨(by first | exact m1 | (simpa [iv_u, upd] using m1)), (by first | exact m2 | (simpa [iv_u, upd] using m2)), (by first | exact m3 | (simpa [iv_u, upd] using m3)), (by first | exact m4 | (simpa [iv_u, upd] using m4)), (by first | exact m5 | (simpa [iv_u, upd] using m5)), (by first | exact m6 | (simpa [iv_u, upd] using m6)), (by first | exact m7 | (simpa [iv_u, upd] using m7)), (by first | exact m8 | (simpa [iv_u, upd] using m8)), (by first | exact m9 | (simpa [iv_u, upd] using m9))⟩, ⟨(by first | exact f1 | (simpa [iv_u, upd] using f1)), (by first | exact f2 | (simpa [iv_u, upd] using f2)), (by first | exact f3 | (simpa [iv_u, upd] using f3)), (by first | exact f4 | (simpa [iv_u, upd] using f4)), (by first | exact f5 | (simpa [iv_u, upd] using f5)), (by first | exact f6 | (simpa [iv_u, upd] using f6)), (by first | exact f7 | (simpa [iv_u, upd] using f7)), (by first | exact f8 | (simpa [iv_u, upd] using f8)), (by first | exact f9 | (simpa [iv_u, upd] using f9)), (by first | exact f10 | (simpa [iv_u, upd] using f10)), (by first | exact f11 | (simpa [iv_u, upd] using f11))⟩, ?_, ⟨(by first | exact p1 | (simpa [iv_u, upd] using p1)), (by first | exact p2 | (simpa [iv_u, upd] using p2))⟩, ⟨(by first | exact w1 | (simpa [iv_u, upd] using w1)), (by first | exact w2 | (simpa [iv_u, upd] using w2)), (by first | exact w3 | (simpa [iv_u, upd] using w3)), (by first | exact w4 | (simpa [iv_u, upd] using w4)), (by first | exact w5 | (simpa [iv_u, upd] using w5)), (by first | exact w6 | (simpa [iv_u, upd] using w6)), (by first | exact w7 | (simpa [iv_u, upd] using w7))⟩⟩
    intro j
    have kj := k1 j
    by_cases hj : j = c.toNatClampNeg
    · subst hj
      simp (disch := omega) only [iv_u_eq, iv_u_ne, upd_same, upd_ne]
      exact ⟨kj.1, kj.2.1, kj.2.2.1, kj.2.2.2.1, kj.2.2.2.2.1, kj.2.2.2.2.2.1, trivial⟩
    · simp (disch := omega) only [iv_u_eq, iv_u_ne, upd_ne]
      exact kj
  · simp only [hz, if_false]
    exact iInv_thr hI _
theorem rl_point (hI : iInv σ) (w x y : Int32) : iRel X mX6_point mX7_point [.inr w, .inr x, .inr y] σ := by
  obtain ⟨nc, np, hr, nn, nk, nq, nr, ns, ⟨b1, b2, b3, b4, b5, b6, b7, b8⟩, ⟨c1, c2, c3, c4, c5, c6, c7, c8⟩, ⟨m1, m2, m3, m4, m5, m6, m7, m8, m9⟩, ⟨f1, f2, f3, f4, f5, f6, f7, f8, f9, f10, f11⟩, k1, ⟨p1, p2⟩, ⟨w1, w2, w3, w4, w5, w6, w7⟩⟩ := id hI
  refine ⟨_, ct_point c7 b7 c8 b8 w x y, ?_⟩
  rintro r σ1 ⟨q1, q2, q3⟩
  by_cases hz : (zw w 0 1 && (zw x 0 99 && zw y 0 99)) = true
  · have hz' := hz
    simp only [Bool.and_eq_true] at hz'
    obtain ⟨z1, z2, z3⟩ := hz'
    by_cases hw : w = 0
    · by_cases h12 : nr < 12
      · obtain ⟨rfl, rfl⟩ := q1 hz hw h12
        refine ⟨_, ct_m_point (n := nr) (k := ns) rfl (by simpa [iv_u, upd] using m7) b7 (by simpa [iv_u, upd] using m8) b8 w x y, ?_⟩
        rintro r' σ2 ⟨t1, -, -⟩
        obtain ⟨rfl, rfl⟩ := t1 hz hw h12
        refine ⟨rfl, ?_⟩
        refine ⟨(nc), (np), (hr), (nn), (nk), (nq), (nr + 1), (ns), ⟨(by first | exact b1 | (simpa [iv_u, upd] using b1)), (by first | exact b2 | (simpa [iv_u, upd] using b2)), (by first | exact b3 | (simpa [iv_u, upd] using b3)), (by first | exact b4 | (simpa [iv_u, upd] using b4)), (by first | exact b5 | (simpa [iv_u, upd] using b5)), (by first | exact b6 | (simpa [iv_u, upd] using b6)), (by omega), (by first | exact b8 | (simpa [iv_u, upd] using b8))⟩, ⟨(by first | exact c1 | (simpa [iv_u, upd] using c1)), (by first | exact c2 | (simpa [iv_u, upd] using c2)), (by first | exact c3 | (simpa [iv_u, upd] using c3)), (by first | exact c4 | (simpa [iv_u, upd] using c4)), (by first | exact c5 | (simpa [iv_u, upd] using c5)), (by first | exact c6 | (simpa [iv_u, upd] using c6)), (by simp [iv_u, upd]), (by first | exact c8 | (simpa [iv_u, upd] using c8))⟩, ⟨(by first | exact m1 | (simpa [iv_u, upd] using m1)), (by first | exact m2 | (simpa [iv_u, upd] using m2)), (by first | exact m3 | (simpa [iv_u, upd] using m3)), (by first | exact m4 | (simpa [iv_u, upd] using m4)), (by first | exact m5 | (simpa [iv_u, upd] using m5)), (by first | exact m6 | (simpa [iv_u, upd] using m6)), (by simp [iv_u, upd]), (by first | exact m8 | (simpa [iv_u, upd] using m8)), (by first | exact m9 | (simpa [iv_u, upd] using m9))⟩, ⟨(by first | exact f1 | (simpa [iv_u, upd] using f1)), (by first | exact f2 | (simpa [iv_u, upd] using f2)), (by first | exact f3 | (simpa [iv_u, upd] using f3)), (by first | exact f4 | (simpa [iv_u, upd] using f4)), (by first | exact f5 | (simpa [iv_u, upd] using f5)), (by first | exact f6 | (simpa [iv_u, upd] using f6)), (by first | exact f7 | (simpa [iv_u, upd] using f7)), (by simp [iv_u, f8]), (by simp [iv_u, f9]), (by first | exact f10 | (simpa [iv_u, upd] using f10)), (by first | exact f11 | (simpa [iv_u, upd] using f11))⟩, (by first | exact k1 | (simpa [iv_u, upd] using k1)), ⟨(by first | exact p1 | (simpa [iv_u, upd] using p1)), (by first | exact p2 | (simpa [iv_u, upd] using p2))⟩, ⟨(by first | exact w1 | (simpa [iv_u, upd] using w1)), (by first | exact w2 | (simpa [iv_u, upd] using w2)), (by first | exact w3 | (simpa [iv_u, upd] using w3)), ?_, (by first | exact w5 | (simpa [iv_u, upd] using w5)), (by first | exact w6 | (simpa [iv_u, upd] using w6)), (by first | exact w7 | (simpa [iv_u, upd] using w7))⟩⟩
        intro j hj
        by_cases hj2 : j = nr
        · subst hj2
          simp (disch := omega) only [iv_u_eq, iv_u_ne, upd_same]
          exact ⟨zT_of z2, zT_of z3⟩
        · simp (disch := omega) only [iv_u_eq, iv_u_ne, upd_ne]
          exact w4 j (by omega)
      · obtain ⟨rfl, rfl⟩ := q3 (Or.inr (Or.inl ⟨hw, h12⟩))
        refine ⟨_, ct_m_point (n := nr) (k := ns) rfl (by simpa [iv_u, upd] using m7) b7 (by simpa [iv_u, upd] using m8) b8 w x y, ?_⟩
        rintro r' σ2 ⟨-, -, t3⟩
        obtain ⟨rfl, rfl⟩ := t3 (Or.inr (Or.inl ⟨hw, h12⟩))
        exact ⟨rfl, iInv_thr hI _⟩
    · by_cases h8 : ns < 8
      · obtain ⟨rfl, rfl⟩ := q2 hz hw h8
        refine ⟨_, ct_m_point (n := nr) (k := ns) rfl (by simpa [iv_u, upd] using m7) b7 (by simpa [iv_u, upd] using m8) b8 w x y, ?_⟩
        rintro r' σ2 ⟨-, t2, -⟩
        obtain ⟨rfl, rfl⟩ := t2 hz hw h8
        refine ⟨rfl, ?_⟩
        refine ⟨(nc), (np), (hr), (nn), (nk), (nq), (nr), (ns + 1), ⟨(by first | exact b1 | (simpa [iv_u, upd] using b1)), (by first | exact b2 | (simpa [iv_u, upd] using b2)), (by first | exact b3 | (simpa [iv_u, upd] using b3)), (by first | exact b4 | (simpa [iv_u, upd] using b4)), (by first | exact b5 | (simpa [iv_u, upd] using b5)), (by first | exact b6 | (simpa [iv_u, upd] using b6)), (by first | exact b7 | (simpa [iv_u, upd] using b7)), (by omega)⟩, ⟨(by first | exact c1 | (simpa [iv_u, upd] using c1)), (by first | exact c2 | (simpa [iv_u, upd] using c2)), (by first | exact c3 | (simpa [iv_u, upd] using c3)), (by first | exact c4 | (simpa [iv_u, upd] using c4)), (by first | exact c5 | (simpa [iv_u, upd] using c5)), (by first | exact c6 | (simpa [iv_u, upd] using c6)), (by first | exact c7 | (simpa [iv_u, upd] using c7)), (by simp [iv_u, upd])⟩, ⟨(by first | exact m1 | (simpa [iv_u, upd] using m1)), (by first | exact m2 | (simpa [iv_u, upd] using m2)), (by first | exact m3 | (simpa [iv_u, upd] using m3)), (by first | exact m4 | (simpa [iv_u, upd] using m4)), (by first | exact m5 | (simpa [iv_u, upd] using m5)), (by first | exact m6 | (simpa [iv_u, upd] using m6)), (by first | exact m7 | (simpa [iv_u, upd] using m7)), (by simp [iv_u, upd]), (by first | exact m9 | (simpa [iv_u, upd] using m9))⟩, ⟨(by first | exact f1 | (simpa [iv_u, upd] using f1)), (by first | exact f2 | (simpa [iv_u, upd] using f2)), (by first | exact f3 | (simpa [iv_u, upd] using f3)), (by first | exact f4 | (simpa [iv_u, upd] using f4)), (by first | exact f5 | (simpa [iv_u, upd] using f5)), (by first | exact f6 | (simpa [iv_u, upd] using f6)), (by first | exact f7 | (simpa [iv_u, upd] using f7)), (by first | exact f8 | (simpa [iv_u, upd] using f8)), (by first | exact f9 | (simpa [iv_u, upd] using f9)), (by simp [iv_u, f10]), (by simp [iv_u, f11])⟩, (by first | exact k1 | (simpa [iv_u, upd] using k1)), ⟨(by first | exact p1 | (simpa [iv_u, upd] using p1)), (by first | exact p2 | (simpa [iv_u, upd] using p2))⟩, ⟨(by first | exact w1 | (simpa [iv_u, upd] using w1)), (by first | exact w2 | (simpa [iv_u, upd] using w2)), (by first | exact w3 | (simpa [iv_u, upd] using w3)), (by first | exact w4 | (simpa [iv_u, upd] using w4)), ?_, (by first | exact w6 | (simpa [iv_u, upd] using w6)), (by first | exact w7 | (simpa [iv_u, upd] using w7))⟩⟩
        intro j hj
        by_cases hj2 : j = ns
        · subst hj2
          simp (disch := omega) only [iv_u_eq, iv_u_ne, upd_same]
          exact ⟨zT_of z2, zT_of z3⟩
        · simp (disch := omega) only [iv_u_eq, iv_u_ne, upd_ne]
          exact w5 j (by omega)
      · obtain ⟨rfl, rfl⟩ := q3 (Or.inr (Or.inr ⟨hw, h8⟩))
        refine ⟨_, ct_m_point (n := nr) (k := ns) rfl (by simpa [iv_u, upd] using m7) b7 (by simpa [iv_u, upd] using m8) b8 w x y, ?_⟩
        rintro r' σ2 ⟨-, -, t3⟩
        obtain ⟨rfl, rfl⟩ := t3 (Or.inr (Or.inr ⟨hw, h8⟩))
        exact ⟨rfl, iInv_thr hI _⟩
  · have hz : (zw w 0 1 && (zw x 0 99 && zw y 0 99)) = false := by simpa using hz
    obtain ⟨rfl, rfl⟩ := q3 (Or.inl hz)
    refine ⟨_, ct_m_point (n := nr) (k := ns) rfl (by simpa [iv_u, upd] using m7) b7 (by simpa [iv_u, upd] using m8) b8 w x y, ?_⟩
    rintro r' σ2 ⟨-, -, t3⟩
    obtain ⟨rfl, rfl⟩ := t3 (Or.inl hz)
    exact ⟨rfl, iInv_thr hI _⟩
theorem rl_pack (hI : iInv σ) (c v : Int32) : iRel X mX6_pack mX7_pack [.inr c, .inr v] σ := by
  obtain ⟨nc, np, hr, nn, nk, nq, nr, ns, ⟨b1, b2, b3, b4, b5, b6, b7, b8⟩, ⟨c1, c2, c3, c4, c5, c6, c7, c8⟩, ⟨m1, m2, m3, m4, m5, m6, m7, m8, m9⟩, ⟨f1, f2, f3, f4, f5, f6, f7, f8, f9, f10, f11⟩, k1, ⟨p1, p2⟩, ⟨w1, w2, w3, w4, w5, w6, w7⟩⟩ := id hI
  have k7 : ∀ j, σ 38 (7 * j + 2) = σ 7 j := fun j => (k1 j).2.2.1
  refine ⟨_, ct_pack c2 b2 c1 b1 c v, ?_⟩
  rintro r σ1 ⟨q1, q2⟩
  cases hz : (gSlot nc np (σ 16) (σ 7) c && (zw v 0 100 && decide (np < 30))) with
  | false =>
    obtain ⟨rfl, rfl⟩ := q2 hz
    refine ⟨_, ct_m_pack (n := np) (nc := nc) rfl (by simpa [iv_u, upd] using m2) b2 (by simpa [iv_u, upd] using m1) b1 c v, ?_⟩
    rintro r' σ2 ⟨-, q4⟩
    obtain ⟨rfl, rfl⟩ := q4 (by simp only [iv_u_ne, ne_eq, Nat.reduceEqDiff, not_false_eq_true, f6, k7]; exact hz)
    exact ⟨rfl, iInv_thr hI _⟩
  | true =>
    obtain ⟨rfl, rfl⟩ := q1 hz
    refine ⟨_, ct_m_pack (n := np) (nc := nc) rfl (by simpa [iv_u, upd] using m2) b2 (by simpa [iv_u, upd] using m1) b1 c v, ?_⟩
    rintro r' σ2 ⟨q3, -⟩
    obtain ⟨rfl, rfl⟩ := q3 (by simp only [iv_u_ne, ne_eq, Nat.reduceEqDiff, not_false_eq_true, f6, k7]; exact hz)
    refine ⟨rfl, ?_⟩
    simp only [Bool.and_eq_true, decide_eq_true_eq] at hz
    obtain ⟨z1, z2, z3⟩ := hz
    refine ⟨(nc), (np + 1), (hr), (nn), (nk), (nq), (nr), (ns), ⟨(by first | exact b1 | (simpa [iv_u, upd] using b1)), (by omega), (by first | exact b3 | (simpa [iv_u, upd] using b3)), (by first | exact b4 | (simpa [iv_u, upd] using b4)), (by first | exact b5 | (simpa [iv_u, upd] using b5)), (by first | exact b6 | (simpa [iv_u, upd] using b6)), (by first | exact b7 | (simpa [iv_u, upd] using b7)), (by first | exact b8 | (simpa [iv_u, upd] using b8))⟩, ⟨(by first | exact c1 | (simpa [iv_u, upd] using c1)), (by simp [iv_u, upd]), (by first | exact c3 | (simpa [iv_u, upd] using c3)), (by first | exact c4 | (simpa [iv_u, upd] using c4)), (by first | exact c5 | (simpa [iv_u, upd] using c5)), (by first | exact c6 | (simpa [iv_u, upd] using c6)), (by first | exact c7 | (simpa [iv_u, upd] using c7)), (by first | exact c8 | (simpa [iv_u, upd] using c8))⟩, ⟨(by first | exact m1 | (simpa [iv_u, upd] using m1)), (by simp [iv_u, upd]), (by first | exact m3 | (simpa [iv_u, upd] using m3)), (by first | exact m4 | (simpa [iv_u, upd] using m4)), (by first | exact m5 | (simpa [iv_u, upd] using m5)), (by first | exact m6 | (simpa [iv_u, upd] using m6)), (by first | exact m7 | (simpa [iv_u, upd] using m7)), (by first | exact m8 | (simpa [iv_u, upd] using m8)), (by first | exact m9 | (simpa [iv_u, upd] using m9))⟩, ⟨(by first | exact f1 | (simpa [iv_u, upd] using f1)), (by first | exact f2 | (simpa [iv_u, upd] using f2)), (by simp [iv_u, f3]), (by first | exact f4 | (simpa [iv_u, upd] using f4)), (by first | exact f5 | (simpa [iv_u, upd] using f5)), (by simp [iv_u, f6]), (by first | exact f7 | (simpa [iv_u, upd] using f7)), (by first | exact f8 | (simpa [iv_u, upd] using f8)), (by first | exact f9 | (simpa [iv_u, upd] using f9)), (by first | exact f10 | (simpa [iv_u, upd] using f10)), (by first | exact f11 | (simpa [iv_u, upd] using f11))⟩, (by first | exact k1 | (simpa [iv_u, upd] using k1)), ⟨(by first | exact p1 | (simpa [iv_u, upd] using p1)), (by first | exact p2 | (simpa [iv_u, upd] using p2))⟩, ⟨(by first | exact w1 | (simpa [iv_u, upd] using w1)), (by first | exact w2 | (simpa [iv_u, upd] using w2)), (by first | exact w3 | (simpa [iv_u, upd] using w3)), (by first | exact w4 | (simpa [iv_u, upd] using w4)), (by first | exact w5 | (simpa [iv_u, upd] using w5)), ?_, (by first | exact w7 | (simpa [iv_u, upd] using w7))⟩⟩
    intro p hp
    by_cases hpn : p = np
    · subst hpn
      left
      simp (disch := omega) only [iv_u_eq, iv_u_ne, upd_same]
    · simp (disch := omega) only [iv_u_eq, iv_u_ne, upd_ne]
      exact w6 p (by omega)
theorem rl_take (hI : iInv σ) (c : Int32) : iRel X mX6_take mX7_take [.inr c] σ := by
  obtain ⟨nc, np, hr, nn, nk, nq, nr, ns, ⟨b1, b2, b3, b4, b5, b6, b7, b8⟩, ⟨c1, c2, c3, c4, c5, c6, c7, c8⟩, ⟨m1, m2, m3, m4, m5, m6, m7, m8, m9⟩, ⟨f1, f2, f3, f4, f5, f6, f7, f8, f9, f10, f11⟩, k1, ⟨p1, p2⟩, ⟨w1, w2, w3, w4, w5, w6, w7⟩⟩ := id hI
  refine ⟨_, ct_take c2 b2 c1 c, ?_⟩
  rintro r σ1 ⟨rfl, rfl⟩
  cases hg : gGiv nc np (σ 13) (σ 14) (σ 15) (σ 16) (σ 1) c with
  | none =>
    refine ⟨_, ct_m_take (n := np) (nc := nc) rfl (by simpa [zout, iv_u, upd] using m2) b2 (by simpa [zout, iv_u, upd] using m1) c, ?_⟩
    rintro r' σ2 ⟨rfl, rfl⟩
    simp only [zout, iv_u_ne, ne_eq, Nat.reduceEqDiff, not_false_eq_true, f1, f3, f4, f5, f6, hg]
    exact ⟨trivial, iInv_thr hI _⟩
  | some q =>
    refine ⟨_, ct_m_take (n := np) (nc := nc) rfl (by simpa [zout, iv_u, upd] using m2) b2 (by simpa [zout, iv_u, upd] using m1) c, ?_⟩
    rintro r' σ2 ⟨rfl, rfl⟩
    simp only [zout, iv_u_ne, ne_eq, Nat.reduceEqDiff, not_false_eq_true, f1, f3, f4, f5, f6, hg]
    refine ⟨trivial, ?_⟩
    exact ⟨(nc), (np), (hr), (nn), (nk), (nq), (nr), (ns), ⟨(by first | exact b1 | (simpa [iv_u, upd] using b1)), (by first | exact b2 | (simpa [iv_u, upd] using b2)), (by first | exact b3 | (simpa [iv_u, upd] using b3)), (by first | exact b4 | (simpa [iv_u, upd] using b4)), (by first | exact b5 | (simpa [iv_u, upd] using b5)), (by first | exact b6 | (simpa [iv_u, upd] using b6)), (by first | exact b7 | (simpa [iv_u, upd] using b7)), (by first | exact b8 | (simpa [iv_u, upd] using b8))⟩, ⟨(by first | exact c1 | (simpa [iv_u, upd] using c1)), (by first | exact c2 | (simpa [iv_u, upd] using c2)), (by first | exact c3 | (simpa [iv_u, upd] using c3)), (by first | exact c4 | (simpa [iv_u, upd] using c4)), (by first | exact c5 | (simpa [iv_u, upd] using c5)), (by first | exact c6 | (simpa [iv_u, upd] using c6)), (by first | exact c7 | (simpa [iv_u, upd] using c7)), (by first | exact c8 | (simpa [iv_u, upd] using c8))⟩, ⟨(by first | exact m1 | (simpa [iv_u, upd] using m1)), (by first | exact m2 | (simpa [iv_u, upd] using m2)), (by first | exact m3 | (simpa [iv_u, upd] using m3)), (by first | exact m4 | (simpa [iv_u, upd] using m4)), (by first | exact m5 | (simpa [iv_u, upd] using m5)), (by first | exact m6 | (simpa [iv_u, upd] using m6)), (by first | exact m7 | (simpa [iv_u, upd] using m7)), (by first | exact m8 | (simpa [iv_u, upd] using m8)), (by first | exact m9 | (simpa [iv_u, upd] using m9))⟩, ⟨(by first | exact f1 | (simpa [iv_u, upd] using f1)), (by first | exact f2 | (simpa [iv_u, upd] using f2)), (by first | exact f3 | (simpa [iv_u, upd] using f3)), (by first | exact f4 | (simpa [iv_u, upd] using f4)), (by first | exact f5 | (simpa [iv_u, upd] using f5)), (by simp [iv_u, f6]), (by first | exact f7 | (simpa [iv_u, upd] using f7)), (by first | exact f8 | (simpa [iv_u, upd] using f8)), (by first | exact f9 | (simpa [iv_u, upd] using f9)), (by first | exact f10 | (simpa [iv_u, upd] using f10)), (by first | exact f11 | (simpa [iv_u, upd] using f11))⟩, (by first | exact k1 | (simpa [iv_u, upd] using k1)), ⟨(by first | exact p1 | (simpa [iv_u, upd] using p1)), (by first | exact p2 | (simpa [iv_u, upd] using p2))⟩, ⟨(by first | exact w1 | (simpa [iv_u, upd] using w1)), (by first | exact w2 | (simpa [iv_u, upd] using w2)), (by first | exact w3 | (simpa [iv_u, upd] using w3)), (by first | exact w4 | (simpa [iv_u, upd] using w4)), (by first | exact w5 | (simpa [iv_u, upd] using w5)), (by first | exact w6 | (simpa [iv_u, upd] using w6)), (by first | exact w7 | (simpa [iv_u, upd] using w7))⟩⟩
theorem rl_swap (hI : iInv σ) (c p v : Int32) : iRel X mX6_swap mX7_swap [.inr c, .inr p, .inr v] σ := by
  obtain ⟨nc, np, hr, nn, nk, nq, nr, ns, ⟨b1, b2, b3, b4, b5, b6, b7, b8⟩, ⟨c1, c2, c3, c4, c5, c6, c7, c8⟩, ⟨m1, m2, m3, m4, m5, m6, m7, m8, m9⟩, ⟨f1, f2, f3, f4, f5, f6, f7, f8, f9, f10, f11⟩, k1, ⟨p1, p2⟩, ⟨w1, w2, w3, w4, w5, w6, w7⟩⟩ := id hI
  refine ⟨_, ct_swap c2 b2 c1 c p v, ?_⟩
  rintro r σ1 ⟨q1, q2⟩
  have hno : (zw c 0 (nI nc - 1) && gBack np (σ 13) (σ 16) p v) = false ∨ gGiv nc np (σ 13) (σ 14) (σ 15) (σ 16) (σ 1) c = none → ∃ Q', iv_Ct X mX7_swap 20 (.inl 37 :: [.inr c, .inr p, .inr v]) σ1 Q' ∧ ∀ r' σ2, Q' r' σ2 → r = r' ∧ iInv σ2 := by
    intro hz
    obtain ⟨rfl, rfl⟩ := q2 hz
    refine ⟨_, ct_m_swap (n := np) (nc := nc) rfl (by simpa [iv_u, upd] using m2) b2 (by simpa [iv_u, upd] using m1) c p v, ?_⟩
    rintro r' σ2 ⟨-, q4⟩
    obtain ⟨rfl, rfl⟩ := q4 (by simp only [iv_u_ne, ne_eq, Nat.reduceEqDiff, not_false_eq_true, f1, f3, f4, f5, f6]; exact hz)
    exact ⟨rfl, iInv_thr hI _⟩
  cases hz : (zw c 0 (nI nc - 1) && gBack np (σ 13) (σ 16) p v) with
  | false => exact hno (Or.inl hz)
  | true =>
    cases hg : gGiv nc np (σ 13) (σ 14) (σ 15) (σ 16) (σ 1) c with
    | none => exact hno (Or.inr hg)
    | some q =>
      obtain ⟨rfl, rfl⟩ := q1 q hz hg
      refine ⟨_, ct_m_swap (n := np) (nc := nc) rfl (by simpa [iv_u, upd] using m2) b2 (by simpa [iv_u, upd] using m1) c p v, ?_⟩
      rintro r' σ2 ⟨q3, -⟩
      obtain ⟨rfl, rfl⟩ := q3 q (by simp only [iv_u_ne, ne_eq, Nat.reduceEqDiff, not_false_eq_true, f3, f6]; exact hz) (by simp only [iv_u_ne, ne_eq, Nat.reduceEqDiff, not_false_eq_true, f1, f3, f4, f5, f6]; exact hg)
      refine ⟨rfl, ?_⟩
      exact ⟨(nc), (np), (hr), (nn), (nk), (nq), (nr), (ns), ⟨(by first | exact b1 | (simpa [iv_u, upd] using b1)), (by first | exact b2 | (simpa [iv_u, upd] using b2)), (by first | exact b3 | (simpa [iv_u, upd] using b3)), (by first | exact b4 | (simpa [iv_u, upd] using b4)), (by first | exact b5 | (simpa [iv_u, upd] using b5)), (by first | exact b6 | (simpa [iv_u, upd] using b6)), (by first | exact b7 | (simpa [iv_u, upd] using b7)), (by first | exact b8 | (simpa [iv_u, upd] using b8))⟩, ⟨(by first | exact c1 | (simpa [iv_u, upd] using c1)), (by first | exact c2 | (simpa [iv_u, upd] using c2)), (by first | exact c3 | (simpa [iv_u, upd] using c3)), (by first | exact c4 | (simpa [iv_u, upd] using c4)), (by first | exact c5 | (simpa [iv_u, upd] using c5)), (by first | exact c6 | (simpa [iv_u, upd] using c6)), (by first | exact c7 | (simpa [iv_u, upd] using c7)), (by first | exact c8 | (simpa [iv_u, upd] using c8))⟩, ⟨(by first | exact m1 | (simpa [iv_u, upd] using m1)), (by first | exact m2 | (simpa [iv_u, upd] using m2)), (by first | exact m3 | (simpa [iv_u, upd] using m3)), (by first | exact m4 | (simpa [iv_u, upd] using m4)), (by first | exact m5 | (simpa [iv_u, upd] using m5)), (by first | exact m6 | (simpa [iv_u, upd] using m6)), (by first | exact m7 | (simpa [iv_u, upd] using m7)), (by first | exact m8 | (simpa [iv_u, upd] using m8)), (by first | exact m9 | (simpa [iv_u, upd] using m9))⟩, ⟨(by first | exact f1 | (simpa [iv_u, upd] using f1)), (by first | exact f2 | (simpa [iv_u, upd] using f2)), (by simp [iv_u, f3]), (by first | exact f4 | (simpa [iv_u, upd] using f4)), (by first | exact f5 | (simpa [iv_u, upd] using f5)), (by simp [iv_u, f6]), (by first | exact f7 | (simpa [iv_u, upd] using f7)), (by first | exact f8 | (simpa [iv_u, upd] using f8)), (by first | exact f9 | (simpa [iv_u, upd] using f9)), (by first | exact f10 | (simpa [iv_u, upd] using f10)), (by first | exact f11 | (simpa [iv_u, upd] using f11))⟩, (by first | exact k1 | (simpa [iv_u, upd] using k1)), ⟨(by first | exact p1 | (simpa [iv_u, upd] using p1)), (by first | exact p2 | (simpa [iv_u, upd] using p2))⟩, ⟨(by first | exact w1 | (simpa [iv_u, upd] using w1)), (by first | exact w2 | (simpa [iv_u, upd] using w2)), (by first | exact w3 | (simpa [iv_u, upd] using w3)), (by first | exact w4 | (simpa [iv_u, upd] using w4)), (by first | exact w5 | (simpa [iv_u, upd] using w5)), (by first | exact w6 | (simpa [iv_u, upd] using w6)), (by first | exact w7 | (simpa [iv_u, upd] using w7))⟩⟩
theorem rl_bring (hI : iInv σ) (c p v : Int32) : iRel X mX6_bring mX7_bring [.inr c, .inr p, .inr v] σ := by
  obtain ⟨nc, np, hr, nn, nk, nq, nr, ns, ⟨b1, b2, b3, b4, b5, b6, b7, b8⟩, ⟨c1, c2, c3, c4, c5, c6, c7, c8⟩, ⟨m1, m2, m3, m4, m5, m6, m7, m8, m9⟩, ⟨f1, f2, f3, f4, f5, f6, f7, f8, f9, f10, f11⟩, k1, ⟨p1, p2⟩, ⟨w1, w2, w3, w4, w5, w6, w7⟩⟩ := id hI
  have k7 : ∀ j, σ 38 (7 * j + 2) = σ 7 j := fun j => (k1 j).2.2.1
  refine ⟨_, ct_bring c2 b2 c1 b1 c p v, ?_⟩
  rintro r σ1 ⟨q1, q2⟩
  cases hz : (gSlot nc np (σ 16) (σ 7) c && gBack np (σ 13) (σ 16) p v) with
  | false =>
    obtain ⟨rfl, rfl⟩ := q2 hz
    refine ⟨_, ct_m_bring (n := np) (nc := nc) rfl (by simpa [iv_u, upd] using m2) b2 (by simpa [iv_u, upd] using m1) b1 c p v, ?_⟩
    rintro r' σ2 ⟨-, q4⟩
    obtain ⟨rfl, rfl⟩ := q4 (by simp only [iv_u_ne, ne_eq, Nat.reduceEqDiff, not_false_eq_true, f3, f6, k7]; exact hz)
    exact ⟨rfl, iInv_thr hI _⟩
  | true =>
    obtain ⟨rfl, rfl⟩ := q1 hz
    refine ⟨_, ct_m_bring (n := np) (nc := nc) rfl (by simpa [iv_u, upd] using m2) b2 (by simpa [iv_u, upd] using m1) b1 c p v, ?_⟩
    rintro r' σ2 ⟨q3, -⟩
    obtain ⟨rfl, rfl⟩ := q3 (by simp only [iv_u_ne, ne_eq, Nat.reduceEqDiff, not_false_eq_true, f3, f6, k7]; exact hz)
    refine ⟨by simp only [iv_u_ne, ne_eq, Nat.reduceEqDiff, not_false_eq_true, f6], ?_⟩
    exact ⟨(nc), (np), (hr), (nn), (nk), (nq), (nr), (ns), ⟨(by first | exact b1 | (simpa [iv_u, upd] using b1)), (by first | exact b2 | (simpa [iv_u, upd] using b2)), (by first | exact b3 | (simpa [iv_u, upd] using b3)), (by first | exact b4 | (simpa [iv_u, upd] using b4)), (by first | exact b5 | (simpa [iv_u, upd] using b5)), (by first | exact b6 | (simpa [iv_u, upd] using b6)), (by first | exact b7 | (simpa [iv_u, upd] using b7)), (by first | exact b8 | (simpa [iv_u, upd] using b8))⟩, ⟨(by first | exact c1 | (simpa [iv_u, upd] using c1)), (by first | exact c2 | (simpa [iv_u, upd] using c2)), (by first | exact c3 | (simpa [iv_u, upd] using c3)), (by first | exact c4 | (simpa [iv_u, upd] using c4)), (by first | exact c5 | (simpa [iv_u, upd] using c5)), (by first | exact c6 | (simpa [iv_u, upd] using c6)), (by first | exact c7 | (simpa [iv_u, upd] using c7)), (by first | exact c8 | (simpa [iv_u, upd] using c8))⟩, ⟨(by first | exact m1 | (simpa [iv_u, upd] using m1)), (by first | exact m2 | (simpa [iv_u, upd] using m2)), (by first | exact m3 | (simpa [iv_u, upd] using m3)), (by first | exact m4 | (simpa [iv_u, upd] using m4)), (by first | exact m5 | (simpa [iv_u, upd] using m5)), (by first | exact m6 | (simpa [iv_u, upd] using m6)), (by first | exact m7 | (simpa [iv_u, upd] using m7)), (by first | exact m8 | (simpa [iv_u, upd] using m8)), (by first | exact m9 | (simpa [iv_u, upd] using m9))⟩, ⟨(by first | exact f1 | (simpa [iv_u, upd] using f1)), (by first | exact f2 | (simpa [iv_u, upd] using f2)), (by simp [iv_u, f3]), (by first | exact f4 | (simpa [iv_u, upd] using f4)), (by first | exact f5 | (simpa [iv_u, upd] using f5)), (by simp [iv_u, f6]), (by first | exact f7 | (simpa [iv_u, upd] using f7)), (by first | exact f8 | (simpa [iv_u, upd] using f8)), (by first | exact f9 | (simpa [iv_u, upd] using f9)), (by first | exact f10 | (simpa [iv_u, upd] using f10)), (by first | exact f11 | (simpa [iv_u, upd] using f11))⟩, (by first | exact k1 | (simpa [iv_u, upd] using k1)), ⟨(by first | exact p1 | (simpa [iv_u, upd] using p1)), (by first | exact p2 | (simpa [iv_u, upd] using p2))⟩, ⟨(by first | exact w1 | (simpa [iv_u, upd] using w1)), (by first | exact w2 | (simpa [iv_u, upd] using w2)), (by first | exact w3 | (simpa [iv_u, upd] using w3)), (by first | exact w4 | (simpa [iv_u, upd] using w4)), (by first | exact w5 | (simpa [iv_u, upd] using w5)), (by first | exact w6 | (simpa [iv_u, upd] using w6)), (by first | exact w7 | (simpa [iv_u, upd] using w7))⟩⟩
theorem rl_move (hI : iInv σ) (p c : Int32) : iRel X mX6_move mX7_move [.inr p, .inr c] σ := by
  obtain ⟨nc, np, hr, nn, nk, nq, nr, ns, ⟨b1, b2, b3, b4, b5, b6, b7, b8⟩, ⟨c1, c2, c3, c4, c5, c6, c7, c8⟩, ⟨m1, m2, m3, m4, m5, m6, m7, m8, m9⟩, ⟨f1, f2, f3, f4, f5, f6, f7, f8, f9, f10, f11⟩, k1, ⟨p1, p2⟩, ⟨w1, w2, w3, w4, w5, w6, w7⟩⟩ := id hI
  have k7 : ∀ j, σ 38 (7 * j + 2) = σ 7 j := fun j => (k1 j).2.2.1
  refine ⟨_, ct_move c2 b2 c1 b1 p c, ?_⟩
  rintro r σ1 ⟨rfl, rfl⟩
  refine ⟨_, ct_m_move (n := np) (nc := nc) rfl (by split <;> simpa [iv_u, upd] using m2) b2 (by split <;> simpa [iv_u, upd] using m1) b1 p c, ?_⟩
  rintro r' σ2 ⟨rfl, rfl⟩
  by_cases hz : (zw p 0 (nI np - 1) && (!decide (σ 16 p.toNatClampNeg = -1) && (!decide (σ 16 p.toNatClampNeg = c) && gSlot nc np (σ 16) (σ 7) c))) = true
  · simp only [hz, if_true, iv_u_ne, ne_eq, Nat.reduceEqDiff, not_false_eq_true, f6, k7]
    refine ⟨trivial, ?_⟩
    exact ⟨(nc), (np), (hr), (nn), (nk), (nq), (nr), (ns), ⟨(by first | exact b1 | (simpa [iv_u, upd] using b1)), (by first | exact b2 | (simpa [iv_u, upd] using b2)), (by first | exact b3 | (simpa [iv_u, upd] using b3)), (by first | exact b4 | (simpa [iv_u, upd] using b4)), (by first | exact b5 | (simpa [iv_u, upd] using b5)), (by first | exact b6 | (simpa [iv_u, upd] using b6)), (by first | exact b7 | (simpa [iv_u, upd] using b7)), (by first | exact b8 | (simpa [iv_u, upd] using b8))⟩, ⟨(by first | exact c1 | (simpa [iv_u, upd] using c1)), (by first | exact c2 | (simpa [iv_u, upd] using c2)), (by first | exact c3 | (simpa [iv_u, upd] using c3)), (by first | exact c4 | (simpa [iv_u, upd] using c4)), (by first | exact c5 | (simpa [iv_u, upd] using c5)), (by first | exact c6 | (simpa [iv_u, upd] using c6)), (by first | exact c7 | (simpa [iv_u, upd] using c7)), (by first | exact c8 | (simpa [iv_u, upd] using c8))⟩, ⟨(by first | exact m1 | (simpa [iv_u, upd] using m1)), (by first | exact m2 | (simpa [iv_u, upd] using m2)), (by first | exact m3 | (simpa [iv_u, upd] using m3)), (by first | exact m4 | (simpa [iv_u, upd] using m4)), (by first | exact m5 | (simpa [iv_u, upd] using m5)), (by first | exact m6 | (simpa [iv_u, upd] using m6)), (by first | exact m7 | (simpa [iv_u, upd] using m7)), (by first | exact m8 | (simpa [iv_u, upd] using m8)), (by first | exact m9 | (simpa [iv_u, upd] using m9))⟩, ⟨(by first | exact f1 | (simpa [iv_u, upd] using f1)), (by first | exact f2 | (simpa [iv_u, upd] using f2)), (by first | exact f3 | (simpa [iv_u, upd] using f3)), (by first | exact f4 | (simpa [iv_u, upd] using f4)), (by first | exact f5 | (simpa [iv_u, upd] using f5)), (by simp [iv_u, f6]), (by first | exact f7 | (simpa [iv_u, upd] using f7)), (by first | exact f8 | (simpa [iv_u, upd] using f8)), (by first | exact f9 | (simpa [iv_u, upd] using f9)), (by first | exact f10 | (simpa [iv_u, upd] using f10)), (by first | exact f11 | (simpa [iv_u, upd] using f11))⟩, (by first | exact k1 | (simpa [iv_u, upd] using k1)), ⟨(by first | exact p1 | (simpa [iv_u, upd] using p1)), (by first | exact p2 | (simpa [iv_u, upd] using p2))⟩, ⟨(by first | exact w1 | (simpa [iv_u, upd] using w1)), (by first | exact w2 | (simpa [iv_u, upd] using w2)), (by first | exact w3 | (simpa [iv_u, upd] using w3)), (by first | exact w4 | (simpa [iv_u, upd] using w4)), (by first | exact w5 | (simpa [iv_u, upd] using w5)), (by first | exact w6 | (simpa [iv_u, upd] using w6)), (by first | exact w7 | (simpa [iv_u, upd] using w7))⟩⟩
  · simp only [hz, if_false, Bool.false_eq_true, iv_u_ne, ne_eq, Nat.reduceEqDiff, not_false_eq_true, f6, k7]
    exact ⟨trivial, iInv_thr hI _⟩
end YO
