section YP
variable {X : iv_X} {σ : iv_S}
theorem rl_round (hI : iInv σ) : iRel X mX6_round mX7_round [] σ := by
  obtain ⟨nc, np, hr, nn, nk, nq, nr, ns, ⟨b1, b2, b3, b4, b5, b6, b7, b8⟩, ⟨c1, c2, c3, c4, c5, c6, c7, c8⟩, ⟨m1, m2, m3, m4, m5, m6, m7, m8, m9⟩, ⟨f1, f2, f3, f4, f5, f6, f7, f8, f9, f10, f11⟩, k1, ⟨p1, p2⟩, ⟨w1, w2, w3, w4, w5, w6, w7⟩⟩ := id hI
  have e0 : ∀ j, σ 38 (7 * j) = σ 5 j := fun j => (k1 j).1
  have e1 : ∀ j, σ 38 (7 * j + 1) = σ 6 j := fun j => (k1 j).2.1
  have e6 : ∀ j, σ 38 (7 * j + 6) = σ 11 j := fun j => (k1 j).2.2.2.2.2.2
  generalize hsp : (fun c => nI (zc (fun p => decide (σ 16 p = nI c)) np) - σ 11 c) = sp
  have hspc : ∀ c, nI (zc (fun p => decide (σ 16 p = nI c)) np) - σ 11 c = sp c := fun c => by rw [← hsp]
  generalize hst : zc (fun c => !decide (sp c = 0)) nc = st
  have hst6 : st ≤ 6 := by
    have := zc_le (fun c => !decide (sp c = 0)) nc
    omega
  have hT : ∀ c, c < nc → zT (σ 5 c) ∧ zT (σ 6 c) := fun c hc => (w1 c hc).2
  refine ⟨_, ct_round (np := np) (nc := nc) (st := st) (sp := sp) (xs := σ 5) (ys := σ 6) c2 b2 c1 b1 (fun c _ => hspc c) (fun _ _ => rfl) (fun _ _ => rfl) hT (fun c hc => w7 c (by omega)) hst, ?_⟩
  generalize hF : vS nc sp (σ 5) (σ 6) (σ 1 4) st (fun _ => false) [] 0 0 0 0 none = F
  rintro r σ1 ⟨rfl, g1, g2⟩
  have s37 := g1 37 (by decide) (by decide) (by decide) (by decide)
  have s38 := g1 38 (by decide) (by decide) (by decide) (by decide)
  have s41 := g1 41 (by decide) (by decide) (by decide) (by decide)
  have s43 := g1 43 (by decide) (by decide) (by decide) (by decide)
  refine ⟨_, ct_m_round (np := np) (nc := nc) (st := st) (sp := sp) (xs := σ 5) (ys := σ 6) rfl (by rw [iv_u_eq, upd_ne (by decide), s37]; exact m2) b2 (by rw [iv_u_eq, upd_ne (by decide), s37]; exact m1) b1 (fun c _ => by rw [iv_u_ne (by decide), iv_u_ne (by decide), s38, s41, e6, f6]; exact hspc c) (fun c _ => by rw [iv_u_ne (by decide), s38]; exact e0 c) (fun c _ => by rw [iv_u_ne (by decide), s38]; exact e1 c) hT hst, ?_⟩
  have hF' : vS nc sp (σ 5) (σ 6) (iv_u σ1 37 23 0 43 4) st (fun _ => false) [] 0 0 0 0 none = F := by rw [iv_u_ne (by decide), s43, f1]; exact hF
  rw [hF']
  rintro r' σ2 ⟨rfl, q1, q2, q3⟩
  refine ⟨rfl, ?_⟩
  have A : ∀ q, q ≠ 24 → q ≠ 25 → q ≠ 27 → q ≠ 28 → q ≠ 37 → q ≠ 47 → q ≠ 55 → q ≠ 56 → σ2 q = σ q := fun q a1 a2 a3 a4 a5 a6 a7 a8 => by rw [q1 q a5 a6 a7 a8, iv_u_ne a5, g1 q a1 a2 a3 a4]
  have B : ∀ j, j ≠ 15 → j ≠ 29 → j ≠ 23 → σ2 37 j = σ 37 j := fun j a1 a2 a3 => by rw [q2 j a1 a2, iv_u_eq, upd_ne a3, s37]
  have t24 : σ2 24 = σ1 24 := by rw [q1 24 (by decide) (by decide) (by decide) (by decide), iv_u_ne (by decide)]
  have t28 : σ2 28 = σ1 28 := by rw [q1 28 (by decide) (by decide) (by decide) (by decide), iv_u_ne (by decide)]
  cases F with
  | none =>
    obtain ⟨-, g4, g5⟩ := g2
    obtain ⟨q4, q5⟩ := q3
    rw [iv_u_eq, upd_ne (by decide), s37] at q4
    rw [iv_u_ne (by decide), g1 47 (by decide) (by decide) (by decide) (by decide)] at q5
    exact ⟨(nc), (np), (hr), (nn), (nk), (nq), (nr), (ns), ⟨(by first | exact b1 | (simpa (disch := decide) only [A, B] using b1)), (by first | exact b2 | (simpa (disch := decide) only [A, B] using b2)), (by first | exact b3 | (simpa (disch := decide) only [A, B] using b3)), (by first | exact b4 | (simpa (disch := decide) only [A, B] using b4)), (by first | exact b5 | (simpa (disch := decide) only [A, B] using b5)), (by first | exact b6 | (simpa (disch := decide) only [A, B] using b6)), (by first | exact b7 | (simpa (disch := decide) only [A, B] using b7)), (by first | exact b8 | (simpa (disch := decide) only [A, B] using b8))⟩, ⟨(by first | exact c1 | (simpa (disch := decide) only [A, B] using c1)), (by first | exact c2 | (simpa (disch := decide) only [A, B] using c2)), (by first | exact c3 | (simpa (disch := decide) only [A, B] using c3)), (by first | exact c4 | (simpa (disch := decide) only [A, B] using c4)), (by first | exact c5 | (simpa (disch := decide) only [A, B] using c5)), (by rw [t24, g4]; exact c6), (by first | exact c7 | (simpa (disch := decide) only [A, B] using c7)), (by first | exact c8 | (simpa (disch := decide) only [A, B] using c8))⟩, ⟨(by first | exact m1 | (simpa (disch := decide) only [A, B] using m1)), (by first | exact m2 | (simpa (disch := decide) only [A, B] using m2)), (by first | exact m3 | (simpa (disch := decide) only [A, B] using m3)), (by first | exact m4 | (simpa (disch := decide) only [A, B] using m4)), (by first | exact m5 | (simpa (disch := decide) only [A, B] using m5)), (by rw [q4]; exact m6), (by first | exact m7 | (simpa (disch := decide) only [A, B] using m7)), (by first | exact m8 | (simpa (disch := decide) only [A, B] using m8)), (by first | exact m9 | (simpa (disch := decide) only [A, B] using m9))⟩, ⟨(by first | exact f1 | (simpa (disch := decide) only [A, B] using f1)), (by first | exact f2 | (simpa (disch := decide) only [A, B] using f2)), (by first | exact f3 | (simpa (disch := decide) only [A, B] using f3)), (by first | exact f4 | (simpa (disch := decide) only [A, B] using f4)), (by first | exact f5 | (simpa (disch := decide) only [A, B] using f5)), (by first | exact f6 | (simpa (disch := decide) only [A, B] using f6)), (by first | exact f7 | (simpa (disch := decide) only [A, B] using f7)), (by first | exact f8 | (simpa (disch := decide) only [A, B] using f8)), (by first | exact f9 | (simpa (disch := decide) only [A, B] using f9)), (by first | exact f10 | (simpa (disch := decide) only [A, B] using f10)), (by first | exact f11 | (simpa (disch := decide) only [A, B] using f11))⟩, (by first | exact k1 | (simpa (disch := decide) only [A, B] using k1)), ⟨(by first | exact p1 | (simpa (disch := decide) only [A, B] using p1)), (fun i hi => by rw [q5, t28, g5]; exact p2 i hi)⟩, ⟨(by first | exact w1 | (simpa (disch := decide) only [A, B] using w1)), (by first | exact w2 | (simpa (disch := decide) only [A, B] using w2)), (by first | exact w3 | (simpa (disch := decide) only [A, B] using w3)), (by first | exact w4 | (simpa (disch := decide) only [A, B] using w4)), (by first | exact w5 | (simpa (disch := decide) only [A, B] using w5)), (by first | exact w6 | (simpa (disch := decide) only [A, B] using w6)), (by first | exact w7 | (simpa (disch := decide) only [A, B] using w7))⟩⟩
  | some q =>
    obtain ⟨-, -, g4, g5, g6⟩ := g2
    obtain ⟨q4, q5, q6⟩ := q3
    refine ⟨(nc), (np), (hr), (nn), (nk), (st), (nr), (ns), ⟨(by first | exact b1 | (simpa (disch := decide) only [A, B] using b1)), (by first | exact b2 | (simpa (disch := decide) only [A, B] using b2)), (by first | exact b3 | (simpa (disch := decide) only [A, B] using b3)), (by first | exact b4 | (simpa (disch := decide) only [A, B] using b4)), (by first | exact b5 | (simpa (disch := decide) only [A, B] using b5)), hst6, (by first | exact b7 | (simpa (disch := decide) only [A, B] using b7)), (by first | exact b8 | (simpa (disch := decide) only [A, B] using b8))⟩, ⟨(by first | exact c1 | (simpa (disch := decide) only [A, B] using c1)), (by first | exact c2 | (simpa (disch := decide) only [A, B] using c2)), (by first | exact c3 | (simpa (disch := decide) only [A, B] using c3)), (by first | exact c4 | (simpa (disch := decide) only [A, B] using c4)), (by first | exact c5 | (simpa (disch := decide) only [A, B] using c5)), (by rw [t24]; exact g4), (by first | exact c7 | (simpa (disch := decide) only [A, B] using c7)), (by first | exact c8 | (simpa (disch := decide) only [A, B] using c8))⟩, ⟨(by first | exact m1 | (simpa (disch := decide) only [A, B] using m1)), (by first | exact m2 | (simpa (disch := decide) only [A, B] using m2)), (by first | exact m3 | (simpa (disch := decide) only [A, B] using m3)), (by first | exact m4 | (simpa (disch := decide) only [A, B] using m4)), (by first | exact m5 | (simpa (disch := decide) only [A, B] using m5)), q4, (by first | exact m7 | (simpa (disch := decide) only [A, B] using m7)), (by first | exact m8 | (simpa (disch := decide) only [A, B] using m8)), (by first | exact m9 | (simpa (disch := decide) only [A, B] using m9))⟩, ⟨(by first | exact f1 | (simpa (disch := decide) only [A, B] using f1)), (by first | exact f2 | (simpa (disch := decide) only [A, B] using f2)), (by first | exact f3 | (simpa (disch := decide) only [A, B] using f3)), (by first | exact f4 | (simpa (disch := decide) only [A, B] using f4)), (by first | exact f5 | (simpa (disch := decide) only [A, B] using f5)), (by first | exact f6 | (simpa (disch := decide) only [A, B] using f6)), (by first | exact f7 | (simpa (disch := decide) only [A, B] using f7)), (by first | exact f8 | (simpa (disch := decide) only [A, B] using f8)), (by first | exact f9 | (simpa (disch := decide) only [A, B] using f9)), (by first | exact f10 | (simpa (disch := decide) only [A, B] using f10)), (by first | exact f11 | (simpa (disch := decide) only [A, B] using f11))⟩, (by first | exact k1 | (simpa (disch := decide) only [A, B] using k1)), ⟨(by first | exact p1 | (simpa (disch := decide) only [A, B] using p1)), ?_⟩, ⟨(by first | exact w1 | (simpa (disch := decide) only [A, B] using w1)), (by first | exact w2 | (simpa (disch := decide) only [A, B] using w2)), (by first | exact w3 | (simpa (disch := decide) only [A, B] using w3)), (by first | exact w4 | (simpa (disch := decide) only [A, B] using w4)), (by first | exact w5 | (simpa (disch := decide) only [A, B] using w5)), (by first | exact w6 | (simpa (disch := decide) only [A, B] using w6)), (by first | exact w7 | (simpa (disch := decide) only [A, B] using w7))⟩⟩
    intro i hi
    obtain ⟨c, hc⟩ : ∃ c, q.2[i]? = some c := ⟨_, List.getElem?_eq_getElem (by omega)⟩
    rw [q6 i c hc, t28, g6 i c hc]
theorem rl_plan (hI : iInv σ) (L : Int32) : iRel X mX6_plan mX7_plan [.inr L] σ := by
  obtain ⟨nc, np, hr, nn, nk, nq, nr, ns, ⟨b1, b2, b3, b4, b5, b6, b7, b8⟩, ⟨c1, c2, c3, c4, c5, c6, c7, c8⟩, ⟨m1, m2, m3, m4, m5, m6, m7, m8, m9⟩, ⟨f1, f2, f3, f4, f5, f6, f7, f8, f9, f10, f11⟩, k1, ⟨p1, p2⟩, ⟨w1, w2, w3, w4, w5, w6, w7⟩⟩ := id hI
  obtain ⟨nd, hnd⟩ : ∃ nd : Nat → Nat, ∀ i, i < nn → σ 19 i = nI (nd i) ∧ nd i ≤ 20 := by
    refine ⟨fun i => (σ 19 i).toNatClampNeg, fun i hi => ?_⟩
    obtain ⟨v, hv, e⟩ := w3 i hi
    dsimp only
    rw [e, z_cl (by omega)]
    exact ⟨rfl, hv⟩
  obtain ⟨pr, hpr⟩ : ∃ pr : Nat → Nat, ∀ i, i < nn → σ 2 ((hr + i) % 24) = nI (pr i) ∧ pr i ≤ 1000 := by
    refine ⟨fun i => (σ 2 ((hr + i) % 24)).toNatClampNeg, fun i hi => ?_⟩
    obtain ⟨v, hv, e⟩ := w2 _ (Nat.mod_lt (hr + i) (show 24 > 0 by decide))
    dsimp only
    rw [e, z_cl (by omega)]
    exact ⟨rfl, hv⟩
  refine ⟨_, ct_plan (nd := nd) (pr := pr) c4 b4 c3 b3 hnd hpr L, ?_⟩
  rintro r σ1 ⟨q1, q2⟩
  cases hz : zw L 0 20 with
  | false =>
    obtain ⟨rfl, rfl⟩ := q2 hz
    refine ⟨_, ct_m_plan (n := nn) (h := hr) (nd := nd) (pr := pr) rfl (by simpa [iv_u, upd] using m4) b4 (by simpa [iv_u, upd] using m3) b3 (fun i hi => by rw [iv_u_ne (by decide), f7]; exact hnd i hi) (fun i hi => by rw [iv_u_ne (by decide), f2]; exact hpr i hi) L, ?_⟩
    rintro r' σ2 ⟨-, q4⟩
    obtain ⟨rfl, rfl⟩ := q4 hz
    exact ⟨rfl, iInv_thr hI _⟩
  | true =>
    obtain ⟨g1, g2, x, g3, g4⟩ := q1 hz
    obtain ⟨hL, -⟩ := z_idx0 (n := 20) (by decide) hz
    have s37 := g1 37 (by decide) (by decide) (by decide) (by decide) (by decide)
    refine ⟨_, ct_m_plan (n := nn) (h := hr) (nd := nd) (pr := pr) rfl (by rw [iv_u_eq, upd_ne (by decide), s37]; exact m4) b4 (by rw [iv_u_eq, upd_ne (by decide), s37]; exact m3) b3 (fun i hi => by rw [iv_u_ne (by decide), g1 45 (by decide) (by decide) (by decide) (by decide) (by decide), f7]; exact hnd i hi) (fun i hi => by rw [iv_u_ne (by decide), g1 44 (by decide) (by decide) (by decide) (by decide) (by decide), f2]; exact hpr i hi) L, ?_⟩
    rintro r' σ2 ⟨q3, -⟩
    obtain ⟨t1, t2, t3⟩ := q3 hz
    obtain ⟨j1, j2⟩ := dp_join hL b4 (fun i hi => (hpr i hi).2) g3
    have A : ∀ q, q ≠ 18 → q ≠ 20 → q ≠ 21 → q ≠ 22 → q ≠ 23 → q ≠ 37 → q ≠ 46 → q ≠ 54 → σ2 q = σ q := fun q a1 a2 a3 a4 a5 a6 a7 a8 => by rw [t1 q a6 a7 a8, iv_u_ne a6, g1 q a1 a2 a3 a4 a5]
    have B : ∀ j, j ≠ 13 → j ≠ 23 → σ2 37 j = σ 37 j := fun j a1 a2 => by rw [t2 j a1, iv_u_eq, upd_ne a2, s37]
    have t18 : σ2 18 = σ1 18 := by rw [t1 18 (by decide) (by decide) (by decide), iv_u_ne (by decide)]
    have t23 : σ2 23 = σ1 23 := by rw [t1 23 (by decide) (by decide) (by decide), iv_u_ne (by decide)]
    rcases g4 with ⟨x1, x2, x3, x4⟩ | ⟨x1, x2, x3, x4⟩
    · obtain ⟨y1, y2, y3⟩ := j1 x1
      rcases t3 with ⟨z1, -⟩ | ⟨z1, z2, z3, z4⟩
      · omega
      · refine ⟨by rw [x2, z2, y2], ?_⟩
        exact ⟨(nc), (np), (hr), (nn), (nn), (nq), (nr), (ns), ⟨(by first | exact b1 | (simpa (disch := decide) only [A, B] using b1)), (by first | exact b2 | (simpa (disch := decide) only [A, B] using b2)), (by first | exact b3 | (simpa (disch := decide) only [A, B] using b3)), (by first | exact b4 | (simpa (disch := decide) only [A, B] using b4)), b4, (by first | exact b6 | (simpa (disch := decide) only [A, B] using b6)), (by first | exact b7 | (simpa (disch := decide) only [A, B] using b7)), (by first | exact b8 | (simpa (disch := decide) only [A, B] using b8))⟩, ⟨(by first | exact c1 | (simpa (disch := decide) only [A, B] using c1)), (by first | exact c2 | (simpa (disch := decide) only [A, B] using c2)), (by first | exact c3 | (simpa (disch := decide) only [A, B] using c3)), (by rw [t18, g2 5 (by decide)]; exact c4), (by rw [t18]; exact x3), (by first | exact c6 | (simpa (disch := decide) only [A, B] using c6)), (by first | exact c7 | (simpa (disch := decide) only [A, B] using c7)), (by first | exact c8 | (simpa (disch := decide) only [A, B] using c8))⟩, ⟨(by first | exact m1 | (simpa (disch := decide) only [A, B] using m1)), (by first | exact m2 | (simpa (disch := decide) only [A, B] using m2)), (by first | exact m3 | (simpa (disch := decide) only [A, B] using m3)), (by first | exact m4 | (simpa (disch := decide) only [A, B] using m4)), z3, (by first | exact m6 | (simpa (disch := decide) only [A, B] using m6)), (by first | exact m7 | (simpa (disch := decide) only [A, B] using m7)), (by first | exact m8 | (simpa (disch := decide) only [A, B] using m8)), (by first | exact m9 | (simpa (disch := decide) only [A, B] using m9))⟩, ⟨(by first | exact f1 | (simpa (disch := decide) only [A, B] using f1)), (by first | exact f2 | (simpa (disch := decide) only [A, B] using f2)), (by first | exact f3 | (simpa (disch := decide) only [A, B] using f3)), (by first | exact f4 | (simpa (disch := decide) only [A, B] using f4)), (by first | exact f5 | (simpa (disch := decide) only [A, B] using f5)), (by first | exact f6 | (simpa (disch := decide) only [A, B] using f6)), (by first | exact f7 | (simpa (disch := decide) only [A, B] using f7)), (by first | exact f8 | (simpa (disch := decide) only [A, B] using f8)), (by first | exact f9 | (simpa (disch := decide) only [A, B] using f9)), (by first | exact f10 | (simpa (disch := decide) only [A, B] using f10)), (by first | exact f11 | (simpa (disch := decide) only [A, B] using f11))⟩, (by first | exact k1 | (simpa (disch := decide) only [A, B] using k1)), ⟨(fun i hi => by rw [z4 i hi, t23, x4 i hi, y3 i hi]), (by first | exact p2 | (simpa (disch := decide) only [A, B] using p2))⟩, ⟨(by first | exact w1 | (simpa (disch := decide) only [A, B] using w1)), (by first | exact w2 | (simpa (disch := decide) only [A, B] using w2)), (by first | exact w3 | (simpa (disch := decide) only [A, B] using w3)), (by first | exact w4 | (simpa (disch := decide) only [A, B] using w4)), (by first | exact w5 | (simpa (disch := decide) only [A, B] using w5)), (by first | exact w6 | (simpa (disch := decide) only [A, B] using w6)), (by first | exact w7 | (simpa (disch := decide) only [A, B] using w7))⟩⟩
    · have y1 := j2 x1
      rcases t3 with ⟨z1, z2, z3, z4⟩ | ⟨z1, -⟩
      · refine ⟨by rw [x2, z2], ?_⟩
        rw [iv_u_eq, upd_ne (by decide), s37] at z3
        rw [iv_u_ne (by decide), g1 46 (by decide) (by decide) (by decide) (by decide) (by decide)] at z4
        exact ⟨(nc), (np), (hr), (nn), (nk), (nq), (nr), (ns), ⟨(by first | exact b1 | (simpa (disch := decide) only [A, B] using b1)), (by first | exact b2 | (simpa (disch := decide) only [A, B] using b2)), (by first | exact b3 | (simpa (disch := decide) only [A, B] using b3)), (by first | exact b4 | (simpa (disch := decide) only [A, B] using b4)), (by first | exact b5 | (simpa (disch := decide) only [A, B] using b5)), (by first | exact b6 | (simpa (disch := decide) only [A, B] using b6)), (by first | exact b7 | (simpa (disch := decide) only [A, B] using b7)), (by first | exact b8 | (simpa (disch := decide) only [A, B] using b8))⟩, ⟨(by first | exact c1 | (simpa (disch := decide) only [A, B] using c1)), (by first | exact c2 | (simpa (disch := decide) only [A, B] using c2)), (by first | exact c3 | (simpa (disch := decide) only [A, B] using c3)), (by rw [t18, g2 5 (by decide)]; exact c4), (by rw [t18, x3]; exact c5), (by first | exact c6 | (simpa (disch := decide) only [A, B] using c6)), (by first | exact c7 | (simpa (disch := decide) only [A, B] using c7)), (by first | exact c8 | (simpa (disch := decide) only [A, B] using c8))⟩, ⟨(by first | exact m1 | (simpa (disch := decide) only [A, B] using m1)), (by first | exact m2 | (simpa (disch := decide) only [A, B] using m2)), (by first | exact m3 | (simpa (disch := decide) only [A, B] using m3)), (by first | exact m4 | (simpa (disch := decide) only [A, B] using m4)), (by rw [z3]; exact m5), (by first | exact m6 | (simpa (disch := decide) only [A, B] using m6)), (by first | exact m7 | (simpa (disch := decide) only [A, B] using m7)), (by first | exact m8 | (simpa (disch := decide) only [A, B] using m8)), (by first | exact m9 | (simpa (disch := decide) only [A, B] using m9))⟩, ⟨(by first | exact f1 | (simpa (disch := decide) only [A, B] using f1)), (by first | exact f2 | (simpa (disch := decide) only [A, B] using f2)), (by first | exact f3 | (simpa (disch := decide) only [A, B] using f3)), (by first | exact f4 | (simpa (disch := decide) only [A, B] using f4)), (by first | exact f5 | (simpa (disch := decide) only [A, B] using f5)), (by first | exact f6 | (simpa (disch := decide) only [A, B] using f6)), (by first | exact f7 | (simpa (disch := decide) only [A, B] using f7)), (by first | exact f8 | (simpa (disch := decide) only [A, B] using f8)), (by first | exact f9 | (simpa (disch := decide) only [A, B] using f9)), (by first | exact f10 | (simpa (disch := decide) only [A, B] using f10)), (by first | exact f11 | (simpa (disch := decide) only [A, B] using f11))⟩, (by first | exact k1 | (simpa (disch := decide) only [A, B] using k1)), ⟨(fun i hi => by rw [z4, t23, x4]; exact p1 i hi), (by first | exact p2 | (simpa (disch := decide) only [A, B] using p2))⟩, ⟨(by first | exact w1 | (simpa (disch := decide) only [A, B] using w1)), (by first | exact w2 | (simpa (disch := decide) only [A, B] using w2)), (by first | exact w3 | (simpa (disch := decide) only [A, B] using w3)), (by first | exact w4 | (simpa (disch := decide) only [A, B] using w4)), (by first | exact w5 | (simpa (disch := decide) only [A, B] using w5)), (by first | exact w6 | (simpa (disch := decide) only [A, B] using w6)), (by first | exact w7 | (simpa (disch := decide) only [A, B] using w7))⟩⟩
      · omega
theorem rl_places (hI : iInv σ) (k : Int32) : iRel X mX6_places mX7_places [.inr k] σ := by
  obtain ⟨nc, np, hr, nn, nk, nq, nr, ns, ⟨b1, b2, b3, b4, b5, b6, b7, b8⟩, ⟨c1, c2, c3, c4, c5, c6, c7, c8⟩, ⟨m1, m2, m3, m4, m5, m6, m7, m8, m9⟩, ⟨f1, f2, f3, f4, f5, f6, f7, f8, f9, f10, f11⟩, k1, ⟨p1, p2⟩, ⟨w1, w2, w3, w4, w5, w6, w7⟩⟩ := id hI
  have e0 : ∀ j, σ 38 (7 * j) = σ 5 j := fun j => (k1 j).1
  have e1 : ∀ j, σ 38 (7 * j + 1) = σ 6 j := fun j => (k1 j).2.1
  generalize hS : pS nr nc ns (pdC σ) (pdS σ) 1000 = S
  refine ⟨_, ct_places c7 b7 c1 b1 c8 b8 k S hS, ?_⟩
  rintro r σ1 ⟨q1, q2⟩
  cases hz : pOk k ns nc with
  | false =>
    obtain ⟨rfl, rfl⟩ := q2 hz
    refine ⟨_, ct_m_places (nr := nr) (nc := nc) (m := ns) rfl (by simpa [iv_u, upd] using m7) b7 (by simpa [iv_u, upd] using m1) b1 (by simpa [iv_u, upd] using m8) b8 k _ rfl, ?_⟩
    rintro r' σ2 ⟨-, q4⟩
    obtain ⟨rfl, rfl⟩ := q4 hz
    exact ⟨rfl, iInv_thr hI _⟩
  | true =>
    obtain ⟨rfl, g2, g3⟩ := q1 hz
    have s37 := g3 37 (by decide) (by decide)
    generalize hS' : pS nr nc ns (pdMC (iv_u σ1 37 23 0)) (pdMS (iv_u σ1 37 23 0)) 268435456 = S'
    refine ⟨_, ct_m_places (nr := nr) (nc := nc) (m := ns) rfl (by rw [iv_u_eq, upd_ne (by decide), s37]; exact m7) b7 (by rw [iv_u_eq, upd_ne (by decide), s37]; exact m1) b1 (by rw [iv_u_eq, upd_ne (by decide), s37]; exact m8) b8 k S' hS', ?_⟩
    rintro r' σ2 ⟨q3, -⟩
    obtain ⟨rfl, rfl⟩ := q3 hz
    have hok : zw k 0 (nI ns) = true ∧ ¬ (k = 0 ∧ nc = 0) := by
      unfold pOk at hz
      simp only [Bool.and_eq_true, Bool.not_eq_true', Bool.and_eq_false_iff, decide_eq_false_iff_not] at hz
      exact ⟨hz.1, fun h => hz.2.elim (fun q => q h.1) (fun q => q h.2)⟩
    obtain ⟨hk, hkk⟩ := z_idx0 (by omega) hok.1
    generalize hkn : k.toNatClampNeg = kn at hk hkk
    subst hkk
    have hSS : ∀ b, b < 2 ^ ns → pC b = kn → S b = S' b := by
      intro b hb hc
      rw [← hS, ← hS']
      have d1 : pS nr nc ns (pdMC (iv_u σ1 37 23 0)) (pdMS (iv_u σ1 37 23 0)) 268435456 b = pS nr nc ns (pdC σ) (pdS σ) 268435456 b := by
        unfold pS
        refine ps_congr nr (fun r hr => ?_)
        obtain ⟨x1, x2⟩ := w4 r hr
        have a1 : pm (pdMC (iv_u σ1 37 23 0) r) (fun _ => true) nc 268435456 = pm (pdC σ r) (fun _ => true) nc 268435456 := by
          refine pm_congr nc (fun c hc => ⟨?_, rfl⟩)
          obtain ⟨-, y1, y2⟩ := w1 c hc
          unfold pdMC pdC
          simp only [iv_u_ne, ne_eq, Nat.reduceEqDiff, not_false_eq_true, g3 48 (by decide) (by decide), g3 49 (by decide) (by decide), g3 38 (by decide) (by decide), f8, f9, e0, e1]
          rw [zA_swap x1 y1, zA_swap x2 y2]
        rw [a1]
        refine pm_congr ns (fun t ht => ⟨?_, rfl⟩)
        obtain ⟨y1, y2⟩ := w5 t ht
        unfold pdMS pdS
        simp only [iv_u_ne, ne_eq, Nat.reduceEqDiff, not_false_eq_true, g3 48 (by decide) (by decide), g3 49 (by decide) (by decide), g3 50 (by decide) (by decide), g3 51 (by decide) (by decide), f8, f9, f10, f11]
        rw [zA_swap x1 y1, zA_swap x2 y2]
      rw [d1]
      refine pS_start (fun r hr c hc => ?_) (fun r hr t ht => ?_) ?_
      · obtain ⟨x1, x2⟩ := w4 r hr
        obtain ⟨-, y1, y2⟩ := w1 c hc
        unfold pdC
        rw [z_le, zAA_val y1 y2 x1 x2]
        have hk : (1000 : Int32).toInt = 1000 := by decide
        obtain ⟨u1, u2⟩ := x1
        obtain ⟨u3, u4⟩ := x2
        obtain ⟨u5, u6⟩ := y1
        obtain ⟨u7, u8⟩ := y2
        omega
      · obtain ⟨x1, x2⟩ := w4 r hr
        obtain ⟨y1, y2⟩ := w5 t ht
        unfold pdS
        rw [z_le, zAA_val y1 y2 x1 x2]
        have hk : (1000 : Int32).toInt = 1000 := by decide
        obtain ⟨u1, u2⟩ := x1
        obtain ⟨u3, u4⟩ := x2
        obtain ⟨u5, u6⟩ := y1
        obtain ⟨u7, u8⟩ := y2
        omega
      · by_cases hn0 : nc = 0
        · right
          refine pC_pos hb b8 ?_
          intro h0
          refine hok.2 ⟨?_, hn0⟩
          have : kn = 0 := by omega
          rw [this]; exact nI_0
        · left; omega
    have hBB := pB_congr (k := kn) (2 ^ ns) hSS
    obtain ⟨bb, hbb⟩ := pB_ex (S := S) b8 hk
    obtain ⟨hb1, hb2⟩ := pB_lt hbb
    have hbb' : pB S' kn (2 ^ ns) = some bb := by rw [← hBB]; exact hbb
    simp only [hkn, hbb] at g2
    simp only [hkn, hbb, hbb', pL]
    refine ⟨hSS bb hb1 hb2, ?_⟩
    exact ⟨(nc), (np), (hr), (nn), (nk), (nq), (nr), (ns), ⟨(by first | exact b1 | (simpa (disch := decide) only [iv_u_ne, iv_u_eq, upd_ne, g3] using b1)), (by first | exact b2 | (simpa (disch := decide) only [iv_u_ne, iv_u_eq, upd_ne, g3] using b2)), (by first | exact b3 | (simpa (disch := decide) only [iv_u_ne, iv_u_eq, upd_ne, g3] using b3)), (by first | exact b4 | (simpa (disch := decide) only [iv_u_ne, iv_u_eq, upd_ne, g3] using b4)), (by first | exact b5 | (simpa (disch := decide) only [iv_u_ne, iv_u_eq, upd_ne, g3] using b5)), (by first | exact b6 | (simpa (disch := decide) only [iv_u_ne, iv_u_eq, upd_ne, g3] using b6)), (by first | exact b7 | (simpa (disch := decide) only [iv_u_ne, iv_u_eq, upd_ne, g3] using b7)), (by first | exact b8 | (simpa (disch := decide) only [iv_u_ne, iv_u_eq, upd_ne, g3] using b8))⟩, ⟨(by first | exact c1 | (simpa (disch := decide) only [iv_u_ne, iv_u_eq, upd_ne, g3] using c1)), (by first | exact c2 | (simpa (disch := decide) only [iv_u_ne, iv_u_eq, upd_ne, g3] using c2)), (by first | exact c3 | (simpa (disch := decide) only [iv_u_ne, iv_u_eq, upd_ne, g3] using c3)), (by first | exact c4 | (simpa (disch := decide) only [iv_u_ne, iv_u_eq, upd_ne, g3] using c4)), (by first | exact c5 | (simpa (disch := decide) only [iv_u_ne, iv_u_eq, upd_ne, g3] using c5)), (by first | exact c6 | (simpa (disch := decide) only [iv_u_ne, iv_u_eq, upd_ne, g3] using c6)), (by first | exact c7 | (simpa (disch := decide) only [iv_u_ne, iv_u_eq, upd_ne, g3] using c7)), (by first | exact c8 | (simpa (disch := decide) only [iv_u_ne, iv_u_eq, upd_ne, g3] using c8))⟩, ⟨(by first | exact m1 | (simpa (disch := decide) only [iv_u_ne, iv_u_eq, upd_ne, g3] using m1)), (by first | exact m2 | (simpa (disch := decide) only [iv_u_ne, iv_u_eq, upd_ne, g3] using m2)), (by first | exact m3 | (simpa (disch := decide) only [iv_u_ne, iv_u_eq, upd_ne, g3] using m3)), (by first | exact m4 | (simpa (disch := decide) only [iv_u_ne, iv_u_eq, upd_ne, g3] using m4)), (by first | exact m5 | (simpa (disch := decide) only [iv_u_ne, iv_u_eq, upd_ne, g3] using m5)), (by first | exact m6 | (simpa (disch := decide) only [iv_u_ne, iv_u_eq, upd_ne, g3] using m6)), (by first | exact m7 | (simpa (disch := decide) only [iv_u_ne, iv_u_eq, upd_ne, g3] using m7)), (by first | exact m8 | (simpa (disch := decide) only [iv_u_ne, iv_u_eq, upd_ne, g3] using m8)), (by rw [iv_u_eq, upd_same, iv_u_ne (by decide), iv_u_ne (by decide), g2, upd_same])⟩, ⟨(by first | exact f1 | (simpa (disch := decide) only [iv_u_ne, iv_u_eq, upd_ne, g3] using f1)), (by first | exact f2 | (simpa (disch := decide) only [iv_u_ne, iv_u_eq, upd_ne, g3] using f2)), (by first | exact f3 | (simpa (disch := decide) only [iv_u_ne, iv_u_eq, upd_ne, g3] using f3)), (by first | exact f4 | (simpa (disch := decide) only [iv_u_ne, iv_u_eq, upd_ne, g3] using f4)), (by first | exact f5 | (simpa (disch := decide) only [iv_u_ne, iv_u_eq, upd_ne, g3] using f5)), (by first | exact f6 | (simpa (disch := decide) only [iv_u_ne, iv_u_eq, upd_ne, g3] using f6)), (by first | exact f7 | (simpa (disch := decide) only [iv_u_ne, iv_u_eq, upd_ne, g3] using f7)), (by first | exact f8 | (simpa (disch := decide) only [iv_u_ne, iv_u_eq, upd_ne, g3] using f8)), (by first | exact f9 | (simpa (disch := decide) only [iv_u_ne, iv_u_eq, upd_ne, g3] using f9)), (by first | exact f10 | (simpa (disch := decide) only [iv_u_ne, iv_u_eq, upd_ne, g3] using f10)), (by first | exact f11 | (simpa (disch := decide) only [iv_u_ne, iv_u_eq, upd_ne, g3] using f11))⟩, (by first | exact k1 | (simpa (disch := decide) only [iv_u_ne, iv_u_eq, upd_ne, g3] using k1)), ⟨(by first | exact p1 | (simpa (disch := decide) only [iv_u_ne, iv_u_eq, upd_ne, g3] using p1)), (by first | exact p2 | (simpa (disch := decide) only [iv_u_ne, iv_u_eq, upd_ne, g3] using p2))⟩, ⟨(by first | exact w1 | (simpa (disch := decide) only [iv_u_ne, iv_u_eq, upd_ne, g3] using w1)), (by first | exact w2 | (simpa (disch := decide) only [iv_u_ne, iv_u_eq, upd_ne, g3] using w2)), (by first | exact w3 | (simpa (disch := decide) only [iv_u_ne, iv_u_eq, upd_ne, g3] using w3)), (by first | exact w4 | (simpa (disch := decide) only [iv_u_ne, iv_u_eq, upd_ne, g3] using w4)), (by first | exact w5 | (simpa (disch := decide) only [iv_u_ne, iv_u_eq, upd_ne, g3] using w5)), (by first | exact w6 | (simpa (disch := decide) only [iv_u_ne, iv_u_eq, upd_ne, g3] using w6)), (by first | exact w7 | (simpa (disch := decide) only [iv_u_ne, iv_u_eq, upd_ne, g3] using w7))⟩⟩
theorem rl_run (hI : iInv σ) (m : Int32) : iRel X mX6_run mX7_run [.inr m] σ := by
  obtain ⟨nc, np, hr, nn, nk, nq, nr, ns, ⟨b1, b2, b3, b4, b5, b6, b7, b8⟩, ⟨c1, c2, c3, c4, c5, c6, c7, c8⟩, ⟨m1, m2, m3, m4, m5, m6, m7, m8, m9⟩, ⟨f1, f2, f3, f4, f5, f6, f7, f8, f9, f10, f11⟩, k1, ⟨p1, p2⟩, ⟨w1, w2, w3, w4, w5, w6, w7⟩⟩ := id hI
  have e3 : (fun j => σ 38 (7 * j + 3)) = σ 8 := funext fun j => (k1 j).2.2.2.1
  have e4 : (fun j => σ 38 (7 * j + 4)) = σ 9 := funext fun j => (k1 j).2.2.2.2.1
  have e5 : (fun j => σ 38 (7 * j + 5)) = σ 10 := funext fun j => (k1 j).2.2.2.2.2.1
  refine ⟨_, ct_run c2 b2 c1 b1 c3 b3 (fun j hj => (w1 j hj).1) w6 m, ?_⟩
  rintro r σ1 ⟨q1, q2⟩
  cases hz : (zw m 0 200 && decide (nI hr + m ≤ 10000)) with
  | false =>
    obtain ⟨rfl, rfl⟩ := q2 hz
    refine ⟨_, ct_m_run (n := np) (nc := nc) (h := hr) rfl (by simpa [iv_u, upd] using m2) b2 (by simpa [iv_u, upd] using m1) b1 (by simpa [iv_u, upd] using m3) b3 (fun j hj => by rw [iv_u_ne (by decide), (k1 j).2.2.2.1]; exact (w1 j hj).1) m, ?_⟩
    rintro r' σ2 ⟨-, q4⟩
    obtain ⟨rfl, rfl⟩ := q4 hz
    exact ⟨rfl, iInv_thr hI _⟩
  | true =>
    obtain ⟨rfl, hm, g1, g2, g3, g4⟩ := q1 hz
    have s37 := g1 37 (by decide) (by decide) (by decide) (by decide) (by decide)
    have s38 := g1 38 (by decide) (by decide) (by decide) (by decide) (by decide)
    refine ⟨_, ct_m_run (n := np) (nc := nc) (h := hr) rfl (by rw [iv_u_eq, upd_ne (by decide), s37]; exact m2) b2 (by rw [iv_u_eq, upd_ne (by decide), s37]; exact m1) b1 (by rw [iv_u_eq, upd_ne (by decide), s37]; exact m3) b3 (fun j hj => by rw [iv_u_ne (by decide), s38, (k1 j).2.2.2.1]; exact (w1 j hj).1) m, ?_⟩
    rintro r' σ2 ⟨q3, -⟩
    obtain ⟨rfl, t1, t2, t3, t4⟩ := q3 hz
    refine ⟨rfl, ?_⟩
    simp only [iv_u_ne, ne_eq, Nat.reduceEqDiff, not_false_eq_true, g1 38 (by decide) (by decide) (by decide) (by decide) (by decide), g1 39 (by decide) (by decide) (by decide) (by decide) (by decide), g1 40 (by decide) (by decide) (by decide) (by decide) (by decide), g1 41 (by decide) (by decide) (by decide) (by decide) (by decide), g1 42 (by decide) (by decide) (by decide) (by decide) (by decide), g1 43 (by decide) (by decide) (by decide) (by decide) (by decide), g1 44 (by decide) (by decide) (by decide) (by decide) (by decide), f1, f2, f3, f4, f5, f6, e3, e4, e5] at t3 t4
    rw [← g3] at t4
    obtain ⟨t5, t6⟩ := Prod.mk.inj t4
    obtain ⟨t6, t7⟩ := Prod.mk.inj t6
    have A : ∀ q, q ≠ 0 → q ≠ 10 → q ≠ 13 → q ≠ 14 → q ≠ 17 → q ≠ 37 → q ≠ 38 → q ≠ 39 → q ≠ 40 → q ≠ 52 → q ≠ 53 → σ2 q = σ q := fun q a1 a2 a3 a4 a5 a6 a7 a8 a9 a10 a11 => by rw [t1 q a6 a7 a8 a9 a10 a11, iv_u_ne a6, g1 q a1 a2 a3 a4 a5]
    have C : ∀ q, q ≠ 37 → q ≠ 38 → q ≠ 39 → q ≠ 40 → q ≠ 52 → q ≠ 53 → σ2 q = σ1 q := fun q a6 a7 a8 a9 a10 a11 => by rw [t1 q a6 a7 a8 a9 a10 a11, iv_u_ne a6]
    have B : ∀ j, j ≠ 9 → j ≠ 23 → σ2 37 j = σ 37 j := fun j a1 a2 => by rw [t2, upd_ne a1, iv_u_eq, upd_ne a2, s37]
    have D : ∀ j t, t < 7 → t ≠ 5 → σ2 38 (7 * j + t) = σ 38 (7 * j + t) := fun j t h1 h2 => t3 _ (fun i => by omega)
    refine ⟨(nc), (np), (hr + m.toNatClampNeg), (nn), (nk), (nq), (nr), (ns), ⟨(by first | exact b1 | (simpa (disch := decide) only [A, B] using b1)), (by first | exact b2 | (simpa (disch := decide) only [A, B] using b2)), hm, (by first | exact b4 | (simpa (disch := decide) only [A, B] using b4)), (by first | exact b5 | (simpa (disch := decide) only [A, B] using b5)), (by first | exact b6 | (simpa (disch := decide) only [A, B] using b6)), (by first | exact b7 | (simpa (disch := decide) only [A, B] using b7)), (by first | exact b8 | (simpa (disch := decide) only [A, B] using b8))⟩, ⟨(by first | exact c1 | (simpa (disch := decide) only [A, B] using c1)), (by first | exact c2 | (simpa (disch := decide) only [A, B] using c2)), (by rw [C 0 (by decide) (by decide) (by decide) (by decide) (by decide) (by decide), g2, upd_same]), (by first | exact c4 | (simpa (disch := decide) only [A, B] using c4)), (by first | exact c5 | (simpa (disch := decide) only [A, B] using c5)), (by first | exact c6 | (simpa (disch := decide) only [A, B] using c6)), (by first | exact c7 | (simpa (disch := decide) only [A, B] using c7)), (by first | exact c8 | (simpa (disch := decide) only [A, B] using c8))⟩, ⟨(by first | exact m1 | (simpa (disch := decide) only [A, B] using m1)), (by first | exact m2 | (simpa (disch := decide) only [A, B] using m2)), (by rw [t2, upd_same]), (by first | exact m4 | (simpa (disch := decide) only [A, B] using m4)), (by first | exact m5 | (simpa (disch := decide) only [A, B] using m5)), (by first | exact m6 | (simpa (disch := decide) only [A, B] using m6)), (by first | exact m7 | (simpa (disch := decide) only [A, B] using m7)), (by first | exact m8 | (simpa (disch := decide) only [A, B] using m8)), (by first | exact m9 | (simpa (disch := decide) only [A, B] using m9))⟩, ⟨(by first | exact f1 | (simpa (disch := decide) only [A, B] using f1)), (by first | exact f2 | (simpa (disch := decide) only [A, B] using f2)), (by rw [t5, C 13 (by decide) (by decide) (by decide) (by decide) (by decide) (by decide)]), (by rw [t6, C 14 (by decide) (by decide) (by decide) (by decide) (by decide) (by decide)]), (by first | exact f5 | (simpa (disch := decide) only [A, B] using f5)), (by first | exact f6 | (simpa (disch := decide) only [A, B] using f6)), (by first | exact f7 | (simpa (disch := decide) only [A, B] using f7)), (by first | exact f8 | (simpa (disch := decide) only [A, B] using f8)), (by first | exact f9 | (simpa (disch := decide) only [A, B] using f9)), (by first | exact f10 | (simpa (disch := decide) only [A, B] using f10)), (by first | exact f11 | (simpa (disch := decide) only [A, B] using f11))⟩, ?_, ⟨(by first | exact p1 | (simpa (disch := decide) only [A, B] using p1)), (by first | exact p2 | (simpa (disch := decide) only [A, B] using p2))⟩, ⟨(by first | exact w1 | (simpa (disch := decide) only [A, B] using w1)), (by first | exact w2 | (simpa (disch := decide) only [A, B] using w2)), (by first | exact w3 | (simpa (disch := decide) only [A, B] using w3)), (by first | exact w4 | (simpa (disch := decide) only [A, B] using w4)), (by first | exact w5 | (simpa (disch := decide) only [A, B] using w5)), (by rw [C 17 (by decide) (by decide) (by decide) (by decide) (by decide) (by decide)]; exact g4), (by first | exact w7 | (simpa (disch := decide) only [A, B] using w7))⟩⟩
    intro j
    have kj := k1 j
    have d5 : σ2 38 (7 * j + 5) = σ2 10 j := by rw [C 10 (by decide) (by decide) (by decide) (by decide) (by decide) (by decide)]; exact congrFun t7 j
    have d0 := D j 0 (by decide) (by decide)
    rw [Nat.add_zero] at d0
    rw [d0, D j 1 (by decide) (by decide), D j 2 (by decide) (by decide), D j 3 (by decide) (by decide), D j 4 (by decide) (by decide), D j 6 (by decide) (by decide), d5]
    simp (disch := decide) only [A]
    exact ⟨kj.1, kj.2.1, kj.2.2.1, kj.2.2.2.1, kj.2.2.2.2.1, trivial, kj.2.2.2.2.2.2⟩
end YP
