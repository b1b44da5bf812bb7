/-! set and of as the law calls them -/
theorem rl_set {X : iv_X} {σ : iv_S} (hI : iInv σ) (w v : Int32) : ∀ r σ1, (((zw w 0 4 && zw v (zLo w) (zHi w)) = true → r = σ 1 w.toNatClampNeg ∧ σ1 = iv_u σ 1 w.toNatClampNeg v) ∧ ((zw w 0 4 && zw v (zLo w) (zHi w)) = false → r = -1 ∧ σ1 = σ)) →
    ∃ Q', iv_Ct X mX7_set 20 [.inl 37, .inr w, .inr v] σ1 Q' ∧ ∀ r' σ2, Q' r' σ2 → r = r' ∧ iInv σ2 := by
  obtain ⟨nc, np, hr, nn, nk, nq, nr, ns, ⟨b1, b2, b3, b4, b5, b6, b7, b8⟩, ⟨c1, c2, c3, c4, c5, c6, c7, c8⟩, ⟨m1, m2, m3, m4, m5, m6, m7, m8, m9⟩, ⟨f1, f2, f3, f4, f5, f6, f7, f8, f9, f10, f11⟩, k1, ⟨p1, p2⟩, ⟨w1, w2, w3, w4, w5, w6, w7⟩⟩ := id hI
  rintro r σ1 ⟨q1, q2⟩
  refine ⟨_, ct_m_set rfl w v, ?_⟩
  rintro r' σ2 ⟨q3, q4⟩
  cases hz : (zw w 0 4 && zw v (zLo w) (zHi w)) with
  | false =>
    obtain ⟨rfl, rfl⟩ := q2 hz
    obtain ⟨rfl, rfl⟩ := q4 hz
    exact ⟨rfl, iInv_thr hI _⟩
  | true =>
    obtain ⟨rfl, rfl⟩ := q1 hz
    obtain ⟨rfl, rfl⟩ := q3 hz
    refine ⟨by simp [iv_u, f1], ?_⟩
    exact ⟨(nc), (np), (hr), (nn), (nk), (nq), (nr), (ns), ⟨(by first | exact b1 | (simpa [iv_u, upd] using b1)), (by first | exact b2 | (simpa [iv_u, upd] using b2)), (by first | exact b3 | (simpa [iv_u, upd] using b3)), (by first | exact b4 | (simpa [iv_u, upd] using b4)), (by first | exact b5 | (simpa [iv_u, upd] using b5)), (by first | exact b6 | (simpa [iv_u, upd] using b6)), (by first | exact b7 | (simpa [iv_u, upd] using b7)), (by first | exact b8 | (simpa [iv_u, upd] using b8))⟩, ⟨(by first | exact c1 | (simpa [iv_u, upd] using c1)), (by first | exact c2 | (simpa [iv_u, upd] using c2)), (by first | exact c3 | (simpa [iv_u, upd] using c3)), (by first | exact c4 | (simpa [iv_u, upd] using c4)), (by first | exact c5 | (simpa [iv_u, upd] using c5)), (by first | exact c6 | (simpa [iv_u, upd] using c6)), (by first | exact c7 | (simpa [iv_u, upd] using c7)), (by first | exact c8 | (simpa [iv_u, upd] using c8))⟩, ⟨(by first | exact m1 | (simpa [iv_u, upd] using m1)), (by first | exact m2 | (simpa [iv_u, upd] using m2)), (by first | exact m3 | (simpa [iv_u, upd] using m3)), (by first | exact m4 | (simpa [iv_u, upd] using m4)), (by first | exact m5 | (simpa [iv_u, upd] using m5)), (by first | exact m6 | (simpa [iv_u, upd] using m6)), (by first | exact m7 | (simpa [iv_u, upd] using m7)), (by first | exact m8 | (simpa [iv_u, upd] using m8)), (by first | exact m9 | (simpa [iv_u, upd] using m9))⟩, ⟨(by simp [iv_u, f1]), (by first | exact f2 | (simpa [iv_u, upd] using f2)), (by first | exact f3 | (simpa [iv_u, upd] using f3)), (by first | exact f4 | (simpa [iv_u, upd] using f4)), (by first | exact f5 | (simpa [iv_u, upd] using f5)), (by first | exact f6 | (simpa [iv_u, upd] using f6)), (by first | exact f7 | (simpa [iv_u, upd] using f7)), (by first | exact f8 | (simpa [iv_u, upd] using f8)), (by first | exact f9 | (simpa [iv_u, upd] using f9)), (by first | exact f10 | (simpa [iv_u, upd] using f10)), (by first | exact f11 | (simpa [iv_u, upd] using f11))⟩, (by first | exact k1 | (simpa [iv_u, upd] using k1)), ⟨(by first | exact p1 | (simpa [iv_u, upd] using p1)), (by first | exact p2 | (simpa [iv_u, upd] using p2))⟩, ⟨(by first | exact w1 | (simpa [iv_u, upd] using w1)), (by first | exact w2 | (simpa [iv_u, upd] using w2)), (by first | exact w3 | (simpa [iv_u, upd] using w3)), (by first | exact w4 | (simpa [iv_u, upd] using w4)), (by first | exact w5 | (simpa [iv_u, upd] using w5)), (by first | exact w6 | (simpa [iv_u, upd] using w6)), (by first | exact w7 | (simpa [iv_u, upd] using w7))⟩⟩
def lc_C (p : Program) (s : State) (m : MethodId) (c : Code) (args : Array Value) (X : iv_X) (A : Nat → Prop) (R : Room) (b L : Nat) (xs : Nat → Int32) (sa sb : Nat) : Prop :=
  p.tables.exec = Jvm.exec ∧ c.code = cL_law ∧ c.maxLocals = 7 ∧ s.vm.findClass RL = some m.cls ∧ (∀ w ∈ Cond.initialized RX6 :: iv_g, w.before args s = true) ∧ (∀ q, s.heap.size ≤ q → A q) ∧ va_X b L xs s s.heap ∧ b < s.heap.size ∧ ¬ A b ∧ L < 2 ^ 31 ∧ iv_Sx A s s.heap ∧ io_Z A sa sb s ∧ X.1.stackTraces = false ∧ 2000 ≤ R.frames ∧ 80000 ≤ R.locals
abbrev lc_lv (X : iv_X) (b o i : Nat) : List (Nat × Value) := [(4, .int (nI i)), (0, .ref b), (1, .ref (X.2.2.1 0)), (2, .ref (X.2.2.1 37)), (3, .ref o)]
theorem il_Dmk {X : iv_X} {cJ : ClassId} {o : Nat} {σ : iv_S} {f : Nat → Int64} {A : Nat → Prop} (h : va_D A (iv_w X.2.2.1 X.2.2.2.1 X.2.2.2.2 σ)) (hA : A o) (hne : ∀ k, k < 57 → X.2.2.1 k ≠ o) : va_D A (il_w X cJ o σ f) := by
  have key : ∀ (k : Nat) (q : Nat × va_E), (il_w X cJ o σ f)[k]? = some q → (k < 57 ∧ (iv_w X.2.2.1 X.2.2.2.1 X.2.2.2.2 σ)[k]? = some q ∧ q.1 = X.2.2.1 k) ∨ (k = 57 ∧ q.1 = o) := by
    intro k q hq
    unfold il_w at hq
    by_cases hk : k < 57
    · rw [List.getElem?_append_left (by rw [iv_w_len]; exact hk)] at hq
      refine Or.inl ⟨hk, hq, ?_⟩
      rw [iv_w_get hk] at hq
      cases hq
      rfl
    · rw [List.getElem?_append_right (by rw [iv_w_len]; omega), iv_w_len] at hq
      have hl := (List.getElem?_eq_some_iff.mp hq).1
      simp at hl
      have : k = 57 := by omega
      subst this
      cases hq
      exact Or.inr ⟨rfl, rfl⟩
  refine ⟨fun i j p q hp hq e => ?_, fun k q hq => ?_⟩
  · rcases key i p hp with ⟨a1, a2, a3⟩ | ⟨a1, a2⟩
    · rcases key j q hq with ⟨b1, b2, b3⟩ | ⟨b1, b2⟩
      · exact h.1 i j p q a2 b2 e
      · exact absurd (by rw [← a3, e, b2]) (hne i a1)
    · rcases key j q hq with ⟨b1, b2, b3⟩ | ⟨b1, b2⟩
      · exact absurd (by rw [← b3, ← e, a2]) (hne j b1)
      · omega
  · rcases key k q hq with ⟨a1, a2, a3⟩ | ⟨a1, a2⟩
    · exact h.2 k q a2
    · rw [a2]; exact hA
theorem il_68 : Cond.methodLink RL 68 yL_of ∈ iv_g := by decide +kernel
theorem il_st : Cond.static yL_of ∈ iv_g := by decide +kernel
theorem il_iL : Cond.initialized RL ∈ iv_g := by decide +kernel
theorem il_cw : Cond.codeWith yL_of cL_of 5 (some .int) [(0, 10, 13, 13)] ∈ iv_g := by decide +kernel
section ILO
variable {p : Program} {e : Env} {R : Room} {s : State} {m : MethodId} {args : Array Value} {below : List Frame} {meth : Method} {c : Code} {X : iv_X} {A : Nat → Prop} {QM : State → Prop} {cells slots : Nat} {cJ : ClassId} {o : Nat} {f : Nat → Int64} {σ : iv_S} {H : Heap} {locs : List Loc} {ls : Array Slot} {b L i sa sb : Nat} {xs : Nat → Int32}
theorem il_KT (hw : il_Wo X cJ o A s σ f H locs) : va_K X.2.1 vwCl (il_T X cJ) s := by
  refine ⟨hw.1.1.1, fun k q hk => ?_⟩
  have hl := (List.getElem?_eq_some_iff.mp hk).1
  simp [il_T] at hl
  rcases (show k = 0 ∨ k = 1 ∨ k = 2 by omega) with rfl | rfl | rfl
  · exact hw.1.1.2 0 q hk
  · exact hw.1.1.2 1 q hk
  · cases hk
    exact ⟨hw.2.2.2.2.1, hw.2.2.2.2.2⟩
theorem il_blind {n : Nat} {pk w : Int32} {sz : Nat} : FrameBlind (il_Pc X cJ o pk w σ f sz sa sb) := by
  intro a U g mk q
  obtain ⟨q0, q1, qP, qK, qD, qN, qZ⟩ := q
  exact ⟨q0, q1, qP, va_K.moved (u := U) (U := U.calling g mk a) (Vm.Alike.refl U.vm) qK, qD, fun w hw => va_Nw.same (by
    simp only [iv_N, List.mem_cons, List.not_mem_nil, or_false] at hw
    rcases hw with rfl | rfl | rfl <;> rfl) (u := U) rfl (qN w hw), io_Z_call qZ g mk a⟩
theorem il_cof {n pc : Nat} (C : lc_C p s m c args X A R b L xs sa sb) (hRc : cells + 1 ≤ R.cells ∧ slots + 6 ≤ R.slots) (hs : σ 12 5 = nI n) (hn : n ≤ 30) (pk w : Int32) (hsize : ls.size = 7) (hd : decode cL_law pc = .ok (.invokestatic 68, 3)) (hw : il_Wo X cJ o A s σ f H locs)
    (kk : ∀ (r : Int32) (g : Nat → Int64) (H1 : Heap) (locs1 : List Loc), il_q n pk w σ r g → il_Wo X cJ o A s σ g H1 locs1 → W p X.1 e R s m args below meth c H1 locs1 (cells + 1) (slots + 6) QM (F0 m (pc + 3) ls [.int r])) : W p X.1 e R s m args below meth c H locs cells slots QM (F0 m pc ls [.ref o, .int w, .int pk, .ref (X.2.2.1 0)]) := by
  obtain ⟨hx, hb, hml, hown, hts, hA, hX, hbl, hbA, hL, hSx, hZ, hst, hRf, hRl⟩ := C
  have hP : va_P X.2.1 vwCl (il_w X cJ o σ f) H := il_P hw.1.2.1 hw.2.1
  have hD : va_D A (il_w X cJ o σ f) := il_Dmk hw.1.2.2.1 hw.2.2.2.1 hw.2.2.1
  have hS := hw.1.2.2.2.1
  have hK := il_KT hw
  have hF : ∀ q, il_A X cJ o σ f H.size q → A q := by
    intro q h
    rcases h with ⟨k, e, h⟩ | h
    · exact hD.2 k (q, e) h
    · exact hA q (Nat.le_trans hS.1 h)
  have hT : GoodIn (Cond.initialized RX6 :: iv_g) (va_wsS RL 68 yL_of il_ws) := by
    intro w hw2
    unfold va_wsS at hw2
    rcases List.mem_append.mp hw2 with h | h
    · simp only [List.mem_cons, List.not_mem_nil, or_false] at h
      rcases h with rfl | rfl | rfl
      all_goals first
        | exact iv_good1 il_68
        | exact iv_good1 il_st
        | exact iv_good1 il_iL
    · rcases List.mem_cons.mp h with rfl | h
      · exact iv_good1 il_cw
      · exact iv_good1 h
  refine va_calli (A0 := A) (vx_runSW (As := [.ref (X.2.2.1 0), .int pk, .int w, .ref o]) (rest := []) ⟨hx, hb, hml, hown, hts⟩ (ct_lof (f := f) (cJ := cJ) (o := o) hst hs hn pk w sa sb H.size) (vx_cwSW (maxL := 5) (ret := some .int) (bytes := cL_of) (hh := [(0, 10, 13, 13)]) (ws' := iv_g) 4 hts hT rfl rfl rfl ⟨by decide, by decide, by decide +kernel⟩ ⟨by show 12 + 1 ≤ R.frames; omega, by show 8 + (5 + 11) + 500 ≤ R.locals; omega⟩) ⟨il_blind (n := n), fun U hU hW => ⟨rfl, by rw [hU], by rw [hU]; exact hP, va_K.moved hW.alike hK, hD.weaken (fun _ _ _ _ => trivial), iv_nwarm hW hw.1.2.2.2.2, io_Z_at hZ hS hF hU hW⟩⟩ rfl rfl hsize rfl (lv_room (Nat.le_of_ble_eq_true rfl)) hd hRc) hS (fun q _ h => hF q h) hF (fun r g t H1 locs1 ht hal hq hB hz1 hk1 hS1 => ?_)
  obtain ⟨hP1, hK1, hD1⟩ := hB
  rw [ht] at hP1
  exact kk r g H1 locs1 hq ⟨⟨hw.1.1, il_P1 hP1, (il_D1 hD1).weaken (fun k q _ h => hF q.1 h), hS1, hw.1.2.2.2.2⟩, hP1 57 _ il_get, hw.2.2.1, hw.2.2.2⟩
end ILO
