def iv_G (p : Program) (e : Env) (R : Room) (s : State) (m : MethodId) (args : Array Value) (below : List Frame) (meth : Method) (c : Code) (X : iv_X) (A : Nat → Prop) (QM : State → Prop) (nL pc : Nat) (ls : iv_Ls) (st : List iv_V) (σ : iv_S) : Prop :=
  ∀ (H : Heap) (locs : List Loc) (lsA : Array Slot), iv_Wo X A s σ H locs → iv_lh X.2.2.1 lsA nL ls → W p X.1 e R s m args below meth c H locs 0 0 QM (F0 m pc lsA (st.map (iv_e X.2.2.1)))
theorem iv_rk_nar {ret : Option FieldType} {v : Int32} (h : iv_rk ret v) : ∃ ty, ret = some ty ∧ narrow ty (.int v) = .int v := by
  unfold iv_rk at h
  split at h
  · exact ⟨_, rfl, rfl⟩
  · refine ⟨_, rfl, ?_⟩
    rcases h with rfl | rfl <;> decide +kernel
  · exact h.elim
theorem iv_sw_spec {x : Int32} {pc : Nat} {f : Nat → Prop} : ∀ (os : List Int) (lo : Int), iv_sw x pc f lo os → ∀ i : Nat, ∀ o : Int, os[i]? = some o → x = Int32.ofInt (lo + i) → iv_j pc o f
  | [], _, _, i, o, h, _ => by simp at h
  | o0 :: os, lo, hf, 0, o, h, hx => by
    simp at h
    subst h
    exact hf.1 (by simpa using hx)
  | o0 :: os, lo, hf, i + 1, o, h, hx => by
    rw [List.getElem?_cons_succ] at h
    exact iv_sw_spec os (lo + 1) hf.2 i o h (by rw [hx]; congr 1; push_cast; omega)
section IVR
variable {p : Program} {e : Env} {s : State} {m : MethodId} {args : Array Value} {below : List Frame} {meth : Method} {c : Code} {X : iv_X} {d sz : Nat} {y : iv_M} {b : iv_B} {own : String} {Q : Int32 → iv_S → Prop} {cw : Cond} {σ0 : iv_S}
set_option maxHeartbeats 4000000 in
theorem iv_step_ok (hx : p.tables.exec = Jvm.exec) (hb : c.code = y.2.1) (hr : meth.sig.returnType = y.2.2.2) (hml : c.maxLocals = y.2.2.1) (hown : s.vm.findClass own = some m.cls) (hts : ∀ w ∈ cw :: iv_g, w.before args s = true) (hlocks : meth.locks = false) (hok : iv_ok own b)
    (hA : ∀ q, s.heap.size ≤ q → iv_A X σ0 sz q) {pc : Nat} {ls : iv_Ls} {st : List iv_V} {σ : iv_S}
    (hs : iv_st X d y b Q (iv_G p e (iv_rm (d + 1)) s m args below meth c X (iv_A X σ0 sz) (MQ below (iv_Qc X y.2.2.2 σ0 sz Q) args s 0 0 (iv_A X σ0 sz)) y.2.2.1) pc ls st σ) :
    iv_G p e (iv_rm (d + 1)) s m args below meth c X (iv_A X σ0 sz) (MQ below (iv_Qc X y.2.2.2 σ0 sz Q) args s 0 0 (iv_A X σ0 sz)) y.2.2.1 pc ls st σ := by
  intro H locs lsA hw hl
  have hK := hw.1
  have hP := hw.2.1
  have hD := hw.2.2.1
  have hS := hw.2.2.2.1
  have hN := hw.2.2.2.2
  have hgo : ∀ w ∈ iv_g, w.before args s = true := fun w h => hts w (List.mem_cons_of_mem _ h)
  unfold iv_st at hs
  split at hs
  · next xx hd =>
    obtain ⟨i, n⟩ := xx
    dsimp only at hs
    unfold iv_si at hs
    split at hs
    · replace hs := iv_q_spec hs
      obtain ⟨rfl, hs⟩ := hs
      exact lv_iconst hx hb hd rfl (hs H locs lsA hw hl)
    · replace hs := iv_q_spec hs
      obtain ⟨rfl, hs⟩ := hs
      exact lv_bipush hx hb hd rfl (hs H locs lsA hw hl)
    · replace hs := iv_q_spec hs
      obtain ⟨rfl, hs⟩ := hs
      exact lv_sipush hx hb hd rfl (hs H locs lsA hw hl)
    · replace hs := iv_q_spec hs
      obtain ⟨rfl, hs⟩ := hs
      obtain ⟨v, hv, hs⟩ := iv_o_spec hs
      exact lv_ldc hx hb hown (hgo _ (hok.2.1 _ _ hv)) hd (hs H locs lsA hw hl)
    · replace hs := iv_q_spec hs
      obtain ⟨rfl, hs⟩ := hs
      obtain ⟨v, hv, hs⟩ := iv_o_spec hs
      exact lv_ldcw hx hb hown (hgo _ (hok.2.1 _ _ hv)) hd (hs H locs lsA hw hl)
    · replace hs := iv_q_spec hs
      obtain ⟨rfl, hs⟩ := hs
      obtain ⟨v, hv, hs⟩ := iv_li_spec hs
      exact lv_iload_n hx hb hd rfl (iv_lh_get hl hv) (hs H locs lsA hw hl)
    · replace hs := iv_q_spec hs
      obtain ⟨rfl, hs⟩ := hs
      obtain ⟨v, hv, hs⟩ := iv_li_spec hs
      exact lv_iload hx hb hd (iv_lh_get hl hv) (hs H locs lsA hw hl)
    · replace hs := iv_q_spec hs
      obtain ⟨rfl, hs⟩ := hs
      obtain ⟨v, hv, hs⟩ := iv_lr_spec hs
      exact lv_aload_n hx hb hd rfl (iv_lh_get hl hv) (hs H locs lsA hw hl)
    · replace hs := iv_q_spec hs
      obtain ⟨rfl, hs⟩ := hs
      obtain ⟨v, hv, hs⟩ := iv_lr_spec hs
      exact lv_aload hx hb hd (iv_lh_get hl hv) (hs H locs lsA hw hl)
    · replace hs := iv_q_spec hs
      obtain ⟨rfl, hs⟩ := hs
      obtain ⟨hj, hs⟩ := iv_q_spec hs
      obtain ⟨x, r, rfl, hs⟩ := iv_p1_spec hs
      obtain ⟨lv, h1, h2⟩ := hl
      exact lv_istore_n hx hb hd rfl h1 hj rfl (fun ls' hl' => hs H locs ls' hw ⟨_, hl', iv_lh_set h2 _ (.inr x)⟩)
    · replace hs := iv_q_spec hs
      obtain ⟨rfl, hs⟩ := hs
      obtain ⟨hj, hs⟩ := iv_q_spec hs
      obtain ⟨x, r, rfl, hs⟩ := iv_p1_spec hs
      obtain ⟨lv, h1, h2⟩ := hl
      exact lv_istore hx hb hd h1 hj rfl (fun ls' hl' => hs H locs ls' hw ⟨_, hl', iv_lh_set h2 _ (.inr x)⟩)
    · replace hs := iv_q_spec hs
      obtain ⟨rfl, hs⟩ := hs
      obtain ⟨hj, hs⟩ := iv_q_spec hs
      obtain ⟨x, hv, hs⟩ := iv_li_spec hs
      obtain ⟨lv, h1, h2⟩ := hl
      obtain ⟨k, hk⟩ := List.getElem?_of_mem (h2 _ _ hv)
      exact lv_iinc hx hb hd h1 hk rfl hj rfl (fun ls' hl' => hs H locs ls' hw ⟨_, hl', iv_lh_set h2 _ (.inr _)⟩)
    · replace hs := iv_q_spec hs
      obtain ⟨rfl, hs⟩ := hs
      obtain ⟨x, z, r, rfl, hs⟩ := iv_p2_spec hs
      exact lv_iadd hx hb hd (hs H locs lsA hw hl)
    · replace hs := iv_q_spec hs
      obtain ⟨rfl, hs⟩ := hs
      obtain ⟨x, z, r, rfl, hs⟩ := iv_p2_spec hs
      exact lv_isub hx hb hd (hs H locs lsA hw hl)
    · replace hs := iv_q_spec hs
      obtain ⟨rfl, hs⟩ := hs
      obtain ⟨x, z, r, rfl, hs⟩ := iv_p2_spec hs
      exact lv_imul hx hb hd (hs H locs lsA hw hl)
    · replace hs := iv_q_spec hs
      obtain ⟨rfl, hs⟩ := hs
      obtain ⟨x, z, r, rfl, hs⟩ := iv_p2_spec hs
      exact lv_iand hx hb hd (hs H locs lsA hw hl)
    · replace hs := iv_q_spec hs
      obtain ⟨rfl, hs⟩ := hs
      obtain ⟨x, z, r, rfl, hs⟩ := iv_p2_spec hs
      exact lv_ior hx hb hd (hs H locs lsA hw hl)
    · replace hs := iv_q_spec hs
      obtain ⟨rfl, hs⟩ := hs
      obtain ⟨x, z, r, rfl, hs⟩ := iv_p2_spec hs
      exact lv_ixor hx hb hd (hs H locs lsA hw hl)
    · replace hs := iv_q_spec hs
      obtain ⟨rfl, hs⟩ := hs
      obtain ⟨x, z, r, rfl, hz, hs⟩ := iv_p2_spec hs
      exact lv_irem hx hb hd hz (hs H locs lsA hw hl)
    · replace hs := iv_q_spec hs
      obtain ⟨rfl, hs⟩ := hs
      obtain ⟨x, z, r, rfl, hs⟩ := iv_p2_spec hs
      exact lv_ishl hx hb hd (hs H locs lsA hw hl)
    · replace hs := iv_q_spec hs
      obtain ⟨rfl, hs⟩ := hs
      obtain ⟨x, z, r, rfl, hs⟩ := iv_p2_spec hs
      exact lv_ishr hx hb hd (hs H locs lsA hw hl)
    · replace hs := iv_q_spec hs
      obtain ⟨rfl, hs⟩ := hs
      obtain ⟨x, z, r, rfl, hs⟩ := iv_p2_spec hs
      exact lv_iushr hx hb hd rfl (hs H locs lsA hw hl)
    · replace hs := iv_q_spec hs
      obtain ⟨rfl, hs⟩ := hs
      obtain ⟨x, r, rfl, hs⟩ := iv_p1_spec hs
      exact lv_ineg hx hb hd (hs H locs lsA hw hl)
    · replace hs := iv_q_spec hs
      obtain ⟨rfl, hs⟩ := hs
      obtain ⟨x, r, rfl, hs⟩ := iv_d1_spec hs
      exact lv_dup hx hb hd (iv_cat _ _) (hs H locs lsA hw hl)
    · replace hs := iv_q_spec hs
      obtain ⟨rfl, hs⟩ := hs
      obtain ⟨x, z, r, rfl, hs⟩ := iv_d2_spec hs
      exact lv_dup2_11 hx hb hd (iv_cat _ _) (iv_cat _ _) (hs H locs lsA hw hl)
    · replace hs := iv_q_spec hs
      obtain ⟨rfl, hs⟩ := hs
      obtain ⟨x, r, rfl, hs⟩ := iv_d1_spec hs
      exact lv_pop hx hb hd (iv_cat _ _) (hs H locs lsA hw hl)
    · next cd off =>
      replace hs := iv_q_spec hs
      obtain ⟨rfl, hs⟩ := hs
      obtain ⟨h0, hs⟩ := iv_q_spec hs
      obtain ⟨x, r, rfl, hs⟩ := iv_p1_spec hs
      have kt : ∀ q : iv_c1 cd x, W p X.1 e (iv_rm (d + 1)) s m args below meth c H locs 0 0 (MQ below (iv_Qc X y.2.2.2 σ0 sz Q) args s 0 0 (iv_A X σ0 sz)) (F0 m ((pc : Int) + off).toNat lsA (r.map (iv_e X.2.2.1))) := fun q => hs.1 q H locs lsA hw hl
      have kf : ∀ q : ¬ iv_c1 cd x, W p X.1 e (iv_rm (d + 1)) s m args below meth c H locs 0 0 (MQ below (iv_Qc X y.2.2.2 σ0 sz Q) args s 0 0 (iv_A X σ0 sz)) (F0 m (pc + 3) lsA (r.map (iv_e X.2.2.1))) := fun q => hs.2 q H locs lsA hw hl
      have ht : (pc : Int) + off = (((pc : Int) + off).toNat : Int) := (Int.toNat_of_nonneg h0).symm
      cases cd
      · exact lv_if_eq hx hb hd ht kt kf
      · exact lv_if_ne hx hb hd ht kt (fun q => kf (fun h => h q))
      · exact lv_if_lt hx hb hd ht kt kf
      · exact lv_if_ge hx hb hd ht kt kf
      · exact lv_if_gt hx hb hd ht kt kf
      · exact lv_if_le hx hb hd ht kt kf
    · next cd off =>
      replace hs := iv_q_spec hs
      obtain ⟨rfl, hs⟩ := hs
      obtain ⟨h0, hs⟩ := iv_q_spec hs
      obtain ⟨x, z, r, rfl, hs⟩ := iv_p2_spec hs
      have kt : ∀ q : iv_c2 cd x z, W p X.1 e (iv_rm (d + 1)) s m args below meth c H locs 0 0 (MQ below (iv_Qc X y.2.2.2 σ0 sz Q) args s 0 0 (iv_A X σ0 sz)) (F0 m ((pc : Int) + off).toNat lsA (r.map (iv_e X.2.2.1))) := fun q => hs.1 q H locs lsA hw hl
      have kf : ∀ q : ¬ iv_c2 cd x z, W p X.1 e (iv_rm (d + 1)) s m args below meth c H locs 0 0 (MQ below (iv_Qc X y.2.2.2 σ0 sz Q) args s 0 0 (iv_A X σ0 sz)) (F0 m (pc + 3) lsA (r.map (iv_e X.2.2.1))) := fun q => hs.2 q H locs lsA hw hl
      have ht : (pc : Int) + off = (((pc : Int) + off).toNat : Int) := (Int.toNat_of_nonneg h0).symm
      cases cd
      · exact lv_icmp_eq hx hb hd ht kt kf
      · exact lv_icmp_ne hx hb hd ht kt (fun q => kf (fun h => h q))
      · exact lv_icmp_lt hx hb hd ht kt kf
      · exact lv_icmp_ge hx hb hd ht kt kf
      · exact lv_icmp_gt hx hb hd ht kt kf
      · exact lv_icmp_le hx hb hd ht kt kf
    · replace hs := iv_q_spec hs
      obtain ⟨rfl, hs⟩ := hs
      obtain ⟨h0, hs⟩ := iv_q_spec hs
      exact lv_goto hx hb hd (Int.toNat_of_nonneg h0).symm (hs H locs lsA hw hl)
    · replace hs := iv_q_spec hs
      obtain ⟨rfl, hs⟩ := hs
      obtain ⟨q, r, rfl, hs⟩ := iv_pr_spec hs
      obtain ⟨z, hz, hs⟩ := iv_o_spec hs
      obtain ⟨ci, fs, hf, hla, hfs⟩ := iv_gf_spec hz
      obtain ⟨qc, hq1, hq2, hq3⟩ := iv_fok (hok.1 _ _ _ hf)
      obtain ⟨ty0, -, -, hin⟩ := iv_cl_ok hq1
      have hent : (iv_w X.2.2.1 X.2.2.2.1 X.2.2.2.2 σ)[q]? = some (X.2.2.1 q, .inr (ci, iv_flds X.2.2.1 (σ q) fs 0)) := by
        rw [iv_w_get (iv_lt_of hla hfs)]
        unfold iv_en
        rw [hla]
      refine va_get (v := iv_e X.2.2.1 (iv_gv σ q z)) hx hb hgo hin hown hK hP q hent hq1 z.2 hq2 (hgo _ hq3) (fun _ h9 => h9) ?_ hd (hs H locs lsA hw hl)
      rw [iv_flds_get, hfs]
      obtain ⟨z1, z2⟩ := z
      cases z1 <;> simp [iv_fv, iv_gv, iv_e]
    · replace hs := iv_q_spec hs
      obtain ⟨rfl, hs⟩ := hs
      obtain ⟨q, x, r, rfl, hs⟩ := iv_pa_spec hs
      obtain ⟨⟨z1, z2⟩, hz, hzn, hs⟩ := iv_o_spec hs
      obtain ⟨ci, fs, hf, hla, hfs⟩ := iv_gf_spec hz
      dsimp only at hzn hf hfs hs
      subst hzn
      obtain ⟨qc, hq1, hq2, hq3⟩ := iv_fok (hok.1 _ _ _ hf)
      obtain ⟨ty0, hty, hnm, hin⟩ := iv_cl_ok hq1
      have hent : (iv_w X.2.2.1 X.2.2.2.1 X.2.2.2.2 σ)[q]? = some (X.2.2.1 q, .inr (ci, iv_flds X.2.2.1 (σ q) fs 0)) := by
        rw [iv_w_get (iv_lt_of hla hfs)]
        unfold iv_en
        rw [hla]
      obtain ⟨hI, hfin⟩ := iv_lay_of hla hq1 hfs
      have hset : (iv_w X.2.2.1 X.2.2.2.1 X.2.2.2.2 σ).set q (X.2.2.1 q, .inr (ci, (iv_flds X.2.2.1 (σ q) fs 0).set z2 (.int x))) = iv_w X.2.2.1 X.2.2.2.1 X.2.2.2.2 (iv_u σ q z2 x) := by
        refine iv_w_set (iv_lt_of hla hfs) ?_ (fun t ht => iv_u_ne ht)
        unfold iv_en
        rw [hla, iv_flds_set _ _ _ _ _ hfs, iv_u_eq]
      refine va_put (v := .int x) (ty := .int) hx hb hgo hin ty0 hty hnm hown hK hP hD hS q hent hq1 z2 hq2 (hgo _ hq3) (fun _ h9 => h9) hfin (by rw [hI]; decide +kernel) rfl rfl (by rw [iv_flds_len]; exact (List.getElem?_eq_some_iff.mp hfs).1) hd (fun H1 locs1 hP1 hD1 hS1 => ?_)
      rw [hset] at hP1 hD1
      exact hs H1 locs1 lsA ⟨hK, hP1, hD1, hS1, hN⟩ hl
    · replace hs := iv_q_spec hs
      obtain ⟨rfl, hs⟩ := hs
      obtain ⟨q, i, r, rfl, hs⟩ := iv_pa_spec hs
      obtain ⟨⟨z1, z2⟩, hz, hz1, hin, hs⟩ := iv_o_spec hs
      dsimp only at hz1 hin
      subst hz1
      obtain ⟨h57, hen⟩ := iv_ar_spec hz
      have hent : (iv_w X.2.2.1 X.2.2.2.1 X.2.2.2.2 σ)[q]? = some (X.2.2.1 q, .inl (X.2.2.2.1, z2, .inl (σ q))) := by
        rw [iv_w_get h57, hen]
        rfl
      exact va_iald hx hb hK hP q 0 hent rfl hin hd (hs H locs lsA hw hl)
    · replace hs := iv_q_spec hs
      obtain ⟨rfl, hs⟩ := hs
      obtain ⟨q, i, r, rfl, hs⟩ := iv_pa_spec hs
      obtain ⟨⟨z1, z2⟩, hz, hz1, hin, hs⟩ := iv_o_spec hs
      dsimp only at hz1 hin
      subst hz1
      obtain ⟨h57, hen⟩ := iv_ar_spec hz
      have hent : (iv_w X.2.2.1 X.2.2.2.1 X.2.2.2.2 σ)[q]? = some (X.2.2.1 q, .inl (X.2.2.2.2, z2, .inl (σ q))) := by
        rw [iv_w_get h57, hen]
        rfl
      exact va_zald hx hb hK hP q 1 hent rfl hin hd (hs H locs lsA hw hl)
    · replace hs := iv_q_spec hs
      obtain ⟨rfl, hs⟩ := hs
      obtain ⟨q, i, x, r, rfl, hs⟩ := iv_ps_spec hs
      obtain ⟨⟨z1, z2⟩, hz, hz1, hin, hs⟩ := iv_o_spec hs
      dsimp only at hz1 hin
      subst hz1
      obtain ⟨h57, hen⟩ := iv_ar_spec hz
      have hent : (iv_w X.2.2.1 X.2.2.2.1 X.2.2.2.2 σ)[q]? = some (X.2.2.1 q, .inl (X.2.2.2.1, z2, .inl (σ q))) := by
        rw [iv_w_get h57, hen]
        rfl
      have hset : (iv_w X.2.2.1 X.2.2.2.1 X.2.2.2.2 σ).set q (X.2.2.1 q, .inl (X.2.2.2.1, z2, .inl (upd (σ q) i.toNatClampNeg x))) = iv_w X.2.2.1 X.2.2.2.1 X.2.2.2.2 (iv_u σ q i.toNatClampNeg x) := by
        refine iv_w_set h57 ?_ (fun t ht => iv_u_ne ht)
        rw [hen, iv_u_eq]
        rfl
      refine va_iast hx hb hK hP hD hS q 0 hent rfl hin hd (fun H1 locs1 hP1 hD1 hS1 => ?_)
      rw [hset] at hP1 hD1
      exact hs H1 locs1 lsA ⟨hK, hP1, hD1, hS1, hN⟩ hl
    · replace hs := iv_q_spec hs
      obtain ⟨rfl, hs⟩ := hs
      obtain ⟨q, i, x, r, rfl, hs⟩ := iv_ps_spec hs
      obtain ⟨⟨z1, z2⟩, hz, hz1, hin, hs⟩ := iv_o_spec hs
      dsimp only at hz1 hin
      subst hz1
      obtain ⟨h57, hen⟩ := iv_ar_spec hz
      have hent : (iv_w X.2.2.1 X.2.2.2.1 X.2.2.2.2 σ)[q]? = some (X.2.2.1 q, .inl (X.2.2.2.2, z2, .inl (σ q))) := by
        rw [iv_w_get h57, hen]
        rfl
      have hset : (iv_w X.2.2.1 X.2.2.2.1 X.2.2.2.2 σ).set q (X.2.2.1 q, .inl (X.2.2.2.2, z2, .inl (upd (σ q) i.toNatClampNeg (vp_nar .boolean x)))) = iv_w X.2.2.1 X.2.2.2.1 X.2.2.2.2 (iv_u σ q i.toNatClampNeg (vp_nar .boolean x)) := by
        refine iv_w_set h57 ?_ (fun t ht => iv_u_ne ht)
        rw [hen, iv_u_eq]
        rfl
      refine va_zast hx hb hK hP hD hS q 1 hent rfl hin hd (fun H1 locs1 hP1 hD1 hS1 => ?_)
      rw [hset] at hP1 hD1
      exact hs H1 locs1 lsA ⟨hK, hP1, hD1, hS1, hN⟩ hl
    · replace hs := iv_q_spec hs
      obtain ⟨rfl, hs⟩ := hs
      obtain ⟨q, r, rfl, hs⟩ := iv_pr_spec hs
      obtain ⟨⟨z1, z2⟩, hz, hs⟩ := iv_o_spec hs
      obtain ⟨h57, hen⟩ := iv_ar_spec hz
      have hent : (iv_w X.2.2.1 X.2.2.2.1 X.2.2.2.2 σ)[q]? = some (X.2.2.1 q, .inl (if z1 then X.2.2.2.2 else X.2.2.2.1, z2, .inl (σ q))) := by
        rw [iv_w_get h57, hen]
      cases z1
      · exact va_alen hx hb hK hP q 0 hent rfl (ty := .int) rfl hd (hs H locs lsA hw hl)
      · exact va_alen hx hb hK hP q 1 hent rfl (ty := .boolean) rfl hd (hs H locs lsA hw hl)
    · next dflt lo hi offs =>
      obtain ⟨x, r, rfl, hs⟩ := iv_p1_spec hs
      obtain ⟨hlen, hdf, hsw⟩ := iv_q_spec hs
      by_cases hout : x.toInt < lo ∨ hi < x.toInt
      · obtain ⟨h0, hk⟩ := iv_q_spec (hdf hout)
        exact lv_tableOut hx hb hd hout (Int.toNat_of_nonneg h0).symm (hk H locs lsA hw hl)
      · have h1 : ¬ x.toInt < lo := fun q => hout (Or.inl q)
        have h2 : ¬ hi < x.toInt := fun q => hout (Or.inr q)
        have hlt : (x.toInt - lo).toNat < offs.toList.length := by omega
        have hget : offs.toList[(x.toInt - lo).toNat]? = some (offs.toList[(x.toInt - lo).toNat]) := List.getElem?_eq_getElem hlt
        have hjj := iv_sw_spec _ _ hsw _ _ hget (by
          have e1 : lo + ((x.toInt - lo).toNat : Int) = x.toInt := by omega
          rw [e1, Int32.ofInt_toInt])
        obtain ⟨h0, hk⟩ := iv_q_spec hjj
        exact lv_tableIn hx hb hd h1 h2 (by rw [← Array.getElem?_toList]; exact hget) (Int.toNat_of_nonneg h0).symm (hk H locs lsA hw hl)
    · replace hs := iv_q_spec hs
      obtain ⟨rfl, hs⟩ := hs
      obtain ⟨z, hz, hrc, hc⟩ := iv_o_spec hs
      have hsz : lsA.size = y.2.2.1 := by obtain ⟨lv, h1, -⟩ := hl; exact h1.1
      exact iv_cV hx hb hml hown hts hA (hok.2.2 _ _ _ _ _ hz) hd hrc hc hw hsz (fun st' σ' H1 locs1 hk hw1 => hk H1 locs1 lsA hw1 hl)
    · replace hs := iv_q_spec hs
      obtain ⟨rfl, hs⟩ := hs
      obtain ⟨z, hz, hrc, hc⟩ := iv_o_spec hs
      have hsz : lsA.size = y.2.2.1 := by obtain ⟨lv, h1, -⟩ := hl; exact h1.1
      exact iv_cS hx hb hml hown hts hA (hok.2.2 _ _ _ _ _ hz) hd hrc hc hw hsz (fun st' σ' H1 locs1 hk hw1 => hk H1 locs1 lsA hw1 hl)
    · replace hs := iv_q_spec hs
      obtain ⟨rfl, hs⟩ := hs
      obtain ⟨v, rfl, hrk, hq⟩ := iv_r1_spec hs
      obtain ⟨ty, hty, hnar⟩ := iv_rk_nar hrk
      exact W.zret hx hb (hr.trans hty) hnar (fun t ht hW => ⟨⟨v, σ, by rw [hty]; rfl, hq, by rw [ht]; exact hP, va_K.moved hW.alike hK, hD⟩, hS.F ht⟩) hS.2.2 hd hlocks
    · replace hs := iv_q_spec hs
      obtain ⟨rfl, hs⟩ := hs
      obtain ⟨rfl, hret, hq⟩ := hs
      exact W.vret hx hb (hr.trans hret) (fun t ht hW => ⟨⟨0, σ, by rw [hret]; rfl, hq, by rw [ht]; exact hP, va_K.moved hW.alike hK, hD⟩, hS.F ht⟩) hS.2.2 hd hlocks
    · exact hs.elim
  · exact hs.elim
theorem iv_Sf_ok (hx : p.tables.exec = Jvm.exec) (hb : c.code = y.2.1) (hr : meth.sig.returnType = y.2.2.2) (hml : c.maxLocals = y.2.2.1) (hown : s.vm.findClass own = some m.cls) (hts : ∀ w ∈ cw :: iv_g, w.before args s = true) (hlocks : meth.locks = false) (hok : iv_ok own b)
    (hA : ∀ q, s.heap.size ≤ q → iv_A X σ0 sz q) {pc : Nat} {ls : iv_Ls} {st : List iv_V} {σ : iv_S} (h : iv_Sf X d y b Q pc ls st σ) :
    iv_G p e (iv_rm (d + 1)) s m args below meth c X (iv_A X σ0 sz) (MQ below (iv_Qc X y.2.2.2 σ0 sz Q) args s 0 0 (iv_A X σ0 sz)) y.2.2.1 pc ls st σ :=
  h _ (fun _ _ _ _ hs => iv_step_ok hx hb hr hml hown hts hlocks hok hA hs)
end IVR
theorem iv_sl_len (a : Nat → Nat) : ∀ av : List iv_V, (lg_sl (av.map (iv_e a))).length = av.length
  | [] => rfl
  | v :: av => by
    have h := iv_sl_len a av
    cases v <;> simp [lg_sl, iv_e, Value.category] at h ⊢ <;> exact h
theorem iv_args_mem (a : Nat → Nat) : ∀ (av : List iv_V) (n j i : Nat) (v : iv_V), (av.map some ++ List.replicate n none)[i]? = some (some v) → (j + i, iv_e a v) ∈ lv_args j (av.map (iv_e a))
  | [], n, j, i, v, h => by
    simp only [List.map_nil, List.nil_append] at h
    rw [List.getElem?_replicate] at h
    split at h <;> simp at h
  | w :: av, n, j, 0, v, h => by
    simp at h
    subst h
    simp [lv_args]
  | w :: av, n, j, i + 1, v, h => by
    simp only [List.map_cons, List.cons_append, List.getElem?_cons_succ] at h
    have h1 := iv_args_mem a av n (j + 1) i v h
    simp only [List.map_cons, lv_args]
    rw [iv_cat]
    refine List.mem_cons_of_mem _ ?_
    rw [show j + (i + 1) = j + 1 + i by omega]
    simpa using h1
theorem iv_ofW {l : Launch} {y : MethodName} {ws ws' : List Cond} {rm : Room} {Pc : Array Value → State → Prop} {Qc : Array Value → State → Outcome → State → Prop} {mc ms : Nat} {free : Addr → Prop} {cc : ByteArray} {maxL : Nat} {ret : Option FieldType}
    (hy : plainFor y = true) (hw : ws = Cond.code y cc maxL ret :: ws')
    (body : ∀ p e s m args below meth c s₁, BodyLoose p l y (headSpec ws rm) cc maxL ret e s m args below meth c s₁ → c.maxLocals = maxL → Pc args s →
      W p l e (headSpec ws rm).room s m args below meth c s.heap [] 0 0 (MQ below Qc args s mc ms free) (entryFrame m args maxL)) : Met l y ws rm Pc Qc mc ms free := by
  refine MetFree.of_bodySF (code := cc) (maxLocals := maxL) (ret := ret) hy ?_ ?_
  · intro args s m h hn
    obtain ⟨meth, c, h1, h2, h3, h4, h5, h6, -, -⟩ := Cond.code_spec hn (atoms_spec (ws := ws) h _ (by rw [hw]; exact List.mem_cons_self))
    exact ⟨meth, c, h1, h2, h3, h4, h5, h6⟩
  · intro p e s m args below meth c s₁ B hml hP _
    have hh0 : s₁.heap = s.heap := by rw [B.state]; rfl
    obtain ⟨t, a1, o, b1, b2, b3⟩ := body p e s m args below meth c s₁ B hml hP s₁ hh0 (Stand.of_body B)
    exact ⟨t, o, a1, b1, b2, ⟨b3.1, b3.2⟩⟩
/-- a method's contract out of its steps -/
theorem iv_ct {X : iv_X} {d : Nat} {y : iv_M} {b : iv_B} {own : String} {Q : Int32 → iv_S → Prop} {av : List iv_V} {σ : iv_S} (hy : plainFor y.1 = true) (hyc : y.1.cls = own) (hok : iv_ok own b) (hlen : av.length ≤ y.2.2.1)
    (h : iv_Sf X d y b Q 0 (av.map some ++ List.replicate (y.2.2.1 - av.length) none) [] σ) : iv_Ct X y (d + 1) av σ Q := by
  intro sz
  refine iv_ofW (cc := y.2.1) (maxL := y.2.2.1) (ret := y.2.2.2) hy rfl ?_
  intro p e s m args below meth c s₁ B hml hv
  obtain ⟨rfl, hsz, hP, hK, hD0, hN⟩ := hv
  subst hsz
  have hts := atoms_spec (ws := .code y.1 y.2.1 y.2.2.1 y.2.2.2 :: iv_g) B.pre
  have hown : s.vm.findClass own = some m.cls := hyc ▸ findClass_of_methodNamed B.named
  have hD := hD0.self (sz := s.heap.size)
  have hA : ∀ q : Nat, s.heap.size ≤ q → iv_A X σ s.heap.size q := fun q h => Or.inr h
  have hS : va_S (iv_A X σ s.heap.size) s.heap s.heap [] := va_S.rf
  have hl := lv_entry (av.map (iv_e X.2.2.1)) (n := y.2.2.1) (by rw [iv_sl_len]; exact hlen)
  rw [lg_entry_eq]
  exact iv_Sf_ok B.exec B.bytes B.returns hml hown hts B.notSynchronized hok hA h s.heap [] _ ⟨hK, hP, hD, hS, hN⟩ ⟨_, hl, fun i v hv => by
    have := iv_args_mem X.2.2.1 av _ 0 i v hv
    simpa using this⟩
/-- a contract may say less -/
theorem iv_Ct_mono {X : iv_X} {y : iv_M} {d : Nat} {av : List iv_V} {σ : iv_S} {Q Q' : Int32 → iv_S → Prop} (h : iv_Ct X y d av σ Q) (hQ : ∀ r u, Q r u → Q' r u) : iv_Ct X y d av σ Q' := by
  intro sz p e ha hc hk s m args below hf happ hP hK
  obtain ⟨n, o, h1, h2, h3, ⟨⟨r, u, q1, q2, q3⟩, q4⟩, h5⟩ := h sz p e ha hc hk s m args below hf happ hP hK
  exact ⟨n, o, h1, h2, h3, ⟨⟨r, u, q1, hQ r u q2, q3⟩, q4⟩, h5⟩
