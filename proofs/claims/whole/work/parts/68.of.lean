/-! of: the class throws where nothing such is known -/
abbrev io_E : String := "java/util/NoSuchElementException"
def io_B : List Cond := [.declares (_root_.Jvm.Bundle.initS "java/lang/RuntimeException"), .declares (_root_.Jvm.Bundle.initS "java/lang/Exception"), .declares (_root_.Jvm.Bundle.initS "java/lang/Throwable"), .castable io_E io_E]
def io_13 : ByteArray := ⟨#[0x2a, 0x2b, 0xb7, 0x00, 0x0d, 0xb1]⟩
/-- what the tables say of a throw of this class: its own constructor links its super's by entry 13 -/
def io_own : List Cond := _root_.Jvm.Bundle.throwableAtoms ++ _root_.Jvm.Bundle.throwableSAtoms ++ _root_.Jvm.Bundle.passSAtoms io_E "java/lang/RuntimeException" 13 io_13 ++ _root_.Jvm.Bundle.chainSAtoms "java/lang/RuntimeException" ["java/lang/Exception"] ++
  [.methodLink RX6 150 (_root_.Jvm.Bundle.initS io_E), .instantiable io_E 6, .castable io_E io_E, .selects io_E _root_.Jvm.Bundle.tFill0 _root_.Jvm.Bundle.tFill0, .selects io_E _root_.Jvm.Bundle.tFill _root_.Jvm.Bundle.tFill,
   .lays io_E _root_.Jvm.Bundle.tN "cause" "Ljava/lang/Throwable;", .lays io_E _root_.Jvm.Bundle.tN "stackTrace" _root_.Jvm.Bundle.steD, .lays io_E _root_.Jvm.Bundle.tN "suppressedExceptions" _root_.Jvm.Bundle.listD, .lays io_E _root_.Jvm.Bundle.tN "detailMessage" "Ljava/lang/String;",
   .fieldLink _root_.Jvm.Bundle.tN 198 _root_.Jvm.Bundle.tN "backtrace" "Ljava/lang/Object;", .lays _root_.Jvm.Bundle.tN _root_.Jvm.Bundle.tN "backtrace" "Ljava/lang/Object;", .lays io_E _root_.Jvm.Bundle.tN "backtrace" "Ljava/lang/Object;"]
def io_at : List Cond := io_own.filter vx_no
theorem io_at_t : ∀ w ∈ io_at.filter goodWord, w ∈ lw_tbl := by decide +kernel
theorem io_at_g : ∀ w ∈ io_at.filter goodWord, w ∈ iv_g := fun w h => List.mem_filter.mpr ⟨io_at_t w h, (List.mem_filter.mp h).2⟩
theorem io_at_b : ∀ w ∈ io_at.filter (fun w => !goodWord w), w ∈ io_B := by decide +kernel
theorem io_ot : ∀ w ∈ Cond.classLink RX6 146 io_E :: Cond.initialized io_E :: io_at, vx_ot w = true := by decide +kernel
theorem io_13_0 : decode io_13 0 = .ok (.aload_n 0, 1) := by decide +kernel
theorem io_13_1 : decode io_13 1 = .ok (.aload_n 1, 1) := by decide +kernel
theorem io_13_2 : decode io_13 2 = .ok (.invokespecial 13, 3) := by decide +kernel
theorem io_13_5 : decode io_13 5 = .ok (.return_, 1) := by decide +kernel
theorem io_o1 : ∀ w ∈ _root_.Jvm.Bundle.throwableAtoms, w ∈ io_own := by decide +kernel
theorem io_o2 : ∀ w ∈ _root_.Jvm.Bundle.throwableSAtoms, w ∈ io_own := by decide +kernel
theorem io_o3 : ∀ w ∈ _root_.Jvm.Bundle.passSAtoms io_E "java/lang/RuntimeException" 13 io_13, w ∈ io_own := by decide +kernel
theorem io_o4 : ∀ w ∈ _root_.Jvm.Bundle.chainSAtoms "java/lang/RuntimeException" ["java/lang/Exception"], w ∈ io_own := by decide +kernel
section IOC
variable {p : Program} {l : Launch} {e : Env} {R : Room} {s : State} {m : MethodId} {args : Array Value} {below : List Frame} {meth : Method} {c : Code} {cells slots : Nat} {ls : Array Slot} {rest : List Value}
set_option maxHeartbeats 4000000 in
/-- from the call of the constructor to the throw: the chain's first link is entry 13 -/
theorem io_ctor {V : State} {pc : Nat} (X : Stand p l e R s m args below meth c V [] cells slots) (hexec : p.tables.exec = Jvm.exec) (htr : e.platform.stackTraces = false) (hown : s.vm.findClass RX6 = some m.cls) (h : ∀ w ∈ io_own, w.before args s = true)
    (rU : (Cond.isRef (.static _root_.Jvm.Bundle.tN "UNASSIGNED_STACK" _root_.Jvm.Bundle.steD)).before args s = true) (rN : (Cond.isRef (.static _root_.Jvm.Bundle.tN "SUPPRESSED_SENTINEL" _root_.Jvm.Bundle.listD)).before args s = true)
    {a sa : Addr} {cX : ClassId} {kX : Class} (hfX : s.vm.findClass io_E = some cX) (hkX : s.vm.classes[cX]? = some kX) (hcell : V.heap[a]? = some (freshCell cX kX)) (hnew : s.heap.size ≤ a) (hsize : ls.size = c.maxLocals)
    (d6 : decode c.code pc = .ok (.invokespecial 150, 3)) (d9 : decode c.code (pc + 3) = .ok (.athrow, 1)) (hout : ∀ x ∈ c.exceptionTable.toList, covers x (pc + 3) = false) (hRf : 5 < R.frames) (hRl : (rest.map fun v => v.category).sum + 82 ≤ R.locals) (hlocks : meth.locks = false) :
    ∃ U : State, Steps p.tables e below (V.setTop { method := m, pc := pc, locals := ls, stack := .ref sa :: .ref a :: .ref a :: rest, locked := none }) U ∧ U.status = .running ∧ Ended U below (.threw a) ∧ s.WarmedH U.vm ∧ s.sameButNew ({ U with vm := s.vm } : State) [] cells slots ∧
      ∃ ce : Cell, U.heap[a]? = some ce ∧ ce.cls = cX ∧ ce.vm = .none := by
  have hpl : e.platform.magicAccessors = ({} : Platform).magicAccessors := by rw [X.admits.platform]
  obtain ⟨T, Z0, L, -, Y⟩ := ThrowableC.of_atoms (args := args) (by rw [X.admits.platform]) (by rw [X.admits.platform]) hpl (fun x hx => h x (io_o1 x hx))
  obtain ⟨Z, M, LZ, LM, hnZ⟩ := Init0T.ofS_atoms (args := args) hpl L Y (fun x hx => h x (io_o2 x hx))
  obtain ⟨P, LP, hPm, hPs⟩ := PassC.ofS_atoms (args := args) (s := s) hpl (X := io_E) (Y := "java/lang/RuntimeException") (by decide +kernel) (by decide) io_13_0 io_13_1 io_13_2 io_13_5 (fun x hx => h x (io_o3 x hx))
  obtain ⟨Q, Qs, hlen, LQ, hL, hQm, hk1, hk2⟩ := _root_.Jvm.Bundle.chainS (args := args) hpl hnZ ["java/lang/Exception"] "java/lang/RuntimeException" (by decide +kernel) (by decide +kernel) (fun x hx => h x (io_o4 x hx))
  have hPQ : P.sup = Q.m := Option.some.inj (hPs.symm.trans hQm)
  have hlen2 : Qs.length = 1 := hlen
  have hf : s.vm.findClass io_E = some P.m.cls := findClass_of_methodNamed hPm
  obtain rfl : cX = P.m.cls := Option.some.inj (hfX.symm.trans hf)
  have w : ∀ x, x ∈ io_own → x.holds args s none s [] = true := fun x hx => h x hx
  obtain ⟨c1, k1, hc1, hk, hord, -, -, -⟩ := Cond.instantiable_spec (w (.instantiable io_E 6) (by decide +kernel))
  obtain rfl : c1 = P.m.cls := Option.some.inj (hc1.symm.trans hf)
  obtain rfl : kX = k1 := Option.some.inj (hkX.symm.trans hk)
  have hsel0 : selectMethod e.platform s.vm P.m.cls T.fill0 = .method T.fill0 := by
    obtain ⟨c2, r2, m2, q1, q2, q3, q4, -⟩ := Cond.selects_spec (w (.selects io_E _root_.Jvm.Bundle.tFill0 _root_.Jvm.Bundle.tFill0) (by decide +kernel))
    obtain rfl := Option.some.inj (q1.symm.trans hf)
    obtain rfl := Option.some.inj (q2.symm.trans (State.methodFound?_of_named Y.fill0 (by decide)))
    obtain rfl := Option.some.inj (q3.symm.trans Y.fill0)
    rw [Launch.admits_selectMethod X.admits]
    exact q4
  have hselF : selectMethod e.platform s.vm P.m.cls T.fill = .method T.fill := by
    obtain ⟨c2, r2, m2, q1, q2, q3, q4, -⟩ := Cond.selects_spec (w (.selects io_E _root_.Jvm.Bundle.tFill _root_.Jvm.Bundle.tFill) (by decide +kernel))
    obtain rfl := Option.some.inj (q1.symm.trans hf)
    obtain rfl := Option.some.inj (q2.symm.trans (State.methodFound?_of_named Y.fill (by decide)))
    obtain rfl := Option.some.inj (q3.symm.trans Y.fill)
    rw [Launch.admits_selectMethod X.admits]
    exact q4
  obtain ⟨cS0, hcS0, hiss⟩ := Y.statics
  obtain ⟨u0, hu0⟩ := Cond.staticRefV Y.unassigned L.unassignedStatic L.statics hcS0 hiss rU
  obtain ⟨sen, hsen⟩ := Cond.staticRefV Y.sentinel L.sentinelStatic L.statics hcS0 hiss rN
  obtain ⟨ci, ib, fB, b1, b2, b3, b4, -, hnB, htB, hffB⟩ := Cond.ownField (t := .object "java/lang/Object") Y.found L.cls (by decide +kernel) (w (.fieldLink _root_.Jvm.Bundle.tN 198 _root_.Jvm.Bundle.tN "backtrace" "Ljava/lang/Object;") (by decide +kernel)) (w (.lays _root_.Jvm.Bundle.tN _root_.Jvm.Bundle.tN "backtrace" "Ljava/lang/Object;") (by decide +kernel)) e.platform hpl
  obtain ⟨cS, hcS, heS, -, hkeep⟩ := X.same.2.2.2.2.2 T.aS cS0 hcS0
  have hcSV : V.heap[T.aS]? = some cS := hcS
  have hkn : cS.vm ≠ .unknown := by
    rw [heS]
    intro hu
    rw [show cS0.vm = .unknown from hu] at hiss
    cases hiss
  have hne : T.aS ≠ a := Nat.ne_of_lt (Nat.lt_of_lt_of_le (Array.getElem?_eq_some_iff.mp hcS0).1 hnew)
  obtain ⟨iM, hffM⟩ := Y.msg
  obtain ⟨tyC, dC, hdC, hdnC⟩ := Cond.laysAt hf hk Y.cause (w (.lays io_E _root_.Jvm.Bundle.tN "cause" "Ljava/lang/Throwable;") (by decide +kernel))
  obtain ⟨tyS, dS, hdS, hdnS⟩ := Cond.laysAt hf hk Y.stack (w (.lays io_E _root_.Jvm.Bundle.tN "stackTrace" _root_.Jvm.Bundle.steD) (by decide +kernel))
  obtain ⟨tyP, dP, hdP, hdnP⟩ := Cond.laysAt hf hk Y.supp (w (.lays io_E _root_.Jvm.Bundle.tN "suppressedExceptions" _root_.Jvm.Bundle.listD) (by decide +kernel))
  obtain ⟨tyM, -, -, -⟩ := Cond.laysAt hf hk hffM (w (.lays io_E _root_.Jvm.Bundle.tN "detailMessage" "Ljava/lang/String;") (by decide +kernel))
  obtain ⟨tyB, dB, hdB, hdnB⟩ := Cond.laysAt hf hk hffB (w (.lays io_E _root_.Jvm.Bundle.tN "backtrace" "Ljava/lang/Object;") (by decide +kernel))
  have nC := Cond.laysApart hdB hdC hdnB hdnC (by rw [hnB, Y.causeName]; decide)
  have nS := Cond.laysApart hdB hdS hdnB hdnS (by rw [hnB, Y.stackName]; decide)
  have nP := Cond.laysApart hdB hdP hdnB hdnP (by rw [hnB, Y.suppName]; decide)
  have hskip : SkipFacts T e.platform s (fun u => u) u0 ((preparedCellV T.toThrowableT (freshCell P.m.cls kX) a u0 sen).withEntry V.cur) := by
    refine ⟨{ ci198 := ci, i198 := ib, fBack := fB }, ⟨b1, b2, b3, b4⟩, ?_, fun _ _ => rfl⟩
    have hd := fresh_default (c := P.m.cls) tyB
    rw [htB] at hd
    simpa [preparedCellV, Cell.setSlot, Cell.withEntry, Array.getElem?_setIfInBounds, nC, nS, nP, nC.symm, nS.symm, nP.symm, defaultValue] using hd
  obtain ⟨tm, methC, cdC, kC, vm₁, hnC, -, -, -, -, -, -, -, hW₁, st1⟩ := Steps.initColdS (tb := p.tables) (e := e) (below := below) (s := s) (U := V) X.here hexec X.warmed hpl hown (t := _root_.Jvm.Bundle.initS io_E) rfl rfl (by decide)
    (w (.methodLink RX6 150 (_root_.Jvm.Bundle.initS io_E)) (by decide +kernel)) (h (.instanceMethod (_root_.Jvm.Bundle.initS io_E)) (by decide +kernel)) (bytes := io_13) (maxL := 2) (h (.code (_root_.Jvm.Bundle.initS io_E) io_13 2 none) (by decide +kernel))
    (f := { method := m, pc := pc, locals := ls, stack := .ref sa :: .ref a :: .ref a :: rest, locked := none }) rfl (a := a) (msg := .ref sa) (rest := .ref a :: rest) rfl d6
  obtain rfl := Option.some.inj (hnC.symm.trans hPm)
  have X₁ := X.noted hW₁
  obtain ⟨vm₂, X₂, st2⟩ := X₁.ctorMessageOffV hexec (g := { method := m, pc := pc, locals := ls, stack := .ref a :: rest, locked := none }) rfl hsize T L Z LZ M LM (P :: Q :: Qs)
    (fun z hz => by
      rcases List.mem_cons.mp hz with rfl | hz
      · exact LP
      · rcases List.mem_cons.mp hz with rfl | hz
        · exact LQ
        · exact hL z hz) ⟨hPQ, hk1, hk2⟩ (u0 := u0) (sen := sen) (self := a) (msg := .ref sa) rfl (cell := freshCell P.m.cls kX) (cellS := cS)
    hcell (fun _ => by simp) (by simp) rfl rfl hsel0 hselF hcSV hne hkn (by rw [hkeep _ (fun hm => nomatch hm)]; exact hu0) (by rw [hkeep _ (fun hm => nomatch hm)]; exact hsen)
    (Takes.of_laid hk hord tyC (by rw [Y.causeType]; rfl)) (Takes.of_laid hk hord tyS (by rw [Y.stackType]; exact fits_refV_array _ u0)) (Takes.of_laid hk hord tyP (by rw [Y.suppType]; exact fits_refV_object _ sen))
    (Takes.of_laid hk hord tyM (by rw [Y.msgType]; exact fits_refV_object _ ⟨.ref sa, rfl⟩)) Y.objLocals hskip htr [] d6
    (by simp only [List.length_cons, hlen2]; omega) (by
      have hm : JFrame.monitorRoom { method := m, pc := pc, locals := ls, stack := .ref a :: rest, locked := none } = 0 := rfl
      have hcat : (Value.ref a).category = 1 := rfl
      rw [hm]
      simp only [List.length_cons, hlen2, List.map_cons, List.sum_cons, hcat]
      omega)
  obtain ⟨hwalk, hrun, hended, hWU, hsame⟩ := X₂.athrowLeaves hexec (g := { method := m, pc := pc + 3, locals := ls, stack := .ref a :: rest, locked := none }) rfl rfl rfl hout (a := a) (rest := rest) rfl d9
  have hlt : a < ((V.setVm vm₁).setVm vm₂).heap.size := (Array.getElem?_eq_some_iff.mp hcell).1
  have hU := heapAt_setCell_self (s := (V.setVm vm₁).setVm vm₂) (plainBareV T.toThrowableT (freshCell P.m.cls kX) a u0 sen (.ref sa)) hlt
  refine ⟨_, st1 _ (fun acts => ?_), hrun, hended, hWU, hsame.weaken (fun y hy hlt' => ?_) (Nat.le_refl _) (Nat.le_refl _), _, hU, rfl, rfl⟩
  · rw [doInvoke_state]
    exact st2 _ hwalk
  · exfalso
    have hb : y.base = a := by
      simp only [List.nil_append, List.mem_cons, List.not_mem_nil, or_false] at hy
      rcases hy with rfl | rfl | rfl | rfl | rfl <;> rfl
    rw [hb] at hlt'
    exact Nat.not_lt.mpr hnew hlt'
end IOC
section IOT
variable {p : Program} {l : Launch} {e : Env} {R : Room} {s : State} {m : MethodId} {args : Array Value} {below : List Frame} {meth : Method} {c : Code} {H : Heap} {locs : List Loc} {cells slots : Nat} {free : Addr → Prop} {ls : Array Slot} {rest : List Value} {Qc : Array Value → State → Outcome → State → Prop} {XC : String → State → State → Prop}
theorem io_throwS {cc : ByteArray} {pc : Nat} (hexec : p.tables.exec = Jvm.exec) (hb : c.code = cc) (hl : l.stackTraces = false) {text : String} {is mc ms sa : Nat} {A : Nat → Prop}
    (hown : s.vm.findClass RX6 = some m.cls) (hk : (Cond.classLink RX6 146 io_E).before args s = true) (hini : (Cond.initialized io_E).before args s = true) (hstr : vk_R RX6 is text sa s) (hat : ∀ w ∈ io_at, w.before args s = true)
    (hU : vx_Zq _root_.Jvm.Bundle.tN "UNASSIGNED_STACK" _root_.Jvm.Bundle.steD A s s.heap) (hN : vx_Zq _root_.Jvm.Bundle.tN "SUPPRESSED_SENTINEL" _root_.Jvm.Bundle.listD A s s.heap) (hS : va_S A s.heap H locs) (hsize : ls.size = c.maxLocals)
    (d0 : decode cc pc = .ok (.new 146, 3)) (d3 : decode cc (pc + 3) = .ok (.dup, 1)) (d4 : decode cc (pc + 4) = .ok (.ldc is, 2)) (d6 : decode cc (pc + 6) = .ok (.invokespecial 150, 3)) (d9 : decode cc (pc + 9) = .ok (.athrow, 1))
    (hout : ∀ x ∈ c.exceptionTable.toList, covers x (pc + 9) = false)
    (hRframes : 5 < R.frames) (hRlocals : (rest.map fun v => v.category).sum + 82 ≤ R.locals) (hRcells : cells + 1 ≤ R.cells) (hRslots : slots + 6 ≤ R.slots) (hlocks : meth.locks = false)
    (hx : ∀ t : State, s.vm.Alike t.vm → H.size ≤ t.heap.size → (∀ q : Nat, q < H.size → t.heap[q]? = H[q]?) → XC io_E s t)
    (hf : ∀ z ∈ locs, free z.base) (hc : cells + 1 ≤ mc) (hs : slots + 6 ≤ ms) :
    W p l e R s m args below meth c H locs cells slots (vx_MQ below Qc XC args s mc ms free) (F0 m pc ls rest) := by
  intro T hT X
  have htr : e.platform.stackTraces = false := (show e.platform.stackTraces = l.stackTraces by rw [X.admits.platform]).trans hl
  have Y := vx_rebase X (R' := { frames := R.frames, locals := R.locals, cells := 1, slots := 6 }) (Nat.le_refl _) (Nat.le_refl _) hRcells hRslots
  obtain ⟨s', hA⟩ : ∃ z, z = (T.setVm s.vm).setFrames (.invoking m args :: below) := ⟨_, rfl⟩
  rw [← hA] at Y
  have hvm : s'.vm = s.vm := by rw [hA]; rfl
  have hhp : s'.heap = H := by rw [hA]; exact hT
  have hW0 : s.WarmedH s'.vm := by rw [hvm]; exact State.WarmedH.refl s
  have hat' : ∀ w ∈ io_own.filter vx_no, w.before args s' = true := fun w hw => vx_ot_at hW0 hvm.symm (io_ot w (List.mem_cons_of_mem _ (List.mem_cons_of_mem _ hw))) (hat w hw)
  have hk' : (Cond.classLink RX6 146 io_E).before args s' = true := vx_ot_at hW0 hvm.symm (io_ot _ List.mem_cons_self) hk
  have hini' : (Cond.initialized io_E).before args s' = true := vx_ot_at hW0 hvm.symm (io_ot _ (List.mem_cons_of_mem _ List.mem_cons_self)) hini
  have hU' : vx_Zq _root_.Jvm.Bundle.tN "UNASSIGNED_STACK" _root_.Jvm.Bundle.steD A s' s'.heap := by rw [hhp]; exact vx_Zq.moved hW0.alike (hU.kept hS.2.1)
  have hN' : vx_Zq _root_.Jvm.Bundle.tN "SUPPRESSED_SENTINEL" _root_.Jvm.Bundle.listD A s' s'.heap := by rw [hhp]; exact vx_Zq.moved hW0.alike (hN.kept hS.2.1)
  have h : ∀ w ∈ io_own, w.before args s' = true := vx_own hat' (vx_isRefq hU'.1) (vx_isRefq hN'.1) hU'.2.word hN'.2.word
  have hown' : s'.vm.findClass RX6 = some m.cls := by rw [hvm]; exact hown
  obtain ⟨vm₁, cX, kX, hfX, hkX, -, -, X₁, st1⟩ := Y.newCold hexec (own := RX6) (C := io_E) (index := 146) (n := 6) hown' hk' (h _ (by decide +kernel)) hini'
    (g := F0 m pc ls rest) rfl (by rw [hb]; exact d0) (Nat.le_refl _) (Nat.le_refl _)
  generalize hT1 : (T.setVm vm₁).pushCell { cls := cX, slots := kX.instanceTypes.map defaultValue, vm := .none } = T1 at X₁ st1
  have hcellA : T1.heap[T.heap.size]? = some (freshCell cX kX) := by rw [← hT1]; exact State.heap_pushCell_size _ _
  have d3' : decode c.code (pc + 3) = .ok (.dup, 1) := by rw [hb]; exact d3
  have hstr' : vk_R RX6 is text sa s' := vk_R.warm hW0 hstr
  obtain ⟨U, hsteps, hrun, hend, hW, hsame, ce, hce, hO1, hO2⟩ := io_ctor X₁ hexec htr hown' h (vx_isRefq hU'.1) (vx_isRefq hN'.1) (a := T.heap.size) (sa := sa) hfX hkX hcellA (by rw [hhp, hT]; exact Nat.le_refl _) hsize (pc := pc + 6) (rest := rest)
    (by rw [hb]; exact d6) (by rw [hb]; exact d9) hout hRframes hRlocals hlocks
  obtain ⟨f1, f2⟩ := vx_frame hsame
  rw [hhp] at f1 f2
  have hWs : s.WarmedH U.vm := State.WarmedH.trans hW0 hW
  have hcl : s.vm.findClass io_E = some ce.cls := by
    rw [← hvm, hO1]
    exact hfX
  have hall : s.sameButNew ({ U with vm := s.vm } : State) locs mc ms := by
    subst hA
    obtain ⟨e1, e2⟩ := hsame
    rw [State.setFrames_setFrames] at e1
    have h2 : (T.setVm s.vm).sameButNew ({ U with vm := s.vm } : State) [] (0 + 1) (0 + 6) := ⟨e1, e2⟩
    have h3 := X.same.trans h2
    rw [List.append_nil] at h3
    exact h3.mono hc hs
  refine ⟨U, ?_, .threw T.heap.size, hrun, hend, Or.inr ⟨T.heap.size, rfl, io_E, ce, locs, hx U hWs.alike f1 (fun q hq => f2 q hq (fun z hz => nomatch hz)), hce, hO2, hcl, hWs, hall, hf⟩⟩
  refine st1 _ ?_
  show Steps p.tables e below (T1.setTop { method := m, pc := pc + 3, locals := ls, stack := .ref T.heap.size :: rest, locked := none }) _
  jvm_step X₁.here [X₁.here.top, hexec, d3', Value.category]
  exact X₁.ldcString hexec (own := RX6) (text := text) (index := is) (a := sa) hown' hstr'.1 hstr'.2
    (g := { method := m, pc := pc + 4, locals := ls, stack := .ref T.heap.size :: .ref T.heap.size :: rest, locked := none }) rfl (by rw [hb]; exact d4) _ hsteps
end IOT
theorem io_k : Cond.classLink RX6 146 io_E ∈ iv_g := by decide +kernel
theorem io_i : Cond.initialized io_E ∈ iv_g := by decide +kernel
def io_Z (A : Nat → Prop) (sa sb : Nat) (U : State) : Prop := vx_Zq _root_.Jvm.Bundle.tN "UNASSIGNED_STACK" _root_.Jvm.Bundle.steD A U U.heap ∧ vx_Zq _root_.Jvm.Bundle.tN "SUPPRESSED_SENTINEL" _root_.Jvm.Bundle.listD A U U.heap ∧ vk_R RX6 148 "no such pack" sa U ∧ vk_R RX6 162 "nothing such is known of a pack" sb U ∧ ∀ w ∈ io_B, va_Nw w U
theorem io_Z_at {A A' : Nat → Prop} {sa sb : Nat} {s U : State} {H : Heap} {locs : List Loc} (hZ : io_Z A sa sb s) (hS : va_S A s.heap H locs) (hAA : ∀ q, A' q → A q) (hU : U.heap = H) (hW : s.WarmedH U.vm) : io_Z A' sa sb U := by
  obtain ⟨z1, z2, z3, z4, z5⟩ := hZ
  refine ⟨by rw [hU]; exact (vx_Zq.moved hW.alike (z1.kept hS.2.1)).narrow hAA, by rw [hU]; exact (vx_Zq.moved hW.alike (z2.kept hS.2.1)).narrow hAA, vk_R.warm hW z3, vk_R.warm hW z4, fun w hw => ?_⟩
  have h := z5 w hw
  simp only [io_B, List.mem_cons, List.not_mem_nil, or_false] at hw
  rcases hw with rfl | rfl | rfl | rfl
  · exact va_Nw.warmD hW h
  · exact va_Nw.warmD hW h
  · exact va_Nw.warmD hW h
  · exact va_Nw.warmC hW h
theorem io_Z_call {A : Nat → Prop} {sa sb : Nat} {U : State} (hZ : io_Z A sa sb U) (g : JFrame) (mk : MethodId) (a : Array Value) : io_Z A sa sb (U.calling g mk a) := by
  obtain ⟨z1, z2, z3, z4, z5⟩ := hZ
  refine ⟨vx_Zq.moved (u := U) (U := U.calling g mk a) (Vm.Alike.refl U.vm) z1, vx_Zq.moved (u := U) (U := U.calling g mk a) (Vm.Alike.refl U.vm) z2, vk_R.same rfl z3, vk_R.same rfl z4, fun w hw => va_Nw.same (by
    simp only [io_B, List.mem_cons, List.not_mem_nil, or_false] at hw
    rcases hw with rfl | rfl | rfl | rfl <;> rfl) (u := U) rfl (z5 w hw)⟩
def io_ok (n : Nat) (p w : Int32) : Bool := zw p 0 (nI n - 1) && zw w 0 3
def io_v (σ : iv_S) (p w : Int32) : Int32 := zK4 w (σ 13 p.toNatClampNeg) (σ 14 p.toNatClampNeg) (σ 16 p.toNatClampNeg) (zb (zR (σ 13) (σ 14) (σ 15) (σ 16) (σ 1) p.toNatClampNeg))
def io_q (n : Nat) (p w : Int32) (σ : iv_S) (r : Int32) (u : iv_S) : Prop := io_ok n p w = true ∧ r = io_v σ p w ∧ u = σ
def io_W (X : iv_X) (σ : iv_S) (sz : Nat) (u : iv_S) (t : State) : Prop := va_P X.2.1 vwCl (iv_w X.2.2.1 X.2.2.2.1 X.2.2.2.2 u) t.heap ∧ va_K X.2.1 vwCl (iv_T X.2.2.2.1 X.2.2.2.2) t ∧ va_D (iv_A X σ sz) (iv_w X.2.2.1 X.2.2.2.1 X.2.2.2.2 u)
def io_Pc (X : iv_X) (p w : Int32) (σ : iv_S) (sz sa sb : Nat) : Array Value → State → Prop := fun a U => iv_Pc X [.inl 0, .inr p, .inr w] σ sz a U ∧ io_Z (iv_A X σ sz) sa sb U
def io_XC (X : iv_X) (n : Nat) (p w : Int32) (σ : iv_S) (sz : Nat) : String → State → State → Prop := vx_X (fun _ : Unit => io_ok n p w = false) (fun E _ t => E = io_E ∧ io_W X σ sz σ t) (iv_A X σ sz)
def io_rm : Room := { frames := 10, cells := 1, slots := 6, locals := 400 }
set_option maxHeartbeats 4000000 in
set_option maxRecDepth 20000 in
set_option maxRecDepth 20000 in
set_option maxHeartbeats 4000000 in
theorem ct_of {X : iv_X} {σ : iv_S} {n : Nat} (hl0 : X.1.stackTraces = false) (hs : σ 12 5 = nI n) (hn : n ≤ 30) (pk w : Int32) (sa sb sz : Nat) : vx_Met X.1 yX6_of (.code yX6_of cX6_of 3 (some .int) :: iv_g) io_rm (io_Pc X pk w σ sz sa sb) (va_Qi (io_q n pk w σ) (io_W X σ sz) (iv_A X σ sz)) (io_XC X n pk w σ sz) 1 6 (iv_A X σ sz) := by
  refine vx_ofW (cc := cX6_of) (maxL := 3) (ret := some .int) (by decide) rfl ?_
  intro p e s m args below meth c s₁ B hml hnoex hv
  obtain ⟨⟨rfl, hsz, hP, hK, hD0, hN⟩, hZ⟩ := hv
  subst hsz
  have hts := atoms_spec (ws := .code yX6_of cX6_of 3 (some .int) :: iv_g) B.pre
  have hg := fun w h => hts w (List.mem_cons_of_mem _ h)
  have hown : s.vm.findClass RX6 = some m.cls := findClass_of_methodNamed B.named
  have hD := hD0.self (sz := s.heap.size)
  have hA : ∀ q : Nat, s.heap.size ≤ q → iv_A X σ s.heap.size q := fun q h => Or.inr h
  have hS : va_S (iv_A X σ s.heap.size) s.heap s.heap [] := va_S.rf
  have hl := lv_entry ([Sum.inl 0, Sum.inr pk, Sum.inr w].map (iv_e X.2.2.1)) (n := 3) (Nat.le_of_ble_eq_true rfl)
  rw [lg_entry_eq]
  have hthr : ∀ (pc is : Nat) (text : String) (sc : Nat) (ls : iv_Ls), vk_R RX6 is text sc s → io_ok n pk w = false → decode cX6_of pc = .ok (.new 146, 3) → decode cX6_of (pc + 3) = .ok (.dup, 1) → decode cX6_of (pc + 4) = .ok (.ldc is, 2) → decode cX6_of (pc + 6) = .ok (.invokespecial 150, 3) → decode cX6_of (pc + 9) = .ok (.athrow, 1) → iv_Gg p e io_rm s m ([Sum.inl 0, Sum.inr pk, Sum.inr w].map (iv_e X.2.2.1)).toArray below meth c X (iv_A X σ s.heap.size) (vx_MQ below (va_Qi (io_q n pk w σ) (io_W X σ s.heap.size) (iv_A X σ s.heap.size)) (io_XC X n pk w σ s.heap.size) ([Sum.inl 0, Sum.inr pk, Sum.inr w].map (iv_e X.2.2.1)).toArray s 1 6 (iv_A X σ s.heap.size)) 0 0 3 pc ls [] σ := by
    intro pc is text sc ls hR hno d0 d3 d4 d6 d9 H locs lsA hw hl2
    obtain ⟨hK2, hP2, hD2, hS2, hN2⟩ := hw
    have hsz2 : lsA.size = c.maxLocals := by obtain ⟨lv, h1, -⟩ := hl2; rw [hml]; exact h1.1
    refine io_throwS (text := text) (is := is) (sa := sc) (A := iv_A X σ s.heap.size) B.exec B.bytes hl0 hown (hg _ io_k) (hg _ io_i) hR
      (vx_hat (L := io_at) (B := io_B) (fun w h => hg w (io_at_g w h)) io_at_b (fun w h => va_Nw.use (by
        simp only [io_B, List.mem_cons, List.not_mem_nil, or_false] at h
        rcases h with rfl | rfl | rfl | rfl <;> rfl) (hZ.2.2.2.2 w h))) hZ.1 hZ.2.1 hS2 hsz2 d0 d3 d4 d6 d9 (fun x hx => (hnoex x hx).elim) (Nat.le_of_ble_eq_true rfl) (Nat.le_of_ble_eq_true rfl) (Nat.le_of_ble_eq_true rfl) (Nat.le_of_ble_eq_true rfl) B.notSynchronized
      (fun t hal hz hk => ⟨(), hno, ⟨rfl, hP2.kept (fun k q hq => hk q.1 (hP2 k q hq).lt), va_K.moved hal hK2, hD2⟩, Nat.le_trans hS2.1 hz, fun q h1 h2 => by rw [hk q (Nat.lt_of_lt_of_le h1 hS2.1)]; exact hS2.2.1 q h1 h2⟩) hS2.2.2 (Nat.le_refl _) (Nat.le_refl _)
  have hQM : ∀ (H : Heap) (locs : List Loc) (g : JFrame), W p X.1 e io_rm s m ([Sum.inl 0, Sum.inr pk, Sum.inr w].map (iv_e X.2.2.1)).toArray below meth c H locs 0 0 (MQ below (iv_Qc X mX6_of.2.2.2 σ s.heap.size (io_q n pk w σ)) ([Sum.inl 0, Sum.inr pk, Sum.inr w].map (iv_e X.2.2.1)).toArray s 0 0 (iv_A X σ s.heap.size)) g → W p X.1 e io_rm s m ([Sum.inl 0, Sum.inr pk, Sum.inr w].map (iv_e X.2.2.1)).toArray below meth c H locs 0 0 (vx_MQ below (va_Qi (io_q n pk w σ) (io_W X σ s.heap.size) (iv_A X σ s.heap.size)) (io_XC X n pk w σ s.heap.size) ([Sum.inl 0, Sum.inr pk, Sum.inr w].map (iv_e X.2.2.1)).toArray s 1 6 (iv_A X σ s.heap.size)) g := by
    intro H locs g k T hT Y
    obtain ⟨t, a1, o, b1, b2, b3, L, b4, b5⟩ := k T hT Y
    exact ⟨t, a1, o, b1, b2, Or.inl ⟨b3, L, ⟨b4.1, b4.2.1, b4.2.2.mono (Nat.zero_le _) (Nat.zero_le _)⟩, b5⟩⟩
  have sn := fun (cut : List Nat) => iv_sn_g (p := p) (e := e) (s := s) (m := m) (args := ([Sum.inl 0, Sum.inr pk, Sum.inr w].map (iv_e X.2.2.1)).toArray) (below := below) (meth := meth) (c := c) (X := X) (d := 9) (sz := s.heap.size) (y := mX6_of) (b := tbX6) (own := RX6) (Q := io_q n pk w σ) (cw := .code yX6_of cX6_of 3 (some .int)) (σ0 := σ) (R := io_rm) (cells := 0) (slots := 0) (cut := cut) ⟨Nat.le_of_ble_eq_true rfl, Nat.le_of_ble_eq_true rfl, Nat.zero_le _, Nat.zero_le _⟩ B.exec B.bytes B.returns hml hown hts B.notSynchronized okX6 hA hQM
  refine sn [11, 96] 60 0 [some (.inl 0), some (.inr pk), some (.inr w)] [] σ ?_ s.heap [] _ ⟨hK, hP, hD, hS, hN⟩ ⟨_, hl, fun i v2 hv => by
    have := iv_args_mem X.2.2.1 [Sum.inl 0, Sum.inr pk, Sum.inr w] 0 0 i v2 hv
    simpa using this⟩
  simp only [iv_sn, ie_cl0, ie_cl1, ie_cl2, ie_cl3, ie_cl4, ie_cl5, ie_cl6, ie_cl7, ie_cl8, ie_v5_0, ie_v5_1, ie_v5_2, ie_v5_3, ie_v5_4, ie_v6_0, ie_v8_0, ie_v12_0, ie_v24_0, ie_v30_0, ie_v3380_0, true_implies, false_implies, not_true_eq_false, implies_true, ie_10, ie_m10, ie_mm, iv_u_eq, iv_u_ne, Nat.reduceEqDiff, ie_p1, ie_p2, ie_pr, ie_pa, ie_ps, ie_d1, ie_d2, ie_r1, ie_o, ie_gr, ie_gi, ie_pt, ie_pf, ie_ri, ie_rz, ie_br, ie_c1eq, ie_c1ne, ie_c1lt, ie_c1ge, ie_c1gt, ie_c1le, ie_c2eq, ie_c2ne, ie_c2lt, ie_c2ge, ie_c2gt, ie_c2le, ie_fn0, ie_fn1, ie_fn2, ie_fn3, Nat.reduceAdd, ie_nc, Int.reduceAdd, Int.reduceLE, Int.reduceToNat, Nat.reduceLT, Nat.reduceLeDiff, Int.reduceNeg, eq_self, true_and, and_true, true_or, or_true, Nat.reduceBEq, List.elem_cons, List.elem_nil, Bool.or_false, Bool.false_or, Bool.or_true, Bool.true_or, Bool.false_eq_true, if_false, if_true, reduceIte, reduceCtorEq, ne_eq, not_false_eq_true, Classical.not_not, List.length_cons, List.length_nil, Nat.zero_le, List.map_cons, List.map_nil, List.cons_append, List.nil_append, List.replicate_succ, List.replicate_zero, Nat.reduceSub, sX6_of_0, sX6_of_1, sX6_of_4, sX6_of_5, sX6_of_8, cvX6_82, gfX6_26_0, ie_call1, ie_call2, ie_call3, ie_call4, ie_call5, ie_call6, ie_call7, ie_call8, ie_li1, ie_lr0, ie_rc1, ie_rc2, ie_rc3, ie_rc4, ie_rc5, ie_rc6, ie_rc7, ie_rc8, iv_cls_0, iv_cls_12, iv_cls_18, iv_cls_24, iv_cls_29, iv_cls_3, iv_cls_30, iv_cls_33, iv_cls_37, iv_cls_4, iv_sn, ie_cl0, ie_cl1, ie_cl2, ie_cl3, ie_cl4, ie_cl5, ie_cl6, ie_cl7, ie_cl8, ie_v5_0, ie_v5_1, ie_v5_2, ie_v5_3, ie_v5_4, ie_v6_0, ie_v8_0, ie_v12_0, ie_v24_0, ie_v30_0, ie_v3380_0, true_implies, false_implies, not_true_eq_false, implies_true, ie_10, ie_m10, ie_mm, iv_u_eq, iv_u_ne, Nat.reduceEqDiff, ie_p1, ie_p2, ie_pr, ie_pa, ie_ps, ie_d1, ie_d2, ie_r1, ie_o, ie_gr, ie_gi, ie_pt, ie_pf, ie_ri, ie_rz, ie_br, ie_c1eq, ie_c1ne, ie_c1lt, ie_c1ge, ie_c1gt, ie_c1le, ie_c2eq, ie_c2ne, ie_c2lt, ie_c2ge, ie_c2gt, ie_c2le, ie_fn0, ie_fn1, ie_fn2, ie_fn3, Nat.reduceAdd, ie_nc, Int.reduceAdd, Int.reduceLE, Int.reduceToNat, Nat.reduceLT, Nat.reduceLeDiff, Int.reduceNeg, eq_self, true_and, and_true, true_or, or_true, Nat.reduceBEq, List.elem_cons, List.elem_nil, Bool.or_false, Bool.false_or, Bool.or_true, Bool.true_or, Bool.false_eq_true, if_false, if_true, reduceIte, reduceCtorEq, ne_eq, not_false_eq_true, Classical.not_not, List.length_cons, List.length_nil, Nat.zero_le, List.map_cons, List.map_nil, List.cons_append, List.nil_append, List.replicate_succ, List.replicate_zero, Nat.reduceSub, sX6_of_21, sX6_of_22, sX6_of_52, sX6_of_53, sX6_of_56, sX6_of_59, sX6_of_60, sX6_of_61, sX6_of_62, sX6_of_63, sX6_of_66, sX6_of_69, sX6_of_70, sX6_of_71, sX6_of_72, sX6_of_73, sX6_of_76, sX6_of_79, sX6_of_80, sX6_of_81, sX6_of_82, sX6_of_83, sX6_of_84, sX6_of_87, sX6_of_90, sX6_of_91, sX6_of_94, sX6_of_95, Int.reduceLT, cvX6_159, gfX6_153_12, gfX6_156_12, gfX6_26_0, gfX6_93_12, ie_call1, ie_call2, ie_call3, ie_call4, ie_call5, ie_call6, ie_call7, ie_call8, ie_i0, ie_i1, ie_i2, ie_i3, ie_i4, ie_i5, ie_i6, ie_i7, ie_i8, ie_i9, ie_li1, ie_li2, ie_lr0, ie_rc1, ie_rc2, ie_rc3, ie_rc4, ie_rc5, ie_rc6, ie_rc7, ie_rc8, ie_sw0, ie_sw1, iv_ar_1, iv_ar_10, iv_ar_11, iv_ar_13, iv_ar_14, iv_ar_15, iv_ar_16, iv_ar_17, iv_ar_19, iv_ar_2, iv_ar_20, iv_ar_21, iv_ar_22, iv_ar_23, iv_ar_25, iv_ar_26, iv_ar_27, iv_ar_28, iv_ar_31, iv_ar_32, iv_ar_34, iv_ar_35, iv_ar_36, iv_ar_38, iv_ar_39, iv_ar_40, iv_ar_41, iv_ar_42, iv_ar_43, iv_ar_44, iv_ar_45, iv_ar_46, iv_ar_47, iv_ar_48, iv_ar_49, iv_ar_5, iv_ar_50, iv_ar_51, iv_ar_52, iv_ar_53, iv_ar_54, iv_ar_55, iv_ar_56, iv_ar_6, iv_ar_7, iv_ar_8, iv_ar_9, iv_cls_0, iv_cls_12, iv_cls_18, iv_cls_24, iv_cls_29, iv_cls_3, iv_cls_30, iv_cls_33, iv_cls_37, iv_cls_4]
  refine ⟨_, ct_has _, ?_⟩
  rintro r1 σ1 ⟨rfl, h1⟩
  subst h1
  simp only [zb0, zbn, hs]
  refine ⟨fun hz => ?_, fun hz => hthr 11 148 _ sa _ hZ.2.2.1 (by simp [io_ok, hz]) dX6_of_11 dX6_of_14 dX6_of_15 dX6_of_17 dX6_of_20⟩
  obtain ⟨hj, hp⟩ := z_cln hz (by omega)
  generalize hqq : pk.toNatClampNeg = j at hj hp
  subst hp
  simp only [z_in (show j < 30 by omega) (show 30 < 2 ^ 31 by decide), true_and]
  have hw3 : ∀ v : Int32, w = v → zw v 0 3 = true → io_ok n (nI j) w = true := fun v h1 h2 => by rw [h1]; simp [io_ok, hz, h2]
  refine ⟨fun hout => hthr 96 162 _ sb _ hZ.2.2.2.1 ?_ dX6_of_96 dX6_of_99 dX6_of_100 dX6_of_102 dX6_of_105, fun h => ⟨hw3 0 h (by decide), ?_, rfl⟩, fun h => ⟨hw3 1 h (by decide), ?_, rfl⟩, fun h => ⟨hw3 2 h (by decide), ?_, rfl⟩, fun h => ?_⟩
  · have : zw w 0 3 = false := by
      cases hq : zw w 0 3 with
      | false => rfl
      | true =>
        rw [zw_t, z_le, z_le] at hq
        have h0 : (0 : Int32).toInt = 0 := rfl
        have h3 : (3 : Int32).toInt = 3 := rfl
        omega
    simp [io_ok, this]
  · subst h; simp [io_v, zK4, hqq]
  · subst h; simp [io_v, zK4, hqq]
  · subst h; simp [io_v, zK4, hqq]
  · refine ⟨_, ct_isReady (show j < 30 by omega), ?_⟩
    rintro r2 σ2 ⟨rfl, h5⟩
    subst h5
    simp only [zb0, zbn]
    subst h
    exact ⟨fun h3 => ⟨hw3 3 rfl (by decide), by simp [io_v, zK4, hqq, h3, zb], rfl⟩, fun h3 => ⟨hw3 3 rfl (by decide), by simp [io_v, zK4, hqq, h3, zb], rfl⟩⟩
