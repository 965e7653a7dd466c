/-! NoSuchElementException(String): its constructor links its super's by another entry (13), so the printed throw row does not serve it; here its own, out of the library's laws (PassC.ofS_atoms, Bundle.chainS, Stand.ctorMessageOffV, Stand.athrowLeaves) -/
abbrev nx_up : String := "java/lang/RuntimeException"
def nx_at (own : String) (ic : Nat) : List Cond := Bundle.throwableAtoms ++ (Bundle.throwableSAtoms ++ (Bundle.passSAtoms eNS nx_up 13 prog_15_method_4_code ++ (Bundle.chainSAtoms nx_up ["java/lang/Exception"] ++
  [.methodLink own ic (Bundle.initS eNS), .instantiable eNS 6, .castable eNS eNS, .selects eNS Bundle.tFill0 Bundle.tFill0, .selects eNS Bundle.tFill Bundle.tFill,
   .lays eNS Bundle.tN "cause" "Ljava/lang/Throwable;", .lays eNS Bundle.tN "stackTrace" Bundle.steD, .lays eNS Bundle.tN "suppressedExceptions" Bundle.listD, .lays eNS Bundle.tN "detailMessage" "Ljava/lang/String;",
   .isRef (.static Bundle.tN "UNASSIGNED_STACK" Bundle.steD), .isRef (.static Bundle.tN "SUPPRESSED_SENTINEL" Bundle.listD),
   .fieldLink Bundle.tN 198 Bundle.tN "backtrace" "Ljava/lang/Object;", .lays Bundle.tN Bundle.tN "backtrace" "Ljava/lang/Object;", .lays eNS Bundle.tN "backtrace" "Ljava/lang/Object;"])))
theorem nx_in1 {own : String} {ic : Nat} {x : Cond} (h : x ∈ Bundle.throwableAtoms) : x ∈ nx_at own ic := List.mem_append_left _ h
theorem nx_in2 {own : String} {ic : Nat} {x : Cond} (h : x ∈ Bundle.throwableSAtoms) : x ∈ nx_at own ic := List.mem_append_right _ (List.mem_append_left _ h)
theorem nx_in3 {own : String} {ic : Nat} {x : Cond} (h : x ∈ Bundle.passSAtoms eNS nx_up 13 prog_15_method_4_code) : x ∈ nx_at own ic := List.mem_append_right _ (List.mem_append_right _ (List.mem_append_left _ h))
theorem nx_in4 {own : String} {ic : Nat} {x : Cond} (h : x ∈ Bundle.chainSAtoms nx_up ["java/lang/Exception"]) : x ∈ nx_at own ic := List.mem_append_right _ (List.mem_append_right _ (List.mem_append_right _ (List.mem_append_left _ h)))
theorem nx_in5 {own : String} {ic : Nat} {x : Cond} (h : x ∈ ([.methodLink own ic (Bundle.initS eNS), .instantiable eNS 6, .castable eNS eNS, .selects eNS Bundle.tFill0 Bundle.tFill0, .selects eNS Bundle.tFill Bundle.tFill,
   .lays eNS Bundle.tN "cause" "Ljava/lang/Throwable;", .lays eNS Bundle.tN "stackTrace" Bundle.steD, .lays eNS Bundle.tN "suppressedExceptions" Bundle.listD, .lays eNS Bundle.tN "detailMessage" "Ljava/lang/String;",
   .isRef (.static Bundle.tN "UNASSIGNED_STACK" Bundle.steD), .isRef (.static Bundle.tN "SUPPRESSED_SENTINEL" Bundle.listD),
   .fieldLink Bundle.tN 198 Bundle.tN "backtrace" "Ljava/lang/Object;", .lays Bundle.tN Bundle.tN "backtrace" "Ljava/lang/Object;", .lays eNS Bundle.tN "backtrace" "Ljava/lang/Object;"] : List Cond)) : x ∈ nx_at own ic := List.mem_append_right _ (List.mem_append_right _ (List.mem_append_right _ (List.mem_append_right _ h)))
section NX
variable {p : Program} {l : Launch} {e : Env} {R : Room} {s : State} {m₀ : MethodId} {args : Array Value} {below : List Frame} {meth : Method} {c : Code} {W9 : State} {locs : List Loc} {cells slots : Nat}
set_option maxHeartbeats 2000000 in
theorem nx_ctor (X : Stand p l e R s m₀ args below meth c W9 locs cells slots) (hexec : p.tables.exec = Jvm.exec) (htr : e.platform.stackTraces = false) {own : String} {ic : Nat}
    (hown : s.vm.findClass own = some m₀.cls) (h : ∀ a ∈ nx_at own ic, a.before args s = true) (hlocs : ∀ x ∈ locs, ∀ cell, s.heap[x.base]? = some cell → cell.vm.isStatics = false)
    {a : Addr} {cX : ClassId} {kX : Class} (hfX : s.vm.findClass eNS = some cX) (hkX : s.vm.classes[cX]? = some kX) (hcell : W9.heap[a]? = some (freshCell cX kX)) (hnew : s.heap.size ≤ a)
    {msg : Value} (hmsg : msg.isRef = true) {g : JFrame} (hg : g.method = m₀) (hsize : g.locals.size = c.maxLocals) (hlk : g.locked = none) (hen : g.entered = []) {rest : List Value} (hstack : g.stack = msg :: .ref a :: .ref a :: rest)
    (hd6 : decode c.code g.pc = .ok (.invokespecial ic, 3)) (hd9 : decode c.code (g.pc + 3) = .ok (.athrow, 1)) (hout : ∀ x ∈ c.exceptionTable.toList, covers x (g.pc + 3) = false)
    (hRf : 5 < R.frames) (hRl : 2 * g.monitorRoom + ((Value.ref a :: rest).map fun v => v.category).sum + 81 ≤ R.locals) (hlocks : meth.locks = false) :
    ∃ U : State, Steps p.tables e below (W9.setTop g) U ∧ U.status = .running ∧ Ended U below (.threw a) ∧ s.WarmedH U.vm ∧ s.sameButNew ({ U with vm := s.vm } : State) locs cells slots ∧ ∃ ce, U.heap[a]? = some ce ∧ ce.vm = .none ∧ s.vm.findClass eNS = some ce.cls := by
  have hpl : e.platform.magicAccessors = ({} : Platform).magicAccessors := by rw [X.admits.platform]
  have w : ∀ x, x ∈ nx_at own ic → x.holds args s none s [] = true := fun x hx => h x hx
  obtain ⟨T, Z0, L, -, Y⟩ := ThrowableC.of_atoms (args := args) (by rw [X.admits.platform]) (by rw [X.admits.platform]) hpl (fun x hx => h x (nx_in1 hx))
  obtain ⟨Z, M, LZ, LM, hnZ⟩ := Init0T.ofS_atoms (args := args) hpl L Y (fun x hx => h x (nx_in2 hx))
  obtain ⟨P1, L1, hP1, hP1s⟩ := PassC.ofS_atoms (args := args) (s := s) hpl (X := eNS) (Y := nx_up) (index := 13) (bytes := prog_15_method_4_code) (by decide) (by decide) (by decide +kernel) (by decide +kernel) (by decide +kernel) (by decide +kernel) (fun x hx => h x (nx_in3 hx))
  obtain ⟨P2, Ps, hlen, L2, hL, hP2, hsup, hpass⟩ := Bundle.chainS (args := args) hpl hnZ ["java/lang/Exception"] nx_up (by decide) (by decide) (fun x hx => h x (nx_in4 hx))
  have hfound : s.vm.findClass eNS = some P1.m.cls := findClass_of_methodNamed hP1
  cases Option.some.inj (hfX.symm.trans hfound)
  obtain ⟨c1, kX', hc1, hk, hord, -, -, hn6⟩ := Cond.instantiable_spec (w (.instantiable eNS 6) (nx_in5 (by simp)))
  cases Option.some.inj (hc1.symm.trans hfound)
  cases Option.some.inj (hkX.symm.trans hk)
  have hsel0 : selectMethod e.platform s.vm P1.m.cls T.fill0 = .method T.fill0 := by
    obtain ⟨c2, r2, m2, q1, q2, q3, q4, -⟩ := Cond.selects_spec (w (.selects eNS Bundle.tFill0 Bundle.tFill0) (nx_in5 (by simp)))
    cases Option.some.inj (q1.symm.trans hfound)
    cases Option.some.inj (q2.symm.trans (State.methodFound?_of_named Y.fill0 (by decide)))
    cases Option.some.inj (q3.symm.trans Y.fill0)
    rw [Launch.admits_selectMethod X.admits]; exact q4
  have hselF : selectMethod e.platform s.vm P1.m.cls T.fill = .method T.fill := by
    obtain ⟨c2, r2, m2, q1, q2, q3, q4, -⟩ := Cond.selects_spec (w (.selects eNS Bundle.tFill Bundle.tFill) (nx_in5 (by simp)))
    cases Option.some.inj (q1.symm.trans hfound)
    cases Option.some.inj (q2.symm.trans (State.methodFound?_of_named Y.fill (by decide)))
    cases Option.some.inj (q3.symm.trans Y.fill)
    rw [Launch.admits_selectMethod X.admits]; exact q4
  obtain ⟨S0, hS0, hst⟩ := Y.statics
  obtain ⟨u0, hu0⟩ := Cond.staticRefV Y.unassigned L.unassignedStatic L.statics hS0 hst (w (.isRef (.static Bundle.tN "UNASSIGNED_STACK" Bundle.steD)) (nx_in5 (by simp)))
  obtain ⟨sen, hsen⟩ := Cond.staticRefV Y.sentinel L.sentinelStatic L.statics hS0 hst (w (.isRef (.static Bundle.tN "SUPPRESSED_SENTINEL" Bundle.listD)) (nx_in5 (by simp)))
  obtain ⟨cb, ib, fB, hkb, hgb, hab, hsB, -, hnB, htB, hffB⟩ := Cond.ownField (t := .object "java/lang/Object") Y.found L.cls (by decide +kernel) (w (.fieldLink Bundle.tN 198 Bundle.tN "backtrace" "Ljava/lang/Object;") (nx_in5 (by simp))) (w (.lays Bundle.tN Bundle.tN "backtrace" "Ljava/lang/Object;") (nx_in5 (by simp))) e.platform hpl
  obtain ⟨S1, hS1, heS, -, hkeep⟩ := X.same.2.2.2.2.2 T.aS S0 hS0
  have hS1' : W9.heap[T.aS]? = some S1 := hS1
  have hno : ∀ i, (⟨T.aS, i⟩ : Loc) ∉ locs := fun i hm => by
    have := hlocs _ hm S0 hS0
    rw [hst] at this; cases this
  have hkS : S1.vm ≠ .unknown := by
    rw [heS]; intro hu
    rw [show S0.vm = .unknown from hu] at hst
    cases hst
  have hne : T.aS ≠ a := Nat.ne_of_lt (Nat.lt_of_lt_of_le (Array.getElem?_eq_some_iff.mp hS0).1 hnew)
  obtain ⟨iM, hffM⟩ := Y.msg
  obtain ⟨tyC, dC, hdC, hdnC⟩ := Cond.laysAt hfound hk Y.cause (w (.lays eNS Bundle.tN "cause" "Ljava/lang/Throwable;") (nx_in5 (by simp)))
  obtain ⟨tyS, dS, hdS, hdnS⟩ := Cond.laysAt hfound hk Y.stack (w (.lays eNS Bundle.tN "stackTrace" Bundle.steD) (nx_in5 (by simp)))
  obtain ⟨tyP, dP, hdP, hdnP⟩ := Cond.laysAt hfound hk Y.supp (w (.lays eNS Bundle.tN "suppressedExceptions" Bundle.listD) (nx_in5 (by simp)))
  obtain ⟨tyM, dM, hdM, hdnM⟩ := Cond.laysAt hfound hk hffM (w (.lays eNS Bundle.tN "detailMessage" "Ljava/lang/String;") (nx_in5 (by simp)))
  obtain ⟨tyB, dB, hdB, hdnB⟩ := Cond.laysAt hfound hk hffB (w (.lays eNS Bundle.tN "backtrace" "Ljava/lang/Object;") (nx_in5 (by simp)))
  have bC := Cond.laysApart hdB hdC hdnB hdnC (by rw [hnB, Y.causeName]; decide)
  have bS := Cond.laysApart hdB hdS hdnB hdnS (by rw [hnB, Y.stackName]; decide)
  have bP := Cond.laysApart hdB hdP hdnB hdnP (by rw [hnB, Y.suppName]; decide)
  have hskip : SkipFacts T e.platform s (fun u => u) u0 ((preparedCellV T.toThrowableT (freshCell P1.m.cls kX) a u0 sen).withEntry W9.cur) :=
    ⟨{ ci198 := cb, i198 := ib, fBack := fB }, ⟨hkb, hgb, hab, hsB⟩, by
      have := fresh_default (c := P1.m.cls) tyB
      rw [htB] at this
      simpa [preparedCellV, Cell.setSlot, Cell.withEntry, Array.getElem?_setIfInBounds, bC, bS, bP, bC.symm, bS.symm, bP.symm, defaultValue] using this, fun _ _ => rfl⟩
  obtain ⟨tm, methC, cdC, kC, vm₁, hnC, -, -, -, -, -, -, -, hW₁, st1⟩ := Steps.initColdS (tb := p.tables) (e := e) (below := below) (s := s) (U := W9) X.here hexec X.warmed hpl hown (t := Bundle.initS eNS) rfl rfl (by decide)
    (w (.methodLink own ic (Bundle.initS eNS)) (nx_in5 (by simp))) (h (.instanceMethod (Bundle.initS eNS)) (nx_in3 (by simp [Bundle.passSAtoms]))) (bytes := prog_15_method_4_code) (maxL := 2) (h (.code (Bundle.initS eNS) prog_15_method_4_code 2 none) (nx_in3 (by simp [Bundle.passSAtoms])))
    (f := g) hg (a := a) (msg := msg) (rest := .ref a :: rest) hstack hd6
  cases Option.some.inj (hnC.symm.trans hP1)
  have X₁ := X.noted hW₁
  have hlink : PassesOn (Z.m T.toThrowableT) ((P1 :: P2 :: Ps).map (·.toPassT)) := ⟨Option.some.inj (hP1s.symm.trans hP2), hsup, hpass⟩
  obtain ⟨vm₂, X₂, st2⟩ := X₁.ctorMessageOffV hexec (g := { g with stack := .ref a :: rest }) hg hsize T L Z LZ M LM (P1 :: P2 :: Ps)
    (fun P hP => by
      rcases List.mem_cons.mp hP with rfl | hP
      · exact L1
      · rcases List.mem_cons.mp hP with rfl | hP
        · exact L2
        · exact hL P hP) hlink (u0 := u0) (sen := sen) (self := a) hmsg (cell := freshCell P1.m.cls kX) (cellS := S1)
    hcell (fun _ => by simp) (by simp) rfl rfl hsel0 hselF hS1' hne hkS (by rw [hkeep _ (hno _)]; exact hu0) (by rw [hkeep _ (hno _)]; exact hsen)
    (Takes.of_laid hk hord tyC (by rw [Y.causeType]; rfl)) (Takes.of_laid hk hord tyS (by rw [Y.stackType]; exact fits_refV_array _ u0)) (Takes.of_laid hk hord tyP (by rw [Y.suppType]; exact fits_refV_object _ sen))
    (Takes.of_laid hk hord tyM (by rw [Y.msgType]; exact fits_refV_object _ ⟨msg, hmsg⟩)) Y.objLocals hskip htr [] hd6
    (by simp only [List.length_cons, hlen, List.length_nil]; omega) (by simp only [List.length_cons, hlen, List.length_nil]; exact hRl)
  obtain ⟨hwalk, hrun, hended, hWU, hsame⟩ := X₂.athrowLeaves hexec (g := { g with stack := .ref a :: rest, pc := g.pc + 3 }) hg hlk hen hout (a := a) (rest := rest) rfl hd9 hlocks
  have hlt : a < ((W9.setVm vm₁).setVm vm₂).heap.size := (Array.getElem?_eq_some_iff.mp hcell).1
  have hU := heapAt_setCell_self (s := (W9.setVm vm₁).setVm vm₂) (plainBareV T.toThrowableT (freshCell P1.m.cls kX) a u0 sen msg) hlt
  refine ⟨_, st1 _ (fun acts => ?_), hrun, hended, hWU, hsame.weaken (fun y hy hlt' => ?_) (Nat.le_refl _) (Nat.le_refl _), _, hU, rfl, hfound⟩
  · rw [doInvoke_state]
    exact st2 _ hwalk
  · rcases List.mem_append.mp hy with h1 | h1
    · exact h1
    · exfalso
      have hb : y.base = a := by
        simp only [List.mem_cons, List.not_mem_nil, or_false] at h1
        rcases h1 with rfl | rfl | rfl | rfl | rfl <;> rfl
      rw [hb] at hlt'
      exact Nat.not_lt.mpr hnew hlt'
end NX
section NXT
variable {p : Program} {l : Launch} {e : Env} {R : Room} {s : State} {m : MethodId} {args : Array Value} {below : List Frame} {meth : Method} {c : Code} {H : Heap} {locs : List Loc} {cells slots : Nat} {Q : State → Prop}
variable {mc ms : Nat} {free : Addr → Prop} {A0 A1 : Nat → Prop} {H0 : Heap} {a : Array Value} {ls : Array Slot} {st0 rest : List Value}
variable {Qc : Array Value → State → Outcome → State → Prop} {XC : String → State → State → Prop}
/-- 'throw new NoSuchElementException("text")' (the printed row vx_throwS, turned to nx_ctor) -/
theorem nx_throw {cc : ByteArray} {pc : Nat} (hexec : p.tables.exec = Jvm.exec) (hb : c.code = cc) (hl : l.stackTraces = false) {own text : String} {ik is ic mc ms sa : Nat} {A : Nat → Prop}
    (hown : s.vm.findClass own = some m.cls)
    (hk : (Cond.classLink own ik eNS).before args s = true) (hini : (Cond.initialized eNS).before args s = true) (hstr : vk_R own is text sa s) (hat : ∀ w ∈ (nx_at own ic).filter vx_no, w.before args s = true)
    (hgood : ∀ w ∈ Cond.classLink own ik eNS :: Cond.initialized eNS :: (nx_at own ic).filter vx_no, vx_ot w = true)
    (hU : vx_Zq Bundle.tN "UNASSIGNED_STACK" Bundle.steD A s s.heap) (hN : vx_Zq Bundle.tN "SUPPRESSED_SENTINEL" Bundle.listD A s s.heap) (hS : va_S A s.heap H locs) (hsize : ls.size = c.maxLocals)
    (d0 : decode cc pc = .ok (.new ik, 3)) (d3 : decode cc (pc + 3) = .ok (.dup, 1)) (d4 : decode cc (pc + 4) = .ok (.ldc is, 2)) (d6 : decode cc (pc + 6) = .ok (.invokespecial ic, 3)) (d9 : decode cc (pc + 9) = .ok (.athrow, 1))
    (hout : ∀ x ∈ c.exceptionTable.toList, covers x (pc + 9) = false)
    (hRframes : 5 < R.frames) (hRlocals : (rest.map fun v => v.category).sum + 82 ≤ R.locals) (hRcells : cells + 1 ≤ R.cells) (hRslots : slots + 6 ≤ R.slots) (hlocks : meth.locks = false)
    (hx : ∀ t : State, s.vm.Alike t.vm → H.size ≤ t.heap.size → (∀ q : Nat, q < H.size → t.heap[q]? = H[q]?) → XC eNS s t)
    (hf : ∀ z ∈ locs, free z.base) (hc : cells + 1 ≤ mc) (hs : slots + 6 ≤ ms) :
    W p l e R s m args below meth c H locs cells slots (vx_MQ below Qc XC args s mc ms free) (F0 m pc ls rest) := by
  intro T hT X
  have htr : e.platform.stackTraces = false := (show e.platform.stackTraces = l.stackTraces by rw [X.admits.platform]).trans hl
  have Y := vx_rebase X (R' := { frames := R.frames, locals := R.locals, cells := 1, slots := 6 }) (Nat.le_refl _) (Nat.le_refl _) hRcells hRslots
  obtain ⟨s', hA⟩ : ∃ z, z = (T.setVm s.vm).setFrames (.invoking m args :: below) := ⟨_, rfl⟩
  rw [← hA] at Y
  have hvm : s'.vm = s.vm := by rw [hA]; rfl
  have hhp : s'.heap = H := by rw [hA]; exact hT
  have hW0 : s.WarmedH s'.vm := by rw [hvm]; exact State.WarmedH.refl s
  have hat' : ∀ w ∈ (nx_at own ic).filter vx_no, w.before args s' = true := fun w hw => vx_ot_at hW0 hvm.symm (hgood w (List.mem_cons_of_mem _ (List.mem_cons_of_mem _ hw))) (hat w hw)
  have hk' : (Cond.classLink own ik eNS).before args s' = true := vx_ot_at hW0 hvm.symm (hgood _ List.mem_cons_self) hk
  have hini' : (Cond.initialized eNS).before args s' = true := vx_ot_at hW0 hvm.symm (hgood _ (List.mem_cons_of_mem _ List.mem_cons_self)) hini
  have hU' : vx_Zq Bundle.tN "UNASSIGNED_STACK" Bundle.steD A s' s'.heap := by rw [hhp]; exact vx_Zq.moved hW0.alike (hU.kept hS.2.1)
  have hN' : vx_Zq Bundle.tN "SUPPRESSED_SENTINEL" Bundle.listD A s' s'.heap := by rw [hhp]; exact vx_Zq.moved hW0.alike (hN.kept hS.2.1)
  have h : ∀ w ∈ nx_at own ic, w.before args s' = true := vx_own hat' (vx_isRefq hU'.1) (vx_isRefq hN'.1) hU'.2.word hN'.2.word
  have hown' : s'.vm.findClass own = some m.cls := by rw [hvm]; exact hown
  have hins : (Cond.instantiable eNS 6).before args s' = true := h _ (nx_in5 (by simp))
  obtain ⟨vm₁, cX, kX, hfX, hkX, -, -, X₁, st1⟩ := Y.newCold hexec (own := own) (C := eNS) (index := ik) (n := 6) hown' hk' hins hini'
    (g := F0 m pc ls rest) rfl (by rw [hb]; exact d0) (Nat.le_refl _) (Nat.le_refl _)
  generalize hT1 : (T.setVm vm₁).pushCell { cls := cX, slots := kX.instanceTypes.map defaultValue, vm := .none } = T1 at X₁ st1
  have hcat : (Value.ref T.heap.size).category = 1 := rfl
  have hcellA : T1.heap[T.heap.size]? = some (freshCell cX kX) := by rw [← hT1]; exact State.heap_pushCell_size _ _
  have d3' : decode c.code (pc + 3) = .ok (.dup, 1) := by rw [hb]; exact d3
  have d4' : decode c.code (pc + 4) = .ok (.ldc is, 2) := by rw [hb]; exact d4
  have hstr' : vk_R own is text sa s' := vk_R.warm hW0 hstr
  obtain ⟨U, hsteps, hrun, hend, hW, hsame, ce, hce, hOv, hOc⟩ := nx_ctor X₁ hexec htr (own := own) (ic := ic) hown' h (fun x hx => nomatch hx) hfX hkX hcellA (by rw [hhp, hT]; exact Nat.le_refl _) (msg := .ref sa) rfl
    (g := { method := m, pc := pc + 6, locals := ls, stack := .ref sa :: .ref T.heap.size :: .ref T.heap.size :: rest, locked := none }) rfl hsize rfl rfl (rest := rest) rfl
    (by rw [hb]; exact d6) (by rw [hb]; exact d9) hout hRframes (by simp only [List.map_cons, List.sum_cons, hcat]; omega) hlocks
  obtain ⟨f1, f2⟩ := vx_frame hsame
  rw [hhp] at f1 f2
  have hWs : s.WarmedH U.vm := State.WarmedH.trans hW0 hW
  have hcl : s.vm.findClass eNS = some ce.cls := by
    have h9 := hOc
    rw [hvm] at h9
    exact h9
  have hall : s.sameButNew ({ U with vm := s.vm } : State) locs mc ms := by
    subst hA
    obtain ⟨e1, e2⟩ := hsame
    rw [State.setFrames_setFrames] at e1
    have h2 : (T.setVm s.vm).sameButNew ({ U with vm := s.vm } : State) [] (0 + 1) (0 + 6) := ⟨e1, e2⟩
    have h3 := X.same.trans h2
    rw [List.append_nil] at h3
    exact h3.mono hc hs
  refine ⟨U, ?_, .threw T.heap.size, hrun, hend, Or.inr ⟨T.heap.size, rfl, eNS, ce, locs, hx U hWs.alike f1 (fun q hq => f2 q hq (fun z hz => nomatch hz)), hce, hOv, hcl, hWs, hall, hf⟩⟩
  refine st1 _ ?_
  show Steps p.tables e below (T1.setTop { method := m, pc := pc + 3, locals := ls, stack := .ref T.heap.size :: rest, locked := none }) _
  jvm_step X₁.here [X₁.here.top, hexec, d3', Value.category]
  exact X₁.ldcString hexec (own := own) (text := text) (index := is) (a := sa) hown' hstr'.1 hstr'.2
    (g := { method := m, pc := pc + 4, locals := ls, stack := .ref T.heap.size :: .ref T.heap.size :: rest, locked := none }) rfl d4' _ hsteps
end NXT
theorem th1_NS : ∀ w ∈ ((nx_at RS 242).filter vx_no).filter goodWord, w ∈ Wg := by decide +kernel
theorem th2_NS : ∀ w ∈ ((nx_at RS 242).filter vx_no).filter (fun w => !goodWord w), w ∈ Cond.castable eNS eNS :: pv_sup.map (fun N => Cond.declares (Bundle.initS N)) := by decide +kernel
theorem th3_NS : ((nx_at RS 242).filter vx_no).all vx_ot = true := by decide +kernel
section PWN
variable {l0 : Launch} {D : va_G} {tys : List (ClassId × FieldType)} {κ : pv_K} {cc : ByteArray} {own : String} {rm : Room} {nl : Nat} {cells slots : Nat} {LP : List Nat} {f : Nat → va_E} {pc : Nat} {lv lv' : List (Nat × Value)} {st : List Value}
/-- throw new E("text") in a method that has changed nothing yet -/
theorem pv_throwN (C : pv_C l0 D tys κ cc own rm nl) {P0 : Option Value → List Nat → (Nat → va_E) → Prop} {X0 : String → Prop} {LP0 : List Nat} {f0 : Nat → va_E} {ret0 : Option FieldType} {text : String} {ik is ic : Nat} (hN : pv_N κ) (R0 : pv_R κ D LP f P0 X0 ret0) (hk : Cond.classLink own ik eNS ∈ Wg) (hini : Cond.initialized eNS ∈ Wg) (hown : own = RS) (htx : (is, text) ∈ pv_strs)
    (h1 : ∀ w ∈ ((nx_at own ic).filter vx_no).filter goodWord, w ∈ Wg) (h2 : ∀ w ∈ ((nx_at own ic).filter vx_no).filter (fun w => !goodWord w), w ∈ Cond.castable eNS eNS :: pv_sup.map (fun N => Cond.declares (Bundle.initS N))) (h3 : ((nx_at own ic).filter vx_no).all vx_ot = true)
    (d0 : decode cc pc = .ok (.new ik, 3)) (d3 : decode cc (pc + 3) = .ok (.dup, 1)) (d4 : decode cc (pc + 4) = .ok (.ldc is, 2)) (d6 : decode cc (pc + 6) = .ok (.invokespecial ic, 3)) (d9 : decode cc (pc + 9) = .ok (.athrow, 1))
    (hfr : 5 < rm.frames) (hlo : (st.map fun v => v.category).sum + 82 ≤ rm.locals) (hc : cells + 1 ≤ rm.cells) (hs : slots + 6 ≤ rm.slots) (hX : X0 eNS) : pv_V D κ cells slots LP f pc lv st := by
  obtain ⟨p, l, e, R, s, m, args, below, meth, c, A, nL, Q⟩ := κ
  obtain ⟨hx, hb, hml, hown9, hts, hK, hA, hRe, hnl, hlocks, hE, htr, hl0⟩ := C
  obtain ⟨hr0, hQ, hAe⟩ := R0
  subst hRe
  subst hQ
  subst hAe
  subst hown
  intro H locs ls hP hD hS hl
  obtain ⟨sa, hsa⟩ := hE.2.2.1 _ htx
  refine nx_throw (text := text) (sa := sa) hx hb htr hown9 (hts _ hk) (hts _ hini) hsa ?_ ?_ hE.1 hE.2.1 hS (by rw [hml]; exact hl.1) d0 d3 d4 d6 d9 (fun x hx => (hN x hx).elim) hfr hlo hc hs hlocks ?_ hS.2.2 hc hs
  · refine vx_hat (fun w hw => hts _ (h1 w hw)) (B := Cond.castable eNS eNS :: pv_sup.map (fun N => Cond.declares (Bundle.initS N))) h2 (pv_nw hE (by decide))
  · intro w hw
    rcases List.mem_cons.mp hw with q | hw
    · rw [q]; rfl
    · rcases List.mem_cons.mp hw with q | hw
      · rw [q]; rfl
      · exact List.all_eq_true.mp h3 w hw
  · intro t hW hz hk9
    refine ⟨hX, fun k q hq => (hP k q hq).kept (hk9 q.1 ((hP k q hq).lt)), Nat.le_trans hS.1 hz, fun q h1 h2 => ?_⟩
    rw [hk9 q (Nat.lt_of_lt_of_le h1 hS.1)]
    exact hS.2.1 q h1 h2
end PWN
