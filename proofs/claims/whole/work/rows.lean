section
-- ===== PART A: goes FIRST, ahead of the names: the tables' words, and 'selects' of the private methods out of them =====
/-- a private method of a class that the tables say can be made, by its rows of tables_1 -/
def lw_okq (q : MethodName × Nat) : Prop := (q.1.cls ≠ "java/lang/invoke/MethodHandle" ∧ q.1.cls ≠ "java/lang/invoke/VarHandle") ∧ Cond.instantiable q.1.cls q.2 ∈ tables_1 ∧ Cond.privateMethod q.1 ∈ tables_1 ∧ Cond.instanceMethod q.1 ∈ tables_1
theorem lw_p0 : lw_okq (⟨"java/lang/Throwable", "fillInStackTrace", "(I)Ljava/lang/Throwable;"⟩, 6) := ⟨⟨by decide +kernel, by decide +kernel⟩, List.mem_of_getElem? (i := 115) (by decide +kernel), List.mem_of_getElem? (i := 113) (by decide +kernel), List.mem_of_getElem? (i := 114) (by decide +kernel)⟩
theorem lw_p1 : lw_okq (⟨"ReceiveSteps", "announcementOf", "(I)LReceiveSteps$Announcement;"⟩, 10) := ⟨⟨by decide +kernel, by decide +kernel⟩, List.mem_of_getElem? (i := 15) (by decide +kernel), List.mem_of_getElem? (i := 204) (by decide +kernel), List.mem_of_getElem? (i := 205) (by decide +kernel)⟩
theorem lw_p2 : lw_okq (⟨"ReceiveSteps", "isTaken", "(I)Z"⟩, 10) := ⟨⟨by decide +kernel, by decide +kernel⟩, List.mem_of_getElem? (i := 15) (by decide +kernel), List.mem_of_getElem? (i := 306) (by decide +kernel), List.mem_of_getElem? (i := 307) (by decide +kernel)⟩
theorem lw_p3 : lw_okq (⟨"ReceiveSteps", "hasRight", "(I)Z"⟩, 10) := ⟨⟨by decide +kernel, by decide +kernel⟩, List.mem_of_getElem? (i := 15) (by decide +kernel), List.mem_of_getElem? (i := 321) (by decide +kernel), List.mem_of_getElem? (i := 322) (by decide +kernel)⟩
theorem lw_p4 : lw_okq (⟨"ReceiveSteps", "lineOf", "(II)LReceiveSteps$Line;"⟩, 10) := ⟨⟨by decide +kernel, by decide +kernel⟩, List.mem_of_getElem? (i := 15) (by decide +kernel), List.mem_of_getElem? (i := 342) (by decide +kernel), List.mem_of_getElem? (i := 343) (by decide +kernel)⟩
theorem lw_p5 : lw_okq (⟨"ReceiveSteps", "makeUnits", "(LReceiveSteps$Line;II)V"⟩, 10) := ⟨⟨by decide +kernel, by decide +kernel⟩, List.mem_of_getElem? (i := 15) (by decide +kernel), List.mem_of_getElem? (i := 373) (by decide +kernel), List.mem_of_getElem? (i := 374) (by decide +kernel)⟩
theorem lw_p6 : lw_okq (⟨"ReceiveSteps", "unitOf", "(I)LReceiveSteps$Unit;"⟩, 10) := ⟨⟨by decide +kernel, by decide +kernel⟩, List.mem_of_getElem? (i := 15) (by decide +kernel), List.mem_of_getElem? (i := 424) (by decide +kernel), List.mem_of_getElem? (i := 425) (by decide +kernel)⟩
theorem lw_p7 : lw_okq (⟨"ReceiveSteps", "unitsInState", "(LReceiveSteps$Line;I)I"⟩, 10) := ⟨⟨by decide +kernel, by decide +kernel⟩, List.mem_of_getElem? (i := 15) (by decide +kernel), List.mem_of_getElem? (i := 433) (by decide +kernel), List.mem_of_getElem? (i := 434) (by decide +kernel)⟩
theorem lw_p8 : lw_okq (⟨"ReceiveSteps", "lacksLabel", "(LReceiveSteps$Line;)Z"⟩, 10) := ⟨⟨by decide +kernel, by decide +kernel⟩, List.mem_of_getElem? (i := 15) (by decide +kernel), List.mem_of_getElem? (i := 502) (by decide +kernel), List.mem_of_getElem? (i := 503) (by decide +kernel)⟩
theorem lw_p9 : lw_okq (⟨"ReceiveSteps", "noteDifference", "(LReceiveSteps$Line;)V"⟩, 10) := ⟨⟨by decide +kernel, by decide +kernel⟩, List.mem_of_getElem? (i := 15) (by decide +kernel), List.mem_of_getElem? (i := 506) (by decide +kernel), List.mem_of_getElem? (i := 507) (by decide +kernel)⟩
theorem lw_p10 : lw_okq (⟨"ReceiveSteps", "differenceOf", "(I)LReceiveSteps$Line;"⟩, 10) := ⟨⟨by decide +kernel, by decide +kernel⟩, List.mem_of_getElem? (i := 15) (by decide +kernel), List.mem_of_getElem? (i := 535) (by decide +kernel), List.mem_of_getElem? (i := 536) (by decide +kernel)⟩
theorem lw_p11 : lw_okq (⟨"ReceiveStepsModel", "isAnnouncement", "(I)Z"⟩, 31) := ⟨⟨by decide +kernel, by decide +kernel⟩, List.mem_of_getElem? (i := 573) (by decide +kernel), List.mem_of_getElem? (i := 690) (by decide +kernel), List.mem_of_getElem? (i := 691) (by decide +kernel)⟩
theorem lw_p12 : lw_okq (⟨"ReceiveStepsModel", "isTaken", "(I)Z"⟩, 31) := ⟨⟨by decide +kernel, by decide +kernel⟩, List.mem_of_getElem? (i := 573) (by decide +kernel), List.mem_of_getElem? (i := 698) (by decide +kernel), List.mem_of_getElem? (i := 699) (by decide +kernel)⟩
theorem lw_p13 : lw_okq (⟨"ReceiveStepsModel", "isLine", "(II)Z"⟩, 31) := ⟨⟨by decide +kernel, by decide +kernel⟩, List.mem_of_getElem? (i := 573) (by decide +kernel), List.mem_of_getElem? (i := 717) (by decide +kernel), List.mem_of_getElem? (i := 718) (by decide +kernel)⟩
theorem lw_p14 : lw_okq (⟨"ReceiveStepsModel", "takes", "(I)I"⟩, 31) := ⟨⟨by decide +kernel, by decide +kernel⟩, List.mem_of_getElem? (i := 573) (by decide +kernel), List.mem_of_getElem? (i := 729) (by decide +kernel), List.mem_of_getElem? (i := 730) (by decide +kernel)⟩
theorem lw_p15 : lw_okq (⟨"ReceiveStepsModel", "isUnit", "(I)Z"⟩, 31) := ⟨⟨by decide +kernel, by decide +kernel⟩, List.mem_of_getElem? (i := 573) (by decide +kernel), List.mem_of_getElem? (i := 737) (by decide +kernel), List.mem_of_getElem? (i := 738) (by decide +kernel)⟩
def lw_privs_1 : List (MethodName × Nat) := [(⟨"java/lang/Throwable", "fillInStackTrace", "(I)Ljava/lang/Throwable;"⟩, 6), (⟨"ReceiveSteps", "announcementOf", "(I)LReceiveSteps$Announcement;"⟩, 10), (⟨"ReceiveSteps", "isTaken", "(I)Z"⟩, 10), (⟨"ReceiveSteps", "hasRight", "(I)Z"⟩, 10), (⟨"ReceiveSteps", "lineOf", "(II)LReceiveSteps$Line;"⟩, 10), (⟨"ReceiveSteps", "makeUnits", "(LReceiveSteps$Line;II)V"⟩, 10), (⟨"ReceiveSteps", "unitOf", "(I)LReceiveSteps$Unit;"⟩, 10), (⟨"ReceiveSteps", "unitsInState", "(LReceiveSteps$Line;I)I"⟩, 10), (⟨"ReceiveSteps", "lacksLabel", "(LReceiveSteps$Line;)Z"⟩, 10), (⟨"ReceiveSteps", "noteDifference", "(LReceiveSteps$Line;)V"⟩, 10), (⟨"ReceiveSteps", "differenceOf", "(I)LReceiveSteps$Line;"⟩, 10), (⟨"ReceiveStepsModel", "isAnnouncement", "(I)Z"⟩, 31), (⟨"ReceiveStepsModel", "isTaken", "(I)Z"⟩, 31), (⟨"ReceiveStepsModel", "isLine", "(II)Z"⟩, 31), (⟨"ReceiveStepsModel", "takes", "(I)I"⟩, 31), (⟨"ReceiveStepsModel", "isUnit", "(I)Z"⟩, 31)]
theorem lw_r1 : ∀ q ∈ lw_privs_1, lw_okq q := List.forall_mem_cons.mpr ⟨lw_p0, List.forall_mem_cons.mpr ⟨lw_p1, List.forall_mem_cons.mpr ⟨lw_p2, List.forall_mem_cons.mpr ⟨lw_p3, List.forall_mem_cons.mpr ⟨lw_p4, List.forall_mem_cons.mpr ⟨lw_p5, List.forall_mem_cons.mpr ⟨lw_p6, List.forall_mem_cons.mpr ⟨lw_p7, List.forall_mem_cons.mpr ⟨lw_p8, List.forall_mem_cons.mpr ⟨lw_p9, List.forall_mem_cons.mpr ⟨lw_p10, List.forall_mem_cons.mpr ⟨lw_p11, List.forall_mem_cons.mpr ⟨lw_p12, List.forall_mem_cons.mpr ⟨lw_p13, List.forall_mem_cons.mpr ⟨lw_p14, List.forall_mem_cons.mpr ⟨lw_p15, fun _ h => absurd h List.not_mem_nil⟩⟩⟩⟩⟩⟩⟩⟩⟩⟩⟩⟩⟩⟩⟩⟩
theorem lw_p16 : lw_okq (⟨"ReceiveStepsModel", "openSamples", "(I)I"⟩, 31) := ⟨⟨by decide +kernel, by decide +kernel⟩, List.mem_of_getElem? (i := 573) (by decide +kernel), List.mem_of_getElem? (i := 745) (by decide +kernel), List.mem_of_getElem? (i := 746) (by decide +kernel)⟩
theorem lw_p17 : lw_okq (⟨"ReceiveStepsModel", "plainState", "(I)I"⟩, 31) := ⟨⟨by decide +kernel, by decide +kernel⟩, List.mem_of_getElem? (i := 573) (by decide +kernel), List.mem_of_getElem? (i := 753) (by decide +kernel), List.mem_of_getElem? (i := 754) (by decide +kernel)⟩
theorem lw_p18 : lw_okq (⟨"ReceiveStepsModel", "hasOne", "(IZ)Z"⟩, 31) := ⟨⟨by decide +kernel, by decide +kernel⟩, List.mem_of_getElem? (i := 573) (by decide +kernel), List.mem_of_getElem? (i := 777) (by decide +kernel), List.mem_of_getElem? (i := 778) (by decide +kernel)⟩
def lw_privs_2 : List (MethodName × Nat) := [(⟨"ReceiveStepsModel", "openSamples", "(I)I"⟩, 31), (⟨"ReceiveStepsModel", "plainState", "(I)I"⟩, 31), (⟨"ReceiveStepsModel", "hasOne", "(IZ)Z"⟩, 31)]
theorem lw_r2 : ∀ q ∈ lw_privs_2, lw_okq q := List.forall_mem_cons.mpr ⟨lw_p16, List.forall_mem_cons.mpr ⟨lw_p17, List.forall_mem_cons.mpr ⟨lw_p18, fun _ h => absurd h List.not_mem_nil⟩⟩⟩
def lw_privs : List (MethodName × Nat) := lw_privs_1 ++ (lw_privs_2)
def lw_tbl : List Cond := k2_sels lw_privs ++ tables_1
theorem lw_privs_ok : ∀ q ∈ lw_privs, lw_okq q := by
  show ∀ q ∈ lw_privs_1 ++ (lw_privs_2), lw_okq q
  exact List.forall_mem_append.mpr ⟨lw_r1, lw_r2⟩
end
section
/-! ===== BEGIN words of one list among another's, by their places ===== -/
theorem goodIn_r {big : List Cond} (ws : List Cond) (ps : List Nat) (hp : ws = ps.filterMap (fun i => big[i]?)) (h : ws.all goodWord = true) : GoodIn big ws := by
  intro w hw
  have h1 := List.all_eq_true.mp h w hw
  rw [hp] at hw
  obtain ⟨i, -, hi⟩ := List.mem_filterMap.mp hw
  have hm : w ∈ big := by first | exact List.mem_of_getElem? hi | exact List.getElem?_mem hi
  exact ⟨hm, good_of_word h1⟩
theorem goodIn_app {big a b : List Cond} (ha : GoodIn big a) (hb : GoodIn big b) : GoodIn big (a ++ b) := fun w h => (List.mem_append.mp h).elim (ha w) (hb w)
theorem goodIn_ca {big a b : List Cond} {c : Cond} (ha : GoodIn big (c :: a)) (hb : GoodIn big b) : GoodIn big (c :: (a ++ b)) := fun w h => (List.mem_cons.mp h).elim (fun e => ha w (List.mem_cons.mpr (Or.inl e))) (fun h => (List.mem_append.mp h).elim (fun h => ha w (List.mem_cons.mpr (Or.inr h))) (hb w))
theorem goodIn_sub {big ws : List Cond} (hm : ∀ w ∈ ws, w ∈ big) (h : ws.all goodWord = true) : GoodIn big ws := fun w hw => ⟨hm w hw, good_of_word (List.all_eq_true.mp h w hw)⟩
/-! ===== END ===== -/

/-! ===== BEGIN exceptions that leave a method, and their catching by the caller (launches without stack traces) ===== -/
section VXA
/-! The laws vx_back, vx_callV, vx_callS, vx_callSW, vx_throw0, vx_throwS follow proofs of the library, with one case more: JvmDerived/Free/Laws.lean (Back.of_free), Shelf42/LK1.lean (callV, callS), Shelf/KitTraced.lean (throwNew0V, throwNewS). -/
/-- where a method has thrown q: the class by its name, the cell, what was written, the world -/
def vx_T (XC : String → State → State → Prop) (st : State) (q : Addr) (t : State) (mc ms : Nat) (free : Addr → Prop) : Prop :=
  ∃ (E : String) (ce : Cell) (L : List Loc), XC E st t ∧ t.heap[q]? = some ce ∧ ce.vm = .none ∧ st.vm.findClass E = some ce.cls ∧ st.WarmedH t.vm ∧ st.sameButNew ({ t with vm := st.vm } : State) L mc ms ∧ ∀ z ∈ L, free z.base
def vx_Q (Qc : Array Value → State → Outcome → State → Prop) (XC : String → State → State → Prop) (mc ms : Nat) (free : Addr → Prop) : Array Value → State → Outcome → State → Prop := fun a st o t =>
  (Qc a st o t ∧ ∃ L, FrameEnd st o t L mc ms ∧ ∀ q ∈ L, free q.base) ∨ ∃ q, o = .threw q ∧ vx_T XC st q t mc ms free
/-- a callee that returns or throws -/
def vx_Met (l : Launch) (y : MethodName) (ws : List Cond) (rm : Room) (Pc : Array Value → State → Prop) (Qc : Array Value → State → Outcome → State → Prop) (XC : String → State → State → Prop) (mc ms : Nat) (free : Addr → Prop) : Prop :=
  MetFree l y (headSpec ws rm) Pc (fun _ _ _ _ _ => True) (vx_Q Qc XC mc ms free)
def vx_Post (XC : String → State → State → Prop) (mc ms : Nat) (free : Addr → Prop) : Pt → Array Value → Addr → Pt → Prop := fun A a q B =>
  ∃ (g : JFrame) (mk : MethodId) (t : State) (L : List Loc) (E : String) (ce : Cell), B.U.heap = t.heap ∧ B.U.vm = t.vm ∧ XC E (A.U.calling g mk a) t ∧ t.heap[q]? = some ce ∧ ce.vm = .none ∧ A.U.vm.findClass E = some ce.cls ∧ B.locs = A.locs ++ L ∧ (∀ z ∈ L, free z.base) ∧ B.cells = A.cells + mc ∧ B.slots = A.slots + ms
def vx_Back (l : Launch) (R : Room) (p : Program) (e : Env) (below : List Frame) (s : State) (sargs : Array Value) (y : MethodName) (len W9 : Nat)
    (Pre : Pt → Array Value → Prop) (Post : Pt → Array Value → Option Value → Pt → Prop) (PostX : Pt → Array Value → Addr → Pt → Prop) : Prop :=
  ∀ (m : MethodId) (meth : Method) (c : Code) (A : Pt) (g : JFrame) (ig : Instr) (mk : MethodId) (a : Array Value),
    Stand p l e R s m sargs below meth c A.U A.locs A.cells A.slots → g.method = m → g.locals.size = c.maxLocals → decode c.code g.pc = .ok (ig, len) →
    2 * g.monitorRoom + (g.stack.map fun v => v.category).sum ≤ W9 → A.U.methodNamed? y = some mk → Pre A a →
    (∃ (v : Option Value) (B : Pt), Stand p l e R s m sargs below meth c B.U B.locs B.cells B.slots ∧ Post A a v B ∧
      Steps p.tables e below (doInvoke e (A.U.setTop g) [] mk a).1 (B.U.setTop { g with pc := g.pc + len, stack := v.toList ++ g.stack })) ∨
    (∃ (q : Addr) (B : Pt), Stand p l e R s m sargs below meth c B.U B.locs B.cells B.slots ∧ PostX A a q B ∧
      Steps p.tables e below (doInvoke e (A.U.setTop g) [] mk a).1 ((B.U.setTop g).pushFrame (.throwing q)))
section Payer
variable {l : Launch} {R : Room} {p : Program} {e : Env} {below : List Frame} {s : State} {sargs : Array Value} {y : MethodName} {len W9 : Nat}
theorem vx_back {ws : List Cond} {rm : Room} {Pc : Array Value → State → Prop} {Qc : Array Value → State → Outcome → State → Prop} {XC : String → State → State → Prop} {mc ms : Nat} {free : Addr → Prop} {bytes : ByteArray} {maxL : Nat} {ret : Option FieldType}
    (hM : vx_Met l y ws rm Pc Qc XC mc ms free) (hblind : FrameBlind Pc) (hrc : rm.cells = mc) (hrs : rm.slots = ms)
    (hframes : rm.frames + 1 ≤ R.frames) (hlocals : W9 + (maxL + 11) + rm.locals ≤ R.locals)
    (hws : ∀ w ∈ ws, ∀ a' U, s.WarmedH U.vm → w.before a' U = true) (hcode : Cond.code y bytes maxL ret ∈ ws) (hinit : ∀ a' U, s.WarmedH U.vm → (Cond.initialized y.cls).before a' U = true) :
    vx_Back l R p e below s sargs y len W9 (PreOf R mc ms Pc) (PostOf Qc mc ms free) (vx_Post XC mc ms free) := by
  intro m meth c A g ig mk a X hg hsize hdg hW hn hp
  have h1 : (headSpec ws rm).pre.before a A.U = true := atoms_intro fun w hw => hws w hw _ _ X.warmed
  have h2 : (Cond.code y bytes maxL ret).before a A.U = true := hws _ hcode _ _ X.warmed
  have h3 : (Cond.initialized y.cls).before a A.U = true := hinit _ _ X.warmed
  have h4 : A.cells + (headSpec ws rm).room.cells ≤ R.cells := by rw [show (headSpec ws rm).room.cells = mc from hrc]; exact hp.1
  have h5 : A.slots + (headSpec ws rm).room.slots ≤ R.slots := by rw [show (headSpec ws rm).room.slots = ms from hrs]; exact hp.2.1
  have hPc : Pc a (A.U.calling g mk a) := hblind _ _ _ _ hp.2.2
  obtain ⟨U, Ls, c0, s0⟩ := A
  dsimp only [Pt.U, Pt.locs, Pt.cells, Pt.slots] at h1 h2 h3 h4 h5 X hn hPc ⊢
  obtain ⟨methY, cY, hmY, hcY, -, hlY, -, -, -, -⟩ := Cond.code_spec hn h2
  obtain ⟨kY, hkY, -⟩ := className_of_methodNamed hn
  have hinitY : kY.init = .initialized := Cond.initialized_spec (findClass_of_methodNamed hn) hkY h3
  have h : At U g.method c below := by rw [hg]; exact X.here
  have hlocals9 : W9 + (maxL + 11) + (headSpec ws rm).room.locals ≤ R.locals := hlocals
  have happ : (headSpec ws rm).appliesLoose y e.platform (U.calling g mk a) = true :=
    Spec.appliesLoose_calling (g := g) h hdg hn hkY hinitY
      (X.room_calling (g := g) (R' := (headSpec ws rm).room) hsize hmY hcY hframes (by rw [hlY]; omega) h4 h5) h1
  obtain ⟨mid, hmid⟩ := h.above
  have hfr : (U.setTop g).frames = (.java g :: mid) ++ below := by rw [State.frames_setTop' g h.top, hmid]; rfl
  obtain ⟨o, s₂, hsteps, -, hend, hq⟩ := Steps.callFree hM p X.admits X.cas X.clock (acts := []) hfr happ hPc trivial
  have hq' : vx_Q Qc XC mc ms free a (U.calling g mk a) o s₂ := hq
  rw [State.frames_setTop' g h.top] at hend
  obtain ⟨g₀, hg0⟩ := Option.isSome_iff_exists.mp h.top
  obtain ⟨r, hr⟩ := State.topJava?_eq_some.mp hg0
  have hr' : (({ U with heap := s₂.heap, slotsUsed := s₂.slotsUsed } : State).setVm s₂.vm).frames = .java g₀ :: r := hr
  rcases hq' with ⟨hqc, L, hfe, hL⟩ | ⟨q, rfl, E, ce, L, hx, hce, hcv, hcl, hW₂, hsm, hL⟩
  · obtain ⟨⟨v, rfl⟩, hW₂, e2, q2, q3, q4, q5, q6⟩ := id hfe
    have e3 : s₂ = ({ (U.calling g mk a).setFrames s₂.frames with heap := s₂.heap, slotsUsed := s₂.slotsUsed } : State).setVm s₂.vm := by
      have : s₂ = ({ s₂ with vm := (U.calling g mk a).vm } : State).setVm s₂.vm := rfl
      rw [e2] at this
      exact this
    obtain ⟨c₂, i₂, len₂, hc₂, hd₂, hf₂⟩ := hend
    have hW' : U.WarmedH s₂.vm := hW₂
    have hcc : c₂ = c := by
      have h1 : s₂.code? g.method = U.code? g.method := by
        rw [State.code?_eq, State.code?_eq, hW'.alike.method?]
      exact Option.some.inj (hc₂.symm.trans (h1.trans h.code))
    subst hcc
    have hlen : len₂ = len := by rw [hdg] at hd₂; cases hd₂; rfl
    subst hlen
    have hs₂ : s₂ = (({ U with heap := s₂.heap, slotsUsed := s₂.slotsUsed } : State).setVm s₂.vm).setTop { g with pc := g.pc + len₂, stack := v.toList ++ g.stack } := by
      refine e3.trans ?_
      rw [hf₂, State.calling_eq h.top, State.setFrames_setFrames, State.setTop_of_frames _ hr', hr]
      rfl
    have hsame : U.sameButNew ({ U with heap := s₂.heap, slotsUsed := s₂.slotsUsed } : State) L mc ms := by
      refine ⟨?_, q2, q3, q4, q5, q6⟩
      obtain ⟨t, ht, -⟩ := State.frames_cons hr
      show ({ U with heap := s₂.heap, slotsUsed := s₂.slotsUsed } : State) = { U.setFrames U.frames with heap := s₂.heap, slotsUsed := s₂.slotsUsed }
      rw [State.setFrames_self ht]
    subst hg
    refine Or.inl ⟨v, ⟨(({ U with heap := s₂.heap, slotsUsed := s₂.slotsUsed } : State).setVm s₂.vm), Ls ++ L, c0 + mc, s0 + ms⟩,
      ⟨X.admits, X.cas, X.clock, X.frames, X.room, X.hears, X.method, X.code, (X.here.setHeapUsed s₂.heap s₂.slotsUsed).setVm hW'.alike, X.tail, State.WarmedH.trans X.warmed hW', X.limits, X.bytes, X.same.trans (hsame.setVm s.vm)⟩,
      ⟨g, mk, s₂, L, rfl, rfl, hqc, rfl, hL, rfl, rfl⟩, ?_⟩
    show Steps p.tables e below _ ((({ U with heap := s₂.heap, slotsUsed := s₂.slotsUsed } : State).setVm s₂.vm).setTop { g with pc := g.pc + len₂, stack := v.toList ++ g.stack })
    rw [← hs₂]
    exact hsteps
  · obtain ⟨e2, q2, q3, q4, q5, q6⟩ := id hsm
    have e3 : s₂ = ({ (U.calling g mk a).setFrames s₂.frames with heap := s₂.heap, slotsUsed := s₂.slotsUsed } : State).setVm s₂.vm := by
      have : s₂ = ({ s₂ with vm := (U.calling g mk a).vm } : State).setVm s₂.vm := rfl
      rw [e2] at this
      exact this
    have hf₂ : s₂.frames = .throwing q :: .java g :: U.frames.tail := hend
    have hW' : U.WarmedH s₂.vm := hW₂
    have hs₂ : s₂ = ((({ U with heap := s₂.heap, slotsUsed := s₂.slotsUsed } : State).setVm s₂.vm).setTop g).pushFrame (.throwing q) := by
      refine e3.trans ?_
      rw [hf₂, State.calling_eq h.top, State.setFrames_setFrames, State.pushFrame, State.frames_setTop _ hr', State.setTop_of_frames _ hr', State.setFrames_setFrames, hr]
      rfl
    have hsame : U.sameButNew ({ U with heap := s₂.heap, slotsUsed := s₂.slotsUsed } : State) L mc ms := by
      refine ⟨?_, q2, q3, q4, q5, q6⟩
      obtain ⟨t, ht, -⟩ := State.frames_cons hr
      show ({ U with heap := s₂.heap, slotsUsed := s₂.slotsUsed } : State) = { U.setFrames U.frames with heap := s₂.heap, slotsUsed := s₂.slotsUsed }
      rw [State.setFrames_self ht]
    subst hg
    refine Or.inr ⟨q, ⟨(({ U with heap := s₂.heap, slotsUsed := s₂.slotsUsed } : State).setVm s₂.vm), Ls ++ L, c0 + mc, s0 + ms⟩,
      ⟨X.admits, X.cas, X.clock, X.frames, X.room, X.hears, X.method, X.code, (X.here.setHeapUsed s₂.heap s₂.slotsUsed).setVm hW'.alike, X.tail, State.WarmedH.trans X.warmed hW', X.limits, X.bytes, X.same.trans (hsame.setVm s.vm)⟩,
      ⟨g, mk, s₂, L, E, ce, rfl, rfl, hx, hce, hcv, hcl, rfl, hL, rfl, rfl⟩, ?_⟩
    show Steps p.tables e below _ (((({ U with heap := s₂.heap, slotsUsed := s₂.slotsUsed } : State).setVm s₂.vm).setTop g).pushFrame (.throwing q))
    rw [← hs₂]
    exact hsteps
end Payer
section Calls
variable {p : Program} {l : Launch} {e : Env} {R : Room} {s : State} {m : MethodId} {args : Array Value} {below : List Frame} {meth : Method} {c : Code} {T : State} {locs : List Loc} {cells slots : Nat}
theorem vx_callV (X : Stand p l e R s m args below meth c T locs cells slots) (hexec : p.tables.exec = Jvm.exec) {own C : String} {index : Nat} {y : MethodName} {bytes : ByteArray} {maxL : Nat} {ret : Option FieldType}
    (hown : s.vm.findClass own = some m.cls) (hlink : (Cond.methodLink own index y).before args s = true) (hinst : (Cond.instanceMethod y).before args s = true) (hsel : (Cond.selects C y y).before args s = true)
    (hcode : (Cond.code y bytes maxL ret).before args s = true) (hy : y.cls ≠ "java/lang/invoke/MethodHandle" ∧ y.cls ≠ "java/lang/invoke/VarHandle")
    {W9 : Nat} {Pre : Pt → Array Value → Prop} {Post : Pt → Array Value → Option Value → Pt → Prop} {PostX : Pt → Array Value → Addr → Pt → Prop} (hK : vx_Back l R p e below s args y 3 W9 Pre Post PostX)
    {b : Addr} {cellB : Cell} (hcell : T.heap[b]? = some cellB) (hobj : cellB.vm.isStatics = false) (hcls : s.vm.findClass C = some cellB.cls)
    {g : JFrame} (hg : g.method = m) (hsize : g.locals.size = c.maxLocals) {argsL rest : List Value} (hlen : ∀ sig, parseMethodDescriptor y.desc = some sig → argsL.length = sig.parameters.length)
    (hstack : g.stack = argsL.reverse ++ .ref b :: rest) (hW : 2 * g.monitorRoom + (rest.map fun v => v.category).sum ≤ W9) (hdg : decode c.code g.pc = .ok (.invokevirtual index, 3))
    (hpre : ∀ vm₁, s.WarmedH vm₁ → Pre ⟨T.setVm vm₁, locs, cells, slots⟩ (Value.ref b :: argsL).toArray) :
    (∃ (v : Option Value) (vm₁ : Vm) (B : Pt), s.WarmedH vm₁ ∧ Stand p l e R s m args below meth c B.U B.locs B.cells B.slots ∧ Post ⟨T.setVm vm₁, locs, cells, slots⟩ (Value.ref b :: argsL).toArray v B ∧
      ∀ target, Steps p.tables e below (B.U.setTop { g with pc := g.pc + 3, stack := v.toList ++ rest }) target → Steps p.tables e below (T.setTop g) target) ∨
    (∃ (q : Addr) (vm₁ : Vm) (B : Pt), s.WarmedH vm₁ ∧ Stand p l e R s m args below meth c B.U B.locs B.cells B.slots ∧ PostX ⟨T.setVm vm₁, locs, cells, slots⟩ (Value.ref b :: argsL).toArray q B ∧
      Steps p.tables e below (T.setTop g) ((B.U.setTop { g with stack := rest }).pushFrame (.throwing q))) := by
  obtain ⟨mk, methM, hnamed, hmethM, hstM, habM⟩ := Cond.instanceMethod_spec hinst
  obtain ⟨methM', cM, hmethM', -, -, -, -, -, -, hsigM⟩ := Cond.code_spec hnamed hcode
  cases hmethM.symm.trans hmethM'
  obtain ⟨c2, r2, m2, q1, q2, q3, q4, kP, hkP, hkPi⟩ := Cond.selects_spec hsel
  cases hcls.symm.trans q1
  cases (State.methodFound?_of_named hnamed hy).symm.trans q2
  cases hnamed.symm.trans q3
  have hselP : selectMethod e.platform s.vm cellB.cls mk = .method mk := by rw [Launch.admits_selectMethod X.admits]; exact q4
  obtain ⟨vm₁, X₁, hstep₁⟩ := X.invokevirtual hexec hown hlink hnamed hmethM hstM hkP hkPi hy (a := b) (cell := cellB) hcell
    (fun z h => by rw [h] at hobj; cases hobj) hselP hmethM habM hkP hkPi (g := g) hg (argsL := argsL) (rest := rest) (hlen _ hsigM) hstack hdg
  rcases hK m meth c ⟨T.setVm vm₁, locs, cells, slots⟩ { g with stack := rest } (.invokevirtual index) mk (Value.ref b :: argsL).toArray X₁ hg hsize hdg hW (X₁.named hnamed) (hpre vm₁ X₁.warmed) with ⟨v, B, X', hpost, hsteps⟩ | ⟨q, B, X', hpost, hsteps⟩
  · exact Or.inl ⟨v, vm₁, B, X₁.warmed, X', hpost, fun target h => hstep₁ _ fun acts => by rw [doInvoke_state]; exact hsteps.trans h⟩
  · exact Or.inr ⟨q, vm₁, B, X₁.warmed, X', hpost, hstep₁ _ fun acts => by rw [doInvoke_state]; exact hsteps⟩
theorem vx_callS (X : Stand p l e R s m args below meth c T locs cells slots) (hexec : p.tables.exec = Jvm.exec) {own : String} {index : Nat} {y : MethodName} {bytes : ByteArray} {maxL : Nat} {ret : Option FieldType}
    (hown : s.vm.findClass own = some m.cls) (hlink : (Cond.methodLink own index y).before args s = true) (hstat : (Cond.static y).before args s = true) (hinit : (Cond.initialized y.cls).before args s = true)
    (hcode : (Cond.code y bytes maxL ret).before args s = true) (hy : y.cls ≠ "java/lang/invoke/MethodHandle" ∧ y.cls ≠ "java/lang/invoke/VarHandle")
    {W9 : Nat} {Pre : Pt → Array Value → Prop} {Post : Pt → Array Value → Option Value → Pt → Prop} {PostX : Pt → Array Value → Addr → Pt → Prop} (hK : vx_Back l R p e below s args y 3 W9 Pre Post PostX)
    {g : JFrame} (hg : g.method = m) (hsize : g.locals.size = c.maxLocals) {argsL rest : List Value} (hlen : ∀ sig, parseMethodDescriptor y.desc = some sig → argsL.length = sig.parameters.length)
    (hstack : g.stack = argsL.reverse ++ rest) (hW : 2 * g.monitorRoom + (rest.map fun v => v.category).sum ≤ W9) (hdg : decode c.code g.pc = .ok (.invokestatic index, 3))
    (hpre : ∀ vm₁, s.WarmedH vm₁ → Pre ⟨T.setVm vm₁, locs, cells, slots⟩ argsL.toArray) :
    (∃ (v : Option Value) (vm₁ : Vm) (B : Pt), s.WarmedH vm₁ ∧ Stand p l e R s m args below meth c B.U B.locs B.cells B.slots ∧ Post ⟨T.setVm vm₁, locs, cells, slots⟩ argsL.toArray v B ∧
      ∀ target, Steps p.tables e below (B.U.setTop { g with pc := g.pc + 3, stack := v.toList ++ rest }) target → Steps p.tables e below (T.setTop g) target) ∨
    (∃ (q : Addr) (vm₁ : Vm) (B : Pt), s.WarmedH vm₁ ∧ Stand p l e R s m args below meth c B.U B.locs B.cells B.slots ∧ PostX ⟨T.setVm vm₁, locs, cells, slots⟩ argsL.toArray q B ∧
      Steps p.tables e below (T.setTop g) ((B.U.setTop { g with stack := rest }).pushFrame (.throwing q))) := by
  obtain ⟨mk, hnamed⟩ := Cond.code_named hcode
  obtain ⟨methM, cM, hmethM, -, -, -, -, -, -, hsigM⟩ := Cond.code_spec hnamed hcode
  have hstatic : methM.isStatic = true := Cond.static_spec hnamed hmethM hstat
  obtain ⟨kP, hkP, -⟩ := className_of_methodNamed hnamed
  have hinitP : kP.init = .initialized := Cond.initialized_spec (findClass_of_methodNamed hnamed) hkP hinit
  obtain ⟨vm₁, X₁, hstep₁⟩ := X.invokestatic hexec hown hlink hnamed hmethM hstatic hkP hinitP hy (g := g) hg (argsL := argsL) (rest := rest) (hlen _ hsigM) hstack hdg
  rcases hK m meth c ⟨T.setVm vm₁, locs, cells, slots⟩ { g with stack := rest } (.invokestatic index) mk argsL.toArray X₁ hg hsize hdg hW (X₁.named hnamed) (hpre vm₁ X₁.warmed) with ⟨v, B, X', hpost, hsteps⟩ | ⟨q, B, X', hpost, hsteps⟩
  · exact Or.inl ⟨v, vm₁, B, X₁.warmed, X', hpost, fun target h => hstep₁ _ fun acts => by rw [doInvoke_state]; exact hsteps.trans h⟩
  · exact Or.inr ⟨q, vm₁, B, X₁.warmed, X', hpost, hstep₁ _ fun acts => by rw [doInvoke_state]; exact hsteps⟩
end Calls
theorem vx_cls {s : State} {T : State} {vm₁ : Vm} {E : String} {k : ClassId} (hW : s.WarmedH vm₁) (h : (T.setVm vm₁).vm.findClass E = some k) : s.vm.findClass E = some k := by
  have h1 : vm₁.findClass E = some k := h
  rw [hW.alike.findClass] at h1
  exact h1
/-- the method's frame g, with q thrown over it -/
def vx_W (p : Program) (l : Launch) (e : Env) (R : Room) (s : State) (m : MethodId) (args : Array Value) (below : List Frame) (meth : Method) (c : Code) (H : Heap) (locs : List Loc) (cells slots : Nat) (Q : State → Prop) (g : JFrame) (q : Addr) : Prop :=
  ∀ T : State, T.heap = H → Stand p l e R s m args below meth c T locs cells slots → ∃ t, Steps p.tables e below ((T.setTop g).pushFrame (.throwing q)) t ∧ Q t
def vx_Run (p : Program) (l : Launch) (e : Env) (R : Room) (s : State) (m : MethodId) (args : Array Value) (below : List Frame) (meth : Method) (c : Code) (H : Heap) (locs : List Loc) (cells slots mc ms : Nat) (g : JFrame) (rest : List Value) (Qa : State → Outcome → State → Prop) (XC : String → State → State → Prop) (free : Addr → Prop) : Prop :=
  ∀ T : State, T.heap = H → Stand p l e R s m args below meth c T locs cells slots →
    (∃ (v : Option Value) (st₀ t T' : State) (L : List Loc), st₀.heap = H ∧ Stand p l e R s m args below meth c T' (locs ++ L) (cells + mc) (slots + ms) ∧ (∀ q ∈ L, free q.base) ∧ T'.heap = t.heap ∧ T'.vm = t.vm ∧ Qa st₀ (.returned v) t ∧
      Goes p e below T g T' { g with pc := g.pc + 3, stack := v.toList ++ rest }) ∨
    (∃ (q : Addr) (st₀ t T' : State) (L : List Loc) (E : String) (ce : Cell), st₀.heap = H ∧ Stand p l e R s m args below meth c T' (locs ++ L) (cells + mc) (slots + ms) ∧ (∀ z ∈ L, free z.base) ∧ T'.heap = t.heap ∧ T'.vm = t.vm ∧ XC E st₀ t ∧ t.heap[q]? = some ce ∧ ce.vm = .none ∧ s.vm.findClass E = some ce.cls ∧
      Steps p.tables e below (T.setTop g) ((T'.setTop { g with stack := rest }).pushFrame (.throwing q)))
def vx_X {S : Type} (px : S → Prop) (B : String → S → State → Prop) (A : Nat → Prop) : String → State → State → Prop := fun E st t => ∃ u : S, px u ∧ B E u t ∧ va_F A st t
section Runs
variable {p : Program} {l : Launch} {e : Env} {R : Room} {s : State} {m : MethodId} {args : Array Value} {below : List Frame} {meth : Method} {c : Code} {H : Heap} {locs : List Loc} {cells slots : Nat}
variable {y : MethodName} {bytes cc : ByteArray} {maxL nL mc ms n index : Nat} {ret : Option FieldType} {ws : List Cond} {rm : Room} {Pc : Array Value → State → Prop} {Qc : Array Value → State → Outcome → State → Prop} {XC : String → State → State → Prop} {free : Addr → Prop} {Ts : List Cond} {own C : String} {b : Addr} {As rest : List Value} {g : JFrame}
theorem vx_callBack (cb : CallB R s args own index y bytes maxL ret ws rm mc ms n) (hM : vx_Met l y ws rm Pc Qc XC mc ms free) (hbl : FrameBlind Pc) : vx_Back l R p e below s args y 3 8 (PreOf R mc ms Pc) (PostOf Qc mc ms free) (vx_Post XC mc ms free) := by
  obtain ⟨hrc, hrs, hfr, hlo, hws, hcw, -, hini, -⟩ := cb
  exact vx_back (bytes := bytes) (maxL := maxL) (ret := ret) hM hbl hrc hrs hfr hlo hws hcw (fun a' U hW => word_at hW (Or.inl (by first | rfl | simp [Cond.onTables, Cond.keeps, Cond.steady])) hini)
theorem vx_runV (S : CallFix p m c cc nL s args Ts own) (hM : vx_Met l y ws rm Pc Qc XC mc ms free) (cw : CallW R s args own C index y bytes maxL ret ws rm mc ms n) (hp : PreV s H C b Pc As)
    (hg : g.method = m) (hn : As.length = n) (hsize : g.locals.size = nL) (hstack : g.stack = As.reverse ++ .ref b :: rest) (hW : 2 * g.monitorRoom + (rest.map fun v => v.category).sum ≤ 8) (hdg : decode cc g.pc = .ok (.invokevirtual index, 3)) (hf : cells + mc ≤ R.cells ∧ slots + ms ≤ R.slots) :
    vx_Run p l e R s m args below meth c H locs cells slots mc ms g rest (Qc (Value.ref b :: As).toArray) XC free := by
  have hK : vx_Back l R p e below s args y 3 8 (PreOf R mc ms Pc) (PostOf Qc mc ms free) (vx_Post XC mc ms free) := vx_callBack cw.1 hM hp.1
  obtain ⟨⟨-, -, -, -, -, -, hcode, -, hy, hlen, hl⟩, hin, hse⟩ := cw
  obtain ⟨hx, hb, hml, ho, -⟩ := S
  obtain ⟨-, ⟨cellB, hcB, hoB, hclB⟩, hPc⟩ := hp
  intro T hT X
  rcases vx_callV X hx (C := C) (bytes := bytes) (maxL := maxL) (ret := ret) ho hl hin hse hcode hy hK (by rw [hT]; exact hcB) hoB hclB hg (hsize.trans hml.symm) (argsL := As) (rest := rest) (fun sig h => hn.trans (hlen sig h)) hstack hW (by rw [hb]; exact hdg)
    (fun vm₁ hW₁ => ⟨hf.1, hf.2, hPc (T.setVm vm₁) hT hW₁⟩) with ⟨v, vm₁, ⟨U', l2, c2, s2⟩, hW₁, X', ⟨g', mk, t, L, e1, e2, hq, h1, hL, h2, h3⟩, st⟩ | ⟨q, vm₁, ⟨U', l2, c2, s2⟩, hW₁, X', ⟨g', mk, t, L, E, ce, e1, e2, hq, hce, hcv, hcl, h1, hL, h2, h3⟩, st⟩
  · dsimp only [Pt.U, Pt.locs, Pt.cells, Pt.slots] at X' e1 e2 h1 h2 h3 st
    subst h1; subst h2; subst h3
    exact Or.inl ⟨v, (T.setVm vm₁).calling g' mk (Value.ref b :: As).toArray, t, U', L, hT, X', hL, e1, e2, hq, st⟩
  · dsimp only [Pt.U, Pt.locs, Pt.cells, Pt.slots] at X' e1 e2 h1 h2 h3 st hcl
    subst h1; subst h2; subst h3
    exact Or.inr ⟨q, (T.setVm vm₁).calling g' mk (Value.ref b :: As).toArray, t, U', L, E, ce, hT, X', hL, e1, e2, hq, hce, hcv, vx_cls hW₁ hcl, st⟩
theorem vx_runS (S : CallFix p m c cc nL s args Ts own) (hM : vx_Met l y ws rm Pc Qc XC mc ms free) (cw : CallB R s args own index y bytes maxL ret ws rm mc ms n ∧ (Cond.static y).before args s = true) (hp : PreS s H Pc As)
    (hg : g.method = m) (hn : As.length = n) (hsize : g.locals.size = nL) (hstack : g.stack = As.reverse ++ rest) (hW : 2 * g.monitorRoom + (rest.map fun v => v.category).sum ≤ 8) (hdg : decode cc g.pc = .ok (.invokestatic index, 3)) (hf : cells + mc ≤ R.cells ∧ slots + ms ≤ R.slots) :
    vx_Run p l e R s m args below meth c H locs cells slots mc ms g rest (Qc As.toArray) XC free := by
  have hK : vx_Back l R p e below s args y 3 8 (PreOf R mc ms Pc) (PostOf Qc mc ms free) (vx_Post XC mc ms free) := vx_callBack cw.1 hM hp.1
  obtain ⟨⟨-, -, -, -, -, -, hcode, hini, hy, hlen, hl⟩, hstt⟩ := cw
  obtain ⟨hx, hb, hml, ho, -⟩ := S
  intro T hT X
  rcases vx_callS X hx (bytes := bytes) (maxL := maxL) (ret := ret) ho hl hstt hini hcode hy hK hg (hsize.trans hml.symm) (argsL := As) (rest := rest) (fun sig h => hn.trans (hlen sig h)) hstack hW (by rw [hb]; exact hdg)
    (fun vm₁ hW₁ => ⟨hf.1, hf.2, hp.2 (T.setVm vm₁) hT hW₁⟩) with ⟨v, vm₁, ⟨U', l2, c2, s2⟩, hW₁, X', ⟨g', mk, t, L, e1, e2, hq, h1, hL, h2, h3⟩, st⟩ | ⟨q, vm₁, ⟨U', l2, c2, s2⟩, hW₁, X', ⟨g', mk, t, L, E, ce, e1, e2, hq, hce, hcv, hcl, h1, hL, h2, h3⟩, st⟩
  · dsimp only [Pt.U, Pt.locs, Pt.cells, Pt.slots] at X' e1 e2 h1 h2 h3 st
    subst h1; subst h2; subst h3
    exact Or.inl ⟨v, (T.setVm vm₁).calling g' mk As.toArray, t, U', L, hT, X', hL, e1, e2, hq, st⟩
  · dsimp only [Pt.U, Pt.locs, Pt.cells, Pt.slots] at X' e1 e2 h1 h2 h3 st hcl
    subst h1; subst h2; subst h3
    exact Or.inr ⟨q, (T.setVm vm₁).calling g' mk As.toArray, t, U', L, E, ce, hT, X', hL, e1, e2, hq, hce, hcv, vx_cls hW₁ hcl, st⟩
end Runs
section Rows
variable {p : Program} {l : Launch} {e : Env} {R : Room} {s : State} {m : MethodId} {args : Array Value} {below : List Frame} {meth : Method} {c : Code} {H : Heap} {locs : List Loc} {cells slots : Nat} {Q : State → Prop}
variable {mc ms : Nat} {free : Addr → Prop} {A0 A1 : Nat → Prop} {H0 : Heap} {a : Array Value} {pc : Nat} {ls : Array Slot} {st0 rest : List Value}
theorem vx_keep {st₀ t T' : State} {L : List Loc} (h0 : st₀.heap = H) (e1 : T'.heap = t.heap) (hS : va_S A0 H0 H locs) (hA : ∀ q, q < H.size → A1 q → A0 q) (hf : ∀ q, free q → A0 q) (hL : ∀ q ∈ L, free q.base) (hF : va_F A1 st₀ t) :
    H.size ≤ T'.heap.size ∧ (∀ q : Nat, q < H.size → ¬ A1 q → T'.heap[q]? = H[q]?) ∧ va_S A0 H0 T'.heap (locs ++ L) := by
  obtain ⟨hz, hk⟩ := hF
  rw [h0] at hz hk
  exact ⟨by rw [e1]; exact hz, fun q h1 h2 => by rw [e1]; exact hk q h1 h2,
    ⟨Nat.le_trans hS.1 (by rw [e1]; exact hz), fun q h1 h2 => by rw [e1, hk q (Nat.lt_of_lt_of_le h1 hS.1) (fun z => h2 (hA q (Nat.lt_of_lt_of_le h1 hS.1) z))]; exact hS.2.1 q h1 h2, fun q hq => by
      rcases List.mem_append.mp hq with h | h
      · exact hS.2.2 q h
      · exact hf _ (hL q h)⟩⟩
theorem vx_calli {S SX : Type} {post : Int32 → S → Prop} {px : SX → Prop} {B : S → State → Prop} {BX : String → SX → State → Prop} {AX : Nat → Prop} (hr : vx_Run p l e R s m args below meth c H locs cells slots mc ms (F0 m pc ls st0) rest (va_Qi post B A1 a) (vx_X px BX AX) free) (hS : va_S A0 H0 H locs) (hA : ∀ q, q < H.size → A1 q → A0 q) (hf : ∀ q, free q → A0 q) (hAX : ∀ q, q < H.size → AX q → A0 q)
    (kx : ∀ (E : String) (ce : Cell) (q9 : Addr) (u : SX) (t : State) (H1 : Heap) (locs1 : List Loc), t.heap = H1 → s.vm.Alike t.vm → px u → BX E u t → H.size ≤ H1.size → (∀ q : Nat, q < H.size → ¬ AX q → H1[q]? = H[q]?) → va_S A0 H0 H1 locs1 → H1[q9]? = some ce → ce.vm = .none → s.vm.findClass E = some ce.cls → vx_W p l e R s m args below meth c H1 locs1 (cells + mc) (slots + ms) Q (F0 m pc ls rest) q9)
    (kk : ∀ (r : Int32) (u : S) (t : State) (H1 : Heap) (locs1 : List Loc), t.heap = H1 → s.vm.Alike t.vm → post r u → B u t → H.size ≤ H1.size → (∀ q : Nat, q < H.size → ¬ A1 q → H1[q]? = H[q]?) → va_S A0 H0 H1 locs1 → W p l e R s m args below meth c H1 locs1 (cells + mc) (slots + ms) Q (F0 m (pc + 3) ls (.int r :: rest))) : W p l e R s m args below meth c H locs cells slots Q (F0 m pc ls st0) := by
  intro T hT X
  rcases hr T hT X with ⟨v, st₀, t, T', L, h0, X', hL, e1, e2, ⟨⟨r, u, hv, hp, hb⟩, hF⟩, st⟩ | ⟨q, st₀, t, T', L, E, ce, h0, X', hL, e1, e2, ⟨u, hp, hb, hF⟩, hce, hcv, hcl, st⟩
  · cases hv
    obtain ⟨k1, k2, k3⟩ := vx_keep h0 e1 hS hA hf hL hF
    obtain ⟨t2, a1, b1⟩ := kk r u t T'.heap (locs ++ L) e1.symm (by rw [← e2]; exact X'.warmed.alike) hp hb k1 k2 k3 T' rfl X'
    exact ⟨t2, st t2 a1, b1⟩
  · obtain ⟨k1, k2, k3⟩ := vx_keep h0 e1 hS hAX hf hL hF
    obtain ⟨t2, a1, b1⟩ := kx E ce q u t T'.heap (locs ++ L) e1.symm (by rw [← e2]; exact X'.warmed.alike) hp hb k1 k2 k3 (by rw [e1]; exact hce) hcv hcl T' rfl X'
    exact ⟨t2, st.trans a1, b1⟩
theorem vx_calll {S SX : Type} {post : Int64 → S → Prop} {px : SX → Prop} {B : S → State → Prop} {BX : String → SX → State → Prop} {AX : Nat → Prop} (hr : vx_Run p l e R s m args below meth c H locs cells slots mc ms (F0 m pc ls st0) rest (va_Ql post B A1 a) (vx_X px BX AX) free) (hS : va_S A0 H0 H locs) (hA : ∀ q, q < H.size → A1 q → A0 q) (hf : ∀ q, free q → A0 q) (hAX : ∀ q, q < H.size → AX q → A0 q)
    (kx : ∀ (E : String) (ce : Cell) (q9 : Addr) (u : SX) (t : State) (H1 : Heap) (locs1 : List Loc), t.heap = H1 → s.vm.Alike t.vm → px u → BX E u t → H.size ≤ H1.size → (∀ q : Nat, q < H.size → ¬ AX q → H1[q]? = H[q]?) → va_S A0 H0 H1 locs1 → H1[q9]? = some ce → ce.vm = .none → s.vm.findClass E = some ce.cls → vx_W p l e R s m args below meth c H1 locs1 (cells + mc) (slots + ms) Q (F0 m pc ls rest) q9)
    (kk : ∀ (r : Int64) (u : S) (t : State) (H1 : Heap) (locs1 : List Loc), t.heap = H1 → s.vm.Alike t.vm → post r u → B u t → H.size ≤ H1.size → (∀ q : Nat, q < H.size → ¬ A1 q → H1[q]? = H[q]?) → va_S A0 H0 H1 locs1 → W p l e R s m args below meth c H1 locs1 (cells + mc) (slots + ms) Q (F0 m (pc + 3) ls (.long r :: rest))) : W p l e R s m args below meth c H locs cells slots Q (F0 m pc ls st0) := by
  intro T hT X
  rcases hr T hT X with ⟨v, st₀, t, T', L, h0, X', hL, e1, e2, ⟨⟨r, u, hv, hp, hb⟩, hF⟩, st⟩ | ⟨q, st₀, t, T', L, E, ce, h0, X', hL, e1, e2, ⟨u, hp, hb, hF⟩, hce, hcv, hcl, st⟩
  · cases hv
    obtain ⟨k1, k2, k3⟩ := vx_keep h0 e1 hS hA hf hL hF
    obtain ⟨t2, a1, b1⟩ := kk r u t T'.heap (locs ++ L) e1.symm (by rw [← e2]; exact X'.warmed.alike) hp hb k1 k2 k3 T' rfl X'
    exact ⟨t2, st t2 a1, b1⟩
  · obtain ⟨k1, k2, k3⟩ := vx_keep h0 e1 hS hAX hf hL hF
    obtain ⟨t2, a1, b1⟩ := kx E ce q u t T'.heap (locs ++ L) e1.symm (by rw [← e2]; exact X'.warmed.alike) hp hb k1 k2 k3 (by rw [e1]; exact hce) hcv hcl T' rfl X'
    exact ⟨t2, st.trans a1, b1⟩
theorem vx_callf {S SX : Type} {post : UInt32 → S → Prop} {px : SX → Prop} {B : S → State → Prop} {BX : String → SX → State → Prop} {AX : Nat → Prop} (hr : vx_Run p l e R s m args below meth c H locs cells slots mc ms (F0 m pc ls st0) rest (va_Qf post B A1 a) (vx_X px BX AX) free) (hS : va_S A0 H0 H locs) (hA : ∀ q, q < H.size → A1 q → A0 q) (hf : ∀ q, free q → A0 q) (hAX : ∀ q, q < H.size → AX q → A0 q)
    (kx : ∀ (E : String) (ce : Cell) (q9 : Addr) (u : SX) (t : State) (H1 : Heap) (locs1 : List Loc), t.heap = H1 → s.vm.Alike t.vm → px u → BX E u t → H.size ≤ H1.size → (∀ q : Nat, q < H.size → ¬ AX q → H1[q]? = H[q]?) → va_S A0 H0 H1 locs1 → H1[q9]? = some ce → ce.vm = .none → s.vm.findClass E = some ce.cls → vx_W p l e R s m args below meth c H1 locs1 (cells + mc) (slots + ms) Q (F0 m pc ls rest) q9)
    (kk : ∀ (r : UInt32) (u : S) (t : State) (H1 : Heap) (locs1 : List Loc), t.heap = H1 → s.vm.Alike t.vm → post r u → B u t → H.size ≤ H1.size → (∀ q : Nat, q < H.size → ¬ A1 q → H1[q]? = H[q]?) → va_S A0 H0 H1 locs1 → W p l e R s m args below meth c H1 locs1 (cells + mc) (slots + ms) Q (F0 m (pc + 3) ls (.float r :: rest))) : W p l e R s m args below meth c H locs cells slots Q (F0 m pc ls st0) := by
  intro T hT X
  rcases hr T hT X with ⟨v, st₀, t, T', L, h0, X', hL, e1, e2, ⟨⟨r, u, hv, hp, hb⟩, hF⟩, st⟩ | ⟨q, st₀, t, T', L, E, ce, h0, X', hL, e1, e2, ⟨u, hp, hb, hF⟩, hce, hcv, hcl, st⟩
  · cases hv
    obtain ⟨k1, k2, k3⟩ := vx_keep h0 e1 hS hA hf hL hF
    obtain ⟨t2, a1, b1⟩ := kk r u t T'.heap (locs ++ L) e1.symm (by rw [← e2]; exact X'.warmed.alike) hp hb k1 k2 k3 T' rfl X'
    exact ⟨t2, st t2 a1, b1⟩
  · obtain ⟨k1, k2, k3⟩ := vx_keep h0 e1 hS hAX hf hL hF
    obtain ⟨t2, a1, b1⟩ := kx E ce q u t T'.heap (locs ++ L) e1.symm (by rw [← e2]; exact X'.warmed.alike) hp hb k1 k2 k3 (by rw [e1]; exact hce) hcv hcl T' rfl X'
    exact ⟨t2, st.trans a1, b1⟩
theorem vx_calld {S SX : Type} {post : UInt64 → S → Prop} {px : SX → Prop} {B : S → State → Prop} {BX : String → SX → State → Prop} {AX : Nat → Prop} (hr : vx_Run p l e R s m args below meth c H locs cells slots mc ms (F0 m pc ls st0) rest (va_Qd post B A1 a) (vx_X px BX AX) free) (hS : va_S A0 H0 H locs) (hA : ∀ q, q < H.size → A1 q → A0 q) (hf : ∀ q, free q → A0 q) (hAX : ∀ q, q < H.size → AX q → A0 q)
    (kx : ∀ (E : String) (ce : Cell) (q9 : Addr) (u : SX) (t : State) (H1 : Heap) (locs1 : List Loc), t.heap = H1 → s.vm.Alike t.vm → px u → BX E u t → H.size ≤ H1.size → (∀ q : Nat, q < H.size → ¬ AX q → H1[q]? = H[q]?) → va_S A0 H0 H1 locs1 → H1[q9]? = some ce → ce.vm = .none → s.vm.findClass E = some ce.cls → vx_W p l e R s m args below meth c H1 locs1 (cells + mc) (slots + ms) Q (F0 m pc ls rest) q9)
    (kk : ∀ (r : UInt64) (u : S) (t : State) (H1 : Heap) (locs1 : List Loc), t.heap = H1 → s.vm.Alike t.vm → post r u → B u t → H.size ≤ H1.size → (∀ q : Nat, q < H.size → ¬ A1 q → H1[q]? = H[q]?) → va_S A0 H0 H1 locs1 → W p l e R s m args below meth c H1 locs1 (cells + mc) (slots + ms) Q (F0 m (pc + 3) ls (.double r :: rest))) : W p l e R s m args below meth c H locs cells slots Q (F0 m pc ls st0) := by
  intro T hT X
  rcases hr T hT X with ⟨v, st₀, t, T', L, h0, X', hL, e1, e2, ⟨⟨r, u, hv, hp, hb⟩, hF⟩, st⟩ | ⟨q, st₀, t, T', L, E, ce, h0, X', hL, e1, e2, ⟨u, hp, hb, hF⟩, hce, hcv, hcl, st⟩
  · cases hv
    obtain ⟨k1, k2, k3⟩ := vx_keep h0 e1 hS hA hf hL hF
    obtain ⟨t2, a1, b1⟩ := kk r u t T'.heap (locs ++ L) e1.symm (by rw [← e2]; exact X'.warmed.alike) hp hb k1 k2 k3 T' rfl X'
    exact ⟨t2, st t2 a1, b1⟩
  · obtain ⟨k1, k2, k3⟩ := vx_keep h0 e1 hS hAX hf hL hF
    obtain ⟨t2, a1, b1⟩ := kx E ce q u t T'.heap (locs ++ L) e1.symm (by rw [← e2]; exact X'.warmed.alike) hp hb k1 k2 k3 (by rw [e1]; exact hce) hcv hcl T' rfl X'
    exact ⟨t2, st.trans a1, b1⟩
theorem vx_callv {S SX : Type} {post : S → Prop} {px : SX → Prop} {B : S → State → Prop} {BX : String → SX → State → Prop} {AX : Nat → Prop} (hr : vx_Run p l e R s m args below meth c H locs cells slots mc ms (F0 m pc ls st0) rest (va_Qv post B A1 a) (vx_X px BX AX) free) (hS : va_S A0 H0 H locs) (hA : ∀ q, q < H.size → A1 q → A0 q) (hf : ∀ q, free q → A0 q) (hAX : ∀ q, q < H.size → AX q → A0 q)
    (kx : ∀ (E : String) (ce : Cell) (q9 : Addr) (u : SX) (t : State) (H1 : Heap) (locs1 : List Loc), t.heap = H1 → s.vm.Alike t.vm → px u → BX E u t → H.size ≤ H1.size → (∀ q : Nat, q < H.size → ¬ AX q → H1[q]? = H[q]?) → va_S A0 H0 H1 locs1 → H1[q9]? = some ce → ce.vm = .none → s.vm.findClass E = some ce.cls → vx_W p l e R s m args below meth c H1 locs1 (cells + mc) (slots + ms) Q (F0 m pc ls rest) q9)
    (kk : ∀ (u : S) (t : State) (H1 : Heap) (locs1 : List Loc), t.heap = H1 → s.vm.Alike t.vm → post u → B u t → H.size ≤ H1.size → (∀ q : Nat, q < H.size → ¬ A1 q → H1[q]? = H[q]?) → va_S A0 H0 H1 locs1 → W p l e R s m args below meth c H1 locs1 (cells + mc) (slots + ms) Q (F0 m (pc + 3) ls (rest))) : W p l e R s m args below meth c H locs cells slots Q (F0 m pc ls st0) := by
  intro T hT X
  rcases hr T hT X with ⟨v, st₀, t, T', L, h0, X', hL, e1, e2, ⟨⟨u, hv, hp, hb⟩, hF⟩, st⟩ | ⟨q, st₀, t, T', L, E, ce, h0, X', hL, e1, e2, ⟨u, hp, hb, hF⟩, hce, hcv, hcl, st⟩
  · cases hv
    obtain ⟨k1, k2, k3⟩ := vx_keep h0 e1 hS hA hf hL hF
    obtain ⟨t2, a1, b1⟩ := kk u t T'.heap (locs ++ L) e1.symm (by rw [← e2]; exact X'.warmed.alike) hp hb k1 k2 k3 T' rfl X'
    exact ⟨t2, st t2 a1, b1⟩
  · obtain ⟨k1, k2, k3⟩ := vx_keep h0 e1 hS hAX hf hL hF
    obtain ⟨t2, a1, b1⟩ := kx E ce q u t T'.heap (locs ++ L) e1.symm (by rw [← e2]; exact X'.warmed.alike) hp hb k1 k2 k3 (by rw [e1]; exact hce) hcv hcl T' rfl X'
    exact ⟨t2, st.trans a1, b1⟩
/-- caught by the row x of this method's table; the rows ahead don't take it -/
theorem vx_catch {own name : String} {E : String} {ce : Cell} {q : Addr} (hown : s.vm.findClass own = some m.cls) (pre : List ExceptionTableEntry) (x : ExceptionTableEntry) (suf : List ExceptionTableEntry) (hsplit : c.exceptionTable.toList = pre ++ x :: suf)
    (hpass : ∀ z ∈ pre, covers z pc = false ∨ (z.catchType ≠ 0 ∧ ∃ nm : String, (Cond.classLink own z.catchType nm).before args s = true ∧ va_Nc E nm s)) (hx : covers x pc = true) (h0 : x.catchType ≠ 0)
    (hlink : (Cond.classLink own x.catchType name).before args s = true) (hcast : (Cond.castable E name).before args s = true) (hcell : H[q]? = some ce) (hv : ce.vm = .none) (hcl : s.vm.findClass E = some ce.cls)
    (kk : W p l e R s m args below meth c H locs cells slots Q (F0 m x.handlerPc ls [.ref q])) : vx_W p l e R s m args below meth c H locs cells slots Q (F0 m pc ls rest) q := by
  intro T hT X
  have hpl : e.platform.magicAccessors = ({} : Platform).magicAccessors := by rw [X.admits.platform]
  obtain ⟨c3, c4, hc3, hc4, hasg⟩ := Cond.castable_spec hcast
  cases Option.some.inj (hc3.symm.trans hcl)
  obtain ⟨c5, hc5, hcl5⟩ := Cond.classLink_spec hown hlink e.platform hpl
  cases Option.some.inj (hc4.symm.trans hc5)
  obtain ⟨vm', X', st⟩ := X.thenCaughtThrough q (g := F0 m pc ls rest) rfl (Steps.refl _) (by rw [hT]; exact hcell) (by rw [hv]; rfl) (by obtain ⟨k9, h9, -⟩ := Vm.findClass_spec hcl; exact ⟨k9, h9⟩) pre x suf hsplit
    (fun z hz => by
      rcases hpass z hz with h | ⟨hz0, nm, hl1, hn1⟩
      · exact Or.inl h
      · obtain ⟨c6, hc6, hcl6⟩ := Cond.classLink_spec hown hl1 e.platform hpl
        obtain ⟨a8, b8, h1, h2, h3⟩ := hn1
        cases Option.some.inj (h1.symm.trans hcl)
        cases Option.some.inj (h2.symm.trans hc6)
        exact Or.inr ⟨hz0, _, hcl6, h3⟩) hx (Or.inr ⟨h0, c4, hcl5, hasg⟩)
  obtain ⟨t, a1, b1⟩ := kk (T.setVm vm') hT X'
  exact ⟨t, st.trans a1, b1⟩
end Rows
section Ends
variable {p : Program} {l : Launch} {e : Env} {R : Room} {s : State} {m : MethodId} {args : Array Value} {below : List Frame} {meth : Method} {c : Code} {H : Heap} {locs : List Loc} {cells slots : Nat} {Q : State → Prop}
variable {mc ms : Nat} {free : Addr → Prop} {A0 A1 : Nat → Prop} {H0 : Heap} {a : Array Value} {ls : Array Slot} {st0 rest : List Value}
variable {Qc : Array Value → State → Outcome → State → Prop} {XC : String → State → State → Prop}
/-- what a body that may throw owes at its end -/
def vx_MQ (below : List Frame) (Qc : Array Value → State → Outcome → State → Prop) (XC : String → State → State → Prop) (a : Array Value) (s : State) (mc ms : Nat) (free : Addr → Prop) : State → Prop := fun t =>
  ∃ o, t.status = .running ∧ Ended t below o ∧ vx_Q Qc XC mc ms free a s o t
theorem vx_ret {g : JFrame} {mc ms : Nat} (k : W p l e R s m args below meth c H locs cells slots (MQ below Qc args s mc ms free) g) : W p l e R s m args below meth c H locs cells slots (vx_MQ below Qc XC args s mc ms free) g := by
  intro T hT X
  obtain ⟨t, a1, o, b1, b2, b3, b4⟩ := k T hT X
  exact ⟨t, a1, o, b1, b2, Or.inl ⟨b3, b4⟩⟩
/-- not caught here: it goes on to the caller -/
theorem vx_widen {g : JFrame} {q : Addr} {k n : Nat} (h1 : cells ≤ k) (h2 : slots ≤ n) (kk : vx_W p l e R s m args below meth c H locs k n Q g q) : vx_W p l e R s m args below meth c H locs cells slots Q g q := fun T hT X => kk T hT (stand_widen X h1 h2)
theorem vx_out {pc : Nat} {E : String} {ce : Cell} {q : Addr} {mc ms : Nat} (hout : ∀ x ∈ c.exceptionTable.toList, covers x pc = false) (hlocks : meth.locks = false) (hcell : H[q]? = some ce) (hv : ce.vm = .none) (hcl : s.vm.findClass E = some ce.cls)
    (hx : ∀ t : State, t.heap = H → s.vm.Alike t.vm → XC E s t) (hf : ∀ z ∈ locs, free z.base) (hc : cells ≤ mc) (hs : slots ≤ ms) :
    vx_W p l e R s m args below meth c H locs cells slots (vx_MQ below Qc XC args s mc ms free) (F0 m pc ls rest) q := by
  intro T hT X
  obtain ⟨st1, hrun, hend, hW, hsm⟩ := X.leaveThrown q (g := F0 m pc ls rest) rfl rfl rfl hout hlocks
  have hcell9 : (T.setFrames (.throwing q :: below)).heap[q]? = some ce := by
    show T.heap[q]? = some ce
    rw [hT]; exact hcell
  exact ⟨_, st1, .threw q, hrun, hend, Or.inr ⟨q, rfl, E, ce, locs, hx _ hT hW.alike, hcell9, hv, hcl, hW, hsm.mono hc hs, hf⟩⟩
theorem vx_frame {U : State} {k n : Nat} (h : s.sameButNew ({ U with vm := s.vm } : State) locs k n) : s.heap.size ≤ U.heap.size ∧ ∀ q : Nat, q < s.heap.size → (∀ z ∈ locs, z.base ≠ q) → U.heap[q]? = s.heap[q]? := by
  obtain ⟨-, h2, -, -, -, h6⟩ := h
  refine ⟨h2, fun q hq hz => ?_⟩
  obtain ⟨c9, e1, e2, e3, e4⟩ := h6 q _ (Array.getElem?_eq_getElem hq)
  have hs : c9.slots = (s.heap[q]).slots := Array.ext_getElem? fun i => e4 i fun hm => hz _ hm rfl
  have h9 : c9 = s.heap[q] := by
    rw [hs] at e2
    exact e2
  have e5 : U.heap[q]? = some c9 := e1
  rw [e5, h9, Array.getElem?_eq_getElem hq]
/-- the words of a throw but the four that speak of the heap -/
def vx_no (w : Cond) : Bool := decide (w ≠ .isRef (.static Bundle.tN "UNASSIGNED_STACK" Bundle.steD)) && decide (w ≠ .isRef (.static Bundle.tN "SUPPRESSED_SENTINEL" Bundle.listD)) && decide (w ≠ .laysStatic Bundle.tN "UNASSIGNED_STACK" Bundle.steD) && decide (w ≠ .laysStatic Bundle.tN "SUPPRESSED_SENTINEL" Bundle.listD)
def vx_at0 (own : String) (ic : Nat) (X : String) (names : List String) : List Cond := (Bundle.ownAtoms0 own ic X names).filter vx_no
def vx_atS (own : String) (ic : Nat) (X : String) (names : List String) : List Cond := (Bundle.ownAtoms own ic X names).filter vx_no
/-- a word that the tables alone decide, or a good one -/
def vx_ot (w : Cond) : Bool := w.onTables || goodWord w
theorem vx_ot_at {args a' : Array Value} {s U : State} {w : Cond} (hW : s.WarmedH U.vm) (hvm : s.vm = U.vm) (hg : vx_ot w = true) (h : w.before args s = true) : w.before a' U = true := by
  simp only [vx_ot, Bool.or_eq_true] at hg
  rcases hg with hg | hg
  · exact va_tabs hg hvm h
  · exact word_at hW (good_of_word hg) h
/-- a list's words: the good ones out of the method's own list, the others by premises of their own -/
theorem vx_hat {args : Array Value} {s : State} {L B : List Cond} (h1 : ∀ w ∈ L.filter goodWord, w.before args s = true) (h2 : ∀ w ∈ L.filter (fun w => !goodWord w), w ∈ B) (h3 : ∀ w ∈ B, w.before args s = true) : ∀ w ∈ L, w.before args s = true := by
  intro w hw
  by_cases g : goodWord w = true
  · exact h1 w (List.mem_filter.mpr ⟨hw, g⟩)
  · refine h3 w (h2 w (List.mem_filter.mpr ⟨hw, ?_⟩))
    show (!goodWord w) = true
    cases hgw : goodWord w
    · rfl
    · exact absurd hgw g
theorem vx_c {args : Array Value} {s : State} {w : Cond} {B : List Cond} (h : w.before args s = true) (t : ∀ w ∈ B, w.before args s = true) : ∀ w' ∈ w :: B, w'.before args s = true := fun w' h' => (List.mem_cons.mp h').elim (fun e => by rw [e]; exact h) (t w')
theorem vx_n {args : Array Value} {s : State} : ∀ w ∈ ([] : List Cond), w.before args s = true := fun _ h => nomatch h
theorem vx_own {args : Array Value} {s : State} {L : List Cond} (h1 : ∀ w ∈ L.filter vx_no, w.before args s = true)
    (hU : (Cond.isRef (.static Bundle.tN "UNASSIGNED_STACK" Bundle.steD)).before args s = true) (hN : (Cond.isRef (.static Bundle.tN "SUPPRESSED_SENTINEL" Bundle.listD)).before args s = true)
    (lU : (Cond.laysStatic Bundle.tN "UNASSIGNED_STACK" Bundle.steD).before args s = true) (lN : (Cond.laysStatic Bundle.tN "SUPPRESSED_SENTINEL" Bundle.listD).before args s = true) : ∀ w ∈ L, w.before args s = true := by
  intro w hw
  by_cases e1 : w = .isRef (.static Bundle.tN "UNASSIGNED_STACK" Bundle.steD)
  · rw [e1]; exact hU
  · by_cases e2 : w = .isRef (.static Bundle.tN "SUPPRESSED_SENTINEL" Bundle.listD)
    · rw [e2]; exact hN
    · by_cases e3 : w = .laysStatic Bundle.tN "UNASSIGNED_STACK" Bundle.steD
      · rw [e3]; exact lU
      · by_cases e4 : w = .laysStatic Bundle.tN "SUPPRESSED_SENTINEL" Bundle.listD
        · rw [e4]; exact lN
        · exact h1 w (List.mem_filter.mpr ⟨hw, by unfold vx_no; rw [decide_eq_true e1, decide_eq_true e2, decide_eq_true e3, decide_eq_true e4]; rfl⟩)
/-- where a static field lies, its class's statics cell in H -/
def vx_L (C n d : String) (A : Nat → Prop) (U : State) (H : Heap) : Prop := ∃ (c : ClassId) (k : Class) (i : Nat) (f : Field) (a : Nat) (cell : Cell), U.vm.findClass C = some c ∧ U.fieldFound? C n d = some (c, k, i, f) ∧ f.isStatic = true ∧ k.statics = some a ∧ H[a]? = some cell ∧ cell.vm.isStatics = true ∧ cell.cls = c ∧ f.slot < cell.slots.size ∧ k.staticTypes[f.slot]? = some f.type ∧ ¬ A a
theorem vx_L.moved {C n d : String} {A : Nat → Prop} {u U : State} {H : Heap} (hvm : u.vm.Alike U.vm) (h : vx_L C n d A u H) : vx_L C n d A U H := by
  obtain ⟨c, k, i, f, a, cell, h1, h2, h3, h4, h5, h6, h7, h8, h9, h10⟩ := h
  obtain ⟨k', hi', he⟩ := State.fieldFound?_setVm hvm h2
  exact ⟨c, k', i, f, a, cell, by rw [hvm.findClass]; exact h1, hi', h3, by rw [he]; exact h4, h5, h6, h7, h8, by rw [he]; exact h9, h10⟩
theorem vx_L.kept {C n d : String} {A : Nat → Prop} {U : State} {H H1 : Heap} (h : vx_L C n d A U H) (hq : ∀ a : Nat, a < H.size → ¬ A a → H1[a]? = H[a]?) : vx_L C n d A U H1 := by
  obtain ⟨c, k, i, f, a, cell, h1, h2, h3, h4, h5, h6, h7, h8, h9, h10⟩ := h
  exact ⟨c, k, i, f, a, cell, h1, h2, h3, h4, by rw [hq a (Array.getElem?_eq_some_iff.mp h5).1 h10]; exact h5, h6, h7, h8, h9, h10⟩
theorem vx_L.narrow {C n d : String} {A B : Nat → Prop} {U : State} {H : Heap} (h : vx_L C n d A U H) (hAB : ∀ q, B q → A q) : vx_L C n d B U H := by
  obtain ⟨c, k, i, f, a, cell, h1, h2, h3, h4, h5, h6, h7, h8, h9, h10⟩ := h
  exact ⟨c, k, i, f, a, cell, h1, h2, h3, h4, h5, h6, h7, h8, h9, fun z => h10 (hAB _ z)⟩
theorem vx_L.word {C n d : String} {A : Nat → Prop} {s : State} {args : Array Value} (h : vx_L C n d A s s.heap) : (Cond.laysStatic C n d).before args s = true := by
  obtain ⟨c, k, i, f, a, cell, h1, h2, h3, h4, h5, h6, h7, h8, h9, -⟩ := h
  show (Cond.laysStatic C n d).holds args s none s [] = true
  exact Cond.laysStatic_of h1 h2 h3 h4 h5 h6 h7 h8 h9
/-- .. and what it holds: null or some reference -/
def vx_Zq (C n d : String) (A : Nat → Prop) (U : State) (H : Heap) : Prop := va_Zq C n d A U H ∧ vx_L C n d A U H
theorem vx_Zq.moved {C n d : String} {A : Nat → Prop} {u U : State} {H : Heap} (hvm : u.vm.Alike U.vm) (h : vx_Zq C n d A u H) : vx_Zq C n d A U H := ⟨va_Zq.moved hvm h.1, vx_L.moved hvm h.2⟩
theorem vx_Zq.kept {C n d : String} {A : Nat → Prop} {U : State} {H H1 : Heap} (h : vx_Zq C n d A U H) (hq : ∀ a : Nat, a < H.size → ¬ A a → H1[a]? = H[a]?) : vx_Zq C n d A U H1 := ⟨va_Zq.kept h.1 hq, vx_L.kept h.2 hq⟩
theorem vx_Zq.narrow {C n d : String} {A B : Nat → Prop} {U : State} {H : Heap} (h : vx_Zq C n d A U H) (hAB : ∀ q, B q → A q) : vx_Zq C n d B U H := ⟨va_Zq.narrow h.1 hAB, vx_L.narrow h.2 hAB⟩
theorem vx_Zqof {args : Array Value} {s : State} {C n d : String} {A : Nat → Prop} (hl : (Cond.laysStatic C n d).before args s = true) (hini : (Cond.initialized C).before args s = true) (h : (Cond.isRef (.static C n d)).before args s = true) (hA : ∀ a : Nat, a < s.heap.size → ¬ A a) : vx_Zq C n d A s s.heap := by
  refine ⟨va_Zqof hl hini h hA, ?_⟩
  obtain ⟨c, k, i, f, a, cell, h1, h2, h3, h4, h5, h6, h7, h8, h9⟩ := Cond.laysStatic_spec hl
  exact ⟨c, k, i, f, a, cell, h1, h2, h3, h4, h5, h6, h7, h8, h9, hA a (Array.getElem?_eq_some_iff.mp h5).1⟩
theorem vx_isRef {C n d : String} {v : Value} {A : Nat → Prop} {s : State} {args : Array Value} (h : va_Z C n d v A s s.heap) (hv : v.isRef = true) : (Cond.isRef (.static C n d)).before args s = true := by
  obtain ⟨cf, kf, fi, f, a, cell, h1, h2, h3, h4, h5, h6, h7, -⟩ := h
  have he : (Term.static C n d).eval args s none [] s = some v := by
    simp [Term.eval, State.fieldNamed?, h1, h2, h4, h5, h6, h7]
  simp only [Cond.before, Cond.holds, Cond.value, he]
  cases v <;> simp_all [Value.isRef]
theorem vx_isRefq {C n d : String} {A : Nat → Prop} {s : State} {args : Array Value} (h : va_Zq C n d A s s.heap) : (Cond.isRef (.static C n d)).before args s = true := by
  rcases h with h | ⟨t, h⟩
  · exact vx_isRef h rfl
  · exact vx_isRef h rfl
/-- the same frame, seen from here: as if the method were called anew in this heap -/
theorem vx_rebase {T : State} (X : Stand p l e R s m args below meth c T locs cells slots) {R' : Room} (hf : R'.frames ≤ R.frames) (hl : R'.locals ≤ R.locals) (hc : cells + R'.cells ≤ R.cells) (hs : slots + R'.slots ≤ R.slots) :
    Stand p l e R' ((T.setVm s.vm).setFrames (.invoking m args :: below)) m args below meth c T [] 0 0 := by
  have htop : (T.setVm s.vm).topJava?.isSome := X.here.top
  have hF : ((T.setVm s.vm).setFrames (.invoking m args :: below)).frames = .invoking m args :: below := State.frames_setFrames _ (State.cur_lt_of_top htop)
  obtain ⟨g₀, hg0⟩ := Option.isSome_iff_exists.mp htop
  obtain ⟨r, hr⟩ := State.topJava?_eq_some.mp hg0
  have hl9 : e.platform.stackLimits (T.setVm s.vm).me = e.platform.stackLimits s.me := X.limits
  have hb9 : (T.setVm s.vm).me.stackBytes = s.me.stackBytes := X.bytes
  refine ⟨X.admits, X.cas, X.clock, hF, ?_, X.hears, X.method, X.code, X.here, X.tail, X.warmed, ?_, ?_, ?_⟩
  · have h := X.room
    have hU : ((T.setVm s.vm).setFrames (.invoking m args :: below)).localsInUse = s.localsInUse := by
      rw [State.localsInUse_invoking hF (meth := meth) (c := c) X.method X.code, State.localsInUse_invoking X.frames X.method X.code]
    simp only [State.hasRoom, Bool.and_eq_true, decide_eq_true_eq] at h ⊢
    obtain ⟨⟨⟨⟨h1, h2, h3, h4, h5, h6⟩, h7⟩, h8⟩, h9⟩ := h
    rw [X.frames, List.length_cons] at h2 h3
    have q1 := X.heapSize
    have q2 := X.used
    simp only [hF, hU, List.length_cons, State.stackLimits_setFrames, State.stackBytes_setFrames, hl9, hb9]
    refine ⟨⟨⟨⟨by omega, by omega, by omega, by omega, by omega, h6⟩, ?_⟩, ?_⟩, X.book⟩
    · show T.heap.size + R'.cells ≤ e.platform.maxCells
      omega
    · show T.slotsUsed + R'.slots ≤ e.platform.maxSlots
      omega
  · rw [State.stackLimits_setFrames]; rfl
  · rw [State.stackBytes_setFrames]; rfl
  · refine ⟨?_, Nat.le_refl _, Nat.le_refl _, ?_, ?_, fun a c9 h9 => ⟨c9, h9, rfl, rfl, fun _ _ => rfl⟩⟩
    · obtain ⟨t, ht, -⟩ := State.frames_cons hr
      show T.setVm s.vm = { ((T.setVm s.vm).setFrames (.invoking m args :: below)).setFrames (T.setVm s.vm).frames with heap := T.heap, slotsUsed := T.slotsUsed }
      rw [State.setFrames_setFrames, State.setFrames_self ht]
      rfl
    · show T.slotsUsed = T.slotsUsed + ((T.heap.toList.drop T.heap.size).map (·.slots.size)).sum
      rw [List.drop_eq_nil_of_le (Nat.le_of_eq Array.length_toList)]
      rfl
    · show ((T.heap.toList.drop T.heap.size).map (·.slots.size)).sum ≤ 0
      rw [List.drop_eq_nil_of_le (Nat.le_of_eq Array.length_toList)]
      exact Nat.le_refl _
/-- 'throw new E()': new; dup; invokespecial; athrow -/
theorem vx_throw0 {cc : ByteArray} {pc : Nat} (hexec : p.tables.exec = Jvm.exec) (hb : c.code = cc) (hl : l.stackTraces = false) {own cls : String} {names : List String} {ik ic mc ms : Nat} {A : Nat → Prop}
    (hown : s.vm.findClass own = some m.cls) (hcls : Bundle.fit cls = true) (hnames : ∀ n ∈ names, Bundle.fit n = true)
    (hk : (Cond.classLink own ik cls).before args s = true) (hini : (Cond.initialized cls).before args s = true) (hat : ∀ w ∈ vx_at0 own ic cls names, w.before args s = true)
    (hgood : ∀ w ∈ Cond.classLink own ik cls :: Cond.initialized cls :: vx_at0 own ic cls names, vx_ot w = true)
    (hU : vx_Zq Bundle.tN "UNASSIGNED_STACK" Bundle.steD A s s.heap) (hN : vx_Zq Bundle.tN "SUPPRESSED_SENTINEL" Bundle.listD A s s.heap) (hS : va_S A s.heap H locs) (hsize : ls.size = c.maxLocals)
    (d0 : decode cc pc = .ok (.new ik, 3)) (d3 : decode cc (pc + 3) = .ok (.dup, 1)) (d4 : decode cc (pc + 4) = .ok (.invokespecial ic, 3)) (d7 : decode cc (pc + 7) = .ok (.athrow, 1))
    (hout : ∀ x ∈ c.exceptionTable.toList, covers x (pc + 7) = false)
    (hRframes : names.length + 3 < R.frames) (hRlocals : (rest.map fun v => v.category).sum + (13 * (names.length + 1) + 42) ≤ R.locals) (hRcells : cells + 1 ≤ R.cells) (hRslots : slots + 6 ≤ R.slots) (hlocks : meth.locks = false)
    (hx : ∀ t : State, s.vm.Alike t.vm → H.size ≤ t.heap.size → (∀ q : Nat, q < H.size → t.heap[q]? = H[q]?) → XC cls s t)
    (hf : ∀ z ∈ locs, free z.base) (hc : cells + 1 ≤ mc) (hs : slots + 6 ≤ ms) :
    W p l e R s m args below meth c H locs cells slots (vx_MQ below Qc XC args s mc ms free) (F0 m pc ls rest) := by
  intro T hT X
  have htr : e.platform.stackTraces = false := (show e.platform.stackTraces = l.stackTraces by rw [X.admits.platform]).trans hl
  have Y := vx_rebase X (R' := { frames := R.frames, locals := R.locals, cells := 1, slots := 6 }) (Nat.le_refl _) (Nat.le_refl _) hRcells hRslots
  obtain ⟨s', hA⟩ : ∃ z, z = (T.setVm s.vm).setFrames (.invoking m args :: below) := ⟨_, rfl⟩
  rw [← hA] at Y
  have hvm : s'.vm = s.vm := by rw [hA]; rfl
  have hhp : s'.heap = H := by rw [hA]; exact hT
  have hW0 : s.WarmedH s'.vm := by rw [hvm]; exact State.WarmedH.refl s
  have hat' : ∀ w ∈ vx_at0 own ic cls names, w.before args s' = true := fun w hw => vx_ot_at hW0 hvm.symm (hgood w (List.mem_cons_of_mem _ (List.mem_cons_of_mem _ hw))) (hat w hw)
  have hk' : (Cond.classLink own ik cls).before args s' = true := vx_ot_at hW0 hvm.symm (hgood _ List.mem_cons_self) hk
  have hini' : (Cond.initialized cls).before args s' = true := vx_ot_at hW0 hvm.symm (hgood _ (List.mem_cons_of_mem _ List.mem_cons_self)) hini
  have hU' : vx_Zq Bundle.tN "UNASSIGNED_STACK" Bundle.steD A s' s'.heap := by rw [hhp]; exact vx_Zq.moved hW0.alike (hU.kept hS.2.1)
  have hN' : vx_Zq Bundle.tN "SUPPRESSED_SENTINEL" Bundle.listD A s' s'.heap := by rw [hhp]; exact vx_Zq.moved hW0.alike (hN.kept hS.2.1)
  have h : ∀ w ∈ Bundle.ownAtoms0 own ic cls names, w.before args s' = true := vx_own hat' (vx_isRefq hU'.1) (vx_isRefq hN'.1) hU'.2.word hN'.2.word
  have hown' : s'.vm.findClass own = some m.cls := by rw [hvm]; exact hown
  have hins : (Cond.instantiable cls 6).before args s' = true := h _ (by simp [Bundle.ownAtoms0])
  obtain ⟨vm₁, cX, kX, hfX, hkX, -, -, X₁, st1⟩ := Y.newCold hexec (own := own) (C := cls) (index := ik) (n := 6) hown' hk' hins hini'
    (g := F0 m pc ls rest) rfl (by rw [hb]; exact d0) (Nat.le_refl _) (Nat.le_refl _)
  generalize hT1 : (T.setVm vm₁).pushCell { cls := cX, slots := kX.instanceTypes.map defaultValue, vm := .none } = T1 at X₁ st1
  have hcat : (Value.ref T.heap.size).category = 1 := rfl
  have hcellA : T1.heap[T.heap.size]? = some (freshCell cX kX) := by rw [← hT1]; exact State.heap_pushCell_size _ _
  have d3' : decode c.code (pc + 3) = .ok (.dup, 1) := by rw [hb]; exact d3
  obtain ⟨U, hsteps, hrun, hend, hW, hsame, ce, hce, hO⟩ := X₁.ctorThrow0 hexec htr (own := own) (cls := cls) (names := names) (ic := ic) hown' hcls hnames h (fun x hx => nomatch hx) hfX hkX hcellA (by rw [hhp, hT]; exact Nat.le_refl _)
    (g := { method := m, pc := pc + 4, locals := ls, stack := .ref T.heap.size :: .ref T.heap.size :: rest, locked := none }) rfl hsize rfl rfl (rest := rest) rfl
    (by rw [hb]; exact d4) (by rw [hb]; exact d7) hout hRframes (by simp only [List.map_cons, List.sum_cons, hcat]; omega) hlocks
  obtain ⟨f1, f2⟩ := vx_frame hsame
  rw [hhp] at f1 f2
  have hWs : s.WarmedH U.vm := State.WarmedH.trans hW0 hW
  have hcl : s.vm.findClass cls = some ce.cls := by
    have h9 := hO.cls
    rw [hvm] at h9
    exact h9
  have hall : s.sameButNew ({ U with vm := s.vm } : State) locs mc ms := by
    subst hA
    obtain ⟨e1, e2⟩ := hsame
    rw [State.setFrames_setFrames] at e1
    have h2 : (T.setVm s.vm).sameButNew ({ U with vm := s.vm } : State) [] (0 + 1) (0 + 6) := ⟨e1, e2⟩
    have h3 := X.same.trans h2
    rw [List.append_nil] at h3
    exact h3.mono hc hs
  refine ⟨U, ?_, .threw T.heap.size, hrun, hend, Or.inr ⟨T.heap.size, rfl, cls, ce, locs, hx U hWs.alike f1 (fun q hq => f2 q hq (fun z hz => nomatch hz)), hce, hO.vm, hcl, hWs, hall, hf⟩⟩
  refine st1 _ ?_
  show Steps p.tables e below (T1.setTop { method := m, pc := pc + 3, locals := ls, stack := .ref T.heap.size :: rest, locked := none }) _
  jvm_step X₁.here [X₁.here.top, hexec, d3', Value.category]
  exact hsteps
/-- 'throw new E("text")': new; dup; ldc; invokespecial; athrow -/
theorem vx_throwS {cc : ByteArray} {pc : Nat} (hexec : p.tables.exec = Jvm.exec) (hb : c.code = cc) (hl : l.stackTraces = false) {own cls text : String} {names : List String} {ik is ic mc ms sa : Nat} {A : Nat → Prop}
    (hown : s.vm.findClass own = some m.cls) (hcls : Bundle.fit cls = true) (hnames : ∀ n ∈ names, Bundle.fit n = true)
    (hk : (Cond.classLink own ik cls).before args s = true) (hini : (Cond.initialized cls).before args s = true) (hstr : vk_R own is text sa s) (hat : ∀ w ∈ vx_atS own ic cls names, w.before args s = true)
    (hgood : ∀ w ∈ Cond.classLink own ik cls :: Cond.initialized cls :: vx_atS own ic cls names, vx_ot w = true)
    (hU : vx_Zq Bundle.tN "UNASSIGNED_STACK" Bundle.steD A s s.heap) (hN : vx_Zq Bundle.tN "SUPPRESSED_SENTINEL" Bundle.listD A s s.heap) (hS : va_S A s.heap H locs) (hsize : ls.size = c.maxLocals)
    (d0 : decode cc pc = .ok (.new ik, 3)) (d3 : decode cc (pc + 3) = .ok (.dup, 1)) (d4 : decode cc (pc + 4) = .ok (.ldc is, 2)) (d6 : decode cc (pc + 6) = .ok (.invokespecial ic, 3)) (d9 : decode cc (pc + 9) = .ok (.athrow, 1))
    (hout : ∀ x ∈ c.exceptionTable.toList, covers x (pc + 9) = false)
    (hRframes : names.length + 3 < R.frames) (hRlocals : (rest.map fun v => v.category).sum + (13 * (names.length + 1) + 43) ≤ R.locals) (hRcells : cells + 1 ≤ R.cells) (hRslots : slots + 6 ≤ R.slots) (hlocks : meth.locks = false)
    (hx : ∀ t : State, s.vm.Alike t.vm → H.size ≤ t.heap.size → (∀ q : Nat, q < H.size → t.heap[q]? = H[q]?) → XC cls s t)
    (hf : ∀ z ∈ locs, free z.base) (hc : cells + 1 ≤ mc) (hs : slots + 6 ≤ ms) :
    W p l e R s m args below meth c H locs cells slots (vx_MQ below Qc XC args s mc ms free) (F0 m pc ls rest) := by
  intro T hT X
  have htr : e.platform.stackTraces = false := (show e.platform.stackTraces = l.stackTraces by rw [X.admits.platform]).trans hl
  have Y := vx_rebase X (R' := { frames := R.frames, locals := R.locals, cells := 1, slots := 6 }) (Nat.le_refl _) (Nat.le_refl _) hRcells hRslots
  obtain ⟨s', hA⟩ : ∃ z, z = (T.setVm s.vm).setFrames (.invoking m args :: below) := ⟨_, rfl⟩
  rw [← hA] at Y
  have hvm : s'.vm = s.vm := by rw [hA]; rfl
  have hhp : s'.heap = H := by rw [hA]; exact hT
  have hW0 : s.WarmedH s'.vm := by rw [hvm]; exact State.WarmedH.refl s
  have hat' : ∀ w ∈ vx_atS own ic cls names, w.before args s' = true := fun w hw => vx_ot_at hW0 hvm.symm (hgood w (List.mem_cons_of_mem _ (List.mem_cons_of_mem _ hw))) (hat w hw)
  have hk' : (Cond.classLink own ik cls).before args s' = true := vx_ot_at hW0 hvm.symm (hgood _ List.mem_cons_self) hk
  have hini' : (Cond.initialized cls).before args s' = true := vx_ot_at hW0 hvm.symm (hgood _ (List.mem_cons_of_mem _ List.mem_cons_self)) hini
  have hU' : vx_Zq Bundle.tN "UNASSIGNED_STACK" Bundle.steD A s' s'.heap := by rw [hhp]; exact vx_Zq.moved hW0.alike (hU.kept hS.2.1)
  have hN' : vx_Zq Bundle.tN "SUPPRESSED_SENTINEL" Bundle.listD A s' s'.heap := by rw [hhp]; exact vx_Zq.moved hW0.alike (hN.kept hS.2.1)
  have h : ∀ w ∈ Bundle.ownAtoms own ic cls names, w.before args s' = true := vx_own hat' (vx_isRefq hU'.1) (vx_isRefq hN'.1) hU'.2.word hN'.2.word
  have hown' : s'.vm.findClass own = some m.cls := by rw [hvm]; exact hown
  have hins : (Cond.instantiable cls 6).before args s' = true := h _ (by simp [Bundle.ownAtoms])
  obtain ⟨vm₁, cX, kX, hfX, hkX, -, -, X₁, st1⟩ := Y.newCold hexec (own := own) (C := cls) (index := ik) (n := 6) hown' hk' hins hini'
    (g := F0 m pc ls rest) rfl (by rw [hb]; exact d0) (Nat.le_refl _) (Nat.le_refl _)
  generalize hT1 : (T.setVm vm₁).pushCell { cls := cX, slots := kX.instanceTypes.map defaultValue, vm := .none } = T1 at X₁ st1
  have hcat : (Value.ref T.heap.size).category = 1 := rfl
  have hcellA : T1.heap[T.heap.size]? = some (freshCell cX kX) := by rw [← hT1]; exact State.heap_pushCell_size _ _
  have d3' : decode c.code (pc + 3) = .ok (.dup, 1) := by rw [hb]; exact d3
  have d4' : decode c.code (pc + 4) = .ok (.ldc is, 2) := by rw [hb]; exact d4
  have hstr' : vk_R own is text sa s' := vk_R.warm hW0 hstr
  obtain ⟨U, hsteps, hrun, hend, hW, hsame, ce, hce, hO⟩ := X₁.ctorThrowS hexec htr (own := own) (cls := cls) (names := names) (ic := ic) hown' hcls hnames h (fun x hx => nomatch hx) hfX hkX hcellA (by rw [hhp, hT]; exact Nat.le_refl _) (msg := .ref sa) rfl
    (g := { method := m, pc := pc + 6, locals := ls, stack := .ref sa :: .ref T.heap.size :: .ref T.heap.size :: rest, locked := none }) rfl hsize rfl rfl (rest := rest) rfl
    (by rw [hb]; exact d6) (by rw [hb]; exact d9) hout hRframes (by simp only [List.map_cons, List.sum_cons, hcat]; omega) hlocks
  obtain ⟨f1, f2⟩ := vx_frame hsame
  rw [hhp] at f1 f2
  have hWs : s.WarmedH U.vm := State.WarmedH.trans hW0 hW
  have hcl : s.vm.findClass cls = some ce.cls := by
    have h9 := hO.cls
    rw [hvm] at h9
    exact h9
  have hall : s.sameButNew ({ U with vm := s.vm } : State) locs mc ms := by
    subst hA
    obtain ⟨e1, e2⟩ := hsame
    rw [State.setFrames_setFrames] at e1
    have h2 : (T.setVm s.vm).sameButNew ({ U with vm := s.vm } : State) [] (0 + 1) (0 + 6) := ⟨e1, e2⟩
    have h3 := X.same.trans h2
    rw [List.append_nil] at h3
    exact h3.mono hc hs
  refine ⟨U, ?_, .threw T.heap.size, hrun, hend, Or.inr ⟨T.heap.size, rfl, cls, ce, locs, hx U hWs.alike f1 (fun q hq => f2 q hq (fun z hz => nomatch hz)), hce, hO.vm, hcl, hWs, hall, hf⟩⟩
  refine st1 _ ?_
  show Steps p.tables e below (T1.setTop { method := m, pc := pc + 3, locals := ls, stack := .ref T.heap.size :: rest, locked := none }) _
  jvm_step X₁.here [X₁.here.top, hexec, d3', Value.category]
  exact X₁.ldcString hexec (own := own) (text := text) (index := is) (a := sa) hown' hstr'.1 hstr'.2
    (g := { method := m, pc := pc + 4, locals := ls, stack := .ref T.heap.size :: .ref T.heap.size :: rest, locked := none }) rfl d4' _ hsteps
/-- 'throw new E("text")', the text by a wide index -/
theorem vx_throwSW {cc : ByteArray} {pc : Nat} (hexec : p.tables.exec = Jvm.exec) (hb : c.code = cc) (hl : l.stackTraces = false) {own cls text : String} {names : List String} {ik is ic mc ms sa : Nat} {A : Nat → Prop}
    (hown : s.vm.findClass own = some m.cls) (hcls : Bundle.fit cls = true) (hnames : ∀ n ∈ names, Bundle.fit n = true)
    (hk : (Cond.classLink own ik cls).before args s = true) (hini : (Cond.initialized cls).before args s = true) (hstr : vk_R own is text sa s) (hat : ∀ w ∈ vx_atS own ic cls names, w.before args s = true)
    (hgood : ∀ w ∈ Cond.classLink own ik cls :: Cond.initialized cls :: vx_atS own ic cls names, vx_ot w = true)
    (hU : vx_Zq Bundle.tN "UNASSIGNED_STACK" Bundle.steD A s s.heap) (hN : vx_Zq Bundle.tN "SUPPRESSED_SENTINEL" Bundle.listD A s s.heap) (hS : va_S A s.heap H locs) (hsize : ls.size = c.maxLocals)
    (d0 : decode cc pc = .ok (.new ik, 3)) (d3 : decode cc (pc + 3) = .ok (.dup, 1)) (d4 : decode cc (pc + 4) = .ok (.ldc_w is, 3)) (d7 : decode cc (pc + 7) = .ok (.invokespecial ic, 3)) (d10 : decode cc (pc + 10) = .ok (.athrow, 1))
    (hout : ∀ x ∈ c.exceptionTable.toList, covers x (pc + 10) = false)
    (hRframes : names.length + 3 < R.frames) (hRlocals : (rest.map fun v => v.category).sum + (13 * (names.length + 1) + 43) ≤ R.locals) (hRcells : cells + 1 ≤ R.cells) (hRslots : slots + 6 ≤ R.slots) (hlocks : meth.locks = false)
    (hx : ∀ t : State, s.vm.Alike t.vm → H.size ≤ t.heap.size → (∀ q : Nat, q < H.size → t.heap[q]? = H[q]?) → XC cls s t)
    (hf : ∀ z ∈ locs, free z.base) (hc : cells + 1 ≤ mc) (hs : slots + 6 ≤ ms) :
    W p l e R s m args below meth c H locs cells slots (vx_MQ below Qc XC args s mc ms free) (F0 m pc ls rest) := by
  intro T hT X
  have htr : e.platform.stackTraces = false := (show e.platform.stackTraces = l.stackTraces by rw [X.admits.platform]).trans hl
  have Y := vx_rebase X (R' := { frames := R.frames, locals := R.locals, cells := 1, slots := 6 }) (Nat.le_refl _) (Nat.le_refl _) hRcells hRslots
  obtain ⟨s', hA⟩ : ∃ z, z = (T.setVm s.vm).setFrames (.invoking m args :: below) := ⟨_, rfl⟩
  rw [← hA] at Y
  have hvm : s'.vm = s.vm := by rw [hA]; rfl
  have hhp : s'.heap = H := by rw [hA]; exact hT
  have hW0 : s.WarmedH s'.vm := by rw [hvm]; exact State.WarmedH.refl s
  have hat' : ∀ w ∈ vx_atS own ic cls names, w.before args s' = true := fun w hw => vx_ot_at hW0 hvm.symm (hgood w (List.mem_cons_of_mem _ (List.mem_cons_of_mem _ hw))) (hat w hw)
  have hk' : (Cond.classLink own ik cls).before args s' = true := vx_ot_at hW0 hvm.symm (hgood _ List.mem_cons_self) hk
  have hini' : (Cond.initialized cls).before args s' = true := vx_ot_at hW0 hvm.symm (hgood _ (List.mem_cons_of_mem _ List.mem_cons_self)) hini
  have hU' : vx_Zq Bundle.tN "UNASSIGNED_STACK" Bundle.steD A s' s'.heap := by rw [hhp]; exact vx_Zq.moved hW0.alike (hU.kept hS.2.1)
  have hN' : vx_Zq Bundle.tN "SUPPRESSED_SENTINEL" Bundle.listD A s' s'.heap := by rw [hhp]; exact vx_Zq.moved hW0.alike (hN.kept hS.2.1)
  have h : ∀ w ∈ Bundle.ownAtoms own ic cls names, w.before args s' = true := vx_own hat' (vx_isRefq hU'.1) (vx_isRefq hN'.1) hU'.2.word hN'.2.word
  have hown' : s'.vm.findClass own = some m.cls := by rw [hvm]; exact hown
  have hins : (Cond.instantiable cls 6).before args s' = true := h _ (by simp [Bundle.ownAtoms])
  obtain ⟨vm₁, cX, kX, hfX, hkX, -, -, X₁, st1⟩ := Y.newCold hexec (own := own) (C := cls) (index := ik) (n := 6) hown' hk' hins hini'
    (g := F0 m pc ls rest) rfl (by rw [hb]; exact d0) (Nat.le_refl _) (Nat.le_refl _)
  generalize hT1 : (T.setVm vm₁).pushCell { cls := cX, slots := kX.instanceTypes.map defaultValue, vm := .none } = T1 at X₁ st1
  have hcat : (Value.ref T.heap.size).category = 1 := rfl
  have hcellA : T1.heap[T.heap.size]? = some (freshCell cX kX) := by rw [← hT1]; exact State.heap_pushCell_size _ _
  have d3' : decode c.code (pc + 3) = .ok (.dup, 1) := by rw [hb]; exact d3
  have d4' : decode c.code (pc + 4) = .ok (.ldc_w is, 3) := by rw [hb]; exact d4
  have hstr' : vk_R own is text sa s' := vk_R.warm hW0 hstr
  obtain ⟨U, hsteps, hrun, hend, hW, hsame, ce, hce, hO⟩ := X₁.ctorThrowS hexec htr (own := own) (cls := cls) (names := names) (ic := ic) hown' hcls hnames h (fun x hx => nomatch hx) hfX hkX hcellA (by rw [hhp, hT]; exact Nat.le_refl _) (msg := .ref sa) rfl
    (g := { method := m, pc := pc + 7, locals := ls, stack := .ref sa :: .ref T.heap.size :: .ref T.heap.size :: rest, locked := none }) rfl hsize rfl rfl (rest := rest) rfl
    (by rw [hb]; exact d7) (by rw [hb]; exact d10) hout hRframes (by simp only [List.map_cons, List.sum_cons, hcat]; omega) hlocks
  obtain ⟨f1, f2⟩ := vx_frame hsame
  rw [hhp] at f1 f2
  have hWs : s.WarmedH U.vm := State.WarmedH.trans hW0 hW
  have hcl : s.vm.findClass cls = some ce.cls := by
    have h9 := hO.cls
    rw [hvm] at h9
    exact h9
  have hall : s.sameButNew ({ U with vm := s.vm } : State) locs mc ms := by
    subst hA
    obtain ⟨e1, e2⟩ := hsame
    rw [State.setFrames_setFrames] at e1
    have h2 : (T.setVm s.vm).sameButNew ({ U with vm := s.vm } : State) [] (0 + 1) (0 + 6) := ⟨e1, e2⟩
    have h3 := X.same.trans h2
    rw [List.append_nil] at h3
    exact h3.mono hc hs
  refine ⟨U, ?_, .threw T.heap.size, hrun, hend, Or.inr ⟨T.heap.size, rfl, cls, ce, locs, hx U hWs.alike f1 (fun q hq => f2 q hq (fun z hz => nomatch hz)), hce, hO.vm, hcl, hWs, hall, hf⟩⟩
  refine st1 _ ?_
  show Steps p.tables e below (T1.setTop { method := m, pc := pc + 3, locals := ls, stack := .ref T.heap.size :: rest, locked := none }) _
  jvm_step X₁.here [X₁.here.top, hexec, d3', Value.category]
  exact X₁.ldcStringW hexec (own := own) (text := text) (index := is) (a := sa) hown' hstr'.1 hstr'.2
    (g := { method := m, pc := pc + 4, locals := ls, stack := .ref T.heap.size :: .ref T.heap.size :: rest, locked := none }) rfl d4' _ hsteps
end Ends
section Bodies
variable {l : Launch}
theorem vx_ofW {y : MethodName} {ws ws' : List Cond} {rm : Room} {Pc : Array Value → State → Prop} {Qc : Array Value → State → Outcome → State → Prop} {XC : String → State → State → Prop} {mc ms : Nat} {free : Addr → Prop} {cc : ByteArray} {maxL : Nat} {ret : Option FieldType}
    (hy : plainName y.cls = true) (hw : ws = Cond.code y cc maxL ret :: ws')
    (body : ∀ p e s m args below meth c s₁, BodyLoose p l y (headSpec ws rm) cc maxL ret e s m args below meth c s₁ → c.maxLocals = maxL → (∀ x ∈ c.exceptionTable.toList, False) → Pc args s →
      W p l e (headSpec ws rm).room s m args below meth c s.heap [] 0 0 (vx_MQ below Qc XC args s mc ms free) (entryFrame m args maxL)) : vx_Met l y ws rm Pc Qc XC mc ms free := by
  refine MetFree.of_bodyS (code := cc) (maxLocals := maxL) (ret := ret) hy ?_ ?_
  · intro args s m h hn
    obtain ⟨meth, c, h1, h2, h3, h4, h5, h6, -, -⟩ := Cond.code_spec hn (atoms_spec (ws := ws) h _ (by rw [hw]; exact List.mem_cons_self))
    exact ⟨meth, c, h1, h2, h3, h4, h5, h6⟩
  · intro p e s m args below meth c s₁ B hml hP _
    have hh0 : s₁.heap = s.heap := by rw [B.state]; rfl
    have ht : ∀ x ∈ c.exceptionTable.toList, False := by
      obtain ⟨meth9, c9, h1, h2, -, -, -, -, h7, -⟩ := Cond.code_spec B.named (atoms_spec (ws := ws) B.pre _ (by rw [hw]; exact List.mem_cons_self))
      cases Option.some.inj (h1.symm.trans B.method)
      cases Option.some.inj (h2.symm.trans (Stand.of_body B).code)
      intro x hx
      rw [Array.isEmpty_iff.mp h7] at hx
      cases hx
    obtain ⟨t, a1, o, b1, b2, b3⟩ := body p e s m args below meth c s₁ B hml ht hP s₁ hh0 (Stand.of_body B)
    exact ⟨t, o, a1, b1, b2, b3⟩
/-- the table of a body with handlers -/
theorem vx_table {p : Program} {x y : MethodName} {S : Spec} {cc bytes : ByteArray} {maxL maxL' : Nat} {ret ret' : Option FieldType} {e : Env} {s s₁ : State} {m : MethodId} {args : Array Value} {below : List Frame} {meth : Method} {c : Code} {hh : List (Nat × Nat × Nat × Nat)}
    (B : BodyLoose p l y S cc maxL ret e s m args below meth c s₁) (h : (Cond.codeWith y bytes maxL' ret' hh).before args s = true) : c.exceptionTable.toList = tableOf hh := by
  obtain ⟨m9, meth9, c9, hn9, h1, h2, -, -, h6, -⟩ := Cond.codeWith_spec h
  cases Option.some.inj (hn9.symm.trans B.named)
  cases Option.some.inj (h1.symm.trans B.method)
  cases Option.some.inj (h2.symm.trans (Stand.of_body B).code)
  rw [← h6, table_eq]
end Bodies
end VXA
/-! ===== END ===== -/
/-! ===== BEGIN a static call of a method with an exception table ===== -/
section VXS
variable {p : Program} {l : Launch} {e : Env} {R : Room} {s : State} {m : MethodId} {args : Array Value} {below : List Frame} {meth : Method} {c : Code} {T : State} {H : Heap} {locs : List Loc} {cells slots : Nat}
abbrev vx_CSW (R : Room) (s : State) (args : Array Value) (own : String) (index : Nat) (y : MethodName) (bytes : ByteArray) (maxL : Nat) (ret : Option FieldType) (hh : List (Nat × Nat × Nat × Nat)) (ws : List Cond) (rm : Room) (mc ms n : Nat) : Prop :=
  (rm.cells = mc ∧ rm.slots = ms ∧ rm.frames + 1 ≤ R.frames ∧ 8 + (maxL + 11) + rm.locals ≤ R.locals ∧ (∀ w ∈ ws, ∀ (a' : Array Value) (U : State), s.WarmedH U.vm → w.before a' U = true) ∧ Cond.codeWith y bytes maxL ret hh ∈ ws) ∧
  (Cond.codeWith y bytes maxL ret hh).before args s = true ∧ (Cond.initialized y.cls).before args s = true ∧ (y.cls ≠ "java/lang/invoke/MethodHandle" ∧ y.cls ≠ "java/lang/invoke/VarHandle") ∧
  (∀ sig, parseMethodDescriptor y.desc = some sig → n = sig.parameters.length) ∧ (Cond.methodLink own index y).before args s = true ∧ (Cond.static y).before args s = true
theorem vx_cwSW {own : String} {index maxL mc ms : Nat} {y : MethodName} {bytes : ByteArray} {ret : Option FieldType} {hh : List (Nat × Nat × Nat × Nat)} {Ts ws ws' : List Cond} {rm : Room} (n : Nat) (ht : ∀ w ∈ Ts, w.before args s = true) (hT : GoodIn Ts (va_wsS own index y ws)) (hw : ws = Cond.codeWith y bytes maxL ret hh :: ws') (hrc : rm.cells = mc) (hrs : rm.slots = ms)
    (hd : y.cls ≠ "java/lang/invoke/MethodHandle" ∧ y.cls ≠ "java/lang/invoke/VarHandle" ∧ (parseMethodDescriptor y.desc).map (fun d => d.parameters.length) = some n) (hR : rm.frames + 1 ≤ R.frames ∧ 8 + (maxL + 11) + rm.locals ≤ R.locals) :
    vx_CSW R s args own index y bytes maxL ret hh ws rm mc ms n := by
  have ok : ∀ w ∈ va_wsS own index y ws, w.before args s = true := fun w h => ht w (hT w h).1
  have hG : GoodIn Ts ws := fun w h => hT w (by unfold va_wsS; exact List.mem_append_right _ h)
  have hc : Cond.codeWith y bytes maxL ret hh ∈ ws := by rw [hw]; exact List.mem_cons_self
  refine ⟨⟨hrc, hrs, hR.1, hR.2, pay_in ht hG, hc⟩, ht _ (hG _ hc).1, ok _ (by simp [va_wsS]), ⟨hd.1, hd.2.1⟩, fun sig h => ?_, ok _ (by simp [va_wsS]), ok _ (by simp [va_wsS])⟩
  have h2 := hd.2.2
  rw [h] at h2
  exact (Option.some.inj h2).symm
theorem vx_callSW (X : Stand p l e R s m args below meth c T locs cells slots) (hexec : p.tables.exec = Jvm.exec) {own : String} {index : Nat} {y : MethodName} {bytes : ByteArray} {maxL : Nat} {ret : Option FieldType} {hh : List (Nat × Nat × Nat × Nat)}
    (hown : s.vm.findClass own = some m.cls) (hlink : (Cond.methodLink own index y).before args s = true) (hstat : (Cond.static y).before args s = true) (hinit : (Cond.initialized y.cls).before args s = true)
    (hcode : (Cond.codeWith y bytes maxL ret hh).before args s = true) (hy : y.cls ≠ "java/lang/invoke/MethodHandle" ∧ y.cls ≠ "java/lang/invoke/VarHandle")
    {W9 : Nat} {Pre : Pt → Array Value → Prop} {Post : Pt → Array Value → Option Value → Pt → Prop} (hK : Back l R p e below s args y 3 W9 Pre Post)
    {g : JFrame} (hg : g.method = m) (hsize : g.locals.size = c.maxLocals) {argsL rest : List Value} (hlen : ∀ sig, parseMethodDescriptor y.desc = some sig → argsL.length = sig.parameters.length)
    (hstack : g.stack = argsL.reverse ++ rest) (hW : 2 * g.monitorRoom + (rest.map fun v => v.category).sum ≤ W9) (hdg : decode c.code g.pc = .ok (.invokestatic index, 3))
    (hpre : ∀ vm₁, s.WarmedH vm₁ → Pre ⟨T.setVm vm₁, locs, cells, slots⟩ argsL.toArray) :
    ∃ (v : Option Value) (vm₁ : Vm) (B : Pt), s.WarmedH vm₁ ∧ Stand p l e R s m args below meth c B.U B.locs B.cells B.slots ∧ Post ⟨T.setVm vm₁, locs, cells, slots⟩ argsL.toArray v B ∧
      ∀ target, Steps p.tables e below (B.U.setTop { g with pc := g.pc + 3, stack := v.toList ++ rest }) target → Steps p.tables e below (T.setTop g) target := by
  obtain ⟨mk, methM, cM, hnamed, hmethM, -, -, -, -, -, -, hsigM⟩ := Cond.codeWith_spec hcode
  have hstatic : methM.isStatic = true := Cond.static_spec hnamed hmethM hstat
  obtain ⟨kP, hkP, -⟩ := className_of_methodNamed hnamed
  have hinitP : kP.init = .initialized := Cond.initialized_spec (findClass_of_methodNamed hnamed) hkP hinit
  obtain ⟨vm₁, X₁, hstep₁⟩ := X.invokestatic hexec hown hlink hnamed hmethM hstatic hkP hinitP hy (g := g) hg (argsL := argsL) (rest := rest) (hlen _ hsigM) hstack hdg
  obtain ⟨v, B, X', hpost, hsteps⟩ := hK m meth c ⟨T.setVm vm₁, locs, cells, slots⟩ { g with stack := rest } (.invokestatic index) mk argsL.toArray X₁ hg hsize hdg hW (X₁.named hnamed) (hpre vm₁ X₁.warmed)
  exact ⟨v, vm₁, B, X₁.warmed, X', hpost, fun target h => hstep₁ _ fun acts => by rw [doInvoke_state]; exact hsteps.trans h⟩
theorem vx_runSW {y : MethodName} {bytes cc : ByteArray} {maxL nL mc ms n index : Nat} {ret : Option FieldType} {hh : List (Nat × Nat × Nat × Nat)} {ws : List Cond} {rm : Room} {Pc : Array Value → State → Prop} {Qc : Array Value → State → Outcome → State → Prop} {free : Addr → Prop} {Ts : List Cond} {own : String} {As rest : List Value} {g : JFrame}
    (S : CallFix p m c cc nL s args Ts own) (hM : Met l y ws rm Pc Qc mc ms free) (cw : vx_CSW R s args own index y bytes maxL ret hh ws rm mc ms n) (hp : PreS s H Pc As)
    (hg : g.method = m) (hn : As.length = n) (hsize : g.locals.size = nL) (hstack : g.stack = As.reverse ++ rest) (hW : 2 * g.monitorRoom + (rest.map fun v => v.category).sum ≤ 8) (hdg : decode cc g.pc = .ok (.invokestatic index, 3)) (hf : cells + mc ≤ R.cells ∧ slots + ms ≤ R.slots) :
    va_Run p l e R s m args below meth c H locs cells slots mc ms g rest (Qc As.toArray) (free) := by
  obtain ⟨⟨hrc, hrs, hfr, hlo, hws, hcw⟩, hcode, hini, hy, hlen, hl, hstt⟩ := cw
  have hK : Back l R p e below s args y 3 8 (PreOf R mc ms Pc) (PostOf Qc mc ms free) := va_backW (hh := hh) (bytes := bytes) (maxL := maxL) (ret := ret) hM hp.1 hrc hrs hfr hlo hws hcw (fun a' U hW => word_at hW (Or.inl (by first | rfl | simp [Cond.onTables, Cond.keeps, Cond.steady])) hini)
  obtain ⟨hx, hb, hml, ho, -⟩ := S
  intro T hT X
  obtain ⟨v, vm₁, ⟨U', l2, c2, s2⟩, hW₁, X', ⟨g', mk, t, L, e1, e2, hq, h1, hL, h2, h3⟩, st⟩ := vx_callSW X hx (hh := hh) (bytes := bytes) (maxL := maxL) (ret := ret) ho hl hstt hini hcode hy hK hg (hsize.trans hml.symm) (argsL := As) (rest := rest) (fun sig h => hn.trans (hlen sig h)) hstack hW (by rw [hb]; exact hdg)
    (fun vm₁ hW₁ => ⟨hf.1, hf.2, hp.2 (T.setVm vm₁) hT hW₁⟩)
  dsimp only [Pt.U, Pt.locs, Pt.cells, Pt.slots] at X' e1 e2 h1 h2 h3 st
  subst h1; subst h2; subst h3
  exact ⟨v, (T.setVm vm₁).calling g' mk As.toArray, t, U', L, hT, X', hL, e1, e2, hq, st⟩
/-- a thing of a world lies in the heap -/
theorem vx_lt {D : va_G} {cl : List vw_C} {ws : va_W} {H1 : Heap} (h : va_P D cl ws H1) {k : Nat} {q : Nat × va_E} (hk : ws[k]? = some q) : q.1 < H1.size := (h k q hk).lt
end VXS
/-! ===== END ===== -/
/-! ===== BEGIN methods with a table of their own: called by a name, returning or throwing ===== -/
section VXH
/-! vx_backW, vx_callVX, vx_callSX, vx_callVW, vx_runVW, vx_runVX, vx_runSX, vx_ofWH follow the same proofs as their sisters above (Free/Laws.lean, Shelf42/LK1.lean); vx_outP calls Shelf42/NT130.lean (outThrough). -/
section
variable {l : Launch} {R : Room} {p : Program} {e : Env} {below : List Frame} {s : State} {sargs : Array Value} {y : MethodName} {len W9 : Nat}
theorem vx_backW {ws : List Cond} {rm : Room} {Pc : Array Value → State → Prop} {Qc : Array Value → State → Outcome → State → Prop} {XC : String → State → State → Prop} {mc ms : Nat} {free : Addr → Prop} {bytes : ByteArray} {maxL : Nat} {ret : Option FieldType} {hh : List (Nat × Nat × Nat × Nat)}
    (hM : vx_Met l y ws rm Pc Qc XC mc ms free) (hblind : FrameBlind Pc) (hrc : rm.cells = mc) (hrs : rm.slots = ms)
    (hframes : rm.frames + 1 ≤ R.frames) (hlocals : W9 + (maxL + 11) + rm.locals ≤ R.locals)
    (hws : ∀ w ∈ ws, ∀ a' U, s.WarmedH U.vm → w.before a' U = true) (hcode : Cond.codeWith y bytes maxL ret hh ∈ ws) (hinit : ∀ a' U, s.WarmedH U.vm → (Cond.initialized y.cls).before a' U = true) :
    vx_Back l R p e below s sargs y len W9 (PreOf R mc ms Pc) (PostOf Qc mc ms free) (vx_Post XC mc ms free) := by
  intro m meth c A g ig mk a X hg hsize hdg hW hn hp
  have h1 : (headSpec ws rm).pre.before a A.U = true := atoms_intro fun w hw => hws w hw _ _ X.warmed
  have h2 : (Cond.codeWith y bytes maxL ret hh).before a A.U = true := hws _ hcode _ _ X.warmed
  have h3 : (Cond.initialized y.cls).before a A.U = true := hinit _ _ X.warmed
  have h4 : A.cells + (headSpec ws rm).room.cells ≤ R.cells := by rw [show (headSpec ws rm).room.cells = mc from hrc]; exact hp.1
  have h5 : A.slots + (headSpec ws rm).room.slots ≤ R.slots := by rw [show (headSpec ws rm).room.slots = ms from hrs]; exact hp.2.1
  have hPc : Pc a (A.U.calling g mk a) := hblind _ _ _ _ hp.2.2
  obtain ⟨U, Ls, c0, s0⟩ := A
  dsimp only [Pt.U, Pt.locs, Pt.cells, Pt.slots] at h1 h2 h3 h4 h5 X hn hPc ⊢
  obtain ⟨m9, methY, cY, hn9, hmY, hcY, -, hlY, -⟩ := Cond.codeWith_spec h2
  cases Option.some.inj (hn9.symm.trans hn)
  obtain ⟨kY, hkY, -⟩ := className_of_methodNamed hn
  have hinitY : kY.init = .initialized := Cond.initialized_spec (findClass_of_methodNamed hn) hkY h3
  have h : At U g.method c below := by rw [hg]; exact X.here
  have hlocals9 : W9 + (maxL + 11) + (headSpec ws rm).room.locals ≤ R.locals := hlocals
  have happ : (headSpec ws rm).appliesLoose y e.platform (U.calling g mk a) = true :=
    Spec.appliesLoose_calling (g := g) h hdg hn hkY hinitY
      (X.room_calling (g := g) (R' := (headSpec ws rm).room) hsize hmY hcY hframes (by rw [hlY]; omega) h4 h5) h1
  obtain ⟨mid, hmid⟩ := h.above
  have hfr : (U.setTop g).frames = (.java g :: mid) ++ below := by rw [State.frames_setTop' g h.top, hmid]; rfl
  obtain ⟨o, s₂, hsteps, -, hend, hq⟩ := Steps.callFree hM p X.admits X.cas X.clock (acts := []) hfr happ hPc trivial
  have hq' : vx_Q Qc XC mc ms free a (U.calling g mk a) o s₂ := hq
  rw [State.frames_setTop' g h.top] at hend
  obtain ⟨g₀, hg0⟩ := Option.isSome_iff_exists.mp h.top
  obtain ⟨r, hr⟩ := State.topJava?_eq_some.mp hg0
  have hr' : (({ U with heap := s₂.heap, slotsUsed := s₂.slotsUsed } : State).setVm s₂.vm).frames = .java g₀ :: r := hr
  rcases hq' with ⟨hqc, L, hfe, hL⟩ | ⟨q, rfl, E, ce, L, hx, hce, hcv, hcl, hW₂, hsm, hL⟩
  · obtain ⟨⟨v, rfl⟩, hW₂, e2, q2, q3, q4, q5, q6⟩ := id hfe
    have e3 : s₂ = ({ (U.calling g mk a).setFrames s₂.frames with heap := s₂.heap, slotsUsed := s₂.slotsUsed } : State).setVm s₂.vm := by
      have : s₂ = ({ s₂ with vm := (U.calling g mk a).vm } : State).setVm s₂.vm := rfl
      rw [e2] at this
      exact this
    obtain ⟨c₂, i₂, len₂, hc₂, hd₂, hf₂⟩ := hend
    have hW' : U.WarmedH s₂.vm := hW₂
    have hcc : c₂ = c := by
      have h1 : s₂.code? g.method = U.code? g.method := by
        rw [State.code?_eq, State.code?_eq, hW'.alike.method?]
      exact Option.some.inj (hc₂.symm.trans (h1.trans h.code))
    subst hcc
    have hlen : len₂ = len := by rw [hdg] at hd₂; cases hd₂; rfl
    subst hlen
    have hs₂ : s₂ = (({ U with heap := s₂.heap, slotsUsed := s₂.slotsUsed } : State).setVm s₂.vm).setTop { g with pc := g.pc + len₂, stack := v.toList ++ g.stack } := by
      refine e3.trans ?_
      rw [hf₂, State.calling_eq h.top, State.setFrames_setFrames, State.setTop_of_frames _ hr', hr]
      rfl
    have hsame : U.sameButNew ({ U with heap := s₂.heap, slotsUsed := s₂.slotsUsed } : State) L mc ms := by
      refine ⟨?_, q2, q3, q4, q5, q6⟩
      obtain ⟨t, ht, -⟩ := State.frames_cons hr
      show ({ U with heap := s₂.heap, slotsUsed := s₂.slotsUsed } : State) = { U.setFrames U.frames with heap := s₂.heap, slotsUsed := s₂.slotsUsed }
      rw [State.setFrames_self ht]
    subst hg
    refine Or.inl ⟨v, ⟨(({ U with heap := s₂.heap, slotsUsed := s₂.slotsUsed } : State).setVm s₂.vm), Ls ++ L, c0 + mc, s0 + ms⟩,
      ⟨X.admits, X.cas, X.clock, X.frames, X.room, X.hears, X.method, X.code, (X.here.setHeapUsed s₂.heap s₂.slotsUsed).setVm hW'.alike, X.tail, State.WarmedH.trans X.warmed hW', X.limits, X.bytes, X.same.trans (hsame.setVm s.vm)⟩,
      ⟨g, mk, s₂, L, rfl, rfl, hqc, rfl, hL, rfl, rfl⟩, ?_⟩
    show Steps p.tables e below _ ((({ U with heap := s₂.heap, slotsUsed := s₂.slotsUsed } : State).setVm s₂.vm).setTop { g with pc := g.pc + len₂, stack := v.toList ++ g.stack })
    rw [← hs₂]
    exact hsteps
  · obtain ⟨e2, q2, q3, q4, q5, q6⟩ := id hsm
    have e3 : s₂ = ({ (U.calling g mk a).setFrames s₂.frames with heap := s₂.heap, slotsUsed := s₂.slotsUsed } : State).setVm s₂.vm := by
      have : s₂ = ({ s₂ with vm := (U.calling g mk a).vm } : State).setVm s₂.vm := rfl
      rw [e2] at this
      exact this
    have hf₂ : s₂.frames = .throwing q :: .java g :: U.frames.tail := hend
    have hW' : U.WarmedH s₂.vm := hW₂
    have hs₂ : s₂ = ((({ U with heap := s₂.heap, slotsUsed := s₂.slotsUsed } : State).setVm s₂.vm).setTop g).pushFrame (.throwing q) := by
      refine e3.trans ?_
      rw [hf₂, State.calling_eq h.top, State.setFrames_setFrames, State.pushFrame, State.frames_setTop _ hr', State.setTop_of_frames _ hr', State.setFrames_setFrames, hr]
      rfl
    have hsame : U.sameButNew ({ U with heap := s₂.heap, slotsUsed := s₂.slotsUsed } : State) L mc ms := by
      refine ⟨?_, q2, q3, q4, q5, q6⟩
      obtain ⟨t, ht, -⟩ := State.frames_cons hr
      show ({ U with heap := s₂.heap, slotsUsed := s₂.slotsUsed } : State) = { U.setFrames U.frames with heap := s₂.heap, slotsUsed := s₂.slotsUsed }
      rw [State.setFrames_self ht]
    subst hg
    refine Or.inr ⟨q, ⟨(({ U with heap := s₂.heap, slotsUsed := s₂.slotsUsed } : State).setVm s₂.vm), Ls ++ L, c0 + mc, s0 + ms⟩,
      ⟨X.admits, X.cas, X.clock, X.frames, X.room, X.hears, X.method, X.code, (X.here.setHeapUsed s₂.heap s₂.slotsUsed).setVm hW'.alike, X.tail, State.WarmedH.trans X.warmed hW', X.limits, X.bytes, X.same.trans (hsame.setVm s.vm)⟩,
      ⟨g, mk, s₂, L, E, ce, rfl, rfl, hx, hce, hcv, hcl, rfl, hL, rfl, rfl⟩, ?_⟩
    show Steps p.tables e below _ (((({ U with heap := s₂.heap, slotsUsed := s₂.slotsUsed } : State).setVm s₂.vm).setTop g).pushFrame (.throwing q))
    rw [← hs₂]
    exact hsteps
end
variable {p : Program} {l : Launch} {e : Env} {R : Room} {s : State} {m : MethodId} {args : Array Value} {below : List Frame} {meth : Method} {c : Code} {T : State} {H : Heap} {locs : List Loc} {cells slots : Nat}
theorem vx_callVX (X : Stand p l e R s m args below meth c T locs cells slots) (hexec : p.tables.exec = Jvm.exec) {own C : String} {index : Nat} {y : MethodName} {bytes : ByteArray} {maxL : Nat} {ret : Option FieldType} {hh : List (Nat × Nat × Nat × Nat)}
    (hown : s.vm.findClass own = some m.cls) (hlink : (Cond.methodLink own index y).before args s = true) (hinst : (Cond.instanceMethod y).before args s = true) (hsel : (Cond.selects C y y).before args s = true)
    (hcode : (Cond.codeWith y bytes maxL ret hh).before args s = true) (hy : y.cls ≠ "java/lang/invoke/MethodHandle" ∧ y.cls ≠ "java/lang/invoke/VarHandle")
    {W9 : Nat} {Pre : Pt → Array Value → Prop} {Post : Pt → Array Value → Option Value → Pt → Prop} {PostX : Pt → Array Value → Addr → Pt → Prop} (hK : vx_Back l R p e below s args y 3 W9 Pre Post PostX)
    {b : Addr} {cellB : Cell} (hcell : T.heap[b]? = some cellB) (hobj : cellB.vm.isStatics = false) (hcls : s.vm.findClass C = some cellB.cls)
    {g : JFrame} (hg : g.method = m) (hsize : g.locals.size = c.maxLocals) {argsL rest : List Value} (hlen : ∀ sig, parseMethodDescriptor y.desc = some sig → argsL.length = sig.parameters.length)
    (hstack : g.stack = argsL.reverse ++ .ref b :: rest) (hW : 2 * g.monitorRoom + (rest.map fun v => v.category).sum ≤ W9) (hdg : decode c.code g.pc = .ok (.invokevirtual index, 3))
    (hpre : ∀ vm₁, s.WarmedH vm₁ → Pre ⟨T.setVm vm₁, locs, cells, slots⟩ (Value.ref b :: argsL).toArray) :
    (∃ (v : Option Value) (vm₁ : Vm) (B : Pt), s.WarmedH vm₁ ∧ Stand p l e R s m args below meth c B.U B.locs B.cells B.slots ∧ Post ⟨T.setVm vm₁, locs, cells, slots⟩ (Value.ref b :: argsL).toArray v B ∧
      ∀ target, Steps p.tables e below (B.U.setTop { g with pc := g.pc + 3, stack := v.toList ++ rest }) target → Steps p.tables e below (T.setTop g) target) ∨
    (∃ (q : Addr) (vm₁ : Vm) (B : Pt), s.WarmedH vm₁ ∧ Stand p l e R s m args below meth c B.U B.locs B.cells B.slots ∧ PostX ⟨T.setVm vm₁, locs, cells, slots⟩ (Value.ref b :: argsL).toArray q B ∧
      Steps p.tables e below (T.setTop g) ((B.U.setTop { g with stack := rest }).pushFrame (.throwing q))) := by
  obtain ⟨mk, methM, hnamed, hmethM, hstM, habM⟩ := Cond.instanceMethod_spec hinst
  obtain ⟨m8, methM', cM, hn8, hmethM', -, -, -, -, -, -, hsigM⟩ := Cond.codeWith_spec hcode
  cases Option.some.inj (hn8.symm.trans hnamed)
  cases hmethM.symm.trans hmethM'
  obtain ⟨c2, r2, m2, q1, q2, q3, q4, kP, hkP, hkPi⟩ := Cond.selects_spec hsel
  cases hcls.symm.trans q1
  cases (State.methodFound?_of_named hnamed hy).symm.trans q2
  cases hnamed.symm.trans q3
  have hselP : selectMethod e.platform s.vm cellB.cls mk = .method mk := by rw [Launch.admits_selectMethod X.admits]; exact q4
  obtain ⟨vm₁, X₁, hstep₁⟩ := X.invokevirtual hexec hown hlink hnamed hmethM hstM hkP hkPi hy (a := b) (cell := cellB) hcell
    (fun z h => by rw [h] at hobj; cases hobj) hselP hmethM habM hkP hkPi (g := g) hg (argsL := argsL) (rest := rest) (hlen _ hsigM) hstack hdg
  rcases hK m meth c ⟨T.setVm vm₁, locs, cells, slots⟩ { g with stack := rest } (.invokevirtual index) mk (Value.ref b :: argsL).toArray X₁ hg hsize hdg hW (X₁.named hnamed) (hpre vm₁ X₁.warmed) with ⟨v, B, X', hpost, hsteps⟩ | ⟨q, B, X', hpost, hsteps⟩
  · exact Or.inl ⟨v, vm₁, B, X₁.warmed, X', hpost, fun target h => hstep₁ _ fun acts => by rw [doInvoke_state]; exact hsteps.trans h⟩
  · exact Or.inr ⟨q, vm₁, B, X₁.warmed, X', hpost, hstep₁ _ fun acts => by rw [doInvoke_state]; exact hsteps⟩
theorem vx_callSX (X : Stand p l e R s m args below meth c T locs cells slots) (hexec : p.tables.exec = Jvm.exec) {own : String} {index : Nat} {y : MethodName} {bytes : ByteArray} {maxL : Nat} {ret : Option FieldType} {hh : List (Nat × Nat × Nat × Nat)}
    (hown : s.vm.findClass own = some m.cls) (hlink : (Cond.methodLink own index y).before args s = true) (hstat : (Cond.static y).before args s = true) (hinit : (Cond.initialized y.cls).before args s = true)
    (hcode : (Cond.codeWith y bytes maxL ret hh).before args s = true) (hy : y.cls ≠ "java/lang/invoke/MethodHandle" ∧ y.cls ≠ "java/lang/invoke/VarHandle")
    {W9 : Nat} {Pre : Pt → Array Value → Prop} {Post : Pt → Array Value → Option Value → Pt → Prop} {PostX : Pt → Array Value → Addr → Pt → Prop} (hK : vx_Back l R p e below s args y 3 W9 Pre Post PostX)
    {g : JFrame} (hg : g.method = m) (hsize : g.locals.size = c.maxLocals) {argsL rest : List Value} (hlen : ∀ sig, parseMethodDescriptor y.desc = some sig → argsL.length = sig.parameters.length)
    (hstack : g.stack = argsL.reverse ++ rest) (hW : 2 * g.monitorRoom + (rest.map fun v => v.category).sum ≤ W9) (hdg : decode c.code g.pc = .ok (.invokestatic index, 3))
    (hpre : ∀ vm₁, s.WarmedH vm₁ → Pre ⟨T.setVm vm₁, locs, cells, slots⟩ argsL.toArray) :
    (∃ (v : Option Value) (vm₁ : Vm) (B : Pt), s.WarmedH vm₁ ∧ Stand p l e R s m args below meth c B.U B.locs B.cells B.slots ∧ Post ⟨T.setVm vm₁, locs, cells, slots⟩ argsL.toArray v B ∧
      ∀ target, Steps p.tables e below (B.U.setTop { g with pc := g.pc + 3, stack := v.toList ++ rest }) target → Steps p.tables e below (T.setTop g) target) ∨
    (∃ (q : Addr) (vm₁ : Vm) (B : Pt), s.WarmedH vm₁ ∧ Stand p l e R s m args below meth c B.U B.locs B.cells B.slots ∧ PostX ⟨T.setVm vm₁, locs, cells, slots⟩ argsL.toArray q B ∧
      Steps p.tables e below (T.setTop g) ((B.U.setTop { g with stack := rest }).pushFrame (.throwing q))) := by
  obtain ⟨mk, methM, cM, hnamed, hmethM, -, -, -, -, -, -, hsigM⟩ := Cond.codeWith_spec hcode
  have hstatic : methM.isStatic = true := Cond.static_spec hnamed hmethM hstat
  obtain ⟨kP, hkP, -⟩ := className_of_methodNamed hnamed
  have hinitP : kP.init = .initialized := Cond.initialized_spec (findClass_of_methodNamed hnamed) hkP hinit
  obtain ⟨vm₁, X₁, hstep₁⟩ := X.invokestatic hexec hown hlink hnamed hmethM hstatic hkP hinitP hy (g := g) hg (argsL := argsL) (rest := rest) (hlen _ hsigM) hstack hdg
  rcases hK m meth c ⟨T.setVm vm₁, locs, cells, slots⟩ { g with stack := rest } (.invokestatic index) mk argsL.toArray X₁ hg hsize hdg hW (X₁.named hnamed) (hpre vm₁ X₁.warmed) with ⟨v, B, X', hpost, hsteps⟩ | ⟨q, B, X', hpost, hsteps⟩
  · exact Or.inl ⟨v, vm₁, B, X₁.warmed, X', hpost, fun target h => hstep₁ _ fun acts => by rw [doInvoke_state]; exact hsteps.trans h⟩
  · exact Or.inr ⟨q, vm₁, B, X₁.warmed, X', hpost, hstep₁ _ fun acts => by rw [doInvoke_state]; exact hsteps⟩
theorem vx_callVW (X : Stand p l e R s m args below meth c T locs cells slots) (hexec : p.tables.exec = Jvm.exec) {own C : String} {index : Nat} {y : MethodName} {bytes : ByteArray} {maxL : Nat} {ret : Option FieldType} {hh : List (Nat × Nat × Nat × Nat)}
    (hown : s.vm.findClass own = some m.cls) (hlink : (Cond.methodLink own index y).before args s = true) (hinst : (Cond.instanceMethod y).before args s = true) (hsel : (Cond.selects C y y).before args s = true)
    (hcode : (Cond.codeWith y bytes maxL ret hh).before args s = true) (hy : y.cls ≠ "java/lang/invoke/MethodHandle" ∧ y.cls ≠ "java/lang/invoke/VarHandle")
    {W9 : Nat} {Pre : Pt → Array Value → Prop} {Post : Pt → Array Value → Option Value → Pt → Prop} (hK : Back l R p e below s args y 3 W9 Pre Post)
    {b : Addr} {cellB : Cell} (hcell : T.heap[b]? = some cellB) (hobj : cellB.vm.isStatics = false) (hcls : s.vm.findClass C = some cellB.cls)
    {g : JFrame} (hg : g.method = m) (hsize : g.locals.size = c.maxLocals) {argsL rest : List Value} (hlen : ∀ sig, parseMethodDescriptor y.desc = some sig → argsL.length = sig.parameters.length)
    (hstack : g.stack = argsL.reverse ++ .ref b :: rest) (hW : 2 * g.monitorRoom + (rest.map fun v => v.category).sum ≤ W9) (hdg : decode c.code g.pc = .ok (.invokevirtual index, 3))
    (hpre : ∀ vm₁, s.WarmedH vm₁ → Pre ⟨T.setVm vm₁, locs, cells, slots⟩ (Value.ref b :: argsL).toArray) :
    ∃ (v : Option Value) (vm₁ : Vm) (B : Pt), s.WarmedH vm₁ ∧ Stand p l e R s m args below meth c B.U B.locs B.cells B.slots ∧ Post ⟨T.setVm vm₁, locs, cells, slots⟩ (Value.ref b :: argsL).toArray v B ∧
      ∀ target, Steps p.tables e below (B.U.setTop { g with pc := g.pc + 3, stack := v.toList ++ rest }) target → Steps p.tables e below (T.setTop g) target := by
  obtain ⟨mk, methM, hnamed, hmethM, hstM, habM⟩ := Cond.instanceMethod_spec hinst
  obtain ⟨m8, methM', cM, hn8, hmethM', -, -, -, -, -, -, hsigM⟩ := Cond.codeWith_spec hcode
  cases Option.some.inj (hn8.symm.trans hnamed)
  cases hmethM.symm.trans hmethM'
  obtain ⟨c2, r2, m2, q1, q2, q3, q4, kP, hkP, hkPi⟩ := Cond.selects_spec hsel
  cases hcls.symm.trans q1
  cases (State.methodFound?_of_named hnamed hy).symm.trans q2
  cases hnamed.symm.trans q3
  have hselP : selectMethod e.platform s.vm cellB.cls mk = .method mk := by rw [Launch.admits_selectMethod X.admits]; exact q4
  obtain ⟨vm₁, X₁, hstep₁⟩ := X.invokevirtual hexec hown hlink hnamed hmethM hstM hkP hkPi hy (a := b) (cell := cellB) hcell
    (fun z h => by rw [h] at hobj; cases hobj) hselP hmethM habM hkP hkPi (g := g) hg (argsL := argsL) (rest := rest) (hlen _ hsigM) hstack hdg
  obtain ⟨v, B, X', hpost, hsteps⟩ := hK m meth c ⟨T.setVm vm₁, locs, cells, slots⟩ { g with stack := rest } (.invokevirtual index) mk (Value.ref b :: argsL).toArray X₁ hg hsize hdg hW (X₁.named hnamed) (hpre vm₁ X₁.warmed)
  exact ⟨v, vm₁, B, X₁.warmed, X', hpost, fun target h => hstep₁ _ fun acts => by rw [doInvoke_state]; exact hsteps.trans h⟩
abbrev vx_CVW (R : Room) (s : State) (args : Array Value) (own C : String) (index : Nat) (y : MethodName) (bytes : ByteArray) (maxL : Nat) (ret : Option FieldType) (hh : List (Nat × Nat × Nat × Nat)) (ws : List Cond) (rm : Room) (mc ms n : Nat) : Prop :=
  (rm.cells = mc ∧ rm.slots = ms ∧ rm.frames + 1 ≤ R.frames ∧ 8 + (maxL + 11) + rm.locals ≤ R.locals ∧ (∀ w ∈ ws, ∀ (a' : Array Value) (U : State), s.WarmedH U.vm → w.before a' U = true) ∧ Cond.codeWith y bytes maxL ret hh ∈ ws) ∧
  (Cond.codeWith y bytes maxL ret hh).before args s = true ∧ (Cond.initialized y.cls).before args s = true ∧ (y.cls ≠ "java/lang/invoke/MethodHandle" ∧ y.cls ≠ "java/lang/invoke/VarHandle") ∧
  (∀ sig, parseMethodDescriptor y.desc = some sig → n = sig.parameters.length) ∧ (Cond.methodLink own index y).before args s = true ∧ (Cond.instanceMethod y).before args s = true ∧ (Cond.selects C y y).before args s = true
theorem vx_cwVW {own C : String} {index maxL mc ms : Nat} {y : MethodName} {bytes : ByteArray} {ret : Option FieldType} {hh : List (Nat × Nat × Nat × Nat)} {Ts ws ws' : List Cond} {rm : Room} (n : Nat) (ht : ∀ w ∈ Ts, w.before args s = true) (hT : GoodIn Ts (wsV own index C y ws)) (hw : ws = Cond.codeWith y bytes maxL ret hh :: ws') (hrc : rm.cells = mc) (hrs : rm.slots = ms)
    (hd : y.cls = C ∧ y.cls ≠ "java/lang/invoke/MethodHandle" ∧ y.cls ≠ "java/lang/invoke/VarHandle" ∧ (parseMethodDescriptor y.desc).map (fun d => d.parameters.length) = some n) (hR : rm.frames + 1 ≤ R.frames ∧ 8 + (maxL + 11) + rm.locals ≤ R.locals) :
    vx_CVW R s args own C index y bytes maxL ret hh ws rm mc ms n := by
  obtain ⟨hC, hd⟩ := hd
  subst hC
  have ok : ∀ w ∈ wsV own index y.cls y ws, w.before args s = true := fun w h => ht w (hT w h).1
  have hG : GoodIn Ts ws := fun w h => hT w (by unfold wsV; exact List.mem_append_right _ h)
  have hc : Cond.codeWith y bytes maxL ret hh ∈ ws := by rw [hw]; exact List.mem_cons_self
  refine ⟨⟨hrc, hrs, hR.1, hR.2, pay_in ht hG, hc⟩, ht _ (hG _ hc).1, ok _ (by simp [wsV]), ⟨hd.1, hd.2.1⟩, fun sig h => ?_, ok _ (by simp [wsV]), ok _ (by simp [wsV]), ok _ (by simp [wsV])⟩
  have h2 := hd.2.2
  rw [h] at h2
  exact (Option.some.inj h2).symm
theorem vx_runVW {y : MethodName} {bytes cc : ByteArray} {maxL nL mc ms n index : Nat} {ret : Option FieldType} {hh : List (Nat × Nat × Nat × Nat)} {ws : List Cond} {rm : Room} {Pc : Array Value → State → Prop} {Qc : Array Value → State → Outcome → State → Prop} {free : Addr → Prop} {Ts : List Cond} {own C : String} {b : Addr} {As rest : List Value} {g : JFrame}
    (S : CallFix p m c cc nL s args Ts own) (hM : Met l y ws rm Pc Qc mc ms free) (cw : vx_CVW R s args own C index y bytes maxL ret hh ws rm mc ms n) (hp : PreV s H C b Pc As)
    (hg : g.method = m) (hn : As.length = n) (hsize : g.locals.size = nL) (hstack : g.stack = As.reverse ++ .ref b :: rest) (hW : 2 * g.monitorRoom + (rest.map fun v => v.category).sum ≤ 8) (hdg : decode cc g.pc = .ok (.invokevirtual index, 3)) (hf : cells + mc ≤ R.cells ∧ slots + ms ≤ R.slots) :
    va_Run p l e R s m args below meth c H locs cells slots mc ms g rest (Qc (Value.ref b :: As).toArray) free := by
  obtain ⟨⟨hrc, hrs, hfr, hlo, hws, hcw⟩, hcode, hini, hy, hlen, hl, hin, hse⟩ := cw
  have hK : Back l R p e below s args y 3 8 (PreOf R mc ms Pc) (PostOf Qc mc ms free) := va_backW (hh := hh) (bytes := bytes) (maxL := maxL) (ret := ret) hM hp.1 hrc hrs hfr hlo hws hcw (fun a' U hW => word_at hW (Or.inl (by first | rfl | simp [Cond.onTables, Cond.keeps, Cond.steady])) hini)
  obtain ⟨hx, hb, hml, ho, -⟩ := S
  obtain ⟨-, ⟨cellB, hcB, hoB, hclB⟩, hPc⟩ := hp
  intro T hT X
  obtain ⟨v, vm₁, ⟨U', l2, c2, s2⟩, hW₁, X', ⟨g', mk, t, L, e1, e2, hq, h1, hL, h2, h3⟩, st⟩ := vx_callVW X hx (C := C) (hh := hh) (bytes := bytes) (maxL := maxL) (ret := ret) ho hl hin hse hcode hy hK (by rw [hT]; exact hcB) hoB hclB hg (hsize.trans hml.symm) (argsL := As) (rest := rest) (fun sig h => hn.trans (hlen sig h)) hstack hW (by rw [hb]; exact hdg)
    (fun vm₁ hW₁ => ⟨hf.1, hf.2, hPc (T.setVm vm₁) hT hW₁⟩)
  dsimp only [Pt.U, Pt.locs, Pt.cells, Pt.slots] at X' e1 e2 h1 h2 h3 st
  subst h1; subst h2; subst h3
  exact ⟨v, (T.setVm vm₁).calling g' mk (Value.ref b :: As).toArray, t, U', L, hT, X', hL, e1, e2, hq, st⟩
section
variable {y : MethodName} {bytes cc : ByteArray} {maxL nL mc ms n index : Nat} {ret : Option FieldType} {ws : List Cond} {rm : Room} {Pc : Array Value → State → Prop} {Qc : Array Value → State → Outcome → State → Prop} {XC : String → State → State → Prop} {free : Addr → Prop} {Ts : List Cond} {own C : String} {b : Addr} {As rest : List Value} {g : JFrame}
theorem vx_runVX {hh : List (Nat × Nat × Nat × Nat)} (S : CallFix p m c cc nL s args Ts own) (hM : vx_Met l y ws rm Pc Qc XC mc ms free) (cw : vx_CVW R s args own C index y bytes maxL ret hh ws rm mc ms n) (hp : PreV s H C b Pc As)
    (hg : g.method = m) (hn : As.length = n) (hsize : g.locals.size = nL) (hstack : g.stack = As.reverse ++ .ref b :: rest) (hW : 2 * g.monitorRoom + (rest.map fun v => v.category).sum ≤ 8) (hdg : decode cc g.pc = .ok (.invokevirtual index, 3)) (hf : cells + mc ≤ R.cells ∧ slots + ms ≤ R.slots) :
    vx_Run p l e R s m args below meth c H locs cells slots mc ms g rest (Qc (Value.ref b :: As).toArray) XC free := by
  obtain ⟨⟨hrc, hrs, hfr, hlo, hws, hcw⟩, hcode, hini, hy, hlen, hl, hin, hse⟩ := cw
  have hK : vx_Back l R p e below s args y 3 8 (PreOf R mc ms Pc) (PostOf Qc mc ms free) (vx_Post XC mc ms free) := vx_backW (hh := hh) (bytes := bytes) (maxL := maxL) (ret := ret) hM hp.1 hrc hrs hfr hlo hws hcw (fun a' U hW => word_at hW (Or.inl (by first | rfl | simp [Cond.onTables, Cond.keeps, Cond.steady])) hini)
  obtain ⟨hx, hb, hml, ho, -⟩ := S
  obtain ⟨-, ⟨cellB, hcB, hoB, hclB⟩, hPc⟩ := hp
  intro T hT X
  rcases vx_callVX X hx (C := C) (hh := hh) (bytes := bytes) (maxL := maxL) (ret := ret) ho hl hin hse hcode hy hK (by rw [hT]; exact hcB) hoB hclB hg (hsize.trans hml.symm) (argsL := As) (rest := rest) (fun sig h => hn.trans (hlen sig h)) hstack hW (by rw [hb]; exact hdg)
    (fun vm₁ hW₁ => ⟨hf.1, hf.2, hPc (T.setVm vm₁) hT hW₁⟩) with ⟨v, vm₁, ⟨U', l2, c2, s2⟩, hW₁, X', ⟨g', mk, t, L, e1, e2, hq, h1, hL, h2, h3⟩, st⟩ | ⟨q, vm₁, ⟨U', l2, c2, s2⟩, hW₁, X', ⟨g', mk, t, L, E, ce, e1, e2, hq, hce, hcv, hcl, h1, hL, h2, h3⟩, st⟩
  · dsimp only [Pt.U, Pt.locs, Pt.cells, Pt.slots] at X' e1 e2 h1 h2 h3 st
    subst h1; subst h2; subst h3
    exact Or.inl ⟨v, (T.setVm vm₁).calling g' mk (Value.ref b :: As).toArray, t, U', L, hT, X', hL, e1, e2, hq, st⟩
  · dsimp only [Pt.U, Pt.locs, Pt.cells, Pt.slots] at X' e1 e2 h1 h2 h3 st hcl
    subst h1; subst h2; subst h3
    exact Or.inr ⟨q, (T.setVm vm₁).calling g' mk (Value.ref b :: As).toArray, t, U', L, E, ce, hT, X', hL, e1, e2, hq, hce, hcv, vx_cls hW₁ hcl, st⟩
theorem vx_runSX {hh : List (Nat × Nat × Nat × Nat)} (S : CallFix p m c cc nL s args Ts own) (hM : vx_Met l y ws rm Pc Qc XC mc ms free) (cw : vx_CSW R s args own index y bytes maxL ret hh ws rm mc ms n) (hp : PreS s H Pc As)
    (hg : g.method = m) (hn : As.length = n) (hsize : g.locals.size = nL) (hstack : g.stack = As.reverse ++ rest) (hW : 2 * g.monitorRoom + (rest.map fun v => v.category).sum ≤ 8) (hdg : decode cc g.pc = .ok (.invokestatic index, 3)) (hf : cells + mc ≤ R.cells ∧ slots + ms ≤ R.slots) :
    vx_Run p l e R s m args below meth c H locs cells slots mc ms g rest (Qc As.toArray) XC free := by
  obtain ⟨⟨hrc, hrs, hfr, hlo, hws, hcw⟩, hcode, hini, hy, hlen, hl, hstt⟩ := cw
  have hK : vx_Back l R p e below s args y 3 8 (PreOf R mc ms Pc) (PostOf Qc mc ms free) (vx_Post XC mc ms free) := vx_backW (hh := hh) (bytes := bytes) (maxL := maxL) (ret := ret) hM hp.1 hrc hrs hfr hlo hws hcw (fun a' U hW => word_at hW (Or.inl (by first | rfl | simp [Cond.onTables, Cond.keeps, Cond.steady])) hini)
  obtain ⟨hx, hb, hml, ho, -⟩ := S
  intro T hT X
  rcases vx_callSX X hx (hh := hh) (bytes := bytes) (maxL := maxL) (ret := ret) ho hl hstt hini hcode hy hK hg (hsize.trans hml.symm) (argsL := As) (rest := rest) (fun sig h => hn.trans (hlen sig h)) hstack hW (by rw [hb]; exact hdg)
    (fun vm₁ hW₁ => ⟨hf.1, hf.2, hp.2 (T.setVm vm₁) hT hW₁⟩) with ⟨v, vm₁, ⟨U', l2, c2, s2⟩, hW₁, X', ⟨g', mk, t, L, e1, e2, hq, h1, hL, h2, h3⟩, st⟩ | ⟨q, vm₁, ⟨U', l2, c2, s2⟩, hW₁, X', ⟨g', mk, t, L, E, ce, e1, e2, hq, hce, hcv, hcl, h1, hL, h2, h3⟩, st⟩
  · dsimp only [Pt.U, Pt.locs, Pt.cells, Pt.slots] at X' e1 e2 h1 h2 h3 st
    subst h1; subst h2; subst h3
    exact Or.inl ⟨v, (T.setVm vm₁).calling g' mk As.toArray, t, U', L, hT, X', hL, e1, e2, hq, st⟩
  · dsimp only [Pt.U, Pt.locs, Pt.cells, Pt.slots] at X' e1 e2 h1 h2 h3 st hcl
    subst h1; subst h2; subst h3
    exact Or.inr ⟨q, (T.setVm vm₁).calling g' mk As.toArray, t, U', L, E, ce, hT, X', hL, e1, e2, hq, hce, hcv, vx_cls hW₁ hcl, st⟩
end
end VXH
theorem vx_ofWH {l : Launch} {y : MethodName} {ws ws' : List Cond} {rm : Room} {Pc : Array Value → State → Prop} {Qc : Array Value → State → Outcome → State → Prop} {XC : String → State → State → Prop} {mc ms : Nat} {free : Addr → Prop} {cc : ByteArray} {maxL : Nat} {ret : Option FieldType} {hh : List (Nat × Nat × Nat × Nat)}
    (hy : plainName y.cls = true) (hw : ws = Cond.codeWith y cc maxL ret hh :: ws')
    (body : ∀ p e s m args below meth c s₁, BodyLoose p l y (headSpec ws rm) cc maxL ret e s m args below meth c s₁ → c.maxLocals = maxL → Pc args s →
      W p l e (headSpec ws rm).room s m args below meth c s.heap [] 0 0 (vx_MQ below Qc XC args s mc ms free) (entryFrame m args maxL)) : vx_Met l y ws rm Pc Qc XC mc ms free := by
  refine MetFree.of_bodyS (code := cc) (maxLocals := maxL) (ret := ret) hy ?_ ?_
  · intro args s m h hn
    obtain ⟨m9, meth, c, hn9, h1, h2, h3, h4, -, h5, h6, -⟩ := Cond.codeWith_spec (atoms_spec (ws := ws) h _ (by rw [hw]; exact List.mem_cons_self))
    cases hn.symm.trans hn9
    exact ⟨meth, c, h1, h2, h3, h4, h5, h6⟩
  · intro p e s m args below meth c s₁ B hml hP _
    have hh0 : s₁.heap = s.heap := by rw [B.state]; rfl
    obtain ⟨t, a1, o, b1, b2, b3⟩ := body p e s m args below meth c s₁ B hml hP s₁ hh0 (Stand.of_body B)
    exact ⟨t, o, a1, b1, b2, b3⟩
/-! ===== END ===== -/
end
section
/-! names: classes, fields, codes, words (by the program wip/whole/gen/names.py out of claim/) -/
abbrev RA : String := "ReceiveSteps$Announcement"
def TA : u_T := fun k => match k with
  | 0 => ("ReceiveSteps$Announcement", "number", "I", true)
  | 1 => ("ReceiveSteps$Announcement", "owner", "I", true)
  | 2 => ("ReceiveSteps$Announcement", "linesDue", "I", true)
  | 3 => ("ReceiveSteps$Announcement", "lines", "[LReceiveSteps$Line;", true)
  | 4 => ("ReceiveSteps$Announcement", "linesTold", "I", false)
  | 5 => ("ReceiveSteps$Announcement", "state", "I", false)
  | _ => ("ReceiveSteps$Announcement", "door", "I", false)
def tyA : Nat → FieldType := fun k => match k with
  | 0 => .int
  | 1 => .int
  | 2 => .int
  | 3 => .array (.object "ReceiveSteps$Line")
  | 4 => .int
  | 5 => .int
  | _ => .int
theorem nmA : ∀ a, a < 7 → ∀ b, b < 7 → a ≠ b → (TA a).2.1 ≠ (TA b).2.1 := by decide +kernel
theorem tyA_ok : ∀ k, k < 7 → parseFieldDescriptor (TA k).2.2.1 = some (tyA k) := by decide +kernel
abbrev RN : String := "ReceiveSteps$Line"
def TN : u_T := fun k => match k with
  | 0 => ("ReceiveSteps$Line", "announcement", "LReceiveSteps$Announcement;", true)
  | 1 => ("ReceiveSteps$Line", "number", "I", true)
  | 2 => ("ReceiveSteps$Line", "good", "I", true)
  | 3 => ("ReceiveSteps$Line", "announced", "I", true)
  | 4 => ("ReceiveSteps$Line", "hundredths", "I", false)
  | 5 => ("ReceiveSteps$Line", "samplesWanted", "I", false)
  | 6 => ("ReceiveSteps$Line", "verdicts", "I", false)
  | 7 => ("ReceiveSteps$Line", "counted", "I", false)
  | 8 => ("ReceiveSteps$Line", "countedBy", "I", false)
  | 9 => ("ReceiveSteps$Line", "bad", "Z", false)
  | _ => ("ReceiveSteps$Line", "closed", "Z", false)
def tyN : Nat → FieldType := fun k => match k with
  | 0 => .object "ReceiveSteps$Announcement"
  | 1 => .int
  | 2 => .int
  | 3 => .int
  | 4 => .int
  | 5 => .int
  | 6 => .int
  | 7 => .int
  | 8 => .int
  | 9 => .boolean
  | _ => .boolean
theorem nmN : ∀ a, a < 11 → ∀ b, b < 11 → a ≠ b → (TN a).2.1 ≠ (TN b).2.1 := by decide +kernel
theorem tyN_ok : ∀ k, k < 11 → parseFieldDescriptor (TN k).2.2.1 = some (tyN k) := by decide +kernel
abbrev RU : String := "ReceiveSteps$Unit"
def TU : u_T := fun k => match k with
  | 0 => ("ReceiveSteps$Unit", "line", "LReceiveSteps$Line;", true)
  | 1 => ("ReceiveSteps$Unit", "pieces", "I", true)
  | 2 => ("ReceiveSteps$Unit", "lot", "I", true)
  | 3 => ("ReceiveSteps$Unit", "until", "I", false)
  | 4 => ("ReceiveSteps$Unit", "damage", "I", false)
  | 5 => ("ReceiveSteps$Unit", "label", "I", false)
  | 6 => ("ReceiveSteps$Unit", "printed", "I", false)
  | _ => ("ReceiveSteps$Unit", "waits", "Z", false)
def tyU : Nat → FieldType := fun k => match k with
  | 0 => .object "ReceiveSteps$Line"
  | 1 => .int
  | 2 => .int
  | 3 => .int
  | 4 => .int
  | 5 => .int
  | 6 => .int
  | _ => .boolean
theorem nmU : ∀ a, a < 8 → ∀ b, b < 8 → a ≠ b → (TU a).2.1 ≠ (TU b).2.1 := by decide +kernel
theorem tyU_ok : ∀ k, k < 8 → parseFieldDescriptor (TU k).2.2.1 = some (tyU k) := by decide +kernel
abbrev RS : String := "ReceiveSteps"
def TS : u_T := fun k => match k with
  | 0 => ("ReceiveSteps", "announcements", "[LReceiveSteps$Announcement;", true)
  | 1 => ("ReceiveSteps", "units", "[LReceiveSteps$Unit;", true)
  | 2 => ("ReceiveSteps", "differences", "[LReceiveSteps$Line;", true)
  | 3 => ("ReceiveSteps", "announcementsMade", "I", false)
  | 4 => ("ReceiveSteps", "unitsMade", "I", false)
  | 5 => ("ReceiveSteps", "labelsMade", "I", false)
  | 6 => ("ReceiveSteps", "differencesFound", "I", false)
  | 7 => ("ReceiveSteps", "linesClosed", "I", false)
  | 8 => ("ReceiveSteps", "today", "I", false)
  | _ => ("ReceiveSteps", "rights", "I", false)
def tyS : Nat → FieldType := fun k => match k with
  | 0 => .array (.object "ReceiveSteps$Announcement")
  | 1 => .array (.object "ReceiveSteps$Unit")
  | 2 => .array (.object "ReceiveSteps$Line")
  | 3 => .int
  | 4 => .int
  | 5 => .int
  | 6 => .int
  | 7 => .int
  | 8 => .int
  | _ => .int
theorem nmS : ∀ a, a < 10 → ∀ b, b < 10 → a ≠ b → (TS a).2.1 ≠ (TS b).2.1 := by decide +kernel
theorem tyS_ok : ∀ k, k < 10 → parseFieldDescriptor (TS k).2.2.1 = some (tyS k) := by decide +kernel
abbrev RM : String := "ReceiveStepsModel"
def TM : u_T := fun k => match k with
  | 0 => ("ReceiveStepsModel", "code", "I", false)
  | 1 => ("ReceiveStepsModel", "today", "I", false)
  | 2 => ("ReceiveStepsModel", "rights", "[Z", true)
  | 3 => ("ReceiveStepsModel", "announcements", "I", false)
  | 4 => ("ReceiveStepsModel", "owner", "[I", true)
  | 5 => ("ReceiveStepsModel", "lineCount", "[I", true)
  | 6 => ("ReceiveStepsModel", "told", "[I", true)
  | 7 => ("ReceiveStepsModel", "state", "[I", true)
  | 8 => ("ReceiveStepsModel", "door", "[I", true)
  | 9 => ("ReceiveStepsModel", "good", "[I", true)
  | 10 => ("ReceiveStepsModel", "announced", "[I", true)
  | 11 => ("ReceiveStepsModel", "tolerance", "[I", true)
  | 12 => ("ReceiveStepsModel", "counted", "[I", true)
  | 13 => ("ReceiveStepsModel", "wanted", "[I", true)
  | 14 => ("ReceiveStepsModel", "verdicts", "[I", true)
  | 15 => ("ReceiveStepsModel", "bad", "[Z", true)
  | 16 => ("ReceiveStepsModel", "closed", "[Z", true)
  | 17 => ("ReceiveStepsModel", "countedBy", "[Z", true)
  | 18 => ("ReceiveStepsModel", "units", "I", false)
  | 19 => ("ReceiveStepsModel", "lineOf", "[I", true)
  | 20 => ("ReceiveStepsModel", "unitState", "[I", true)
  | 21 => ("ReceiveStepsModel", "pieces", "[I", true)
  | 22 => ("ReceiveStepsModel", "lot", "[I", true)
  | 23 => ("ReceiveStepsModel", "until", "[I", true)
  | 24 => ("ReceiveStepsModel", "damage", "[I", true)
  | 25 => ("ReceiveStepsModel", "label", "[I", true)
  | 26 => ("ReceiveStepsModel", "printed", "[I", true)
  | 27 => ("ReceiveStepsModel", "labels", "I", false)
  | 28 => ("ReceiveStepsModel", "closings", "I", false)
  | 29 => ("ReceiveStepsModel", "differences", "I", false)
  | _ => ("ReceiveStepsModel", "differing", "[I", true)
def tyM : Nat → FieldType := fun k => match k with
  | 0 => .int
  | 1 => .int
  | 2 => .array .boolean
  | 3 => .int
  | 4 => .array .int
  | 5 => .array .int
  | 6 => .array .int
  | 7 => .array .int
  | 8 => .array .int
  | 9 => .array .int
  | 10 => .array .int
  | 11 => .array .int
  | 12 => .array .int
  | 13 => .array .int
  | 14 => .array .int
  | 15 => .array .boolean
  | 16 => .array .boolean
  | 17 => .array .boolean
  | 18 => .int
  | 19 => .array .int
  | 20 => .array .int
  | 21 => .array .int
  | 22 => .array .int
  | 23 => .array .int
  | 24 => .array .int
  | 25 => .array .int
  | 26 => .array .int
  | 27 => .int
  | 28 => .int
  | 29 => .int
  | _ => .array .int
theorem nmM : ∀ a, a < 31 → ∀ b, b < 31 → a ≠ b → (TM a).2.1 ≠ (TM b).2.1 := by decide +kernel
theorem tyM_ok : ∀ k, k < 31 → parseFieldDescriptor (TM k).2.2.1 = some (tyM k) := by decide +kernel
abbrev RL : String := "ReceiveStepsLaw"
abbrev cls_ : List vw_C := [(RA, TA, 7), (RN, TN, 11), (RU, TU, 8), (RS, TS, 10), (RM, TM, 31)]
/-- the good words of the tables: every method of this proof has its own code and these as its words -/
def Wg : List Cond := lw_tbl.filter goodWord
theorem wg_of {w : Cond} (i : Nat) (h : lw_tbl[i]? = some w) (g : goodWord w = true) : w ∈ Wg := List.mem_filter.mpr ⟨List.mem_of_getElem? h, g⟩
theorem wg_tbl {w : Cond} (h : w ∈ Wg) : w ∈ lw_tbl := (List.mem_filter.mp h).1
theorem wg_good {w : Cond} (h : w ∈ Wg) : (w.onTables && w.keeps) = true ∨ ∃ ty, w = .arrayClass ty := good_of_word (List.mem_filter.mp h).2
theorem hin_A : ∀ w ∈ u_ws RA TA 7, w ∈ Wg := by decide +kernel
theorem hin_N : ∀ w ∈ u_ws RN TN 11, w ∈ Wg := by decide +kernel
theorem hin_U : ∀ w ∈ u_ws RU TU 8, w ∈ Wg := by decide +kernel
theorem hin_S : ∀ w ∈ u_ws RS TS 10, w ∈ Wg := by decide +kernel
theorem hin_M : ∀ w ∈ u_ws RM TM 31, w ∈ Wg := by decide +kernel
abbrev b_S_init : ByteArray := prog_1_method_1_code
def y_S_init : MethodName := ⟨RS, "<init>", "()V"⟩
abbrev b_S_count1 : ByteArray := prog_1_method_24_code
def y_S_count1 : MethodName := ⟨RS, "count", "(I)I"⟩
abbrev b_L_announce : ByteArray := method_3_code
def y_L_announce : MethodName := ⟨RL, "announce", "(LReceiveSteps;II[J)I"⟩
abbrev b_S_announce : ByteArray := prog_1_method_2_code
def y_S_announce : MethodName := ⟨RS, "announce", "(II)I"⟩
abbrev b_S_mustBeWithin : ByteArray := prog_1_method_25_code
def y_S_mustBeWithin : MethodName := ⟨RS, "mustBeWithin", "(III)V"⟩
abbrev b_A_init : ByteArray := prog_2_method_1_code
def y_A_init : MethodName := ⟨RA, "<init>", "(III)V"⟩
abbrev b_L_line : ByteArray := method_4_code
def y_L_line : MethodName := ⟨RL, "line", "(LReceiveSteps;III[J)I"⟩
abbrev b_S_line : ByteArray := prog_1_method_3_code
def y_S_line : MethodName := ⟨RS, "line", "(III)I"⟩
abbrev b_S_announcementOf : ByteArray := prog_1_method_27_code
def y_S_announcementOf : MethodName := ⟨RS, "announcementOf", "(I)LReceiveSteps$Announcement;"⟩
abbrev b_A_hasAllLines : ByteArray := prog_2_method_2_code
def y_A_hasAllLines : MethodName := ⟨RA, "hasAllLines", "()Z"⟩
abbrev b_S_mustHold : ByteArray := prog_1_method_26_code
def y_S_mustHold : MethodName := ⟨RS, "mustHold", "(Z)V"⟩
abbrev b_A_addLine : ByteArray := prog_2_method_5_code
def y_A_addLine : MethodName := ⟨RA, "addLine", "(II)I"⟩
abbrev b_N_init : ByteArray := prog_3_method_1_code
def y_N_init : MethodName := ⟨RN, "<init>", "(LReceiveSteps$Announcement;III)V"⟩
abbrev b_L_arrive : ByteArray := method_5_code
def y_L_arrive : MethodName := ⟨RL, "arrive", "(LReceiveSteps;IIZ[J)I"⟩
abbrev b_S_arrive : ByteArray := prog_1_method_4_code
def y_S_arrive : MethodName := ⟨RS, "arrive", "(IIZ)I"⟩
abbrev b_S_isTaken : ByteArray := prog_1_method_33_code
def y_S_isTaken : MethodName := ⟨RS, "isTaken", "(I)Z"⟩
abbrev b_A_standsAt : ByteArray := prog_2_method_4_code
def y_A_standsAt : MethodName := ⟨RA, "standsAt", "(I)Z"⟩
abbrev b_L_accept : ByteArray := method_6_code
def y_L_accept : MethodName := ⟨RL, "accept", "(LReceiveSteps;II)I"⟩
abbrev b_S_accept : ByteArray := prog_1_method_5_code
def y_S_accept : MethodName := ⟨RS, "accept", "(II)V"⟩
abbrev b_S_hasRight : ByteArray := prog_1_method_31_code
def y_S_hasRight : MethodName := ⟨RS, "hasRight", "(I)Z"⟩
abbrev b_S_bitOf : ByteArray := prog_1_method_32_code
def y_S_bitOf : MethodName := ⟨RS, "bitOf", "(I)I"⟩
abbrev b_L_right : ByteArray := method_7_code
def y_L_right : MethodName := ⟨RL, "right", "(LReceiveSteps;IZ)I"⟩
abbrev b_S_right : ByteArray := prog_1_method_6_code
def y_S_right : MethodName := ⟨RS, "right", "(IZ)V"⟩
abbrev b_L_tolerance : ByteArray := method_8_code
def y_L_tolerance : MethodName := ⟨RL, "tolerance", "(LReceiveSteps;III)I"⟩
abbrev b_S_tolerance : ByteArray := prog_1_method_7_code
def y_S_tolerance : MethodName := ⟨RS, "tolerance", "(III)V"⟩
abbrev b_S_lineOf : ByteArray := prog_1_method_28_code
def y_S_lineOf : MethodName := ⟨RS, "lineOf", "(II)LReceiveSteps$Line;"⟩
abbrev b_L_wanted : ByteArray := method_9_code
def y_L_wanted : MethodName := ⟨RL, "wanted", "(LReceiveSteps;III)I"⟩
abbrev b_S_wanted : ByteArray := prog_1_method_8_code
def y_S_wanted : MethodName := ⟨RS, "wanted", "(III)V"⟩
abbrev b_L_count : ByteArray := method_10_code
def y_L_count : MethodName := ⟨RL, "count", "(LReceiveSteps;IIIII[J)I"⟩
abbrev b_S_count : ByteArray := prog_1_method_9_code
def y_S_count : MethodName := ⟨RS, "count", "(IIIII)I"⟩
abbrev b_S_brokenByCounting : ByteArray := prog_1_method_34_code
def y_S_brokenByCounting : MethodName := ⟨RS, "brokenByCounting", "(LReceiveSteps$Line;II)I"⟩
abbrev b_A_hasArrived : ByteArray := prog_2_method_3_code
def y_A_hasArrived : MethodName := ⟨RA, "hasArrived", "()Z"⟩
abbrev b_N_mostTaken : ByteArray := prog_3_method_2_code
def y_N_mostTaken : MethodName := ⟨RN, "mostTaken", "()I"⟩
abbrev b_S_makeUnits : ByteArray := prog_1_method_35_code
def y_S_makeUnits : MethodName := ⟨RS, "makeUnits", "(LReceiveSteps$Line;II)V"⟩
abbrev b_U_init : ByteArray := prog_4_method_1_code
def y_U_init : MethodName := ⟨RU, "<init>", "(LReceiveSteps$Line;II)V"⟩
abbrev b_L_damaged : ByteArray := method_11_code
def y_L_damaged : MethodName := ⟨RL, "damaged", "(LReceiveSteps;II[J)I"⟩
abbrev b_S_damaged : ByteArray := prog_1_method_10_code
def y_S_damaged : MethodName := ⟨RS, "damaged", "(II)I"⟩
abbrev b_S_unitOf : ByteArray := prog_1_method_29_code
def y_S_unitOf : MethodName := ⟨RS, "unitOf", "(I)LReceiveSteps$Unit;"⟩
abbrev b_U_isDamaged : ByteArray := prog_4_method_2_code
def y_U_isDamaged : MethodName := ⟨RU, "isDamaged", "()Z"⟩
abbrev b_S_unitsInState : ByteArray := prog_1_method_36_code
def y_S_unitsInState : MethodName := ⟨RS, "unitsInState", "(LReceiveSteps$Line;I)I"⟩
abbrev b_U_stateNow : ByteArray := prog_4_method_4_code
def y_U_stateNow : MethodName := ⟨RU, "stateNow", "()I"⟩
abbrev b_L_sample : ByteArray := method_12_code
def y_L_sample : MethodName := ⟨RL, "sample", "(LReceiveSteps;IIZ[J)I"⟩
abbrev b_S_sample : ByteArray := prog_1_method_11_code
def y_S_sample : MethodName := ⟨RS, "sample", "(IIZ)I"⟩
abbrev b_N_openSamples : ByteArray := prog_3_method_3_code
def y_N_openSamples : MethodName := ⟨RN, "openSamples", "()I"⟩
abbrev b_L_date : ByteArray := method_13_code
def y_L_date : MethodName := ⟨RL, "date", "(LReceiveSteps;II[J)I"⟩
abbrev b_S_date : ByteArray := prog_1_method_12_code
def y_S_date : MethodName := ⟨RS, "date", "(II)I"⟩
abbrev b_L_take : ByteArray := method_14_code
def y_L_take : MethodName := ⟨RL, "take", "(LReceiveSteps;II[J)I"⟩
abbrev b_S_take : ByteArray := prog_1_method_13_code
def y_S_take : MethodName := ⟨RS, "take", "(II)I"⟩
abbrev b_L_label : ByteArray := method_15_code
def y_L_label : MethodName := ⟨RL, "label", "(LReceiveSteps;I[J)I"⟩
abbrev b_S_label : ByteArray := prog_1_method_14_code
def y_S_label : MethodName := ⟨RS, "label", "(I)I"⟩
abbrev b_U_hasLabel : ByteArray := prog_4_method_3_code
def y_U_hasLabel : MethodName := ⟨RU, "hasLabel", "()Z"⟩
abbrev b_S_labelFor : ByteArray := prog_1_method_39_code
def y_S_labelFor : MethodName := ⟨RS, "labelFor", "(II)I"⟩
abbrev b_S_checkDigit : ByteArray := prog_1_method_40_code
def y_S_checkDigit : MethodName := ⟨RS, "checkDigit", "(I)I"⟩
abbrev b_L_again : ByteArray := method_16_code
def y_L_again : MethodName := ⟨RL, "again", "(LReceiveSteps;I[J)I"⟩
abbrev b_S_again : ByteArray := prog_1_method_15_code
def y_S_again : MethodName := ⟨RS, "again", "(I)I"⟩
abbrev b_L_close : ByteArray := method_17_code
def y_L_close : MethodName := ⟨RL, "close", "(LReceiveSteps;II[J)I"⟩
abbrev b_S_close : ByteArray := prog_1_method_16_code
def y_S_close : MethodName := ⟨RS, "close", "(II)I"⟩
abbrev b_S_lacksLabel : ByteArray := prog_1_method_37_code
def y_S_lacksLabel : MethodName := ⟨RS, "lacksLabel", "(LReceiveSteps$Line;)Z"⟩
abbrev b_S_noteDifference : ByteArray := prog_1_method_38_code
def y_S_noteDifference : MethodName := ⟨RS, "noteDifference", "(LReceiveSteps$Line;)V"⟩
abbrev b_L_closeAll : ByteArray := method_18_code
def y_L_closeAll : MethodName := ⟨RL, "closeAll", "(LReceiveSteps;I[J)I"⟩
abbrev b_S_closeAll : ByteArray := prog_1_method_17_code
def y_S_closeAll : MethodName := ⟨RS, "closeAll", "(I)I"⟩
abbrev b_A_firstOpenLine : ByteArray := prog_2_method_6_code
def y_A_firstOpenLine : MethodName := ⟨RA, "firstOpenLine", "()I"⟩
abbrev b_L_day : ByteArray := method_19_code
def y_L_day : MethodName := ⟨RL, "day", "(LReceiveSteps;I)I"⟩
abbrev b_S_day : ByteArray := prog_1_method_18_code
def y_S_day : MethodName := ⟨RS, "day", "(I)V"⟩
abbrev b_L_differ : ByteArray := method_20_code
def y_L_differ : MethodName := ⟨RL, "differ", "(LReceiveSteps;II[J)I"⟩
abbrev b_S_differ : ByteArray := prog_1_method_19_code
def y_S_differ : MethodName := ⟨RS, "differ", "(II)I"⟩
abbrev b_S_differenceOf : ByteArray := prog_1_method_30_code
def y_S_differenceOf : MethodName := ⟨RS, "differenceOf", "(I)LReceiveSteps$Line;"⟩
abbrev b_L_claim : ByteArray := method_21_code
def y_L_claim : MethodName := ⟨RL, "claim", "(LReceiveSteps;II[J)I"⟩
abbrev b_S_claim : ByteArray := prog_1_method_20_code
def y_S_claim : MethodName := ⟨RS, "claim", "(II)I"⟩
abbrev b_L_unit : ByteArray := method_22_code
def y_L_unit : MethodName := ⟨RL, "unit", "(LReceiveSteps;II[J)I"⟩
abbrev b_S_unit : ByteArray := prog_1_method_21_code
def y_S_unit : MethodName := ⟨RS, "unit", "(II)I"⟩
abbrev b_L_told : ByteArray := method_23_code
def y_L_told : MethodName := ⟨RL, "told", "(LReceiveSteps;III[J)I"⟩
abbrev b_S_told : ByteArray := prog_1_method_22_code
def y_S_told : MethodName := ⟨RS, "told", "(III)I"⟩
abbrev b_L_state : ByteArray := method_24_code
def y_L_state : MethodName := ⟨RL, "state", "(LReceiveSteps;II[J)I"⟩
abbrev b_S_state : ByteArray := prog_1_method_23_code
def y_S_state : MethodName := ⟨RS, "state", "(II)I"⟩
abbrev b_M_init : ByteArray := prog_6_method_1_code
def y_M_init : MethodName := ⟨RM, "<init>", "()V"⟩
abbrev b_M_thrown : ByteArray := prog_6_method_2_code
def y_M_thrown : MethodName := ⟨RM, "thrown", "()I"⟩
abbrev b_M_announce : ByteArray := prog_6_method_8_code
def y_M_announce : MethodName := ⟨RM, "announce", "(II)I"⟩
abbrev b_M_in : ByteArray := prog_6_method_3_code
def y_M_in : MethodName := ⟨RM, "in", "(III)Z"⟩
abbrev b_M_line : ByteArray := prog_6_method_9_code
def y_M_line : MethodName := ⟨RM, "line", "(III)I"⟩
abbrev b_M_isAnnouncement : ByteArray := prog_6_method_4_code
def y_M_isAnnouncement : MethodName := ⟨RM, "isAnnouncement", "(I)Z"⟩
abbrev b_M_arrive : ByteArray := prog_6_method_11_code
def y_M_arrive : MethodName := ⟨RM, "arrive", "(IIZ)I"⟩
abbrev b_M_isTaken : ByteArray := prog_6_method_10_code
def y_M_isTaken : MethodName := ⟨RM, "isTaken", "(I)Z"⟩
abbrev b_M_accept : ByteArray := prog_6_method_12_code
def y_M_accept : MethodName := ⟨RM, "accept", "(II)V"⟩
abbrev b_M_isPerson : ByteArray := prog_6_method_6_code
def y_M_isPerson : MethodName := ⟨RM, "isPerson", "(I)Z"⟩
abbrev b_M_right : ByteArray := prog_6_method_13_code
def y_M_right : MethodName := ⟨RM, "right", "(IZ)V"⟩
abbrev b_M_tolerance : ByteArray := prog_6_method_14_code
def y_M_tolerance : MethodName := ⟨RM, "tolerance", "(III)V"⟩
abbrev b_M_isLine : ByteArray := prog_6_method_5_code
def y_M_isLine : MethodName := ⟨RM, "isLine", "(II)Z"⟩
abbrev b_M_wanted : ByteArray := prog_6_method_15_code
def y_M_wanted : MethodName := ⟨RM, "wanted", "(III)V"⟩
abbrev b_M_count : ByteArray := prog_6_method_18_code
def y_M_count : MethodName := ⟨RM, "count", "(IIIII)I"⟩
abbrev b_M_takes : ByteArray := prog_6_method_16_code
def y_M_takes : MethodName := ⟨RM, "takes", "(I)I"⟩
abbrev b_M_damaged : ByteArray := prog_6_method_19_code
def y_M_damaged : MethodName := ⟨RM, "damaged", "(II)I"⟩
abbrev b_M_isUnit : ByteArray := prog_6_method_7_code
def y_M_isUnit : MethodName := ⟨RM, "isUnit", "(I)Z"⟩
abbrev b_M_sample : ByteArray := prog_6_method_20_code
def y_M_sample : MethodName := ⟨RM, "sample", "(IIZ)I"⟩
abbrev b_M_openSamples : ByteArray := prog_6_method_17_code
def y_M_openSamples : MethodName := ⟨RM, "openSamples", "(I)I"⟩
abbrev b_M_date : ByteArray := prog_6_method_22_code
def y_M_date : MethodName := ⟨RM, "date", "(II)I"⟩
abbrev b_M_plainState : ByteArray := prog_6_method_21_code
def y_M_plainState : MethodName := ⟨RM, "plainState", "(I)I"⟩
abbrev b_M_take : ByteArray := prog_6_method_23_code
def y_M_take : MethodName := ⟨RM, "take", "(II)I"⟩
abbrev b_M_label : ByteArray := prog_6_method_25_code
def y_M_label : MethodName := ⟨RM, "label", "(I)I"⟩
abbrev b_M_checked : ByteArray := prog_6_method_24_code
def y_M_checked : MethodName := ⟨RM, "checked", "(I)I"⟩
abbrev b_M_again : ByteArray := prog_6_method_26_code
def y_M_again : MethodName := ⟨RM, "again", "(I)I"⟩
abbrev b_M_close : ByteArray := prog_6_method_28_code
def y_M_close : MethodName := ⟨RM, "close", "(II)I"⟩
abbrev b_M_hasOne : ByteArray := prog_6_method_27_code
def y_M_hasOne : MethodName := ⟨RM, "hasOne", "(IZ)Z"⟩
abbrev b_M_closeAll : ByteArray := prog_6_method_29_code
def y_M_closeAll : MethodName := ⟨RM, "closeAll", "(I)I"⟩
abbrev b_M_day : ByteArray := prog_6_method_30_code
def y_M_day : MethodName := ⟨RM, "day", "(I)V"⟩
abbrev b_M_differ : ByteArray := prog_6_method_31_code
def y_M_differ : MethodName := ⟨RM, "differ", "(II)I"⟩
abbrev b_M_claim : ByteArray := prog_6_method_32_code
def y_M_claim : MethodName := ⟨RM, "claim", "(II)I"⟩
abbrev b_M_unit : ByteArray := prog_6_method_33_code
def y_M_unit : MethodName := ⟨RM, "unit", "(II)I"⟩
abbrev b_M_told : ByteArray := prog_6_method_34_code
def y_M_told : MethodName := ⟨RM, "told", "(III)I"⟩
abbrev b_M_state : ByteArray := prog_6_method_35_code
def y_M_state : MethodName := ⟨RM, "state", "(II)I"⟩
abbrev b_M_count1 : ByteArray := prog_6_method_36_code
def y_M_count1 : MethodName := ⟨RM, "count", "(I)I"⟩
abbrev b_L_law : ByteArray := code
def y_L_law : MethodName := ⟨RL, "law", "([I)Z"⟩
theorem in_L : Cond.initialized RL ∈ Wg := wg_of 19 (by decide +kernel) rfl
theorem in_S : Cond.initialized RS ∈ Wg := wg_of 20 (by decide +kernel) rfl
theorem in_M : Cond.initialized RM ∈ Wg := wg_of 21 (by decide +kernel) rfl
theorem in_Throwable : Cond.initialized "java/lang/Throwable" ∈ Wg := wg_of 22 (by decide +kernel) rfl
theorem in_Exception : Cond.initialized "java/lang/Exception" ∈ Wg := wg_of 23 (by decide +kernel) rfl
theorem in_RuntimeException : Cond.initialized "java/lang/RuntimeException" ∈ Wg := wg_of 24 (by decide +kernel) rfl
theorem in_IllegalArgumentException : Cond.initialized "java/lang/IllegalArgumentException" ∈ Wg := wg_of 25 (by decide +kernel) rfl
theorem in_UnsupportedOperationException : Cond.initialized "java/lang/UnsupportedOperationException" ∈ Wg := wg_of 26 (by decide +kernel) rfl
theorem in_A : Cond.initialized RA ∈ Wg := wg_of 27 (by decide +kernel) rfl
theorem in_NoSuchElementException : Cond.initialized "java/util/NoSuchElementException" ∈ Wg := wg_of 28 (by decide +kernel) rfl
theorem in_IllegalStateException : Cond.initialized "java/lang/IllegalStateException" ∈ Wg := wg_of 29 (by decide +kernel) rfl
theorem in_N : Cond.initialized RN ∈ Wg := wg_of 30 (by decide +kernel) rfl
theorem in_U : Cond.initialized RU ∈ Wg := wg_of 31 (by decide +kernel) rfl
theorem in_Math : Cond.initialized "java/lang/Math" ∈ Wg := wg_of 32 (by decide +kernel) rfl
theorem kl_L_8 : Cond.classLink RL 8 "ReceiveSteps" ∈ Wg := wg_of 33 (by decide +kernel) rfl
theorem is_S : Cond.instantiable RS 10 ∈ Wg := wg_of 34 (by decide +kernel) rfl
theorem ml_L_92 : Cond.methodLink RL 92 y_S_init ∈ Wg := wg_of 35 (by decide +kernel) rfl
theorem im_S_init : Cond.instanceMethod y_S_init ∈ Wg := wg_of 36 (by decide +kernel) rfl
theorem cd_S_init : Cond.code y_S_init b_S_init 1 (Option.none : Option FieldType) ∈ Wg := wg_of 37 (by decide +kernel) rfl
theorem ml_S_1 : Cond.methodLink RS 1 ⟨"java/lang/Object", "<init>", "()V"⟩ ∈ Wg := wg_of 38 (by decide +kernel) rfl
theorem kl_S_9 : Cond.classLink RS 9 "ReceiveSteps$Announcement" ∈ Wg := wg_of 41 (by decide +kernel) rfl
theorem kl_S_15 : Cond.classLink RS 15 "ReceiveSteps$Unit" ∈ Wg := wg_of 43 (by decide +kernel) rfl
theorem kl_S_21 : Cond.classLink RS 21 "ReceiveSteps$Line" ∈ Wg := wg_of 45 (by decide +kernel) rfl
theorem fl_S_11 : Cond.fieldLink RS 11 "ReceiveSteps" "announcements" "[LReceiveSteps$Announcement;" ∈ Wg := wg_of 47 (by decide +kernel) rfl
theorem fl_S_17 : Cond.fieldLink RS 17 "ReceiveSteps" "units" "[LReceiveSteps$Unit;" ∈ Wg := wg_of 48 (by decide +kernel) rfl
theorem fl_S_23 : Cond.fieldLink RS 23 "ReceiveSteps" "differences" "[LReceiveSteps$Line;" ∈ Wg := wg_of 49 (by decide +kernel) rfl
theorem fl_S_31 : Cond.fieldLink RS 31 "ReceiveSteps" "announcementsMade" "I" ∈ Wg := wg_of 50 (by decide +kernel) rfl
theorem fl_S_98 : Cond.fieldLink RS 98 "ReceiveSteps" "unitsMade" "I" ∈ Wg := wg_of 51 (by decide +kernel) rfl
theorem fl_S_163 : Cond.fieldLink RS 163 "ReceiveSteps" "labelsMade" "I" ∈ Wg := wg_of 52 (by decide +kernel) rfl
theorem fl_S_250 : Cond.fieldLink RS 250 "ReceiveSteps" "differencesFound" "I" ∈ Wg := wg_of 53 (by decide +kernel) rfl
theorem fl_S_182 : Cond.fieldLink RS 182 "ReceiveSteps" "linesClosed" "I" ∈ Wg := wg_of 54 (by decide +kernel) rfl
theorem fl_S_151 : Cond.fieldLink RS 151 "ReceiveSteps" "today" "I" ∈ Wg := wg_of 55 (by decide +kernel) rfl
theorem fl_S_73 : Cond.fieldLink RS 73 "ReceiveSteps" "rights" "I" ∈ Wg := wg_of 56 (by decide +kernel) rfl
theorem ml_L_177 : Cond.methodLink RL 177 y_S_count1 ∈ Wg := wg_of 78 (by decide +kernel) rfl
theorem im_S_count1 : Cond.instanceMethod y_S_count1 ∈ Wg := wg_of 79 (by decide +kernel) rfl
theorem se_S_count1 : Cond.selects RS y_S_count1 y_S_count1 ∈ Wg := wg_of 80 (by decide +kernel) rfl
theorem cd_S_count1 : Cond.code y_S_count1 b_S_count1 2 (Option.some FieldType.int) ∈ Wg := wg_of 81 (by decide +kernel) rfl
theorem ml_L_96 : Cond.methodLink RL 96 y_L_announce ∈ Wg := wg_of 82 (by decide +kernel) rfl
theorem sm_L_announce : Cond.static y_L_announce ∈ Wg := wg_of 83 (by decide +kernel) rfl
theorem cd_L_announce : Cond.codeWith y_L_announce b_L_announce 5 (Option.some FieldType.int) [((0 : Nat), (10 : Nat), (13 : Nat), (13 : Nat)), ((0 : Nat), (10 : Nat), (17 : Nat), (15 : Nat))] ∈ Wg := wg_of 84 (by decide +kernel) rfl
theorem kl_L_13 : Cond.classLink RL 13 "java/lang/IllegalArgumentException" ∈ Wg := wg_of 85 (by decide +kernel) rfl
theorem kl_L_15 : Cond.classLink RL 15 "java/lang/UnsupportedOperationException" ∈ Wg := wg_of 86 (by decide +kernel) rfl
theorem ml_L_7 : Cond.methodLink RL 7 y_S_announce ∈ Wg := wg_of 87 (by decide +kernel) rfl
theorem im_S_announce : Cond.instanceMethod y_S_announce ∈ Wg := wg_of 88 (by decide +kernel) rfl
theorem se_S_announce : Cond.selects RS y_S_announce y_S_announce ∈ Wg := wg_of 89 (by decide +kernel) rfl
theorem cd_S_announce : Cond.code y_S_announce b_S_announce 3 (Option.some FieldType.int) ∈ Wg := wg_of 90 (by decide +kernel) rfl
theorem ml_S_27 : Cond.methodLink RS 27 y_S_mustBeWithin ∈ Wg := wg_of 91 (by decide +kernel) rfl
theorem sm_S_mustBeWithin : Cond.static y_S_mustBeWithin ∈ Wg := wg_of 92 (by decide +kernel) rfl
theorem cd_S_mustBeWithin : Cond.code y_S_mustBeWithin b_S_mustBeWithin 3 (Option.none : Option FieldType) ∈ Wg := wg_of 93 (by decide +kernel) rfl
theorem kl_S_203 : Cond.classLink RS 203 "java/lang/IllegalArgumentException" ∈ Wg := wg_of 94 (by decide +kernel) rfl
theorem ml_S_207 : Cond.methodLink RS 207 ⟨"java/lang/IllegalArgumentException", "<init>", "(Ljava/lang/String;)V"⟩ ∈ Wg := wg_of 137 (by decide +kernel) rfl
theorem ac_byte : Cond.arrayClass .byte ∈ Wg := wg_of 162 (by decide +kernel) rfl
theorem kl_S_35 : Cond.classLink RS 35 "java/lang/UnsupportedOperationException" ∈ Wg := wg_of 163 (by decide +kernel) rfl
theorem ml_S_39 : Cond.methodLink RS 39 ⟨"java/lang/UnsupportedOperationException", "<init>", "(Ljava/lang/String;)V"⟩ ∈ Wg := wg_of 173 (by decide +kernel) rfl
theorem is_A : Cond.instantiable RA 7 ∈ Wg := wg_of 179 (by decide +kernel) rfl
theorem ml_S_42 : Cond.methodLink RS 42 y_A_init ∈ Wg := wg_of 180 (by decide +kernel) rfl
theorem im_A_init : Cond.instanceMethod y_A_init ∈ Wg := wg_of 181 (by decide +kernel) rfl
theorem cd_A_init : Cond.code y_A_init b_A_init 4 (Option.none : Option FieldType) ∈ Wg := wg_of 182 (by decide +kernel) rfl
theorem ml_A_3 : Cond.methodLink RA 3 ⟨"java/lang/Object", "<init>", "()V"⟩ ∈ Wg := wg_of 183 (by decide +kernel) rfl
theorem kl_A_21 : Cond.classLink RA 21 "ReceiveSteps$Line" ∈ Wg := wg_of 184 (by decide +kernel) rfl
theorem fl_A_9 : Cond.fieldLink RA 9 "ReceiveSteps$Announcement" "number" "I" ∈ Wg := wg_of 185 (by decide +kernel) rfl
theorem fl_S_196 : Cond.fieldLink RS 196 "ReceiveSteps$Announcement" "number" "I" ∈ Wg := wg_of 186 (by decide +kernel) rfl
theorem fl_A_15 : Cond.fieldLink RA 15 "ReceiveSteps$Announcement" "owner" "I" ∈ Wg := wg_of 187 (by decide +kernel) rfl
theorem fl_S_166 : Cond.fieldLink RS 166 "ReceiveSteps$Announcement" "owner" "I" ∈ Wg := wg_of 188 (by decide +kernel) rfl
theorem fl_A_18 : Cond.fieldLink RA 18 "ReceiveSteps$Announcement" "linesDue" "I" ∈ Wg := wg_of 189 (by decide +kernel) rfl
theorem fl_A_23 : Cond.fieldLink RA 23 "ReceiveSteps$Announcement" "lines" "[LReceiveSteps$Line;" ∈ Wg := wg_of 190 (by decide +kernel) rfl
theorem fl_S_243 : Cond.fieldLink RS 243 "ReceiveSteps$Announcement" "lines" "[LReceiveSteps$Line;" ∈ Wg := wg_of 191 (by decide +kernel) rfl
theorem fl_A_33 : Cond.fieldLink RA 33 "ReceiveSteps$Announcement" "linesTold" "I" ∈ Wg := wg_of 192 (by decide +kernel) rfl
theorem fl_S_226 : Cond.fieldLink RS 226 "ReceiveSteps$Announcement" "linesTold" "I" ∈ Wg := wg_of 193 (by decide +kernel) rfl
theorem fl_A_27 : Cond.fieldLink RA 27 "ReceiveSteps$Announcement" "state" "I" ∈ Wg := wg_of 194 (by decide +kernel) rfl
theorem fl_S_48 : Cond.fieldLink RS 48 "ReceiveSteps$Announcement" "state" "I" ∈ Wg := wg_of 195 (by decide +kernel) rfl
theorem fl_A_30 : Cond.fieldLink RA 30 "ReceiveSteps$Announcement" "door" "I" ∈ Wg := wg_of 196 (by decide +kernel) rfl
theorem fl_S_67 : Cond.fieldLink RS 67 "ReceiveSteps$Announcement" "door" "I" ∈ Wg := wg_of 197 (by decide +kernel) rfl
theorem ml_L_106 : Cond.methodLink RL 106 y_L_line ∈ Wg := wg_of 213 (by decide +kernel) rfl
theorem sm_L_line : Cond.static y_L_line ∈ Wg := wg_of 214 (by decide +kernel) rfl
theorem cd_L_line : Cond.codeWith y_L_line b_L_line 6 (Option.some FieldType.int) [((0 : Nat), (12 : Nat), (15 : Nat), (21 : Nat)), ((0 : Nat), (12 : Nat), (19 : Nat), (13 : Nat)), ((0 : Nat), (12 : Nat), (23 : Nat), (23 : Nat))] ∈ Wg := wg_of 215 (by decide +kernel) rfl
theorem kl_L_21 : Cond.classLink RL 21 "java/util/NoSuchElementException" ∈ Wg := wg_of 216 (by decide +kernel) rfl
theorem kl_L_23 : Cond.classLink RL 23 "java/lang/IllegalStateException" ∈ Wg := wg_of 217 (by decide +kernel) rfl
theorem ml_L_17 : Cond.methodLink RL 17 y_S_line ∈ Wg := wg_of 218 (by decide +kernel) rfl
theorem im_S_line : Cond.instanceMethod y_S_line ∈ Wg := wg_of 219 (by decide +kernel) rfl
theorem se_S_line : Cond.selects RS y_S_line y_S_line ∈ Wg := wg_of 220 (by decide +kernel) rfl
theorem cd_S_line : Cond.code y_S_line b_S_line 5 (Option.some FieldType.int) ∈ Wg := wg_of 221 (by decide +kernel) rfl
theorem ml_S_44 : Cond.methodLink RS 44 y_S_announcementOf ∈ Wg := wg_of 222 (by decide +kernel) rfl
theorem im_S_announcementOf : Cond.instanceMethod y_S_announcementOf ∈ Wg := wg_of 224 (by decide +kernel) rfl
theorem cd_S_announcementOf : Cond.code y_S_announcementOf b_S_announcementOf 3 (Option.some (FieldType.object "ReceiveSteps$Announcement")) ∈ Wg := wg_of 225 (by decide +kernel) rfl
theorem kl_S_238 : Cond.classLink RS 238 "java/util/NoSuchElementException" ∈ Wg := wg_of 226 (by decide +kernel) rfl
theorem ml_S_242 : Cond.methodLink RS 242 ⟨"java/util/NoSuchElementException", "<init>", "(Ljava/lang/String;)V"⟩ ∈ Wg := wg_of 236 (by decide +kernel) rfl
theorem ml_S_51 : Cond.methodLink RS 51 y_A_hasAllLines ∈ Wg := wg_of 242 (by decide +kernel) rfl
theorem im_A_hasAllLines : Cond.instanceMethod y_A_hasAllLines ∈ Wg := wg_of 243 (by decide +kernel) rfl
theorem se_A_hasAllLines : Cond.selects RA y_A_hasAllLines y_A_hasAllLines ∈ Wg := wg_of 244 (by decide +kernel) rfl
theorem cd_A_hasAllLines : Cond.code y_A_hasAllLines b_A_hasAllLines 1 (Option.some FieldType.boolean) ∈ Wg := wg_of 245 (by decide +kernel) rfl
theorem ml_S_55 : Cond.methodLink RS 55 y_S_mustHold ∈ Wg := wg_of 246 (by decide +kernel) rfl
theorem sm_S_mustHold : Cond.static y_S_mustHold ∈ Wg := wg_of 247 (by decide +kernel) rfl
theorem cd_S_mustHold : Cond.code y_S_mustHold b_S_mustHold 1 (Option.none : Option FieldType) ∈ Wg := wg_of 248 (by decide +kernel) rfl
theorem kl_S_233 : Cond.classLink RS 233 "java/lang/IllegalStateException" ∈ Wg := wg_of 249 (by decide +kernel) rfl
theorem ml_S_237 : Cond.methodLink RS 237 ⟨"java/lang/IllegalStateException", "<init>", "(Ljava/lang/String;)V"⟩ ∈ Wg := wg_of 259 (by decide +kernel) rfl
theorem ml_S_59 : Cond.methodLink RS 59 y_A_addLine ∈ Wg := wg_of 265 (by decide +kernel) rfl
theorem im_A_addLine : Cond.instanceMethod y_A_addLine ∈ Wg := wg_of 266 (by decide +kernel) rfl
theorem se_A_addLine : Cond.selects RA y_A_addLine y_A_addLine ∈ Wg := wg_of 267 (by decide +kernel) rfl
theorem cd_A_addLine : Cond.code y_A_addLine b_A_addLine 4 (Option.some FieldType.int) ∈ Wg := wg_of 268 (by decide +kernel) rfl
theorem is_N : Cond.instantiable RN 11 ∈ Wg := wg_of 269 (by decide +kernel) rfl
theorem ml_A_36 : Cond.methodLink RA 36 y_N_init ∈ Wg := wg_of 270 (by decide +kernel) rfl
theorem im_N_init : Cond.instanceMethod y_N_init ∈ Wg := wg_of 271 (by decide +kernel) rfl
theorem cd_N_init : Cond.code y_N_init b_N_init 5 (Option.none : Option FieldType) ∈ Wg := wg_of 272 (by decide +kernel) rfl
theorem ml_N_1 : Cond.methodLink RN 1 ⟨"java/lang/Object", "<init>", "()V"⟩ ∈ Wg := wg_of 273 (by decide +kernel) rfl
theorem fl_N_7 : Cond.fieldLink RN 7 "ReceiveSteps$Line" "announcement" "LReceiveSteps$Announcement;" ∈ Wg := wg_of 274 (by decide +kernel) rfl
theorem fl_S_131 : Cond.fieldLink RS 131 "ReceiveSteps$Line" "announcement" "LReceiveSteps$Announcement;" ∈ Wg := wg_of 275 (by decide +kernel) rfl
theorem fl_N_13 : Cond.fieldLink RN 13 "ReceiveSteps$Line" "number" "I" ∈ Wg := wg_of 276 (by decide +kernel) rfl
theorem fl_S_199 : Cond.fieldLink RS 199 "ReceiveSteps$Line" "number" "I" ∈ Wg := wg_of 277 (by decide +kernel) rfl
theorem fl_N_17 : Cond.fieldLink RN 17 "ReceiveSteps$Line" "good" "I" ∈ Wg := wg_of 278 (by decide +kernel) rfl
theorem fl_S_218 : Cond.fieldLink RS 218 "ReceiveSteps$Line" "good" "I" ∈ Wg := wg_of 279 (by decide +kernel) rfl
theorem fl_N_20 : Cond.fieldLink RN 20 "ReceiveSteps$Line" "announced" "I" ∈ Wg := wg_of 280 (by decide +kernel) rfl
theorem fl_S_200 : Cond.fieldLink RS 200 "ReceiveSteps$Line" "announced" "I" ∈ Wg := wg_of 281 (by decide +kernel) rfl
theorem fl_N_23 : Cond.fieldLink RN 23 "ReceiveSteps$Line" "hundredths" "I" ∈ Wg := wg_of 282 (by decide +kernel) rfl
theorem fl_S_88 : Cond.fieldLink RS 88 "ReceiveSteps$Line" "hundredths" "I" ∈ Wg := wg_of 283 (by decide +kernel) rfl
theorem fl_N_26 : Cond.fieldLink RN 26 "ReceiveSteps$Line" "samplesWanted" "I" ∈ Wg := wg_of 284 (by decide +kernel) rfl
theorem fl_S_91 : Cond.fieldLink RS 91 "ReceiveSteps$Line" "samplesWanted" "I" ∈ Wg := wg_of 285 (by decide +kernel) rfl
theorem fl_N_29 : Cond.fieldLink RN 29 "ReceiveSteps$Line" "verdicts" "I" ∈ Wg := wg_of 286 (by decide +kernel) rfl
theorem fl_S_142 : Cond.fieldLink RS 142 "ReceiveSteps$Line" "verdicts" "I" ∈ Wg := wg_of 287 (by decide +kernel) rfl
theorem fl_S_107 : Cond.fieldLink RS 107 "ReceiveSteps$Line" "counted" "I" ∈ Wg := wg_of 288 (by decide +kernel) rfl
theorem fl_S_110 : Cond.fieldLink RS 110 "ReceiveSteps$Line" "countedBy" "I" ∈ Wg := wg_of 289 (by decide +kernel) rfl
theorem fl_U_39 : Cond.fieldLink RU 39 "ReceiveSteps$Line" "bad" "Z" ∈ Wg := wg_of 290 (by decide +kernel) rfl
theorem fl_S_145 : Cond.fieldLink RS 145 "ReceiveSteps$Line" "bad" "Z" ∈ Wg := wg_of 291 (by decide +kernel) rfl
theorem fl_A_39 : Cond.fieldLink RA 39 "ReceiveSteps$Line" "closed" "Z" ∈ Wg := wg_of 292 (by decide +kernel) rfl
theorem fl_S_84 : Cond.fieldLink RS 84 "ReceiveSteps$Line" "closed" "Z" ∈ Wg := wg_of 293 (by decide +kernel) rfl
theorem ml_L_110 : Cond.methodLink RL 110 y_L_arrive ∈ Wg := wg_of 317 (by decide +kernel) rfl
theorem sm_L_arrive : Cond.static y_L_arrive ∈ Wg := wg_of 318 (by decide +kernel) rfl
theorem cd_L_arrive : Cond.codeWith y_L_arrive b_L_arrive 6 (Option.some FieldType.int) [((0 : Nat), (12 : Nat), (15 : Nat), (21 : Nat)), ((0 : Nat), (12 : Nat), (19 : Nat), (13 : Nat)), ((0 : Nat), (12 : Nat), (23 : Nat), (23 : Nat))] ∈ Wg := wg_of 319 (by decide +kernel) rfl
theorem ml_L_25 : Cond.methodLink RL 25 y_S_arrive ∈ Wg := wg_of 320 (by decide +kernel) rfl
theorem im_S_arrive : Cond.instanceMethod y_S_arrive ∈ Wg := wg_of 321 (by decide +kernel) rfl
theorem se_S_arrive : Cond.selects RS y_S_arrive y_S_arrive ∈ Wg := wg_of 322 (by decide +kernel) rfl
theorem cd_S_arrive : Cond.code y_S_arrive b_S_arrive 5 (Option.some FieldType.int) ∈ Wg := wg_of 323 (by decide +kernel) rfl
theorem ml_S_63 : Cond.methodLink RS 63 y_S_isTaken ∈ Wg := wg_of 324 (by decide +kernel) rfl
theorem im_S_isTaken : Cond.instanceMethod y_S_isTaken ∈ Wg := wg_of 326 (by decide +kernel) rfl
theorem cd_S_isTaken : Cond.code y_S_isTaken b_S_isTaken 4 (Option.some FieldType.boolean) ∈ Wg := wg_of 327 (by decide +kernel) rfl
theorem ml_S_255 : Cond.methodLink RS 255 y_A_standsAt ∈ Wg := wg_of 328 (by decide +kernel) rfl
theorem im_A_standsAt : Cond.instanceMethod y_A_standsAt ∈ Wg := wg_of 329 (by decide +kernel) rfl
theorem se_A_standsAt : Cond.selects RA y_A_standsAt y_A_standsAt ∈ Wg := wg_of 330 (by decide +kernel) rfl
theorem cd_A_standsAt : Cond.code y_A_standsAt b_A_standsAt 2 (Option.some FieldType.boolean) ∈ Wg := wg_of 331 (by decide +kernel) rfl
theorem ml_L_114 : Cond.methodLink RL 114 y_L_accept ∈ Wg := wg_of 332 (by decide +kernel) rfl
theorem sm_L_accept : Cond.static y_L_accept ∈ Wg := wg_of 333 (by decide +kernel) rfl
theorem cd_L_accept : Cond.codeWith y_L_accept b_L_accept 4 (Option.some FieldType.int) [((0 : Nat), (6 : Nat), (9 : Nat), (21 : Nat)), ((0 : Nat), (6 : Nat), (12 : Nat), (13 : Nat)), ((0 : Nat), (6 : Nat), (15 : Nat), (23 : Nat))] ∈ Wg := wg_of 334 (by decide +kernel) rfl
theorem ml_L_29 : Cond.methodLink RL 29 y_S_accept ∈ Wg := wg_of 335 (by decide +kernel) rfl
theorem im_S_accept : Cond.instanceMethod y_S_accept ∈ Wg := wg_of 336 (by decide +kernel) rfl
theorem se_S_accept : Cond.selects RS y_S_accept y_S_accept ∈ Wg := wg_of 337 (by decide +kernel) rfl
theorem cd_S_accept : Cond.code y_S_accept b_S_accept 4 (Option.none : Option FieldType) ∈ Wg := wg_of 338 (by decide +kernel) rfl
theorem ml_S_70 : Cond.methodLink RS 70 y_S_hasRight ∈ Wg := wg_of 339 (by decide +kernel) rfl
theorem im_S_hasRight : Cond.instanceMethod y_S_hasRight ∈ Wg := wg_of 341 (by decide +kernel) rfl
theorem cd_S_hasRight : Cond.code y_S_hasRight b_S_hasRight 2 (Option.some FieldType.boolean) ∈ Wg := wg_of 342 (by decide +kernel) rfl
theorem ml_S_76 : Cond.methodLink RS 76 y_S_bitOf ∈ Wg := wg_of 343 (by decide +kernel) rfl
theorem sm_S_bitOf : Cond.static y_S_bitOf ∈ Wg := wg_of 344 (by decide +kernel) rfl
theorem cd_S_bitOf : Cond.code y_S_bitOf b_S_bitOf 1 (Option.some FieldType.int) ∈ Wg := wg_of 345 (by decide +kernel) rfl
theorem ml_L_118 : Cond.methodLink RL 118 y_L_right ∈ Wg := wg_of 346 (by decide +kernel) rfl
theorem sm_L_right : Cond.static y_L_right ∈ Wg := wg_of 347 (by decide +kernel) rfl
theorem cd_L_right : Cond.codeWith y_L_right b_L_right 4 (Option.some FieldType.int) [((0 : Nat), (6 : Nat), (9 : Nat), (13 : Nat))] ∈ Wg := wg_of 348 (by decide +kernel) rfl
theorem ml_L_33 : Cond.methodLink RL 33 y_S_right ∈ Wg := wg_of 349 (by decide +kernel) rfl
theorem im_S_right : Cond.instanceMethod y_S_right ∈ Wg := wg_of 350 (by decide +kernel) rfl
theorem se_S_right : Cond.selects RS y_S_right y_S_right ∈ Wg := wg_of 351 (by decide +kernel) rfl
theorem cd_S_right : Cond.code y_S_right b_S_right 3 (Option.none : Option FieldType) ∈ Wg := wg_of 352 (by decide +kernel) rfl
theorem ml_L_122 : Cond.methodLink RL 122 y_L_tolerance ∈ Wg := wg_of 353 (by decide +kernel) rfl
theorem sm_L_tolerance : Cond.static y_L_tolerance ∈ Wg := wg_of 354 (by decide +kernel) rfl
theorem cd_L_tolerance : Cond.codeWith y_L_tolerance b_L_tolerance 5 (Option.some FieldType.int) [((0 : Nat), (7 : Nat), (10 : Nat), (21 : Nat)), ((0 : Nat), (7 : Nat), (14 : Nat), (13 : Nat)), ((0 : Nat), (7 : Nat), (18 : Nat), (23 : Nat))] ∈ Wg := wg_of 355 (by decide +kernel) rfl
theorem ml_L_37 : Cond.methodLink RL 37 y_S_tolerance ∈ Wg := wg_of 356 (by decide +kernel) rfl
theorem im_S_tolerance : Cond.instanceMethod y_S_tolerance ∈ Wg := wg_of 357 (by decide +kernel) rfl
theorem se_S_tolerance : Cond.selects RS y_S_tolerance y_S_tolerance ∈ Wg := wg_of 358 (by decide +kernel) rfl
theorem cd_S_tolerance : Cond.code y_S_tolerance b_S_tolerance 5 (Option.none : Option FieldType) ∈ Wg := wg_of 359 (by decide +kernel) rfl
theorem ml_S_80 : Cond.methodLink RS 80 y_S_lineOf ∈ Wg := wg_of 360 (by decide +kernel) rfl
theorem im_S_lineOf : Cond.instanceMethod y_S_lineOf ∈ Wg := wg_of 362 (by decide +kernel) rfl
theorem cd_S_lineOf : Cond.code y_S_lineOf b_S_lineOf 5 (Option.some (FieldType.object "ReceiveSteps$Line")) ∈ Wg := wg_of 363 (by decide +kernel) rfl
theorem ml_L_126 : Cond.methodLink RL 126 y_L_wanted ∈ Wg := wg_of 365 (by decide +kernel) rfl
theorem sm_L_wanted : Cond.static y_L_wanted ∈ Wg := wg_of 366 (by decide +kernel) rfl
theorem cd_L_wanted : Cond.codeWith y_L_wanted b_L_wanted 5 (Option.some FieldType.int) [((0 : Nat), (7 : Nat), (10 : Nat), (21 : Nat)), ((0 : Nat), (7 : Nat), (14 : Nat), (13 : Nat)), ((0 : Nat), (7 : Nat), (18 : Nat), (23 : Nat))] ∈ Wg := wg_of 367 (by decide +kernel) rfl
theorem ml_L_41 : Cond.methodLink RL 41 y_S_wanted ∈ Wg := wg_of 368 (by decide +kernel) rfl
theorem im_S_wanted : Cond.instanceMethod y_S_wanted ∈ Wg := wg_of 369 (by decide +kernel) rfl
theorem se_S_wanted : Cond.selects RS y_S_wanted y_S_wanted ∈ Wg := wg_of 370 (by decide +kernel) rfl
theorem cd_S_wanted : Cond.code y_S_wanted b_S_wanted 5 (Option.none : Option FieldType) ∈ Wg := wg_of 371 (by decide +kernel) rfl
theorem ml_L_129 : Cond.methodLink RL 129 y_L_count ∈ Wg := wg_of 372 (by decide +kernel) rfl
theorem sm_L_count : Cond.static y_L_count ∈ Wg := wg_of 373 (by decide +kernel) rfl
theorem cd_L_count : Cond.codeWith y_L_count b_L_count 8 (Option.some FieldType.int) [((0 : Nat), (16 : Nat), (19 : Nat), (21 : Nat)), ((0 : Nat), (16 : Nat), (23 : Nat), (13 : Nat)), ((0 : Nat), (16 : Nat), (27 : Nat), (15 : Nat))] ∈ Wg := wg_of 374 (by decide +kernel) rfl
theorem ml_L_44 : Cond.methodLink RL 44 y_S_count ∈ Wg := wg_of 375 (by decide +kernel) rfl
theorem im_S_count : Cond.instanceMethod y_S_count ∈ Wg := wg_of 376 (by decide +kernel) rfl
theorem se_S_count : Cond.selects RS y_S_count y_S_count ∈ Wg := wg_of 377 (by decide +kernel) rfl
theorem cd_S_count : Cond.code y_S_count b_S_count 9 (Option.some FieldType.int) ∈ Wg := wg_of 378 (by decide +kernel) rfl
theorem ml_S_94 : Cond.methodLink RS 94 y_S_brokenByCounting ∈ Wg := wg_of 379 (by decide +kernel) rfl
theorem sm_S_brokenByCounting : Cond.static y_S_brokenByCounting ∈ Wg := wg_of 380 (by decide +kernel) rfl
theorem cd_S_brokenByCounting : Cond.code y_S_brokenByCounting b_S_brokenByCounting 3 (Option.some FieldType.int) ∈ Wg := wg_of 381 (by decide +kernel) rfl
theorem ml_S_135 : Cond.methodLink RS 135 y_A_hasArrived ∈ Wg := wg_of 382 (by decide +kernel) rfl
theorem im_A_hasArrived : Cond.instanceMethod y_A_hasArrived ∈ Wg := wg_of 383 (by decide +kernel) rfl
theorem se_A_hasArrived : Cond.selects RA y_A_hasArrived y_A_hasArrived ∈ Wg := wg_of 384 (by decide +kernel) rfl
theorem cd_A_hasArrived : Cond.code y_A_hasArrived b_A_hasArrived 1 (Option.some FieldType.boolean) ∈ Wg := wg_of 385 (by decide +kernel) rfl
theorem ml_S_221 : Cond.methodLink RS 221 y_N_mostTaken ∈ Wg := wg_of 386 (by decide +kernel) rfl
theorem im_N_mostTaken : Cond.instanceMethod y_N_mostTaken ∈ Wg := wg_of 387 (by decide +kernel) rfl
theorem se_N_mostTaken : Cond.selects RN y_N_mostTaken y_N_mostTaken ∈ Wg := wg_of 388 (by decide +kernel) rfl
theorem cd_N_mostTaken : Cond.code y_N_mostTaken b_N_mostTaken 1 (Option.some FieldType.int) ∈ Wg := wg_of 389 (by decide +kernel) rfl
theorem ml_S_103 : Cond.methodLink RS 103 y_S_makeUnits ∈ Wg := wg_of 391 (by decide +kernel) rfl
theorem im_S_makeUnits : Cond.instanceMethod y_S_makeUnits ∈ Wg := wg_of 393 (by decide +kernel) rfl
theorem cd_S_makeUnits : Cond.code y_S_makeUnits b_S_makeUnits 5 (Option.none : Option FieldType) ∈ Wg := wg_of 394 (by decide +kernel) rfl
theorem is_U : Cond.instantiable RU 8 ∈ Wg := wg_of 395 (by decide +kernel) rfl
theorem ml_S_258 : Cond.methodLink RS 258 ⟨"java/lang/Math", "min", "(II)I"⟩ ∈ Wg := wg_of 396 (by decide +kernel) rfl
theorem ml_S_263 : Cond.methodLink RS 263 y_U_init ∈ Wg := wg_of 399 (by decide +kernel) rfl
theorem im_U_init : Cond.instanceMethod y_U_init ∈ Wg := wg_of 400 (by decide +kernel) rfl
theorem cd_U_init : Cond.code y_U_init b_U_init 4 (Option.none : Option FieldType) ∈ Wg := wg_of 401 (by decide +kernel) rfl
theorem ml_U_3 : Cond.methodLink RU 3 ⟨"java/lang/Object", "<init>", "()V"⟩ ∈ Wg := wg_of 402 (by decide +kernel) rfl
theorem fl_U_9 : Cond.fieldLink RU 9 "ReceiveSteps$Unit" "line" "LReceiveSteps$Line;" ∈ Wg := wg_of 403 (by decide +kernel) rfl
theorem fl_S_120 : Cond.fieldLink RS 120 "ReceiveSteps$Unit" "line" "LReceiveSteps$Line;" ∈ Wg := wg_of 404 (by decide +kernel) rfl
theorem fl_U_15 : Cond.fieldLink RU 15 "ReceiveSteps$Unit" "pieces" "I" ∈ Wg := wg_of 405 (by decide +kernel) rfl
theorem fl_S_210 : Cond.fieldLink RS 210 "ReceiveSteps$Unit" "pieces" "I" ∈ Wg := wg_of 406 (by decide +kernel) rfl
theorem fl_U_19 : Cond.fieldLink RU 19 "ReceiveSteps$Unit" "lot" "I" ∈ Wg := wg_of 407 (by decide +kernel) rfl
theorem fl_S_213 : Cond.fieldLink RS 213 "ReceiveSteps$Unit" "lot" "I" ∈ Wg := wg_of 408 (by decide +kernel) rfl
theorem fl_U_22 : Cond.fieldLink RU 22 "ReceiveSteps$Unit" "until" "I" ∈ Wg := wg_of 409 (by decide +kernel) rfl
theorem fl_S_148 : Cond.fieldLink RS 148 "ReceiveSteps$Unit" "until" "I" ∈ Wg := wg_of 410 (by decide +kernel) rfl
theorem fl_U_25 : Cond.fieldLink RU 25 "ReceiveSteps$Unit" "damage" "I" ∈ Wg := wg_of 411 (by decide +kernel) rfl
theorem fl_S_124 : Cond.fieldLink RS 124 "ReceiveSteps$Unit" "damage" "I" ∈ Wg := wg_of 412 (by decide +kernel) rfl
theorem fl_U_28 : Cond.fieldLink RU 28 "ReceiveSteps$Unit" "label" "I" ∈ Wg := wg_of 413 (by decide +kernel) rfl
theorem fl_S_172 : Cond.fieldLink RS 172 "ReceiveSteps$Unit" "label" "I" ∈ Wg := wg_of 414 (by decide +kernel) rfl
theorem fl_S_175 : Cond.fieldLink RS 175 "ReceiveSteps$Unit" "printed" "I" ∈ Wg := wg_of 415 (by decide +kernel) rfl
theorem fl_U_35 : Cond.fieldLink RU 35 "ReceiveSteps$Unit" "waits" "Z" ∈ Wg := wg_of 416 (by decide +kernel) rfl
theorem fl_S_154 : Cond.fieldLink RS 154 "ReceiveSteps$Unit" "waits" "Z" ∈ Wg := wg_of 417 (by decide +kernel) rfl
theorem ml_L_133 : Cond.methodLink RL 133 y_L_damaged ∈ Wg := wg_of 435 (by decide +kernel) rfl
theorem sm_L_damaged : Cond.static y_L_damaged ∈ Wg := wg_of 436 (by decide +kernel) rfl
theorem cd_L_damaged : Cond.codeWith y_L_damaged b_L_damaged 5 (Option.some FieldType.int) [((0 : Nat), (10 : Nat), (13 : Nat), (21 : Nat)), ((0 : Nat), (10 : Nat), (17 : Nat), (13 : Nat)), ((0 : Nat), (10 : Nat), (21 : Nat), (23 : Nat))] ∈ Wg := wg_of 437 (by decide +kernel) rfl
theorem ml_L_48 : Cond.methodLink RL 48 y_S_damaged ∈ Wg := wg_of 438 (by decide +kernel) rfl
theorem im_S_damaged : Cond.instanceMethod y_S_damaged ∈ Wg := wg_of 439 (by decide +kernel) rfl
theorem se_S_damaged : Cond.selects RS y_S_damaged y_S_damaged ∈ Wg := wg_of 440 (by decide +kernel) rfl
theorem cd_S_damaged : Cond.code y_S_damaged b_S_damaged 4 (Option.some FieldType.int) ∈ Wg := wg_of 441 (by decide +kernel) rfl
theorem ml_S_113 : Cond.methodLink RS 113 y_S_unitOf ∈ Wg := wg_of 442 (by decide +kernel) rfl
theorem im_S_unitOf : Cond.instanceMethod y_S_unitOf ∈ Wg := wg_of 444 (by decide +kernel) rfl
theorem cd_S_unitOf : Cond.code y_S_unitOf b_S_unitOf 3 (Option.some (FieldType.object "ReceiveSteps$Unit")) ∈ Wg := wg_of 445 (by decide +kernel) rfl
theorem ml_S_117 : Cond.methodLink RS 117 y_U_isDamaged ∈ Wg := wg_of 447 (by decide +kernel) rfl
theorem im_U_isDamaged : Cond.instanceMethod y_U_isDamaged ∈ Wg := wg_of 448 (by decide +kernel) rfl
theorem se_U_isDamaged : Cond.selects RU y_U_isDamaged y_U_isDamaged ∈ Wg := wg_of 449 (by decide +kernel) rfl
theorem cd_U_isDamaged : Cond.code y_U_isDamaged b_U_isDamaged 1 (Option.some FieldType.boolean) ∈ Wg := wg_of 450 (by decide +kernel) rfl
theorem ml_S_127 : Cond.methodLink RS 127 y_S_unitsInState ∈ Wg := wg_of 451 (by decide +kernel) rfl
theorem im_S_unitsInState : Cond.instanceMethod y_S_unitsInState ∈ Wg := wg_of 453 (by decide +kernel) rfl
theorem cd_S_unitsInState : Cond.code y_S_unitsInState b_S_unitsInState 6 (Option.some FieldType.int) ∈ Wg := wg_of 454 (by decide +kernel) rfl
theorem ml_S_157 : Cond.methodLink RS 157 y_U_stateNow ∈ Wg := wg_of 455 (by decide +kernel) rfl
theorem im_U_stateNow : Cond.instanceMethod y_U_stateNow ∈ Wg := wg_of 456 (by decide +kernel) rfl
theorem se_U_stateNow : Cond.selects RU y_U_stateNow y_U_stateNow ∈ Wg := wg_of 457 (by decide +kernel) rfl
theorem cd_U_stateNow : Cond.code y_U_stateNow b_U_stateNow 1 (Option.some FieldType.int) ∈ Wg := wg_of 458 (by decide +kernel) rfl
theorem ml_U_31 : Cond.methodLink RU 31 y_U_isDamaged ∈ Wg := wg_of 459 (by decide +kernel) rfl
theorem ml_L_136 : Cond.methodLink RL 136 y_L_sample ∈ Wg := wg_of 460 (by decide +kernel) rfl
theorem sm_L_sample : Cond.static y_L_sample ∈ Wg := wg_of 461 (by decide +kernel) rfl
theorem cd_L_sample : Cond.codeWith y_L_sample b_L_sample 6 (Option.some FieldType.int) [((0 : Nat), (12 : Nat), (15 : Nat), (21 : Nat)), ((0 : Nat), (12 : Nat), (19 : Nat), (23 : Nat))] ∈ Wg := wg_of 462 (by decide +kernel) rfl
theorem ml_L_51 : Cond.methodLink RL 51 y_S_sample ∈ Wg := wg_of 463 (by decide +kernel) rfl
theorem im_S_sample : Cond.instanceMethod y_S_sample ∈ Wg := wg_of 464 (by decide +kernel) rfl
theorem se_S_sample : Cond.selects RS y_S_sample y_S_sample ∈ Wg := wg_of 465 (by decide +kernel) rfl
theorem cd_S_sample : Cond.code y_S_sample b_S_sample 5 (Option.some FieldType.int) ∈ Wg := wg_of 466 (by decide +kernel) rfl
theorem ml_S_138 : Cond.methodLink RS 138 y_N_openSamples ∈ Wg := wg_of 467 (by decide +kernel) rfl
theorem im_N_openSamples : Cond.instanceMethod y_N_openSamples ∈ Wg := wg_of 468 (by decide +kernel) rfl
theorem se_N_openSamples : Cond.selects RN y_N_openSamples y_N_openSamples ∈ Wg := wg_of 469 (by decide +kernel) rfl
theorem cd_N_openSamples : Cond.code y_N_openSamples b_N_openSamples 1 (Option.some FieldType.int) ∈ Wg := wg_of 470 (by decide +kernel) rfl
theorem ml_N_32 : Cond.methodLink RN 32 ⟨"java/lang/Math", "max", "(II)I"⟩ ∈ Wg := wg_of 471 (by decide +kernel) rfl
theorem ml_L_139 : Cond.methodLink RL 139 y_L_date ∈ Wg := wg_of 474 (by decide +kernel) rfl
theorem sm_L_date : Cond.static y_L_date ∈ Wg := wg_of 475 (by decide +kernel) rfl
theorem cd_L_date : Cond.codeWith y_L_date b_L_date 5 (Option.some FieldType.int) [((0 : Nat), (10 : Nat), (13 : Nat), (21 : Nat)), ((0 : Nat), (10 : Nat), (17 : Nat), (13 : Nat)), ((0 : Nat), (10 : Nat), (21 : Nat), (23 : Nat))] ∈ Wg := wg_of 476 (by decide +kernel) rfl
theorem ml_L_54 : Cond.methodLink RL 54 y_S_date ∈ Wg := wg_of 477 (by decide +kernel) rfl
theorem im_S_date : Cond.instanceMethod y_S_date ∈ Wg := wg_of 478 (by decide +kernel) rfl
theorem se_S_date : Cond.selects RS y_S_date y_S_date ∈ Wg := wg_of 479 (by decide +kernel) rfl
theorem cd_S_date : Cond.code y_S_date b_S_date 4 (Option.some FieldType.int) ∈ Wg := wg_of 480 (by decide +kernel) rfl
theorem ml_L_142 : Cond.methodLink RL 142 y_L_take ∈ Wg := wg_of 481 (by decide +kernel) rfl
theorem sm_L_take : Cond.static y_L_take ∈ Wg := wg_of 482 (by decide +kernel) rfl
theorem cd_L_take : Cond.codeWith y_L_take b_L_take 5 (Option.some FieldType.int) [((0 : Nat), (10 : Nat), (13 : Nat), (21 : Nat)), ((0 : Nat), (10 : Nat), (17 : Nat), (13 : Nat)), ((0 : Nat), (10 : Nat), (21 : Nat), (23 : Nat))] ∈ Wg := wg_of 483 (by decide +kernel) rfl
theorem ml_L_57 : Cond.methodLink RL 57 y_S_take ∈ Wg := wg_of 484 (by decide +kernel) rfl
theorem im_S_take : Cond.instanceMethod y_S_take ∈ Wg := wg_of 485 (by decide +kernel) rfl
theorem se_S_take : Cond.selects RS y_S_take y_S_take ∈ Wg := wg_of 486 (by decide +kernel) rfl
theorem cd_S_take : Cond.code y_S_take b_S_take 4 (Option.some FieldType.int) ∈ Wg := wg_of 487 (by decide +kernel) rfl
theorem ml_L_145 : Cond.methodLink RL 145 y_L_label ∈ Wg := wg_of 488 (by decide +kernel) rfl
theorem sm_L_label : Cond.static y_L_label ∈ Wg := wg_of 489 (by decide +kernel) rfl
theorem cd_L_label : Cond.codeWith y_L_label b_L_label 4 (Option.some FieldType.int) [((0 : Nat), (9 : Nat), (12 : Nat), (21 : Nat))] ∈ Wg := wg_of 490 (by decide +kernel) rfl
theorem ml_L_60 : Cond.methodLink RL 60 y_S_label ∈ Wg := wg_of 491 (by decide +kernel) rfl
theorem im_S_label : Cond.instanceMethod y_S_label ∈ Wg := wg_of 492 (by decide +kernel) rfl
theorem se_S_label : Cond.selects RS y_S_label y_S_label ∈ Wg := wg_of 493 (by decide +kernel) rfl
theorem cd_S_label : Cond.code y_S_label b_S_label 3 (Option.some FieldType.int) ∈ Wg := wg_of 494 (by decide +kernel) rfl
theorem ml_S_160 : Cond.methodLink RS 160 y_U_hasLabel ∈ Wg := wg_of 495 (by decide +kernel) rfl
theorem im_U_hasLabel : Cond.instanceMethod y_U_hasLabel ∈ Wg := wg_of 496 (by decide +kernel) rfl
theorem se_U_hasLabel : Cond.selects RU y_U_hasLabel y_U_hasLabel ∈ Wg := wg_of 497 (by decide +kernel) rfl
theorem cd_U_hasLabel : Cond.code y_U_hasLabel b_U_hasLabel 1 (Option.some FieldType.boolean) ∈ Wg := wg_of 498 (by decide +kernel) rfl
theorem ml_S_169 : Cond.methodLink RS 169 y_S_labelFor ∈ Wg := wg_of 499 (by decide +kernel) rfl
theorem sm_S_labelFor : Cond.static y_S_labelFor ∈ Wg := wg_of 500 (by decide +kernel) rfl
theorem cd_S_labelFor : Cond.code y_S_labelFor b_S_labelFor 3 (Option.some FieldType.int) ∈ Wg := wg_of 501 (by decide +kernel) rfl
theorem co_S_265 : Cond.constant RS 265 100000 ∈ Wg := wg_of 502 (by decide +kernel) rfl
theorem ml_S_266 : Cond.methodLink RS 266 y_S_checkDigit ∈ Wg := wg_of 503 (by decide +kernel) rfl
theorem sm_S_checkDigit : Cond.static y_S_checkDigit ∈ Wg := wg_of 504 (by decide +kernel) rfl
theorem cd_S_checkDigit : Cond.code y_S_checkDigit b_S_checkDigit 5 (Option.some FieldType.int) ∈ Wg := wg_of 505 (by decide +kernel) rfl
theorem ml_L_149 : Cond.methodLink RL 149 y_L_again ∈ Wg := wg_of 506 (by decide +kernel) rfl
theorem sm_L_again : Cond.static y_L_again ∈ Wg := wg_of 507 (by decide +kernel) rfl
theorem cd_L_again : Cond.codeWith y_L_again b_L_again 4 (Option.some FieldType.int) [((0 : Nat), (9 : Nat), (12 : Nat), (21 : Nat)), ((0 : Nat), (9 : Nat), (15 : Nat), (23 : Nat))] ∈ Wg := wg_of 508 (by decide +kernel) rfl
theorem ml_L_64 : Cond.methodLink RL 64 y_S_again ∈ Wg := wg_of 509 (by decide +kernel) rfl
theorem im_S_again : Cond.instanceMethod y_S_again ∈ Wg := wg_of 510 (by decide +kernel) rfl
theorem se_S_again : Cond.selects RS y_S_again y_S_again ∈ Wg := wg_of 511 (by decide +kernel) rfl
theorem cd_S_again : Cond.code y_S_again b_S_again 3 (Option.some FieldType.int) ∈ Wg := wg_of 512 (by decide +kernel) rfl
theorem ml_L_152 : Cond.methodLink RL 152 y_L_close ∈ Wg := wg_of 513 (by decide +kernel) rfl
theorem sm_L_close : Cond.static y_L_close ∈ Wg := wg_of 514 (by decide +kernel) rfl
theorem cd_L_close : Cond.codeWith y_L_close b_L_close 5 (Option.some FieldType.int) [((0 : Nat), (10 : Nat), (13 : Nat), (21 : Nat)), ((0 : Nat), (10 : Nat), (17 : Nat), (23 : Nat))] ∈ Wg := wg_of 515 (by decide +kernel) rfl
theorem ml_L_67 : Cond.methodLink RL 67 y_S_close ∈ Wg := wg_of 516 (by decide +kernel) rfl
theorem im_S_close : Cond.instanceMethod y_S_close ∈ Wg := wg_of 517 (by decide +kernel) rfl
theorem se_S_close : Cond.selects RS y_S_close y_S_close ∈ Wg := wg_of 518 (by decide +kernel) rfl
theorem cd_S_close : Cond.code y_S_close b_S_close 4 (Option.some FieldType.int) ∈ Wg := wg_of 519 (by decide +kernel) rfl
theorem ml_S_178 : Cond.methodLink RS 178 y_S_lacksLabel ∈ Wg := wg_of 520 (by decide +kernel) rfl
theorem im_S_lacksLabel : Cond.instanceMethod y_S_lacksLabel ∈ Wg := wg_of 522 (by decide +kernel) rfl
theorem cd_S_lacksLabel : Cond.code y_S_lacksLabel b_S_lacksLabel 4 (Option.some FieldType.boolean) ∈ Wg := wg_of 523 (by decide +kernel) rfl
theorem ml_S_185 : Cond.methodLink RS 185 y_S_noteDifference ∈ Wg := wg_of 524 (by decide +kernel) rfl
theorem im_S_noteDifference : Cond.instanceMethod y_S_noteDifference ∈ Wg := wg_of 526 (by decide +kernel) rfl
theorem cd_S_noteDifference : Cond.code y_S_noteDifference b_S_noteDifference 2 (Option.none : Option FieldType) ∈ Wg := wg_of 527 (by decide +kernel) rfl
theorem ml_L_155 : Cond.methodLink RL 155 y_L_closeAll ∈ Wg := wg_of 528 (by decide +kernel) rfl
theorem sm_L_closeAll : Cond.static y_L_closeAll ∈ Wg := wg_of 529 (by decide +kernel) rfl
theorem cd_L_closeAll : Cond.codeWith y_L_closeAll b_L_closeAll 4 (Option.some FieldType.int) [((0 : Nat), (9 : Nat), (12 : Nat), (21 : Nat)), ((0 : Nat), (9 : Nat), (15 : Nat), (23 : Nat))] ∈ Wg := wg_of 530 (by decide +kernel) rfl
theorem ml_L_70 : Cond.methodLink RL 70 y_S_closeAll ∈ Wg := wg_of 531 (by decide +kernel) rfl
theorem im_S_closeAll : Cond.instanceMethod y_S_closeAll ∈ Wg := wg_of 532 (by decide +kernel) rfl
theorem se_S_closeAll : Cond.selects RS y_S_closeAll y_S_closeAll ∈ Wg := wg_of 533 (by decide +kernel) rfl
theorem cd_S_closeAll : Cond.code y_S_closeAll b_S_closeAll 4 (Option.some FieldType.int) ∈ Wg := wg_of 534 (by decide +kernel) rfl
theorem ml_S_189 : Cond.methodLink RS 189 y_A_firstOpenLine ∈ Wg := wg_of 535 (by decide +kernel) rfl
theorem im_A_firstOpenLine : Cond.instanceMethod y_A_firstOpenLine ∈ Wg := wg_of 536 (by decide +kernel) rfl
theorem se_A_firstOpenLine : Cond.selects RA y_A_firstOpenLine y_A_firstOpenLine ∈ Wg := wg_of 537 (by decide +kernel) rfl
theorem cd_A_firstOpenLine : Cond.code y_A_firstOpenLine b_A_firstOpenLine 3 (Option.some FieldType.int) ∈ Wg := wg_of 538 (by decide +kernel) rfl
theorem ml_L_158 : Cond.methodLink RL 158 y_L_day ∈ Wg := wg_of 539 (by decide +kernel) rfl
theorem sm_L_day : Cond.static y_L_day ∈ Wg := wg_of 540 (by decide +kernel) rfl
theorem cd_L_day : Cond.codeWith y_L_day b_L_day 3 (Option.some FieldType.int) [((0 : Nat), (5 : Nat), (8 : Nat), (13 : Nat)), ((0 : Nat), (5 : Nat), (11 : Nat), (23 : Nat))] ∈ Wg := wg_of 541 (by decide +kernel) rfl
theorem ml_L_73 : Cond.methodLink RL 73 y_S_day ∈ Wg := wg_of 542 (by decide +kernel) rfl
theorem im_S_day : Cond.instanceMethod y_S_day ∈ Wg := wg_of 543 (by decide +kernel) rfl
theorem se_S_day : Cond.selects RS y_S_day y_S_day ∈ Wg := wg_of 544 (by decide +kernel) rfl
theorem cd_S_day : Cond.code y_S_day b_S_day 2 (Option.none : Option FieldType) ∈ Wg := wg_of 545 (by decide +kernel) rfl
theorem ml_L_162 : Cond.methodLink RL 162 y_L_differ ∈ Wg := wg_of 546 (by decide +kernel) rfl
theorem sm_L_differ : Cond.static y_L_differ ∈ Wg := wg_of 547 (by decide +kernel) rfl
theorem cd_L_differ : Cond.codeWith y_L_differ b_L_differ 5 (Option.some FieldType.int) [((0 : Nat), (10 : Nat), (13 : Nat), (21 : Nat)), ((0 : Nat), (10 : Nat), (17 : Nat), (13 : Nat))] ∈ Wg := wg_of 548 (by decide +kernel) rfl
theorem ml_L_77 : Cond.methodLink RL 77 y_S_differ ∈ Wg := wg_of 549 (by decide +kernel) rfl
theorem im_S_differ : Cond.instanceMethod y_S_differ ∈ Wg := wg_of 550 (by decide +kernel) rfl
theorem se_S_differ : Cond.selects RS y_S_differ y_S_differ ∈ Wg := wg_of 551 (by decide +kernel) rfl
theorem cd_S_differ : Cond.code y_S_differ b_S_differ 4 (Option.some FieldType.int) ∈ Wg := wg_of 552 (by decide +kernel) rfl
theorem ml_S_192 : Cond.methodLink RS 192 y_S_differenceOf ∈ Wg := wg_of 553 (by decide +kernel) rfl
theorem im_S_differenceOf : Cond.instanceMethod y_S_differenceOf ∈ Wg := wg_of 555 (by decide +kernel) rfl
theorem cd_S_differenceOf : Cond.code y_S_differenceOf b_S_differenceOf 3 (Option.some (FieldType.object "ReceiveSteps$Line")) ∈ Wg := wg_of 556 (by decide +kernel) rfl
theorem ml_L_165 : Cond.methodLink RL 165 y_L_claim ∈ Wg := wg_of 559 (by decide +kernel) rfl
theorem sm_L_claim : Cond.static y_L_claim ∈ Wg := wg_of 560 (by decide +kernel) rfl
theorem cd_L_claim : Cond.codeWith y_L_claim b_L_claim 5 (Option.some FieldType.int) [((0 : Nat), (10 : Nat), (13 : Nat), (21 : Nat)), ((0 : Nat), (10 : Nat), (17 : Nat), (13 : Nat))] ∈ Wg := wg_of 561 (by decide +kernel) rfl
theorem ml_L_80 : Cond.methodLink RL 80 y_S_claim ∈ Wg := wg_of 562 (by decide +kernel) rfl
theorem im_S_claim : Cond.instanceMethod y_S_claim ∈ Wg := wg_of 563 (by decide +kernel) rfl
theorem se_S_claim : Cond.selects RS y_S_claim y_S_claim ∈ Wg := wg_of 564 (by decide +kernel) rfl
theorem cd_S_claim : Cond.code y_S_claim b_S_claim 7 (Option.some FieldType.int) ∈ Wg := wg_of 565 (by decide +kernel) rfl
theorem ml_L_168 : Cond.methodLink RL 168 y_L_unit ∈ Wg := wg_of 567 (by decide +kernel) rfl
theorem sm_L_unit : Cond.static y_L_unit ∈ Wg := wg_of 568 (by decide +kernel) rfl
theorem cd_L_unit : Cond.codeWith y_L_unit b_L_unit 5 (Option.some FieldType.int) [((0 : Nat), (10 : Nat), (13 : Nat), (21 : Nat)), ((0 : Nat), (10 : Nat), (17 : Nat), (13 : Nat))] ∈ Wg := wg_of 569 (by decide +kernel) rfl
theorem ml_L_83 : Cond.methodLink RL 83 y_S_unit ∈ Wg := wg_of 570 (by decide +kernel) rfl
theorem im_S_unit : Cond.instanceMethod y_S_unit ∈ Wg := wg_of 571 (by decide +kernel) rfl
theorem se_S_unit : Cond.selects RS y_S_unit y_S_unit ∈ Wg := wg_of 572 (by decide +kernel) rfl
theorem cd_S_unit : Cond.code y_S_unit b_S_unit 4 (Option.some FieldType.int) ∈ Wg := wg_of 573 (by decide +kernel) rfl
theorem ml_L_171 : Cond.methodLink RL 171 y_L_told ∈ Wg := wg_of 575 (by decide +kernel) rfl
theorem sm_L_told : Cond.static y_L_told ∈ Wg := wg_of 576 (by decide +kernel) rfl
theorem cd_L_told : Cond.codeWith y_L_told b_L_told 6 (Option.some FieldType.int) [((0 : Nat), (12 : Nat), (15 : Nat), (21 : Nat)), ((0 : Nat), (12 : Nat), (19 : Nat), (13 : Nat))] ∈ Wg := wg_of 577 (by decide +kernel) rfl
theorem ml_L_86 : Cond.methodLink RL 86 y_S_told ∈ Wg := wg_of 578 (by decide +kernel) rfl
theorem im_S_told : Cond.instanceMethod y_S_told ∈ Wg := wg_of 579 (by decide +kernel) rfl
theorem se_S_told : Cond.selects RS y_S_told y_S_told ∈ Wg := wg_of 580 (by decide +kernel) rfl
theorem cd_S_told : Cond.code y_S_told b_S_told 5 (Option.some FieldType.int) ∈ Wg := wg_of 581 (by decide +kernel) rfl
theorem ml_L_174 : Cond.methodLink RL 174 y_L_state ∈ Wg := wg_of 583 (by decide +kernel) rfl
theorem sm_L_state : Cond.static y_L_state ∈ Wg := wg_of 584 (by decide +kernel) rfl
theorem cd_L_state : Cond.codeWith y_L_state b_L_state 5 (Option.some FieldType.int) [((0 : Nat), (10 : Nat), (13 : Nat), (21 : Nat)), ((0 : Nat), (10 : Nat), (17 : Nat), (13 : Nat))] ∈ Wg := wg_of 585 (by decide +kernel) rfl
theorem ml_L_89 : Cond.methodLink RL 89 y_S_state ∈ Wg := wg_of 586 (by decide +kernel) rfl
theorem im_S_state : Cond.instanceMethod y_S_state ∈ Wg := wg_of 587 (by decide +kernel) rfl
theorem se_S_state : Cond.selects RS y_S_state y_S_state ∈ Wg := wg_of 588 (by decide +kernel) rfl
theorem cd_S_state : Cond.code y_S_state b_S_state 4 (Option.some FieldType.int) ∈ Wg := wg_of 589 (by decide +kernel) rfl
theorem kl_L_93 : Cond.classLink RL 93 "ReceiveStepsModel" ∈ Wg := wg_of 591 (by decide +kernel) rfl
theorem is_M : Cond.instantiable RM 31 ∈ Wg := wg_of 592 (by decide +kernel) rfl
theorem ml_L_95 : Cond.methodLink RL 95 y_M_init ∈ Wg := wg_of 593 (by decide +kernel) rfl
theorem im_M_init : Cond.instanceMethod y_M_init ∈ Wg := wg_of 594 (by decide +kernel) rfl
theorem cd_M_init : Cond.code y_M_init b_M_init 1 (Option.none : Option FieldType) ∈ Wg := wg_of 595 (by decide +kernel) rfl
theorem ml_M_1 : Cond.methodLink RM 1 ⟨"java/lang/Object", "<init>", "()V"⟩ ∈ Wg := wg_of 596 (by decide +kernel) rfl
theorem fl_M_83 : Cond.fieldLink RM 83 "ReceiveStepsModel" "code" "I" ∈ Wg := wg_of 597 (by decide +kernel) rfl
theorem fl_M_121 : Cond.fieldLink RM 121 "ReceiveStepsModel" "today" "I" ∈ Wg := wg_of 598 (by decide +kernel) rfl
theorem fl_M_7 : Cond.fieldLink RM 7 "ReceiveStepsModel" "rights" "[Z" ∈ Wg := wg_of 599 (by decide +kernel) rfl
theorem fl_M_87 : Cond.fieldLink RM 87 "ReceiveStepsModel" "announcements" "I" ∈ Wg := wg_of 600 (by decide +kernel) rfl
theorem fl_M_13 : Cond.fieldLink RM 13 "ReceiveStepsModel" "owner" "[I" ∈ Wg := wg_of 601 (by decide +kernel) rfl
theorem fl_M_17 : Cond.fieldLink RM 17 "ReceiveStepsModel" "lineCount" "[I" ∈ Wg := wg_of 602 (by decide +kernel) rfl
theorem fl_M_20 : Cond.fieldLink RM 20 "ReceiveStepsModel" "told" "[I" ∈ Wg := wg_of 603 (by decide +kernel) rfl
theorem fl_M_23 : Cond.fieldLink RM 23 "ReceiveStepsModel" "state" "[I" ∈ Wg := wg_of 604 (by decide +kernel) rfl
theorem fl_M_26 : Cond.fieldLink RM 26 "ReceiveStepsModel" "door" "[I" ∈ Wg := wg_of 605 (by decide +kernel) rfl
theorem fl_M_29 : Cond.fieldLink RM 29 "ReceiveStepsModel" "good" "[I" ∈ Wg := wg_of 606 (by decide +kernel) rfl
theorem fl_M_32 : Cond.fieldLink RM 32 "ReceiveStepsModel" "announced" "[I" ∈ Wg := wg_of 607 (by decide +kernel) rfl
theorem fl_M_35 : Cond.fieldLink RM 35 "ReceiveStepsModel" "tolerance" "[I" ∈ Wg := wg_of 608 (by decide +kernel) rfl
theorem fl_M_38 : Cond.fieldLink RM 38 "ReceiveStepsModel" "counted" "[I" ∈ Wg := wg_of 609 (by decide +kernel) rfl
theorem fl_M_41 : Cond.fieldLink RM 41 "ReceiveStepsModel" "wanted" "[I" ∈ Wg := wg_of 610 (by decide +kernel) rfl
theorem fl_M_44 : Cond.fieldLink RM 44 "ReceiveStepsModel" "verdicts" "[I" ∈ Wg := wg_of 611 (by decide +kernel) rfl
theorem fl_M_47 : Cond.fieldLink RM 47 "ReceiveStepsModel" "bad" "[Z" ∈ Wg := wg_of 612 (by decide +kernel) rfl
theorem fl_M_50 : Cond.fieldLink RM 50 "ReceiveStepsModel" "closed" "[Z" ∈ Wg := wg_of 613 (by decide +kernel) rfl
theorem fl_M_53 : Cond.fieldLink RM 53 "ReceiveStepsModel" "countedBy" "[Z" ∈ Wg := wg_of 614 (by decide +kernel) rfl
theorem fl_M_98 : Cond.fieldLink RM 98 "ReceiveStepsModel" "units" "I" ∈ Wg := wg_of 615 (by decide +kernel) rfl
theorem fl_M_56 : Cond.fieldLink RM 56 "ReceiveStepsModel" "lineOf" "[I" ∈ Wg := wg_of 616 (by decide +kernel) rfl
theorem fl_M_59 : Cond.fieldLink RM 59 "ReceiveStepsModel" "unitState" "[I" ∈ Wg := wg_of 617 (by decide +kernel) rfl
theorem fl_M_62 : Cond.fieldLink RM 62 "ReceiveStepsModel" "pieces" "[I" ∈ Wg := wg_of 618 (by decide +kernel) rfl
theorem fl_M_65 : Cond.fieldLink RM 65 "ReceiveStepsModel" "lot" "[I" ∈ Wg := wg_of 619 (by decide +kernel) rfl
theorem fl_M_68 : Cond.fieldLink RM 68 "ReceiveStepsModel" "until" "[I" ∈ Wg := wg_of 620 (by decide +kernel) rfl
theorem fl_M_71 : Cond.fieldLink RM 71 "ReceiveStepsModel" "damage" "[I" ∈ Wg := wg_of 621 (by decide +kernel) rfl
theorem fl_M_74 : Cond.fieldLink RM 74 "ReceiveStepsModel" "label" "[I" ∈ Wg := wg_of 622 (by decide +kernel) rfl
theorem fl_M_77 : Cond.fieldLink RM 77 "ReceiveStepsModel" "printed" "[I" ∈ Wg := wg_of 623 (by decide +kernel) rfl
theorem fl_M_127 : Cond.fieldLink RM 127 "ReceiveStepsModel" "labels" "I" ∈ Wg := wg_of 624 (by decide +kernel) rfl
theorem fl_M_138 : Cond.fieldLink RM 138 "ReceiveStepsModel" "closings" "I" ∈ Wg := wg_of 625 (by decide +kernel) rfl
theorem fl_M_141 : Cond.fieldLink RM 141 "ReceiveStepsModel" "differences" "I" ∈ Wg := wg_of 626 (by decide +kernel) rfl
theorem fl_M_80 : Cond.fieldLink RM 80 "ReceiveStepsModel" "differing" "[I" ∈ Wg := wg_of 627 (by decide +kernel) rfl
theorem ac_boolean : Cond.arrayClass .boolean ∈ Wg := wg_of 691 (by decide +kernel) rfl
theorem ac_int : Cond.arrayClass .int ∈ Wg := wg_of 692 (by decide +kernel) rfl
theorem ml_L_102 : Cond.methodLink RL 102 y_M_thrown ∈ Wg := wg_of 693 (by decide +kernel) rfl
theorem im_M_thrown : Cond.instanceMethod y_M_thrown ∈ Wg := wg_of 694 (by decide +kernel) rfl
theorem se_M_thrown : Cond.selects RM y_M_thrown y_M_thrown ∈ Wg := wg_of 695 (by decide +kernel) rfl
theorem cd_M_thrown : Cond.code y_M_thrown b_M_thrown 1 (Option.some FieldType.int) ∈ Wg := wg_of 696 (by decide +kernel) rfl
theorem ml_L_101 : Cond.methodLink RL 101 y_M_announce ∈ Wg := wg_of 697 (by decide +kernel) rfl
theorem im_M_announce : Cond.instanceMethod y_M_announce ∈ Wg := wg_of 698 (by decide +kernel) rfl
theorem se_M_announce : Cond.selects RM y_M_announce y_M_announce ∈ Wg := wg_of 699 (by decide +kernel) rfl
theorem cd_M_announce : Cond.code y_M_announce b_M_announce 3 (Option.some FieldType.int) ∈ Wg := wg_of 700 (by decide +kernel) rfl
theorem ml_M_90 : Cond.methodLink RM 90 y_M_in ∈ Wg := wg_of 701 (by decide +kernel) rfl
theorem sm_M_in : Cond.static y_M_in ∈ Wg := wg_of 702 (by decide +kernel) rfl
theorem cd_M_in : Cond.code y_M_in b_M_in 3 (Option.some FieldType.boolean) ∈ Wg := wg_of 703 (by decide +kernel) rfl
theorem ml_L_109 : Cond.methodLink RL 109 y_M_line ∈ Wg := wg_of 704 (by decide +kernel) rfl
theorem im_M_line : Cond.instanceMethod y_M_line ∈ Wg := wg_of 705 (by decide +kernel) rfl
theorem se_M_line : Cond.selects RM y_M_line y_M_line ∈ Wg := wg_of 706 (by decide +kernel) rfl
theorem cd_M_line : Cond.code y_M_line b_M_line 5 (Option.some FieldType.int) ∈ Wg := wg_of 707 (by decide +kernel) rfl
theorem ml_M_94 : Cond.methodLink RM 94 y_M_isAnnouncement ∈ Wg := wg_of 708 (by decide +kernel) rfl
theorem im_M_isAnnouncement : Cond.instanceMethod y_M_isAnnouncement ∈ Wg := wg_of 710 (by decide +kernel) rfl
theorem cd_M_isAnnouncement : Cond.code y_M_isAnnouncement b_M_isAnnouncement 2 (Option.some FieldType.boolean) ∈ Wg := wg_of 711 (by decide +kernel) rfl
theorem ml_L_113 : Cond.methodLink RL 113 y_M_arrive ∈ Wg := wg_of 712 (by decide +kernel) rfl
theorem im_M_arrive : Cond.instanceMethod y_M_arrive ∈ Wg := wg_of 713 (by decide +kernel) rfl
theorem se_M_arrive : Cond.selects RM y_M_arrive y_M_arrive ∈ Wg := wg_of 714 (by decide +kernel) rfl
theorem cd_M_arrive : Cond.code y_M_arrive b_M_arrive 4 (Option.some FieldType.int) ∈ Wg := wg_of 715 (by decide +kernel) rfl
theorem ml_M_101 : Cond.methodLink RM 101 y_M_isTaken ∈ Wg := wg_of 716 (by decide +kernel) rfl
theorem im_M_isTaken : Cond.instanceMethod y_M_isTaken ∈ Wg := wg_of 718 (by decide +kernel) rfl
theorem cd_M_isTaken : Cond.code y_M_isTaken b_M_isTaken 3 (Option.some FieldType.boolean) ∈ Wg := wg_of 719 (by decide +kernel) rfl
theorem ml_L_117 : Cond.methodLink RL 117 y_M_accept ∈ Wg := wg_of 720 (by decide +kernel) rfl
theorem im_M_accept : Cond.instanceMethod y_M_accept ∈ Wg := wg_of 721 (by decide +kernel) rfl
theorem se_M_accept : Cond.selects RM y_M_accept y_M_accept ∈ Wg := wg_of 722 (by decide +kernel) rfl
theorem cd_M_accept : Cond.code y_M_accept b_M_accept 3 (Option.none : Option FieldType) ∈ Wg := wg_of 723 (by decide +kernel) rfl
theorem ml_M_104 : Cond.methodLink RM 104 y_M_isPerson ∈ Wg := wg_of 724 (by decide +kernel) rfl
theorem sm_M_isPerson : Cond.static y_M_isPerson ∈ Wg := wg_of 725 (by decide +kernel) rfl
theorem cd_M_isPerson : Cond.code y_M_isPerson b_M_isPerson 1 (Option.some FieldType.boolean) ∈ Wg := wg_of 726 (by decide +kernel) rfl
theorem ml_L_121 : Cond.methodLink RL 121 y_M_right ∈ Wg := wg_of 727 (by decide +kernel) rfl
theorem im_M_right : Cond.instanceMethod y_M_right ∈ Wg := wg_of 728 (by decide +kernel) rfl
theorem se_M_right : Cond.selects RM y_M_right y_M_right ∈ Wg := wg_of 729 (by decide +kernel) rfl
theorem cd_M_right : Cond.code y_M_right b_M_right 3 (Option.none : Option FieldType) ∈ Wg := wg_of 730 (by decide +kernel) rfl
theorem ml_L_125 : Cond.methodLink RL 125 y_M_tolerance ∈ Wg := wg_of 731 (by decide +kernel) rfl
theorem im_M_tolerance : Cond.instanceMethod y_M_tolerance ∈ Wg := wg_of 732 (by decide +kernel) rfl
theorem se_M_tolerance : Cond.selects RM y_M_tolerance y_M_tolerance ∈ Wg := wg_of 733 (by decide +kernel) rfl
theorem cd_M_tolerance : Cond.code y_M_tolerance b_M_tolerance 4 (Option.none : Option FieldType) ∈ Wg := wg_of 734 (by decide +kernel) rfl
theorem ml_M_107 : Cond.methodLink RM 107 y_M_isLine ∈ Wg := wg_of 735 (by decide +kernel) rfl
theorem im_M_isLine : Cond.instanceMethod y_M_isLine ∈ Wg := wg_of 737 (by decide +kernel) rfl
theorem cd_M_isLine : Cond.code y_M_isLine b_M_isLine 3 (Option.some FieldType.boolean) ∈ Wg := wg_of 738 (by decide +kernel) rfl
theorem ml_L_128 : Cond.methodLink RL 128 y_M_wanted ∈ Wg := wg_of 739 (by decide +kernel) rfl
theorem im_M_wanted : Cond.instanceMethod y_M_wanted ∈ Wg := wg_of 740 (by decide +kernel) rfl
theorem se_M_wanted : Cond.selects RM y_M_wanted y_M_wanted ∈ Wg := wg_of 741 (by decide +kernel) rfl
theorem cd_M_wanted : Cond.code y_M_wanted b_M_wanted 4 (Option.none : Option FieldType) ∈ Wg := wg_of 742 (by decide +kernel) rfl
theorem ml_L_132 : Cond.methodLink RL 132 y_M_count ∈ Wg := wg_of 743 (by decide +kernel) rfl
theorem im_M_count : Cond.instanceMethod y_M_count ∈ Wg := wg_of 744 (by decide +kernel) rfl
theorem se_M_count : Cond.selects RM y_M_count y_M_count ∈ Wg := wg_of 745 (by decide +kernel) rfl
theorem cd_M_count : Cond.code y_M_count b_M_count 9 (Option.some FieldType.int) ∈ Wg := wg_of 746 (by decide +kernel) rfl
theorem ml_M_111 : Cond.methodLink RM 111 y_M_takes ∈ Wg := wg_of 747 (by decide +kernel) rfl
theorem im_M_takes : Cond.instanceMethod y_M_takes ∈ Wg := wg_of 749 (by decide +kernel) rfl
theorem cd_M_takes : Cond.code y_M_takes b_M_takes 2 (Option.some FieldType.int) ∈ Wg := wg_of 750 (by decide +kernel) rfl
theorem ml_L_135 : Cond.methodLink RL 135 y_M_damaged ∈ Wg := wg_of 751 (by decide +kernel) rfl
theorem im_M_damaged : Cond.instanceMethod y_M_damaged ∈ Wg := wg_of 752 (by decide +kernel) rfl
theorem se_M_damaged : Cond.selects RM y_M_damaged y_M_damaged ∈ Wg := wg_of 753 (by decide +kernel) rfl
theorem cd_M_damaged : Cond.code y_M_damaged b_M_damaged 5 (Option.some FieldType.int) ∈ Wg := wg_of 754 (by decide +kernel) rfl
theorem ml_M_115 : Cond.methodLink RM 115 y_M_isUnit ∈ Wg := wg_of 755 (by decide +kernel) rfl
theorem im_M_isUnit : Cond.instanceMethod y_M_isUnit ∈ Wg := wg_of 757 (by decide +kernel) rfl
theorem cd_M_isUnit : Cond.code y_M_isUnit b_M_isUnit 2 (Option.some FieldType.boolean) ∈ Wg := wg_of 758 (by decide +kernel) rfl
theorem ml_L_138 : Cond.methodLink RL 138 y_M_sample ∈ Wg := wg_of 759 (by decide +kernel) rfl
theorem im_M_sample : Cond.instanceMethod y_M_sample ∈ Wg := wg_of 760 (by decide +kernel) rfl
theorem se_M_sample : Cond.selects RM y_M_sample y_M_sample ∈ Wg := wg_of 761 (by decide +kernel) rfl
theorem cd_M_sample : Cond.code y_M_sample b_M_sample 6 (Option.some FieldType.int) ∈ Wg := wg_of 762 (by decide +kernel) rfl
theorem ml_M_118 : Cond.methodLink RM 118 y_M_openSamples ∈ Wg := wg_of 763 (by decide +kernel) rfl
theorem im_M_openSamples : Cond.instanceMethod y_M_openSamples ∈ Wg := wg_of 765 (by decide +kernel) rfl
theorem cd_M_openSamples : Cond.code y_M_openSamples b_M_openSamples 2 (Option.some FieldType.int) ∈ Wg := wg_of 766 (by decide +kernel) rfl
theorem ml_L_141 : Cond.methodLink RL 141 y_M_date ∈ Wg := wg_of 767 (by decide +kernel) rfl
theorem im_M_date : Cond.instanceMethod y_M_date ∈ Wg := wg_of 768 (by decide +kernel) rfl
theorem se_M_date : Cond.selects RM y_M_date y_M_date ∈ Wg := wg_of 769 (by decide +kernel) rfl
theorem cd_M_date : Cond.code y_M_date b_M_date 3 (Option.some FieldType.int) ∈ Wg := wg_of 770 (by decide +kernel) rfl
theorem ml_M_124 : Cond.methodLink RM 124 y_M_plainState ∈ Wg := wg_of 771 (by decide +kernel) rfl
theorem im_M_plainState : Cond.instanceMethod y_M_plainState ∈ Wg := wg_of 773 (by decide +kernel) rfl
theorem cd_M_plainState : Cond.code y_M_plainState b_M_plainState 2 (Option.some FieldType.int) ∈ Wg := wg_of 774 (by decide +kernel) rfl
theorem ml_L_144 : Cond.methodLink RL 144 y_M_take ∈ Wg := wg_of 775 (by decide +kernel) rfl
theorem im_M_take : Cond.instanceMethod y_M_take ∈ Wg := wg_of 776 (by decide +kernel) rfl
theorem se_M_take : Cond.selects RM y_M_take y_M_take ∈ Wg := wg_of 777 (by decide +kernel) rfl
theorem cd_M_take : Cond.code y_M_take b_M_take 3 (Option.some FieldType.int) ∈ Wg := wg_of 778 (by decide +kernel) rfl
theorem ml_L_148 : Cond.methodLink RL 148 y_M_label ∈ Wg := wg_of 779 (by decide +kernel) rfl
theorem im_M_label : Cond.instanceMethod y_M_label ∈ Wg := wg_of 780 (by decide +kernel) rfl
theorem se_M_label : Cond.selects RM y_M_label y_M_label ∈ Wg := wg_of 781 (by decide +kernel) rfl
theorem cd_M_label : Cond.code y_M_label b_M_label 2 (Option.some FieldType.int) ∈ Wg := wg_of 782 (by decide +kernel) rfl
theorem co_M_130 : Cond.constant RM 130 100000 ∈ Wg := wg_of 783 (by decide +kernel) rfl
theorem ml_M_131 : Cond.methodLink RM 131 y_M_checked ∈ Wg := wg_of 784 (by decide +kernel) rfl
theorem sm_M_checked : Cond.static y_M_checked ∈ Wg := wg_of 785 (by decide +kernel) rfl
theorem cd_M_checked : Cond.code y_M_checked b_M_checked 4 (Option.some FieldType.int) ∈ Wg := wg_of 786 (by decide +kernel) rfl
theorem ml_L_151 : Cond.methodLink RL 151 y_M_again ∈ Wg := wg_of 787 (by decide +kernel) rfl
theorem im_M_again : Cond.instanceMethod y_M_again ∈ Wg := wg_of 788 (by decide +kernel) rfl
theorem se_M_again : Cond.selects RM y_M_again y_M_again ∈ Wg := wg_of 789 (by decide +kernel) rfl
theorem cd_M_again : Cond.code y_M_again b_M_again 2 (Option.some FieldType.int) ∈ Wg := wg_of 790 (by decide +kernel) rfl
theorem ml_L_154 : Cond.methodLink RL 154 y_M_close ∈ Wg := wg_of 791 (by decide +kernel) rfl
theorem im_M_close : Cond.instanceMethod y_M_close ∈ Wg := wg_of 792 (by decide +kernel) rfl
theorem se_M_close : Cond.selects RM y_M_close y_M_close ∈ Wg := wg_of 793 (by decide +kernel) rfl
theorem cd_M_close : Cond.code y_M_close b_M_close 4 (Option.some FieldType.int) ∈ Wg := wg_of 794 (by decide +kernel) rfl
theorem ml_M_134 : Cond.methodLink RM 134 y_M_hasOne ∈ Wg := wg_of 795 (by decide +kernel) rfl
theorem im_M_hasOne : Cond.instanceMethod y_M_hasOne ∈ Wg := wg_of 797 (by decide +kernel) rfl
theorem cd_M_hasOne : Cond.code y_M_hasOne b_M_hasOne 4 (Option.some FieldType.boolean) ∈ Wg := wg_of 798 (by decide +kernel) rfl
theorem ml_L_157 : Cond.methodLink RL 157 y_M_closeAll ∈ Wg := wg_of 799 (by decide +kernel) rfl
theorem im_M_closeAll : Cond.instanceMethod y_M_closeAll ∈ Wg := wg_of 800 (by decide +kernel) rfl
theorem se_M_closeAll : Cond.selects RM y_M_closeAll y_M_closeAll ∈ Wg := wg_of 801 (by decide +kernel) rfl
theorem cd_M_closeAll : Cond.code y_M_closeAll b_M_closeAll 3 (Option.some FieldType.int) ∈ Wg := wg_of 802 (by decide +kernel) rfl
theorem ml_L_161 : Cond.methodLink RL 161 y_M_day ∈ Wg := wg_of 803 (by decide +kernel) rfl
theorem im_M_day : Cond.instanceMethod y_M_day ∈ Wg := wg_of 804 (by decide +kernel) rfl
theorem se_M_day : Cond.selects RM y_M_day y_M_day ∈ Wg := wg_of 805 (by decide +kernel) rfl
theorem cd_M_day : Cond.code y_M_day b_M_day 2 (Option.none : Option FieldType) ∈ Wg := wg_of 806 (by decide +kernel) rfl
theorem ml_L_164 : Cond.methodLink RL 164 y_M_differ ∈ Wg := wg_of 807 (by decide +kernel) rfl
theorem im_M_differ : Cond.instanceMethod y_M_differ ∈ Wg := wg_of 808 (by decide +kernel) rfl
theorem se_M_differ : Cond.selects RM y_M_differ y_M_differ ∈ Wg := wg_of 809 (by decide +kernel) rfl
theorem cd_M_differ : Cond.code y_M_differ b_M_differ 4 (Option.some FieldType.int) ∈ Wg := wg_of 810 (by decide +kernel) rfl
theorem ml_L_167 : Cond.methodLink RL 167 y_M_claim ∈ Wg := wg_of 811 (by decide +kernel) rfl
theorem im_M_claim : Cond.instanceMethod y_M_claim ∈ Wg := wg_of 812 (by decide +kernel) rfl
theorem se_M_claim : Cond.selects RM y_M_claim y_M_claim ∈ Wg := wg_of 813 (by decide +kernel) rfl
theorem cd_M_claim : Cond.code y_M_claim b_M_claim 5 (Option.some FieldType.int) ∈ Wg := wg_of 814 (by decide +kernel) rfl
theorem ml_L_170 : Cond.methodLink RL 170 y_M_unit ∈ Wg := wg_of 815 (by decide +kernel) rfl
theorem im_M_unit : Cond.instanceMethod y_M_unit ∈ Wg := wg_of 816 (by decide +kernel) rfl
theorem se_M_unit : Cond.selects RM y_M_unit y_M_unit ∈ Wg := wg_of 817 (by decide +kernel) rfl
theorem cd_M_unit : Cond.code y_M_unit b_M_unit 3 (Option.some FieldType.int) ∈ Wg := wg_of 818 (by decide +kernel) rfl
theorem ml_L_173 : Cond.methodLink RL 173 y_M_told ∈ Wg := wg_of 819 (by decide +kernel) rfl
theorem im_M_told : Cond.instanceMethod y_M_told ∈ Wg := wg_of 820 (by decide +kernel) rfl
theorem se_M_told : Cond.selects RM y_M_told y_M_told ∈ Wg := wg_of 821 (by decide +kernel) rfl
theorem cd_M_told : Cond.code y_M_told b_M_told 5 (Option.some FieldType.int) ∈ Wg := wg_of 822 (by decide +kernel) rfl
theorem ml_L_176 : Cond.methodLink RL 176 y_M_state ∈ Wg := wg_of 823 (by decide +kernel) rfl
theorem im_M_state : Cond.instanceMethod y_M_state ∈ Wg := wg_of 824 (by decide +kernel) rfl
theorem se_M_state : Cond.selects RM y_M_state y_M_state ∈ Wg := wg_of 825 (by decide +kernel) rfl
theorem cd_M_state : Cond.code y_M_state b_M_state 3 (Option.some FieldType.int) ∈ Wg := wg_of 826 (by decide +kernel) rfl
theorem ml_L_179 : Cond.methodLink RL 179 y_M_count1 ∈ Wg := wg_of 827 (by decide +kernel) rfl
theorem im_M_count1 : Cond.instanceMethod y_M_count1 ∈ Wg := wg_of 828 (by decide +kernel) rfl
theorem se_M_count1 : Cond.selects RM y_M_count1 y_M_count1 ∈ Wg := wg_of 829 (by decide +kernel) rfl
theorem cd_M_count1 : Cond.code y_M_count1 b_M_count1 2 (Option.some FieldType.int) ∈ Wg := wg_of 830 (by decide +kernel) rfl
theorem ac_long : Cond.arrayClass .long ∈ Wg := wg_of 831 (by decide +kernel) rfl
theorem se_S_announcementOf : Cond.selects RS y_S_announcementOf y_S_announcementOf ∈ Wg := wg_of 1 (by decide +kernel) rfl
theorem se_S_isTaken : Cond.selects RS y_S_isTaken y_S_isTaken ∈ Wg := wg_of 2 (by decide +kernel) rfl
theorem se_S_hasRight : Cond.selects RS y_S_hasRight y_S_hasRight ∈ Wg := wg_of 3 (by decide +kernel) rfl
theorem se_S_lineOf : Cond.selects RS y_S_lineOf y_S_lineOf ∈ Wg := wg_of 4 (by decide +kernel) rfl
theorem se_S_makeUnits : Cond.selects RS y_S_makeUnits y_S_makeUnits ∈ Wg := wg_of 5 (by decide +kernel) rfl
theorem se_S_unitOf : Cond.selects RS y_S_unitOf y_S_unitOf ∈ Wg := wg_of 6 (by decide +kernel) rfl
theorem se_S_unitsInState : Cond.selects RS y_S_unitsInState y_S_unitsInState ∈ Wg := wg_of 7 (by decide +kernel) rfl
theorem se_S_lacksLabel : Cond.selects RS y_S_lacksLabel y_S_lacksLabel ∈ Wg := wg_of 8 (by decide +kernel) rfl
theorem se_S_noteDifference : Cond.selects RS y_S_noteDifference y_S_noteDifference ∈ Wg := wg_of 9 (by decide +kernel) rfl
theorem se_S_differenceOf : Cond.selects RS y_S_differenceOf y_S_differenceOf ∈ Wg := wg_of 10 (by decide +kernel) rfl
theorem se_M_isAnnouncement : Cond.selects RM y_M_isAnnouncement y_M_isAnnouncement ∈ Wg := wg_of 11 (by decide +kernel) rfl
theorem se_M_isTaken : Cond.selects RM y_M_isTaken y_M_isTaken ∈ Wg := wg_of 12 (by decide +kernel) rfl
theorem se_M_isLine : Cond.selects RM y_M_isLine y_M_isLine ∈ Wg := wg_of 13 (by decide +kernel) rfl
theorem se_M_takes : Cond.selects RM y_M_takes y_M_takes ∈ Wg := wg_of 14 (by decide +kernel) rfl
theorem se_M_isUnit : Cond.selects RM y_M_isUnit y_M_isUnit ∈ Wg := wg_of 15 (by decide +kernel) rfl
theorem se_M_openSamples : Cond.selects RM y_M_openSamples y_M_openSamples ∈ Wg := wg_of 16 (by decide +kernel) rfl
theorem se_M_plainState : Cond.selects RM y_M_plainState y_M_plainState ∈ Wg := wg_of 17 (by decide +kernel) rfl
theorem se_M_hasOne : Cond.selects RM y_M_hasOne y_M_hasOne ∈ Wg := wg_of 18 (by decide +kernel) rfl
theorem oi_im : Cond.instanceMethod objectInit ∈ Wg := wg_of 39 (by decide +kernel) rfl
theorem oi_cd : Cond.code objectInit ⟨#[0xb1]⟩ 1 none ∈ Wg := wg_of 40 (by decide +kernel) rfl
theorem sm_min : Cond.static Lib.Math.min.name ∈ Wg := wg_of 397 (by decide +kernel) rfl
theorem cd_min : Cond.code Lib.Math.min.name Lib.Math.min.code 2 (some .int) ∈ Wg := wg_of 398 (by decide +kernel) rfl
theorem sm_max : Cond.static Lib.Math.max.name ∈ Wg := wg_of 472 (by decide +kernel) rfl
theorem cd_max : Cond.code Lib.Math.max.name Lib.Math.max.code 2 (some .int) ∈ Wg := wg_of 473 (by decide +kernel) rfl
end
section
theorem d_S_init_0 : decode b_S_init 0 = .ok (.aload_n 0, 1) := by decide +kernel
theorem d_S_init_1 : decode b_S_init 1 = .ok (.invokespecial 1, 3) := by decide +kernel
theorem d_S_init_4 : decode b_S_init 4 = .ok (.aload_n 0, 1) := by decide +kernel
theorem d_S_init_5 : decode b_S_init 5 = .ok (.bipush 16, 2) := by decide +kernel
theorem d_S_init_7 : decode b_S_init 7 = .ok (.anewarray 9, 3) := by decide +kernel
theorem d_S_init_10 : decode b_S_init 10 = .ok (.putfield 11, 3) := by decide +kernel
theorem d_S_init_13 : decode b_S_init 13 = .ok (.aload_n 0, 1) := by decide +kernel
theorem d_S_init_14 : decode b_S_init 14 = .ok (.bipush 120, 2) := by decide +kernel
theorem d_S_init_16 : decode b_S_init 16 = .ok (.anewarray 15, 3) := by decide +kernel
theorem d_S_init_19 : decode b_S_init 19 = .ok (.putfield 17, 3) := by decide +kernel
theorem d_S_init_22 : decode b_S_init 22 = .ok (.aload_n 0, 1) := by decide +kernel
theorem d_S_init_23 : decode b_S_init 23 = .ok (.bipush 64, 2) := by decide +kernel
theorem d_S_init_25 : decode b_S_init 25 = .ok (.anewarray 21, 3) := by decide +kernel
theorem d_S_init_28 : decode b_S_init 28 = .ok (.putfield 23, 3) := by decide +kernel
theorem d_S_init_31 : decode b_S_init 31 = .ok (.return_, 1) := by decide +kernel
theorem d_S_count1_0 : decode b_S_count1 0 = .ok (.iload_n 1, 1) := by decide +kernel
theorem d_S_count1_1 : decode b_S_count1 1 = .ok (.tableswitch 60 0 4 #[35, 40, 45, 50, 55], 35) := by decide +kernel
theorem d_S_count1_36 : decode b_S_count1 36 = .ok (.aload_n 0, 1) := by decide +kernel
theorem d_S_count1_37 : decode b_S_count1 37 = .ok (.getfield 31, 3) := by decide +kernel
theorem d_S_count1_40 : decode b_S_count1 40 = .ok (.ireturn, 1) := by decide +kernel
theorem d_S_count1_41 : decode b_S_count1 41 = .ok (.aload_n 0, 1) := by decide +kernel
theorem d_S_count1_42 : decode b_S_count1 42 = .ok (.getfield 98, 3) := by decide +kernel
theorem d_S_count1_45 : decode b_S_count1 45 = .ok (.ireturn, 1) := by decide +kernel
theorem d_S_count1_46 : decode b_S_count1 46 = .ok (.aload_n 0, 1) := by decide +kernel
theorem d_S_count1_47 : decode b_S_count1 47 = .ok (.getfield 163, 3) := by decide +kernel
theorem d_S_count1_50 : decode b_S_count1 50 = .ok (.ireturn, 1) := by decide +kernel
theorem d_S_count1_51 : decode b_S_count1 51 = .ok (.aload_n 0, 1) := by decide +kernel
theorem d_S_count1_52 : decode b_S_count1 52 = .ok (.getfield 151, 3) := by decide +kernel
theorem d_S_count1_55 : decode b_S_count1 55 = .ok (.ireturn, 1) := by decide +kernel
theorem d_S_count1_56 : decode b_S_count1 56 = .ok (.aload_n 0, 1) := by decide +kernel
theorem d_S_count1_57 : decode b_S_count1 57 = .ok (.getfield 182, 3) := by decide +kernel
theorem d_S_count1_60 : decode b_S_count1 60 = .ok (.ireturn, 1) := by decide +kernel
theorem d_S_count1_61 : decode b_S_count1 61 = .ok (.iconst (-1), 1) := by decide +kernel
theorem d_S_count1_62 : decode b_S_count1 62 = .ok (.ireturn, 1) := by decide +kernel
theorem d_S_announce_0 : decode b_S_announce 0 = .ok (.iload_n 1, 1) := by decide +kernel
theorem d_S_announce_1 : decode b_S_announce 1 = .ok (.iconst 0, 1) := by decide +kernel
theorem d_S_announce_2 : decode b_S_announce 2 = .ok (.bipush 7, 2) := by decide +kernel
theorem d_S_announce_4 : decode b_S_announce 4 = .ok (.invokestatic 27, 3) := by decide +kernel
theorem d_S_announce_7 : decode b_S_announce 7 = .ok (.iload_n 2, 1) := by decide +kernel
theorem d_S_announce_8 : decode b_S_announce 8 = .ok (.iconst 1, 1) := by decide +kernel
theorem d_S_announce_9 : decode b_S_announce 9 = .ok (.iconst 4, 1) := by decide +kernel
theorem d_S_announce_10 : decode b_S_announce 10 = .ok (.invokestatic 27, 3) := by decide +kernel
theorem d_S_announce_13 : decode b_S_announce 13 = .ok (.aload_n 0, 1) := by decide +kernel
theorem d_S_announce_14 : decode b_S_announce 14 = .ok (.getfield 31, 3) := by decide +kernel
theorem d_S_announce_17 : decode b_S_announce 17 = .ok (.aload_n 0, 1) := by decide +kernel
theorem d_S_announce_18 : decode b_S_announce 18 = .ok (.getfield 11, 3) := by decide +kernel
theorem d_S_announce_21 : decode b_S_announce 21 = .ok (.arraylength, 1) := by decide +kernel
theorem d_S_announce_22 : decode b_S_announce 22 = .ok (.if_icmp .lt 13, 3) := by decide +kernel
theorem d_S_announce_25 : decode b_S_announce 25 = .ok (.new 35, 3) := by decide +kernel
theorem d_S_announce_28 : decode b_S_announce 28 = .ok (.dup, 1) := by decide +kernel
theorem d_S_announce_29 : decode b_S_announce 29 = .ok (.ldc 37, 2) := by decide +kernel
theorem d_S_announce_31 : decode b_S_announce 31 = .ok (.invokespecial 39, 3) := by decide +kernel
theorem d_S_announce_34 : decode b_S_announce 34 = .ok (.athrow, 1) := by decide +kernel
theorem d_S_announce_35 : decode b_S_announce 35 = .ok (.aload_n 0, 1) := by decide +kernel
theorem d_S_announce_36 : decode b_S_announce 36 = .ok (.getfield 11, 3) := by decide +kernel
theorem d_S_announce_39 : decode b_S_announce 39 = .ok (.aload_n 0, 1) := by decide +kernel
theorem d_S_announce_40 : decode b_S_announce 40 = .ok (.getfield 31, 3) := by decide +kernel
theorem d_S_announce_43 : decode b_S_announce 43 = .ok (.new 9, 3) := by decide +kernel
theorem d_S_announce_46 : decode b_S_announce 46 = .ok (.dup, 1) := by decide +kernel
theorem d_S_announce_47 : decode b_S_announce 47 = .ok (.aload_n 0, 1) := by decide +kernel
theorem d_S_announce_48 : decode b_S_announce 48 = .ok (.getfield 31, 3) := by decide +kernel
theorem d_S_announce_51 : decode b_S_announce 51 = .ok (.iconst 1, 1) := by decide +kernel
theorem d_S_announce_52 : decode b_S_announce 52 = .ok (.iadd, 1) := by decide +kernel
theorem d_S_announce_53 : decode b_S_announce 53 = .ok (.iload_n 1, 1) := by decide +kernel
theorem d_S_announce_54 : decode b_S_announce 54 = .ok (.iload_n 2, 1) := by decide +kernel
theorem d_S_announce_55 : decode b_S_announce 55 = .ok (.invokespecial 42, 3) := by decide +kernel
theorem d_S_announce_58 : decode b_S_announce 58 = .ok (.aastore, 1) := by decide +kernel
theorem d_S_announce_59 : decode b_S_announce 59 = .ok (.aload_n 0, 1) := by decide +kernel
theorem d_S_announce_60 : decode b_S_announce 60 = .ok (.dup, 1) := by decide +kernel
theorem d_S_announce_61 : decode b_S_announce 61 = .ok (.getfield 31, 3) := by decide +kernel
theorem d_S_announce_64 : decode b_S_announce 64 = .ok (.iconst 1, 1) := by decide +kernel
theorem d_S_announce_65 : decode b_S_announce 65 = .ok (.iadd, 1) := by decide +kernel
theorem d_S_announce_66 : decode b_S_announce 66 = .ok (.putfield 31, 3) := by decide +kernel
theorem d_S_announce_69 : decode b_S_announce 69 = .ok (.aload_n 0, 1) := by decide +kernel
theorem d_S_announce_70 : decode b_S_announce 70 = .ok (.getfield 31, 3) := by decide +kernel
theorem d_S_announce_73 : decode b_S_announce 73 = .ok (.ireturn, 1) := by decide +kernel
theorem d_S_mustBeWithin_0 : decode b_S_mustBeWithin 0 = .ok (.iload_n 0, 1) := by decide +kernel
theorem d_S_mustBeWithin_1 : decode b_S_mustBeWithin 1 = .ok (.iload_n 1, 1) := by decide +kernel
theorem d_S_mustBeWithin_2 : decode b_S_mustBeWithin 2 = .ok (.if_icmp .lt 8, 3) := by decide +kernel
theorem d_S_mustBeWithin_5 : decode b_S_mustBeWithin 5 = .ok (.iload_n 0, 1) := by decide +kernel
theorem d_S_mustBeWithin_6 : decode b_S_mustBeWithin 6 = .ok (.iload_n 2, 1) := by decide +kernel
theorem d_S_mustBeWithin_7 : decode b_S_mustBeWithin 7 = .ok (.if_icmp .le 13, 3) := by decide +kernel
theorem d_S_mustBeWithin_10 : decode b_S_mustBeWithin 10 = .ok (.new 203, 3) := by decide +kernel
theorem d_S_mustBeWithin_13 : decode b_S_mustBeWithin 13 = .ok (.dup, 1) := by decide +kernel
theorem d_S_mustBeWithin_14 : decode b_S_mustBeWithin 14 = .ok (.ldc 231, 2) := by decide +kernel
theorem d_S_mustBeWithin_16 : decode b_S_mustBeWithin 16 = .ok (.invokespecial 207, 3) := by decide +kernel
theorem d_S_mustBeWithin_19 : decode b_S_mustBeWithin 19 = .ok (.athrow, 1) := by decide +kernel
theorem d_S_mustBeWithin_20 : decode b_S_mustBeWithin 20 = .ok (.return_, 1) := by decide +kernel
theorem d_A_init_0 : decode b_A_init 0 = .ok (.aload_n 0, 1) := by decide +kernel
theorem d_A_init_1 : decode b_A_init 1 = .ok (.invokespecial 3, 3) := by decide +kernel
theorem d_A_init_4 : decode b_A_init 4 = .ok (.aload_n 0, 1) := by decide +kernel
theorem d_A_init_5 : decode b_A_init 5 = .ok (.iload_n 1, 1) := by decide +kernel
theorem d_A_init_6 : decode b_A_init 6 = .ok (.putfield 9, 3) := by decide +kernel
theorem d_A_init_9 : decode b_A_init 9 = .ok (.aload_n 0, 1) := by decide +kernel
theorem d_A_init_10 : decode b_A_init 10 = .ok (.iload_n 2, 1) := by decide +kernel
theorem d_A_init_11 : decode b_A_init 11 = .ok (.putfield 15, 3) := by decide +kernel
theorem d_A_init_14 : decode b_A_init 14 = .ok (.aload_n 0, 1) := by decide +kernel
theorem d_A_init_15 : decode b_A_init 15 = .ok (.iload_n 3, 1) := by decide +kernel
theorem d_A_init_16 : decode b_A_init 16 = .ok (.putfield 18, 3) := by decide +kernel
theorem d_A_init_19 : decode b_A_init 19 = .ok (.aload_n 0, 1) := by decide +kernel
theorem d_A_init_20 : decode b_A_init 20 = .ok (.iconst 4, 1) := by decide +kernel
theorem d_A_init_21 : decode b_A_init 21 = .ok (.anewarray 21, 3) := by decide +kernel
theorem d_A_init_24 : decode b_A_init 24 = .ok (.putfield 23, 3) := by decide +kernel
theorem d_A_init_27 : decode b_A_init 27 = .ok (.aload_n 0, 1) := by decide +kernel
theorem d_A_init_28 : decode b_A_init 28 = .ok (.iconst 0, 1) := by decide +kernel
theorem d_A_init_29 : decode b_A_init 29 = .ok (.putfield 27, 3) := by decide +kernel
theorem d_A_init_32 : decode b_A_init 32 = .ok (.aload_n 0, 1) := by decide +kernel
theorem d_A_init_33 : decode b_A_init 33 = .ok (.iconst (-1), 1) := by decide +kernel
theorem d_A_init_34 : decode b_A_init 34 = .ok (.putfield 30, 3) := by decide +kernel
theorem d_A_init_37 : decode b_A_init 37 = .ok (.return_, 1) := by decide +kernel
theorem d_S_line_0 : decode b_S_line 0 = .ok (.aload_n 0, 1) := by decide +kernel
theorem d_S_line_1 : decode b_S_line 1 = .ok (.iload_n 1, 1) := by decide +kernel
theorem d_S_line_2 : decode b_S_line 2 = .ok (.invokevirtual 44, 3) := by decide +kernel
theorem d_S_line_5 : decode b_S_line 5 = .ok (.astore 4, 2) := by decide +kernel
theorem d_S_line_7 : decode b_S_line 7 = .ok (.iload_n 2, 1) := by decide +kernel
theorem d_S_line_8 : decode b_S_line 8 = .ok (.iconst 0, 1) := by decide +kernel
theorem d_S_line_9 : decode b_S_line 9 = .ok (.bipush 9, 2) := by decide +kernel
theorem d_S_line_11 : decode b_S_line 11 = .ok (.invokestatic 27, 3) := by decide +kernel
theorem d_S_line_14 : decode b_S_line 14 = .ok (.iload_n 3, 1) := by decide +kernel
theorem d_S_line_15 : decode b_S_line 15 = .ok (.iconst 0, 1) := by decide +kernel
theorem d_S_line_16 : decode b_S_line 16 = .ok (.sipush 400, 3) := by decide +kernel
theorem d_S_line_19 : decode b_S_line 19 = .ok (.invokestatic 27, 3) := by decide +kernel
theorem d_S_line_22 : decode b_S_line 22 = .ok (.aload 4, 2) := by decide +kernel
theorem d_S_line_24 : decode b_S_line 24 = .ok (.getfield 48, 3) := by decide +kernel
theorem d_S_line_27 : decode b_S_line 27 = .ok (.iconst 3, 1) := by decide +kernel
theorem d_S_line_28 : decode b_S_line 28 = .ok (.if_icmp .eq 15, 3) := by decide +kernel
theorem d_S_line_31 : decode b_S_line 31 = .ok (.aload 4, 2) := by decide +kernel
theorem d_S_line_33 : decode b_S_line 33 = .ok (.invokevirtual 51, 3) := by decide +kernel
theorem d_S_line_36 : decode b_S_line 36 = .ok (.ifCond .ne 7, 3) := by decide +kernel
theorem d_S_line_39 : decode b_S_line 39 = .ok (.iconst 1, 1) := by decide +kernel
theorem d_S_line_40 : decode b_S_line 40 = .ok (.goto 4, 3) := by decide +kernel
theorem d_S_line_43 : decode b_S_line 43 = .ok (.iconst 0, 1) := by decide +kernel
theorem d_S_line_44 : decode b_S_line 44 = .ok (.invokestatic 55, 3) := by decide +kernel
theorem d_S_line_47 : decode b_S_line 47 = .ok (.aload 4, 2) := by decide +kernel
theorem d_S_line_49 : decode b_S_line 49 = .ok (.iload_n 2, 1) := by decide +kernel
theorem d_S_line_50 : decode b_S_line 50 = .ok (.iload_n 3, 1) := by decide +kernel
theorem d_S_line_51 : decode b_S_line 51 = .ok (.invokevirtual 59, 3) := by decide +kernel
theorem d_S_line_54 : decode b_S_line 54 = .ok (.ireturn, 1) := by decide +kernel
theorem d_S_announcementOf_0 : decode b_S_announcementOf 0 = .ok (.iload_n 1, 1) := by decide +kernel
theorem d_S_announcementOf_1 : decode b_S_announcementOf 1 = .ok (.iconst 1, 1) := by decide +kernel
theorem d_S_announcementOf_2 : decode b_S_announcementOf 2 = .ok (.if_icmp .lt 20, 3) := by decide +kernel
theorem d_S_announcementOf_5 : decode b_S_announcementOf 5 = .ok (.iload_n 1, 1) := by decide +kernel
theorem d_S_announcementOf_6 : decode b_S_announcementOf 6 = .ok (.aload_n 0, 1) := by decide +kernel
theorem d_S_announcementOf_7 : decode b_S_announcementOf 7 = .ok (.getfield 31, 3) := by decide +kernel
theorem d_S_announcementOf_10 : decode b_S_announcementOf 10 = .ok (.if_icmp .gt 12, 3) := by decide +kernel
theorem d_S_announcementOf_13 : decode b_S_announcementOf 13 = .ok (.iload_n 1, 1) := by decide +kernel
theorem d_S_announcementOf_14 : decode b_S_announcementOf 14 = .ok (.aload_n 0, 1) := by decide +kernel
theorem d_S_announcementOf_15 : decode b_S_announcementOf 15 = .ok (.getfield 11, 3) := by decide +kernel
theorem d_S_announcementOf_18 : decode b_S_announcementOf 18 = .ok (.arraylength, 1) := by decide +kernel
theorem d_S_announcementOf_19 : decode b_S_announcementOf 19 = .ok (.if_icmp .le 13, 3) := by decide +kernel
theorem d_S_announcementOf_22 : decode b_S_announcementOf 22 = .ok (.new 238, 3) := by decide +kernel
theorem d_S_announcementOf_25 : decode b_S_announcementOf 25 = .ok (.dup, 1) := by decide +kernel
theorem d_S_announcementOf_26 : decode b_S_announcementOf 26 = .ok (.ldc 240, 2) := by decide +kernel
theorem d_S_announcementOf_28 : decode b_S_announcementOf 28 = .ok (.invokespecial 242, 3) := by decide +kernel
theorem d_S_announcementOf_31 : decode b_S_announcementOf 31 = .ok (.athrow, 1) := by decide +kernel
theorem d_S_announcementOf_32 : decode b_S_announcementOf 32 = .ok (.aload_n 0, 1) := by decide +kernel
theorem d_S_announcementOf_33 : decode b_S_announcementOf 33 = .ok (.getfield 11, 3) := by decide +kernel
theorem d_S_announcementOf_36 : decode b_S_announcementOf 36 = .ok (.iload_n 1, 1) := by decide +kernel
theorem d_S_announcementOf_37 : decode b_S_announcementOf 37 = .ok (.iconst 1, 1) := by decide +kernel
theorem d_S_announcementOf_38 : decode b_S_announcementOf 38 = .ok (.isub, 1) := by decide +kernel
theorem d_S_announcementOf_39 : decode b_S_announcementOf 39 = .ok (.aaload, 1) := by decide +kernel
theorem d_S_announcementOf_40 : decode b_S_announcementOf 40 = .ok (.astore_n 2, 1) := by decide +kernel
theorem d_S_announcementOf_41 : decode b_S_announcementOf 41 = .ok (.aload_n 2, 1) := by decide +kernel
theorem d_S_announcementOf_42 : decode b_S_announcementOf 42 = .ok (.ifnonnull 13, 3) := by decide +kernel
theorem d_S_announcementOf_45 : decode b_S_announcementOf 45 = .ok (.new 238, 3) := by decide +kernel
theorem d_S_announcementOf_48 : decode b_S_announcementOf 48 = .ok (.dup, 1) := by decide +kernel
theorem d_S_announcementOf_49 : decode b_S_announcementOf 49 = .ok (.ldc 240, 2) := by decide +kernel
theorem d_S_announcementOf_51 : decode b_S_announcementOf 51 = .ok (.invokespecial 242, 3) := by decide +kernel
theorem d_S_announcementOf_54 : decode b_S_announcementOf 54 = .ok (.athrow, 1) := by decide +kernel
theorem d_S_announcementOf_55 : decode b_S_announcementOf 55 = .ok (.aload_n 2, 1) := by decide +kernel
theorem d_S_announcementOf_56 : decode b_S_announcementOf 56 = .ok (.areturn, 1) := by decide +kernel
theorem d_A_hasAllLines_0 : decode b_A_hasAllLines 0 = .ok (.aload_n 0, 1) := by decide +kernel
theorem d_A_hasAllLines_1 : decode b_A_hasAllLines 1 = .ok (.getfield 33, 3) := by decide +kernel
theorem d_A_hasAllLines_4 : decode b_A_hasAllLines 4 = .ok (.aload_n 0, 1) := by decide +kernel
theorem d_A_hasAllLines_5 : decode b_A_hasAllLines 5 = .ok (.getfield 18, 3) := by decide +kernel
theorem d_A_hasAllLines_8 : decode b_A_hasAllLines 8 = .ok (.if_icmp .ge 15, 3) := by decide +kernel
theorem d_A_hasAllLines_11 : decode b_A_hasAllLines 11 = .ok (.aload_n 0, 1) := by decide +kernel
theorem d_A_hasAllLines_12 : decode b_A_hasAllLines 12 = .ok (.getfield 33, 3) := by decide +kernel
theorem d_A_hasAllLines_15 : decode b_A_hasAllLines 15 = .ok (.aload_n 0, 1) := by decide +kernel
theorem d_A_hasAllLines_16 : decode b_A_hasAllLines 16 = .ok (.getfield 23, 3) := by decide +kernel
theorem d_A_hasAllLines_19 : decode b_A_hasAllLines 19 = .ok (.arraylength, 1) := by decide +kernel
theorem d_A_hasAllLines_20 : decode b_A_hasAllLines 20 = .ok (.if_icmp .lt 7, 3) := by decide +kernel
theorem d_A_hasAllLines_23 : decode b_A_hasAllLines 23 = .ok (.iconst 1, 1) := by decide +kernel
theorem d_A_hasAllLines_24 : decode b_A_hasAllLines 24 = .ok (.goto 4, 3) := by decide +kernel
theorem d_A_hasAllLines_27 : decode b_A_hasAllLines 27 = .ok (.iconst 0, 1) := by decide +kernel
theorem d_A_hasAllLines_28 : decode b_A_hasAllLines 28 = .ok (.ireturn, 1) := by decide +kernel
theorem d_S_mustHold_0 : decode b_S_mustHold 0 = .ok (.iload_n 0, 1) := by decide +kernel
theorem d_S_mustHold_1 : decode b_S_mustHold 1 = .ok (.ifCond .ne 13, 3) := by decide +kernel
theorem d_S_mustHold_4 : decode b_S_mustHold 4 = .ok (.new 233, 3) := by decide +kernel
theorem d_S_mustHold_7 : decode b_S_mustHold 7 = .ok (.dup, 1) := by decide +kernel
theorem d_S_mustHold_8 : decode b_S_mustHold 8 = .ok (.ldc 235, 2) := by decide +kernel
theorem d_S_mustHold_10 : decode b_S_mustHold 10 = .ok (.invokespecial 237, 3) := by decide +kernel
theorem d_S_mustHold_13 : decode b_S_mustHold 13 = .ok (.athrow, 1) := by decide +kernel
theorem d_S_mustHold_14 : decode b_S_mustHold 14 = .ok (.return_, 1) := by decide +kernel
theorem d_A_addLine_0 : decode b_A_addLine 0 = .ok (.aload_n 0, 1) := by decide +kernel
theorem d_A_addLine_1 : decode b_A_addLine 1 = .ok (.getfield 33, 3) := by decide +kernel
theorem d_A_addLine_4 : decode b_A_addLine 4 = .ok (.istore_n 3, 1) := by decide +kernel
theorem d_A_addLine_5 : decode b_A_addLine 5 = .ok (.iload_n 3, 1) := by decide +kernel
theorem d_A_addLine_6 : decode b_A_addLine 6 = .ok (.ifCond .lt 39, 3) := by decide +kernel
theorem d_A_addLine_9 : decode b_A_addLine 9 = .ok (.iload_n 3, 1) := by decide +kernel
theorem d_A_addLine_10 : decode b_A_addLine 10 = .ok (.aload_n 0, 1) := by decide +kernel
theorem d_A_addLine_11 : decode b_A_addLine 11 = .ok (.getfield 23, 3) := by decide +kernel
theorem d_A_addLine_14 : decode b_A_addLine 14 = .ok (.arraylength, 1) := by decide +kernel
theorem d_A_addLine_15 : decode b_A_addLine 15 = .ok (.if_icmp .ge 30, 3) := by decide +kernel
theorem d_A_addLine_18 : decode b_A_addLine 18 = .ok (.aload_n 0, 1) := by decide +kernel
theorem d_A_addLine_19 : decode b_A_addLine 19 = .ok (.getfield 23, 3) := by decide +kernel
theorem d_A_addLine_22 : decode b_A_addLine 22 = .ok (.iload_n 3, 1) := by decide +kernel
theorem d_A_addLine_23 : decode b_A_addLine 23 = .ok (.new 21, 3) := by decide +kernel
theorem d_A_addLine_26 : decode b_A_addLine 26 = .ok (.dup, 1) := by decide +kernel
theorem d_A_addLine_27 : decode b_A_addLine 27 = .ok (.aload_n 0, 1) := by decide +kernel
theorem d_A_addLine_28 : decode b_A_addLine 28 = .ok (.iload_n 3, 1) := by decide +kernel
theorem d_A_addLine_29 : decode b_A_addLine 29 = .ok (.iload_n 1, 1) := by decide +kernel
theorem d_A_addLine_30 : decode b_A_addLine 30 = .ok (.iload_n 2, 1) := by decide +kernel
theorem d_A_addLine_31 : decode b_A_addLine 31 = .ok (.invokespecial 36, 3) := by decide +kernel
theorem d_A_addLine_34 : decode b_A_addLine 34 = .ok (.aastore, 1) := by decide +kernel
theorem d_A_addLine_35 : decode b_A_addLine 35 = .ok (.aload_n 0, 1) := by decide +kernel
theorem d_A_addLine_36 : decode b_A_addLine 36 = .ok (.dup, 1) := by decide +kernel
theorem d_A_addLine_37 : decode b_A_addLine 37 = .ok (.getfield 33, 3) := by decide +kernel
theorem d_A_addLine_40 : decode b_A_addLine 40 = .ok (.iconst 1, 1) := by decide +kernel
theorem d_A_addLine_41 : decode b_A_addLine 41 = .ok (.iadd, 1) := by decide +kernel
theorem d_A_addLine_42 : decode b_A_addLine 42 = .ok (.putfield 33, 3) := by decide +kernel
theorem d_A_addLine_45 : decode b_A_addLine 45 = .ok (.iload_n 3, 1) := by decide +kernel
theorem d_A_addLine_46 : decode b_A_addLine 46 = .ok (.ireturn, 1) := by decide +kernel
theorem d_N_init_0 : decode b_N_init 0 = .ok (.aload_n 0, 1) := by decide +kernel
theorem d_N_init_1 : decode b_N_init 1 = .ok (.invokespecial 1, 3) := by decide +kernel
theorem d_N_init_4 : decode b_N_init 4 = .ok (.aload_n 0, 1) := by decide +kernel
theorem d_N_init_5 : decode b_N_init 5 = .ok (.aload_n 1, 1) := by decide +kernel
theorem d_N_init_6 : decode b_N_init 6 = .ok (.putfield 7, 3) := by decide +kernel
theorem d_N_init_9 : decode b_N_init 9 = .ok (.aload_n 0, 1) := by decide +kernel
theorem d_N_init_10 : decode b_N_init 10 = .ok (.iload_n 2, 1) := by decide +kernel
theorem d_N_init_11 : decode b_N_init 11 = .ok (.putfield 13, 3) := by decide +kernel
theorem d_N_init_14 : decode b_N_init 14 = .ok (.aload_n 0, 1) := by decide +kernel
theorem d_N_init_15 : decode b_N_init 15 = .ok (.iload_n 3, 1) := by decide +kernel
theorem d_N_init_16 : decode b_N_init 16 = .ok (.putfield 17, 3) := by decide +kernel
theorem d_N_init_19 : decode b_N_init 19 = .ok (.aload_n 0, 1) := by decide +kernel
theorem d_N_init_20 : decode b_N_init 20 = .ok (.iload 4, 2) := by decide +kernel
theorem d_N_init_22 : decode b_N_init 22 = .ok (.putfield 20, 3) := by decide +kernel
theorem d_N_init_25 : decode b_N_init 25 = .ok (.return_, 1) := by decide +kernel
theorem d_S_arrive_0 : decode b_S_arrive 0 = .ok (.aload_n 0, 1) := by decide +kernel
theorem d_S_arrive_1 : decode b_S_arrive 1 = .ok (.iload_n 1, 1) := by decide +kernel
theorem d_S_arrive_2 : decode b_S_arrive 2 = .ok (.invokevirtual 44, 3) := by decide +kernel
theorem d_S_arrive_5 : decode b_S_arrive 5 = .ok (.astore 4, 2) := by decide +kernel
theorem d_S_arrive_7 : decode b_S_arrive 7 = .ok (.iload_n 2, 1) := by decide +kernel
theorem d_S_arrive_8 : decode b_S_arrive 8 = .ok (.iconst 0, 1) := by decide +kernel
theorem d_S_arrive_9 : decode b_S_arrive 9 = .ok (.iconst 3, 1) := by decide +kernel
theorem d_S_arrive_10 : decode b_S_arrive 10 = .ok (.invokestatic 27, 3) := by decide +kernel
theorem d_S_arrive_13 : decode b_S_arrive 13 = .ok (.aload 4, 2) := by decide +kernel
theorem d_S_arrive_15 : decode b_S_arrive 15 = .ok (.getfield 48, 3) := by decide +kernel
theorem d_S_arrive_18 : decode b_S_arrive 18 = .ok (.ifCond .ne 15, 3) := by decide +kernel
theorem d_S_arrive_21 : decode b_S_arrive 21 = .ok (.aload 4, 2) := by decide +kernel
theorem d_S_arrive_23 : decode b_S_arrive 23 = .ok (.invokevirtual 51, 3) := by decide +kernel
theorem d_S_arrive_26 : decode b_S_arrive 26 = .ok (.ifCond .eq 7, 3) := by decide +kernel
theorem d_S_arrive_29 : decode b_S_arrive 29 = .ok (.iconst 1, 1) := by decide +kernel
theorem d_S_arrive_30 : decode b_S_arrive 30 = .ok (.goto 4, 3) := by decide +kernel
theorem d_S_arrive_33 : decode b_S_arrive 33 = .ok (.iconst 0, 1) := by decide +kernel
theorem d_S_arrive_34 : decode b_S_arrive 34 = .ok (.invokestatic 55, 3) := by decide +kernel
theorem d_S_arrive_37 : decode b_S_arrive 37 = .ok (.aload_n 0, 1) := by decide +kernel
theorem d_S_arrive_38 : decode b_S_arrive 38 = .ok (.iload_n 2, 1) := by decide +kernel
theorem d_S_arrive_39 : decode b_S_arrive 39 = .ok (.invokevirtual 63, 3) := by decide +kernel
theorem d_S_arrive_42 : decode b_S_arrive 42 = .ok (.ifCond .ne 7, 3) := by decide +kernel
theorem d_S_arrive_45 : decode b_S_arrive 45 = .ok (.iconst 1, 1) := by decide +kernel
theorem d_S_arrive_46 : decode b_S_arrive 46 = .ok (.goto 4, 3) := by decide +kernel
theorem d_S_arrive_49 : decode b_S_arrive 49 = .ok (.iconst 0, 1) := by decide +kernel
theorem d_S_arrive_50 : decode b_S_arrive 50 = .ok (.invokestatic 55, 3) := by decide +kernel
theorem d_S_arrive_53 : decode b_S_arrive 53 = .ok (.aload 4, 2) := by decide +kernel
theorem d_S_arrive_55 : decode b_S_arrive 55 = .ok (.iload_n 2, 1) := by decide +kernel
theorem d_S_arrive_56 : decode b_S_arrive 56 = .ok (.putfield 67, 3) := by decide +kernel
theorem d_S_arrive_59 : decode b_S_arrive 59 = .ok (.aload 4, 2) := by decide +kernel
theorem d_S_arrive_61 : decode b_S_arrive 61 = .ok (.iload_n 3, 1) := by decide +kernel
theorem d_S_arrive_62 : decode b_S_arrive 62 = .ok (.ifCond .eq 7, 3) := by decide +kernel
theorem d_S_arrive_65 : decode b_S_arrive 65 = .ok (.iconst 1, 1) := by decide +kernel
theorem d_S_arrive_66 : decode b_S_arrive 66 = .ok (.goto 4, 3) := by decide +kernel
theorem d_S_arrive_69 : decode b_S_arrive 69 = .ok (.iconst 2, 1) := by decide +kernel
theorem d_S_arrive_70 : decode b_S_arrive 70 = .ok (.putfield 48, 3) := by decide +kernel
theorem d_S_arrive_73 : decode b_S_arrive 73 = .ok (.aload 4, 2) := by decide +kernel
theorem d_S_arrive_75 : decode b_S_arrive 75 = .ok (.getfield 48, 3) := by decide +kernel
theorem d_S_arrive_78 : decode b_S_arrive 78 = .ok (.ireturn, 1) := by decide +kernel
theorem d_S_isTaken_0 : decode b_S_isTaken 0 = .ok (.iconst 0, 1) := by decide +kernel
theorem d_S_isTaken_1 : decode b_S_isTaken 1 = .ok (.istore_n 2, 1) := by decide +kernel
theorem d_S_isTaken_2 : decode b_S_isTaken 2 = .ok (.iload_n 2, 1) := by decide +kernel
theorem d_S_isTaken_3 : decode b_S_isTaken 3 = .ok (.aload_n 0, 1) := by decide +kernel
theorem d_S_isTaken_4 : decode b_S_isTaken 4 = .ok (.getfield 31, 3) := by decide +kernel
theorem d_S_isTaken_7 : decode b_S_isTaken 7 = .ok (.if_icmp .ge 39, 3) := by decide +kernel
theorem d_S_isTaken_10 : decode b_S_isTaken 10 = .ok (.iload_n 2, 1) := by decide +kernel
theorem d_S_isTaken_11 : decode b_S_isTaken 11 = .ok (.aload_n 0, 1) := by decide +kernel
theorem d_S_isTaken_12 : decode b_S_isTaken 12 = .ok (.getfield 11, 3) := by decide +kernel
theorem d_S_isTaken_15 : decode b_S_isTaken 15 = .ok (.arraylength, 1) := by decide +kernel
theorem d_S_isTaken_16 : decode b_S_isTaken 16 = .ok (.if_icmp .ge 30, 3) := by decide +kernel
theorem d_S_isTaken_19 : decode b_S_isTaken 19 = .ok (.aload_n 0, 1) := by decide +kernel
theorem d_S_isTaken_20 : decode b_S_isTaken 20 = .ok (.getfield 11, 3) := by decide +kernel
theorem d_S_isTaken_23 : decode b_S_isTaken 23 = .ok (.iload_n 2, 1) := by decide +kernel
theorem d_S_isTaken_24 : decode b_S_isTaken 24 = .ok (.aaload, 1) := by decide +kernel
theorem d_S_isTaken_25 : decode b_S_isTaken 25 = .ok (.astore_n 3, 1) := by decide +kernel
theorem d_S_isTaken_26 : decode b_S_isTaken 26 = .ok (.aload_n 3, 1) := by decide +kernel
theorem d_S_isTaken_27 : decode b_S_isTaken 27 = .ok (.ifnull 13, 3) := by decide +kernel
theorem d_S_isTaken_30 : decode b_S_isTaken 30 = .ok (.aload_n 3, 1) := by decide +kernel
theorem d_S_isTaken_31 : decode b_S_isTaken 31 = .ok (.iload_n 1, 1) := by decide +kernel
theorem d_S_isTaken_32 : decode b_S_isTaken 32 = .ok (.invokevirtual 255, 3) := by decide +kernel
theorem d_S_isTaken_35 : decode b_S_isTaken 35 = .ok (.ifCond .eq 5, 3) := by decide +kernel
theorem d_S_isTaken_38 : decode b_S_isTaken 38 = .ok (.iconst 1, 1) := by decide +kernel
theorem d_S_isTaken_39 : decode b_S_isTaken 39 = .ok (.ireturn, 1) := by decide +kernel
theorem d_S_isTaken_40 : decode b_S_isTaken 40 = .ok (.iinc 2 1, 3) := by decide +kernel
theorem d_S_isTaken_43 : decode b_S_isTaken 43 = .ok (.goto (-41), 3) := by decide +kernel
theorem d_S_isTaken_46 : decode b_S_isTaken 46 = .ok (.iconst 0, 1) := by decide +kernel
theorem d_S_isTaken_47 : decode b_S_isTaken 47 = .ok (.ireturn, 1) := by decide +kernel
theorem d_A_standsAt_0 : decode b_A_standsAt 0 = .ok (.aload_n 0, 1) := by decide +kernel
theorem d_A_standsAt_1 : decode b_A_standsAt 1 = .ok (.getfield 30, 3) := by decide +kernel
theorem d_A_standsAt_4 : decode b_A_standsAt 4 = .ok (.iload_n 1, 1) := by decide +kernel
theorem d_A_standsAt_5 : decode b_A_standsAt 5 = .ok (.if_icmp .ne 22, 3) := by decide +kernel
theorem d_A_standsAt_8 : decode b_A_standsAt 8 = .ok (.aload_n 0, 1) := by decide +kernel
theorem d_A_standsAt_9 : decode b_A_standsAt 9 = .ok (.getfield 27, 3) := by decide +kernel
theorem d_A_standsAt_12 : decode b_A_standsAt 12 = .ok (.ifCond .eq 15, 3) := by decide +kernel
theorem d_A_standsAt_15 : decode b_A_standsAt 15 = .ok (.aload_n 0, 1) := by decide +kernel
theorem d_A_standsAt_16 : decode b_A_standsAt 16 = .ok (.getfield 27, 3) := by decide +kernel
theorem d_A_standsAt_19 : decode b_A_standsAt 19 = .ok (.iconst 3, 1) := by decide +kernel
theorem d_A_standsAt_20 : decode b_A_standsAt 20 = .ok (.if_icmp .eq 7, 3) := by decide +kernel
theorem d_A_standsAt_23 : decode b_A_standsAt 23 = .ok (.iconst 1, 1) := by decide +kernel
theorem d_A_standsAt_24 : decode b_A_standsAt 24 = .ok (.goto 4, 3) := by decide +kernel
theorem d_A_standsAt_27 : decode b_A_standsAt 27 = .ok (.iconst 0, 1) := by decide +kernel
theorem d_A_standsAt_28 : decode b_A_standsAt 28 = .ok (.ireturn, 1) := by decide +kernel
theorem d_S_accept_0 : decode b_S_accept 0 = .ok (.aload_n 0, 1) := by decide +kernel
theorem d_S_accept_1 : decode b_S_accept 1 = .ok (.iload_n 1, 1) := by decide +kernel
theorem d_S_accept_2 : decode b_S_accept 2 = .ok (.invokevirtual 44, 3) := by decide +kernel
theorem d_S_accept_5 : decode b_S_accept 5 = .ok (.astore_n 3, 1) := by decide +kernel
theorem d_S_accept_6 : decode b_S_accept 6 = .ok (.iload_n 2, 1) := by decide +kernel
theorem d_S_accept_7 : decode b_S_accept 7 = .ok (.iconst 0, 1) := by decide +kernel
theorem d_S_accept_8 : decode b_S_accept 8 = .ok (.bipush 7, 2) := by decide +kernel
theorem d_S_accept_10 : decode b_S_accept 10 = .ok (.invokestatic 27, 3) := by decide +kernel
theorem d_S_accept_13 : decode b_S_accept 13 = .ok (.aload_n 3, 1) := by decide +kernel
theorem d_S_accept_14 : decode b_S_accept 14 = .ok (.getfield 48, 3) := by decide +kernel
theorem d_S_accept_17 : decode b_S_accept 17 = .ok (.iconst 2, 1) := by decide +kernel
theorem d_S_accept_18 : decode b_S_accept 18 = .ok (.if_icmp .ne 15, 3) := by decide +kernel
theorem d_S_accept_21 : decode b_S_accept 21 = .ok (.aload_n 0, 1) := by decide +kernel
theorem d_S_accept_22 : decode b_S_accept 22 = .ok (.iload_n 2, 1) := by decide +kernel
theorem d_S_accept_23 : decode b_S_accept 23 = .ok (.invokevirtual 70, 3) := by decide +kernel
theorem d_S_accept_26 : decode b_S_accept 26 = .ok (.ifCond .eq 7, 3) := by decide +kernel
theorem d_S_accept_29 : decode b_S_accept 29 = .ok (.iconst 1, 1) := by decide +kernel
theorem d_S_accept_30 : decode b_S_accept 30 = .ok (.goto 4, 3) := by decide +kernel
theorem d_S_accept_33 : decode b_S_accept 33 = .ok (.iconst 0, 1) := by decide +kernel
theorem d_S_accept_34 : decode b_S_accept 34 = .ok (.invokestatic 55, 3) := by decide +kernel
theorem d_S_accept_37 : decode b_S_accept 37 = .ok (.aload_n 3, 1) := by decide +kernel
theorem d_S_accept_38 : decode b_S_accept 38 = .ok (.iconst 1, 1) := by decide +kernel
theorem d_S_accept_39 : decode b_S_accept 39 = .ok (.putfield 48, 3) := by decide +kernel
theorem d_S_accept_42 : decode b_S_accept 42 = .ok (.return_, 1) := by decide +kernel
theorem d_S_hasRight_0 : decode b_S_hasRight 0 = .ok (.aload_n 0, 1) := by decide +kernel
theorem d_S_hasRight_1 : decode b_S_hasRight 1 = .ok (.getfield 73, 3) := by decide +kernel
theorem d_S_hasRight_4 : decode b_S_hasRight 4 = .ok (.iload_n 1, 1) := by decide +kernel
theorem d_S_hasRight_5 : decode b_S_hasRight 5 = .ok (.invokestatic 76, 3) := by decide +kernel
theorem d_S_hasRight_8 : decode b_S_hasRight 8 = .ok (.iand, 1) := by decide +kernel
theorem d_S_hasRight_9 : decode b_S_hasRight 9 = .ok (.ifCond .eq 7, 3) := by decide +kernel
theorem d_S_hasRight_12 : decode b_S_hasRight 12 = .ok (.iconst 1, 1) := by decide +kernel
theorem d_S_hasRight_13 : decode b_S_hasRight 13 = .ok (.goto 4, 3) := by decide +kernel
theorem d_S_hasRight_16 : decode b_S_hasRight 16 = .ok (.iconst 0, 1) := by decide +kernel
theorem d_S_hasRight_17 : decode b_S_hasRight 17 = .ok (.ireturn, 1) := by decide +kernel
theorem d_S_bitOf_0 : decode b_S_bitOf 0 = .ok (.iconst 1, 1) := by decide +kernel
theorem d_S_bitOf_1 : decode b_S_bitOf 1 = .ok (.iload_n 0, 1) := by decide +kernel
theorem d_S_bitOf_2 : decode b_S_bitOf 2 = .ok (.ishl, 1) := by decide +kernel
theorem d_S_bitOf_3 : decode b_S_bitOf 3 = .ok (.ireturn, 1) := by decide +kernel
theorem d_S_right_0 : decode b_S_right 0 = .ok (.iload_n 1, 1) := by decide +kernel
theorem d_S_right_1 : decode b_S_right 1 = .ok (.iconst 0, 1) := by decide +kernel
theorem d_S_right_2 : decode b_S_right 2 = .ok (.bipush 7, 2) := by decide +kernel
theorem d_S_right_4 : decode b_S_right 4 = .ok (.invokestatic 27, 3) := by decide +kernel
theorem d_S_right_7 : decode b_S_right 7 = .ok (.aload_n 0, 1) := by decide +kernel
theorem d_S_right_8 : decode b_S_right 8 = .ok (.iload_n 2, 1) := by decide +kernel
theorem d_S_right_9 : decode b_S_right 9 = .ok (.ifCond .eq 15, 3) := by decide +kernel
theorem d_S_right_12 : decode b_S_right 12 = .ok (.aload_n 0, 1) := by decide +kernel
theorem d_S_right_13 : decode b_S_right 13 = .ok (.getfield 73, 3) := by decide +kernel
theorem d_S_right_16 : decode b_S_right 16 = .ok (.iload_n 1, 1) := by decide +kernel
theorem d_S_right_17 : decode b_S_right 17 = .ok (.invokestatic 76, 3) := by decide +kernel
theorem d_S_right_20 : decode b_S_right 20 = .ok (.ior, 1) := by decide +kernel
theorem d_S_right_21 : decode b_S_right 21 = .ok (.goto 14, 3) := by decide +kernel
theorem d_S_right_24 : decode b_S_right 24 = .ok (.aload_n 0, 1) := by decide +kernel
theorem d_S_right_25 : decode b_S_right 25 = .ok (.getfield 73, 3) := by decide +kernel
theorem d_S_right_28 : decode b_S_right 28 = .ok (.iload_n 1, 1) := by decide +kernel
theorem d_S_right_29 : decode b_S_right 29 = .ok (.invokestatic 76, 3) := by decide +kernel
theorem d_S_right_32 : decode b_S_right 32 = .ok (.iconst (-1), 1) := by decide +kernel
theorem d_S_right_33 : decode b_S_right 33 = .ok (.ixor, 1) := by decide +kernel
theorem d_S_right_34 : decode b_S_right 34 = .ok (.iand, 1) := by decide +kernel
theorem d_S_right_35 : decode b_S_right 35 = .ok (.putfield 73, 3) := by decide +kernel
theorem d_S_right_38 : decode b_S_right 38 = .ok (.return_, 1) := by decide +kernel
theorem d_S_tolerance_0 : decode b_S_tolerance 0 = .ok (.aload_n 0, 1) := by decide +kernel
theorem d_S_tolerance_1 : decode b_S_tolerance 1 = .ok (.iload_n 1, 1) := by decide +kernel
theorem d_S_tolerance_2 : decode b_S_tolerance 2 = .ok (.iload_n 2, 1) := by decide +kernel
theorem d_S_tolerance_3 : decode b_S_tolerance 3 = .ok (.invokevirtual 80, 3) := by decide +kernel
theorem d_S_tolerance_6 : decode b_S_tolerance 6 = .ok (.astore 4, 2) := by decide +kernel
theorem d_S_tolerance_8 : decode b_S_tolerance 8 = .ok (.iload_n 3, 1) := by decide +kernel
theorem d_S_tolerance_9 : decode b_S_tolerance 9 = .ok (.iconst 0, 1) := by decide +kernel
theorem d_S_tolerance_10 : decode b_S_tolerance 10 = .ok (.bipush 50, 2) := by decide +kernel
theorem d_S_tolerance_12 : decode b_S_tolerance 12 = .ok (.invokestatic 27, 3) := by decide +kernel
theorem d_S_tolerance_15 : decode b_S_tolerance 15 = .ok (.aload 4, 2) := by decide +kernel
theorem d_S_tolerance_17 : decode b_S_tolerance 17 = .ok (.getfield 84, 3) := by decide +kernel
theorem d_S_tolerance_20 : decode b_S_tolerance 20 = .ok (.ifCond .ne 7, 3) := by decide +kernel
theorem d_S_tolerance_23 : decode b_S_tolerance 23 = .ok (.iconst 1, 1) := by decide +kernel
theorem d_S_tolerance_24 : decode b_S_tolerance 24 = .ok (.goto 4, 3) := by decide +kernel
theorem d_S_tolerance_27 : decode b_S_tolerance 27 = .ok (.iconst 0, 1) := by decide +kernel
theorem d_S_tolerance_28 : decode b_S_tolerance 28 = .ok (.invokestatic 55, 3) := by decide +kernel
theorem d_S_tolerance_31 : decode b_S_tolerance 31 = .ok (.aload 4, 2) := by decide +kernel
theorem d_S_tolerance_33 : decode b_S_tolerance 33 = .ok (.iload_n 3, 1) := by decide +kernel
theorem d_S_tolerance_34 : decode b_S_tolerance 34 = .ok (.putfield 88, 3) := by decide +kernel
theorem d_S_tolerance_37 : decode b_S_tolerance 37 = .ok (.return_, 1) := by decide +kernel
theorem d_S_lineOf_0 : decode b_S_lineOf 0 = .ok (.aload_n 0, 1) := by decide +kernel
theorem d_S_lineOf_1 : decode b_S_lineOf 1 = .ok (.iload_n 1, 1) := by decide +kernel
theorem d_S_lineOf_2 : decode b_S_lineOf 2 = .ok (.invokevirtual 44, 3) := by decide +kernel
theorem d_S_lineOf_5 : decode b_S_lineOf 5 = .ok (.astore_n 3, 1) := by decide +kernel
theorem d_S_lineOf_6 : decode b_S_lineOf 6 = .ok (.iload_n 2, 1) := by decide +kernel
theorem d_S_lineOf_7 : decode b_S_lineOf 7 = .ok (.ifCond .lt 20, 3) := by decide +kernel
theorem d_S_lineOf_10 : decode b_S_lineOf 10 = .ok (.iload_n 2, 1) := by decide +kernel
theorem d_S_lineOf_11 : decode b_S_lineOf 11 = .ok (.aload_n 3, 1) := by decide +kernel
theorem d_S_lineOf_12 : decode b_S_lineOf 12 = .ok (.getfield 226, 3) := by decide +kernel
theorem d_S_lineOf_15 : decode b_S_lineOf 15 = .ok (.if_icmp .ge 12, 3) := by decide +kernel
theorem d_S_lineOf_18 : decode b_S_lineOf 18 = .ok (.iload_n 2, 1) := by decide +kernel
theorem d_S_lineOf_19 : decode b_S_lineOf 19 = .ok (.aload_n 3, 1) := by decide +kernel
theorem d_S_lineOf_20 : decode b_S_lineOf 20 = .ok (.getfield 243, 3) := by decide +kernel
theorem d_S_lineOf_23 : decode b_S_lineOf 23 = .ok (.arraylength, 1) := by decide +kernel
theorem d_S_lineOf_24 : decode b_S_lineOf 24 = .ok (.if_icmp .lt 13, 3) := by decide +kernel
theorem d_S_lineOf_27 : decode b_S_lineOf 27 = .ok (.new 238, 3) := by decide +kernel
theorem d_S_lineOf_30 : decode b_S_lineOf 30 = .ok (.dup, 1) := by decide +kernel
theorem d_S_lineOf_31 : decode b_S_lineOf 31 = .ok (.ldc 246, 2) := by decide +kernel
theorem d_S_lineOf_33 : decode b_S_lineOf 33 = .ok (.invokespecial 242, 3) := by decide +kernel
theorem d_S_lineOf_36 : decode b_S_lineOf 36 = .ok (.athrow, 1) := by decide +kernel
theorem d_S_lineOf_37 : decode b_S_lineOf 37 = .ok (.aload_n 3, 1) := by decide +kernel
theorem d_S_lineOf_38 : decode b_S_lineOf 38 = .ok (.getfield 243, 3) := by decide +kernel
theorem d_S_lineOf_41 : decode b_S_lineOf 41 = .ok (.iload_n 2, 1) := by decide +kernel
theorem d_S_lineOf_42 : decode b_S_lineOf 42 = .ok (.aaload, 1) := by decide +kernel
theorem d_S_lineOf_43 : decode b_S_lineOf 43 = .ok (.astore 4, 2) := by decide +kernel
theorem d_S_lineOf_45 : decode b_S_lineOf 45 = .ok (.aload 4, 2) := by decide +kernel
theorem d_S_lineOf_47 : decode b_S_lineOf 47 = .ok (.ifnonnull 13, 3) := by decide +kernel
theorem d_S_lineOf_50 : decode b_S_lineOf 50 = .ok (.new 238, 3) := by decide +kernel
theorem d_S_lineOf_53 : decode b_S_lineOf 53 = .ok (.dup, 1) := by decide +kernel
theorem d_S_lineOf_54 : decode b_S_lineOf 54 = .ok (.ldc 246, 2) := by decide +kernel
theorem d_S_lineOf_56 : decode b_S_lineOf 56 = .ok (.invokespecial 242, 3) := by decide +kernel
theorem d_S_lineOf_59 : decode b_S_lineOf 59 = .ok (.athrow, 1) := by decide +kernel
theorem d_S_lineOf_60 : decode b_S_lineOf 60 = .ok (.aload 4, 2) := by decide +kernel
theorem d_S_lineOf_62 : decode b_S_lineOf 62 = .ok (.areturn, 1) := by decide +kernel
theorem d_S_wanted_0 : decode b_S_wanted 0 = .ok (.aload_n 0, 1) := by decide +kernel
theorem d_S_wanted_1 : decode b_S_wanted 1 = .ok (.iload_n 1, 1) := by decide +kernel
theorem d_S_wanted_2 : decode b_S_wanted 2 = .ok (.iload_n 2, 1) := by decide +kernel
theorem d_S_wanted_3 : decode b_S_wanted 3 = .ok (.invokevirtual 80, 3) := by decide +kernel
theorem d_S_wanted_6 : decode b_S_wanted 6 = .ok (.astore 4, 2) := by decide +kernel
theorem d_S_wanted_8 : decode b_S_wanted 8 = .ok (.iload_n 3, 1) := by decide +kernel
theorem d_S_wanted_9 : decode b_S_wanted 9 = .ok (.iconst 0, 1) := by decide +kernel
theorem d_S_wanted_10 : decode b_S_wanted 10 = .ok (.iconst 5, 1) := by decide +kernel
theorem d_S_wanted_11 : decode b_S_wanted 11 = .ok (.invokestatic 27, 3) := by decide +kernel
theorem d_S_wanted_14 : decode b_S_wanted 14 = .ok (.aload 4, 2) := by decide +kernel
theorem d_S_wanted_16 : decode b_S_wanted 16 = .ok (.getfield 84, 3) := by decide +kernel
theorem d_S_wanted_19 : decode b_S_wanted 19 = .ok (.ifCond .ne 7, 3) := by decide +kernel
theorem d_S_wanted_22 : decode b_S_wanted 22 = .ok (.iconst 1, 1) := by decide +kernel
theorem d_S_wanted_23 : decode b_S_wanted 23 = .ok (.goto 4, 3) := by decide +kernel
theorem d_S_wanted_26 : decode b_S_wanted 26 = .ok (.iconst 0, 1) := by decide +kernel
theorem d_S_wanted_27 : decode b_S_wanted 27 = .ok (.invokestatic 55, 3) := by decide +kernel
theorem d_S_wanted_30 : decode b_S_wanted 30 = .ok (.aload 4, 2) := by decide +kernel
theorem d_S_wanted_32 : decode b_S_wanted 32 = .ok (.iload_n 3, 1) := by decide +kernel
theorem d_S_wanted_33 : decode b_S_wanted 33 = .ok (.putfield 91, 3) := by decide +kernel
theorem d_S_wanted_36 : decode b_S_wanted 36 = .ok (.return_, 1) := by decide +kernel
theorem d_S_count_0 : decode b_S_count 0 = .ok (.aload_n 0, 1) := by decide +kernel
theorem d_S_count_1 : decode b_S_count 1 = .ok (.iload_n 1, 1) := by decide +kernel
theorem d_S_count_2 : decode b_S_count 2 = .ok (.iload_n 2, 1) := by decide +kernel
theorem d_S_count_3 : decode b_S_count 3 = .ok (.invokevirtual 80, 3) := by decide +kernel
theorem d_S_count_6 : decode b_S_count 6 = .ok (.astore 6, 2) := by decide +kernel
theorem d_S_count_8 : decode b_S_count 8 = .ok (.iload_n 3, 1) := by decide +kernel
theorem d_S_count_9 : decode b_S_count 9 = .ok (.iconst 1, 1) := by decide +kernel
theorem d_S_count_10 : decode b_S_count 10 = .ok (.sipush 400, 3) := by decide +kernel
theorem d_S_count_13 : decode b_S_count 13 = .ok (.invokestatic 27, 3) := by decide +kernel
theorem d_S_count_16 : decode b_S_count 16 = .ok (.iload 4, 2) := by decide +kernel
theorem d_S_count_18 : decode b_S_count 18 = .ok (.iconst 0, 1) := by decide +kernel
theorem d_S_count_19 : decode b_S_count 19 = .ok (.bipush 99, 2) := by decide +kernel
theorem d_S_count_21 : decode b_S_count 21 = .ok (.invokestatic 27, 3) := by decide +kernel
theorem d_S_count_24 : decode b_S_count 24 = .ok (.iload 5, 2) := by decide +kernel
theorem d_S_count_26 : decode b_S_count 26 = .ok (.iconst 0, 1) := by decide +kernel
theorem d_S_count_27 : decode b_S_count 27 = .ok (.bipush 7, 2) := by decide +kernel
theorem d_S_count_29 : decode b_S_count 29 = .ok (.invokestatic 27, 3) := by decide +kernel
theorem d_S_count_32 : decode b_S_count 32 = .ok (.aload 6, 2) := by decide +kernel
theorem d_S_count_34 : decode b_S_count 34 = .ok (.iload_n 3, 1) := by decide +kernel
theorem d_S_count_35 : decode b_S_count 35 = .ok (.iload 5, 2) := by decide +kernel
theorem d_S_count_37 : decode b_S_count 37 = .ok (.invokestatic 94, 3) := by decide +kernel
theorem d_S_count_40 : decode b_S_count 40 = .ok (.istore 7, 2) := by decide +kernel
theorem d_S_count_42 : decode b_S_count 42 = .ok (.iload 7, 2) := by decide +kernel
theorem d_S_count_44 : decode b_S_count 44 = .ok (.ifCond .ge 6, 3) := by decide +kernel
theorem d_S_count_47 : decode b_S_count 47 = .ok (.iload 7, 2) := by decide +kernel
theorem d_S_count_49 : decode b_S_count 49 = .ok (.ireturn, 1) := by decide +kernel
theorem d_S_count_50 : decode b_S_count 50 = .ok (.iload_n 3, 1) := by decide +kernel
theorem d_S_count_51 : decode b_S_count 51 = .ok (.bipush 50, 2) := by decide +kernel
theorem d_S_count_53 : decode b_S_count 53 = .ok (.iadd, 1) := by decide +kernel
theorem d_S_count_54 : decode b_S_count 54 = .ok (.iconst 1, 1) := by decide +kernel
theorem d_S_count_55 : decode b_S_count 55 = .ok (.isub, 1) := by decide +kernel
theorem d_S_count_56 : decode b_S_count 56 = .ok (.bipush 50, 2) := by decide +kernel
theorem d_S_count_58 : decode b_S_count 58 = .ok (.idiv, 1) := by decide +kernel
theorem d_S_count_59 : decode b_S_count 59 = .ok (.istore 8, 2) := by decide +kernel
theorem d_S_count_61 : decode b_S_count 61 = .ok (.iload 8, 2) := by decide +kernel
theorem d_S_count_63 : decode b_S_count 63 = .ok (.aload_n 0, 1) := by decide +kernel
theorem d_S_count_64 : decode b_S_count 64 = .ok (.getfield 17, 3) := by decide +kernel
theorem d_S_count_67 : decode b_S_count 67 = .ok (.arraylength, 1) := by decide +kernel
theorem d_S_count_68 : decode b_S_count 68 = .ok (.aload_n 0, 1) := by decide +kernel
theorem d_S_count_69 : decode b_S_count 69 = .ok (.getfield 98, 3) := by decide +kernel
theorem d_S_count_72 : decode b_S_count 72 = .ok (.isub, 1) := by decide +kernel
theorem d_S_count_73 : decode b_S_count 73 = .ok (.if_icmp .le 13, 3) := by decide +kernel
theorem d_S_count_76 : decode b_S_count 76 = .ok (.new 35, 3) := by decide +kernel
theorem d_S_count_79 : decode b_S_count 79 = .ok (.dup, 1) := by decide +kernel
theorem d_S_count_80 : decode b_S_count 80 = .ok (.ldc 101, 2) := by decide +kernel
theorem d_S_count_82 : decode b_S_count 82 = .ok (.invokespecial 39, 3) := by decide +kernel
theorem d_S_count_85 : decode b_S_count 85 = .ok (.athrow, 1) := by decide +kernel
theorem d_S_count_86 : decode b_S_count 86 = .ok (.aload_n 0, 1) := by decide +kernel
theorem d_S_count_87 : decode b_S_count 87 = .ok (.aload 6, 2) := by decide +kernel
theorem d_S_count_89 : decode b_S_count 89 = .ok (.iload_n 3, 1) := by decide +kernel
theorem d_S_count_90 : decode b_S_count 90 = .ok (.iload 4, 2) := by decide +kernel
theorem d_S_count_92 : decode b_S_count 92 = .ok (.invokevirtual 103, 3) := by decide +kernel
theorem d_S_count_95 : decode b_S_count 95 = .ok (.aload 6, 2) := by decide +kernel
theorem d_S_count_97 : decode b_S_count 97 = .ok (.dup, 1) := by decide +kernel
theorem d_S_count_98 : decode b_S_count 98 = .ok (.getfield 107, 3) := by decide +kernel
theorem d_S_count_101 : decode b_S_count 101 = .ok (.iload_n 3, 1) := by decide +kernel
theorem d_S_count_102 : decode b_S_count 102 = .ok (.iadd, 1) := by decide +kernel
theorem d_S_count_103 : decode b_S_count 103 = .ok (.putfield 107, 3) := by decide +kernel
theorem d_S_count_106 : decode b_S_count 106 = .ok (.aload 6, 2) := by decide +kernel
theorem d_S_count_108 : decode b_S_count 108 = .ok (.dup, 1) := by decide +kernel
theorem d_S_count_109 : decode b_S_count 109 = .ok (.getfield 110, 3) := by decide +kernel
theorem d_S_count_112 : decode b_S_count 112 = .ok (.iload 5, 2) := by decide +kernel
theorem d_S_count_114 : decode b_S_count 114 = .ok (.invokestatic 76, 3) := by decide +kernel
theorem d_S_count_117 : decode b_S_count 117 = .ok (.ior, 1) := by decide +kernel
theorem d_S_count_118 : decode b_S_count 118 = .ok (.putfield 110, 3) := by decide +kernel
theorem d_S_count_121 : decode b_S_count 121 = .ok (.iload 8, 2) := by decide +kernel
theorem d_S_count_123 : decode b_S_count 123 = .ok (.ireturn, 1) := by decide +kernel
theorem d_S_brokenByCounting_0 : decode b_S_brokenByCounting 0 = .ok (.aload_n 0, 1) := by decide +kernel
theorem d_S_brokenByCounting_1 : decode b_S_brokenByCounting 1 = .ok (.getfield 131, 3) := by decide +kernel
theorem d_S_brokenByCounting_4 : decode b_S_brokenByCounting 4 = .ok (.invokevirtual 135, 3) := by decide +kernel
theorem d_S_brokenByCounting_7 : decode b_S_brokenByCounting 7 = .ok (.ifCond .ne 5, 3) := by decide +kernel
theorem d_S_brokenByCounting_10 : decode b_S_brokenByCounting 10 = .ok (.iconst (-1), 1) := by decide +kernel
theorem d_S_brokenByCounting_11 : decode b_S_brokenByCounting 11 = .ok (.ireturn, 1) := by decide +kernel
theorem d_S_brokenByCounting_12 : decode b_S_brokenByCounting 12 = .ok (.aload_n 0, 1) := by decide +kernel
theorem d_S_brokenByCounting_13 : decode b_S_brokenByCounting 13 = .ok (.getfield 84, 3) := by decide +kernel
theorem d_S_brokenByCounting_16 : decode b_S_brokenByCounting 16 = .ok (.ifCond .eq 6, 3) := by decide +kernel
theorem d_S_brokenByCounting_19 : decode b_S_brokenByCounting 19 = .ok (.bipush (-2), 2) := by decide +kernel
theorem d_S_brokenByCounting_21 : decode b_S_brokenByCounting 21 = .ok (.ireturn, 1) := by decide +kernel
theorem d_S_brokenByCounting_22 : decode b_S_brokenByCounting 22 = .ok (.aload_n 0, 1) := by decide +kernel
theorem d_S_brokenByCounting_23 : decode b_S_brokenByCounting 23 = .ok (.getfield 110, 3) := by decide +kernel
theorem d_S_brokenByCounting_26 : decode b_S_brokenByCounting 26 = .ok (.iload_n 2, 1) := by decide +kernel
theorem d_S_brokenByCounting_27 : decode b_S_brokenByCounting 27 = .ok (.invokestatic 76, 3) := by decide +kernel
theorem d_S_brokenByCounting_30 : decode b_S_brokenByCounting 30 = .ok (.iand, 1) := by decide +kernel
theorem d_S_brokenByCounting_31 : decode b_S_brokenByCounting 31 = .ok (.ifCond .eq 6, 3) := by decide +kernel
theorem d_S_brokenByCounting_34 : decode b_S_brokenByCounting 34 = .ok (.bipush (-3), 2) := by decide +kernel
theorem d_S_brokenByCounting_36 : decode b_S_brokenByCounting 36 = .ok (.ireturn, 1) := by decide +kernel
theorem d_S_brokenByCounting_37 : decode b_S_brokenByCounting 37 = .ok (.aload_n 0, 1) := by decide +kernel
theorem d_S_brokenByCounting_38 : decode b_S_brokenByCounting 38 = .ok (.getfield 107, 3) := by decide +kernel
theorem d_S_brokenByCounting_41 : decode b_S_brokenByCounting 41 = .ok (.iload_n 1, 1) := by decide +kernel
theorem d_S_brokenByCounting_42 : decode b_S_brokenByCounting 42 = .ok (.iadd, 1) := by decide +kernel
theorem d_S_brokenByCounting_43 : decode b_S_brokenByCounting 43 = .ok (.aload_n 0, 1) := by decide +kernel
theorem d_S_brokenByCounting_44 : decode b_S_brokenByCounting 44 = .ok (.invokevirtual 221, 3) := by decide +kernel
theorem d_S_brokenByCounting_47 : decode b_S_brokenByCounting 47 = .ok (.if_icmp .le 8, 3) := by decide +kernel
theorem d_S_brokenByCounting_50 : decode b_S_brokenByCounting 50 = .ok (.bipush (-4), 2) := by decide +kernel
theorem d_S_brokenByCounting_52 : decode b_S_brokenByCounting 52 = .ok (.goto 4, 3) := by decide +kernel
theorem d_S_brokenByCounting_55 : decode b_S_brokenByCounting 55 = .ok (.iconst 0, 1) := by decide +kernel
theorem d_S_brokenByCounting_56 : decode b_S_brokenByCounting 56 = .ok (.ireturn, 1) := by decide +kernel
theorem d_A_hasArrived_0 : decode b_A_hasArrived 0 = .ok (.aload_n 0, 1) := by decide +kernel
theorem d_A_hasArrived_1 : decode b_A_hasArrived 1 = .ok (.getfield 27, 3) := by decide +kernel
theorem d_A_hasArrived_4 : decode b_A_hasArrived 4 = .ok (.iconst 1, 1) := by decide +kernel
theorem d_A_hasArrived_5 : decode b_A_hasArrived 5 = .ok (.if_icmp .ne 7, 3) := by decide +kernel
theorem d_A_hasArrived_8 : decode b_A_hasArrived 8 = .ok (.iconst 1, 1) := by decide +kernel
theorem d_A_hasArrived_9 : decode b_A_hasArrived 9 = .ok (.goto 4, 3) := by decide +kernel
theorem d_A_hasArrived_12 : decode b_A_hasArrived 12 = .ok (.iconst 0, 1) := by decide +kernel
theorem d_A_hasArrived_13 : decode b_A_hasArrived 13 = .ok (.ireturn, 1) := by decide +kernel
theorem d_N_mostTaken_0 : decode b_N_mostTaken 0 = .ok (.aload_n 0, 1) := by decide +kernel
theorem d_N_mostTaken_1 : decode b_N_mostTaken 1 = .ok (.getfield 20, 3) := by decide +kernel
theorem d_N_mostTaken_4 : decode b_N_mostTaken 4 = .ok (.aload_n 0, 1) := by decide +kernel
theorem d_N_mostTaken_5 : decode b_N_mostTaken 5 = .ok (.getfield 20, 3) := by decide +kernel
theorem d_N_mostTaken_8 : decode b_N_mostTaken 8 = .ok (.aload_n 0, 1) := by decide +kernel
theorem d_N_mostTaken_9 : decode b_N_mostTaken 9 = .ok (.getfield 23, 3) := by decide +kernel
theorem d_N_mostTaken_12 : decode b_N_mostTaken 12 = .ok (.imul, 1) := by decide +kernel
theorem d_N_mostTaken_13 : decode b_N_mostTaken 13 = .ok (.bipush 100, 2) := by decide +kernel
theorem d_N_mostTaken_15 : decode b_N_mostTaken 15 = .ok (.idiv, 1) := by decide +kernel
theorem d_N_mostTaken_16 : decode b_N_mostTaken 16 = .ok (.iadd, 1) := by decide +kernel
theorem d_N_mostTaken_17 : decode b_N_mostTaken 17 = .ok (.ireturn, 1) := by decide +kernel
theorem d_S_makeUnits_0 : decode b_S_makeUnits 0 = .ok (.iload_n 2, 1) := by decide +kernel
theorem d_S_makeUnits_1 : decode b_S_makeUnits 1 = .ok (.istore 4, 2) := by decide +kernel
theorem d_S_makeUnits_3 : decode b_S_makeUnits 3 = .ok (.iload 4, 2) := by decide +kernel
theorem d_S_makeUnits_5 : decode b_S_makeUnits 5 = .ok (.ifCond .le 56, 3) := by decide +kernel
theorem d_S_makeUnits_8 : decode b_S_makeUnits 8 = .ok (.aload_n 0, 1) := by decide +kernel
theorem d_S_makeUnits_9 : decode b_S_makeUnits 9 = .ok (.getfield 98, 3) := by decide +kernel
theorem d_S_makeUnits_12 : decode b_S_makeUnits 12 = .ok (.aload_n 0, 1) := by decide +kernel
theorem d_S_makeUnits_13 : decode b_S_makeUnits 13 = .ok (.getfield 17, 3) := by decide +kernel
theorem d_S_makeUnits_16 : decode b_S_makeUnits 16 = .ok (.arraylength, 1) := by decide +kernel
theorem d_S_makeUnits_17 : decode b_S_makeUnits 17 = .ok (.if_icmp .ge 44, 3) := by decide +kernel
theorem d_S_makeUnits_20 : decode b_S_makeUnits 20 = .ok (.aload_n 0, 1) := by decide +kernel
theorem d_S_makeUnits_21 : decode b_S_makeUnits 21 = .ok (.getfield 17, 3) := by decide +kernel
theorem d_S_makeUnits_24 : decode b_S_makeUnits 24 = .ok (.aload_n 0, 1) := by decide +kernel
theorem d_S_makeUnits_25 : decode b_S_makeUnits 25 = .ok (.getfield 98, 3) := by decide +kernel
theorem d_S_makeUnits_28 : decode b_S_makeUnits 28 = .ok (.new 15, 3) := by decide +kernel
theorem d_S_makeUnits_31 : decode b_S_makeUnits 31 = .ok (.dup, 1) := by decide +kernel
theorem d_S_makeUnits_32 : decode b_S_makeUnits 32 = .ok (.aload_n 1, 1) := by decide +kernel
theorem d_S_makeUnits_33 : decode b_S_makeUnits 33 = .ok (.iload 4, 2) := by decide +kernel
theorem d_S_makeUnits_35 : decode b_S_makeUnits 35 = .ok (.bipush 50, 2) := by decide +kernel
theorem d_S_makeUnits_37 : decode b_S_makeUnits 37 = .ok (.invokestatic 258, 3) := by decide +kernel
theorem d_S_makeUnits_40 : decode b_S_makeUnits 40 = .ok (.iload_n 3, 1) := by decide +kernel
theorem d_S_makeUnits_41 : decode b_S_makeUnits 41 = .ok (.invokespecial 263, 3) := by decide +kernel
theorem d_S_makeUnits_44 : decode b_S_makeUnits 44 = .ok (.aastore, 1) := by decide +kernel
theorem d_S_makeUnits_45 : decode b_S_makeUnits 45 = .ok (.aload_n 0, 1) := by decide +kernel
theorem d_S_makeUnits_46 : decode b_S_makeUnits 46 = .ok (.dup, 1) := by decide +kernel
theorem d_S_makeUnits_47 : decode b_S_makeUnits 47 = .ok (.getfield 98, 3) := by decide +kernel
theorem d_S_makeUnits_50 : decode b_S_makeUnits 50 = .ok (.iconst 1, 1) := by decide +kernel
theorem d_S_makeUnits_51 : decode b_S_makeUnits 51 = .ok (.iadd, 1) := by decide +kernel
theorem d_S_makeUnits_52 : decode b_S_makeUnits 52 = .ok (.putfield 98, 3) := by decide +kernel
theorem d_S_makeUnits_55 : decode b_S_makeUnits 55 = .ok (.iinc 4 (-50), 3) := by decide +kernel
theorem d_S_makeUnits_58 : decode b_S_makeUnits 58 = .ok (.goto (-55), 3) := by decide +kernel
theorem d_S_makeUnits_61 : decode b_S_makeUnits 61 = .ok (.return_, 1) := by decide +kernel
theorem d_U_init_0 : decode b_U_init 0 = .ok (.aload_n 0, 1) := by decide +kernel
theorem d_U_init_1 : decode b_U_init 1 = .ok (.invokespecial 3, 3) := by decide +kernel
theorem d_U_init_4 : decode b_U_init 4 = .ok (.aload_n 0, 1) := by decide +kernel
theorem d_U_init_5 : decode b_U_init 5 = .ok (.aload_n 1, 1) := by decide +kernel
theorem d_U_init_6 : decode b_U_init 6 = .ok (.putfield 9, 3) := by decide +kernel
theorem d_U_init_9 : decode b_U_init 9 = .ok (.aload_n 0, 1) := by decide +kernel
theorem d_U_init_10 : decode b_U_init 10 = .ok (.iload_n 2, 1) := by decide +kernel
theorem d_U_init_11 : decode b_U_init 11 = .ok (.putfield 15, 3) := by decide +kernel
theorem d_U_init_14 : decode b_U_init 14 = .ok (.aload_n 0, 1) := by decide +kernel
theorem d_U_init_15 : decode b_U_init 15 = .ok (.iload_n 3, 1) := by decide +kernel
theorem d_U_init_16 : decode b_U_init 16 = .ok (.putfield 19, 3) := by decide +kernel
theorem d_U_init_19 : decode b_U_init 19 = .ok (.aload_n 0, 1) := by decide +kernel
theorem d_U_init_20 : decode b_U_init 20 = .ok (.iconst (-1), 1) := by decide +kernel
theorem d_U_init_21 : decode b_U_init 21 = .ok (.putfield 22, 3) := by decide +kernel
theorem d_U_init_24 : decode b_U_init 24 = .ok (.return_, 1) := by decide +kernel
theorem d_S_damaged_0 : decode b_S_damaged 0 = .ok (.aload_n 0, 1) := by decide +kernel
theorem d_S_damaged_1 : decode b_S_damaged 1 = .ok (.iload_n 1, 1) := by decide +kernel
theorem d_S_damaged_2 : decode b_S_damaged 2 = .ok (.invokevirtual 113, 3) := by decide +kernel
theorem d_S_damaged_5 : decode b_S_damaged 5 = .ok (.astore_n 3, 1) := by decide +kernel
theorem d_S_damaged_6 : decode b_S_damaged 6 = .ok (.iload_n 2, 1) := by decide +kernel
theorem d_S_damaged_7 : decode b_S_damaged 7 = .ok (.iconst 1, 1) := by decide +kernel
theorem d_S_damaged_8 : decode b_S_damaged 8 = .ok (.bipush 9, 2) := by decide +kernel
theorem d_S_damaged_10 : decode b_S_damaged 10 = .ok (.invokestatic 27, 3) := by decide +kernel
theorem d_S_damaged_13 : decode b_S_damaged 13 = .ok (.aload_n 3, 1) := by decide +kernel
theorem d_S_damaged_14 : decode b_S_damaged 14 = .ok (.invokevirtual 117, 3) := by decide +kernel
theorem d_S_damaged_17 : decode b_S_damaged 17 = .ok (.ifCond .ne 17, 3) := by decide +kernel
theorem d_S_damaged_20 : decode b_S_damaged 20 = .ok (.aload_n 3, 1) := by decide +kernel
theorem d_S_damaged_21 : decode b_S_damaged 21 = .ok (.getfield 120, 3) := by decide +kernel
theorem d_S_damaged_24 : decode b_S_damaged 24 = .ok (.getfield 84, 3) := by decide +kernel
theorem d_S_damaged_27 : decode b_S_damaged 27 = .ok (.ifCond .ne 7, 3) := by decide +kernel
theorem d_S_damaged_30 : decode b_S_damaged 30 = .ok (.iconst 1, 1) := by decide +kernel
theorem d_S_damaged_31 : decode b_S_damaged 31 = .ok (.goto 4, 3) := by decide +kernel
theorem d_S_damaged_34 : decode b_S_damaged 34 = .ok (.iconst 0, 1) := by decide +kernel
theorem d_S_damaged_35 : decode b_S_damaged 35 = .ok (.invokestatic 55, 3) := by decide +kernel
theorem d_S_damaged_38 : decode b_S_damaged 38 = .ok (.aload_n 3, 1) := by decide +kernel
theorem d_S_damaged_39 : decode b_S_damaged 39 = .ok (.iload_n 2, 1) := by decide +kernel
theorem d_S_damaged_40 : decode b_S_damaged 40 = .ok (.putfield 124, 3) := by decide +kernel
theorem d_S_damaged_43 : decode b_S_damaged 43 = .ok (.aload_n 0, 1) := by decide +kernel
theorem d_S_damaged_44 : decode b_S_damaged 44 = .ok (.aload_n 3, 1) := by decide +kernel
theorem d_S_damaged_45 : decode b_S_damaged 45 = .ok (.getfield 120, 3) := by decide +kernel
theorem d_S_damaged_48 : decode b_S_damaged 48 = .ok (.iconst 1, 1) := by decide +kernel
theorem d_S_damaged_49 : decode b_S_damaged 49 = .ok (.invokevirtual 127, 3) := by decide +kernel
theorem d_S_damaged_52 : decode b_S_damaged 52 = .ok (.ireturn, 1) := by decide +kernel
theorem d_S_unitOf_0 : decode b_S_unitOf 0 = .ok (.iload_n 1, 1) := by decide +kernel
theorem d_S_unitOf_1 : decode b_S_unitOf 1 = .ok (.iconst 1, 1) := by decide +kernel
theorem d_S_unitOf_2 : decode b_S_unitOf 2 = .ok (.if_icmp .lt 20, 3) := by decide +kernel
theorem d_S_unitOf_5 : decode b_S_unitOf 5 = .ok (.iload_n 1, 1) := by decide +kernel
theorem d_S_unitOf_6 : decode b_S_unitOf 6 = .ok (.aload_n 0, 1) := by decide +kernel
theorem d_S_unitOf_7 : decode b_S_unitOf 7 = .ok (.getfield 98, 3) := by decide +kernel
theorem d_S_unitOf_10 : decode b_S_unitOf 10 = .ok (.if_icmp .gt 12, 3) := by decide +kernel
theorem d_S_unitOf_13 : decode b_S_unitOf 13 = .ok (.iload_n 1, 1) := by decide +kernel
theorem d_S_unitOf_14 : decode b_S_unitOf 14 = .ok (.aload_n 0, 1) := by decide +kernel
theorem d_S_unitOf_15 : decode b_S_unitOf 15 = .ok (.getfield 17, 3) := by decide +kernel
theorem d_S_unitOf_18 : decode b_S_unitOf 18 = .ok (.arraylength, 1) := by decide +kernel
theorem d_S_unitOf_19 : decode b_S_unitOf 19 = .ok (.if_icmp .le 13, 3) := by decide +kernel
theorem d_S_unitOf_22 : decode b_S_unitOf 22 = .ok (.new 238, 3) := by decide +kernel
theorem d_S_unitOf_25 : decode b_S_unitOf 25 = .ok (.dup, 1) := by decide +kernel
theorem d_S_unitOf_26 : decode b_S_unitOf 26 = .ok (.ldc 248, 2) := by decide +kernel
theorem d_S_unitOf_28 : decode b_S_unitOf 28 = .ok (.invokespecial 242, 3) := by decide +kernel
theorem d_S_unitOf_31 : decode b_S_unitOf 31 = .ok (.athrow, 1) := by decide +kernel
theorem d_S_unitOf_32 : decode b_S_unitOf 32 = .ok (.aload_n 0, 1) := by decide +kernel
theorem d_S_unitOf_33 : decode b_S_unitOf 33 = .ok (.getfield 17, 3) := by decide +kernel
theorem d_S_unitOf_36 : decode b_S_unitOf 36 = .ok (.iload_n 1, 1) := by decide +kernel
theorem d_S_unitOf_37 : decode b_S_unitOf 37 = .ok (.iconst 1, 1) := by decide +kernel
theorem d_S_unitOf_38 : decode b_S_unitOf 38 = .ok (.isub, 1) := by decide +kernel
theorem d_S_unitOf_39 : decode b_S_unitOf 39 = .ok (.aaload, 1) := by decide +kernel
theorem d_S_unitOf_40 : decode b_S_unitOf 40 = .ok (.astore_n 2, 1) := by decide +kernel
theorem d_S_unitOf_41 : decode b_S_unitOf 41 = .ok (.aload_n 2, 1) := by decide +kernel
theorem d_S_unitOf_42 : decode b_S_unitOf 42 = .ok (.ifnonnull 13, 3) := by decide +kernel
theorem d_S_unitOf_45 : decode b_S_unitOf 45 = .ok (.new 238, 3) := by decide +kernel
theorem d_S_unitOf_48 : decode b_S_unitOf 48 = .ok (.dup, 1) := by decide +kernel
theorem d_S_unitOf_49 : decode b_S_unitOf 49 = .ok (.ldc 248, 2) := by decide +kernel
theorem d_S_unitOf_51 : decode b_S_unitOf 51 = .ok (.invokespecial 242, 3) := by decide +kernel
theorem d_S_unitOf_54 : decode b_S_unitOf 54 = .ok (.athrow, 1) := by decide +kernel
theorem d_S_unitOf_55 : decode b_S_unitOf 55 = .ok (.aload_n 2, 1) := by decide +kernel
theorem d_S_unitOf_56 : decode b_S_unitOf 56 = .ok (.areturn, 1) := by decide +kernel
theorem d_U_isDamaged_0 : decode b_U_isDamaged 0 = .ok (.aload_n 0, 1) := by decide +kernel
theorem d_U_isDamaged_1 : decode b_U_isDamaged 1 = .ok (.getfield 25, 3) := by decide +kernel
theorem d_U_isDamaged_4 : decode b_U_isDamaged 4 = .ok (.ifCond .eq 7, 3) := by decide +kernel
theorem d_U_isDamaged_7 : decode b_U_isDamaged 7 = .ok (.iconst 1, 1) := by decide +kernel
theorem d_U_isDamaged_8 : decode b_U_isDamaged 8 = .ok (.goto 4, 3) := by decide +kernel
theorem d_U_isDamaged_11 : decode b_U_isDamaged 11 = .ok (.iconst 0, 1) := by decide +kernel
theorem d_U_isDamaged_12 : decode b_U_isDamaged 12 = .ok (.ireturn, 1) := by decide +kernel
theorem d_S_unitsInState_0 : decode b_S_unitsInState 0 = .ok (.iconst 0, 1) := by decide +kernel
theorem d_S_unitsInState_1 : decode b_S_unitsInState 1 = .ok (.istore_n 3, 1) := by decide +kernel
theorem d_S_unitsInState_2 : decode b_S_unitsInState 2 = .ok (.iconst 0, 1) := by decide +kernel
theorem d_S_unitsInState_3 : decode b_S_unitsInState 3 = .ok (.istore 4, 2) := by decide +kernel
theorem d_S_unitsInState_5 : decode b_S_unitsInState 5 = .ok (.iload 4, 2) := by decide +kernel
theorem d_S_unitsInState_7 : decode b_S_unitsInState 7 = .ok (.aload_n 0, 1) := by decide +kernel
theorem d_S_unitsInState_8 : decode b_S_unitsInState 8 = .ok (.getfield 98, 3) := by decide +kernel
theorem d_S_unitsInState_11 : decode b_S_unitsInState 11 = .ok (.if_icmp .ge 54, 3) := by decide +kernel
theorem d_S_unitsInState_14 : decode b_S_unitsInState 14 = .ok (.iload 4, 2) := by decide +kernel
theorem d_S_unitsInState_16 : decode b_S_unitsInState 16 = .ok (.aload_n 0, 1) := by decide +kernel
theorem d_S_unitsInState_17 : decode b_S_unitsInState 17 = .ok (.getfield 17, 3) := by decide +kernel
theorem d_S_unitsInState_20 : decode b_S_unitsInState 20 = .ok (.arraylength, 1) := by decide +kernel
theorem d_S_unitsInState_21 : decode b_S_unitsInState 21 = .ok (.if_icmp .ge 44, 3) := by decide +kernel
theorem d_S_unitsInState_24 : decode b_S_unitsInState 24 = .ok (.aload_n 0, 1) := by decide +kernel
theorem d_S_unitsInState_25 : decode b_S_unitsInState 25 = .ok (.getfield 17, 3) := by decide +kernel
theorem d_S_unitsInState_28 : decode b_S_unitsInState 28 = .ok (.iload 4, 2) := by decide +kernel
theorem d_S_unitsInState_30 : decode b_S_unitsInState 30 = .ok (.aaload, 1) := by decide +kernel
theorem d_S_unitsInState_31 : decode b_S_unitsInState 31 = .ok (.astore 5, 2) := by decide +kernel
theorem d_S_unitsInState_33 : decode b_S_unitsInState 33 = .ok (.aload 5, 2) := by decide +kernel
theorem d_S_unitsInState_35 : decode b_S_unitsInState 35 = .ok (.ifnull 24, 3) := by decide +kernel
theorem d_S_unitsInState_38 : decode b_S_unitsInState 38 = .ok (.aload 5, 2) := by decide +kernel
theorem d_S_unitsInState_40 : decode b_S_unitsInState 40 = .ok (.getfield 120, 3) := by decide +kernel
theorem d_S_unitsInState_43 : decode b_S_unitsInState 43 = .ok (.aload_n 1, 1) := by decide +kernel
theorem d_S_unitsInState_44 : decode b_S_unitsInState 44 = .ok (.if_acmp .ne 15, 3) := by decide +kernel
theorem d_S_unitsInState_47 : decode b_S_unitsInState 47 = .ok (.aload 5, 2) := by decide +kernel
theorem d_S_unitsInState_49 : decode b_S_unitsInState 49 = .ok (.invokevirtual 157, 3) := by decide +kernel
theorem d_S_unitsInState_52 : decode b_S_unitsInState 52 = .ok (.iload_n 2, 1) := by decide +kernel
theorem d_S_unitsInState_53 : decode b_S_unitsInState 53 = .ok (.if_icmp .ne 6, 3) := by decide +kernel
theorem d_S_unitsInState_56 : decode b_S_unitsInState 56 = .ok (.iinc 3 1, 3) := by decide +kernel
theorem d_S_unitsInState_59 : decode b_S_unitsInState 59 = .ok (.iinc 4 1, 3) := by decide +kernel
theorem d_S_unitsInState_62 : decode b_S_unitsInState 62 = .ok (.goto (-57), 3) := by decide +kernel
theorem d_S_unitsInState_65 : decode b_S_unitsInState 65 = .ok (.iload_n 3, 1) := by decide +kernel
theorem d_S_unitsInState_66 : decode b_S_unitsInState 66 = .ok (.ireturn, 1) := by decide +kernel
theorem d_U_stateNow_0 : decode b_U_stateNow 0 = .ok (.aload_n 0, 1) := by decide +kernel
theorem d_U_stateNow_1 : decode b_U_stateNow 1 = .ok (.invokevirtual 31, 3) := by decide +kernel
theorem d_U_stateNow_4 : decode b_U_stateNow 4 = .ok (.ifCond .eq 5, 3) := by decide +kernel
theorem d_U_stateNow_7 : decode b_U_stateNow 7 = .ok (.iconst 1, 1) := by decide +kernel
theorem d_U_stateNow_8 : decode b_U_stateNow 8 = .ok (.ireturn, 1) := by decide +kernel
theorem d_U_stateNow_9 : decode b_U_stateNow 9 = .ok (.aload_n 0, 1) := by decide +kernel
theorem d_U_stateNow_10 : decode b_U_stateNow 10 = .ok (.getfield 35, 3) := by decide +kernel
theorem d_U_stateNow_13 : decode b_U_stateNow 13 = .ok (.ifCond .eq 5, 3) := by decide +kernel
theorem d_U_stateNow_16 : decode b_U_stateNow 16 = .ok (.iconst 3, 1) := by decide +kernel
theorem d_U_stateNow_17 : decode b_U_stateNow 17 = .ok (.ireturn, 1) := by decide +kernel
theorem d_U_stateNow_18 : decode b_U_stateNow 18 = .ok (.aload_n 0, 1) := by decide +kernel
theorem d_U_stateNow_19 : decode b_U_stateNow 19 = .ok (.getfield 9, 3) := by decide +kernel
theorem d_U_stateNow_22 : decode b_U_stateNow 22 = .ok (.getfield 39, 3) := by decide +kernel
theorem d_U_stateNow_25 : decode b_U_stateNow 25 = .ok (.ifCond .eq 7, 3) := by decide +kernel
theorem d_U_stateNow_28 : decode b_U_stateNow 28 = .ok (.iconst 2, 1) := by decide +kernel
theorem d_U_stateNow_29 : decode b_U_stateNow 29 = .ok (.goto 4, 3) := by decide +kernel
theorem d_U_stateNow_32 : decode b_U_stateNow 32 = .ok (.iconst 0, 1) := by decide +kernel
theorem d_U_stateNow_33 : decode b_U_stateNow 33 = .ok (.ireturn, 1) := by decide +kernel
theorem d_S_sample_0 : decode b_S_sample 0 = .ok (.aload_n 0, 1) := by decide +kernel
theorem d_S_sample_1 : decode b_S_sample 1 = .ok (.iload_n 1, 1) := by decide +kernel
theorem d_S_sample_2 : decode b_S_sample 2 = .ok (.iload_n 2, 1) := by decide +kernel
theorem d_S_sample_3 : decode b_S_sample 3 = .ok (.invokevirtual 80, 3) := by decide +kernel
theorem d_S_sample_6 : decode b_S_sample 6 = .ok (.astore 4, 2) := by decide +kernel
theorem d_S_sample_8 : decode b_S_sample 8 = .ok (.aload 4, 2) := by decide +kernel
theorem d_S_sample_10 : decode b_S_sample 10 = .ok (.getfield 131, 3) := by decide +kernel
theorem d_S_sample_13 : decode b_S_sample 13 = .ok (.invokevirtual 135, 3) := by decide +kernel
theorem d_S_sample_16 : decode b_S_sample 16 = .ok (.ifCond .eq 23, 3) := by decide +kernel
theorem d_S_sample_19 : decode b_S_sample 19 = .ok (.aload 4, 2) := by decide +kernel
theorem d_S_sample_21 : decode b_S_sample 21 = .ok (.getfield 84, 3) := by decide +kernel
theorem d_S_sample_24 : decode b_S_sample 24 = .ok (.ifCond .ne 15, 3) := by decide +kernel
theorem d_S_sample_27 : decode b_S_sample 27 = .ok (.aload 4, 2) := by decide +kernel
theorem d_S_sample_29 : decode b_S_sample 29 = .ok (.invokevirtual 138, 3) := by decide +kernel
theorem d_S_sample_32 : decode b_S_sample 32 = .ok (.ifCond .le 7, 3) := by decide +kernel
theorem d_S_sample_35 : decode b_S_sample 35 = .ok (.iconst 1, 1) := by decide +kernel
theorem d_S_sample_36 : decode b_S_sample 36 = .ok (.goto 4, 3) := by decide +kernel
theorem d_S_sample_39 : decode b_S_sample 39 = .ok (.iconst 0, 1) := by decide +kernel
theorem d_S_sample_40 : decode b_S_sample 40 = .ok (.invokestatic 55, 3) := by decide +kernel
theorem d_S_sample_43 : decode b_S_sample 43 = .ok (.aload 4, 2) := by decide +kernel
theorem d_S_sample_45 : decode b_S_sample 45 = .ok (.dup, 1) := by decide +kernel
theorem d_S_sample_46 : decode b_S_sample 46 = .ok (.getfield 142, 3) := by decide +kernel
theorem d_S_sample_49 : decode b_S_sample 49 = .ok (.iconst 1, 1) := by decide +kernel
theorem d_S_sample_50 : decode b_S_sample 50 = .ok (.iadd, 1) := by decide +kernel
theorem d_S_sample_51 : decode b_S_sample 51 = .ok (.putfield 142, 3) := by decide +kernel
theorem d_S_sample_54 : decode b_S_sample 54 = .ok (.iload_n 3, 1) := by decide +kernel
theorem d_S_sample_55 : decode b_S_sample 55 = .ok (.ifCond .ne 9, 3) := by decide +kernel
theorem d_S_sample_58 : decode b_S_sample 58 = .ok (.aload 4, 2) := by decide +kernel
theorem d_S_sample_60 : decode b_S_sample 60 = .ok (.iconst 1, 1) := by decide +kernel
theorem d_S_sample_61 : decode b_S_sample 61 = .ok (.putfield 145, 3) := by decide +kernel
theorem d_S_sample_64 : decode b_S_sample 64 = .ok (.aload 4, 2) := by decide +kernel
theorem d_S_sample_66 : decode b_S_sample 66 = .ok (.invokevirtual 138, 3) := by decide +kernel
theorem d_S_sample_69 : decode b_S_sample 69 = .ok (.ireturn, 1) := by decide +kernel
theorem d_N_openSamples_0 : decode b_N_openSamples 0 = .ok (.aload_n 0, 1) := by decide +kernel
theorem d_N_openSamples_1 : decode b_N_openSamples 1 = .ok (.getfield 26, 3) := by decide +kernel
theorem d_N_openSamples_4 : decode b_N_openSamples 4 = .ok (.aload_n 0, 1) := by decide +kernel
theorem d_N_openSamples_5 : decode b_N_openSamples 5 = .ok (.getfield 29, 3) := by decide +kernel
theorem d_N_openSamples_8 : decode b_N_openSamples 8 = .ok (.isub, 1) := by decide +kernel
theorem d_N_openSamples_9 : decode b_N_openSamples 9 = .ok (.iconst 0, 1) := by decide +kernel
theorem d_N_openSamples_10 : decode b_N_openSamples 10 = .ok (.invokestatic 32, 3) := by decide +kernel
theorem d_N_openSamples_13 : decode b_N_openSamples 13 = .ok (.ireturn, 1) := by decide +kernel
theorem d_S_date_0 : decode b_S_date 0 = .ok (.aload_n 0, 1) := by decide +kernel
theorem d_S_date_1 : decode b_S_date 1 = .ok (.iload_n 1, 1) := by decide +kernel
theorem d_S_date_2 : decode b_S_date 2 = .ok (.invokevirtual 113, 3) := by decide +kernel
theorem d_S_date_5 : decode b_S_date 5 = .ok (.astore_n 3, 1) := by decide +kernel
theorem d_S_date_6 : decode b_S_date 6 = .ok (.iload_n 2, 1) := by decide +kernel
theorem d_S_date_7 : decode b_S_date 7 = .ok (.iconst 0, 1) := by decide +kernel
theorem d_S_date_8 : decode b_S_date 8 = .ok (.sipush 10000, 3) := by decide +kernel
theorem d_S_date_11 : decode b_S_date 11 = .ok (.invokestatic 27, 3) := by decide +kernel
theorem d_S_date_14 : decode b_S_date 14 = .ok (.aload_n 3, 1) := by decide +kernel
theorem d_S_date_15 : decode b_S_date 15 = .ok (.invokevirtual 117, 3) := by decide +kernel
theorem d_S_date_18 : decode b_S_date 18 = .ok (.ifCond .ne 17, 3) := by decide +kernel
theorem d_S_date_21 : decode b_S_date 21 = .ok (.aload_n 3, 1) := by decide +kernel
theorem d_S_date_22 : decode b_S_date 22 = .ok (.getfield 120, 3) := by decide +kernel
theorem d_S_date_25 : decode b_S_date 25 = .ok (.getfield 84, 3) := by decide +kernel
theorem d_S_date_28 : decode b_S_date 28 = .ok (.ifCond .ne 7, 3) := by decide +kernel
theorem d_S_date_31 : decode b_S_date 31 = .ok (.iconst 1, 1) := by decide +kernel
theorem d_S_date_32 : decode b_S_date 32 = .ok (.goto 4, 3) := by decide +kernel
theorem d_S_date_35 : decode b_S_date 35 = .ok (.iconst 0, 1) := by decide +kernel
theorem d_S_date_36 : decode b_S_date 36 = .ok (.invokestatic 55, 3) := by decide +kernel
theorem d_S_date_39 : decode b_S_date 39 = .ok (.aload_n 3, 1) := by decide +kernel
theorem d_S_date_40 : decode b_S_date 40 = .ok (.iload_n 2, 1) := by decide +kernel
theorem d_S_date_41 : decode b_S_date 41 = .ok (.putfield 148, 3) := by decide +kernel
theorem d_S_date_44 : decode b_S_date 44 = .ok (.aload_n 3, 1) := by decide +kernel
theorem d_S_date_45 : decode b_S_date 45 = .ok (.iload_n 2, 1) := by decide +kernel
theorem d_S_date_46 : decode b_S_date 46 = .ok (.aload_n 0, 1) := by decide +kernel
theorem d_S_date_47 : decode b_S_date 47 = .ok (.getfield 151, 3) := by decide +kernel
theorem d_S_date_50 : decode b_S_date 50 = .ok (.if_icmp .ge 7, 3) := by decide +kernel
theorem d_S_date_53 : decode b_S_date 53 = .ok (.iconst 1, 1) := by decide +kernel
theorem d_S_date_54 : decode b_S_date 54 = .ok (.goto 4, 3) := by decide +kernel
theorem d_S_date_57 : decode b_S_date 57 = .ok (.iconst 0, 1) := by decide +kernel
theorem d_S_date_58 : decode b_S_date 58 = .ok (.putfield 154, 3) := by decide +kernel
theorem d_S_date_61 : decode b_S_date 61 = .ok (.aload_n 3, 1) := by decide +kernel
theorem d_S_date_62 : decode b_S_date 62 = .ok (.getfield 154, 3) := by decide +kernel
theorem d_S_date_65 : decode b_S_date 65 = .ok (.ifCond .eq 7, 3) := by decide +kernel
theorem d_S_date_68 : decode b_S_date 68 = .ok (.iconst 2, 1) := by decide +kernel
theorem d_S_date_69 : decode b_S_date 69 = .ok (.goto 4, 3) := by decide +kernel
theorem d_S_date_72 : decode b_S_date 72 = .ok (.iconst 1, 1) := by decide +kernel
theorem d_S_date_73 : decode b_S_date 73 = .ok (.ireturn, 1) := by decide +kernel
theorem d_S_take_0 : decode b_S_take 0 = .ok (.aload_n 0, 1) := by decide +kernel
theorem d_S_take_1 : decode b_S_take 1 = .ok (.iload_n 1, 1) := by decide +kernel
theorem d_S_take_2 : decode b_S_take 2 = .ok (.invokevirtual 113, 3) := by decide +kernel
theorem d_S_take_5 : decode b_S_take 5 = .ok (.astore_n 3, 1) := by decide +kernel
theorem d_S_take_6 : decode b_S_take 6 = .ok (.iload_n 2, 1) := by decide +kernel
theorem d_S_take_7 : decode b_S_take 7 = .ok (.iconst 0, 1) := by decide +kernel
theorem d_S_take_8 : decode b_S_take 8 = .ok (.bipush 7, 2) := by decide +kernel
theorem d_S_take_10 : decode b_S_take 10 = .ok (.invokestatic 27, 3) := by decide +kernel
theorem d_S_take_13 : decode b_S_take 13 = .ok (.aload_n 3, 1) := by decide +kernel
theorem d_S_take_14 : decode b_S_take 14 = .ok (.invokevirtual 157, 3) := by decide +kernel
theorem d_S_take_17 : decode b_S_take 17 = .ok (.iconst 3, 1) := by decide +kernel
theorem d_S_take_18 : decode b_S_take 18 = .ok (.if_icmp .ne 15, 3) := by decide +kernel
theorem d_S_take_21 : decode b_S_take 21 = .ok (.aload_n 0, 1) := by decide +kernel
theorem d_S_take_22 : decode b_S_take 22 = .ok (.iload_n 2, 1) := by decide +kernel
theorem d_S_take_23 : decode b_S_take 23 = .ok (.invokevirtual 70, 3) := by decide +kernel
theorem d_S_take_26 : decode b_S_take 26 = .ok (.ifCond .eq 7, 3) := by decide +kernel
theorem d_S_take_29 : decode b_S_take 29 = .ok (.iconst 1, 1) := by decide +kernel
theorem d_S_take_30 : decode b_S_take 30 = .ok (.goto 4, 3) := by decide +kernel
theorem d_S_take_33 : decode b_S_take 33 = .ok (.iconst 0, 1) := by decide +kernel
theorem d_S_take_34 : decode b_S_take 34 = .ok (.invokestatic 55, 3) := by decide +kernel
theorem d_S_take_37 : decode b_S_take 37 = .ok (.aload_n 3, 1) := by decide +kernel
theorem d_S_take_38 : decode b_S_take 38 = .ok (.iconst 0, 1) := by decide +kernel
theorem d_S_take_39 : decode b_S_take 39 = .ok (.putfield 154, 3) := by decide +kernel
theorem d_S_take_42 : decode b_S_take 42 = .ok (.aload_n 3, 1) := by decide +kernel
theorem d_S_take_43 : decode b_S_take 43 = .ok (.invokevirtual 157, 3) := by decide +kernel
theorem d_S_take_46 : decode b_S_take 46 = .ok (.ireturn, 1) := by decide +kernel
theorem d_S_label_0 : decode b_S_label 0 = .ok (.aload_n 0, 1) := by decide +kernel
theorem d_S_label_1 : decode b_S_label 1 = .ok (.iload_n 1, 1) := by decide +kernel
theorem d_S_label_2 : decode b_S_label 2 = .ok (.invokevirtual 113, 3) := by decide +kernel
theorem d_S_label_5 : decode b_S_label 5 = .ok (.astore_n 2, 1) := by decide +kernel
theorem d_S_label_6 : decode b_S_label 6 = .ok (.aload_n 2, 1) := by decide +kernel
theorem d_S_label_7 : decode b_S_label 7 = .ok (.invokevirtual 160, 3) := by decide +kernel
theorem d_S_label_10 : decode b_S_label 10 = .ok (.ifCond .ne 34, 3) := by decide +kernel
theorem d_S_label_13 : decode b_S_label 13 = .ok (.aload_n 0, 1) := by decide +kernel
theorem d_S_label_14 : decode b_S_label 14 = .ok (.dup, 1) := by decide +kernel
theorem d_S_label_15 : decode b_S_label 15 = .ok (.getfield 163, 3) := by decide +kernel
theorem d_S_label_18 : decode b_S_label 18 = .ok (.iconst 1, 1) := by decide +kernel
theorem d_S_label_19 : decode b_S_label 19 = .ok (.iadd, 1) := by decide +kernel
theorem d_S_label_20 : decode b_S_label 20 = .ok (.putfield 163, 3) := by decide +kernel
theorem d_S_label_23 : decode b_S_label 23 = .ok (.aload_n 2, 1) := by decide +kernel
theorem d_S_label_24 : decode b_S_label 24 = .ok (.aload_n 2, 1) := by decide +kernel
theorem d_S_label_25 : decode b_S_label 25 = .ok (.getfield 120, 3) := by decide +kernel
theorem d_S_label_28 : decode b_S_label 28 = .ok (.getfield 131, 3) := by decide +kernel
theorem d_S_label_31 : decode b_S_label 31 = .ok (.getfield 166, 3) := by decide +kernel
theorem d_S_label_34 : decode b_S_label 34 = .ok (.aload_n 0, 1) := by decide +kernel
theorem d_S_label_35 : decode b_S_label 35 = .ok (.getfield 163, 3) := by decide +kernel
theorem d_S_label_38 : decode b_S_label 38 = .ok (.invokestatic 169, 3) := by decide +kernel
theorem d_S_label_41 : decode b_S_label 41 = .ok (.putfield 172, 3) := by decide +kernel
theorem d_S_label_44 : decode b_S_label 44 = .ok (.aload_n 2, 1) := by decide +kernel
theorem d_S_label_45 : decode b_S_label 45 = .ok (.dup, 1) := by decide +kernel
theorem d_S_label_46 : decode b_S_label 46 = .ok (.getfield 175, 3) := by decide +kernel
theorem d_S_label_49 : decode b_S_label 49 = .ok (.iconst 1, 1) := by decide +kernel
theorem d_S_label_50 : decode b_S_label 50 = .ok (.iadd, 1) := by decide +kernel
theorem d_S_label_51 : decode b_S_label 51 = .ok (.putfield 175, 3) := by decide +kernel
theorem d_S_label_54 : decode b_S_label 54 = .ok (.aload_n 2, 1) := by decide +kernel
theorem d_S_label_55 : decode b_S_label 55 = .ok (.getfield 172, 3) := by decide +kernel
theorem d_S_label_58 : decode b_S_label 58 = .ok (.ireturn, 1) := by decide +kernel
theorem d_U_hasLabel_0 : decode b_U_hasLabel 0 = .ok (.aload_n 0, 1) := by decide +kernel
theorem d_U_hasLabel_1 : decode b_U_hasLabel 1 = .ok (.getfield 28, 3) := by decide +kernel
theorem d_U_hasLabel_4 : decode b_U_hasLabel 4 = .ok (.ifCond .eq 7, 3) := by decide +kernel
theorem d_U_hasLabel_7 : decode b_U_hasLabel 7 = .ok (.iconst 1, 1) := by decide +kernel
theorem d_U_hasLabel_8 : decode b_U_hasLabel 8 = .ok (.goto 4, 3) := by decide +kernel
theorem d_U_hasLabel_11 : decode b_U_hasLabel 11 = .ok (.iconst 0, 1) := by decide +kernel
theorem d_U_hasLabel_12 : decode b_U_hasLabel 12 = .ok (.ireturn, 1) := by decide +kernel
theorem d_S_labelFor_0 : decode b_S_labelFor 0 = .ok (.iload_n 0, 1) := by decide +kernel
theorem d_S_labelFor_1 : decode b_S_labelFor 1 = .ok (.ldc_w 265, 3) := by decide +kernel
theorem d_S_labelFor_4 : decode b_S_labelFor 4 = .ok (.imul, 1) := by decide +kernel
theorem d_S_labelFor_5 : decode b_S_labelFor 5 = .ok (.iload_n 1, 1) := by decide +kernel
theorem d_S_labelFor_6 : decode b_S_labelFor 6 = .ok (.iadd, 1) := by decide +kernel
theorem d_S_labelFor_7 : decode b_S_labelFor 7 = .ok (.istore_n 2, 1) := by decide +kernel
theorem d_S_labelFor_8 : decode b_S_labelFor 8 = .ok (.iload_n 2, 1) := by decide +kernel
theorem d_S_labelFor_9 : decode b_S_labelFor 9 = .ok (.bipush 10, 2) := by decide +kernel
theorem d_S_labelFor_11 : decode b_S_labelFor 11 = .ok (.imul, 1) := by decide +kernel
theorem d_S_labelFor_12 : decode b_S_labelFor 12 = .ok (.iload_n 2, 1) := by decide +kernel
theorem d_S_labelFor_13 : decode b_S_labelFor 13 = .ok (.invokestatic 266, 3) := by decide +kernel
theorem d_S_labelFor_16 : decode b_S_labelFor 16 = .ok (.iadd, 1) := by decide +kernel
theorem d_S_labelFor_17 : decode b_S_labelFor 17 = .ok (.ireturn, 1) := by decide +kernel
theorem d_S_checkDigit_0 : decode b_S_checkDigit 0 = .ok (.iconst 0, 1) := by decide +kernel
theorem d_S_checkDigit_1 : decode b_S_checkDigit 1 = .ok (.istore_n 1, 1) := by decide +kernel
theorem d_S_checkDigit_2 : decode b_S_checkDigit 2 = .ok (.iconst 1, 1) := by decide +kernel
theorem d_S_checkDigit_3 : decode b_S_checkDigit 3 = .ok (.istore_n 2, 1) := by decide +kernel
theorem d_S_checkDigit_4 : decode b_S_checkDigit 4 = .ok (.iload_n 0, 1) := by decide +kernel
theorem d_S_checkDigit_5 : decode b_S_checkDigit 5 = .ok (.istore_n 3, 1) := by decide +kernel
theorem d_S_checkDigit_6 : decode b_S_checkDigit 6 = .ok (.iconst 0, 1) := by decide +kernel
theorem d_S_checkDigit_7 : decode b_S_checkDigit 7 = .ok (.istore 4, 2) := by decide +kernel
theorem d_S_checkDigit_9 : decode b_S_checkDigit 9 = .ok (.iload 4, 2) := by decide +kernel
theorem d_S_checkDigit_11 : decode b_S_checkDigit 11 = .ok (.bipush 6, 2) := by decide +kernel
theorem d_S_checkDigit_13 : decode b_S_checkDigit 13 = .ok (.if_icmp .ge 27, 3) := by decide +kernel
theorem d_S_checkDigit_16 : decode b_S_checkDigit 16 = .ok (.iload_n 1, 1) := by decide +kernel
theorem d_S_checkDigit_17 : decode b_S_checkDigit 17 = .ok (.iload_n 2, 1) := by decide +kernel
theorem d_S_checkDigit_18 : decode b_S_checkDigit 18 = .ok (.iload_n 3, 1) := by decide +kernel
theorem d_S_checkDigit_19 : decode b_S_checkDigit 19 = .ok (.bipush 10, 2) := by decide +kernel
theorem d_S_checkDigit_21 : decode b_S_checkDigit 21 = .ok (.irem, 1) := by decide +kernel
theorem d_S_checkDigit_22 : decode b_S_checkDigit 22 = .ok (.imul, 1) := by decide +kernel
theorem d_S_checkDigit_23 : decode b_S_checkDigit 23 = .ok (.iadd, 1) := by decide +kernel
theorem d_S_checkDigit_24 : decode b_S_checkDigit 24 = .ok (.istore_n 1, 1) := by decide +kernel
theorem d_S_checkDigit_25 : decode b_S_checkDigit 25 = .ok (.iload_n 3, 1) := by decide +kernel
theorem d_S_checkDigit_26 : decode b_S_checkDigit 26 = .ok (.bipush 10, 2) := by decide +kernel
theorem d_S_checkDigit_28 : decode b_S_checkDigit 28 = .ok (.idiv, 1) := by decide +kernel
theorem d_S_checkDigit_29 : decode b_S_checkDigit 29 = .ok (.istore_n 3, 1) := by decide +kernel
theorem d_S_checkDigit_30 : decode b_S_checkDigit 30 = .ok (.iconst 4, 1) := by decide +kernel
theorem d_S_checkDigit_31 : decode b_S_checkDigit 31 = .ok (.iload_n 2, 1) := by decide +kernel
theorem d_S_checkDigit_32 : decode b_S_checkDigit 32 = .ok (.isub, 1) := by decide +kernel
theorem d_S_checkDigit_33 : decode b_S_checkDigit 33 = .ok (.istore_n 2, 1) := by decide +kernel
theorem d_S_checkDigit_34 : decode b_S_checkDigit 34 = .ok (.iinc 4 1, 3) := by decide +kernel
theorem d_S_checkDigit_37 : decode b_S_checkDigit 37 = .ok (.goto (-28), 3) := by decide +kernel
theorem d_S_checkDigit_40 : decode b_S_checkDigit 40 = .ok (.bipush 10, 2) := by decide +kernel
theorem d_S_checkDigit_42 : decode b_S_checkDigit 42 = .ok (.iload_n 1, 1) := by decide +kernel
theorem d_S_checkDigit_43 : decode b_S_checkDigit 43 = .ok (.bipush 10, 2) := by decide +kernel
theorem d_S_checkDigit_45 : decode b_S_checkDigit 45 = .ok (.irem, 1) := by decide +kernel
theorem d_S_checkDigit_46 : decode b_S_checkDigit 46 = .ok (.isub, 1) := by decide +kernel
theorem d_S_checkDigit_47 : decode b_S_checkDigit 47 = .ok (.bipush 10, 2) := by decide +kernel
theorem d_S_checkDigit_49 : decode b_S_checkDigit 49 = .ok (.irem, 1) := by decide +kernel
theorem d_S_checkDigit_50 : decode b_S_checkDigit 50 = .ok (.ireturn, 1) := by decide +kernel
theorem d_S_again_0 : decode b_S_again 0 = .ok (.aload_n 0, 1) := by decide +kernel
theorem d_S_again_1 : decode b_S_again 1 = .ok (.iload_n 1, 1) := by decide +kernel
theorem d_S_again_2 : decode b_S_again 2 = .ok (.invokevirtual 113, 3) := by decide +kernel
theorem d_S_again_5 : decode b_S_again 5 = .ok (.astore_n 2, 1) := by decide +kernel
theorem d_S_again_6 : decode b_S_again 6 = .ok (.aload_n 2, 1) := by decide +kernel
theorem d_S_again_7 : decode b_S_again 7 = .ok (.invokevirtual 160, 3) := by decide +kernel
theorem d_S_again_10 : decode b_S_again 10 = .ok (.invokestatic 55, 3) := by decide +kernel
theorem d_S_again_13 : decode b_S_again 13 = .ok (.aload_n 2, 1) := by decide +kernel
theorem d_S_again_14 : decode b_S_again 14 = .ok (.dup, 1) := by decide +kernel
theorem d_S_again_15 : decode b_S_again 15 = .ok (.getfield 175, 3) := by decide +kernel
theorem d_S_again_18 : decode b_S_again 18 = .ok (.iconst 1, 1) := by decide +kernel
theorem d_S_again_19 : decode b_S_again 19 = .ok (.iadd, 1) := by decide +kernel
theorem d_S_again_20 : decode b_S_again 20 = .ok (.putfield 175, 3) := by decide +kernel
theorem d_S_again_23 : decode b_S_again 23 = .ok (.aload_n 2, 1) := by decide +kernel
theorem d_S_again_24 : decode b_S_again 24 = .ok (.getfield 175, 3) := by decide +kernel
theorem d_S_again_27 : decode b_S_again 27 = .ok (.ireturn, 1) := by decide +kernel
theorem d_S_close_0 : decode b_S_close 0 = .ok (.aload_n 0, 1) := by decide +kernel
theorem d_S_close_1 : decode b_S_close 1 = .ok (.iload_n 1, 1) := by decide +kernel
theorem d_S_close_2 : decode b_S_close 2 = .ok (.iload_n 2, 1) := by decide +kernel
theorem d_S_close_3 : decode b_S_close 3 = .ok (.invokevirtual 80, 3) := by decide +kernel
theorem d_S_close_6 : decode b_S_close 6 = .ok (.astore_n 3, 1) := by decide +kernel
theorem d_S_close_7 : decode b_S_close 7 = .ok (.aload_n 3, 1) := by decide +kernel
theorem d_S_close_8 : decode b_S_close 8 = .ok (.getfield 131, 3) := by decide +kernel
theorem d_S_close_11 : decode b_S_close 11 = .ok (.invokevirtual 135, 3) := by decide +kernel
theorem d_S_close_14 : decode b_S_close 14 = .ok (.ifCond .eq 14, 3) := by decide +kernel
theorem d_S_close_17 : decode b_S_close 17 = .ok (.aload_n 3, 1) := by decide +kernel
theorem d_S_close_18 : decode b_S_close 18 = .ok (.getfield 84, 3) := by decide +kernel
theorem d_S_close_21 : decode b_S_close 21 = .ok (.ifCond .ne 7, 3) := by decide +kernel
theorem d_S_close_24 : decode b_S_close 24 = .ok (.iconst 1, 1) := by decide +kernel
theorem d_S_close_25 : decode b_S_close 25 = .ok (.goto 4, 3) := by decide +kernel
theorem d_S_close_28 : decode b_S_close 28 = .ok (.iconst 0, 1) := by decide +kernel
theorem d_S_close_29 : decode b_S_close 29 = .ok (.invokestatic 55, 3) := by decide +kernel
theorem d_S_close_32 : decode b_S_close 32 = .ok (.aload_n 3, 1) := by decide +kernel
theorem d_S_close_33 : decode b_S_close 33 = .ok (.invokevirtual 138, 3) := by decide +kernel
theorem d_S_close_36 : decode b_S_close 36 = .ok (.ifCond .le 5, 3) := by decide +kernel
theorem d_S_close_39 : decode b_S_close 39 = .ok (.iconst 2, 1) := by decide +kernel
theorem d_S_close_40 : decode b_S_close 40 = .ok (.ireturn, 1) := by decide +kernel
theorem d_S_close_41 : decode b_S_close 41 = .ok (.aload_n 0, 1) := by decide +kernel
theorem d_S_close_42 : decode b_S_close 42 = .ok (.aload_n 3, 1) := by decide +kernel
theorem d_S_close_43 : decode b_S_close 43 = .ok (.iconst 3, 1) := by decide +kernel
theorem d_S_close_44 : decode b_S_close 44 = .ok (.invokevirtual 127, 3) := by decide +kernel
theorem d_S_close_47 : decode b_S_close 47 = .ok (.ifCond .le 5, 3) := by decide +kernel
theorem d_S_close_50 : decode b_S_close 50 = .ok (.iconst 3, 1) := by decide +kernel
theorem d_S_close_51 : decode b_S_close 51 = .ok (.ireturn, 1) := by decide +kernel
theorem d_S_close_52 : decode b_S_close 52 = .ok (.aload_n 0, 1) := by decide +kernel
theorem d_S_close_53 : decode b_S_close 53 = .ok (.aload_n 3, 1) := by decide +kernel
theorem d_S_close_54 : decode b_S_close 54 = .ok (.invokevirtual 178, 3) := by decide +kernel
theorem d_S_close_57 : decode b_S_close 57 = .ok (.ifCond .eq 5, 3) := by decide +kernel
theorem d_S_close_60 : decode b_S_close 60 = .ok (.iconst 4, 1) := by decide +kernel
theorem d_S_close_61 : decode b_S_close 61 = .ok (.ireturn, 1) := by decide +kernel
theorem d_S_close_62 : decode b_S_close 62 = .ok (.aload_n 3, 1) := by decide +kernel
theorem d_S_close_63 : decode b_S_close 63 = .ok (.iconst 1, 1) := by decide +kernel
theorem d_S_close_64 : decode b_S_close 64 = .ok (.putfield 84, 3) := by decide +kernel
theorem d_S_close_67 : decode b_S_close 67 = .ok (.aload_n 0, 1) := by decide +kernel
theorem d_S_close_68 : decode b_S_close 68 = .ok (.dup, 1) := by decide +kernel
theorem d_S_close_69 : decode b_S_close 69 = .ok (.getfield 182, 3) := by decide +kernel
theorem d_S_close_72 : decode b_S_close 72 = .ok (.iconst 1, 1) := by decide +kernel
theorem d_S_close_73 : decode b_S_close 73 = .ok (.iadd, 1) := by decide +kernel
theorem d_S_close_74 : decode b_S_close 74 = .ok (.putfield 182, 3) := by decide +kernel
theorem d_S_close_77 : decode b_S_close 77 = .ok (.aload_n 0, 1) := by decide +kernel
theorem d_S_close_78 : decode b_S_close 78 = .ok (.aload_n 3, 1) := by decide +kernel
theorem d_S_close_79 : decode b_S_close 79 = .ok (.invokevirtual 185, 3) := by decide +kernel
theorem d_S_close_82 : decode b_S_close 82 = .ok (.iconst 1, 1) := by decide +kernel
theorem d_S_close_83 : decode b_S_close 83 = .ok (.ireturn, 1) := by decide +kernel
theorem d_S_lacksLabel_0 : decode b_S_lacksLabel 0 = .ok (.iconst 0, 1) := by decide +kernel
theorem d_S_lacksLabel_1 : decode b_S_lacksLabel 1 = .ok (.istore_n 2, 1) := by decide +kernel
theorem d_S_lacksLabel_2 : decode b_S_lacksLabel 2 = .ok (.iload_n 2, 1) := by decide +kernel
theorem d_S_lacksLabel_3 : decode b_S_lacksLabel 3 = .ok (.aload_n 0, 1) := by decide +kernel
theorem d_S_lacksLabel_4 : decode b_S_lacksLabel 4 = .ok (.getfield 98, 3) := by decide +kernel
theorem d_S_lacksLabel_7 : decode b_S_lacksLabel 7 = .ok (.if_icmp .ge 53, 3) := by decide +kernel
theorem d_S_lacksLabel_10 : decode b_S_lacksLabel 10 = .ok (.iload_n 2, 1) := by decide +kernel
theorem d_S_lacksLabel_11 : decode b_S_lacksLabel 11 = .ok (.aload_n 0, 1) := by decide +kernel
theorem d_S_lacksLabel_12 : decode b_S_lacksLabel 12 = .ok (.getfield 17, 3) := by decide +kernel
theorem d_S_lacksLabel_15 : decode b_S_lacksLabel 15 = .ok (.arraylength, 1) := by decide +kernel
theorem d_S_lacksLabel_16 : decode b_S_lacksLabel 16 = .ok (.if_icmp .ge 44, 3) := by decide +kernel
theorem d_S_lacksLabel_19 : decode b_S_lacksLabel 19 = .ok (.aload_n 0, 1) := by decide +kernel
theorem d_S_lacksLabel_20 : decode b_S_lacksLabel 20 = .ok (.getfield 17, 3) := by decide +kernel
theorem d_S_lacksLabel_23 : decode b_S_lacksLabel 23 = .ok (.iload_n 2, 1) := by decide +kernel
theorem d_S_lacksLabel_24 : decode b_S_lacksLabel 24 = .ok (.aaload, 1) := by decide +kernel
theorem d_S_lacksLabel_25 : decode b_S_lacksLabel 25 = .ok (.astore_n 3, 1) := by decide +kernel
theorem d_S_lacksLabel_26 : decode b_S_lacksLabel 26 = .ok (.aload_n 3, 1) := by decide +kernel
theorem d_S_lacksLabel_27 : decode b_S_lacksLabel 27 = .ok (.ifnull 27, 3) := by decide +kernel
theorem d_S_lacksLabel_30 : decode b_S_lacksLabel 30 = .ok (.aload_n 3, 1) := by decide +kernel
theorem d_S_lacksLabel_31 : decode b_S_lacksLabel 31 = .ok (.getfield 120, 3) := by decide +kernel
theorem d_S_lacksLabel_34 : decode b_S_lacksLabel 34 = .ok (.aload_n 1, 1) := by decide +kernel
theorem d_S_lacksLabel_35 : decode b_S_lacksLabel 35 = .ok (.if_acmp .ne 19, 3) := by decide +kernel
theorem d_S_lacksLabel_38 : decode b_S_lacksLabel 38 = .ok (.aload_n 3, 1) := by decide +kernel
theorem d_S_lacksLabel_39 : decode b_S_lacksLabel 39 = .ok (.invokevirtual 160, 3) := by decide +kernel
theorem d_S_lacksLabel_42 : decode b_S_lacksLabel 42 = .ok (.ifCond .ne 12, 3) := by decide +kernel
theorem d_S_lacksLabel_45 : decode b_S_lacksLabel 45 = .ok (.aload_n 3, 1) := by decide +kernel
theorem d_S_lacksLabel_46 : decode b_S_lacksLabel 46 = .ok (.invokevirtual 117, 3) := by decide +kernel
theorem d_S_lacksLabel_49 : decode b_S_lacksLabel 49 = .ok (.ifCond .ne 5, 3) := by decide +kernel
theorem d_S_lacksLabel_52 : decode b_S_lacksLabel 52 = .ok (.iconst 1, 1) := by decide +kernel
theorem d_S_lacksLabel_53 : decode b_S_lacksLabel 53 = .ok (.ireturn, 1) := by decide +kernel
theorem d_S_lacksLabel_54 : decode b_S_lacksLabel 54 = .ok (.iinc 2 1, 3) := by decide +kernel
theorem d_S_lacksLabel_57 : decode b_S_lacksLabel 57 = .ok (.goto (-55), 3) := by decide +kernel
theorem d_S_lacksLabel_60 : decode b_S_lacksLabel 60 = .ok (.iconst 0, 1) := by decide +kernel
theorem d_S_lacksLabel_61 : decode b_S_lacksLabel 61 = .ok (.ireturn, 1) := by decide +kernel
theorem d_S_noteDifference_0 : decode b_S_noteDifference 0 = .ok (.aload_n 1, 1) := by decide +kernel
theorem d_S_noteDifference_1 : decode b_S_noteDifference 1 = .ok (.getfield 107, 3) := by decide +kernel
theorem d_S_noteDifference_4 : decode b_S_noteDifference 4 = .ok (.aload_n 1, 1) := by decide +kernel
theorem d_S_noteDifference_5 : decode b_S_noteDifference 5 = .ok (.getfield 200, 3) := by decide +kernel
theorem d_S_noteDifference_8 : decode b_S_noteDifference 8 = .ok (.if_icmp .eq 35, 3) := by decide +kernel
theorem d_S_noteDifference_11 : decode b_S_noteDifference 11 = .ok (.aload_n 0, 1) := by decide +kernel
theorem d_S_noteDifference_12 : decode b_S_noteDifference 12 = .ok (.getfield 250, 3) := by decide +kernel
theorem d_S_noteDifference_15 : decode b_S_noteDifference 15 = .ok (.aload_n 0, 1) := by decide +kernel
theorem d_S_noteDifference_16 : decode b_S_noteDifference 16 = .ok (.getfield 23, 3) := by decide +kernel
theorem d_S_noteDifference_19 : decode b_S_noteDifference 19 = .ok (.arraylength, 1) := by decide +kernel
theorem d_S_noteDifference_20 : decode b_S_noteDifference 20 = .ok (.if_icmp .ge 23, 3) := by decide +kernel
theorem d_S_noteDifference_23 : decode b_S_noteDifference 23 = .ok (.aload_n 0, 1) := by decide +kernel
theorem d_S_noteDifference_24 : decode b_S_noteDifference 24 = .ok (.getfield 23, 3) := by decide +kernel
theorem d_S_noteDifference_27 : decode b_S_noteDifference 27 = .ok (.aload_n 0, 1) := by decide +kernel
theorem d_S_noteDifference_28 : decode b_S_noteDifference 28 = .ok (.getfield 250, 3) := by decide +kernel
theorem d_S_noteDifference_31 : decode b_S_noteDifference 31 = .ok (.aload_n 1, 1) := by decide +kernel
theorem d_S_noteDifference_32 : decode b_S_noteDifference 32 = .ok (.aastore, 1) := by decide +kernel
theorem d_S_noteDifference_33 : decode b_S_noteDifference 33 = .ok (.aload_n 0, 1) := by decide +kernel
theorem d_S_noteDifference_34 : decode b_S_noteDifference 34 = .ok (.dup, 1) := by decide +kernel
theorem d_S_noteDifference_35 : decode b_S_noteDifference 35 = .ok (.getfield 250, 3) := by decide +kernel
theorem d_S_noteDifference_38 : decode b_S_noteDifference 38 = .ok (.iconst 1, 1) := by decide +kernel
theorem d_S_noteDifference_39 : decode b_S_noteDifference 39 = .ok (.iadd, 1) := by decide +kernel
theorem d_S_noteDifference_40 : decode b_S_noteDifference 40 = .ok (.putfield 250, 3) := by decide +kernel
theorem d_S_noteDifference_43 : decode b_S_noteDifference 43 = .ok (.return_, 1) := by decide +kernel
theorem d_S_closeAll_0 : decode b_S_closeAll 0 = .ok (.aload_n 0, 1) := by decide +kernel
theorem d_S_closeAll_1 : decode b_S_closeAll 1 = .ok (.iload_n 1, 1) := by decide +kernel
theorem d_S_closeAll_2 : decode b_S_closeAll 2 = .ok (.invokevirtual 44, 3) := by decide +kernel
theorem d_S_closeAll_5 : decode b_S_closeAll 5 = .ok (.astore_n 2, 1) := by decide +kernel
theorem d_S_closeAll_6 : decode b_S_closeAll 6 = .ok (.aload_n 2, 1) := by decide +kernel
theorem d_S_closeAll_7 : decode b_S_closeAll 7 = .ok (.invokevirtual 135, 3) := by decide +kernel
theorem d_S_closeAll_10 : decode b_S_closeAll 10 = .ok (.invokestatic 55, 3) := by decide +kernel
theorem d_S_closeAll_13 : decode b_S_closeAll 13 = .ok (.aload_n 2, 1) := by decide +kernel
theorem d_S_closeAll_14 : decode b_S_closeAll 14 = .ok (.invokevirtual 189, 3) := by decide +kernel
theorem d_S_closeAll_17 : decode b_S_closeAll 17 = .ok (.istore_n 3, 1) := by decide +kernel
theorem d_S_closeAll_18 : decode b_S_closeAll 18 = .ok (.iload_n 3, 1) := by decide +kernel
theorem d_S_closeAll_19 : decode b_S_closeAll 19 = .ok (.iconst (-1), 1) := by decide +kernel
theorem d_S_closeAll_20 : decode b_S_closeAll 20 = .ok (.if_icmp .eq 8, 3) := by decide +kernel
theorem d_S_closeAll_23 : decode b_S_closeAll 23 = .ok (.iload_n 3, 1) := by decide +kernel
theorem d_S_closeAll_24 : decode b_S_closeAll 24 = .ok (.ineg, 1) := by decide +kernel
theorem d_S_closeAll_25 : decode b_S_closeAll 25 = .ok (.iconst 1, 1) := by decide +kernel
theorem d_S_closeAll_26 : decode b_S_closeAll 26 = .ok (.isub, 1) := by decide +kernel
theorem d_S_closeAll_27 : decode b_S_closeAll 27 = .ok (.ireturn, 1) := by decide +kernel
theorem d_S_closeAll_28 : decode b_S_closeAll 28 = .ok (.aload_n 2, 1) := by decide +kernel
theorem d_S_closeAll_29 : decode b_S_closeAll 29 = .ok (.iconst 3, 1) := by decide +kernel
theorem d_S_closeAll_30 : decode b_S_closeAll 30 = .ok (.putfield 48, 3) := by decide +kernel
theorem d_S_closeAll_33 : decode b_S_closeAll 33 = .ok (.iconst 1, 1) := by decide +kernel
theorem d_S_closeAll_34 : decode b_S_closeAll 34 = .ok (.ireturn, 1) := by decide +kernel
theorem d_A_firstOpenLine_0 : decode b_A_firstOpenLine 0 = .ok (.iconst 0, 1) := by decide +kernel
theorem d_A_firstOpenLine_1 : decode b_A_firstOpenLine 1 = .ok (.istore_n 1, 1) := by decide +kernel
theorem d_A_firstOpenLine_2 : decode b_A_firstOpenLine 2 = .ok (.iload_n 1, 1) := by decide +kernel
theorem d_A_firstOpenLine_3 : decode b_A_firstOpenLine 3 = .ok (.aload_n 0, 1) := by decide +kernel
theorem d_A_firstOpenLine_4 : decode b_A_firstOpenLine 4 = .ok (.getfield 33, 3) := by decide +kernel
theorem d_A_firstOpenLine_7 : decode b_A_firstOpenLine 7 = .ok (.if_icmp .ge 38, 3) := by decide +kernel
theorem d_A_firstOpenLine_10 : decode b_A_firstOpenLine 10 = .ok (.iload_n 1, 1) := by decide +kernel
theorem d_A_firstOpenLine_11 : decode b_A_firstOpenLine 11 = .ok (.aload_n 0, 1) := by decide +kernel
theorem d_A_firstOpenLine_12 : decode b_A_firstOpenLine 12 = .ok (.getfield 23, 3) := by decide +kernel
theorem d_A_firstOpenLine_15 : decode b_A_firstOpenLine 15 = .ok (.arraylength, 1) := by decide +kernel
theorem d_A_firstOpenLine_16 : decode b_A_firstOpenLine 16 = .ok (.if_icmp .ge 29, 3) := by decide +kernel
theorem d_A_firstOpenLine_19 : decode b_A_firstOpenLine 19 = .ok (.aload_n 0, 1) := by decide +kernel
theorem d_A_firstOpenLine_20 : decode b_A_firstOpenLine 20 = .ok (.getfield 23, 3) := by decide +kernel
theorem d_A_firstOpenLine_23 : decode b_A_firstOpenLine 23 = .ok (.iload_n 1, 1) := by decide +kernel
theorem d_A_firstOpenLine_24 : decode b_A_firstOpenLine 24 = .ok (.aaload, 1) := by decide +kernel
theorem d_A_firstOpenLine_25 : decode b_A_firstOpenLine 25 = .ok (.astore_n 2, 1) := by decide +kernel
theorem d_A_firstOpenLine_26 : decode b_A_firstOpenLine 26 = .ok (.aload_n 2, 1) := by decide +kernel
theorem d_A_firstOpenLine_27 : decode b_A_firstOpenLine 27 = .ok (.ifnull 12, 3) := by decide +kernel
theorem d_A_firstOpenLine_30 : decode b_A_firstOpenLine 30 = .ok (.aload_n 2, 1) := by decide +kernel
theorem d_A_firstOpenLine_31 : decode b_A_firstOpenLine 31 = .ok (.getfield 39, 3) := by decide +kernel
theorem d_A_firstOpenLine_34 : decode b_A_firstOpenLine 34 = .ok (.ifCond .ne 5, 3) := by decide +kernel
theorem d_A_firstOpenLine_37 : decode b_A_firstOpenLine 37 = .ok (.iload_n 1, 1) := by decide +kernel
theorem d_A_firstOpenLine_38 : decode b_A_firstOpenLine 38 = .ok (.ireturn, 1) := by decide +kernel
theorem d_A_firstOpenLine_39 : decode b_A_firstOpenLine 39 = .ok (.iinc 1 1, 3) := by decide +kernel
theorem d_A_firstOpenLine_42 : decode b_A_firstOpenLine 42 = .ok (.goto (-40), 3) := by decide +kernel
theorem d_A_firstOpenLine_45 : decode b_A_firstOpenLine 45 = .ok (.iconst (-1), 1) := by decide +kernel
theorem d_A_firstOpenLine_46 : decode b_A_firstOpenLine 46 = .ok (.ireturn, 1) := by decide +kernel
theorem d_S_day_0 : decode b_S_day 0 = .ok (.iload_n 1, 1) := by decide +kernel
theorem d_S_day_1 : decode b_S_day 1 = .ok (.iconst 0, 1) := by decide +kernel
theorem d_S_day_2 : decode b_S_day 2 = .ok (.sipush 10000, 3) := by decide +kernel
theorem d_S_day_5 : decode b_S_day 5 = .ok (.invokestatic 27, 3) := by decide +kernel
theorem d_S_day_8 : decode b_S_day 8 = .ok (.iload_n 1, 1) := by decide +kernel
theorem d_S_day_9 : decode b_S_day 9 = .ok (.aload_n 0, 1) := by decide +kernel
theorem d_S_day_10 : decode b_S_day 10 = .ok (.getfield 151, 3) := by decide +kernel
theorem d_S_day_13 : decode b_S_day 13 = .ok (.if_icmp .lt 7, 3) := by decide +kernel
theorem d_S_day_16 : decode b_S_day 16 = .ok (.iconst 1, 1) := by decide +kernel
theorem d_S_day_17 : decode b_S_day 17 = .ok (.goto 4, 3) := by decide +kernel
theorem d_S_day_20 : decode b_S_day 20 = .ok (.iconst 0, 1) := by decide +kernel
theorem d_S_day_21 : decode b_S_day 21 = .ok (.invokestatic 55, 3) := by decide +kernel
theorem d_S_day_24 : decode b_S_day 24 = .ok (.aload_n 0, 1) := by decide +kernel
theorem d_S_day_25 : decode b_S_day 25 = .ok (.iload_n 1, 1) := by decide +kernel
theorem d_S_day_26 : decode b_S_day 26 = .ok (.putfield 151, 3) := by decide +kernel
theorem d_S_day_29 : decode b_S_day 29 = .ok (.return_, 1) := by decide +kernel
theorem d_S_differ_0 : decode b_S_differ 0 = .ok (.aload_n 0, 1) := by decide +kernel
theorem d_S_differ_1 : decode b_S_differ 1 = .ok (.iload_n 1, 1) := by decide +kernel
theorem d_S_differ_2 : decode b_S_differ 2 = .ok (.invokevirtual 192, 3) := by decide +kernel
theorem d_S_differ_5 : decode b_S_differ 5 = .ok (.astore_n 3, 1) := by decide +kernel
theorem d_S_differ_6 : decode b_S_differ 6 = .ok (.iload_n 2, 1) := by decide +kernel
theorem d_S_differ_7 : decode b_S_differ 7 = .ok (.tableswitch 48 0 2 #[25, 33, 38], 25) := by decide +kernel
theorem d_S_differ_32 : decode b_S_differ 32 = .ok (.aload_n 3, 1) := by decide +kernel
theorem d_S_differ_33 : decode b_S_differ 33 = .ok (.getfield 131, 3) := by decide +kernel
theorem d_S_differ_36 : decode b_S_differ 36 = .ok (.getfield 196, 3) := by decide +kernel
theorem d_S_differ_39 : decode b_S_differ 39 = .ok (.ireturn, 1) := by decide +kernel
theorem d_S_differ_40 : decode b_S_differ 40 = .ok (.aload_n 3, 1) := by decide +kernel
theorem d_S_differ_41 : decode b_S_differ 41 = .ok (.getfield 199, 3) := by decide +kernel
theorem d_S_differ_44 : decode b_S_differ 44 = .ok (.ireturn, 1) := by decide +kernel
theorem d_S_differ_45 : decode b_S_differ 45 = .ok (.aload_n 3, 1) := by decide +kernel
theorem d_S_differ_46 : decode b_S_differ 46 = .ok (.getfield 107, 3) := by decide +kernel
theorem d_S_differ_49 : decode b_S_differ 49 = .ok (.aload_n 3, 1) := by decide +kernel
theorem d_S_differ_50 : decode b_S_differ 50 = .ok (.getfield 200, 3) := by decide +kernel
theorem d_S_differ_53 : decode b_S_differ 53 = .ok (.isub, 1) := by decide +kernel
theorem d_S_differ_54 : decode b_S_differ 54 = .ok (.ireturn, 1) := by decide +kernel
theorem d_S_differ_55 : decode b_S_differ 55 = .ok (.new 203, 3) := by decide +kernel
theorem d_S_differ_58 : decode b_S_differ 58 = .ok (.dup, 1) := by decide +kernel
theorem d_S_differ_59 : decode b_S_differ 59 = .ok (.ldc 205, 2) := by decide +kernel
theorem d_S_differ_61 : decode b_S_differ 61 = .ok (.invokespecial 207, 3) := by decide +kernel
theorem d_S_differ_64 : decode b_S_differ 64 = .ok (.athrow, 1) := by decide +kernel
theorem d_S_differenceOf_0 : decode b_S_differenceOf 0 = .ok (.iload_n 1, 1) := by decide +kernel
theorem d_S_differenceOf_1 : decode b_S_differenceOf 1 = .ok (.ifCond .lt 20, 3) := by decide +kernel
theorem d_S_differenceOf_4 : decode b_S_differenceOf 4 = .ok (.iload_n 1, 1) := by decide +kernel
theorem d_S_differenceOf_5 : decode b_S_differenceOf 5 = .ok (.aload_n 0, 1) := by decide +kernel
theorem d_S_differenceOf_6 : decode b_S_differenceOf 6 = .ok (.getfield 250, 3) := by decide +kernel
theorem d_S_differenceOf_9 : decode b_S_differenceOf 9 = .ok (.if_icmp .ge 12, 3) := by decide +kernel
theorem d_S_differenceOf_12 : decode b_S_differenceOf 12 = .ok (.iload_n 1, 1) := by decide +kernel
theorem d_S_differenceOf_13 : decode b_S_differenceOf 13 = .ok (.aload_n 0, 1) := by decide +kernel
theorem d_S_differenceOf_14 : decode b_S_differenceOf 14 = .ok (.getfield 23, 3) := by decide +kernel
theorem d_S_differenceOf_17 : decode b_S_differenceOf 17 = .ok (.arraylength, 1) := by decide +kernel
theorem d_S_differenceOf_18 : decode b_S_differenceOf 18 = .ok (.if_icmp .lt 13, 3) := by decide +kernel
theorem d_S_differenceOf_21 : decode b_S_differenceOf 21 = .ok (.new 238, 3) := by decide +kernel
theorem d_S_differenceOf_24 : decode b_S_differenceOf 24 = .ok (.dup, 1) := by decide +kernel
theorem d_S_differenceOf_25 : decode b_S_differenceOf 25 = .ok (.ldc 253, 2) := by decide +kernel
theorem d_S_differenceOf_27 : decode b_S_differenceOf 27 = .ok (.invokespecial 242, 3) := by decide +kernel
theorem d_S_differenceOf_30 : decode b_S_differenceOf 30 = .ok (.athrow, 1) := by decide +kernel
theorem d_S_differenceOf_31 : decode b_S_differenceOf 31 = .ok (.aload_n 0, 1) := by decide +kernel
theorem d_S_differenceOf_32 : decode b_S_differenceOf 32 = .ok (.getfield 23, 3) := by decide +kernel
theorem d_S_differenceOf_35 : decode b_S_differenceOf 35 = .ok (.iload_n 1, 1) := by decide +kernel
theorem d_S_differenceOf_36 : decode b_S_differenceOf 36 = .ok (.aaload, 1) := by decide +kernel
theorem d_S_differenceOf_37 : decode b_S_differenceOf 37 = .ok (.astore_n 2, 1) := by decide +kernel
theorem d_S_differenceOf_38 : decode b_S_differenceOf 38 = .ok (.aload_n 2, 1) := by decide +kernel
theorem d_S_differenceOf_39 : decode b_S_differenceOf 39 = .ok (.ifnonnull 13, 3) := by decide +kernel
theorem d_S_differenceOf_42 : decode b_S_differenceOf 42 = .ok (.new 238, 3) := by decide +kernel
theorem d_S_differenceOf_45 : decode b_S_differenceOf 45 = .ok (.dup, 1) := by decide +kernel
theorem d_S_differenceOf_46 : decode b_S_differenceOf 46 = .ok (.ldc 253, 2) := by decide +kernel
theorem d_S_differenceOf_48 : decode b_S_differenceOf 48 = .ok (.invokespecial 242, 3) := by decide +kernel
theorem d_S_differenceOf_51 : decode b_S_differenceOf 51 = .ok (.athrow, 1) := by decide +kernel
theorem d_S_differenceOf_52 : decode b_S_differenceOf 52 = .ok (.aload_n 2, 1) := by decide +kernel
theorem d_S_differenceOf_53 : decode b_S_differenceOf 53 = .ok (.areturn, 1) := by decide +kernel
theorem d_S_claim_0 : decode b_S_claim 0 = .ok (.aload_n 0, 1) := by decide +kernel
theorem d_S_claim_1 : decode b_S_claim 1 = .ok (.iload_n 1, 1) := by decide +kernel
theorem d_S_claim_2 : decode b_S_claim 2 = .ok (.invokevirtual 44, 3) := by decide +kernel
theorem d_S_claim_5 : decode b_S_claim 5 = .ok (.astore_n 3, 1) := by decide +kernel
theorem d_S_claim_6 : decode b_S_claim 6 = .ok (.iload_n 2, 1) := by decide +kernel
theorem d_S_claim_7 : decode b_S_claim 7 = .ok (.ifCond .ge 13, 3) := by decide +kernel
theorem d_S_claim_10 : decode b_S_claim 10 = .ok (.new 203, 3) := by decide +kernel
theorem d_S_claim_13 : decode b_S_claim 13 = .ok (.dup, 1) := by decide +kernel
theorem d_S_claim_14 : decode b_S_claim 14 = .ok (.ldc 208, 2) := by decide +kernel
theorem d_S_claim_16 : decode b_S_claim 16 = .ok (.invokespecial 207, 3) := by decide +kernel
theorem d_S_claim_19 : decode b_S_claim 19 = .ok (.athrow, 1) := by decide +kernel
theorem d_S_claim_20 : decode b_S_claim 20 = .ok (.iconst 0, 1) := by decide +kernel
theorem d_S_claim_21 : decode b_S_claim 21 = .ok (.istore 4, 2) := by decide +kernel
theorem d_S_claim_23 : decode b_S_claim 23 = .ok (.iconst 0, 1) := by decide +kernel
theorem d_S_claim_24 : decode b_S_claim 24 = .ok (.istore 5, 2) := by decide +kernel
theorem d_S_claim_26 : decode b_S_claim 26 = .ok (.iload 5, 2) := by decide +kernel
theorem d_S_claim_28 : decode b_S_claim 28 = .ok (.aload_n 0, 1) := by decide +kernel
theorem d_S_claim_29 : decode b_S_claim 29 = .ok (.getfield 98, 3) := by decide +kernel
theorem d_S_claim_32 : decode b_S_claim 32 = .ok (.if_icmp .ge 67, 3) := by decide +kernel
theorem d_S_claim_35 : decode b_S_claim 35 = .ok (.iload 5, 2) := by decide +kernel
theorem d_S_claim_37 : decode b_S_claim 37 = .ok (.aload_n 0, 1) := by decide +kernel
theorem d_S_claim_38 : decode b_S_claim 38 = .ok (.getfield 17, 3) := by decide +kernel
theorem d_S_claim_41 : decode b_S_claim 41 = .ok (.arraylength, 1) := by decide +kernel
theorem d_S_claim_42 : decode b_S_claim 42 = .ok (.if_icmp .ge 57, 3) := by decide +kernel
theorem d_S_claim_45 : decode b_S_claim 45 = .ok (.aload_n 0, 1) := by decide +kernel
theorem d_S_claim_46 : decode b_S_claim 46 = .ok (.getfield 17, 3) := by decide +kernel
theorem d_S_claim_49 : decode b_S_claim 49 = .ok (.iload 5, 2) := by decide +kernel
theorem d_S_claim_51 : decode b_S_claim 51 = .ok (.aaload, 1) := by decide +kernel
theorem d_S_claim_52 : decode b_S_claim 52 = .ok (.astore 6, 2) := by decide +kernel
theorem d_S_claim_54 : decode b_S_claim 54 = .ok (.aload 6, 2) := by decide +kernel
theorem d_S_claim_56 : decode b_S_claim 56 = .ok (.ifnull 37, 3) := by decide +kernel
theorem d_S_claim_59 : decode b_S_claim 59 = .ok (.aload 6, 2) := by decide +kernel
theorem d_S_claim_61 : decode b_S_claim 61 = .ok (.getfield 120, 3) := by decide +kernel
theorem d_S_claim_64 : decode b_S_claim 64 = .ok (.getfield 131, 3) := by decide +kernel
theorem d_S_claim_67 : decode b_S_claim 67 = .ok (.aload_n 3, 1) := by decide +kernel
theorem d_S_claim_68 : decode b_S_claim 68 = .ok (.if_acmp .ne 25, 3) := by decide +kernel
theorem d_S_claim_71 : decode b_S_claim 71 = .ok (.aload 6, 2) := by decide +kernel
theorem d_S_claim_73 : decode b_S_claim 73 = .ok (.invokevirtual 117, 3) := by decide +kernel
theorem d_S_claim_76 : decode b_S_claim 76 = .ok (.ifCond .eq 17, 3) := by decide +kernel
theorem d_S_claim_79 : decode b_S_claim 79 = .ok (.iload 4, 2) := by decide +kernel
theorem d_S_claim_81 : decode b_S_claim 81 = .ok (.iload_n 2, 1) := by decide +kernel
theorem d_S_claim_82 : decode b_S_claim 82 = .ok (.if_icmp .ne 8, 3) := by decide +kernel
theorem d_S_claim_85 : decode b_S_claim 85 = .ok (.iload 5, 2) := by decide +kernel
theorem d_S_claim_87 : decode b_S_claim 87 = .ok (.iconst 1, 1) := by decide +kernel
theorem d_S_claim_88 : decode b_S_claim 88 = .ok (.iadd, 1) := by decide +kernel
theorem d_S_claim_89 : decode b_S_claim 89 = .ok (.ireturn, 1) := by decide +kernel
theorem d_S_claim_90 : decode b_S_claim 90 = .ok (.iinc 4 1, 3) := by decide +kernel
theorem d_S_claim_93 : decode b_S_claim 93 = .ok (.iinc 5 1, 3) := by decide +kernel
theorem d_S_claim_96 : decode b_S_claim 96 = .ok (.goto (-70), 3) := by decide +kernel
theorem d_S_claim_99 : decode b_S_claim 99 = .ok (.iconst (-1), 1) := by decide +kernel
theorem d_S_claim_100 : decode b_S_claim 100 = .ok (.ireturn, 1) := by decide +kernel
theorem d_S_unit_0 : decode b_S_unit 0 = .ok (.aload_n 0, 1) := by decide +kernel
theorem d_S_unit_1 : decode b_S_unit 1 = .ok (.iload_n 1, 1) := by decide +kernel
theorem d_S_unit_2 : decode b_S_unit 2 = .ok (.invokevirtual 113, 3) := by decide +kernel
theorem d_S_unit_5 : decode b_S_unit 5 = .ok (.astore_n 3, 1) := by decide +kernel
theorem d_S_unit_6 : decode b_S_unit 6 = .ok (.iload_n 2, 1) := by decide +kernel
theorem d_S_unit_7 : decode b_S_unit 7 = .ok (.tableswitch 94 0 7 #[45, 50, 61, 69, 74, 79, 84, 89], 45) := by decide +kernel
theorem d_S_unit_52 : decode b_S_unit 52 = .ok (.aload_n 3, 1) := by decide +kernel
theorem d_S_unit_53 : decode b_S_unit 53 = .ok (.invokevirtual 157, 3) := by decide +kernel
theorem d_S_unit_56 : decode b_S_unit 56 = .ok (.ireturn, 1) := by decide +kernel
theorem d_S_unit_57 : decode b_S_unit 57 = .ok (.aload_n 3, 1) := by decide +kernel
theorem d_S_unit_58 : decode b_S_unit 58 = .ok (.getfield 120, 3) := by decide +kernel
theorem d_S_unit_61 : decode b_S_unit 61 = .ok (.getfield 131, 3) := by decide +kernel
theorem d_S_unit_64 : decode b_S_unit 64 = .ok (.getfield 196, 3) := by decide +kernel
theorem d_S_unit_67 : decode b_S_unit 67 = .ok (.ireturn, 1) := by decide +kernel
theorem d_S_unit_68 : decode b_S_unit 68 = .ok (.aload_n 3, 1) := by decide +kernel
theorem d_S_unit_69 : decode b_S_unit 69 = .ok (.getfield 120, 3) := by decide +kernel
theorem d_S_unit_72 : decode b_S_unit 72 = .ok (.getfield 199, 3) := by decide +kernel
theorem d_S_unit_75 : decode b_S_unit 75 = .ok (.ireturn, 1) := by decide +kernel
theorem d_S_unit_76 : decode b_S_unit 76 = .ok (.aload_n 3, 1) := by decide +kernel
theorem d_S_unit_77 : decode b_S_unit 77 = .ok (.getfield 210, 3) := by decide +kernel
theorem d_S_unit_80 : decode b_S_unit 80 = .ok (.ireturn, 1) := by decide +kernel
theorem d_S_unit_81 : decode b_S_unit 81 = .ok (.aload_n 3, 1) := by decide +kernel
theorem d_S_unit_82 : decode b_S_unit 82 = .ok (.getfield 213, 3) := by decide +kernel
theorem d_S_unit_85 : decode b_S_unit 85 = .ok (.ireturn, 1) := by decide +kernel
theorem d_S_unit_86 : decode b_S_unit 86 = .ok (.aload_n 3, 1) := by decide +kernel
theorem d_S_unit_87 : decode b_S_unit 87 = .ok (.getfield 148, 3) := by decide +kernel
theorem d_S_unit_90 : decode b_S_unit 90 = .ok (.ireturn, 1) := by decide +kernel
theorem d_S_unit_91 : decode b_S_unit 91 = .ok (.aload_n 3, 1) := by decide +kernel
theorem d_S_unit_92 : decode b_S_unit 92 = .ok (.getfield 124, 3) := by decide +kernel
theorem d_S_unit_95 : decode b_S_unit 95 = .ok (.ireturn, 1) := by decide +kernel
theorem d_S_unit_96 : decode b_S_unit 96 = .ok (.aload_n 3, 1) := by decide +kernel
theorem d_S_unit_97 : decode b_S_unit 97 = .ok (.getfield 172, 3) := by decide +kernel
theorem d_S_unit_100 : decode b_S_unit 100 = .ok (.ireturn, 1) := by decide +kernel
theorem d_S_unit_101 : decode b_S_unit 101 = .ok (.new 203, 3) := by decide +kernel
theorem d_S_unit_104 : decode b_S_unit 104 = .ok (.dup, 1) := by decide +kernel
theorem d_S_unit_105 : decode b_S_unit 105 = .ok (.ldc 216, 2) := by decide +kernel
theorem d_S_unit_107 : decode b_S_unit 107 = .ok (.invokespecial 207, 3) := by decide +kernel
theorem d_S_unit_110 : decode b_S_unit 110 = .ok (.athrow, 1) := by decide +kernel
theorem d_S_told_0 : decode b_S_told 0 = .ok (.aload_n 0, 1) := by decide +kernel
theorem d_S_told_1 : decode b_S_told 1 = .ok (.iload_n 1, 1) := by decide +kernel
theorem d_S_told_2 : decode b_S_told 2 = .ok (.iload_n 2, 1) := by decide +kernel
theorem d_S_told_3 : decode b_S_told 3 = .ok (.invokevirtual 80, 3) := by decide +kernel
theorem d_S_told_6 : decode b_S_told 6 = .ok (.astore 4, 2) := by decide +kernel
theorem d_S_told_8 : decode b_S_told 8 = .ok (.iload_n 3, 1) := by decide +kernel
theorem d_S_told_9 : decode b_S_told 9 = .ok (.tableswitch 101 0 6 #[43, 49, 55, 61, 75, 81, 95], 43) := by decide +kernel
theorem d_S_told_52 : decode b_S_told 52 = .ok (.aload 4, 2) := by decide +kernel
theorem d_S_told_54 : decode b_S_told 54 = .ok (.getfield 218, 3) := by decide +kernel
theorem d_S_told_57 : decode b_S_told 57 = .ok (.ireturn, 1) := by decide +kernel
theorem d_S_told_58 : decode b_S_told 58 = .ok (.aload 4, 2) := by decide +kernel
theorem d_S_told_60 : decode b_S_told 60 = .ok (.getfield 200, 3) := by decide +kernel
theorem d_S_told_63 : decode b_S_told 63 = .ok (.ireturn, 1) := by decide +kernel
theorem d_S_told_64 : decode b_S_told 64 = .ok (.aload 4, 2) := by decide +kernel
theorem d_S_told_66 : decode b_S_told 66 = .ok (.getfield 107, 3) := by decide +kernel
theorem d_S_told_69 : decode b_S_told 69 = .ok (.ireturn, 1) := by decide +kernel
theorem d_S_told_70 : decode b_S_told 70 = .ok (.aload 4, 2) := by decide +kernel
theorem d_S_told_72 : decode b_S_told 72 = .ok (.getfield 84, 3) := by decide +kernel
theorem d_S_told_75 : decode b_S_told 75 = .ok (.ifCond .eq 7, 3) := by decide +kernel
theorem d_S_told_78 : decode b_S_told 78 = .ok (.iconst 1, 1) := by decide +kernel
theorem d_S_told_79 : decode b_S_told 79 = .ok (.goto 4, 3) := by decide +kernel
theorem d_S_told_82 : decode b_S_told 82 = .ok (.iconst 0, 1) := by decide +kernel
theorem d_S_told_83 : decode b_S_told 83 = .ok (.ireturn, 1) := by decide +kernel
theorem d_S_told_84 : decode b_S_told 84 = .ok (.aload 4, 2) := by decide +kernel
theorem d_S_told_86 : decode b_S_told 86 = .ok (.invokevirtual 138, 3) := by decide +kernel
theorem d_S_told_89 : decode b_S_told 89 = .ok (.ireturn, 1) := by decide +kernel
theorem d_S_told_90 : decode b_S_told 90 = .ok (.aload 4, 2) := by decide +kernel
theorem d_S_told_92 : decode b_S_told 92 = .ok (.getfield 145, 3) := by decide +kernel
theorem d_S_told_95 : decode b_S_told 95 = .ok (.ifCond .eq 7, 3) := by decide +kernel
theorem d_S_told_98 : decode b_S_told 98 = .ok (.iconst 1, 1) := by decide +kernel
theorem d_S_told_99 : decode b_S_told 99 = .ok (.goto 4, 3) := by decide +kernel
theorem d_S_told_102 : decode b_S_told 102 = .ok (.iconst 0, 1) := by decide +kernel
theorem d_S_told_103 : decode b_S_told 103 = .ok (.ireturn, 1) := by decide +kernel
theorem d_S_told_104 : decode b_S_told 104 = .ok (.aload 4, 2) := by decide +kernel
theorem d_S_told_106 : decode b_S_told 106 = .ok (.invokevirtual 221, 3) := by decide +kernel
theorem d_S_told_109 : decode b_S_told 109 = .ok (.ireturn, 1) := by decide +kernel
theorem d_S_told_110 : decode b_S_told 110 = .ok (.new 203, 3) := by decide +kernel
theorem d_S_told_113 : decode b_S_told 113 = .ok (.dup, 1) := by decide +kernel
theorem d_S_told_114 : decode b_S_told 114 = .ok (.ldc 224, 2) := by decide +kernel
theorem d_S_told_116 : decode b_S_told 116 = .ok (.invokespecial 207, 3) := by decide +kernel
theorem d_S_told_119 : decode b_S_told 119 = .ok (.athrow, 1) := by decide +kernel
theorem d_S_state_0 : decode b_S_state 0 = .ok (.aload_n 0, 1) := by decide +kernel
theorem d_S_state_1 : decode b_S_state 1 = .ok (.iload_n 1, 1) := by decide +kernel
theorem d_S_state_2 : decode b_S_state 2 = .ok (.invokevirtual 44, 3) := by decide +kernel
theorem d_S_state_5 : decode b_S_state 5 = .ok (.astore_n 3, 1) := by decide +kernel
theorem d_S_state_6 : decode b_S_state 6 = .ok (.iload_n 2, 1) := by decide +kernel
theorem d_S_state_7 : decode b_S_state 7 = .ok (.tableswitch 49 0 3 #[29, 34, 39, 44], 29) := by decide +kernel
theorem d_S_state_36 : decode b_S_state 36 = .ok (.aload_n 3, 1) := by decide +kernel
theorem d_S_state_37 : decode b_S_state 37 = .ok (.getfield 48, 3) := by decide +kernel
theorem d_S_state_40 : decode b_S_state 40 = .ok (.ireturn, 1) := by decide +kernel
theorem d_S_state_41 : decode b_S_state 41 = .ok (.aload_n 3, 1) := by decide +kernel
theorem d_S_state_42 : decode b_S_state 42 = .ok (.getfield 166, 3) := by decide +kernel
theorem d_S_state_45 : decode b_S_state 45 = .ok (.ireturn, 1) := by decide +kernel
theorem d_S_state_46 : decode b_S_state 46 = .ok (.aload_n 3, 1) := by decide +kernel
theorem d_S_state_47 : decode b_S_state 47 = .ok (.getfield 226, 3) := by decide +kernel
theorem d_S_state_50 : decode b_S_state 50 = .ok (.ireturn, 1) := by decide +kernel
theorem d_S_state_51 : decode b_S_state 51 = .ok (.aload_n 3, 1) := by decide +kernel
theorem d_S_state_52 : decode b_S_state 52 = .ok (.getfield 67, 3) := by decide +kernel
theorem d_S_state_55 : decode b_S_state 55 = .ok (.ireturn, 1) := by decide +kernel
theorem d_S_state_56 : decode b_S_state 56 = .ok (.new 203, 3) := by decide +kernel
theorem d_S_state_59 : decode b_S_state 59 = .ok (.dup, 1) := by decide +kernel
theorem d_S_state_60 : decode b_S_state 60 = .ok (.ldc 229, 2) := by decide +kernel
theorem d_S_state_62 : decode b_S_state 62 = .ok (.invokespecial 207, 3) := by decide +kernel
theorem d_S_state_65 : decode b_S_state 65 = .ok (.athrow, 1) := by decide +kernel
end
section
theorem d_M_init_0 : decode b_M_init 0 = .ok (.aload_n 0, 1) := by decide +kernel
theorem d_M_init_1 : decode b_M_init 1 = .ok (.invokespecial 1, 3) := by decide +kernel
theorem d_M_init_4 : decode b_M_init 4 = .ok (.aload_n 0, 1) := by decide +kernel
theorem d_M_init_5 : decode b_M_init 5 = .ok (.bipush 8, 2) := by decide +kernel
theorem d_M_init_7 : decode b_M_init 7 = .ok (.newarray .boolean, 2) := by decide +kernel
theorem d_M_init_9 : decode b_M_init 9 = .ok (.putfield 7, 3) := by decide +kernel
theorem d_M_init_12 : decode b_M_init 12 = .ok (.aload_n 0, 1) := by decide +kernel
theorem d_M_init_13 : decode b_M_init 13 = .ok (.bipush 17, 2) := by decide +kernel
theorem d_M_init_15 : decode b_M_init 15 = .ok (.newarray .int, 2) := by decide +kernel
theorem d_M_init_17 : decode b_M_init 17 = .ok (.putfield 13, 3) := by decide +kernel
theorem d_M_init_20 : decode b_M_init 20 = .ok (.aload_n 0, 1) := by decide +kernel
theorem d_M_init_21 : decode b_M_init 21 = .ok (.bipush 17, 2) := by decide +kernel
theorem d_M_init_23 : decode b_M_init 23 = .ok (.newarray .int, 2) := by decide +kernel
theorem d_M_init_25 : decode b_M_init 25 = .ok (.putfield 17, 3) := by decide +kernel
theorem d_M_init_28 : decode b_M_init 28 = .ok (.aload_n 0, 1) := by decide +kernel
theorem d_M_init_29 : decode b_M_init 29 = .ok (.bipush 17, 2) := by decide +kernel
theorem d_M_init_31 : decode b_M_init 31 = .ok (.newarray .int, 2) := by decide +kernel
theorem d_M_init_33 : decode b_M_init 33 = .ok (.putfield 20, 3) := by decide +kernel
theorem d_M_init_36 : decode b_M_init 36 = .ok (.aload_n 0, 1) := by decide +kernel
theorem d_M_init_37 : decode b_M_init 37 = .ok (.bipush 17, 2) := by decide +kernel
theorem d_M_init_39 : decode b_M_init 39 = .ok (.newarray .int, 2) := by decide +kernel
theorem d_M_init_41 : decode b_M_init 41 = .ok (.putfield 23, 3) := by decide +kernel
theorem d_M_init_44 : decode b_M_init 44 = .ok (.aload_n 0, 1) := by decide +kernel
theorem d_M_init_45 : decode b_M_init 45 = .ok (.bipush 17, 2) := by decide +kernel
theorem d_M_init_47 : decode b_M_init 47 = .ok (.newarray .int, 2) := by decide +kernel
theorem d_M_init_49 : decode b_M_init 49 = .ok (.putfield 26, 3) := by decide +kernel
theorem d_M_init_52 : decode b_M_init 52 = .ok (.aload_n 0, 1) := by decide +kernel
theorem d_M_init_53 : decode b_M_init 53 = .ok (.bipush 68, 2) := by decide +kernel
theorem d_M_init_55 : decode b_M_init 55 = .ok (.newarray .int, 2) := by decide +kernel
theorem d_M_init_57 : decode b_M_init 57 = .ok (.putfield 29, 3) := by decide +kernel
theorem d_M_init_60 : decode b_M_init 60 = .ok (.aload_n 0, 1) := by decide +kernel
theorem d_M_init_61 : decode b_M_init 61 = .ok (.bipush 68, 2) := by decide +kernel
theorem d_M_init_63 : decode b_M_init 63 = .ok (.newarray .int, 2) := by decide +kernel
theorem d_M_init_65 : decode b_M_init 65 = .ok (.putfield 32, 3) := by decide +kernel
theorem d_M_init_68 : decode b_M_init 68 = .ok (.aload_n 0, 1) := by decide +kernel
theorem d_M_init_69 : decode b_M_init 69 = .ok (.bipush 68, 2) := by decide +kernel
theorem d_M_init_71 : decode b_M_init 71 = .ok (.newarray .int, 2) := by decide +kernel
theorem d_M_init_73 : decode b_M_init 73 = .ok (.putfield 35, 3) := by decide +kernel
theorem d_M_init_76 : decode b_M_init 76 = .ok (.aload_n 0, 1) := by decide +kernel
theorem d_M_init_77 : decode b_M_init 77 = .ok (.bipush 68, 2) := by decide +kernel
theorem d_M_init_79 : decode b_M_init 79 = .ok (.newarray .int, 2) := by decide +kernel
theorem d_M_init_81 : decode b_M_init 81 = .ok (.putfield 38, 3) := by decide +kernel
theorem d_M_init_84 : decode b_M_init 84 = .ok (.aload_n 0, 1) := by decide +kernel
theorem d_M_init_85 : decode b_M_init 85 = .ok (.bipush 68, 2) := by decide +kernel
theorem d_M_init_87 : decode b_M_init 87 = .ok (.newarray .int, 2) := by decide +kernel
theorem d_M_init_89 : decode b_M_init 89 = .ok (.putfield 41, 3) := by decide +kernel
theorem d_M_init_92 : decode b_M_init 92 = .ok (.aload_n 0, 1) := by decide +kernel
theorem d_M_init_93 : decode b_M_init 93 = .ok (.bipush 68, 2) := by decide +kernel
theorem d_M_init_95 : decode b_M_init 95 = .ok (.newarray .int, 2) := by decide +kernel
theorem d_M_init_97 : decode b_M_init 97 = .ok (.putfield 44, 3) := by decide +kernel
theorem d_M_init_100 : decode b_M_init 100 = .ok (.aload_n 0, 1) := by decide +kernel
theorem d_M_init_101 : decode b_M_init 101 = .ok (.bipush 68, 2) := by decide +kernel
theorem d_M_init_103 : decode b_M_init 103 = .ok (.newarray .boolean, 2) := by decide +kernel
theorem d_M_init_105 : decode b_M_init 105 = .ok (.putfield 47, 3) := by decide +kernel
theorem d_M_init_108 : decode b_M_init 108 = .ok (.aload_n 0, 1) := by decide +kernel
theorem d_M_init_109 : decode b_M_init 109 = .ok (.bipush 68, 2) := by decide +kernel
theorem d_M_init_111 : decode b_M_init 111 = .ok (.newarray .boolean, 2) := by decide +kernel
theorem d_M_init_113 : decode b_M_init 113 = .ok (.putfield 50, 3) := by decide +kernel
theorem d_M_init_116 : decode b_M_init 116 = .ok (.aload_n 0, 1) := by decide +kernel
theorem d_M_init_117 : decode b_M_init 117 = .ok (.sipush 544, 3) := by decide +kernel
theorem d_M_init_120 : decode b_M_init 120 = .ok (.newarray .boolean, 2) := by decide +kernel
theorem d_M_init_122 : decode b_M_init 122 = .ok (.putfield 53, 3) := by decide +kernel
theorem d_M_init_125 : decode b_M_init 125 = .ok (.aload_n 0, 1) := by decide +kernel
theorem d_M_init_126 : decode b_M_init 126 = .ok (.bipush 121, 2) := by decide +kernel
theorem d_M_init_128 : decode b_M_init 128 = .ok (.newarray .int, 2) := by decide +kernel
theorem d_M_init_130 : decode b_M_init 130 = .ok (.putfield 56, 3) := by decide +kernel
theorem d_M_init_133 : decode b_M_init 133 = .ok (.aload_n 0, 1) := by decide +kernel
theorem d_M_init_134 : decode b_M_init 134 = .ok (.bipush 121, 2) := by decide +kernel
theorem d_M_init_136 : decode b_M_init 136 = .ok (.newarray .int, 2) := by decide +kernel
theorem d_M_init_138 : decode b_M_init 138 = .ok (.putfield 59, 3) := by decide +kernel
theorem d_M_init_141 : decode b_M_init 141 = .ok (.aload_n 0, 1) := by decide +kernel
theorem d_M_init_142 : decode b_M_init 142 = .ok (.bipush 121, 2) := by decide +kernel
theorem d_M_init_144 : decode b_M_init 144 = .ok (.newarray .int, 2) := by decide +kernel
theorem d_M_init_146 : decode b_M_init 146 = .ok (.putfield 62, 3) := by decide +kernel
theorem d_M_init_149 : decode b_M_init 149 = .ok (.aload_n 0, 1) := by decide +kernel
theorem d_M_init_150 : decode b_M_init 150 = .ok (.bipush 121, 2) := by decide +kernel
theorem d_M_init_152 : decode b_M_init 152 = .ok (.newarray .int, 2) := by decide +kernel
theorem d_M_init_154 : decode b_M_init 154 = .ok (.putfield 65, 3) := by decide +kernel
theorem d_M_init_157 : decode b_M_init 157 = .ok (.aload_n 0, 1) := by decide +kernel
theorem d_M_init_158 : decode b_M_init 158 = .ok (.bipush 121, 2) := by decide +kernel
theorem d_M_init_160 : decode b_M_init 160 = .ok (.newarray .int, 2) := by decide +kernel
theorem d_M_init_162 : decode b_M_init 162 = .ok (.putfield 68, 3) := by decide +kernel
theorem d_M_init_165 : decode b_M_init 165 = .ok (.aload_n 0, 1) := by decide +kernel
theorem d_M_init_166 : decode b_M_init 166 = .ok (.bipush 121, 2) := by decide +kernel
theorem d_M_init_168 : decode b_M_init 168 = .ok (.newarray .int, 2) := by decide +kernel
theorem d_M_init_170 : decode b_M_init 170 = .ok (.putfield 71, 3) := by decide +kernel
theorem d_M_init_173 : decode b_M_init 173 = .ok (.aload_n 0, 1) := by decide +kernel
theorem d_M_init_174 : decode b_M_init 174 = .ok (.bipush 121, 2) := by decide +kernel
theorem d_M_init_176 : decode b_M_init 176 = .ok (.newarray .int, 2) := by decide +kernel
theorem d_M_init_178 : decode b_M_init 178 = .ok (.putfield 74, 3) := by decide +kernel
theorem d_M_init_181 : decode b_M_init 181 = .ok (.aload_n 0, 1) := by decide +kernel
theorem d_M_init_182 : decode b_M_init 182 = .ok (.bipush 121, 2) := by decide +kernel
theorem d_M_init_184 : decode b_M_init 184 = .ok (.newarray .int, 2) := by decide +kernel
theorem d_M_init_186 : decode b_M_init 186 = .ok (.putfield 77, 3) := by decide +kernel
theorem d_M_init_189 : decode b_M_init 189 = .ok (.aload_n 0, 1) := by decide +kernel
theorem d_M_init_190 : decode b_M_init 190 = .ok (.bipush 64, 2) := by decide +kernel
theorem d_M_init_192 : decode b_M_init 192 = .ok (.newarray .int, 2) := by decide +kernel
theorem d_M_init_194 : decode b_M_init 194 = .ok (.putfield 80, 3) := by decide +kernel
theorem d_M_init_197 : decode b_M_init 197 = .ok (.return_, 1) := by decide +kernel
theorem d_M_thrown_0 : decode b_M_thrown 0 = .ok (.aload_n 0, 1) := by decide +kernel
theorem d_M_thrown_1 : decode b_M_thrown 1 = .ok (.getfield 83, 3) := by decide +kernel
theorem d_M_thrown_4 : decode b_M_thrown 4 = .ok (.ireturn, 1) := by decide +kernel
theorem d_M_announce_0 : decode b_M_announce 0 = .ok (.aload_n 0, 1) := by decide +kernel
theorem d_M_announce_1 : decode b_M_announce 1 = .ok (.iload_n 1, 1) := by decide +kernel
theorem d_M_announce_2 : decode b_M_announce 2 = .ok (.iconst 0, 1) := by decide +kernel
theorem d_M_announce_3 : decode b_M_announce 3 = .ok (.bipush 7, 2) := by decide +kernel
theorem d_M_announce_5 : decode b_M_announce 5 = .ok (.invokestatic 90, 3) := by decide +kernel
theorem d_M_announce_8 : decode b_M_announce 8 = .ok (.ifCond .eq 12, 3) := by decide +kernel
theorem d_M_announce_11 : decode b_M_announce 11 = .ok (.iload_n 2, 1) := by decide +kernel
theorem d_M_announce_12 : decode b_M_announce 12 = .ok (.iconst 1, 1) := by decide +kernel
theorem d_M_announce_13 : decode b_M_announce 13 = .ok (.iconst 4, 1) := by decide +kernel
theorem d_M_announce_14 : decode b_M_announce 14 = .ok (.invokestatic 90, 3) := by decide +kernel
theorem d_M_announce_17 : decode b_M_announce 17 = .ok (.ifCond .ne 7, 3) := by decide +kernel
theorem d_M_announce_20 : decode b_M_announce 20 = .ok (.iconst 1, 1) := by decide +kernel
theorem d_M_announce_21 : decode b_M_announce 21 = .ok (.goto 17, 3) := by decide +kernel
theorem d_M_announce_24 : decode b_M_announce 24 = .ok (.aload_n 0, 1) := by decide +kernel
theorem d_M_announce_25 : decode b_M_announce 25 = .ok (.getfield 87, 3) := by decide +kernel
theorem d_M_announce_28 : decode b_M_announce 28 = .ok (.bipush 16, 2) := by decide +kernel
theorem d_M_announce_30 : decode b_M_announce 30 = .ok (.if_icmp .ne 7, 3) := by decide +kernel
theorem d_M_announce_33 : decode b_M_announce 33 = .ok (.iconst 2, 1) := by decide +kernel
theorem d_M_announce_34 : decode b_M_announce 34 = .ok (.goto 4, 3) := by decide +kernel
theorem d_M_announce_37 : decode b_M_announce 37 = .ok (.iconst 0, 1) := by decide +kernel
theorem d_M_announce_38 : decode b_M_announce 38 = .ok (.putfield 83, 3) := by decide +kernel
theorem d_M_announce_41 : decode b_M_announce 41 = .ok (.aload_n 0, 1) := by decide +kernel
theorem d_M_announce_42 : decode b_M_announce 42 = .ok (.getfield 83, 3) := by decide +kernel
theorem d_M_announce_45 : decode b_M_announce 45 = .ok (.ifCond .le 5, 3) := by decide +kernel
theorem d_M_announce_48 : decode b_M_announce 48 = .ok (.iconst 0, 1) := by decide +kernel
theorem d_M_announce_49 : decode b_M_announce 49 = .ok (.ireturn, 1) := by decide +kernel
theorem d_M_announce_50 : decode b_M_announce 50 = .ok (.aload_n 0, 1) := by decide +kernel
theorem d_M_announce_51 : decode b_M_announce 51 = .ok (.dup, 1) := by decide +kernel
theorem d_M_announce_52 : decode b_M_announce 52 = .ok (.getfield 87, 3) := by decide +kernel
theorem d_M_announce_55 : decode b_M_announce 55 = .ok (.iconst 1, 1) := by decide +kernel
theorem d_M_announce_56 : decode b_M_announce 56 = .ok (.iadd, 1) := by decide +kernel
theorem d_M_announce_57 : decode b_M_announce 57 = .ok (.putfield 87, 3) := by decide +kernel
theorem d_M_announce_60 : decode b_M_announce 60 = .ok (.aload_n 0, 1) := by decide +kernel
theorem d_M_announce_61 : decode b_M_announce 61 = .ok (.getfield 13, 3) := by decide +kernel
theorem d_M_announce_64 : decode b_M_announce 64 = .ok (.aload_n 0, 1) := by decide +kernel
theorem d_M_announce_65 : decode b_M_announce 65 = .ok (.getfield 87, 3) := by decide +kernel
theorem d_M_announce_68 : decode b_M_announce 68 = .ok (.iload_n 1, 1) := by decide +kernel
theorem d_M_announce_69 : decode b_M_announce 69 = .ok (.iastore, 1) := by decide +kernel
theorem d_M_announce_70 : decode b_M_announce 70 = .ok (.aload_n 0, 1) := by decide +kernel
theorem d_M_announce_71 : decode b_M_announce 71 = .ok (.getfield 17, 3) := by decide +kernel
theorem d_M_announce_74 : decode b_M_announce 74 = .ok (.aload_n 0, 1) := by decide +kernel
theorem d_M_announce_75 : decode b_M_announce 75 = .ok (.getfield 87, 3) := by decide +kernel
theorem d_M_announce_78 : decode b_M_announce 78 = .ok (.iload_n 2, 1) := by decide +kernel
theorem d_M_announce_79 : decode b_M_announce 79 = .ok (.iastore, 1) := by decide +kernel
theorem d_M_announce_80 : decode b_M_announce 80 = .ok (.aload_n 0, 1) := by decide +kernel
theorem d_M_announce_81 : decode b_M_announce 81 = .ok (.getfield 26, 3) := by decide +kernel
theorem d_M_announce_84 : decode b_M_announce 84 = .ok (.aload_n 0, 1) := by decide +kernel
theorem d_M_announce_85 : decode b_M_announce 85 = .ok (.getfield 87, 3) := by decide +kernel
theorem d_M_announce_88 : decode b_M_announce 88 = .ok (.iconst (-1), 1) := by decide +kernel
theorem d_M_announce_89 : decode b_M_announce 89 = .ok (.iastore, 1) := by decide +kernel
theorem d_M_announce_90 : decode b_M_announce 90 = .ok (.aload_n 0, 1) := by decide +kernel
theorem d_M_announce_91 : decode b_M_announce 91 = .ok (.getfield 87, 3) := by decide +kernel
theorem d_M_announce_94 : decode b_M_announce 94 = .ok (.ireturn, 1) := by decide +kernel
theorem d_M_in_0 : decode b_M_in 0 = .ok (.iload_n 0, 1) := by decide +kernel
theorem d_M_in_1 : decode b_M_in 1 = .ok (.iload_n 1, 1) := by decide +kernel
theorem d_M_in_2 : decode b_M_in 2 = .ok (.if_icmp .lt 12, 3) := by decide +kernel
theorem d_M_in_5 : decode b_M_in 5 = .ok (.iload_n 0, 1) := by decide +kernel
theorem d_M_in_6 : decode b_M_in 6 = .ok (.iload_n 2, 1) := by decide +kernel
theorem d_M_in_7 : decode b_M_in 7 = .ok (.if_icmp .gt 7, 3) := by decide +kernel
theorem d_M_in_10 : decode b_M_in 10 = .ok (.iconst 1, 1) := by decide +kernel
theorem d_M_in_11 : decode b_M_in 11 = .ok (.goto 4, 3) := by decide +kernel
theorem d_M_in_14 : decode b_M_in 14 = .ok (.iconst 0, 1) := by decide +kernel
theorem d_M_in_15 : decode b_M_in 15 = .ok (.ireturn, 1) := by decide +kernel
theorem d_M_line_0 : decode b_M_line 0 = .ok (.aload_n 0, 1) := by decide +kernel
theorem d_M_line_1 : decode b_M_line 1 = .ok (.aload_n 0, 1) := by decide +kernel
theorem d_M_line_2 : decode b_M_line 2 = .ok (.iload_n 1, 1) := by decide +kernel
theorem d_M_line_3 : decode b_M_line 3 = .ok (.invokevirtual 94, 3) := by decide +kernel
theorem d_M_line_6 : decode b_M_line 6 = .ok (.ifCond .ne 7, 3) := by decide +kernel
theorem d_M_line_9 : decode b_M_line 9 = .ok (.iconst 1, 1) := by decide +kernel
theorem d_M_line_10 : decode b_M_line 10 = .ok (.goto 29, 3) := by decide +kernel
theorem d_M_line_13 : decode b_M_line 13 = .ok (.iload_n 2, 1) := by decide +kernel
theorem d_M_line_14 : decode b_M_line 14 = .ok (.iconst 0, 1) := by decide +kernel
theorem d_M_line_15 : decode b_M_line 15 = .ok (.bipush 9, 2) := by decide +kernel
theorem d_M_line_17 : decode b_M_line 17 = .ok (.invokestatic 90, 3) := by decide +kernel
theorem d_M_line_20 : decode b_M_line 20 = .ok (.ifCond .eq 14, 3) := by decide +kernel
theorem d_M_line_23 : decode b_M_line 23 = .ok (.iload_n 3, 1) := by decide +kernel
theorem d_M_line_24 : decode b_M_line 24 = .ok (.iconst 0, 1) := by decide +kernel
theorem d_M_line_25 : decode b_M_line 25 = .ok (.sipush 400, 3) := by decide +kernel
theorem d_M_line_28 : decode b_M_line 28 = .ok (.invokestatic 90, 3) := by decide +kernel
theorem d_M_line_31 : decode b_M_line 31 = .ok (.ifCond .ne 7, 3) := by decide +kernel
theorem d_M_line_34 : decode b_M_line 34 = .ok (.iconst 2, 1) := by decide +kernel
theorem d_M_line_35 : decode b_M_line 35 = .ok (.goto 4, 3) := by decide +kernel
theorem d_M_line_38 : decode b_M_line 38 = .ok (.iconst 0, 1) := by decide +kernel
theorem d_M_line_39 : decode b_M_line 39 = .ok (.putfield 83, 3) := by decide +kernel
theorem d_M_line_42 : decode b_M_line 42 = .ok (.aload_n 0, 1) := by decide +kernel
theorem d_M_line_43 : decode b_M_line 43 = .ok (.getfield 83, 3) := by decide +kernel
theorem d_M_line_46 : decode b_M_line 46 = .ok (.ifCond .ne 37, 3) := by decide +kernel
theorem d_M_line_49 : decode b_M_line 49 = .ok (.aload_n 0, 1) := by decide +kernel
theorem d_M_line_50 : decode b_M_line 50 = .ok (.aload_n 0, 1) := by decide +kernel
theorem d_M_line_51 : decode b_M_line 51 = .ok (.getfield 20, 3) := by decide +kernel
theorem d_M_line_54 : decode b_M_line 54 = .ok (.iload_n 1, 1) := by decide +kernel
theorem d_M_line_55 : decode b_M_line 55 = .ok (.iaload, 1) := by decide +kernel
theorem d_M_line_56 : decode b_M_line 56 = .ok (.aload_n 0, 1) := by decide +kernel
theorem d_M_line_57 : decode b_M_line 57 = .ok (.getfield 17, 3) := by decide +kernel
theorem d_M_line_60 : decode b_M_line 60 = .ok (.iload_n 1, 1) := by decide +kernel
theorem d_M_line_61 : decode b_M_line 61 = .ok (.iaload, 1) := by decide +kernel
theorem d_M_line_62 : decode b_M_line 62 = .ok (.if_icmp .eq 13, 3) := by decide +kernel
theorem d_M_line_65 : decode b_M_line 65 = .ok (.aload_n 0, 1) := by decide +kernel
theorem d_M_line_66 : decode b_M_line 66 = .ok (.getfield 23, 3) := by decide +kernel
theorem d_M_line_69 : decode b_M_line 69 = .ok (.iload_n 1, 1) := by decide +kernel
theorem d_M_line_70 : decode b_M_line 70 = .ok (.iaload, 1) := by decide +kernel
theorem d_M_line_71 : decode b_M_line 71 = .ok (.iconst 3, 1) := by decide +kernel
theorem d_M_line_72 : decode b_M_line 72 = .ok (.if_icmp .ne 7, 3) := by decide +kernel
theorem d_M_line_75 : decode b_M_line 75 = .ok (.iconst 3, 1) := by decide +kernel
theorem d_M_line_76 : decode b_M_line 76 = .ok (.goto 4, 3) := by decide +kernel
theorem d_M_line_79 : decode b_M_line 79 = .ok (.iconst 0, 1) := by decide +kernel
theorem d_M_line_80 : decode b_M_line 80 = .ok (.putfield 83, 3) := by decide +kernel
theorem d_M_line_83 : decode b_M_line 83 = .ok (.aload_n 0, 1) := by decide +kernel
theorem d_M_line_84 : decode b_M_line 84 = .ok (.getfield 83, 3) := by decide +kernel
theorem d_M_line_87 : decode b_M_line 87 = .ok (.ifCond .le 5, 3) := by decide +kernel
theorem d_M_line_90 : decode b_M_line 90 = .ok (.iconst 0, 1) := by decide +kernel
theorem d_M_line_91 : decode b_M_line 91 = .ok (.ireturn, 1) := by decide +kernel
theorem d_M_line_92 : decode b_M_line 92 = .ok (.iconst 4, 1) := by decide +kernel
theorem d_M_line_93 : decode b_M_line 93 = .ok (.iload_n 1, 1) := by decide +kernel
theorem d_M_line_94 : decode b_M_line 94 = .ok (.imul, 1) := by decide +kernel
theorem d_M_line_95 : decode b_M_line 95 = .ok (.aload_n 0, 1) := by decide +kernel
theorem d_M_line_96 : decode b_M_line 96 = .ok (.getfield 20, 3) := by decide +kernel
theorem d_M_line_99 : decode b_M_line 99 = .ok (.iload_n 1, 1) := by decide +kernel
theorem d_M_line_100 : decode b_M_line 100 = .ok (.iaload, 1) := by decide +kernel
theorem d_M_line_101 : decode b_M_line 101 = .ok (.iadd, 1) := by decide +kernel
theorem d_M_line_102 : decode b_M_line 102 = .ok (.istore 4, 2) := by decide +kernel
theorem d_M_line_104 : decode b_M_line 104 = .ok (.aload_n 0, 1) := by decide +kernel
theorem d_M_line_105 : decode b_M_line 105 = .ok (.getfield 29, 3) := by decide +kernel
theorem d_M_line_108 : decode b_M_line 108 = .ok (.iload 4, 2) := by decide +kernel
theorem d_M_line_110 : decode b_M_line 110 = .ok (.iload_n 2, 1) := by decide +kernel
theorem d_M_line_111 : decode b_M_line 111 = .ok (.iastore, 1) := by decide +kernel
theorem d_M_line_112 : decode b_M_line 112 = .ok (.aload_n 0, 1) := by decide +kernel
theorem d_M_line_113 : decode b_M_line 113 = .ok (.getfield 32, 3) := by decide +kernel
theorem d_M_line_116 : decode b_M_line 116 = .ok (.iload 4, 2) := by decide +kernel
theorem d_M_line_118 : decode b_M_line 118 = .ok (.iload_n 3, 1) := by decide +kernel
theorem d_M_line_119 : decode b_M_line 119 = .ok (.iastore, 1) := by decide +kernel
theorem d_M_line_120 : decode b_M_line 120 = .ok (.aload_n 0, 1) := by decide +kernel
theorem d_M_line_121 : decode b_M_line 121 = .ok (.getfield 20, 3) := by decide +kernel
theorem d_M_line_124 : decode b_M_line 124 = .ok (.iload_n 1, 1) := by decide +kernel
theorem d_M_line_125 : decode b_M_line 125 = .ok (.dup2, 1) := by decide +kernel
theorem d_M_line_126 : decode b_M_line 126 = .ok (.iaload, 1) := by decide +kernel
theorem d_M_line_127 : decode b_M_line 127 = .ok (.iconst 1, 1) := by decide +kernel
theorem d_M_line_128 : decode b_M_line 128 = .ok (.iadd, 1) := by decide +kernel
theorem d_M_line_129 : decode b_M_line 129 = .ok (.iastore, 1) := by decide +kernel
theorem d_M_line_130 : decode b_M_line 130 = .ok (.aload_n 0, 1) := by decide +kernel
theorem d_M_line_131 : decode b_M_line 131 = .ok (.getfield 20, 3) := by decide +kernel
theorem d_M_line_134 : decode b_M_line 134 = .ok (.iload_n 1, 1) := by decide +kernel
theorem d_M_line_135 : decode b_M_line 135 = .ok (.iaload, 1) := by decide +kernel
theorem d_M_line_136 : decode b_M_line 136 = .ok (.iconst 1, 1) := by decide +kernel
theorem d_M_line_137 : decode b_M_line 137 = .ok (.isub, 1) := by decide +kernel
theorem d_M_line_138 : decode b_M_line 138 = .ok (.ireturn, 1) := by decide +kernel
theorem d_M_isAnnouncement_0 : decode b_M_isAnnouncement 0 = .ok (.iload_n 1, 1) := by decide +kernel
theorem d_M_isAnnouncement_1 : decode b_M_isAnnouncement 1 = .ok (.iconst 1, 1) := by decide +kernel
theorem d_M_isAnnouncement_2 : decode b_M_isAnnouncement 2 = .ok (.aload_n 0, 1) := by decide +kernel
theorem d_M_isAnnouncement_3 : decode b_M_isAnnouncement 3 = .ok (.getfield 87, 3) := by decide +kernel
theorem d_M_isAnnouncement_6 : decode b_M_isAnnouncement 6 = .ok (.invokestatic 90, 3) := by decide +kernel
theorem d_M_isAnnouncement_9 : decode b_M_isAnnouncement 9 = .ok (.ireturn, 1) := by decide +kernel
theorem d_M_arrive_0 : decode b_M_arrive 0 = .ok (.aload_n 0, 1) := by decide +kernel
theorem d_M_arrive_1 : decode b_M_arrive 1 = .ok (.aload_n 0, 1) := by decide +kernel
theorem d_M_arrive_2 : decode b_M_arrive 2 = .ok (.iload_n 1, 1) := by decide +kernel
theorem d_M_arrive_3 : decode b_M_arrive 3 = .ok (.invokevirtual 94, 3) := by decide +kernel
theorem d_M_arrive_6 : decode b_M_arrive 6 = .ok (.ifCond .ne 7, 3) := by decide +kernel
theorem d_M_arrive_9 : decode b_M_arrive 9 = .ok (.iconst 1, 1) := by decide +kernel
theorem d_M_arrive_10 : decode b_M_arrive 10 = .ok (.goto 17, 3) := by decide +kernel
theorem d_M_arrive_13 : decode b_M_arrive 13 = .ok (.iload_n 2, 1) := by decide +kernel
theorem d_M_arrive_14 : decode b_M_arrive 14 = .ok (.iconst 0, 1) := by decide +kernel
theorem d_M_arrive_15 : decode b_M_arrive 15 = .ok (.iconst 3, 1) := by decide +kernel
theorem d_M_arrive_16 : decode b_M_arrive 16 = .ok (.invokestatic 90, 3) := by decide +kernel
theorem d_M_arrive_19 : decode b_M_arrive 19 = .ok (.ifCond .ne 7, 3) := by decide +kernel
theorem d_M_arrive_22 : decode b_M_arrive 22 = .ok (.iconst 2, 1) := by decide +kernel
theorem d_M_arrive_23 : decode b_M_arrive 23 = .ok (.goto 4, 3) := by decide +kernel
theorem d_M_arrive_26 : decode b_M_arrive 26 = .ok (.iconst 0, 1) := by decide +kernel
theorem d_M_arrive_27 : decode b_M_arrive 27 = .ok (.putfield 83, 3) := by decide +kernel
theorem d_M_arrive_30 : decode b_M_arrive 30 = .ok (.aload_n 0, 1) := by decide +kernel
theorem d_M_arrive_31 : decode b_M_arrive 31 = .ok (.getfield 83, 3) := by decide +kernel
theorem d_M_arrive_34 : decode b_M_arrive 34 = .ok (.ifCond .ne 44, 3) := by decide +kernel
theorem d_M_arrive_37 : decode b_M_arrive 37 = .ok (.aload_n 0, 1) := by decide +kernel
theorem d_M_arrive_38 : decode b_M_arrive 38 = .ok (.aload_n 0, 1) := by decide +kernel
theorem d_M_arrive_39 : decode b_M_arrive 39 = .ok (.getfield 23, 3) := by decide +kernel
theorem d_M_arrive_42 : decode b_M_arrive 42 = .ok (.iload_n 1, 1) := by decide +kernel
theorem d_M_arrive_43 : decode b_M_arrive 43 = .ok (.iaload, 1) := by decide +kernel
theorem d_M_arrive_44 : decode b_M_arrive 44 = .ok (.ifCond .ne 26, 3) := by decide +kernel
theorem d_M_arrive_47 : decode b_M_arrive 47 = .ok (.aload_n 0, 1) := by decide +kernel
theorem d_M_arrive_48 : decode b_M_arrive 48 = .ok (.getfield 20, 3) := by decide +kernel
theorem d_M_arrive_51 : decode b_M_arrive 51 = .ok (.iload_n 1, 1) := by decide +kernel
theorem d_M_arrive_52 : decode b_M_arrive 52 = .ok (.iaload, 1) := by decide +kernel
theorem d_M_arrive_53 : decode b_M_arrive 53 = .ok (.aload_n 0, 1) := by decide +kernel
theorem d_M_arrive_54 : decode b_M_arrive 54 = .ok (.getfield 17, 3) := by decide +kernel
theorem d_M_arrive_57 : decode b_M_arrive 57 = .ok (.iload_n 1, 1) := by decide +kernel
theorem d_M_arrive_58 : decode b_M_arrive 58 = .ok (.iaload, 1) := by decide +kernel
theorem d_M_arrive_59 : decode b_M_arrive 59 = .ok (.if_icmp .lt 11, 3) := by decide +kernel
theorem d_M_arrive_62 : decode b_M_arrive 62 = .ok (.aload_n 0, 1) := by decide +kernel
theorem d_M_arrive_63 : decode b_M_arrive 63 = .ok (.iload_n 2, 1) := by decide +kernel
theorem d_M_arrive_64 : decode b_M_arrive 64 = .ok (.invokevirtual 101, 3) := by decide +kernel
theorem d_M_arrive_67 : decode b_M_arrive 67 = .ok (.ifCond .eq 7, 3) := by decide +kernel
theorem d_M_arrive_70 : decode b_M_arrive 70 = .ok (.iconst 3, 1) := by decide +kernel
theorem d_M_arrive_71 : decode b_M_arrive 71 = .ok (.goto 4, 3) := by decide +kernel
theorem d_M_arrive_74 : decode b_M_arrive 74 = .ok (.iconst 0, 1) := by decide +kernel
theorem d_M_arrive_75 : decode b_M_arrive 75 = .ok (.putfield 83, 3) := by decide +kernel
theorem d_M_arrive_78 : decode b_M_arrive 78 = .ok (.aload_n 0, 1) := by decide +kernel
theorem d_M_arrive_79 : decode b_M_arrive 79 = .ok (.getfield 83, 3) := by decide +kernel
theorem d_M_arrive_82 : decode b_M_arrive 82 = .ok (.ifCond .le 5, 3) := by decide +kernel
theorem d_M_arrive_85 : decode b_M_arrive 85 = .ok (.iconst 0, 1) := by decide +kernel
theorem d_M_arrive_86 : decode b_M_arrive 86 = .ok (.ireturn, 1) := by decide +kernel
theorem d_M_arrive_87 : decode b_M_arrive 87 = .ok (.aload_n 0, 1) := by decide +kernel
theorem d_M_arrive_88 : decode b_M_arrive 88 = .ok (.getfield 26, 3) := by decide +kernel
theorem d_M_arrive_91 : decode b_M_arrive 91 = .ok (.iload_n 1, 1) := by decide +kernel
theorem d_M_arrive_92 : decode b_M_arrive 92 = .ok (.iload_n 2, 1) := by decide +kernel
theorem d_M_arrive_93 : decode b_M_arrive 93 = .ok (.iastore, 1) := by decide +kernel
theorem d_M_arrive_94 : decode b_M_arrive 94 = .ok (.aload_n 0, 1) := by decide +kernel
theorem d_M_arrive_95 : decode b_M_arrive 95 = .ok (.getfield 23, 3) := by decide +kernel
theorem d_M_arrive_98 : decode b_M_arrive 98 = .ok (.iload_n 1, 1) := by decide +kernel
theorem d_M_arrive_99 : decode b_M_arrive 99 = .ok (.iload_n 3, 1) := by decide +kernel
theorem d_M_arrive_100 : decode b_M_arrive 100 = .ok (.ifCond .eq 7, 3) := by decide +kernel
theorem d_M_arrive_103 : decode b_M_arrive 103 = .ok (.iconst 1, 1) := by decide +kernel
theorem d_M_arrive_104 : decode b_M_arrive 104 = .ok (.goto 4, 3) := by decide +kernel
theorem d_M_arrive_107 : decode b_M_arrive 107 = .ok (.iconst 2, 1) := by decide +kernel
theorem d_M_arrive_108 : decode b_M_arrive 108 = .ok (.iastore, 1) := by decide +kernel
theorem d_M_arrive_109 : decode b_M_arrive 109 = .ok (.aload_n 0, 1) := by decide +kernel
theorem d_M_arrive_110 : decode b_M_arrive 110 = .ok (.getfield 23, 3) := by decide +kernel
theorem d_M_arrive_113 : decode b_M_arrive 113 = .ok (.iload_n 1, 1) := by decide +kernel
theorem d_M_arrive_114 : decode b_M_arrive 114 = .ok (.iaload, 1) := by decide +kernel
theorem d_M_arrive_115 : decode b_M_arrive 115 = .ok (.ireturn, 1) := by decide +kernel
theorem d_M_isTaken_0 : decode b_M_isTaken 0 = .ok (.iconst 1, 1) := by decide +kernel
theorem d_M_isTaken_1 : decode b_M_isTaken 1 = .ok (.istore_n 2, 1) := by decide +kernel
theorem d_M_isTaken_2 : decode b_M_isTaken 2 = .ok (.iload_n 2, 1) := by decide +kernel
theorem d_M_isTaken_3 : decode b_M_isTaken 3 = .ok (.aload_n 0, 1) := by decide +kernel
theorem d_M_isTaken_4 : decode b_M_isTaken 4 = .ok (.getfield 87, 3) := by decide +kernel
theorem d_M_isTaken_7 : decode b_M_isTaken 7 = .ok (.if_icmp .gt 41, 3) := by decide +kernel
theorem d_M_isTaken_10 : decode b_M_isTaken 10 = .ok (.aload_n 0, 1) := by decide +kernel
theorem d_M_isTaken_11 : decode b_M_isTaken 11 = .ok (.getfield 26, 3) := by decide +kernel
theorem d_M_isTaken_14 : decode b_M_isTaken 14 = .ok (.iload_n 2, 1) := by decide +kernel
theorem d_M_isTaken_15 : decode b_M_isTaken 15 = .ok (.iaload, 1) := by decide +kernel
theorem d_M_isTaken_16 : decode b_M_isTaken 16 = .ok (.iload_n 1, 1) := by decide +kernel
theorem d_M_isTaken_17 : decode b_M_isTaken 17 = .ok (.if_icmp .ne 25, 3) := by decide +kernel
theorem d_M_isTaken_20 : decode b_M_isTaken 20 = .ok (.aload_n 0, 1) := by decide +kernel
theorem d_M_isTaken_21 : decode b_M_isTaken 21 = .ok (.getfield 23, 3) := by decide +kernel
theorem d_M_isTaken_24 : decode b_M_isTaken 24 = .ok (.iload_n 2, 1) := by decide +kernel
theorem d_M_isTaken_25 : decode b_M_isTaken 25 = .ok (.iaload, 1) := by decide +kernel
theorem d_M_isTaken_26 : decode b_M_isTaken 26 = .ok (.iconst 1, 1) := by decide +kernel
theorem d_M_isTaken_27 : decode b_M_isTaken 27 = .ok (.if_icmp .eq 13, 3) := by decide +kernel
theorem d_M_isTaken_30 : decode b_M_isTaken 30 = .ok (.aload_n 0, 1) := by decide +kernel
theorem d_M_isTaken_31 : decode b_M_isTaken 31 = .ok (.getfield 23, 3) := by decide +kernel
theorem d_M_isTaken_34 : decode b_M_isTaken 34 = .ok (.iload_n 2, 1) := by decide +kernel
theorem d_M_isTaken_35 : decode b_M_isTaken 35 = .ok (.iaload, 1) := by decide +kernel
theorem d_M_isTaken_36 : decode b_M_isTaken 36 = .ok (.iconst 2, 1) := by decide +kernel
theorem d_M_isTaken_37 : decode b_M_isTaken 37 = .ok (.if_icmp .ne 5, 3) := by decide +kernel
theorem d_M_isTaken_40 : decode b_M_isTaken 40 = .ok (.iconst 1, 1) := by decide +kernel
theorem d_M_isTaken_41 : decode b_M_isTaken 41 = .ok (.ireturn, 1) := by decide +kernel
theorem d_M_isTaken_42 : decode b_M_isTaken 42 = .ok (.iinc 2 1, 3) := by decide +kernel
theorem d_M_isTaken_45 : decode b_M_isTaken 45 = .ok (.goto (-43), 3) := by decide +kernel
theorem d_M_isTaken_48 : decode b_M_isTaken 48 = .ok (.iconst 0, 1) := by decide +kernel
theorem d_M_isTaken_49 : decode b_M_isTaken 49 = .ok (.ireturn, 1) := by decide +kernel
theorem d_M_accept_0 : decode b_M_accept 0 = .ok (.aload_n 0, 1) := by decide +kernel
theorem d_M_accept_1 : decode b_M_accept 1 = .ok (.aload_n 0, 1) := by decide +kernel
theorem d_M_accept_2 : decode b_M_accept 2 = .ok (.iload_n 1, 1) := by decide +kernel
theorem d_M_accept_3 : decode b_M_accept 3 = .ok (.invokevirtual 94, 3) := by decide +kernel
theorem d_M_accept_6 : decode b_M_accept 6 = .ok (.ifCond .ne 7, 3) := by decide +kernel
theorem d_M_accept_9 : decode b_M_accept 9 = .ok (.iconst 1, 1) := by decide +kernel
theorem d_M_accept_10 : decode b_M_accept 10 = .ok (.goto 15, 3) := by decide +kernel
theorem d_M_accept_13 : decode b_M_accept 13 = .ok (.iload_n 2, 1) := by decide +kernel
theorem d_M_accept_14 : decode b_M_accept 14 = .ok (.invokestatic 104, 3) := by decide +kernel
theorem d_M_accept_17 : decode b_M_accept 17 = .ok (.ifCond .ne 7, 3) := by decide +kernel
theorem d_M_accept_20 : decode b_M_accept 20 = .ok (.iconst 2, 1) := by decide +kernel
theorem d_M_accept_21 : decode b_M_accept 21 = .ok (.goto 4, 3) := by decide +kernel
theorem d_M_accept_24 : decode b_M_accept 24 = .ok (.iconst 0, 1) := by decide +kernel
theorem d_M_accept_25 : decode b_M_accept 25 = .ok (.putfield 83, 3) := by decide +kernel
theorem d_M_accept_28 : decode b_M_accept 28 = .ok (.aload_n 0, 1) := by decide +kernel
theorem d_M_accept_29 : decode b_M_accept 29 = .ok (.getfield 83, 3) := by decide +kernel
theorem d_M_accept_32 : decode b_M_accept 32 = .ok (.ifCond .ne 31, 3) := by decide +kernel
theorem d_M_accept_35 : decode b_M_accept 35 = .ok (.aload_n 0, 1) := by decide +kernel
theorem d_M_accept_36 : decode b_M_accept 36 = .ok (.aload_n 0, 1) := by decide +kernel
theorem d_M_accept_37 : decode b_M_accept 37 = .ok (.getfield 23, 3) := by decide +kernel
theorem d_M_accept_40 : decode b_M_accept 40 = .ok (.iload_n 1, 1) := by decide +kernel
theorem d_M_accept_41 : decode b_M_accept 41 = .ok (.iaload, 1) := by decide +kernel
theorem d_M_accept_42 : decode b_M_accept 42 = .ok (.iconst 2, 1) := by decide +kernel
theorem d_M_accept_43 : decode b_M_accept 43 = .ok (.if_icmp .ne 12, 3) := by decide +kernel
theorem d_M_accept_46 : decode b_M_accept 46 = .ok (.aload_n 0, 1) := by decide +kernel
theorem d_M_accept_47 : decode b_M_accept 47 = .ok (.getfield 7, 3) := by decide +kernel
theorem d_M_accept_50 : decode b_M_accept 50 = .ok (.iload_n 2, 1) := by decide +kernel
theorem d_M_accept_51 : decode b_M_accept 51 = .ok (.baload, 1) := by decide +kernel
theorem d_M_accept_52 : decode b_M_accept 52 = .ok (.ifCond .ne 7, 3) := by decide +kernel
theorem d_M_accept_55 : decode b_M_accept 55 = .ok (.iconst 3, 1) := by decide +kernel
theorem d_M_accept_56 : decode b_M_accept 56 = .ok (.goto 4, 3) := by decide +kernel
theorem d_M_accept_59 : decode b_M_accept 59 = .ok (.iconst 0, 1) := by decide +kernel
theorem d_M_accept_60 : decode b_M_accept 60 = .ok (.putfield 83, 3) := by decide +kernel
theorem d_M_accept_63 : decode b_M_accept 63 = .ok (.aload_n 0, 1) := by decide +kernel
theorem d_M_accept_64 : decode b_M_accept 64 = .ok (.getfield 83, 3) := by decide +kernel
theorem d_M_accept_67 : decode b_M_accept 67 = .ok (.ifCond .ne 10, 3) := by decide +kernel
theorem d_M_accept_70 : decode b_M_accept 70 = .ok (.aload_n 0, 1) := by decide +kernel
theorem d_M_accept_71 : decode b_M_accept 71 = .ok (.getfield 23, 3) := by decide +kernel
theorem d_M_accept_74 : decode b_M_accept 74 = .ok (.iload_n 1, 1) := by decide +kernel
theorem d_M_accept_75 : decode b_M_accept 75 = .ok (.iconst 1, 1) := by decide +kernel
theorem d_M_accept_76 : decode b_M_accept 76 = .ok (.iastore, 1) := by decide +kernel
theorem d_M_accept_77 : decode b_M_accept 77 = .ok (.return_, 1) := by decide +kernel
theorem d_M_isPerson_0 : decode b_M_isPerson 0 = .ok (.iload_n 0, 1) := by decide +kernel
theorem d_M_isPerson_1 : decode b_M_isPerson 1 = .ok (.iconst 0, 1) := by decide +kernel
theorem d_M_isPerson_2 : decode b_M_isPerson 2 = .ok (.bipush 7, 2) := by decide +kernel
theorem d_M_isPerson_4 : decode b_M_isPerson 4 = .ok (.invokestatic 90, 3) := by decide +kernel
theorem d_M_isPerson_7 : decode b_M_isPerson 7 = .ok (.ireturn, 1) := by decide +kernel
theorem d_M_right_0 : decode b_M_right 0 = .ok (.aload_n 0, 1) := by decide +kernel
theorem d_M_right_1 : decode b_M_right 1 = .ok (.iload_n 1, 1) := by decide +kernel
theorem d_M_right_2 : decode b_M_right 2 = .ok (.invokestatic 104, 3) := by decide +kernel
theorem d_M_right_5 : decode b_M_right 5 = .ok (.ifCond .eq 7, 3) := by decide +kernel
theorem d_M_right_8 : decode b_M_right 8 = .ok (.iconst 0, 1) := by decide +kernel
theorem d_M_right_9 : decode b_M_right 9 = .ok (.goto 4, 3) := by decide +kernel
theorem d_M_right_12 : decode b_M_right 12 = .ok (.iconst 1, 1) := by decide +kernel
theorem d_M_right_13 : decode b_M_right 13 = .ok (.putfield 83, 3) := by decide +kernel
theorem d_M_right_16 : decode b_M_right 16 = .ok (.aload_n 0, 1) := by decide +kernel
theorem d_M_right_17 : decode b_M_right 17 = .ok (.getfield 83, 3) := by decide +kernel
theorem d_M_right_20 : decode b_M_right 20 = .ok (.ifCond .ne 10, 3) := by decide +kernel
theorem d_M_right_23 : decode b_M_right 23 = .ok (.aload_n 0, 1) := by decide +kernel
theorem d_M_right_24 : decode b_M_right 24 = .ok (.getfield 7, 3) := by decide +kernel
theorem d_M_right_27 : decode b_M_right 27 = .ok (.iload_n 1, 1) := by decide +kernel
theorem d_M_right_28 : decode b_M_right 28 = .ok (.iload_n 2, 1) := by decide +kernel
theorem d_M_right_29 : decode b_M_right 29 = .ok (.bastore, 1) := by decide +kernel
theorem d_M_right_30 : decode b_M_right 30 = .ok (.return_, 1) := by decide +kernel
theorem d_M_tolerance_0 : decode b_M_tolerance 0 = .ok (.aload_n 0, 1) := by decide +kernel
theorem d_M_tolerance_1 : decode b_M_tolerance 1 = .ok (.aload_n 0, 1) := by decide +kernel
theorem d_M_tolerance_2 : decode b_M_tolerance 2 = .ok (.iload_n 1, 1) := by decide +kernel
theorem d_M_tolerance_3 : decode b_M_tolerance 3 = .ok (.iload_n 2, 1) := by decide +kernel
theorem d_M_tolerance_4 : decode b_M_tolerance 4 = .ok (.invokevirtual 107, 3) := by decide +kernel
theorem d_M_tolerance_7 : decode b_M_tolerance 7 = .ok (.ifCond .ne 7, 3) := by decide +kernel
theorem d_M_tolerance_10 : decode b_M_tolerance 10 = .ok (.iconst 1, 1) := by decide +kernel
theorem d_M_tolerance_11 : decode b_M_tolerance 11 = .ok (.goto 18, 3) := by decide +kernel
theorem d_M_tolerance_14 : decode b_M_tolerance 14 = .ok (.iload_n 3, 1) := by decide +kernel
theorem d_M_tolerance_15 : decode b_M_tolerance 15 = .ok (.iconst 0, 1) := by decide +kernel
theorem d_M_tolerance_16 : decode b_M_tolerance 16 = .ok (.bipush 50, 2) := by decide +kernel
theorem d_M_tolerance_18 : decode b_M_tolerance 18 = .ok (.invokestatic 90, 3) := by decide +kernel
theorem d_M_tolerance_21 : decode b_M_tolerance 21 = .ok (.ifCond .ne 7, 3) := by decide +kernel
theorem d_M_tolerance_24 : decode b_M_tolerance 24 = .ok (.iconst 2, 1) := by decide +kernel
theorem d_M_tolerance_25 : decode b_M_tolerance 25 = .ok (.goto 4, 3) := by decide +kernel
theorem d_M_tolerance_28 : decode b_M_tolerance 28 = .ok (.iconst 0, 1) := by decide +kernel
theorem d_M_tolerance_29 : decode b_M_tolerance 29 = .ok (.putfield 83, 3) := by decide +kernel
theorem d_M_tolerance_32 : decode b_M_tolerance 32 = .ok (.aload_n 0, 1) := by decide +kernel
theorem d_M_tolerance_33 : decode b_M_tolerance 33 = .ok (.getfield 83, 3) := by decide +kernel
theorem d_M_tolerance_36 : decode b_M_tolerance 36 = .ok (.ifCond .ne 25, 3) := by decide +kernel
theorem d_M_tolerance_39 : decode b_M_tolerance 39 = .ok (.aload_n 0, 1) := by decide +kernel
theorem d_M_tolerance_40 : decode b_M_tolerance 40 = .ok (.aload_n 0, 1) := by decide +kernel
theorem d_M_tolerance_41 : decode b_M_tolerance 41 = .ok (.getfield 50, 3) := by decide +kernel
theorem d_M_tolerance_44 : decode b_M_tolerance 44 = .ok (.iconst 4, 1) := by decide +kernel
theorem d_M_tolerance_45 : decode b_M_tolerance 45 = .ok (.iload_n 1, 1) := by decide +kernel
theorem d_M_tolerance_46 : decode b_M_tolerance 46 = .ok (.imul, 1) := by decide +kernel
theorem d_M_tolerance_47 : decode b_M_tolerance 47 = .ok (.iload_n 2, 1) := by decide +kernel
theorem d_M_tolerance_48 : decode b_M_tolerance 48 = .ok (.iadd, 1) := by decide +kernel
theorem d_M_tolerance_49 : decode b_M_tolerance 49 = .ok (.baload, 1) := by decide +kernel
theorem d_M_tolerance_50 : decode b_M_tolerance 50 = .ok (.ifCond .eq 7, 3) := by decide +kernel
theorem d_M_tolerance_53 : decode b_M_tolerance 53 = .ok (.iconst 3, 1) := by decide +kernel
theorem d_M_tolerance_54 : decode b_M_tolerance 54 = .ok (.goto 4, 3) := by decide +kernel
theorem d_M_tolerance_57 : decode b_M_tolerance 57 = .ok (.iconst 0, 1) := by decide +kernel
theorem d_M_tolerance_58 : decode b_M_tolerance 58 = .ok (.putfield 83, 3) := by decide +kernel
theorem d_M_tolerance_61 : decode b_M_tolerance 61 = .ok (.aload_n 0, 1) := by decide +kernel
theorem d_M_tolerance_62 : decode b_M_tolerance 62 = .ok (.getfield 83, 3) := by decide +kernel
theorem d_M_tolerance_65 : decode b_M_tolerance 65 = .ok (.ifCond .ne 14, 3) := by decide +kernel
theorem d_M_tolerance_68 : decode b_M_tolerance 68 = .ok (.aload_n 0, 1) := by decide +kernel
theorem d_M_tolerance_69 : decode b_M_tolerance 69 = .ok (.getfield 35, 3) := by decide +kernel
theorem d_M_tolerance_72 : decode b_M_tolerance 72 = .ok (.iconst 4, 1) := by decide +kernel
theorem d_M_tolerance_73 : decode b_M_tolerance 73 = .ok (.iload_n 1, 1) := by decide +kernel
theorem d_M_tolerance_74 : decode b_M_tolerance 74 = .ok (.imul, 1) := by decide +kernel
theorem d_M_tolerance_75 : decode b_M_tolerance 75 = .ok (.iload_n 2, 1) := by decide +kernel
theorem d_M_tolerance_76 : decode b_M_tolerance 76 = .ok (.iadd, 1) := by decide +kernel
theorem d_M_tolerance_77 : decode b_M_tolerance 77 = .ok (.iload_n 3, 1) := by decide +kernel
theorem d_M_tolerance_78 : decode b_M_tolerance 78 = .ok (.iastore, 1) := by decide +kernel
theorem d_M_tolerance_79 : decode b_M_tolerance 79 = .ok (.return_, 1) := by decide +kernel
theorem d_M_isLine_0 : decode b_M_isLine 0 = .ok (.aload_n 0, 1) := by decide +kernel
theorem d_M_isLine_1 : decode b_M_isLine 1 = .ok (.iload_n 1, 1) := by decide +kernel
theorem d_M_isLine_2 : decode b_M_isLine 2 = .ok (.invokevirtual 94, 3) := by decide +kernel
theorem d_M_isLine_5 : decode b_M_isLine 5 = .ok (.ifCond .eq 39, 3) := by decide +kernel
theorem d_M_isLine_8 : decode b_M_isLine 8 = .ok (.iload_n 2, 1) := by decide +kernel
theorem d_M_isLine_9 : decode b_M_isLine 9 = .ok (.iconst 0, 1) := by decide +kernel
theorem d_M_isLine_10 : decode b_M_isLine 10 = .ok (.aload_n 0, 1) := by decide +kernel
theorem d_M_isLine_11 : decode b_M_isLine 11 = .ok (.getfield 20, 3) := by decide +kernel
theorem d_M_isLine_14 : decode b_M_isLine 14 = .ok (.iload_n 1, 1) := by decide +kernel
theorem d_M_isLine_15 : decode b_M_isLine 15 = .ok (.iconst 1, 1) := by decide +kernel
theorem d_M_isLine_16 : decode b_M_isLine 16 = .ok (.aload_n 0, 1) := by decide +kernel
theorem d_M_isLine_17 : decode b_M_isLine 17 = .ok (.getfield 87, 3) := by decide +kernel
theorem d_M_isLine_20 : decode b_M_isLine 20 = .ok (.invokestatic 90, 3) := by decide +kernel
theorem d_M_isLine_23 : decode b_M_isLine 23 = .ok (.ifCond .eq 7, 3) := by decide +kernel
theorem d_M_isLine_26 : decode b_M_isLine 26 = .ok (.iload_n 1, 1) := by decide +kernel
theorem d_M_isLine_27 : decode b_M_isLine 27 = .ok (.goto 4, 3) := by decide +kernel
theorem d_M_isLine_30 : decode b_M_isLine 30 = .ok (.iconst 0, 1) := by decide +kernel
theorem d_M_isLine_31 : decode b_M_isLine 31 = .ok (.iaload, 1) := by decide +kernel
theorem d_M_isLine_32 : decode b_M_isLine 32 = .ok (.iconst 1, 1) := by decide +kernel
theorem d_M_isLine_33 : decode b_M_isLine 33 = .ok (.isub, 1) := by decide +kernel
theorem d_M_isLine_34 : decode b_M_isLine 34 = .ok (.invokestatic 90, 3) := by decide +kernel
theorem d_M_isLine_37 : decode b_M_isLine 37 = .ok (.ifCond .eq 7, 3) := by decide +kernel
theorem d_M_isLine_40 : decode b_M_isLine 40 = .ok (.iconst 1, 1) := by decide +kernel
theorem d_M_isLine_41 : decode b_M_isLine 41 = .ok (.goto 4, 3) := by decide +kernel
theorem d_M_isLine_44 : decode b_M_isLine 44 = .ok (.iconst 0, 1) := by decide +kernel
theorem d_M_isLine_45 : decode b_M_isLine 45 = .ok (.ireturn, 1) := by decide +kernel
theorem d_M_wanted_0 : decode b_M_wanted 0 = .ok (.aload_n 0, 1) := by decide +kernel
theorem d_M_wanted_1 : decode b_M_wanted 1 = .ok (.aload_n 0, 1) := by decide +kernel
theorem d_M_wanted_2 : decode b_M_wanted 2 = .ok (.iload_n 1, 1) := by decide +kernel
theorem d_M_wanted_3 : decode b_M_wanted 3 = .ok (.iload_n 2, 1) := by decide +kernel
theorem d_M_wanted_4 : decode b_M_wanted 4 = .ok (.invokevirtual 107, 3) := by decide +kernel
theorem d_M_wanted_7 : decode b_M_wanted 7 = .ok (.ifCond .ne 7, 3) := by decide +kernel
theorem d_M_wanted_10 : decode b_M_wanted 10 = .ok (.iconst 1, 1) := by decide +kernel
theorem d_M_wanted_11 : decode b_M_wanted 11 = .ok (.goto 17, 3) := by decide +kernel
theorem d_M_wanted_14 : decode b_M_wanted 14 = .ok (.iload_n 3, 1) := by decide +kernel
theorem d_M_wanted_15 : decode b_M_wanted 15 = .ok (.iconst 0, 1) := by decide +kernel
theorem d_M_wanted_16 : decode b_M_wanted 16 = .ok (.iconst 5, 1) := by decide +kernel
theorem d_M_wanted_17 : decode b_M_wanted 17 = .ok (.invokestatic 90, 3) := by decide +kernel
theorem d_M_wanted_20 : decode b_M_wanted 20 = .ok (.ifCond .ne 7, 3) := by decide +kernel
theorem d_M_wanted_23 : decode b_M_wanted 23 = .ok (.iconst 2, 1) := by decide +kernel
theorem d_M_wanted_24 : decode b_M_wanted 24 = .ok (.goto 4, 3) := by decide +kernel
theorem d_M_wanted_27 : decode b_M_wanted 27 = .ok (.iconst 0, 1) := by decide +kernel
theorem d_M_wanted_28 : decode b_M_wanted 28 = .ok (.putfield 83, 3) := by decide +kernel
theorem d_M_wanted_31 : decode b_M_wanted 31 = .ok (.aload_n 0, 1) := by decide +kernel
theorem d_M_wanted_32 : decode b_M_wanted 32 = .ok (.getfield 83, 3) := by decide +kernel
theorem d_M_wanted_35 : decode b_M_wanted 35 = .ok (.ifCond .ne 25, 3) := by decide +kernel
theorem d_M_wanted_38 : decode b_M_wanted 38 = .ok (.aload_n 0, 1) := by decide +kernel
theorem d_M_wanted_39 : decode b_M_wanted 39 = .ok (.aload_n 0, 1) := by decide +kernel
theorem d_M_wanted_40 : decode b_M_wanted 40 = .ok (.getfield 50, 3) := by decide +kernel
theorem d_M_wanted_43 : decode b_M_wanted 43 = .ok (.iconst 4, 1) := by decide +kernel
theorem d_M_wanted_44 : decode b_M_wanted 44 = .ok (.iload_n 1, 1) := by decide +kernel
theorem d_M_wanted_45 : decode b_M_wanted 45 = .ok (.imul, 1) := by decide +kernel
theorem d_M_wanted_46 : decode b_M_wanted 46 = .ok (.iload_n 2, 1) := by decide +kernel
theorem d_M_wanted_47 : decode b_M_wanted 47 = .ok (.iadd, 1) := by decide +kernel
theorem d_M_wanted_48 : decode b_M_wanted 48 = .ok (.baload, 1) := by decide +kernel
theorem d_M_wanted_49 : decode b_M_wanted 49 = .ok (.ifCond .eq 7, 3) := by decide +kernel
theorem d_M_wanted_52 : decode b_M_wanted 52 = .ok (.iconst 3, 1) := by decide +kernel
theorem d_M_wanted_53 : decode b_M_wanted 53 = .ok (.goto 4, 3) := by decide +kernel
theorem d_M_wanted_56 : decode b_M_wanted 56 = .ok (.iconst 0, 1) := by decide +kernel
theorem d_M_wanted_57 : decode b_M_wanted 57 = .ok (.putfield 83, 3) := by decide +kernel
theorem d_M_wanted_60 : decode b_M_wanted 60 = .ok (.aload_n 0, 1) := by decide +kernel
theorem d_M_wanted_61 : decode b_M_wanted 61 = .ok (.getfield 83, 3) := by decide +kernel
theorem d_M_wanted_64 : decode b_M_wanted 64 = .ok (.ifCond .ne 14, 3) := by decide +kernel
theorem d_M_wanted_67 : decode b_M_wanted 67 = .ok (.aload_n 0, 1) := by decide +kernel
theorem d_M_wanted_68 : decode b_M_wanted 68 = .ok (.getfield 41, 3) := by decide +kernel
theorem d_M_wanted_71 : decode b_M_wanted 71 = .ok (.iconst 4, 1) := by decide +kernel
theorem d_M_wanted_72 : decode b_M_wanted 72 = .ok (.iload_n 1, 1) := by decide +kernel
theorem d_M_wanted_73 : decode b_M_wanted 73 = .ok (.imul, 1) := by decide +kernel
theorem d_M_wanted_74 : decode b_M_wanted 74 = .ok (.iload_n 2, 1) := by decide +kernel
theorem d_M_wanted_75 : decode b_M_wanted 75 = .ok (.iadd, 1) := by decide +kernel
theorem d_M_wanted_76 : decode b_M_wanted 76 = .ok (.iload_n 3, 1) := by decide +kernel
theorem d_M_wanted_77 : decode b_M_wanted 77 = .ok (.iastore, 1) := by decide +kernel
theorem d_M_wanted_78 : decode b_M_wanted 78 = .ok (.return_, 1) := by decide +kernel
theorem d_M_count_0 : decode b_M_count 0 = .ok (.aload_n 0, 1) := by decide +kernel
theorem d_M_count_1 : decode b_M_count 1 = .ok (.aload_n 0, 1) := by decide +kernel
theorem d_M_count_2 : decode b_M_count 2 = .ok (.iload_n 1, 1) := by decide +kernel
theorem d_M_count_3 : decode b_M_count 3 = .ok (.iload_n 2, 1) := by decide +kernel
theorem d_M_count_4 : decode b_M_count 4 = .ok (.invokevirtual 107, 3) := by decide +kernel
theorem d_M_count_7 : decode b_M_count 7 = .ok (.ifCond .ne 7, 3) := by decide +kernel
theorem d_M_count_10 : decode b_M_count 10 = .ok (.iconst 1, 1) := by decide +kernel
theorem d_M_count_11 : decode b_M_count 11 = .ok (.goto 38, 3) := by decide +kernel
theorem d_M_count_14 : decode b_M_count 14 = .ok (.iload_n 3, 1) := by decide +kernel
theorem d_M_count_15 : decode b_M_count 15 = .ok (.iconst 1, 1) := by decide +kernel
theorem d_M_count_16 : decode b_M_count 16 = .ok (.sipush 400, 3) := by decide +kernel
theorem d_M_count_19 : decode b_M_count 19 = .ok (.invokestatic 90, 3) := by decide +kernel
theorem d_M_count_22 : decode b_M_count 22 = .ok (.ifCond .eq 22, 3) := by decide +kernel
theorem d_M_count_25 : decode b_M_count 25 = .ok (.iload 4, 2) := by decide +kernel
theorem d_M_count_27 : decode b_M_count 27 = .ok (.iconst 0, 1) := by decide +kernel
theorem d_M_count_28 : decode b_M_count 28 = .ok (.bipush 99, 2) := by decide +kernel
theorem d_M_count_30 : decode b_M_count 30 = .ok (.invokestatic 90, 3) := by decide +kernel
theorem d_M_count_33 : decode b_M_count 33 = .ok (.ifCond .eq 11, 3) := by decide +kernel
theorem d_M_count_36 : decode b_M_count 36 = .ok (.iload 5, 2) := by decide +kernel
theorem d_M_count_38 : decode b_M_count 38 = .ok (.invokestatic 104, 3) := by decide +kernel
theorem d_M_count_41 : decode b_M_count 41 = .ok (.ifCond .ne 7, 3) := by decide +kernel
theorem d_M_count_44 : decode b_M_count 44 = .ok (.iconst 2, 1) := by decide +kernel
theorem d_M_count_45 : decode b_M_count 45 = .ok (.goto 4, 3) := by decide +kernel
theorem d_M_count_48 : decode b_M_count 48 = .ok (.iconst 0, 1) := by decide +kernel
theorem d_M_count_49 : decode b_M_count 49 = .ok (.putfield 83, 3) := by decide +kernel
theorem d_M_count_52 : decode b_M_count 52 = .ok (.aload_n 0, 1) := by decide +kernel
theorem d_M_count_53 : decode b_M_count 53 = .ok (.getfield 83, 3) := by decide +kernel
theorem d_M_count_56 : decode b_M_count 56 = .ok (.ifCond .le 5, 3) := by decide +kernel
theorem d_M_count_59 : decode b_M_count 59 = .ok (.iconst 0, 1) := by decide +kernel
theorem d_M_count_60 : decode b_M_count 60 = .ok (.ireturn, 1) := by decide +kernel
theorem d_M_count_61 : decode b_M_count 61 = .ok (.iconst 4, 1) := by decide +kernel
theorem d_M_count_62 : decode b_M_count 62 = .ok (.iload_n 1, 1) := by decide +kernel
theorem d_M_count_63 : decode b_M_count 63 = .ok (.imul, 1) := by decide +kernel
theorem d_M_count_64 : decode b_M_count 64 = .ok (.iload_n 2, 1) := by decide +kernel
theorem d_M_count_65 : decode b_M_count 65 = .ok (.iadd, 1) := by decide +kernel
theorem d_M_count_66 : decode b_M_count 66 = .ok (.istore 6, 2) := by decide +kernel
theorem d_M_count_68 : decode b_M_count 68 = .ok (.aload_n 0, 1) := by decide +kernel
theorem d_M_count_69 : decode b_M_count 69 = .ok (.getfield 23, 3) := by decide +kernel
theorem d_M_count_72 : decode b_M_count 72 = .ok (.iload_n 1, 1) := by decide +kernel
theorem d_M_count_73 : decode b_M_count 73 = .ok (.iaload, 1) := by decide +kernel
theorem d_M_count_74 : decode b_M_count 74 = .ok (.iconst 1, 1) := by decide +kernel
theorem d_M_count_75 : decode b_M_count 75 = .ok (.if_icmp .eq 5, 3) := by decide +kernel
theorem d_M_count_78 : decode b_M_count 78 = .ok (.iconst (-1), 1) := by decide +kernel
theorem d_M_count_79 : decode b_M_count 79 = .ok (.ireturn, 1) := by decide +kernel
theorem d_M_count_80 : decode b_M_count 80 = .ok (.aload_n 0, 1) := by decide +kernel
theorem d_M_count_81 : decode b_M_count 81 = .ok (.getfield 50, 3) := by decide +kernel
theorem d_M_count_84 : decode b_M_count 84 = .ok (.iload 6, 2) := by decide +kernel
theorem d_M_count_86 : decode b_M_count 86 = .ok (.baload, 1) := by decide +kernel
theorem d_M_count_87 : decode b_M_count 87 = .ok (.ifCond .eq 6, 3) := by decide +kernel
theorem d_M_count_90 : decode b_M_count 90 = .ok (.bipush (-2), 2) := by decide +kernel
theorem d_M_count_92 : decode b_M_count 92 = .ok (.ireturn, 1) := by decide +kernel
theorem d_M_count_93 : decode b_M_count 93 = .ok (.aload_n 0, 1) := by decide +kernel
theorem d_M_count_94 : decode b_M_count 94 = .ok (.getfield 53, 3) := by decide +kernel
theorem d_M_count_97 : decode b_M_count 97 = .ok (.bipush 8, 2) := by decide +kernel
theorem d_M_count_99 : decode b_M_count 99 = .ok (.iload 6, 2) := by decide +kernel
theorem d_M_count_101 : decode b_M_count 101 = .ok (.imul, 1) := by decide +kernel
theorem d_M_count_102 : decode b_M_count 102 = .ok (.iload 5, 2) := by decide +kernel
theorem d_M_count_104 : decode b_M_count 104 = .ok (.iadd, 1) := by decide +kernel
theorem d_M_count_105 : decode b_M_count 105 = .ok (.baload, 1) := by decide +kernel
theorem d_M_count_106 : decode b_M_count 106 = .ok (.ifCond .eq 6, 3) := by decide +kernel
theorem d_M_count_109 : decode b_M_count 109 = .ok (.bipush (-3), 2) := by decide +kernel
theorem d_M_count_111 : decode b_M_count 111 = .ok (.ireturn, 1) := by decide +kernel
theorem d_M_count_112 : decode b_M_count 112 = .ok (.aload_n 0, 1) := by decide +kernel
theorem d_M_count_113 : decode b_M_count 113 = .ok (.getfield 38, 3) := by decide +kernel
theorem d_M_count_116 : decode b_M_count 116 = .ok (.iload 6, 2) := by decide +kernel
theorem d_M_count_118 : decode b_M_count 118 = .ok (.iaload, 1) := by decide +kernel
theorem d_M_count_119 : decode b_M_count 119 = .ok (.iload_n 3, 1) := by decide +kernel
theorem d_M_count_120 : decode b_M_count 120 = .ok (.iadd, 1) := by decide +kernel
theorem d_M_count_121 : decode b_M_count 121 = .ok (.aload_n 0, 1) := by decide +kernel
theorem d_M_count_122 : decode b_M_count 122 = .ok (.iload 6, 2) := by decide +kernel
theorem d_M_count_124 : decode b_M_count 124 = .ok (.invokevirtual 111, 3) := by decide +kernel
theorem d_M_count_127 : decode b_M_count 127 = .ok (.if_icmp .le 6, 3) := by decide +kernel
theorem d_M_count_130 : decode b_M_count 130 = .ok (.bipush (-4), 2) := by decide +kernel
theorem d_M_count_132 : decode b_M_count 132 = .ok (.ireturn, 1) := by decide +kernel
theorem d_M_count_133 : decode b_M_count 133 = .ok (.iload_n 3, 1) := by decide +kernel
theorem d_M_count_134 : decode b_M_count 134 = .ok (.bipush 50, 2) := by decide +kernel
theorem d_M_count_136 : decode b_M_count 136 = .ok (.iadd, 1) := by decide +kernel
theorem d_M_count_137 : decode b_M_count 137 = .ok (.iconst 1, 1) := by decide +kernel
theorem d_M_count_138 : decode b_M_count 138 = .ok (.isub, 1) := by decide +kernel
theorem d_M_count_139 : decode b_M_count 139 = .ok (.bipush 50, 2) := by decide +kernel
theorem d_M_count_141 : decode b_M_count 141 = .ok (.idiv, 1) := by decide +kernel
theorem d_M_count_142 : decode b_M_count 142 = .ok (.istore 7, 2) := by decide +kernel
theorem d_M_count_144 : decode b_M_count 144 = .ok (.aload_n 0, 1) := by decide +kernel
theorem d_M_count_145 : decode b_M_count 145 = .ok (.aload_n 0, 1) := by decide +kernel
theorem d_M_count_146 : decode b_M_count 146 = .ok (.getfield 98, 3) := by decide +kernel
theorem d_M_count_149 : decode b_M_count 149 = .ok (.iload 7, 2) := by decide +kernel
theorem d_M_count_151 : decode b_M_count 151 = .ok (.iadd, 1) := by decide +kernel
theorem d_M_count_152 : decode b_M_count 152 = .ok (.bipush 120, 2) := by decide +kernel
theorem d_M_count_154 : decode b_M_count 154 = .ok (.if_icmp .le 7, 3) := by decide +kernel
theorem d_M_count_157 : decode b_M_count 157 = .ok (.iconst 3, 1) := by decide +kernel
theorem d_M_count_158 : decode b_M_count 158 = .ok (.goto 4, 3) := by decide +kernel
theorem d_M_count_161 : decode b_M_count 161 = .ok (.iconst 0, 1) := by decide +kernel
theorem d_M_count_162 : decode b_M_count 162 = .ok (.putfield 83, 3) := by decide +kernel
theorem d_M_count_165 : decode b_M_count 165 = .ok (.aload_n 0, 1) := by decide +kernel
theorem d_M_count_166 : decode b_M_count 166 = .ok (.getfield 83, 3) := by decide +kernel
theorem d_M_count_169 : decode b_M_count 169 = .ok (.ifCond .le 5, 3) := by decide +kernel
theorem d_M_count_172 : decode b_M_count 172 = .ok (.iconst 0, 1) := by decide +kernel
theorem d_M_count_173 : decode b_M_count 173 = .ok (.ireturn, 1) := by decide +kernel
theorem d_M_count_174 : decode b_M_count 174 = .ok (.aload_n 0, 1) := by decide +kernel
theorem d_M_count_175 : decode b_M_count 175 = .ok (.getfield 53, 3) := by decide +kernel
theorem d_M_count_178 : decode b_M_count 178 = .ok (.bipush 8, 2) := by decide +kernel
theorem d_M_count_180 : decode b_M_count 180 = .ok (.iload 6, 2) := by decide +kernel
theorem d_M_count_182 : decode b_M_count 182 = .ok (.imul, 1) := by decide +kernel
theorem d_M_count_183 : decode b_M_count 183 = .ok (.iload 5, 2) := by decide +kernel
theorem d_M_count_185 : decode b_M_count 185 = .ok (.iadd, 1) := by decide +kernel
theorem d_M_count_186 : decode b_M_count 186 = .ok (.iconst 1, 1) := by decide +kernel
theorem d_M_count_187 : decode b_M_count 187 = .ok (.bastore, 1) := by decide +kernel
theorem d_M_count_188 : decode b_M_count 188 = .ok (.aload_n 0, 1) := by decide +kernel
theorem d_M_count_189 : decode b_M_count 189 = .ok (.getfield 38, 3) := by decide +kernel
theorem d_M_count_192 : decode b_M_count 192 = .ok (.iload 6, 2) := by decide +kernel
theorem d_M_count_194 : decode b_M_count 194 = .ok (.dup2, 1) := by decide +kernel
theorem d_M_count_195 : decode b_M_count 195 = .ok (.iaload, 1) := by decide +kernel
theorem d_M_count_196 : decode b_M_count 196 = .ok (.iload_n 3, 1) := by decide +kernel
theorem d_M_count_197 : decode b_M_count 197 = .ok (.iadd, 1) := by decide +kernel
theorem d_M_count_198 : decode b_M_count 198 = .ok (.iastore, 1) := by decide +kernel
theorem d_M_count_199 : decode b_M_count 199 = .ok (.iload_n 3, 1) := by decide +kernel
theorem d_M_count_200 : decode b_M_count 200 = .ok (.istore 8, 2) := by decide +kernel
theorem d_M_count_202 : decode b_M_count 202 = .ok (.iload 8, 2) := by decide +kernel
theorem d_M_count_204 : decode b_M_count 204 = .ok (.ifCond .le 98, 3) := by decide +kernel
theorem d_M_count_207 : decode b_M_count 207 = .ok (.aload_n 0, 1) := by decide +kernel
theorem d_M_count_208 : decode b_M_count 208 = .ok (.dup, 1) := by decide +kernel
theorem d_M_count_209 : decode b_M_count 209 = .ok (.getfield 98, 3) := by decide +kernel
theorem d_M_count_212 : decode b_M_count 212 = .ok (.iconst 1, 1) := by decide +kernel
theorem d_M_count_213 : decode b_M_count 213 = .ok (.iadd, 1) := by decide +kernel
theorem d_M_count_214 : decode b_M_count 214 = .ok (.putfield 98, 3) := by decide +kernel
theorem d_M_count_217 : decode b_M_count 217 = .ok (.aload_n 0, 1) := by decide +kernel
theorem d_M_count_218 : decode b_M_count 218 = .ok (.getfield 56, 3) := by decide +kernel
theorem d_M_count_221 : decode b_M_count 221 = .ok (.aload_n 0, 1) := by decide +kernel
theorem d_M_count_222 : decode b_M_count 222 = .ok (.getfield 98, 3) := by decide +kernel
theorem d_M_count_225 : decode b_M_count 225 = .ok (.iload 6, 2) := by decide +kernel
theorem d_M_count_227 : decode b_M_count 227 = .ok (.iastore, 1) := by decide +kernel
theorem d_M_count_228 : decode b_M_count 228 = .ok (.aload_n 0, 1) := by decide +kernel
theorem d_M_count_229 : decode b_M_count 229 = .ok (.getfield 59, 3) := by decide +kernel
theorem d_M_count_232 : decode b_M_count 232 = .ok (.aload_n 0, 1) := by decide +kernel
theorem d_M_count_233 : decode b_M_count 233 = .ok (.getfield 98, 3) := by decide +kernel
theorem d_M_count_236 : decode b_M_count 236 = .ok (.aload_n 0, 1) := by decide +kernel
theorem d_M_count_237 : decode b_M_count 237 = .ok (.getfield 47, 3) := by decide +kernel
theorem d_M_count_240 : decode b_M_count 240 = .ok (.iload 6, 2) := by decide +kernel
theorem d_M_count_242 : decode b_M_count 242 = .ok (.baload, 1) := by decide +kernel
theorem d_M_count_243 : decode b_M_count 243 = .ok (.ifCond .eq 7, 3) := by decide +kernel
theorem d_M_count_246 : decode b_M_count 246 = .ok (.iconst 2, 1) := by decide +kernel
theorem d_M_count_247 : decode b_M_count 247 = .ok (.goto 4, 3) := by decide +kernel
theorem d_M_count_250 : decode b_M_count 250 = .ok (.iconst 0, 1) := by decide +kernel
theorem d_M_count_251 : decode b_M_count 251 = .ok (.iastore, 1) := by decide +kernel
theorem d_M_count_252 : decode b_M_count 252 = .ok (.aload_n 0, 1) := by decide +kernel
theorem d_M_count_253 : decode b_M_count 253 = .ok (.getfield 62, 3) := by decide +kernel
theorem d_M_count_256 : decode b_M_count 256 = .ok (.aload_n 0, 1) := by decide +kernel
theorem d_M_count_257 : decode b_M_count 257 = .ok (.getfield 98, 3) := by decide +kernel
theorem d_M_count_260 : decode b_M_count 260 = .ok (.iload 8, 2) := by decide +kernel
theorem d_M_count_262 : decode b_M_count 262 = .ok (.bipush 50, 2) := by decide +kernel
theorem d_M_count_264 : decode b_M_count 264 = .ok (.if_icmp .ge 8, 3) := by decide +kernel
theorem d_M_count_267 : decode b_M_count 267 = .ok (.iload 8, 2) := by decide +kernel
theorem d_M_count_269 : decode b_M_count 269 = .ok (.goto 5, 3) := by decide +kernel
theorem d_M_count_272 : decode b_M_count 272 = .ok (.bipush 50, 2) := by decide +kernel
theorem d_M_count_274 : decode b_M_count 274 = .ok (.iastore, 1) := by decide +kernel
theorem d_M_count_275 : decode b_M_count 275 = .ok (.aload_n 0, 1) := by decide +kernel
theorem d_M_count_276 : decode b_M_count 276 = .ok (.getfield 65, 3) := by decide +kernel
theorem d_M_count_279 : decode b_M_count 279 = .ok (.aload_n 0, 1) := by decide +kernel
theorem d_M_count_280 : decode b_M_count 280 = .ok (.getfield 98, 3) := by decide +kernel
theorem d_M_count_283 : decode b_M_count 283 = .ok (.iload 4, 2) := by decide +kernel
theorem d_M_count_285 : decode b_M_count 285 = .ok (.iastore, 1) := by decide +kernel
theorem d_M_count_286 : decode b_M_count 286 = .ok (.aload_n 0, 1) := by decide +kernel
theorem d_M_count_287 : decode b_M_count 287 = .ok (.getfield 68, 3) := by decide +kernel
theorem d_M_count_290 : decode b_M_count 290 = .ok (.aload_n 0, 1) := by decide +kernel
theorem d_M_count_291 : decode b_M_count 291 = .ok (.getfield 98, 3) := by decide +kernel
theorem d_M_count_294 : decode b_M_count 294 = .ok (.iconst (-1), 1) := by decide +kernel
theorem d_M_count_295 : decode b_M_count 295 = .ok (.iastore, 1) := by decide +kernel
theorem d_M_count_296 : decode b_M_count 296 = .ok (.iinc 8 (-50), 3) := by decide +kernel
theorem d_M_count_299 : decode b_M_count 299 = .ok (.goto (-97), 3) := by decide +kernel
theorem d_M_count_302 : decode b_M_count 302 = .ok (.iload 7, 2) := by decide +kernel
theorem d_M_count_304 : decode b_M_count 304 = .ok (.ireturn, 1) := by decide +kernel
theorem d_M_takes_0 : decode b_M_takes 0 = .ok (.aload_n 0, 1) := by decide +kernel
theorem d_M_takes_1 : decode b_M_takes 1 = .ok (.getfield 32, 3) := by decide +kernel
theorem d_M_takes_4 : decode b_M_takes 4 = .ok (.iload_n 1, 1) := by decide +kernel
theorem d_M_takes_5 : decode b_M_takes 5 = .ok (.iaload, 1) := by decide +kernel
theorem d_M_takes_6 : decode b_M_takes 6 = .ok (.aload_n 0, 1) := by decide +kernel
theorem d_M_takes_7 : decode b_M_takes 7 = .ok (.getfield 32, 3) := by decide +kernel
theorem d_M_takes_10 : decode b_M_takes 10 = .ok (.iload_n 1, 1) := by decide +kernel
theorem d_M_takes_11 : decode b_M_takes 11 = .ok (.iaload, 1) := by decide +kernel
theorem d_M_takes_12 : decode b_M_takes 12 = .ok (.aload_n 0, 1) := by decide +kernel
theorem d_M_takes_13 : decode b_M_takes 13 = .ok (.getfield 35, 3) := by decide +kernel
theorem d_M_takes_16 : decode b_M_takes 16 = .ok (.iload_n 1, 1) := by decide +kernel
theorem d_M_takes_17 : decode b_M_takes 17 = .ok (.iaload, 1) := by decide +kernel
theorem d_M_takes_18 : decode b_M_takes 18 = .ok (.imul, 1) := by decide +kernel
theorem d_M_takes_19 : decode b_M_takes 19 = .ok (.bipush 100, 2) := by decide +kernel
theorem d_M_takes_21 : decode b_M_takes 21 = .ok (.idiv, 1) := by decide +kernel
theorem d_M_takes_22 : decode b_M_takes 22 = .ok (.iadd, 1) := by decide +kernel
theorem d_M_takes_23 : decode b_M_takes 23 = .ok (.ireturn, 1) := by decide +kernel
theorem d_M_damaged_0 : decode b_M_damaged 0 = .ok (.aload_n 0, 1) := by decide +kernel
theorem d_M_damaged_1 : decode b_M_damaged 1 = .ok (.aload_n 0, 1) := by decide +kernel
theorem d_M_damaged_2 : decode b_M_damaged 2 = .ok (.iload_n 1, 1) := by decide +kernel
theorem d_M_damaged_3 : decode b_M_damaged 3 = .ok (.invokevirtual 115, 3) := by decide +kernel
theorem d_M_damaged_6 : decode b_M_damaged 6 = .ok (.ifCond .ne 7, 3) := by decide +kernel
theorem d_M_damaged_9 : decode b_M_damaged 9 = .ok (.iconst 1, 1) := by decide +kernel
theorem d_M_damaged_10 : decode b_M_damaged 10 = .ok (.goto 18, 3) := by decide +kernel
theorem d_M_damaged_13 : decode b_M_damaged 13 = .ok (.iload_n 2, 1) := by decide +kernel
theorem d_M_damaged_14 : decode b_M_damaged 14 = .ok (.iconst 1, 1) := by decide +kernel
theorem d_M_damaged_15 : decode b_M_damaged 15 = .ok (.bipush 9, 2) := by decide +kernel
theorem d_M_damaged_17 : decode b_M_damaged 17 = .ok (.invokestatic 90, 3) := by decide +kernel
theorem d_M_damaged_20 : decode b_M_damaged 20 = .ok (.ifCond .ne 7, 3) := by decide +kernel
theorem d_M_damaged_23 : decode b_M_damaged 23 = .ok (.iconst 2, 1) := by decide +kernel
theorem d_M_damaged_24 : decode b_M_damaged 24 = .ok (.goto 4, 3) := by decide +kernel
theorem d_M_damaged_27 : decode b_M_damaged 27 = .ok (.iconst 0, 1) := by decide +kernel
theorem d_M_damaged_28 : decode b_M_damaged 28 = .ok (.putfield 83, 3) := by decide +kernel
theorem d_M_damaged_31 : decode b_M_damaged 31 = .ok (.aload_n 0, 1) := by decide +kernel
theorem d_M_damaged_32 : decode b_M_damaged 32 = .ok (.getfield 83, 3) := by decide +kernel
theorem d_M_damaged_35 : decode b_M_damaged 35 = .ok (.ifCond .ne 36, 3) := by decide +kernel
theorem d_M_damaged_38 : decode b_M_damaged 38 = .ok (.aload_n 0, 1) := by decide +kernel
theorem d_M_damaged_39 : decode b_M_damaged 39 = .ok (.aload_n 0, 1) := by decide +kernel
theorem d_M_damaged_40 : decode b_M_damaged 40 = .ok (.getfield 59, 3) := by decide +kernel
theorem d_M_damaged_43 : decode b_M_damaged 43 = .ok (.iload_n 1, 1) := by decide +kernel
theorem d_M_damaged_44 : decode b_M_damaged 44 = .ok (.iaload, 1) := by decide +kernel
theorem d_M_damaged_45 : decode b_M_damaged 45 = .ok (.iconst 1, 1) := by decide +kernel
theorem d_M_damaged_46 : decode b_M_damaged 46 = .ok (.if_icmp .eq 17, 3) := by decide +kernel
theorem d_M_damaged_49 : decode b_M_damaged 49 = .ok (.aload_n 0, 1) := by decide +kernel
theorem d_M_damaged_50 : decode b_M_damaged 50 = .ok (.getfield 50, 3) := by decide +kernel
theorem d_M_damaged_53 : decode b_M_damaged 53 = .ok (.aload_n 0, 1) := by decide +kernel
theorem d_M_damaged_54 : decode b_M_damaged 54 = .ok (.getfield 56, 3) := by decide +kernel
theorem d_M_damaged_57 : decode b_M_damaged 57 = .ok (.iload_n 1, 1) := by decide +kernel
theorem d_M_damaged_58 : decode b_M_damaged 58 = .ok (.iaload, 1) := by decide +kernel
theorem d_M_damaged_59 : decode b_M_damaged 59 = .ok (.baload, 1) := by decide +kernel
theorem d_M_damaged_60 : decode b_M_damaged 60 = .ok (.ifCond .eq 7, 3) := by decide +kernel
theorem d_M_damaged_63 : decode b_M_damaged 63 = .ok (.iconst 3, 1) := by decide +kernel
theorem d_M_damaged_64 : decode b_M_damaged 64 = .ok (.goto 4, 3) := by decide +kernel
theorem d_M_damaged_67 : decode b_M_damaged 67 = .ok (.iconst 0, 1) := by decide +kernel
theorem d_M_damaged_68 : decode b_M_damaged 68 = .ok (.putfield 83, 3) := by decide +kernel
theorem d_M_damaged_71 : decode b_M_damaged 71 = .ok (.aload_n 0, 1) := by decide +kernel
theorem d_M_damaged_72 : decode b_M_damaged 72 = .ok (.getfield 83, 3) := by decide +kernel
theorem d_M_damaged_75 : decode b_M_damaged 75 = .ok (.ifCond .le 5, 3) := by decide +kernel
theorem d_M_damaged_78 : decode b_M_damaged 78 = .ok (.iconst 0, 1) := by decide +kernel
theorem d_M_damaged_79 : decode b_M_damaged 79 = .ok (.ireturn, 1) := by decide +kernel
theorem d_M_damaged_80 : decode b_M_damaged 80 = .ok (.aload_n 0, 1) := by decide +kernel
theorem d_M_damaged_81 : decode b_M_damaged 81 = .ok (.getfield 59, 3) := by decide +kernel
theorem d_M_damaged_84 : decode b_M_damaged 84 = .ok (.iload_n 1, 1) := by decide +kernel
theorem d_M_damaged_85 : decode b_M_damaged 85 = .ok (.iconst 1, 1) := by decide +kernel
theorem d_M_damaged_86 : decode b_M_damaged 86 = .ok (.iastore, 1) := by decide +kernel
theorem d_M_damaged_87 : decode b_M_damaged 87 = .ok (.aload_n 0, 1) := by decide +kernel
theorem d_M_damaged_88 : decode b_M_damaged 88 = .ok (.getfield 71, 3) := by decide +kernel
theorem d_M_damaged_91 : decode b_M_damaged 91 = .ok (.iload_n 1, 1) := by decide +kernel
theorem d_M_damaged_92 : decode b_M_damaged 92 = .ok (.iload_n 2, 1) := by decide +kernel
theorem d_M_damaged_93 : decode b_M_damaged 93 = .ok (.iastore, 1) := by decide +kernel
theorem d_M_damaged_94 : decode b_M_damaged 94 = .ok (.iconst 0, 1) := by decide +kernel
theorem d_M_damaged_95 : decode b_M_damaged 95 = .ok (.istore_n 3, 1) := by decide +kernel
theorem d_M_damaged_96 : decode b_M_damaged 96 = .ok (.iconst 1, 1) := by decide +kernel
theorem d_M_damaged_97 : decode b_M_damaged 97 = .ok (.istore 4, 2) := by decide +kernel
theorem d_M_damaged_99 : decode b_M_damaged 99 = .ok (.iload 4, 2) := by decide +kernel
theorem d_M_damaged_101 : decode b_M_damaged 101 = .ok (.aload_n 0, 1) := by decide +kernel
theorem d_M_damaged_102 : decode b_M_damaged 102 = .ok (.getfield 98, 3) := by decide +kernel
theorem d_M_damaged_105 : decode b_M_damaged 105 = .ok (.if_icmp .gt 44, 3) := by decide +kernel
theorem d_M_damaged_108 : decode b_M_damaged 108 = .ok (.iload_n 3, 1) := by decide +kernel
theorem d_M_damaged_109 : decode b_M_damaged 109 = .ok (.aload_n 0, 1) := by decide +kernel
theorem d_M_damaged_110 : decode b_M_damaged 110 = .ok (.getfield 56, 3) := by decide +kernel
theorem d_M_damaged_113 : decode b_M_damaged 113 = .ok (.iload 4, 2) := by decide +kernel
theorem d_M_damaged_115 : decode b_M_damaged 115 = .ok (.iaload, 1) := by decide +kernel
theorem d_M_damaged_116 : decode b_M_damaged 116 = .ok (.aload_n 0, 1) := by decide +kernel
theorem d_M_damaged_117 : decode b_M_damaged 117 = .ok (.getfield 56, 3) := by decide +kernel
theorem d_M_damaged_120 : decode b_M_damaged 120 = .ok (.iload_n 1, 1) := by decide +kernel
theorem d_M_damaged_121 : decode b_M_damaged 121 = .ok (.iaload, 1) := by decide +kernel
theorem d_M_damaged_122 : decode b_M_damaged 122 = .ok (.if_icmp .ne 18, 3) := by decide +kernel
theorem d_M_damaged_125 : decode b_M_damaged 125 = .ok (.aload_n 0, 1) := by decide +kernel
theorem d_M_damaged_126 : decode b_M_damaged 126 = .ok (.getfield 59, 3) := by decide +kernel
theorem d_M_damaged_129 : decode b_M_damaged 129 = .ok (.iload 4, 2) := by decide +kernel
theorem d_M_damaged_131 : decode b_M_damaged 131 = .ok (.iaload, 1) := by decide +kernel
theorem d_M_damaged_132 : decode b_M_damaged 132 = .ok (.iconst 1, 1) := by decide +kernel
theorem d_M_damaged_133 : decode b_M_damaged 133 = .ok (.if_icmp .ne 7, 3) := by decide +kernel
theorem d_M_damaged_136 : decode b_M_damaged 136 = .ok (.iconst 1, 1) := by decide +kernel
theorem d_M_damaged_137 : decode b_M_damaged 137 = .ok (.goto 4, 3) := by decide +kernel
theorem d_M_damaged_140 : decode b_M_damaged 140 = .ok (.iconst 0, 1) := by decide +kernel
theorem d_M_damaged_141 : decode b_M_damaged 141 = .ok (.iadd, 1) := by decide +kernel
theorem d_M_damaged_142 : decode b_M_damaged 142 = .ok (.istore_n 3, 1) := by decide +kernel
theorem d_M_damaged_143 : decode b_M_damaged 143 = .ok (.iinc 4 1, 3) := by decide +kernel
theorem d_M_damaged_146 : decode b_M_damaged 146 = .ok (.goto (-47), 3) := by decide +kernel
theorem d_M_damaged_149 : decode b_M_damaged 149 = .ok (.iload_n 3, 1) := by decide +kernel
theorem d_M_damaged_150 : decode b_M_damaged 150 = .ok (.ireturn, 1) := by decide +kernel
theorem d_M_isUnit_0 : decode b_M_isUnit 0 = .ok (.iload_n 1, 1) := by decide +kernel
theorem d_M_isUnit_1 : decode b_M_isUnit 1 = .ok (.iconst 1, 1) := by decide +kernel
theorem d_M_isUnit_2 : decode b_M_isUnit 2 = .ok (.aload_n 0, 1) := by decide +kernel
theorem d_M_isUnit_3 : decode b_M_isUnit 3 = .ok (.getfield 98, 3) := by decide +kernel
theorem d_M_isUnit_6 : decode b_M_isUnit 6 = .ok (.invokestatic 90, 3) := by decide +kernel
theorem d_M_isUnit_9 : decode b_M_isUnit 9 = .ok (.ireturn, 1) := by decide +kernel
theorem d_M_sample_0 : decode b_M_sample 0 = .ok (.aload_n 0, 1) := by decide +kernel
theorem d_M_sample_1 : decode b_M_sample 1 = .ok (.aload_n 0, 1) := by decide +kernel
theorem d_M_sample_2 : decode b_M_sample 2 = .ok (.iload_n 1, 1) := by decide +kernel
theorem d_M_sample_3 : decode b_M_sample 3 = .ok (.iload_n 2, 1) := by decide +kernel
theorem d_M_sample_4 : decode b_M_sample 4 = .ok (.invokevirtual 107, 3) := by decide +kernel
theorem d_M_sample_7 : decode b_M_sample 7 = .ok (.ifCond .ne 7, 3) := by decide +kernel
theorem d_M_sample_10 : decode b_M_sample 10 = .ok (.iconst 1, 1) := by decide +kernel
theorem d_M_sample_11 : decode b_M_sample 11 = .ok (.goto 4, 3) := by decide +kernel
theorem d_M_sample_14 : decode b_M_sample 14 = .ok (.iconst 0, 1) := by decide +kernel
theorem d_M_sample_15 : decode b_M_sample 15 = .ok (.putfield 83, 3) := by decide +kernel
theorem d_M_sample_18 : decode b_M_sample 18 = .ok (.aload_n 0, 1) := by decide +kernel
theorem d_M_sample_19 : decode b_M_sample 19 = .ok (.getfield 83, 3) := by decide +kernel
theorem d_M_sample_22 : decode b_M_sample 22 = .ok (.ifCond .le 5, 3) := by decide +kernel
theorem d_M_sample_25 : decode b_M_sample 25 = .ok (.iconst 0, 1) := by decide +kernel
theorem d_M_sample_26 : decode b_M_sample 26 = .ok (.ireturn, 1) := by decide +kernel
theorem d_M_sample_27 : decode b_M_sample 27 = .ok (.iconst 4, 1) := by decide +kernel
theorem d_M_sample_28 : decode b_M_sample 28 = .ok (.iload_n 1, 1) := by decide +kernel
theorem d_M_sample_29 : decode b_M_sample 29 = .ok (.imul, 1) := by decide +kernel
theorem d_M_sample_30 : decode b_M_sample 30 = .ok (.iload_n 2, 1) := by decide +kernel
theorem d_M_sample_31 : decode b_M_sample 31 = .ok (.iadd, 1) := by decide +kernel
theorem d_M_sample_32 : decode b_M_sample 32 = .ok (.istore 4, 2) := by decide +kernel
theorem d_M_sample_34 : decode b_M_sample 34 = .ok (.aload_n 0, 1) := by decide +kernel
theorem d_M_sample_35 : decode b_M_sample 35 = .ok (.aload_n 0, 1) := by decide +kernel
theorem d_M_sample_36 : decode b_M_sample 36 = .ok (.getfield 23, 3) := by decide +kernel
theorem d_M_sample_39 : decode b_M_sample 39 = .ok (.iload_n 1, 1) := by decide +kernel
theorem d_M_sample_40 : decode b_M_sample 40 = .ok (.iaload, 1) := by decide +kernel
theorem d_M_sample_41 : decode b_M_sample 41 = .ok (.iconst 1, 1) := by decide +kernel
theorem d_M_sample_42 : decode b_M_sample 42 = .ok (.if_icmp .ne 22, 3) := by decide +kernel
theorem d_M_sample_45 : decode b_M_sample 45 = .ok (.aload_n 0, 1) := by decide +kernel
theorem d_M_sample_46 : decode b_M_sample 46 = .ok (.getfield 50, 3) := by decide +kernel
theorem d_M_sample_49 : decode b_M_sample 49 = .ok (.iload 4, 2) := by decide +kernel
theorem d_M_sample_51 : decode b_M_sample 51 = .ok (.baload, 1) := by decide +kernel
theorem d_M_sample_52 : decode b_M_sample 52 = .ok (.ifCond .ne 12, 3) := by decide +kernel
theorem d_M_sample_55 : decode b_M_sample 55 = .ok (.aload_n 0, 1) := by decide +kernel
theorem d_M_sample_56 : decode b_M_sample 56 = .ok (.iload 4, 2) := by decide +kernel
theorem d_M_sample_58 : decode b_M_sample 58 = .ok (.invokevirtual 118, 3) := by decide +kernel
theorem d_M_sample_61 : decode b_M_sample 61 = .ok (.ifCond .ne 7, 3) := by decide +kernel
theorem d_M_sample_64 : decode b_M_sample 64 = .ok (.iconst 2, 1) := by decide +kernel
theorem d_M_sample_65 : decode b_M_sample 65 = .ok (.goto 4, 3) := by decide +kernel
theorem d_M_sample_68 : decode b_M_sample 68 = .ok (.iconst 0, 1) := by decide +kernel
theorem d_M_sample_69 : decode b_M_sample 69 = .ok (.putfield 83, 3) := by decide +kernel
theorem d_M_sample_72 : decode b_M_sample 72 = .ok (.aload_n 0, 1) := by decide +kernel
theorem d_M_sample_73 : decode b_M_sample 73 = .ok (.getfield 83, 3) := by decide +kernel
theorem d_M_sample_76 : decode b_M_sample 76 = .ok (.ifCond .le 5, 3) := by decide +kernel
theorem d_M_sample_79 : decode b_M_sample 79 = .ok (.iconst 0, 1) := by decide +kernel
theorem d_M_sample_80 : decode b_M_sample 80 = .ok (.ireturn, 1) := by decide +kernel
theorem d_M_sample_81 : decode b_M_sample 81 = .ok (.aload_n 0, 1) := by decide +kernel
theorem d_M_sample_82 : decode b_M_sample 82 = .ok (.getfield 44, 3) := by decide +kernel
theorem d_M_sample_85 : decode b_M_sample 85 = .ok (.iload 4, 2) := by decide +kernel
theorem d_M_sample_87 : decode b_M_sample 87 = .ok (.dup2, 1) := by decide +kernel
theorem d_M_sample_88 : decode b_M_sample 88 = .ok (.iaload, 1) := by decide +kernel
theorem d_M_sample_89 : decode b_M_sample 89 = .ok (.iconst 1, 1) := by decide +kernel
theorem d_M_sample_90 : decode b_M_sample 90 = .ok (.iadd, 1) := by decide +kernel
theorem d_M_sample_91 : decode b_M_sample 91 = .ok (.iastore, 1) := by decide +kernel
theorem d_M_sample_92 : decode b_M_sample 92 = .ok (.iload_n 3, 1) := by decide +kernel
theorem d_M_sample_93 : decode b_M_sample 93 = .ok (.ifCond .ne 59, 3) := by decide +kernel
theorem d_M_sample_96 : decode b_M_sample 96 = .ok (.aload_n 0, 1) := by decide +kernel
theorem d_M_sample_97 : decode b_M_sample 97 = .ok (.getfield 47, 3) := by decide +kernel
theorem d_M_sample_100 : decode b_M_sample 100 = .ok (.iload 4, 2) := by decide +kernel
theorem d_M_sample_102 : decode b_M_sample 102 = .ok (.iconst 1, 1) := by decide +kernel
theorem d_M_sample_103 : decode b_M_sample 103 = .ok (.bastore, 1) := by decide +kernel
theorem d_M_sample_104 : decode b_M_sample 104 = .ok (.iconst 1, 1) := by decide +kernel
theorem d_M_sample_105 : decode b_M_sample 105 = .ok (.istore 5, 2) := by decide +kernel
theorem d_M_sample_107 : decode b_M_sample 107 = .ok (.iload 5, 2) := by decide +kernel
theorem d_M_sample_109 : decode b_M_sample 109 = .ok (.aload_n 0, 1) := by decide +kernel
theorem d_M_sample_110 : decode b_M_sample 110 = .ok (.getfield 98, 3) := by decide +kernel
theorem d_M_sample_113 : decode b_M_sample 113 = .ok (.if_icmp .gt 39, 3) := by decide +kernel
theorem d_M_sample_116 : decode b_M_sample 116 = .ok (.aload_n 0, 1) := by decide +kernel
theorem d_M_sample_117 : decode b_M_sample 117 = .ok (.getfield 56, 3) := by decide +kernel
theorem d_M_sample_120 : decode b_M_sample 120 = .ok (.iload 5, 2) := by decide +kernel
theorem d_M_sample_122 : decode b_M_sample 122 = .ok (.iaload, 1) := by decide +kernel
theorem d_M_sample_123 : decode b_M_sample 123 = .ok (.iload 4, 2) := by decide +kernel
theorem d_M_sample_125 : decode b_M_sample 125 = .ok (.if_icmp .ne 21, 3) := by decide +kernel
theorem d_M_sample_128 : decode b_M_sample 128 = .ok (.aload_n 0, 1) := by decide +kernel
theorem d_M_sample_129 : decode b_M_sample 129 = .ok (.getfield 59, 3) := by decide +kernel
theorem d_M_sample_132 : decode b_M_sample 132 = .ok (.iload 5, 2) := by decide +kernel
theorem d_M_sample_134 : decode b_M_sample 134 = .ok (.iaload, 1) := by decide +kernel
theorem d_M_sample_135 : decode b_M_sample 135 = .ok (.ifCond .ne 11, 3) := by decide +kernel
theorem d_M_sample_138 : decode b_M_sample 138 = .ok (.aload_n 0, 1) := by decide +kernel
theorem d_M_sample_139 : decode b_M_sample 139 = .ok (.getfield 59, 3) := by decide +kernel
theorem d_M_sample_142 : decode b_M_sample 142 = .ok (.iload 5, 2) := by decide +kernel
theorem d_M_sample_144 : decode b_M_sample 144 = .ok (.iconst 2, 1) := by decide +kernel
theorem d_M_sample_145 : decode b_M_sample 145 = .ok (.iastore, 1) := by decide +kernel
theorem d_M_sample_146 : decode b_M_sample 146 = .ok (.iinc 5 1, 3) := by decide +kernel
theorem d_M_sample_149 : decode b_M_sample 149 = .ok (.goto (-42), 3) := by decide +kernel
theorem d_M_sample_152 : decode b_M_sample 152 = .ok (.aload_n 0, 1) := by decide +kernel
theorem d_M_sample_153 : decode b_M_sample 153 = .ok (.iload 4, 2) := by decide +kernel
theorem d_M_sample_155 : decode b_M_sample 155 = .ok (.invokevirtual 118, 3) := by decide +kernel
theorem d_M_sample_158 : decode b_M_sample 158 = .ok (.ireturn, 1) := by decide +kernel
theorem d_M_openSamples_0 : decode b_M_openSamples 0 = .ok (.aload_n 0, 1) := by decide +kernel
theorem d_M_openSamples_1 : decode b_M_openSamples 1 = .ok (.getfield 41, 3) := by decide +kernel
theorem d_M_openSamples_4 : decode b_M_openSamples 4 = .ok (.iload_n 1, 1) := by decide +kernel
theorem d_M_openSamples_5 : decode b_M_openSamples 5 = .ok (.iaload, 1) := by decide +kernel
theorem d_M_openSamples_6 : decode b_M_openSamples 6 = .ok (.aload_n 0, 1) := by decide +kernel
theorem d_M_openSamples_7 : decode b_M_openSamples 7 = .ok (.getfield 44, 3) := by decide +kernel
theorem d_M_openSamples_10 : decode b_M_openSamples 10 = .ok (.iload_n 1, 1) := by decide +kernel
theorem d_M_openSamples_11 : decode b_M_openSamples 11 = .ok (.iaload, 1) := by decide +kernel
theorem d_M_openSamples_12 : decode b_M_openSamples 12 = .ok (.if_icmp .le 19, 3) := by decide +kernel
theorem d_M_openSamples_15 : decode b_M_openSamples 15 = .ok (.aload_n 0, 1) := by decide +kernel
theorem d_M_openSamples_16 : decode b_M_openSamples 16 = .ok (.getfield 41, 3) := by decide +kernel
theorem d_M_openSamples_19 : decode b_M_openSamples 19 = .ok (.iload_n 1, 1) := by decide +kernel
theorem d_M_openSamples_20 : decode b_M_openSamples 20 = .ok (.iaload, 1) := by decide +kernel
theorem d_M_openSamples_21 : decode b_M_openSamples 21 = .ok (.aload_n 0, 1) := by decide +kernel
theorem d_M_openSamples_22 : decode b_M_openSamples 22 = .ok (.getfield 44, 3) := by decide +kernel
theorem d_M_openSamples_25 : decode b_M_openSamples 25 = .ok (.iload_n 1, 1) := by decide +kernel
theorem d_M_openSamples_26 : decode b_M_openSamples 26 = .ok (.iaload, 1) := by decide +kernel
theorem d_M_openSamples_27 : decode b_M_openSamples 27 = .ok (.isub, 1) := by decide +kernel
theorem d_M_openSamples_28 : decode b_M_openSamples 28 = .ok (.goto 4, 3) := by decide +kernel
theorem d_M_openSamples_31 : decode b_M_openSamples 31 = .ok (.iconst 0, 1) := by decide +kernel
theorem d_M_openSamples_32 : decode b_M_openSamples 32 = .ok (.ireturn, 1) := by decide +kernel
theorem d_M_date_0 : decode b_M_date 0 = .ok (.aload_n 0, 1) := by decide +kernel
theorem d_M_date_1 : decode b_M_date 1 = .ok (.aload_n 0, 1) := by decide +kernel
theorem d_M_date_2 : decode b_M_date 2 = .ok (.iload_n 1, 1) := by decide +kernel
theorem d_M_date_3 : decode b_M_date 3 = .ok (.invokevirtual 115, 3) := by decide +kernel
theorem d_M_date_6 : decode b_M_date 6 = .ok (.ifCond .ne 7, 3) := by decide +kernel
theorem d_M_date_9 : decode b_M_date 9 = .ok (.iconst 1, 1) := by decide +kernel
theorem d_M_date_10 : decode b_M_date 10 = .ok (.goto 19, 3) := by decide +kernel
theorem d_M_date_13 : decode b_M_date 13 = .ok (.iload_n 2, 1) := by decide +kernel
theorem d_M_date_14 : decode b_M_date 14 = .ok (.iconst 0, 1) := by decide +kernel
theorem d_M_date_15 : decode b_M_date 15 = .ok (.sipush 10000, 3) := by decide +kernel
theorem d_M_date_18 : decode b_M_date 18 = .ok (.invokestatic 90, 3) := by decide +kernel
theorem d_M_date_21 : decode b_M_date 21 = .ok (.ifCond .ne 7, 3) := by decide +kernel
theorem d_M_date_24 : decode b_M_date 24 = .ok (.iconst 2, 1) := by decide +kernel
theorem d_M_date_25 : decode b_M_date 25 = .ok (.goto 4, 3) := by decide +kernel
theorem d_M_date_28 : decode b_M_date 28 = .ok (.iconst 0, 1) := by decide +kernel
theorem d_M_date_29 : decode b_M_date 29 = .ok (.putfield 83, 3) := by decide +kernel
theorem d_M_date_32 : decode b_M_date 32 = .ok (.aload_n 0, 1) := by decide +kernel
theorem d_M_date_33 : decode b_M_date 33 = .ok (.getfield 83, 3) := by decide +kernel
theorem d_M_date_36 : decode b_M_date 36 = .ok (.ifCond .ne 36, 3) := by decide +kernel
theorem d_M_date_39 : decode b_M_date 39 = .ok (.aload_n 0, 1) := by decide +kernel
theorem d_M_date_40 : decode b_M_date 40 = .ok (.aload_n 0, 1) := by decide +kernel
theorem d_M_date_41 : decode b_M_date 41 = .ok (.getfield 59, 3) := by decide +kernel
theorem d_M_date_44 : decode b_M_date 44 = .ok (.iload_n 1, 1) := by decide +kernel
theorem d_M_date_45 : decode b_M_date 45 = .ok (.iaload, 1) := by decide +kernel
theorem d_M_date_46 : decode b_M_date 46 = .ok (.iconst 1, 1) := by decide +kernel
theorem d_M_date_47 : decode b_M_date 47 = .ok (.if_icmp .eq 17, 3) := by decide +kernel
theorem d_M_date_50 : decode b_M_date 50 = .ok (.aload_n 0, 1) := by decide +kernel
theorem d_M_date_51 : decode b_M_date 51 = .ok (.getfield 50, 3) := by decide +kernel
theorem d_M_date_54 : decode b_M_date 54 = .ok (.aload_n 0, 1) := by decide +kernel
theorem d_M_date_55 : decode b_M_date 55 = .ok (.getfield 56, 3) := by decide +kernel
theorem d_M_date_58 : decode b_M_date 58 = .ok (.iload_n 1, 1) := by decide +kernel
theorem d_M_date_59 : decode b_M_date 59 = .ok (.iaload, 1) := by decide +kernel
theorem d_M_date_60 : decode b_M_date 60 = .ok (.baload, 1) := by decide +kernel
theorem d_M_date_61 : decode b_M_date 61 = .ok (.ifCond .eq 7, 3) := by decide +kernel
theorem d_M_date_64 : decode b_M_date 64 = .ok (.iconst 3, 1) := by decide +kernel
theorem d_M_date_65 : decode b_M_date 65 = .ok (.goto 4, 3) := by decide +kernel
theorem d_M_date_68 : decode b_M_date 68 = .ok (.iconst 0, 1) := by decide +kernel
theorem d_M_date_69 : decode b_M_date 69 = .ok (.putfield 83, 3) := by decide +kernel
theorem d_M_date_72 : decode b_M_date 72 = .ok (.aload_n 0, 1) := by decide +kernel
theorem d_M_date_73 : decode b_M_date 73 = .ok (.getfield 83, 3) := by decide +kernel
theorem d_M_date_76 : decode b_M_date 76 = .ok (.ifCond .le 5, 3) := by decide +kernel
theorem d_M_date_79 : decode b_M_date 79 = .ok (.iconst 0, 1) := by decide +kernel
theorem d_M_date_80 : decode b_M_date 80 = .ok (.ireturn, 1) := by decide +kernel
theorem d_M_date_81 : decode b_M_date 81 = .ok (.aload_n 0, 1) := by decide +kernel
theorem d_M_date_82 : decode b_M_date 82 = .ok (.getfield 68, 3) := by decide +kernel
theorem d_M_date_85 : decode b_M_date 85 = .ok (.iload_n 1, 1) := by decide +kernel
theorem d_M_date_86 : decode b_M_date 86 = .ok (.iload_n 2, 1) := by decide +kernel
theorem d_M_date_87 : decode b_M_date 87 = .ok (.iastore, 1) := by decide +kernel
theorem d_M_date_88 : decode b_M_date 88 = .ok (.aload_n 0, 1) := by decide +kernel
theorem d_M_date_89 : decode b_M_date 89 = .ok (.getfield 59, 3) := by decide +kernel
theorem d_M_date_92 : decode b_M_date 92 = .ok (.iload_n 1, 1) := by decide +kernel
theorem d_M_date_93 : decode b_M_date 93 = .ok (.iload_n 2, 1) := by decide +kernel
theorem d_M_date_94 : decode b_M_date 94 = .ok (.aload_n 0, 1) := by decide +kernel
theorem d_M_date_95 : decode b_M_date 95 = .ok (.getfield 121, 3) := by decide +kernel
theorem d_M_date_98 : decode b_M_date 98 = .ok (.if_icmp .ge 7, 3) := by decide +kernel
theorem d_M_date_101 : decode b_M_date 101 = .ok (.iconst 3, 1) := by decide +kernel
theorem d_M_date_102 : decode b_M_date 102 = .ok (.goto 8, 3) := by decide +kernel
theorem d_M_date_105 : decode b_M_date 105 = .ok (.aload_n 0, 1) := by decide +kernel
theorem d_M_date_106 : decode b_M_date 106 = .ok (.iload_n 1, 1) := by decide +kernel
theorem d_M_date_107 : decode b_M_date 107 = .ok (.invokevirtual 124, 3) := by decide +kernel
theorem d_M_date_110 : decode b_M_date 110 = .ok (.iastore, 1) := by decide +kernel
theorem d_M_date_111 : decode b_M_date 111 = .ok (.iload_n 2, 1) := by decide +kernel
theorem d_M_date_112 : decode b_M_date 112 = .ok (.aload_n 0, 1) := by decide +kernel
theorem d_M_date_113 : decode b_M_date 113 = .ok (.getfield 121, 3) := by decide +kernel
theorem d_M_date_116 : decode b_M_date 116 = .ok (.if_icmp .ge 7, 3) := by decide +kernel
theorem d_M_date_119 : decode b_M_date 119 = .ok (.iconst 2, 1) := by decide +kernel
theorem d_M_date_120 : decode b_M_date 120 = .ok (.goto 4, 3) := by decide +kernel
theorem d_M_date_123 : decode b_M_date 123 = .ok (.iconst 1, 1) := by decide +kernel
theorem d_M_date_124 : decode b_M_date 124 = .ok (.ireturn, 1) := by decide +kernel
theorem d_M_plainState_0 : decode b_M_plainState 0 = .ok (.aload_n 0, 1) := by decide +kernel
theorem d_M_plainState_1 : decode b_M_plainState 1 = .ok (.getfield 47, 3) := by decide +kernel
theorem d_M_plainState_4 : decode b_M_plainState 4 = .ok (.aload_n 0, 1) := by decide +kernel
theorem d_M_plainState_5 : decode b_M_plainState 5 = .ok (.getfield 56, 3) := by decide +kernel
theorem d_M_plainState_8 : decode b_M_plainState 8 = .ok (.iload_n 1, 1) := by decide +kernel
theorem d_M_plainState_9 : decode b_M_plainState 9 = .ok (.iaload, 1) := by decide +kernel
theorem d_M_plainState_10 : decode b_M_plainState 10 = .ok (.baload, 1) := by decide +kernel
theorem d_M_plainState_11 : decode b_M_plainState 11 = .ok (.ifCond .eq 7, 3) := by decide +kernel
theorem d_M_plainState_14 : decode b_M_plainState 14 = .ok (.iconst 2, 1) := by decide +kernel
theorem d_M_plainState_15 : decode b_M_plainState 15 = .ok (.goto 4, 3) := by decide +kernel
theorem d_M_plainState_18 : decode b_M_plainState 18 = .ok (.iconst 0, 1) := by decide +kernel
theorem d_M_plainState_19 : decode b_M_plainState 19 = .ok (.ireturn, 1) := by decide +kernel
theorem d_M_take_0 : decode b_M_take 0 = .ok (.aload_n 0, 1) := by decide +kernel
theorem d_M_take_1 : decode b_M_take 1 = .ok (.aload_n 0, 1) := by decide +kernel
theorem d_M_take_2 : decode b_M_take 2 = .ok (.iload_n 1, 1) := by decide +kernel
theorem d_M_take_3 : decode b_M_take 3 = .ok (.invokevirtual 115, 3) := by decide +kernel
theorem d_M_take_6 : decode b_M_take 6 = .ok (.ifCond .ne 7, 3) := by decide +kernel
theorem d_M_take_9 : decode b_M_take 9 = .ok (.iconst 1, 1) := by decide +kernel
theorem d_M_take_10 : decode b_M_take 10 = .ok (.goto 15, 3) := by decide +kernel
theorem d_M_take_13 : decode b_M_take 13 = .ok (.iload_n 2, 1) := by decide +kernel
theorem d_M_take_14 : decode b_M_take 14 = .ok (.invokestatic 104, 3) := by decide +kernel
theorem d_M_take_17 : decode b_M_take 17 = .ok (.ifCond .ne 7, 3) := by decide +kernel
theorem d_M_take_20 : decode b_M_take 20 = .ok (.iconst 2, 1) := by decide +kernel
theorem d_M_take_21 : decode b_M_take 21 = .ok (.goto 4, 3) := by decide +kernel
theorem d_M_take_24 : decode b_M_take 24 = .ok (.iconst 0, 1) := by decide +kernel
theorem d_M_take_25 : decode b_M_take 25 = .ok (.putfield 83, 3) := by decide +kernel
theorem d_M_take_28 : decode b_M_take 28 = .ok (.aload_n 0, 1) := by decide +kernel
theorem d_M_take_29 : decode b_M_take 29 = .ok (.getfield 83, 3) := by decide +kernel
theorem d_M_take_32 : decode b_M_take 32 = .ok (.ifCond .ne 31, 3) := by decide +kernel
theorem d_M_take_35 : decode b_M_take 35 = .ok (.aload_n 0, 1) := by decide +kernel
theorem d_M_take_36 : decode b_M_take 36 = .ok (.aload_n 0, 1) := by decide +kernel
theorem d_M_take_37 : decode b_M_take 37 = .ok (.getfield 59, 3) := by decide +kernel
theorem d_M_take_40 : decode b_M_take 40 = .ok (.iload_n 1, 1) := by decide +kernel
theorem d_M_take_41 : decode b_M_take 41 = .ok (.iaload, 1) := by decide +kernel
theorem d_M_take_42 : decode b_M_take 42 = .ok (.iconst 3, 1) := by decide +kernel
theorem d_M_take_43 : decode b_M_take 43 = .ok (.if_icmp .ne 12, 3) := by decide +kernel
theorem d_M_take_46 : decode b_M_take 46 = .ok (.aload_n 0, 1) := by decide +kernel
theorem d_M_take_47 : decode b_M_take 47 = .ok (.getfield 7, 3) := by decide +kernel
theorem d_M_take_50 : decode b_M_take 50 = .ok (.iload_n 2, 1) := by decide +kernel
theorem d_M_take_51 : decode b_M_take 51 = .ok (.baload, 1) := by decide +kernel
theorem d_M_take_52 : decode b_M_take 52 = .ok (.ifCond .ne 7, 3) := by decide +kernel
theorem d_M_take_55 : decode b_M_take 55 = .ok (.iconst 3, 1) := by decide +kernel
theorem d_M_take_56 : decode b_M_take 56 = .ok (.goto 4, 3) := by decide +kernel
theorem d_M_take_59 : decode b_M_take 59 = .ok (.iconst 0, 1) := by decide +kernel
theorem d_M_take_60 : decode b_M_take 60 = .ok (.putfield 83, 3) := by decide +kernel
theorem d_M_take_63 : decode b_M_take 63 = .ok (.aload_n 0, 1) := by decide +kernel
theorem d_M_take_64 : decode b_M_take 64 = .ok (.getfield 83, 3) := by decide +kernel
theorem d_M_take_67 : decode b_M_take 67 = .ok (.ifCond .le 5, 3) := by decide +kernel
theorem d_M_take_70 : decode b_M_take 70 = .ok (.iconst 0, 1) := by decide +kernel
theorem d_M_take_71 : decode b_M_take 71 = .ok (.ireturn, 1) := by decide +kernel
theorem d_M_take_72 : decode b_M_take 72 = .ok (.aload_n 0, 1) := by decide +kernel
theorem d_M_take_73 : decode b_M_take 73 = .ok (.getfield 59, 3) := by decide +kernel
theorem d_M_take_76 : decode b_M_take 76 = .ok (.iload_n 1, 1) := by decide +kernel
theorem d_M_take_77 : decode b_M_take 77 = .ok (.aload_n 0, 1) := by decide +kernel
theorem d_M_take_78 : decode b_M_take 78 = .ok (.iload_n 1, 1) := by decide +kernel
theorem d_M_take_79 : decode b_M_take 79 = .ok (.invokevirtual 124, 3) := by decide +kernel
theorem d_M_take_82 : decode b_M_take 82 = .ok (.iastore, 1) := by decide +kernel
theorem d_M_take_83 : decode b_M_take 83 = .ok (.aload_n 0, 1) := by decide +kernel
theorem d_M_take_84 : decode b_M_take 84 = .ok (.getfield 59, 3) := by decide +kernel
theorem d_M_take_87 : decode b_M_take 87 = .ok (.iload_n 1, 1) := by decide +kernel
theorem d_M_take_88 : decode b_M_take 88 = .ok (.iaload, 1) := by decide +kernel
theorem d_M_take_89 : decode b_M_take 89 = .ok (.ireturn, 1) := by decide +kernel
theorem d_M_label_0 : decode b_M_label 0 = .ok (.aload_n 0, 1) := by decide +kernel
theorem d_M_label_1 : decode b_M_label 1 = .ok (.aload_n 0, 1) := by decide +kernel
theorem d_M_label_2 : decode b_M_label 2 = .ok (.iload_n 1, 1) := by decide +kernel
theorem d_M_label_3 : decode b_M_label 3 = .ok (.invokevirtual 115, 3) := by decide +kernel
theorem d_M_label_6 : decode b_M_label 6 = .ok (.ifCond .eq 7, 3) := by decide +kernel
theorem d_M_label_9 : decode b_M_label 9 = .ok (.iconst 0, 1) := by decide +kernel
theorem d_M_label_10 : decode b_M_label 10 = .ok (.goto 4, 3) := by decide +kernel
theorem d_M_label_13 : decode b_M_label 13 = .ok (.iconst 1, 1) := by decide +kernel
theorem d_M_label_14 : decode b_M_label 14 = .ok (.putfield 83, 3) := by decide +kernel
theorem d_M_label_17 : decode b_M_label 17 = .ok (.aload_n 0, 1) := by decide +kernel
theorem d_M_label_18 : decode b_M_label 18 = .ok (.getfield 83, 3) := by decide +kernel
theorem d_M_label_21 : decode b_M_label 21 = .ok (.ifCond .le 5, 3) := by decide +kernel
theorem d_M_label_24 : decode b_M_label 24 = .ok (.iconst 0, 1) := by decide +kernel
theorem d_M_label_25 : decode b_M_label 25 = .ok (.ireturn, 1) := by decide +kernel
theorem d_M_label_26 : decode b_M_label 26 = .ok (.aload_n 0, 1) := by decide +kernel
theorem d_M_label_27 : decode b_M_label 27 = .ok (.getfield 74, 3) := by decide +kernel
theorem d_M_label_30 : decode b_M_label 30 = .ok (.iload_n 1, 1) := by decide +kernel
theorem d_M_label_31 : decode b_M_label 31 = .ok (.iaload, 1) := by decide +kernel
theorem d_M_label_32 : decode b_M_label 32 = .ok (.ifCond .ne 43, 3) := by decide +kernel
theorem d_M_label_35 : decode b_M_label 35 = .ok (.aload_n 0, 1) := by decide +kernel
theorem d_M_label_36 : decode b_M_label 36 = .ok (.dup, 1) := by decide +kernel
theorem d_M_label_37 : decode b_M_label 37 = .ok (.getfield 127, 3) := by decide +kernel
theorem d_M_label_40 : decode b_M_label 40 = .ok (.iconst 1, 1) := by decide +kernel
theorem d_M_label_41 : decode b_M_label 41 = .ok (.iadd, 1) := by decide +kernel
theorem d_M_label_42 : decode b_M_label 42 = .ok (.putfield 127, 3) := by decide +kernel
theorem d_M_label_45 : decode b_M_label 45 = .ok (.aload_n 0, 1) := by decide +kernel
theorem d_M_label_46 : decode b_M_label 46 = .ok (.getfield 74, 3) := by decide +kernel
theorem d_M_label_49 : decode b_M_label 49 = .ok (.iload_n 1, 1) := by decide +kernel
theorem d_M_label_50 : decode b_M_label 50 = .ok (.ldc 130, 2) := by decide +kernel
theorem d_M_label_52 : decode b_M_label 52 = .ok (.aload_n 0, 1) := by decide +kernel
theorem d_M_label_53 : decode b_M_label 53 = .ok (.getfield 13, 3) := by decide +kernel
theorem d_M_label_56 : decode b_M_label 56 = .ok (.aload_n 0, 1) := by decide +kernel
theorem d_M_label_57 : decode b_M_label 57 = .ok (.getfield 56, 3) := by decide +kernel
theorem d_M_label_60 : decode b_M_label 60 = .ok (.iload_n 1, 1) := by decide +kernel
theorem d_M_label_61 : decode b_M_label 61 = .ok (.iaload, 1) := by decide +kernel
theorem d_M_label_62 : decode b_M_label 62 = .ok (.iconst 4, 1) := by decide +kernel
theorem d_M_label_63 : decode b_M_label 63 = .ok (.idiv, 1) := by decide +kernel
theorem d_M_label_64 : decode b_M_label 64 = .ok (.iaload, 1) := by decide +kernel
theorem d_M_label_65 : decode b_M_label 65 = .ok (.imul, 1) := by decide +kernel
theorem d_M_label_66 : decode b_M_label 66 = .ok (.aload_n 0, 1) := by decide +kernel
theorem d_M_label_67 : decode b_M_label 67 = .ok (.getfield 127, 3) := by decide +kernel
theorem d_M_label_70 : decode b_M_label 70 = .ok (.iadd, 1) := by decide +kernel
theorem d_M_label_71 : decode b_M_label 71 = .ok (.invokestatic 131, 3) := by decide +kernel
theorem d_M_label_74 : decode b_M_label 74 = .ok (.iastore, 1) := by decide +kernel
theorem d_M_label_75 : decode b_M_label 75 = .ok (.aload_n 0, 1) := by decide +kernel
theorem d_M_label_76 : decode b_M_label 76 = .ok (.getfield 77, 3) := by decide +kernel
theorem d_M_label_79 : decode b_M_label 79 = .ok (.iload_n 1, 1) := by decide +kernel
theorem d_M_label_80 : decode b_M_label 80 = .ok (.dup2, 1) := by decide +kernel
theorem d_M_label_81 : decode b_M_label 81 = .ok (.iaload, 1) := by decide +kernel
theorem d_M_label_82 : decode b_M_label 82 = .ok (.iconst 1, 1) := by decide +kernel
theorem d_M_label_83 : decode b_M_label 83 = .ok (.iadd, 1) := by decide +kernel
theorem d_M_label_84 : decode b_M_label 84 = .ok (.iastore, 1) := by decide +kernel
theorem d_M_label_85 : decode b_M_label 85 = .ok (.aload_n 0, 1) := by decide +kernel
theorem d_M_label_86 : decode b_M_label 86 = .ok (.getfield 74, 3) := by decide +kernel
theorem d_M_label_89 : decode b_M_label 89 = .ok (.iload_n 1, 1) := by decide +kernel
theorem d_M_label_90 : decode b_M_label 90 = .ok (.iaload, 1) := by decide +kernel
theorem d_M_label_91 : decode b_M_label 91 = .ok (.ireturn, 1) := by decide +kernel
theorem d_M_checked_0 : decode b_M_checked 0 = .ok (.iconst 0, 1) := by decide +kernel
theorem d_M_checked_1 : decode b_M_checked 1 = .ok (.istore_n 1, 1) := by decide +kernel
theorem d_M_checked_2 : decode b_M_checked 2 = .ok (.iload_n 0, 1) := by decide +kernel
theorem d_M_checked_3 : decode b_M_checked 3 = .ok (.istore_n 2, 1) := by decide +kernel
theorem d_M_checked_4 : decode b_M_checked 4 = .ok (.bipush 6, 2) := by decide +kernel
theorem d_M_checked_6 : decode b_M_checked 6 = .ok (.istore_n 3, 1) := by decide +kernel
theorem d_M_checked_7 : decode b_M_checked 7 = .ok (.iload_n 3, 1) := by decide +kernel
theorem d_M_checked_8 : decode b_M_checked 8 = .ok (.ifCond .le 34, 3) := by decide +kernel
theorem d_M_checked_11 : decode b_M_checked 11 = .ok (.iload_n 1, 1) := by decide +kernel
theorem d_M_checked_12 : decode b_M_checked 12 = .ok (.iload_n 3, 1) := by decide +kernel
theorem d_M_checked_13 : decode b_M_checked 13 = .ok (.iconst 2, 1) := by decide +kernel
theorem d_M_checked_14 : decode b_M_checked 14 = .ok (.irem, 1) := by decide +kernel
theorem d_M_checked_15 : decode b_M_checked 15 = .ok (.iconst 1, 1) := by decide +kernel
theorem d_M_checked_16 : decode b_M_checked 16 = .ok (.if_icmp .ne 7, 3) := by decide +kernel
theorem d_M_checked_19 : decode b_M_checked 19 = .ok (.iconst 3, 1) := by decide +kernel
theorem d_M_checked_20 : decode b_M_checked 20 = .ok (.goto 4, 3) := by decide +kernel
theorem d_M_checked_23 : decode b_M_checked 23 = .ok (.iconst 1, 1) := by decide +kernel
theorem d_M_checked_24 : decode b_M_checked 24 = .ok (.iload_n 2, 1) := by decide +kernel
theorem d_M_checked_25 : decode b_M_checked 25 = .ok (.bipush 10, 2) := by decide +kernel
theorem d_M_checked_27 : decode b_M_checked 27 = .ok (.irem, 1) := by decide +kernel
theorem d_M_checked_28 : decode b_M_checked 28 = .ok (.imul, 1) := by decide +kernel
theorem d_M_checked_29 : decode b_M_checked 29 = .ok (.iadd, 1) := by decide +kernel
theorem d_M_checked_30 : decode b_M_checked 30 = .ok (.istore_n 1, 1) := by decide +kernel
theorem d_M_checked_31 : decode b_M_checked 31 = .ok (.iload_n 2, 1) := by decide +kernel
theorem d_M_checked_32 : decode b_M_checked 32 = .ok (.bipush 10, 2) := by decide +kernel
theorem d_M_checked_34 : decode b_M_checked 34 = .ok (.idiv, 1) := by decide +kernel
theorem d_M_checked_35 : decode b_M_checked 35 = .ok (.istore_n 2, 1) := by decide +kernel
theorem d_M_checked_36 : decode b_M_checked 36 = .ok (.iinc 3 (-1), 3) := by decide +kernel
theorem d_M_checked_39 : decode b_M_checked 39 = .ok (.goto (-32), 3) := by decide +kernel
theorem d_M_checked_42 : decode b_M_checked 42 = .ok (.bipush 10, 2) := by decide +kernel
theorem d_M_checked_44 : decode b_M_checked 44 = .ok (.iload_n 0, 1) := by decide +kernel
theorem d_M_checked_45 : decode b_M_checked 45 = .ok (.imul, 1) := by decide +kernel
theorem d_M_checked_46 : decode b_M_checked 46 = .ok (.bipush 10, 2) := by decide +kernel
theorem d_M_checked_48 : decode b_M_checked 48 = .ok (.iload_n 1, 1) := by decide +kernel
theorem d_M_checked_49 : decode b_M_checked 49 = .ok (.bipush 10, 2) := by decide +kernel
theorem d_M_checked_51 : decode b_M_checked 51 = .ok (.irem, 1) := by decide +kernel
theorem d_M_checked_52 : decode b_M_checked 52 = .ok (.isub, 1) := by decide +kernel
theorem d_M_checked_53 : decode b_M_checked 53 = .ok (.bipush 10, 2) := by decide +kernel
theorem d_M_checked_55 : decode b_M_checked 55 = .ok (.irem, 1) := by decide +kernel
theorem d_M_checked_56 : decode b_M_checked 56 = .ok (.iadd, 1) := by decide +kernel
theorem d_M_checked_57 : decode b_M_checked 57 = .ok (.ireturn, 1) := by decide +kernel
theorem d_M_again_0 : decode b_M_again 0 = .ok (.aload_n 0, 1) := by decide +kernel
theorem d_M_again_1 : decode b_M_again 1 = .ok (.aload_n 0, 1) := by decide +kernel
theorem d_M_again_2 : decode b_M_again 2 = .ok (.iload_n 1, 1) := by decide +kernel
theorem d_M_again_3 : decode b_M_again 3 = .ok (.invokevirtual 115, 3) := by decide +kernel
theorem d_M_again_6 : decode b_M_again 6 = .ok (.ifCond .ne 7, 3) := by decide +kernel
theorem d_M_again_9 : decode b_M_again 9 = .ok (.iconst 1, 1) := by decide +kernel
theorem d_M_again_10 : decode b_M_again 10 = .ok (.goto 4, 3) := by decide +kernel
theorem d_M_again_13 : decode b_M_again 13 = .ok (.iconst 0, 1) := by decide +kernel
theorem d_M_again_14 : decode b_M_again 14 = .ok (.putfield 83, 3) := by decide +kernel
theorem d_M_again_17 : decode b_M_again 17 = .ok (.aload_n 0, 1) := by decide +kernel
theorem d_M_again_18 : decode b_M_again 18 = .ok (.getfield 83, 3) := by decide +kernel
theorem d_M_again_21 : decode b_M_again 21 = .ok (.ifCond .ne 21, 3) := by decide +kernel
theorem d_M_again_24 : decode b_M_again 24 = .ok (.aload_n 0, 1) := by decide +kernel
theorem d_M_again_25 : decode b_M_again 25 = .ok (.aload_n 0, 1) := by decide +kernel
theorem d_M_again_26 : decode b_M_again 26 = .ok (.getfield 74, 3) := by decide +kernel
theorem d_M_again_29 : decode b_M_again 29 = .ok (.iload_n 1, 1) := by decide +kernel
theorem d_M_again_30 : decode b_M_again 30 = .ok (.iaload, 1) := by decide +kernel
theorem d_M_again_31 : decode b_M_again 31 = .ok (.ifCond .ne 7, 3) := by decide +kernel
theorem d_M_again_34 : decode b_M_again 34 = .ok (.iconst 2, 1) := by decide +kernel
theorem d_M_again_35 : decode b_M_again 35 = .ok (.goto 4, 3) := by decide +kernel
theorem d_M_again_38 : decode b_M_again 38 = .ok (.iconst 0, 1) := by decide +kernel
theorem d_M_again_39 : decode b_M_again 39 = .ok (.putfield 83, 3) := by decide +kernel
theorem d_M_again_42 : decode b_M_again 42 = .ok (.aload_n 0, 1) := by decide +kernel
theorem d_M_again_43 : decode b_M_again 43 = .ok (.getfield 83, 3) := by decide +kernel
theorem d_M_again_46 : decode b_M_again 46 = .ok (.ifCond .le 5, 3) := by decide +kernel
theorem d_M_again_49 : decode b_M_again 49 = .ok (.iconst 0, 1) := by decide +kernel
theorem d_M_again_50 : decode b_M_again 50 = .ok (.ireturn, 1) := by decide +kernel
theorem d_M_again_51 : decode b_M_again 51 = .ok (.aload_n 0, 1) := by decide +kernel
theorem d_M_again_52 : decode b_M_again 52 = .ok (.getfield 77, 3) := by decide +kernel
theorem d_M_again_55 : decode b_M_again 55 = .ok (.iload_n 1, 1) := by decide +kernel
theorem d_M_again_56 : decode b_M_again 56 = .ok (.dup2, 1) := by decide +kernel
theorem d_M_again_57 : decode b_M_again 57 = .ok (.iaload, 1) := by decide +kernel
theorem d_M_again_58 : decode b_M_again 58 = .ok (.iconst 1, 1) := by decide +kernel
theorem d_M_again_59 : decode b_M_again 59 = .ok (.iadd, 1) := by decide +kernel
theorem d_M_again_60 : decode b_M_again 60 = .ok (.iastore, 1) := by decide +kernel
theorem d_M_again_61 : decode b_M_again 61 = .ok (.aload_n 0, 1) := by decide +kernel
theorem d_M_again_62 : decode b_M_again 62 = .ok (.getfield 77, 3) := by decide +kernel
theorem d_M_again_65 : decode b_M_again 65 = .ok (.iload_n 1, 1) := by decide +kernel
theorem d_M_again_66 : decode b_M_again 66 = .ok (.iaload, 1) := by decide +kernel
theorem d_M_again_67 : decode b_M_again 67 = .ok (.ireturn, 1) := by decide +kernel
theorem d_M_close_0 : decode b_M_close 0 = .ok (.aload_n 0, 1) := by decide +kernel
theorem d_M_close_1 : decode b_M_close 1 = .ok (.aload_n 0, 1) := by decide +kernel
theorem d_M_close_2 : decode b_M_close 2 = .ok (.iload_n 1, 1) := by decide +kernel
theorem d_M_close_3 : decode b_M_close 3 = .ok (.iload_n 2, 1) := by decide +kernel
theorem d_M_close_4 : decode b_M_close 4 = .ok (.invokevirtual 107, 3) := by decide +kernel
theorem d_M_close_7 : decode b_M_close 7 = .ok (.ifCond .ne 7, 3) := by decide +kernel
theorem d_M_close_10 : decode b_M_close 10 = .ok (.iconst 1, 1) := by decide +kernel
theorem d_M_close_11 : decode b_M_close 11 = .ok (.goto 4, 3) := by decide +kernel
theorem d_M_close_14 : decode b_M_close 14 = .ok (.iconst 0, 1) := by decide +kernel
theorem d_M_close_15 : decode b_M_close 15 = .ok (.putfield 83, 3) := by decide +kernel
theorem d_M_close_18 : decode b_M_close 18 = .ok (.aload_n 0, 1) := by decide +kernel
theorem d_M_close_19 : decode b_M_close 19 = .ok (.getfield 83, 3) := by decide +kernel
theorem d_M_close_22 : decode b_M_close 22 = .ok (.ifCond .le 5, 3) := by decide +kernel
theorem d_M_close_25 : decode b_M_close 25 = .ok (.iconst 0, 1) := by decide +kernel
theorem d_M_close_26 : decode b_M_close 26 = .ok (.ireturn, 1) := by decide +kernel
theorem d_M_close_27 : decode b_M_close 27 = .ok (.iconst 4, 1) := by decide +kernel
theorem d_M_close_28 : decode b_M_close 28 = .ok (.iload_n 1, 1) := by decide +kernel
theorem d_M_close_29 : decode b_M_close 29 = .ok (.imul, 1) := by decide +kernel
theorem d_M_close_30 : decode b_M_close 30 = .ok (.iload_n 2, 1) := by decide +kernel
theorem d_M_close_31 : decode b_M_close 31 = .ok (.iadd, 1) := by decide +kernel
theorem d_M_close_32 : decode b_M_close 32 = .ok (.istore_n 3, 1) := by decide +kernel
theorem d_M_close_33 : decode b_M_close 33 = .ok (.aload_n 0, 1) := by decide +kernel
theorem d_M_close_34 : decode b_M_close 34 = .ok (.aload_n 0, 1) := by decide +kernel
theorem d_M_close_35 : decode b_M_close 35 = .ok (.getfield 23, 3) := by decide +kernel
theorem d_M_close_38 : decode b_M_close 38 = .ok (.iload_n 1, 1) := by decide +kernel
theorem d_M_close_39 : decode b_M_close 39 = .ok (.iaload, 1) := by decide +kernel
theorem d_M_close_40 : decode b_M_close 40 = .ok (.iconst 1, 1) := by decide +kernel
theorem d_M_close_41 : decode b_M_close 41 = .ok (.if_icmp .ne 12, 3) := by decide +kernel
theorem d_M_close_44 : decode b_M_close 44 = .ok (.aload_n 0, 1) := by decide +kernel
theorem d_M_close_45 : decode b_M_close 45 = .ok (.getfield 50, 3) := by decide +kernel
theorem d_M_close_48 : decode b_M_close 48 = .ok (.iload_n 3, 1) := by decide +kernel
theorem d_M_close_49 : decode b_M_close 49 = .ok (.baload, 1) := by decide +kernel
theorem d_M_close_50 : decode b_M_close 50 = .ok (.ifCond .eq 7, 3) := by decide +kernel
theorem d_M_close_53 : decode b_M_close 53 = .ok (.iconst 2, 1) := by decide +kernel
theorem d_M_close_54 : decode b_M_close 54 = .ok (.goto 4, 3) := by decide +kernel
theorem d_M_close_57 : decode b_M_close 57 = .ok (.iconst 0, 1) := by decide +kernel
theorem d_M_close_58 : decode b_M_close 58 = .ok (.putfield 83, 3) := by decide +kernel
theorem d_M_close_61 : decode b_M_close 61 = .ok (.aload_n 0, 1) := by decide +kernel
theorem d_M_close_62 : decode b_M_close 62 = .ok (.getfield 83, 3) := by decide +kernel
theorem d_M_close_65 : decode b_M_close 65 = .ok (.ifCond .le 5, 3) := by decide +kernel
theorem d_M_close_68 : decode b_M_close 68 = .ok (.iconst 0, 1) := by decide +kernel
theorem d_M_close_69 : decode b_M_close 69 = .ok (.ireturn, 1) := by decide +kernel
theorem d_M_close_70 : decode b_M_close 70 = .ok (.aload_n 0, 1) := by decide +kernel
theorem d_M_close_71 : decode b_M_close 71 = .ok (.iload_n 3, 1) := by decide +kernel
theorem d_M_close_72 : decode b_M_close 72 = .ok (.invokevirtual 118, 3) := by decide +kernel
theorem d_M_close_75 : decode b_M_close 75 = .ok (.ifCond .le 5, 3) := by decide +kernel
theorem d_M_close_78 : decode b_M_close 78 = .ok (.iconst 2, 1) := by decide +kernel
theorem d_M_close_79 : decode b_M_close 79 = .ok (.ireturn, 1) := by decide +kernel
theorem d_M_close_80 : decode b_M_close 80 = .ok (.aload_n 0, 1) := by decide +kernel
theorem d_M_close_81 : decode b_M_close 81 = .ok (.iload_n 3, 1) := by decide +kernel
theorem d_M_close_82 : decode b_M_close 82 = .ok (.iconst 1, 1) := by decide +kernel
theorem d_M_close_83 : decode b_M_close 83 = .ok (.invokevirtual 134, 3) := by decide +kernel
theorem d_M_close_86 : decode b_M_close 86 = .ok (.ifCond .eq 5, 3) := by decide +kernel
theorem d_M_close_89 : decode b_M_close 89 = .ok (.iconst 3, 1) := by decide +kernel
theorem d_M_close_90 : decode b_M_close 90 = .ok (.ireturn, 1) := by decide +kernel
theorem d_M_close_91 : decode b_M_close 91 = .ok (.aload_n 0, 1) := by decide +kernel
theorem d_M_close_92 : decode b_M_close 92 = .ok (.iload_n 3, 1) := by decide +kernel
theorem d_M_close_93 : decode b_M_close 93 = .ok (.iconst 0, 1) := by decide +kernel
theorem d_M_close_94 : decode b_M_close 94 = .ok (.invokevirtual 134, 3) := by decide +kernel
theorem d_M_close_97 : decode b_M_close 97 = .ok (.ifCond .eq 5, 3) := by decide +kernel
theorem d_M_close_100 : decode b_M_close 100 = .ok (.iconst 4, 1) := by decide +kernel
theorem d_M_close_101 : decode b_M_close 101 = .ok (.ireturn, 1) := by decide +kernel
theorem d_M_close_102 : decode b_M_close 102 = .ok (.aload_n 0, 1) := by decide +kernel
theorem d_M_close_103 : decode b_M_close 103 = .ok (.getfield 50, 3) := by decide +kernel
theorem d_M_close_106 : decode b_M_close 106 = .ok (.iload_n 3, 1) := by decide +kernel
theorem d_M_close_107 : decode b_M_close 107 = .ok (.iconst 1, 1) := by decide +kernel
theorem d_M_close_108 : decode b_M_close 108 = .ok (.bastore, 1) := by decide +kernel
theorem d_M_close_109 : decode b_M_close 109 = .ok (.aload_n 0, 1) := by decide +kernel
theorem d_M_close_110 : decode b_M_close 110 = .ok (.dup, 1) := by decide +kernel
theorem d_M_close_111 : decode b_M_close 111 = .ok (.getfield 138, 3) := by decide +kernel
theorem d_M_close_114 : decode b_M_close 114 = .ok (.iconst 1, 1) := by decide +kernel
theorem d_M_close_115 : decode b_M_close 115 = .ok (.iadd, 1) := by decide +kernel
theorem d_M_close_116 : decode b_M_close 116 = .ok (.putfield 138, 3) := by decide +kernel
theorem d_M_close_119 : decode b_M_close 119 = .ok (.aload_n 0, 1) := by decide +kernel
theorem d_M_close_120 : decode b_M_close 120 = .ok (.getfield 38, 3) := by decide +kernel
theorem d_M_close_123 : decode b_M_close 123 = .ok (.iload_n 3, 1) := by decide +kernel
theorem d_M_close_124 : decode b_M_close 124 = .ok (.iaload, 1) := by decide +kernel
theorem d_M_close_125 : decode b_M_close 125 = .ok (.aload_n 0, 1) := by decide +kernel
theorem d_M_close_126 : decode b_M_close 126 = .ok (.getfield 32, 3) := by decide +kernel
theorem d_M_close_129 : decode b_M_close 129 = .ok (.iload_n 3, 1) := by decide +kernel
theorem d_M_close_130 : decode b_M_close 130 = .ok (.iaload, 1) := by decide +kernel
theorem d_M_close_131 : decode b_M_close 131 = .ok (.if_icmp .eq 23, 3) := by decide +kernel
theorem d_M_close_134 : decode b_M_close 134 = .ok (.aload_n 0, 1) := by decide +kernel
theorem d_M_close_135 : decode b_M_close 135 = .ok (.getfield 80, 3) := by decide +kernel
theorem d_M_close_138 : decode b_M_close 138 = .ok (.aload_n 0, 1) := by decide +kernel
theorem d_M_close_139 : decode b_M_close 139 = .ok (.getfield 141, 3) := by decide +kernel
theorem d_M_close_142 : decode b_M_close 142 = .ok (.iload_n 3, 1) := by decide +kernel
theorem d_M_close_143 : decode b_M_close 143 = .ok (.iastore, 1) := by decide +kernel
theorem d_M_close_144 : decode b_M_close 144 = .ok (.aload_n 0, 1) := by decide +kernel
theorem d_M_close_145 : decode b_M_close 145 = .ok (.dup, 1) := by decide +kernel
theorem d_M_close_146 : decode b_M_close 146 = .ok (.getfield 141, 3) := by decide +kernel
theorem d_M_close_149 : decode b_M_close 149 = .ok (.iconst 1, 1) := by decide +kernel
theorem d_M_close_150 : decode b_M_close 150 = .ok (.iadd, 1) := by decide +kernel
theorem d_M_close_151 : decode b_M_close 151 = .ok (.putfield 141, 3) := by decide +kernel
theorem d_M_close_154 : decode b_M_close 154 = .ok (.iconst 1, 1) := by decide +kernel
theorem d_M_close_155 : decode b_M_close 155 = .ok (.ireturn, 1) := by decide +kernel
theorem d_M_hasOne_0 : decode b_M_hasOne 0 = .ok (.iconst 1, 1) := by decide +kernel
theorem d_M_hasOne_1 : decode b_M_hasOne 1 = .ok (.istore_n 3, 1) := by decide +kernel
theorem d_M_hasOne_2 : decode b_M_hasOne 2 = .ok (.iload_n 3, 1) := by decide +kernel
theorem d_M_hasOne_3 : decode b_M_hasOne 3 = .ok (.aload_n 0, 1) := by decide +kernel
theorem d_M_hasOne_4 : decode b_M_hasOne 4 = .ok (.getfield 98, 3) := by decide +kernel
theorem d_M_hasOne_7 : decode b_M_hasOne 7 = .ok (.if_icmp .gt 60, 3) := by decide +kernel
theorem d_M_hasOne_10 : decode b_M_hasOne 10 = .ok (.aload_n 0, 1) := by decide +kernel
theorem d_M_hasOne_11 : decode b_M_hasOne 11 = .ok (.getfield 56, 3) := by decide +kernel
theorem d_M_hasOne_14 : decode b_M_hasOne 14 = .ok (.iload_n 3, 1) := by decide +kernel
theorem d_M_hasOne_15 : decode b_M_hasOne 15 = .ok (.iaload, 1) := by decide +kernel
theorem d_M_hasOne_16 : decode b_M_hasOne 16 = .ok (.iload_n 1, 1) := by decide +kernel
theorem d_M_hasOne_17 : decode b_M_hasOne 17 = .ok (.if_icmp .eq 6, 3) := by decide +kernel
theorem d_M_hasOne_20 : decode b_M_hasOne 20 = .ok (.goto 41, 3) := by decide +kernel
theorem d_M_hasOne_23 : decode b_M_hasOne 23 = .ok (.iload_n 2, 1) := by decide +kernel
theorem d_M_hasOne_24 : decode b_M_hasOne 24 = .ok (.ifCond .eq 16, 3) := by decide +kernel
theorem d_M_hasOne_27 : decode b_M_hasOne 27 = .ok (.aload_n 0, 1) := by decide +kernel
theorem d_M_hasOne_28 : decode b_M_hasOne 28 = .ok (.getfield 59, 3) := by decide +kernel
theorem d_M_hasOne_31 : decode b_M_hasOne 31 = .ok (.iload_n 3, 1) := by decide +kernel
theorem d_M_hasOne_32 : decode b_M_hasOne 32 = .ok (.iaload, 1) := by decide +kernel
theorem d_M_hasOne_33 : decode b_M_hasOne 33 = .ok (.iconst 3, 1) := by decide +kernel
theorem d_M_hasOne_34 : decode b_M_hasOne 34 = .ok (.if_icmp .ne 27, 3) := by decide +kernel
theorem d_M_hasOne_37 : decode b_M_hasOne 37 = .ok (.goto 22, 3) := by decide +kernel
theorem d_M_hasOne_40 : decode b_M_hasOne 40 = .ok (.aload_n 0, 1) := by decide +kernel
theorem d_M_hasOne_41 : decode b_M_hasOne 41 = .ok (.getfield 74, 3) := by decide +kernel
theorem d_M_hasOne_44 : decode b_M_hasOne 44 = .ok (.iload_n 3, 1) := by decide +kernel
theorem d_M_hasOne_45 : decode b_M_hasOne 45 = .ok (.iaload, 1) := by decide +kernel
theorem d_M_hasOne_46 : decode b_M_hasOne 46 = .ok (.ifCond .ne 15, 3) := by decide +kernel
theorem d_M_hasOne_49 : decode b_M_hasOne 49 = .ok (.aload_n 0, 1) := by decide +kernel
theorem d_M_hasOne_50 : decode b_M_hasOne 50 = .ok (.getfield 59, 3) := by decide +kernel
theorem d_M_hasOne_53 : decode b_M_hasOne 53 = .ok (.iload_n 3, 1) := by decide +kernel
theorem d_M_hasOne_54 : decode b_M_hasOne 54 = .ok (.iaload, 1) := by decide +kernel
theorem d_M_hasOne_55 : decode b_M_hasOne 55 = .ok (.iconst 1, 1) := by decide +kernel
theorem d_M_hasOne_56 : decode b_M_hasOne 56 = .ok (.if_icmp .eq 5, 3) := by decide +kernel
theorem d_M_hasOne_59 : decode b_M_hasOne 59 = .ok (.iconst 1, 1) := by decide +kernel
theorem d_M_hasOne_60 : decode b_M_hasOne 60 = .ok (.ireturn, 1) := by decide +kernel
theorem d_M_hasOne_61 : decode b_M_hasOne 61 = .ok (.iinc 3 1, 3) := by decide +kernel
theorem d_M_hasOne_64 : decode b_M_hasOne 64 = .ok (.goto (-62), 3) := by decide +kernel
theorem d_M_hasOne_67 : decode b_M_hasOne 67 = .ok (.iconst 0, 1) := by decide +kernel
theorem d_M_hasOne_68 : decode b_M_hasOne 68 = .ok (.ireturn, 1) := by decide +kernel
theorem d_M_closeAll_0 : decode b_M_closeAll 0 = .ok (.aload_n 0, 1) := by decide +kernel
theorem d_M_closeAll_1 : decode b_M_closeAll 1 = .ok (.aload_n 0, 1) := by decide +kernel
theorem d_M_closeAll_2 : decode b_M_closeAll 2 = .ok (.iload_n 1, 1) := by decide +kernel
theorem d_M_closeAll_3 : decode b_M_closeAll 3 = .ok (.invokevirtual 94, 3) := by decide +kernel
theorem d_M_closeAll_6 : decode b_M_closeAll 6 = .ok (.ifCond .ne 7, 3) := by decide +kernel
theorem d_M_closeAll_9 : decode b_M_closeAll 9 = .ok (.iconst 1, 1) := by decide +kernel
theorem d_M_closeAll_10 : decode b_M_closeAll 10 = .ok (.goto 4, 3) := by decide +kernel
theorem d_M_closeAll_13 : decode b_M_closeAll 13 = .ok (.iconst 0, 1) := by decide +kernel
theorem d_M_closeAll_14 : decode b_M_closeAll 14 = .ok (.putfield 83, 3) := by decide +kernel
theorem d_M_closeAll_17 : decode b_M_closeAll 17 = .ok (.aload_n 0, 1) := by decide +kernel
theorem d_M_closeAll_18 : decode b_M_closeAll 18 = .ok (.getfield 83, 3) := by decide +kernel
theorem d_M_closeAll_21 : decode b_M_closeAll 21 = .ok (.ifCond .ne 22, 3) := by decide +kernel
theorem d_M_closeAll_24 : decode b_M_closeAll 24 = .ok (.aload_n 0, 1) := by decide +kernel
theorem d_M_closeAll_25 : decode b_M_closeAll 25 = .ok (.aload_n 0, 1) := by decide +kernel
theorem d_M_closeAll_26 : decode b_M_closeAll 26 = .ok (.getfield 23, 3) := by decide +kernel
theorem d_M_closeAll_29 : decode b_M_closeAll 29 = .ok (.iload_n 1, 1) := by decide +kernel
theorem d_M_closeAll_30 : decode b_M_closeAll 30 = .ok (.iaload, 1) := by decide +kernel
theorem d_M_closeAll_31 : decode b_M_closeAll 31 = .ok (.iconst 1, 1) := by decide +kernel
theorem d_M_closeAll_32 : decode b_M_closeAll 32 = .ok (.if_icmp .eq 7, 3) := by decide +kernel
theorem d_M_closeAll_35 : decode b_M_closeAll 35 = .ok (.iconst 2, 1) := by decide +kernel
theorem d_M_closeAll_36 : decode b_M_closeAll 36 = .ok (.goto 4, 3) := by decide +kernel
theorem d_M_closeAll_39 : decode b_M_closeAll 39 = .ok (.iconst 0, 1) := by decide +kernel
theorem d_M_closeAll_40 : decode b_M_closeAll 40 = .ok (.putfield 83, 3) := by decide +kernel
theorem d_M_closeAll_43 : decode b_M_closeAll 43 = .ok (.aload_n 0, 1) := by decide +kernel
theorem d_M_closeAll_44 : decode b_M_closeAll 44 = .ok (.getfield 83, 3) := by decide +kernel
theorem d_M_closeAll_47 : decode b_M_closeAll 47 = .ok (.ifCond .le 5, 3) := by decide +kernel
theorem d_M_closeAll_50 : decode b_M_closeAll 50 = .ok (.iconst 0, 1) := by decide +kernel
theorem d_M_closeAll_51 : decode b_M_closeAll 51 = .ok (.ireturn, 1) := by decide +kernel
theorem d_M_closeAll_52 : decode b_M_closeAll 52 = .ok (.iconst 0, 1) := by decide +kernel
theorem d_M_closeAll_53 : decode b_M_closeAll 53 = .ok (.istore_n 2, 1) := by decide +kernel
theorem d_M_closeAll_54 : decode b_M_closeAll 54 = .ok (.iload_n 2, 1) := by decide +kernel
theorem d_M_closeAll_55 : decode b_M_closeAll 55 = .ok (.aload_n 0, 1) := by decide +kernel
theorem d_M_closeAll_56 : decode b_M_closeAll 56 = .ok (.getfield 20, 3) := by decide +kernel
theorem d_M_closeAll_59 : decode b_M_closeAll 59 = .ok (.iload_n 1, 1) := by decide +kernel
theorem d_M_closeAll_60 : decode b_M_closeAll 60 = .ok (.iaload, 1) := by decide +kernel
theorem d_M_closeAll_61 : decode b_M_closeAll 61 = .ok (.if_icmp .ge 26, 3) := by decide +kernel
theorem d_M_closeAll_64 : decode b_M_closeAll 64 = .ok (.aload_n 0, 1) := by decide +kernel
theorem d_M_closeAll_65 : decode b_M_closeAll 65 = .ok (.getfield 50, 3) := by decide +kernel
theorem d_M_closeAll_68 : decode b_M_closeAll 68 = .ok (.iconst 4, 1) := by decide +kernel
theorem d_M_closeAll_69 : decode b_M_closeAll 69 = .ok (.iload_n 1, 1) := by decide +kernel
theorem d_M_closeAll_70 : decode b_M_closeAll 70 = .ok (.imul, 1) := by decide +kernel
theorem d_M_closeAll_71 : decode b_M_closeAll 71 = .ok (.iload_n 2, 1) := by decide +kernel
theorem d_M_closeAll_72 : decode b_M_closeAll 72 = .ok (.iadd, 1) := by decide +kernel
theorem d_M_closeAll_73 : decode b_M_closeAll 73 = .ok (.baload, 1) := by decide +kernel
theorem d_M_closeAll_74 : decode b_M_closeAll 74 = .ok (.ifCond .ne 7, 3) := by decide +kernel
theorem d_M_closeAll_77 : decode b_M_closeAll 77 = .ok (.iconst (-1), 1) := by decide +kernel
theorem d_M_closeAll_78 : decode b_M_closeAll 78 = .ok (.iload_n 2, 1) := by decide +kernel
theorem d_M_closeAll_79 : decode b_M_closeAll 79 = .ok (.isub, 1) := by decide +kernel
theorem d_M_closeAll_80 : decode b_M_closeAll 80 = .ok (.ireturn, 1) := by decide +kernel
theorem d_M_closeAll_81 : decode b_M_closeAll 81 = .ok (.iinc 2 1, 3) := by decide +kernel
theorem d_M_closeAll_84 : decode b_M_closeAll 84 = .ok (.goto (-30), 3) := by decide +kernel
theorem d_M_closeAll_87 : decode b_M_closeAll 87 = .ok (.aload_n 0, 1) := by decide +kernel
theorem d_M_closeAll_88 : decode b_M_closeAll 88 = .ok (.getfield 23, 3) := by decide +kernel
theorem d_M_closeAll_91 : decode b_M_closeAll 91 = .ok (.iload_n 1, 1) := by decide +kernel
theorem d_M_closeAll_92 : decode b_M_closeAll 92 = .ok (.iconst 3, 1) := by decide +kernel
theorem d_M_closeAll_93 : decode b_M_closeAll 93 = .ok (.iastore, 1) := by decide +kernel
theorem d_M_closeAll_94 : decode b_M_closeAll 94 = .ok (.iconst 1, 1) := by decide +kernel
theorem d_M_closeAll_95 : decode b_M_closeAll 95 = .ok (.ireturn, 1) := by decide +kernel
theorem d_M_day_0 : decode b_M_day 0 = .ok (.aload_n 0, 1) := by decide +kernel
theorem d_M_day_1 : decode b_M_day 1 = .ok (.iload_n 1, 1) := by decide +kernel
theorem d_M_day_2 : decode b_M_day 2 = .ok (.iconst 0, 1) := by decide +kernel
theorem d_M_day_3 : decode b_M_day 3 = .ok (.sipush 10000, 3) := by decide +kernel
theorem d_M_day_6 : decode b_M_day 6 = .ok (.invokestatic 90, 3) := by decide +kernel
theorem d_M_day_9 : decode b_M_day 9 = .ok (.ifCond .ne 7, 3) := by decide +kernel
theorem d_M_day_12 : decode b_M_day 12 = .ok (.iconst 1, 1) := by decide +kernel
theorem d_M_day_13 : decode b_M_day 13 = .ok (.goto 16, 3) := by decide +kernel
theorem d_M_day_16 : decode b_M_day 16 = .ok (.iload_n 1, 1) := by decide +kernel
theorem d_M_day_17 : decode b_M_day 17 = .ok (.aload_n 0, 1) := by decide +kernel
theorem d_M_day_18 : decode b_M_day 18 = .ok (.getfield 121, 3) := by decide +kernel
theorem d_M_day_21 : decode b_M_day 21 = .ok (.if_icmp .ge 7, 3) := by decide +kernel
theorem d_M_day_24 : decode b_M_day 24 = .ok (.iconst 2, 1) := by decide +kernel
theorem d_M_day_25 : decode b_M_day 25 = .ok (.goto 4, 3) := by decide +kernel
theorem d_M_day_28 : decode b_M_day 28 = .ok (.iconst 0, 1) := by decide +kernel
theorem d_M_day_29 : decode b_M_day 29 = .ok (.putfield 83, 3) := by decide +kernel
theorem d_M_day_32 : decode b_M_day 32 = .ok (.aload_n 0, 1) := by decide +kernel
theorem d_M_day_33 : decode b_M_day 33 = .ok (.getfield 83, 3) := by decide +kernel
theorem d_M_day_36 : decode b_M_day 36 = .ok (.ifCond .ne 8, 3) := by decide +kernel
theorem d_M_day_39 : decode b_M_day 39 = .ok (.aload_n 0, 1) := by decide +kernel
theorem d_M_day_40 : decode b_M_day 40 = .ok (.iload_n 1, 1) := by decide +kernel
theorem d_M_day_41 : decode b_M_day 41 = .ok (.putfield 121, 3) := by decide +kernel
theorem d_M_day_44 : decode b_M_day 44 = .ok (.return_, 1) := by decide +kernel
theorem d_M_differ_0 : decode b_M_differ 0 = .ok (.aload_n 0, 1) := by decide +kernel
theorem d_M_differ_1 : decode b_M_differ 1 = .ok (.iload_n 1, 1) := by decide +kernel
theorem d_M_differ_2 : decode b_M_differ 2 = .ok (.iconst 0, 1) := by decide +kernel
theorem d_M_differ_3 : decode b_M_differ 3 = .ok (.aload_n 0, 1) := by decide +kernel
theorem d_M_differ_4 : decode b_M_differ 4 = .ok (.getfield 141, 3) := by decide +kernel
theorem d_M_differ_7 : decode b_M_differ 7 = .ok (.iconst 1, 1) := by decide +kernel
theorem d_M_differ_8 : decode b_M_differ 8 = .ok (.isub, 1) := by decide +kernel
theorem d_M_differ_9 : decode b_M_differ 9 = .ok (.invokestatic 90, 3) := by decide +kernel
theorem d_M_differ_12 : decode b_M_differ 12 = .ok (.ifCond .ne 7, 3) := by decide +kernel
theorem d_M_differ_15 : decode b_M_differ 15 = .ok (.iconst 1, 1) := by decide +kernel
theorem d_M_differ_16 : decode b_M_differ 16 = .ok (.goto 17, 3) := by decide +kernel
theorem d_M_differ_19 : decode b_M_differ 19 = .ok (.iload_n 2, 1) := by decide +kernel
theorem d_M_differ_20 : decode b_M_differ 20 = .ok (.iconst 0, 1) := by decide +kernel
theorem d_M_differ_21 : decode b_M_differ 21 = .ok (.iconst 2, 1) := by decide +kernel
theorem d_M_differ_22 : decode b_M_differ 22 = .ok (.invokestatic 90, 3) := by decide +kernel
theorem d_M_differ_25 : decode b_M_differ 25 = .ok (.ifCond .ne 7, 3) := by decide +kernel
theorem d_M_differ_28 : decode b_M_differ 28 = .ok (.iconst 2, 1) := by decide +kernel
theorem d_M_differ_29 : decode b_M_differ 29 = .ok (.goto 4, 3) := by decide +kernel
theorem d_M_differ_32 : decode b_M_differ 32 = .ok (.iconst 0, 1) := by decide +kernel
theorem d_M_differ_33 : decode b_M_differ 33 = .ok (.putfield 83, 3) := by decide +kernel
theorem d_M_differ_36 : decode b_M_differ 36 = .ok (.aload_n 0, 1) := by decide +kernel
theorem d_M_differ_37 : decode b_M_differ 37 = .ok (.getfield 83, 3) := by decide +kernel
theorem d_M_differ_40 : decode b_M_differ 40 = .ok (.ifCond .le 5, 3) := by decide +kernel
theorem d_M_differ_43 : decode b_M_differ 43 = .ok (.iconst 0, 1) := by decide +kernel
theorem d_M_differ_44 : decode b_M_differ 44 = .ok (.ireturn, 1) := by decide +kernel
theorem d_M_differ_45 : decode b_M_differ 45 = .ok (.aload_n 0, 1) := by decide +kernel
theorem d_M_differ_46 : decode b_M_differ 46 = .ok (.getfield 80, 3) := by decide +kernel
theorem d_M_differ_49 : decode b_M_differ 49 = .ok (.iload_n 1, 1) := by decide +kernel
theorem d_M_differ_50 : decode b_M_differ 50 = .ok (.iaload, 1) := by decide +kernel
theorem d_M_differ_51 : decode b_M_differ 51 = .ok (.istore_n 3, 1) := by decide +kernel
theorem d_M_differ_52 : decode b_M_differ 52 = .ok (.iload_n 2, 1) := by decide +kernel
theorem d_M_differ_53 : decode b_M_differ 53 = .ok (.ifCond .ne 9, 3) := by decide +kernel
theorem d_M_differ_56 : decode b_M_differ 56 = .ok (.iload_n 3, 1) := by decide +kernel
theorem d_M_differ_57 : decode b_M_differ 57 = .ok (.iconst 4, 1) := by decide +kernel
theorem d_M_differ_58 : decode b_M_differ 58 = .ok (.idiv, 1) := by decide +kernel
theorem d_M_differ_59 : decode b_M_differ 59 = .ok (.goto 27, 3) := by decide +kernel
theorem d_M_differ_62 : decode b_M_differ 62 = .ok (.iload_n 2, 1) := by decide +kernel
theorem d_M_differ_63 : decode b_M_differ 63 = .ok (.iconst 1, 1) := by decide +kernel
theorem d_M_differ_64 : decode b_M_differ 64 = .ok (.if_icmp .ne 9, 3) := by decide +kernel
theorem d_M_differ_67 : decode b_M_differ 67 = .ok (.iload_n 3, 1) := by decide +kernel
theorem d_M_differ_68 : decode b_M_differ 68 = .ok (.iconst 4, 1) := by decide +kernel
theorem d_M_differ_69 : decode b_M_differ 69 = .ok (.irem, 1) := by decide +kernel
theorem d_M_differ_70 : decode b_M_differ 70 = .ok (.goto 16, 3) := by decide +kernel
theorem d_M_differ_73 : decode b_M_differ 73 = .ok (.aload_n 0, 1) := by decide +kernel
theorem d_M_differ_74 : decode b_M_differ 74 = .ok (.getfield 38, 3) := by decide +kernel
theorem d_M_differ_77 : decode b_M_differ 77 = .ok (.iload_n 3, 1) := by decide +kernel
theorem d_M_differ_78 : decode b_M_differ 78 = .ok (.iaload, 1) := by decide +kernel
theorem d_M_differ_79 : decode b_M_differ 79 = .ok (.aload_n 0, 1) := by decide +kernel
theorem d_M_differ_80 : decode b_M_differ 80 = .ok (.getfield 32, 3) := by decide +kernel
theorem d_M_differ_83 : decode b_M_differ 83 = .ok (.iload_n 3, 1) := by decide +kernel
theorem d_M_differ_84 : decode b_M_differ 84 = .ok (.iaload, 1) := by decide +kernel
theorem d_M_differ_85 : decode b_M_differ 85 = .ok (.isub, 1) := by decide +kernel
theorem d_M_differ_86 : decode b_M_differ 86 = .ok (.ireturn, 1) := by decide +kernel
theorem d_M_claim_0 : decode b_M_claim 0 = .ok (.aload_n 0, 1) := by decide +kernel
theorem d_M_claim_1 : decode b_M_claim 1 = .ok (.aload_n 0, 1) := by decide +kernel
theorem d_M_claim_2 : decode b_M_claim 2 = .ok (.iload_n 1, 1) := by decide +kernel
theorem d_M_claim_3 : decode b_M_claim 3 = .ok (.invokevirtual 94, 3) := by decide +kernel
theorem d_M_claim_6 : decode b_M_claim 6 = .ok (.ifCond .ne 7, 3) := by decide +kernel
theorem d_M_claim_9 : decode b_M_claim 9 = .ok (.iconst 1, 1) := by decide +kernel
theorem d_M_claim_10 : decode b_M_claim 10 = .ok (.goto 12, 3) := by decide +kernel
theorem d_M_claim_13 : decode b_M_claim 13 = .ok (.iload_n 2, 1) := by decide +kernel
theorem d_M_claim_14 : decode b_M_claim 14 = .ok (.ifCond .ge 7, 3) := by decide +kernel
theorem d_M_claim_17 : decode b_M_claim 17 = .ok (.iconst 2, 1) := by decide +kernel
theorem d_M_claim_18 : decode b_M_claim 18 = .ok (.goto 4, 3) := by decide +kernel
theorem d_M_claim_21 : decode b_M_claim 21 = .ok (.iconst 0, 1) := by decide +kernel
theorem d_M_claim_22 : decode b_M_claim 22 = .ok (.putfield 83, 3) := by decide +kernel
theorem d_M_claim_25 : decode b_M_claim 25 = .ok (.aload_n 0, 1) := by decide +kernel
theorem d_M_claim_26 : decode b_M_claim 26 = .ok (.getfield 83, 3) := by decide +kernel
theorem d_M_claim_29 : decode b_M_claim 29 = .ok (.ifCond .le 5, 3) := by decide +kernel
theorem d_M_claim_32 : decode b_M_claim 32 = .ok (.iconst 0, 1) := by decide +kernel
theorem d_M_claim_33 : decode b_M_claim 33 = .ok (.ireturn, 1) := by decide +kernel
theorem d_M_claim_34 : decode b_M_claim 34 = .ok (.iload_n 2, 1) := by decide +kernel
theorem d_M_claim_35 : decode b_M_claim 35 = .ok (.istore_n 3, 1) := by decide +kernel
theorem d_M_claim_36 : decode b_M_claim 36 = .ok (.iconst 1, 1) := by decide +kernel
theorem d_M_claim_37 : decode b_M_claim 37 = .ok (.istore 4, 2) := by decide +kernel
theorem d_M_claim_39 : decode b_M_claim 39 = .ok (.iload 4, 2) := by decide +kernel
theorem d_M_claim_41 : decode b_M_claim 41 = .ok (.aload_n 0, 1) := by decide +kernel
theorem d_M_claim_42 : decode b_M_claim 42 = .ok (.getfield 98, 3) := by decide +kernel
theorem d_M_claim_45 : decode b_M_claim 45 = .ok (.if_icmp .gt 46, 3) := by decide +kernel
theorem d_M_claim_48 : decode b_M_claim 48 = .ok (.aload_n 0, 1) := by decide +kernel
theorem d_M_claim_49 : decode b_M_claim 49 = .ok (.getfield 56, 3) := by decide +kernel
theorem d_M_claim_52 : decode b_M_claim 52 = .ok (.iload 4, 2) := by decide +kernel
theorem d_M_claim_54 : decode b_M_claim 54 = .ok (.iaload, 1) := by decide +kernel
theorem d_M_claim_55 : decode b_M_claim 55 = .ok (.iconst 4, 1) := by decide +kernel
theorem d_M_claim_56 : decode b_M_claim 56 = .ok (.idiv, 1) := by decide +kernel
theorem d_M_claim_57 : decode b_M_claim 57 = .ok (.iload_n 1, 1) := by decide +kernel
theorem d_M_claim_58 : decode b_M_claim 58 = .ok (.if_icmp .ne 27, 3) := by decide +kernel
theorem d_M_claim_61 : decode b_M_claim 61 = .ok (.aload_n 0, 1) := by decide +kernel
theorem d_M_claim_62 : decode b_M_claim 62 = .ok (.getfield 59, 3) := by decide +kernel
theorem d_M_claim_65 : decode b_M_claim 65 = .ok (.iload 4, 2) := by decide +kernel
theorem d_M_claim_67 : decode b_M_claim 67 = .ok (.iaload, 1) := by decide +kernel
theorem d_M_claim_68 : decode b_M_claim 68 = .ok (.iconst 1, 1) := by decide +kernel
theorem d_M_claim_69 : decode b_M_claim 69 = .ok (.if_icmp .eq 6, 3) := by decide +kernel
theorem d_M_claim_72 : decode b_M_claim 72 = .ok (.goto 13, 3) := by decide +kernel
theorem d_M_claim_75 : decode b_M_claim 75 = .ok (.iload_n 3, 1) := by decide +kernel
theorem d_M_claim_76 : decode b_M_claim 76 = .ok (.ifCond .ne 6, 3) := by decide +kernel
theorem d_M_claim_79 : decode b_M_claim 79 = .ok (.iload 4, 2) := by decide +kernel
theorem d_M_claim_81 : decode b_M_claim 81 = .ok (.ireturn, 1) := by decide +kernel
theorem d_M_claim_82 : decode b_M_claim 82 = .ok (.iinc 3 (-1), 3) := by decide +kernel
theorem d_M_claim_85 : decode b_M_claim 85 = .ok (.iinc 4 1, 3) := by decide +kernel
theorem d_M_claim_88 : decode b_M_claim 88 = .ok (.goto (-49), 3) := by decide +kernel
theorem d_M_claim_91 : decode b_M_claim 91 = .ok (.iconst (-1), 1) := by decide +kernel
theorem d_M_claim_92 : decode b_M_claim 92 = .ok (.ireturn, 1) := by decide +kernel
theorem d_M_unit_0 : decode b_M_unit 0 = .ok (.aload_n 0, 1) := by decide +kernel
theorem d_M_unit_1 : decode b_M_unit 1 = .ok (.aload_n 0, 1) := by decide +kernel
theorem d_M_unit_2 : decode b_M_unit 2 = .ok (.iload_n 1, 1) := by decide +kernel
theorem d_M_unit_3 : decode b_M_unit 3 = .ok (.invokevirtual 115, 3) := by decide +kernel
theorem d_M_unit_6 : decode b_M_unit 6 = .ok (.ifCond .ne 7, 3) := by decide +kernel
theorem d_M_unit_9 : decode b_M_unit 9 = .ok (.iconst 1, 1) := by decide +kernel
theorem d_M_unit_10 : decode b_M_unit 10 = .ok (.goto 18, 3) := by decide +kernel
theorem d_M_unit_13 : decode b_M_unit 13 = .ok (.iload_n 2, 1) := by decide +kernel
theorem d_M_unit_14 : decode b_M_unit 14 = .ok (.iconst 0, 1) := by decide +kernel
theorem d_M_unit_15 : decode b_M_unit 15 = .ok (.bipush 7, 2) := by decide +kernel
theorem d_M_unit_17 : decode b_M_unit 17 = .ok (.invokestatic 90, 3) := by decide +kernel
theorem d_M_unit_20 : decode b_M_unit 20 = .ok (.ifCond .ne 7, 3) := by decide +kernel
theorem d_M_unit_23 : decode b_M_unit 23 = .ok (.iconst 2, 1) := by decide +kernel
theorem d_M_unit_24 : decode b_M_unit 24 = .ok (.goto 4, 3) := by decide +kernel
theorem d_M_unit_27 : decode b_M_unit 27 = .ok (.iconst 0, 1) := by decide +kernel
theorem d_M_unit_28 : decode b_M_unit 28 = .ok (.putfield 83, 3) := by decide +kernel
theorem d_M_unit_31 : decode b_M_unit 31 = .ok (.aload_n 0, 1) := by decide +kernel
theorem d_M_unit_32 : decode b_M_unit 32 = .ok (.getfield 83, 3) := by decide +kernel
theorem d_M_unit_35 : decode b_M_unit 35 = .ok (.ifCond .le 5, 3) := by decide +kernel
theorem d_M_unit_38 : decode b_M_unit 38 = .ok (.iconst 0, 1) := by decide +kernel
theorem d_M_unit_39 : decode b_M_unit 39 = .ok (.ireturn, 1) := by decide +kernel
theorem d_M_unit_40 : decode b_M_unit 40 = .ok (.iload_n 2, 1) := by decide +kernel
theorem d_M_unit_41 : decode b_M_unit 41 = .ok (.ifCond .ne 10, 3) := by decide +kernel
theorem d_M_unit_44 : decode b_M_unit 44 = .ok (.aload_n 0, 1) := by decide +kernel
theorem d_M_unit_45 : decode b_M_unit 45 = .ok (.getfield 59, 3) := by decide +kernel
theorem d_M_unit_48 : decode b_M_unit 48 = .ok (.iload_n 1, 1) := by decide +kernel
theorem d_M_unit_49 : decode b_M_unit 49 = .ok (.iaload, 1) := by decide +kernel
theorem d_M_unit_50 : decode b_M_unit 50 = .ok (.ireturn, 1) := by decide +kernel
theorem d_M_unit_51 : decode b_M_unit 51 = .ok (.iload_n 2, 1) := by decide +kernel
theorem d_M_unit_52 : decode b_M_unit 52 = .ok (.iconst 1, 1) := by decide +kernel
theorem d_M_unit_53 : decode b_M_unit 53 = .ok (.if_icmp .ne 12, 3) := by decide +kernel
theorem d_M_unit_56 : decode b_M_unit 56 = .ok (.aload_n 0, 1) := by decide +kernel
theorem d_M_unit_57 : decode b_M_unit 57 = .ok (.getfield 56, 3) := by decide +kernel
theorem d_M_unit_60 : decode b_M_unit 60 = .ok (.iload_n 1, 1) := by decide +kernel
theorem d_M_unit_61 : decode b_M_unit 61 = .ok (.iaload, 1) := by decide +kernel
theorem d_M_unit_62 : decode b_M_unit 62 = .ok (.iconst 4, 1) := by decide +kernel
theorem d_M_unit_63 : decode b_M_unit 63 = .ok (.idiv, 1) := by decide +kernel
theorem d_M_unit_64 : decode b_M_unit 64 = .ok (.ireturn, 1) := by decide +kernel
theorem d_M_unit_65 : decode b_M_unit 65 = .ok (.iload_n 2, 1) := by decide +kernel
theorem d_M_unit_66 : decode b_M_unit 66 = .ok (.iconst 2, 1) := by decide +kernel
theorem d_M_unit_67 : decode b_M_unit 67 = .ok (.if_icmp .ne 12, 3) := by decide +kernel
theorem d_M_unit_70 : decode b_M_unit 70 = .ok (.aload_n 0, 1) := by decide +kernel
theorem d_M_unit_71 : decode b_M_unit 71 = .ok (.getfield 56, 3) := by decide +kernel
theorem d_M_unit_74 : decode b_M_unit 74 = .ok (.iload_n 1, 1) := by decide +kernel
theorem d_M_unit_75 : decode b_M_unit 75 = .ok (.iaload, 1) := by decide +kernel
theorem d_M_unit_76 : decode b_M_unit 76 = .ok (.iconst 4, 1) := by decide +kernel
theorem d_M_unit_77 : decode b_M_unit 77 = .ok (.irem, 1) := by decide +kernel
theorem d_M_unit_78 : decode b_M_unit 78 = .ok (.ireturn, 1) := by decide +kernel
theorem d_M_unit_79 : decode b_M_unit 79 = .ok (.iload_n 2, 1) := by decide +kernel
theorem d_M_unit_80 : decode b_M_unit 80 = .ok (.iconst 3, 1) := by decide +kernel
theorem d_M_unit_81 : decode b_M_unit 81 = .ok (.if_icmp .ne 10, 3) := by decide +kernel
theorem d_M_unit_84 : decode b_M_unit 84 = .ok (.aload_n 0, 1) := by decide +kernel
theorem d_M_unit_85 : decode b_M_unit 85 = .ok (.getfield 62, 3) := by decide +kernel
theorem d_M_unit_88 : decode b_M_unit 88 = .ok (.iload_n 1, 1) := by decide +kernel
theorem d_M_unit_89 : decode b_M_unit 89 = .ok (.iaload, 1) := by decide +kernel
theorem d_M_unit_90 : decode b_M_unit 90 = .ok (.ireturn, 1) := by decide +kernel
theorem d_M_unit_91 : decode b_M_unit 91 = .ok (.iload_n 2, 1) := by decide +kernel
theorem d_M_unit_92 : decode b_M_unit 92 = .ok (.iconst 4, 1) := by decide +kernel
theorem d_M_unit_93 : decode b_M_unit 93 = .ok (.if_icmp .ne 10, 3) := by decide +kernel
theorem d_M_unit_96 : decode b_M_unit 96 = .ok (.aload_n 0, 1) := by decide +kernel
theorem d_M_unit_97 : decode b_M_unit 97 = .ok (.getfield 65, 3) := by decide +kernel
theorem d_M_unit_100 : decode b_M_unit 100 = .ok (.iload_n 1, 1) := by decide +kernel
theorem d_M_unit_101 : decode b_M_unit 101 = .ok (.iaload, 1) := by decide +kernel
theorem d_M_unit_102 : decode b_M_unit 102 = .ok (.ireturn, 1) := by decide +kernel
theorem d_M_unit_103 : decode b_M_unit 103 = .ok (.iload_n 2, 1) := by decide +kernel
theorem d_M_unit_104 : decode b_M_unit 104 = .ok (.iconst 5, 1) := by decide +kernel
theorem d_M_unit_105 : decode b_M_unit 105 = .ok (.if_icmp .ne 12, 3) := by decide +kernel
theorem d_M_unit_108 : decode b_M_unit 108 = .ok (.aload_n 0, 1) := by decide +kernel
theorem d_M_unit_109 : decode b_M_unit 109 = .ok (.getfield 68, 3) := by decide +kernel
theorem d_M_unit_112 : decode b_M_unit 112 = .ok (.iload_n 1, 1) := by decide +kernel
theorem d_M_unit_113 : decode b_M_unit 113 = .ok (.iaload, 1) := by decide +kernel
theorem d_M_unit_114 : decode b_M_unit 114 = .ok (.goto 24, 3) := by decide +kernel
theorem d_M_unit_117 : decode b_M_unit 117 = .ok (.iload_n 2, 1) := by decide +kernel
theorem d_M_unit_118 : decode b_M_unit 118 = .ok (.bipush 6, 2) := by decide +kernel
theorem d_M_unit_120 : decode b_M_unit 120 = .ok (.if_icmp .ne 12, 3) := by decide +kernel
theorem d_M_unit_123 : decode b_M_unit 123 = .ok (.aload_n 0, 1) := by decide +kernel
theorem d_M_unit_124 : decode b_M_unit 124 = .ok (.getfield 71, 3) := by decide +kernel
theorem d_M_unit_127 : decode b_M_unit 127 = .ok (.iload_n 1, 1) := by decide +kernel
theorem d_M_unit_128 : decode b_M_unit 128 = .ok (.iaload, 1) := by decide +kernel
theorem d_M_unit_129 : decode b_M_unit 129 = .ok (.goto 9, 3) := by decide +kernel
theorem d_M_unit_132 : decode b_M_unit 132 = .ok (.aload_n 0, 1) := by decide +kernel
theorem d_M_unit_133 : decode b_M_unit 133 = .ok (.getfield 74, 3) := by decide +kernel
theorem d_M_unit_136 : decode b_M_unit 136 = .ok (.iload_n 1, 1) := by decide +kernel
theorem d_M_unit_137 : decode b_M_unit 137 = .ok (.iaload, 1) := by decide +kernel
theorem d_M_unit_138 : decode b_M_unit 138 = .ok (.ireturn, 1) := by decide +kernel
theorem d_M_told_0 : decode b_M_told 0 = .ok (.aload_n 0, 1) := by decide +kernel
theorem d_M_told_1 : decode b_M_told 1 = .ok (.aload_n 0, 1) := by decide +kernel
theorem d_M_told_2 : decode b_M_told 2 = .ok (.iload_n 1, 1) := by decide +kernel
theorem d_M_told_3 : decode b_M_told 3 = .ok (.iload_n 2, 1) := by decide +kernel
theorem d_M_told_4 : decode b_M_told 4 = .ok (.invokevirtual 107, 3) := by decide +kernel
theorem d_M_told_7 : decode b_M_told 7 = .ok (.ifCond .ne 7, 3) := by decide +kernel
theorem d_M_told_10 : decode b_M_told 10 = .ok (.iconst 1, 1) := by decide +kernel
theorem d_M_told_11 : decode b_M_told 11 = .ok (.goto 18, 3) := by decide +kernel
theorem d_M_told_14 : decode b_M_told 14 = .ok (.iload_n 3, 1) := by decide +kernel
theorem d_M_told_15 : decode b_M_told 15 = .ok (.iconst 0, 1) := by decide +kernel
theorem d_M_told_16 : decode b_M_told 16 = .ok (.bipush 6, 2) := by decide +kernel
theorem d_M_told_18 : decode b_M_told 18 = .ok (.invokestatic 90, 3) := by decide +kernel
theorem d_M_told_21 : decode b_M_told 21 = .ok (.ifCond .ne 7, 3) := by decide +kernel
theorem d_M_told_24 : decode b_M_told 24 = .ok (.iconst 2, 1) := by decide +kernel
theorem d_M_told_25 : decode b_M_told 25 = .ok (.goto 4, 3) := by decide +kernel
theorem d_M_told_28 : decode b_M_told 28 = .ok (.iconst 0, 1) := by decide +kernel
theorem d_M_told_29 : decode b_M_told 29 = .ok (.putfield 83, 3) := by decide +kernel
theorem d_M_told_32 : decode b_M_told 32 = .ok (.aload_n 0, 1) := by decide +kernel
theorem d_M_told_33 : decode b_M_told 33 = .ok (.getfield 83, 3) := by decide +kernel
theorem d_M_told_36 : decode b_M_told 36 = .ok (.ifCond .le 5, 3) := by decide +kernel
theorem d_M_told_39 : decode b_M_told 39 = .ok (.iconst 0, 1) := by decide +kernel
theorem d_M_told_40 : decode b_M_told 40 = .ok (.ireturn, 1) := by decide +kernel
theorem d_M_told_41 : decode b_M_told 41 = .ok (.iconst 4, 1) := by decide +kernel
theorem d_M_told_42 : decode b_M_told 42 = .ok (.iload_n 1, 1) := by decide +kernel
theorem d_M_told_43 : decode b_M_told 43 = .ok (.imul, 1) := by decide +kernel
theorem d_M_told_44 : decode b_M_told 44 = .ok (.iload_n 2, 1) := by decide +kernel
theorem d_M_told_45 : decode b_M_told 45 = .ok (.iadd, 1) := by decide +kernel
theorem d_M_told_46 : decode b_M_told 46 = .ok (.istore 4, 2) := by decide +kernel
theorem d_M_told_48 : decode b_M_told 48 = .ok (.iload_n 3, 1) := by decide +kernel
theorem d_M_told_49 : decode b_M_told 49 = .ok (.ifCond .ne 11, 3) := by decide +kernel
theorem d_M_told_52 : decode b_M_told 52 = .ok (.aload_n 0, 1) := by decide +kernel
theorem d_M_told_53 : decode b_M_told 53 = .ok (.getfield 29, 3) := by decide +kernel
theorem d_M_told_56 : decode b_M_told 56 = .ok (.iload 4, 2) := by decide +kernel
theorem d_M_told_58 : decode b_M_told 58 = .ok (.iaload, 1) := by decide +kernel
theorem d_M_told_59 : decode b_M_told 59 = .ok (.ireturn, 1) := by decide +kernel
theorem d_M_told_60 : decode b_M_told 60 = .ok (.iload_n 3, 1) := by decide +kernel
theorem d_M_told_61 : decode b_M_told 61 = .ok (.iconst 1, 1) := by decide +kernel
theorem d_M_told_62 : decode b_M_told 62 = .ok (.if_icmp .ne 11, 3) := by decide +kernel
theorem d_M_told_65 : decode b_M_told 65 = .ok (.aload_n 0, 1) := by decide +kernel
theorem d_M_told_66 : decode b_M_told 66 = .ok (.getfield 32, 3) := by decide +kernel
theorem d_M_told_69 : decode b_M_told 69 = .ok (.iload 4, 2) := by decide +kernel
theorem d_M_told_71 : decode b_M_told 71 = .ok (.iaload, 1) := by decide +kernel
theorem d_M_told_72 : decode b_M_told 72 = .ok (.ireturn, 1) := by decide +kernel
theorem d_M_told_73 : decode b_M_told 73 = .ok (.iload_n 3, 1) := by decide +kernel
theorem d_M_told_74 : decode b_M_told 74 = .ok (.iconst 2, 1) := by decide +kernel
theorem d_M_told_75 : decode b_M_told 75 = .ok (.if_icmp .ne 11, 3) := by decide +kernel
theorem d_M_told_78 : decode b_M_told 78 = .ok (.aload_n 0, 1) := by decide +kernel
theorem d_M_told_79 : decode b_M_told 79 = .ok (.getfield 38, 3) := by decide +kernel
theorem d_M_told_82 : decode b_M_told 82 = .ok (.iload 4, 2) := by decide +kernel
theorem d_M_told_84 : decode b_M_told 84 = .ok (.iaload, 1) := by decide +kernel
theorem d_M_told_85 : decode b_M_told 85 = .ok (.ireturn, 1) := by decide +kernel
theorem d_M_told_86 : decode b_M_told 86 = .ok (.iload_n 3, 1) := by decide +kernel
theorem d_M_told_87 : decode b_M_told 87 = .ok (.iconst 3, 1) := by decide +kernel
theorem d_M_told_88 : decode b_M_told 88 = .ok (.if_icmp .ne 19, 3) := by decide +kernel
theorem d_M_told_91 : decode b_M_told 91 = .ok (.aload_n 0, 1) := by decide +kernel
theorem d_M_told_92 : decode b_M_told 92 = .ok (.getfield 50, 3) := by decide +kernel
theorem d_M_told_95 : decode b_M_told 95 = .ok (.iload 4, 2) := by decide +kernel
theorem d_M_told_97 : decode b_M_told 97 = .ok (.baload, 1) := by decide +kernel
theorem d_M_told_98 : decode b_M_told 98 = .ok (.ifCond .eq 7, 3) := by decide +kernel
theorem d_M_told_101 : decode b_M_told 101 = .ok (.iconst 1, 1) := by decide +kernel
theorem d_M_told_102 : decode b_M_told 102 = .ok (.goto 4, 3) := by decide +kernel
theorem d_M_told_105 : decode b_M_told 105 = .ok (.iconst 0, 1) := by decide +kernel
theorem d_M_told_106 : decode b_M_told 106 = .ok (.ireturn, 1) := by decide +kernel
theorem d_M_told_107 : decode b_M_told 107 = .ok (.iload_n 3, 1) := by decide +kernel
theorem d_M_told_108 : decode b_M_told 108 = .ok (.iconst 4, 1) := by decide +kernel
theorem d_M_told_109 : decode b_M_told 109 = .ok (.if_icmp .ne 10, 3) := by decide +kernel
theorem d_M_told_112 : decode b_M_told 112 = .ok (.aload_n 0, 1) := by decide +kernel
theorem d_M_told_113 : decode b_M_told 113 = .ok (.iload 4, 2) := by decide +kernel
theorem d_M_told_115 : decode b_M_told 115 = .ok (.invokevirtual 118, 3) := by decide +kernel
theorem d_M_told_118 : decode b_M_told 118 = .ok (.ireturn, 1) := by decide +kernel
theorem d_M_told_119 : decode b_M_told 119 = .ok (.iload_n 3, 1) := by decide +kernel
theorem d_M_told_120 : decode b_M_told 120 = .ok (.iconst 5, 1) := by decide +kernel
theorem d_M_told_121 : decode b_M_told 121 = .ok (.if_icmp .ne 21, 3) := by decide +kernel
theorem d_M_told_124 : decode b_M_told 124 = .ok (.aload_n 0, 1) := by decide +kernel
theorem d_M_told_125 : decode b_M_told 125 = .ok (.getfield 47, 3) := by decide +kernel
theorem d_M_told_128 : decode b_M_told 128 = .ok (.iload 4, 2) := by decide +kernel
theorem d_M_told_130 : decode b_M_told 130 = .ok (.baload, 1) := by decide +kernel
theorem d_M_told_131 : decode b_M_told 131 = .ok (.ifCond .eq 7, 3) := by decide +kernel
theorem d_M_told_134 : decode b_M_told 134 = .ok (.iconst 1, 1) := by decide +kernel
theorem d_M_told_135 : decode b_M_told 135 = .ok (.goto 13, 3) := by decide +kernel
theorem d_M_told_138 : decode b_M_told 138 = .ok (.iconst 0, 1) := by decide +kernel
theorem d_M_told_139 : decode b_M_told 139 = .ok (.goto 9, 3) := by decide +kernel
theorem d_M_told_142 : decode b_M_told 142 = .ok (.aload_n 0, 1) := by decide +kernel
theorem d_M_told_143 : decode b_M_told 143 = .ok (.iload 4, 2) := by decide +kernel
theorem d_M_told_145 : decode b_M_told 145 = .ok (.invokevirtual 111, 3) := by decide +kernel
theorem d_M_told_148 : decode b_M_told 148 = .ok (.ireturn, 1) := by decide +kernel
theorem d_M_state_0 : decode b_M_state 0 = .ok (.aload_n 0, 1) := by decide +kernel
theorem d_M_state_1 : decode b_M_state 1 = .ok (.aload_n 0, 1) := by decide +kernel
theorem d_M_state_2 : decode b_M_state 2 = .ok (.iload_n 1, 1) := by decide +kernel
theorem d_M_state_3 : decode b_M_state 3 = .ok (.invokevirtual 94, 3) := by decide +kernel
theorem d_M_state_6 : decode b_M_state 6 = .ok (.ifCond .ne 7, 3) := by decide +kernel
theorem d_M_state_9 : decode b_M_state 9 = .ok (.iconst 1, 1) := by decide +kernel
theorem d_M_state_10 : decode b_M_state 10 = .ok (.goto 17, 3) := by decide +kernel
theorem d_M_state_13 : decode b_M_state 13 = .ok (.iload_n 2, 1) := by decide +kernel
theorem d_M_state_14 : decode b_M_state 14 = .ok (.iconst 0, 1) := by decide +kernel
theorem d_M_state_15 : decode b_M_state 15 = .ok (.iconst 3, 1) := by decide +kernel
theorem d_M_state_16 : decode b_M_state 16 = .ok (.invokestatic 90, 3) := by decide +kernel
theorem d_M_state_19 : decode b_M_state 19 = .ok (.ifCond .ne 7, 3) := by decide +kernel
theorem d_M_state_22 : decode b_M_state 22 = .ok (.iconst 2, 1) := by decide +kernel
theorem d_M_state_23 : decode b_M_state 23 = .ok (.goto 4, 3) := by decide +kernel
theorem d_M_state_26 : decode b_M_state 26 = .ok (.iconst 0, 1) := by decide +kernel
theorem d_M_state_27 : decode b_M_state 27 = .ok (.putfield 83, 3) := by decide +kernel
theorem d_M_state_30 : decode b_M_state 30 = .ok (.aload_n 0, 1) := by decide +kernel
theorem d_M_state_31 : decode b_M_state 31 = .ok (.getfield 83, 3) := by decide +kernel
theorem d_M_state_34 : decode b_M_state 34 = .ok (.ifCond .le 5, 3) := by decide +kernel
theorem d_M_state_37 : decode b_M_state 37 = .ok (.iconst 0, 1) := by decide +kernel
theorem d_M_state_38 : decode b_M_state 38 = .ok (.ireturn, 1) := by decide +kernel
theorem d_M_state_39 : decode b_M_state 39 = .ok (.iload_n 2, 1) := by decide +kernel
theorem d_M_state_40 : decode b_M_state 40 = .ok (.ifCond .ne 12, 3) := by decide +kernel
theorem d_M_state_43 : decode b_M_state 43 = .ok (.aload_n 0, 1) := by decide +kernel
theorem d_M_state_44 : decode b_M_state 44 = .ok (.getfield 23, 3) := by decide +kernel
theorem d_M_state_47 : decode b_M_state 47 = .ok (.iload_n 1, 1) := by decide +kernel
theorem d_M_state_48 : decode b_M_state 48 = .ok (.iaload, 1) := by decide +kernel
theorem d_M_state_49 : decode b_M_state 49 = .ok (.goto 37, 3) := by decide +kernel
theorem d_M_state_52 : decode b_M_state 52 = .ok (.iload_n 2, 1) := by decide +kernel
theorem d_M_state_53 : decode b_M_state 53 = .ok (.iconst 1, 1) := by decide +kernel
theorem d_M_state_54 : decode b_M_state 54 = .ok (.if_icmp .ne 12, 3) := by decide +kernel
theorem d_M_state_57 : decode b_M_state 57 = .ok (.aload_n 0, 1) := by decide +kernel
theorem d_M_state_58 : decode b_M_state 58 = .ok (.getfield 13, 3) := by decide +kernel
theorem d_M_state_61 : decode b_M_state 61 = .ok (.iload_n 1, 1) := by decide +kernel
theorem d_M_state_62 : decode b_M_state 62 = .ok (.iaload, 1) := by decide +kernel
theorem d_M_state_63 : decode b_M_state 63 = .ok (.goto 23, 3) := by decide +kernel
theorem d_M_state_66 : decode b_M_state 66 = .ok (.iload_n 2, 1) := by decide +kernel
theorem d_M_state_67 : decode b_M_state 67 = .ok (.iconst 2, 1) := by decide +kernel
theorem d_M_state_68 : decode b_M_state 68 = .ok (.if_icmp .ne 12, 3) := by decide +kernel
theorem d_M_state_71 : decode b_M_state 71 = .ok (.aload_n 0, 1) := by decide +kernel
theorem d_M_state_72 : decode b_M_state 72 = .ok (.getfield 20, 3) := by decide +kernel
theorem d_M_state_75 : decode b_M_state 75 = .ok (.iload_n 1, 1) := by decide +kernel
theorem d_M_state_76 : decode b_M_state 76 = .ok (.iaload, 1) := by decide +kernel
theorem d_M_state_77 : decode b_M_state 77 = .ok (.goto 9, 3) := by decide +kernel
theorem d_M_state_80 : decode b_M_state 80 = .ok (.aload_n 0, 1) := by decide +kernel
theorem d_M_state_81 : decode b_M_state 81 = .ok (.getfield 26, 3) := by decide +kernel
theorem d_M_state_84 : decode b_M_state 84 = .ok (.iload_n 1, 1) := by decide +kernel
theorem d_M_state_85 : decode b_M_state 85 = .ok (.iaload, 1) := by decide +kernel
theorem d_M_state_86 : decode b_M_state 86 = .ok (.ireturn, 1) := by decide +kernel
theorem d_M_count1_0 : decode b_M_count1 0 = .ok (.aload_n 0, 1) := by decide +kernel
theorem d_M_count1_1 : decode b_M_count1 1 = .ok (.iconst 0, 1) := by decide +kernel
theorem d_M_count1_2 : decode b_M_count1 2 = .ok (.putfield 83, 3) := by decide +kernel
theorem d_M_count1_5 : decode b_M_count1 5 = .ok (.iload_n 1, 1) := by decide +kernel
theorem d_M_count1_6 : decode b_M_count1 6 = .ok (.ifCond .ne 10, 3) := by decide +kernel
theorem d_M_count1_9 : decode b_M_count1 9 = .ok (.aload_n 0, 1) := by decide +kernel
theorem d_M_count1_10 : decode b_M_count1 10 = .ok (.getfield 87, 3) := by decide +kernel
theorem d_M_count1_13 : decode b_M_count1 13 = .ok (.goto 52, 3) := by decide +kernel
theorem d_M_count1_16 : decode b_M_count1 16 = .ok (.iload_n 1, 1) := by decide +kernel
theorem d_M_count1_17 : decode b_M_count1 17 = .ok (.iconst 1, 1) := by decide +kernel
theorem d_M_count1_18 : decode b_M_count1 18 = .ok (.if_icmp .ne 10, 3) := by decide +kernel
theorem d_M_count1_21 : decode b_M_count1 21 = .ok (.aload_n 0, 1) := by decide +kernel
theorem d_M_count1_22 : decode b_M_count1 22 = .ok (.getfield 98, 3) := by decide +kernel
theorem d_M_count1_25 : decode b_M_count1 25 = .ok (.goto 40, 3) := by decide +kernel
theorem d_M_count1_28 : decode b_M_count1 28 = .ok (.iload_n 1, 1) := by decide +kernel
theorem d_M_count1_29 : decode b_M_count1 29 = .ok (.iconst 2, 1) := by decide +kernel
theorem d_M_count1_30 : decode b_M_count1 30 = .ok (.if_icmp .ne 10, 3) := by decide +kernel
theorem d_M_count1_33 : decode b_M_count1 33 = .ok (.aload_n 0, 1) := by decide +kernel
theorem d_M_count1_34 : decode b_M_count1 34 = .ok (.getfield 127, 3) := by decide +kernel
theorem d_M_count1_37 : decode b_M_count1 37 = .ok (.goto 28, 3) := by decide +kernel
theorem d_M_count1_40 : decode b_M_count1 40 = .ok (.iload_n 1, 1) := by decide +kernel
theorem d_M_count1_41 : decode b_M_count1 41 = .ok (.iconst 3, 1) := by decide +kernel
theorem d_M_count1_42 : decode b_M_count1 42 = .ok (.if_icmp .ne 10, 3) := by decide +kernel
theorem d_M_count1_45 : decode b_M_count1 45 = .ok (.aload_n 0, 1) := by decide +kernel
theorem d_M_count1_46 : decode b_M_count1 46 = .ok (.getfield 121, 3) := by decide +kernel
theorem d_M_count1_49 : decode b_M_count1 49 = .ok (.goto 16, 3) := by decide +kernel
theorem d_M_count1_52 : decode b_M_count1 52 = .ok (.iload_n 1, 1) := by decide +kernel
theorem d_M_count1_53 : decode b_M_count1 53 = .ok (.iconst 4, 1) := by decide +kernel
theorem d_M_count1_54 : decode b_M_count1 54 = .ok (.if_icmp .ne 10, 3) := by decide +kernel
theorem d_M_count1_57 : decode b_M_count1 57 = .ok (.aload_n 0, 1) := by decide +kernel
theorem d_M_count1_58 : decode b_M_count1 58 = .ok (.getfield 138, 3) := by decide +kernel
theorem d_M_count1_61 : decode b_M_count1 61 = .ok (.goto 4, 3) := by decide +kernel
theorem d_M_count1_64 : decode b_M_count1 64 = .ok (.iconst (-1), 1) := by decide +kernel
theorem d_M_count1_65 : decode b_M_count1 65 = .ok (.ireturn, 1) := by decide +kernel
end
section
theorem d_L_announce_0 : decode b_L_announce 0 = .ok (.aload_n 3, 1) := by decide +kernel
theorem d_L_announce_1 : decode b_L_announce 1 = .ok (.iconst 0, 1) := by decide +kernel
theorem d_L_announce_2 : decode b_L_announce 2 = .ok (.aload_n 0, 1) := by decide +kernel
theorem d_L_announce_3 : decode b_L_announce 3 = .ok (.iload_n 1, 1) := by decide +kernel
theorem d_L_announce_4 : decode b_L_announce 4 = .ok (.iload_n 2, 1) := by decide +kernel
theorem d_L_announce_5 : decode b_L_announce 5 = .ok (.invokevirtual 7, 3) := by decide +kernel
theorem d_L_announce_8 : decode b_L_announce 8 = .ok (.i2l, 1) := by decide +kernel
theorem d_L_announce_9 : decode b_L_announce 9 = .ok (.lastore, 1) := by decide +kernel
theorem d_L_announce_10 : decode b_L_announce 10 = .ok (.goto 11, 3) := by decide +kernel
theorem d_L_announce_13 : decode b_L_announce 13 = .ok (.astore 4, 2) := by decide +kernel
theorem d_L_announce_15 : decode b_L_announce 15 = .ok (.iconst 1, 1) := by decide +kernel
theorem d_L_announce_16 : decode b_L_announce 16 = .ok (.ireturn, 1) := by decide +kernel
theorem d_L_announce_17 : decode b_L_announce 17 = .ok (.astore 4, 2) := by decide +kernel
theorem d_L_announce_19 : decode b_L_announce 19 = .ok (.iconst 2, 1) := by decide +kernel
theorem d_L_announce_20 : decode b_L_announce 20 = .ok (.ireturn, 1) := by decide +kernel
theorem d_L_announce_21 : decode b_L_announce 21 = .ok (.iconst 0, 1) := by decide +kernel
theorem d_L_announce_22 : decode b_L_announce 22 = .ok (.ireturn, 1) := by decide +kernel
theorem d_L_line_0 : decode b_L_line 0 = .ok (.aload 4, 2) := by decide +kernel
theorem d_L_line_2 : decode b_L_line 2 = .ok (.iconst 0, 1) := by decide +kernel
theorem d_L_line_3 : decode b_L_line 3 = .ok (.aload_n 0, 1) := by decide +kernel
theorem d_L_line_4 : decode b_L_line 4 = .ok (.iload_n 1, 1) := by decide +kernel
theorem d_L_line_5 : decode b_L_line 5 = .ok (.iload_n 2, 1) := by decide +kernel
theorem d_L_line_6 : decode b_L_line 6 = .ok (.iload_n 3, 1) := by decide +kernel
theorem d_L_line_7 : decode b_L_line 7 = .ok (.invokevirtual 17, 3) := by decide +kernel
theorem d_L_line_10 : decode b_L_line 10 = .ok (.i2l, 1) := by decide +kernel
theorem d_L_line_11 : decode b_L_line 11 = .ok (.lastore, 1) := by decide +kernel
theorem d_L_line_12 : decode b_L_line 12 = .ok (.goto 15, 3) := by decide +kernel
theorem d_L_line_15 : decode b_L_line 15 = .ok (.astore 5, 2) := by decide +kernel
theorem d_L_line_17 : decode b_L_line 17 = .ok (.iconst 1, 1) := by decide +kernel
theorem d_L_line_18 : decode b_L_line 18 = .ok (.ireturn, 1) := by decide +kernel
theorem d_L_line_19 : decode b_L_line 19 = .ok (.astore 5, 2) := by decide +kernel
theorem d_L_line_21 : decode b_L_line 21 = .ok (.iconst 2, 1) := by decide +kernel
theorem d_L_line_22 : decode b_L_line 22 = .ok (.ireturn, 1) := by decide +kernel
theorem d_L_line_23 : decode b_L_line 23 = .ok (.astore 5, 2) := by decide +kernel
theorem d_L_line_25 : decode b_L_line 25 = .ok (.iconst 3, 1) := by decide +kernel
theorem d_L_line_26 : decode b_L_line 26 = .ok (.ireturn, 1) := by decide +kernel
theorem d_L_line_27 : decode b_L_line 27 = .ok (.iconst 0, 1) := by decide +kernel
theorem d_L_line_28 : decode b_L_line 28 = .ok (.ireturn, 1) := by decide +kernel
theorem d_L_arrive_0 : decode b_L_arrive 0 = .ok (.aload 4, 2) := by decide +kernel
theorem d_L_arrive_2 : decode b_L_arrive 2 = .ok (.iconst 0, 1) := by decide +kernel
theorem d_L_arrive_3 : decode b_L_arrive 3 = .ok (.aload_n 0, 1) := by decide +kernel
theorem d_L_arrive_4 : decode b_L_arrive 4 = .ok (.iload_n 1, 1) := by decide +kernel
theorem d_L_arrive_5 : decode b_L_arrive 5 = .ok (.iload_n 2, 1) := by decide +kernel
theorem d_L_arrive_6 : decode b_L_arrive 6 = .ok (.iload_n 3, 1) := by decide +kernel
theorem d_L_arrive_7 : decode b_L_arrive 7 = .ok (.invokevirtual 25, 3) := by decide +kernel
theorem d_L_arrive_10 : decode b_L_arrive 10 = .ok (.i2l, 1) := by decide +kernel
theorem d_L_arrive_11 : decode b_L_arrive 11 = .ok (.lastore, 1) := by decide +kernel
theorem d_L_arrive_12 : decode b_L_arrive 12 = .ok (.goto 15, 3) := by decide +kernel
theorem d_L_arrive_15 : decode b_L_arrive 15 = .ok (.astore 5, 2) := by decide +kernel
theorem d_L_arrive_17 : decode b_L_arrive 17 = .ok (.iconst 1, 1) := by decide +kernel
theorem d_L_arrive_18 : decode b_L_arrive 18 = .ok (.ireturn, 1) := by decide +kernel
theorem d_L_arrive_19 : decode b_L_arrive 19 = .ok (.astore 5, 2) := by decide +kernel
theorem d_L_arrive_21 : decode b_L_arrive 21 = .ok (.iconst 2, 1) := by decide +kernel
theorem d_L_arrive_22 : decode b_L_arrive 22 = .ok (.ireturn, 1) := by decide +kernel
theorem d_L_arrive_23 : decode b_L_arrive 23 = .ok (.astore 5, 2) := by decide +kernel
theorem d_L_arrive_25 : decode b_L_arrive 25 = .ok (.iconst 3, 1) := by decide +kernel
theorem d_L_arrive_26 : decode b_L_arrive 26 = .ok (.ireturn, 1) := by decide +kernel
theorem d_L_arrive_27 : decode b_L_arrive 27 = .ok (.iconst 0, 1) := by decide +kernel
theorem d_L_arrive_28 : decode b_L_arrive 28 = .ok (.ireturn, 1) := by decide +kernel
theorem d_L_accept_0 : decode b_L_accept 0 = .ok (.aload_n 0, 1) := by decide +kernel
theorem d_L_accept_1 : decode b_L_accept 1 = .ok (.iload_n 1, 1) := by decide +kernel
theorem d_L_accept_2 : decode b_L_accept 2 = .ok (.iload_n 2, 1) := by decide +kernel
theorem d_L_accept_3 : decode b_L_accept 3 = .ok (.invokevirtual 29, 3) := by decide +kernel
theorem d_L_accept_6 : decode b_L_accept 6 = .ok (.goto 12, 3) := by decide +kernel
theorem d_L_accept_9 : decode b_L_accept 9 = .ok (.astore_n 3, 1) := by decide +kernel
theorem d_L_accept_10 : decode b_L_accept 10 = .ok (.iconst 1, 1) := by decide +kernel
theorem d_L_accept_11 : decode b_L_accept 11 = .ok (.ireturn, 1) := by decide +kernel
theorem d_L_accept_12 : decode b_L_accept 12 = .ok (.astore_n 3, 1) := by decide +kernel
theorem d_L_accept_13 : decode b_L_accept 13 = .ok (.iconst 2, 1) := by decide +kernel
theorem d_L_accept_14 : decode b_L_accept 14 = .ok (.ireturn, 1) := by decide +kernel
theorem d_L_accept_15 : decode b_L_accept 15 = .ok (.astore_n 3, 1) := by decide +kernel
theorem d_L_accept_16 : decode b_L_accept 16 = .ok (.iconst 3, 1) := by decide +kernel
theorem d_L_accept_17 : decode b_L_accept 17 = .ok (.ireturn, 1) := by decide +kernel
theorem d_L_accept_18 : decode b_L_accept 18 = .ok (.iconst 0, 1) := by decide +kernel
theorem d_L_accept_19 : decode b_L_accept 19 = .ok (.ireturn, 1) := by decide +kernel
theorem d_L_right_0 : decode b_L_right 0 = .ok (.aload_n 0, 1) := by decide +kernel
theorem d_L_right_1 : decode b_L_right 1 = .ok (.iload_n 1, 1) := by decide +kernel
theorem d_L_right_2 : decode b_L_right 2 = .ok (.iload_n 2, 1) := by decide +kernel
theorem d_L_right_3 : decode b_L_right 3 = .ok (.invokevirtual 33, 3) := by decide +kernel
theorem d_L_right_6 : decode b_L_right 6 = .ok (.goto 6, 3) := by decide +kernel
theorem d_L_right_9 : decode b_L_right 9 = .ok (.astore_n 3, 1) := by decide +kernel
theorem d_L_right_10 : decode b_L_right 10 = .ok (.iconst 1, 1) := by decide +kernel
theorem d_L_right_11 : decode b_L_right 11 = .ok (.ireturn, 1) := by decide +kernel
theorem d_L_right_12 : decode b_L_right 12 = .ok (.iconst 0, 1) := by decide +kernel
theorem d_L_right_13 : decode b_L_right 13 = .ok (.ireturn, 1) := by decide +kernel
theorem d_L_tolerance_0 : decode b_L_tolerance 0 = .ok (.aload_n 0, 1) := by decide +kernel
theorem d_L_tolerance_1 : decode b_L_tolerance 1 = .ok (.iload_n 1, 1) := by decide +kernel
theorem d_L_tolerance_2 : decode b_L_tolerance 2 = .ok (.iload_n 2, 1) := by decide +kernel
theorem d_L_tolerance_3 : decode b_L_tolerance 3 = .ok (.iload_n 3, 1) := by decide +kernel
theorem d_L_tolerance_4 : decode b_L_tolerance 4 = .ok (.invokevirtual 37, 3) := by decide +kernel
theorem d_L_tolerance_7 : decode b_L_tolerance 7 = .ok (.goto 15, 3) := by decide +kernel
theorem d_L_tolerance_10 : decode b_L_tolerance 10 = .ok (.astore 4, 2) := by decide +kernel
theorem d_L_tolerance_12 : decode b_L_tolerance 12 = .ok (.iconst 1, 1) := by decide +kernel
theorem d_L_tolerance_13 : decode b_L_tolerance 13 = .ok (.ireturn, 1) := by decide +kernel
theorem d_L_tolerance_14 : decode b_L_tolerance 14 = .ok (.astore 4, 2) := by decide +kernel
theorem d_L_tolerance_16 : decode b_L_tolerance 16 = .ok (.iconst 2, 1) := by decide +kernel
theorem d_L_tolerance_17 : decode b_L_tolerance 17 = .ok (.ireturn, 1) := by decide +kernel
theorem d_L_tolerance_18 : decode b_L_tolerance 18 = .ok (.astore 4, 2) := by decide +kernel
theorem d_L_tolerance_20 : decode b_L_tolerance 20 = .ok (.iconst 3, 1) := by decide +kernel
theorem d_L_tolerance_21 : decode b_L_tolerance 21 = .ok (.ireturn, 1) := by decide +kernel
theorem d_L_tolerance_22 : decode b_L_tolerance 22 = .ok (.iconst 0, 1) := by decide +kernel
theorem d_L_tolerance_23 : decode b_L_tolerance 23 = .ok (.ireturn, 1) := by decide +kernel
theorem d_L_wanted_0 : decode b_L_wanted 0 = .ok (.aload_n 0, 1) := by decide +kernel
theorem d_L_wanted_1 : decode b_L_wanted 1 = .ok (.iload_n 1, 1) := by decide +kernel
theorem d_L_wanted_2 : decode b_L_wanted 2 = .ok (.iload_n 2, 1) := by decide +kernel
theorem d_L_wanted_3 : decode b_L_wanted 3 = .ok (.iload_n 3, 1) := by decide +kernel
theorem d_L_wanted_4 : decode b_L_wanted 4 = .ok (.invokevirtual 41, 3) := by decide +kernel
theorem d_L_wanted_7 : decode b_L_wanted 7 = .ok (.goto 15, 3) := by decide +kernel
theorem d_L_wanted_10 : decode b_L_wanted 10 = .ok (.astore 4, 2) := by decide +kernel
theorem d_L_wanted_12 : decode b_L_wanted 12 = .ok (.iconst 1, 1) := by decide +kernel
theorem d_L_wanted_13 : decode b_L_wanted 13 = .ok (.ireturn, 1) := by decide +kernel
theorem d_L_wanted_14 : decode b_L_wanted 14 = .ok (.astore 4, 2) := by decide +kernel
theorem d_L_wanted_16 : decode b_L_wanted 16 = .ok (.iconst 2, 1) := by decide +kernel
theorem d_L_wanted_17 : decode b_L_wanted 17 = .ok (.ireturn, 1) := by decide +kernel
theorem d_L_wanted_18 : decode b_L_wanted 18 = .ok (.astore 4, 2) := by decide +kernel
theorem d_L_wanted_20 : decode b_L_wanted 20 = .ok (.iconst 3, 1) := by decide +kernel
theorem d_L_wanted_21 : decode b_L_wanted 21 = .ok (.ireturn, 1) := by decide +kernel
theorem d_L_wanted_22 : decode b_L_wanted 22 = .ok (.iconst 0, 1) := by decide +kernel
theorem d_L_wanted_23 : decode b_L_wanted 23 = .ok (.ireturn, 1) := by decide +kernel
theorem d_L_count_0 : decode b_L_count 0 = .ok (.aload 6, 2) := by decide +kernel
theorem d_L_count_2 : decode b_L_count 2 = .ok (.iconst 0, 1) := by decide +kernel
theorem d_L_count_3 : decode b_L_count 3 = .ok (.aload_n 0, 1) := by decide +kernel
theorem d_L_count_4 : decode b_L_count 4 = .ok (.iload_n 1, 1) := by decide +kernel
theorem d_L_count_5 : decode b_L_count 5 = .ok (.iload_n 2, 1) := by decide +kernel
theorem d_L_count_6 : decode b_L_count 6 = .ok (.iload_n 3, 1) := by decide +kernel
theorem d_L_count_7 : decode b_L_count 7 = .ok (.iload 4, 2) := by decide +kernel
theorem d_L_count_9 : decode b_L_count 9 = .ok (.iload 5, 2) := by decide +kernel
theorem d_L_count_11 : decode b_L_count 11 = .ok (.invokevirtual 44, 3) := by decide +kernel
theorem d_L_count_14 : decode b_L_count 14 = .ok (.i2l, 1) := by decide +kernel
theorem d_L_count_15 : decode b_L_count 15 = .ok (.lastore, 1) := by decide +kernel
theorem d_L_count_16 : decode b_L_count 16 = .ok (.goto 15, 3) := by decide +kernel
theorem d_L_count_19 : decode b_L_count 19 = .ok (.astore 7, 2) := by decide +kernel
theorem d_L_count_21 : decode b_L_count 21 = .ok (.iconst 1, 1) := by decide +kernel
theorem d_L_count_22 : decode b_L_count 22 = .ok (.ireturn, 1) := by decide +kernel
theorem d_L_count_23 : decode b_L_count 23 = .ok (.astore 7, 2) := by decide +kernel
theorem d_L_count_25 : decode b_L_count 25 = .ok (.iconst 2, 1) := by decide +kernel
theorem d_L_count_26 : decode b_L_count 26 = .ok (.ireturn, 1) := by decide +kernel
theorem d_L_count_27 : decode b_L_count 27 = .ok (.astore 7, 2) := by decide +kernel
theorem d_L_count_29 : decode b_L_count 29 = .ok (.iconst 3, 1) := by decide +kernel
theorem d_L_count_30 : decode b_L_count 30 = .ok (.ireturn, 1) := by decide +kernel
theorem d_L_count_31 : decode b_L_count 31 = .ok (.iconst 0, 1) := by decide +kernel
theorem d_L_count_32 : decode b_L_count 32 = .ok (.ireturn, 1) := by decide +kernel
theorem d_L_damaged_0 : decode b_L_damaged 0 = .ok (.aload_n 3, 1) := by decide +kernel
theorem d_L_damaged_1 : decode b_L_damaged 1 = .ok (.iconst 0, 1) := by decide +kernel
theorem d_L_damaged_2 : decode b_L_damaged 2 = .ok (.aload_n 0, 1) := by decide +kernel
theorem d_L_damaged_3 : decode b_L_damaged 3 = .ok (.iload_n 1, 1) := by decide +kernel
theorem d_L_damaged_4 : decode b_L_damaged 4 = .ok (.iload_n 2, 1) := by decide +kernel
theorem d_L_damaged_5 : decode b_L_damaged 5 = .ok (.invokevirtual 48, 3) := by decide +kernel
theorem d_L_damaged_8 : decode b_L_damaged 8 = .ok (.i2l, 1) := by decide +kernel
theorem d_L_damaged_9 : decode b_L_damaged 9 = .ok (.lastore, 1) := by decide +kernel
theorem d_L_damaged_10 : decode b_L_damaged 10 = .ok (.goto 15, 3) := by decide +kernel
theorem d_L_damaged_13 : decode b_L_damaged 13 = .ok (.astore 4, 2) := by decide +kernel
theorem d_L_damaged_15 : decode b_L_damaged 15 = .ok (.iconst 1, 1) := by decide +kernel
theorem d_L_damaged_16 : decode b_L_damaged 16 = .ok (.ireturn, 1) := by decide +kernel
theorem d_L_damaged_17 : decode b_L_damaged 17 = .ok (.astore 4, 2) := by decide +kernel
theorem d_L_damaged_19 : decode b_L_damaged 19 = .ok (.iconst 2, 1) := by decide +kernel
theorem d_L_damaged_20 : decode b_L_damaged 20 = .ok (.ireturn, 1) := by decide +kernel
theorem d_L_damaged_21 : decode b_L_damaged 21 = .ok (.astore 4, 2) := by decide +kernel
theorem d_L_damaged_23 : decode b_L_damaged 23 = .ok (.iconst 3, 1) := by decide +kernel
theorem d_L_damaged_24 : decode b_L_damaged 24 = .ok (.ireturn, 1) := by decide +kernel
theorem d_L_damaged_25 : decode b_L_damaged 25 = .ok (.iconst 0, 1) := by decide +kernel
theorem d_L_damaged_26 : decode b_L_damaged 26 = .ok (.ireturn, 1) := by decide +kernel
theorem d_L_sample_0 : decode b_L_sample 0 = .ok (.aload 4, 2) := by decide +kernel
theorem d_L_sample_2 : decode b_L_sample 2 = .ok (.iconst 0, 1) := by decide +kernel
theorem d_L_sample_3 : decode b_L_sample 3 = .ok (.aload_n 0, 1) := by decide +kernel
theorem d_L_sample_4 : decode b_L_sample 4 = .ok (.iload_n 1, 1) := by decide +kernel
theorem d_L_sample_5 : decode b_L_sample 5 = .ok (.iload_n 2, 1) := by decide +kernel
theorem d_L_sample_6 : decode b_L_sample 6 = .ok (.iload_n 3, 1) := by decide +kernel
theorem d_L_sample_7 : decode b_L_sample 7 = .ok (.invokevirtual 51, 3) := by decide +kernel
theorem d_L_sample_10 : decode b_L_sample 10 = .ok (.i2l, 1) := by decide +kernel
theorem d_L_sample_11 : decode b_L_sample 11 = .ok (.lastore, 1) := by decide +kernel
theorem d_L_sample_12 : decode b_L_sample 12 = .ok (.goto 11, 3) := by decide +kernel
theorem d_L_sample_15 : decode b_L_sample 15 = .ok (.astore 5, 2) := by decide +kernel
theorem d_L_sample_17 : decode b_L_sample 17 = .ok (.iconst 1, 1) := by decide +kernel
theorem d_L_sample_18 : decode b_L_sample 18 = .ok (.ireturn, 1) := by decide +kernel
theorem d_L_sample_19 : decode b_L_sample 19 = .ok (.astore 5, 2) := by decide +kernel
theorem d_L_sample_21 : decode b_L_sample 21 = .ok (.iconst 2, 1) := by decide +kernel
theorem d_L_sample_22 : decode b_L_sample 22 = .ok (.ireturn, 1) := by decide +kernel
theorem d_L_sample_23 : decode b_L_sample 23 = .ok (.iconst 0, 1) := by decide +kernel
theorem d_L_sample_24 : decode b_L_sample 24 = .ok (.ireturn, 1) := by decide +kernel
theorem d_L_date_0 : decode b_L_date 0 = .ok (.aload_n 3, 1) := by decide +kernel
theorem d_L_date_1 : decode b_L_date 1 = .ok (.iconst 0, 1) := by decide +kernel
theorem d_L_date_2 : decode b_L_date 2 = .ok (.aload_n 0, 1) := by decide +kernel
theorem d_L_date_3 : decode b_L_date 3 = .ok (.iload_n 1, 1) := by decide +kernel
theorem d_L_date_4 : decode b_L_date 4 = .ok (.iload_n 2, 1) := by decide +kernel
theorem d_L_date_5 : decode b_L_date 5 = .ok (.invokevirtual 54, 3) := by decide +kernel
theorem d_L_date_8 : decode b_L_date 8 = .ok (.i2l, 1) := by decide +kernel
theorem d_L_date_9 : decode b_L_date 9 = .ok (.lastore, 1) := by decide +kernel
theorem d_L_date_10 : decode b_L_date 10 = .ok (.goto 15, 3) := by decide +kernel
theorem d_L_date_13 : decode b_L_date 13 = .ok (.astore 4, 2) := by decide +kernel
theorem d_L_date_15 : decode b_L_date 15 = .ok (.iconst 1, 1) := by decide +kernel
theorem d_L_date_16 : decode b_L_date 16 = .ok (.ireturn, 1) := by decide +kernel
theorem d_L_date_17 : decode b_L_date 17 = .ok (.astore 4, 2) := by decide +kernel
theorem d_L_date_19 : decode b_L_date 19 = .ok (.iconst 2, 1) := by decide +kernel
theorem d_L_date_20 : decode b_L_date 20 = .ok (.ireturn, 1) := by decide +kernel
theorem d_L_date_21 : decode b_L_date 21 = .ok (.astore 4, 2) := by decide +kernel
theorem d_L_date_23 : decode b_L_date 23 = .ok (.iconst 3, 1) := by decide +kernel
theorem d_L_date_24 : decode b_L_date 24 = .ok (.ireturn, 1) := by decide +kernel
theorem d_L_date_25 : decode b_L_date 25 = .ok (.iconst 0, 1) := by decide +kernel
theorem d_L_date_26 : decode b_L_date 26 = .ok (.ireturn, 1) := by decide +kernel
theorem d_L_take_0 : decode b_L_take 0 = .ok (.aload_n 3, 1) := by decide +kernel
theorem d_L_take_1 : decode b_L_take 1 = .ok (.iconst 0, 1) := by decide +kernel
theorem d_L_take_2 : decode b_L_take 2 = .ok (.aload_n 0, 1) := by decide +kernel
theorem d_L_take_3 : decode b_L_take 3 = .ok (.iload_n 1, 1) := by decide +kernel
theorem d_L_take_4 : decode b_L_take 4 = .ok (.iload_n 2, 1) := by decide +kernel
theorem d_L_take_5 : decode b_L_take 5 = .ok (.invokevirtual 57, 3) := by decide +kernel
theorem d_L_take_8 : decode b_L_take 8 = .ok (.i2l, 1) := by decide +kernel
theorem d_L_take_9 : decode b_L_take 9 = .ok (.lastore, 1) := by decide +kernel
theorem d_L_take_10 : decode b_L_take 10 = .ok (.goto 15, 3) := by decide +kernel
theorem d_L_take_13 : decode b_L_take 13 = .ok (.astore 4, 2) := by decide +kernel
theorem d_L_take_15 : decode b_L_take 15 = .ok (.iconst 1, 1) := by decide +kernel
theorem d_L_take_16 : decode b_L_take 16 = .ok (.ireturn, 1) := by decide +kernel
theorem d_L_take_17 : decode b_L_take 17 = .ok (.astore 4, 2) := by decide +kernel
theorem d_L_take_19 : decode b_L_take 19 = .ok (.iconst 2, 1) := by decide +kernel
theorem d_L_take_20 : decode b_L_take 20 = .ok (.ireturn, 1) := by decide +kernel
theorem d_L_take_21 : decode b_L_take 21 = .ok (.astore 4, 2) := by decide +kernel
theorem d_L_take_23 : decode b_L_take 23 = .ok (.iconst 3, 1) := by decide +kernel
theorem d_L_take_24 : decode b_L_take 24 = .ok (.ireturn, 1) := by decide +kernel
theorem d_L_take_25 : decode b_L_take 25 = .ok (.iconst 0, 1) := by decide +kernel
theorem d_L_take_26 : decode b_L_take 26 = .ok (.ireturn, 1) := by decide +kernel
theorem d_L_label_0 : decode b_L_label 0 = .ok (.aload_n 2, 1) := by decide +kernel
theorem d_L_label_1 : decode b_L_label 1 = .ok (.iconst 0, 1) := by decide +kernel
theorem d_L_label_2 : decode b_L_label 2 = .ok (.aload_n 0, 1) := by decide +kernel
theorem d_L_label_3 : decode b_L_label 3 = .ok (.iload_n 1, 1) := by decide +kernel
theorem d_L_label_4 : decode b_L_label 4 = .ok (.invokevirtual 60, 3) := by decide +kernel
theorem d_L_label_7 : decode b_L_label 7 = .ok (.i2l, 1) := by decide +kernel
theorem d_L_label_8 : decode b_L_label 8 = .ok (.lastore, 1) := by decide +kernel
theorem d_L_label_9 : decode b_L_label 9 = .ok (.goto 6, 3) := by decide +kernel
theorem d_L_label_12 : decode b_L_label 12 = .ok (.astore_n 3, 1) := by decide +kernel
theorem d_L_label_13 : decode b_L_label 13 = .ok (.iconst 1, 1) := by decide +kernel
theorem d_L_label_14 : decode b_L_label 14 = .ok (.ireturn, 1) := by decide +kernel
theorem d_L_label_15 : decode b_L_label 15 = .ok (.iconst 0, 1) := by decide +kernel
theorem d_L_label_16 : decode b_L_label 16 = .ok (.ireturn, 1) := by decide +kernel
theorem d_L_again_0 : decode b_L_again 0 = .ok (.aload_n 2, 1) := by decide +kernel
theorem d_L_again_1 : decode b_L_again 1 = .ok (.iconst 0, 1) := by decide +kernel
theorem d_L_again_2 : decode b_L_again 2 = .ok (.aload_n 0, 1) := by decide +kernel
theorem d_L_again_3 : decode b_L_again 3 = .ok (.iload_n 1, 1) := by decide +kernel
theorem d_L_again_4 : decode b_L_again 4 = .ok (.invokevirtual 64, 3) := by decide +kernel
theorem d_L_again_7 : decode b_L_again 7 = .ok (.i2l, 1) := by decide +kernel
theorem d_L_again_8 : decode b_L_again 8 = .ok (.lastore, 1) := by decide +kernel
theorem d_L_again_9 : decode b_L_again 9 = .ok (.goto 9, 3) := by decide +kernel
theorem d_L_again_12 : decode b_L_again 12 = .ok (.astore_n 3, 1) := by decide +kernel
theorem d_L_again_13 : decode b_L_again 13 = .ok (.iconst 1, 1) := by decide +kernel
theorem d_L_again_14 : decode b_L_again 14 = .ok (.ireturn, 1) := by decide +kernel
theorem d_L_again_15 : decode b_L_again 15 = .ok (.astore_n 3, 1) := by decide +kernel
theorem d_L_again_16 : decode b_L_again 16 = .ok (.iconst 2, 1) := by decide +kernel
theorem d_L_again_17 : decode b_L_again 17 = .ok (.ireturn, 1) := by decide +kernel
theorem d_L_again_18 : decode b_L_again 18 = .ok (.iconst 0, 1) := by decide +kernel
theorem d_L_again_19 : decode b_L_again 19 = .ok (.ireturn, 1) := by decide +kernel
theorem d_L_close_0 : decode b_L_close 0 = .ok (.aload_n 3, 1) := by decide +kernel
theorem d_L_close_1 : decode b_L_close 1 = .ok (.iconst 0, 1) := by decide +kernel
theorem d_L_close_2 : decode b_L_close 2 = .ok (.aload_n 0, 1) := by decide +kernel
theorem d_L_close_3 : decode b_L_close 3 = .ok (.iload_n 1, 1) := by decide +kernel
theorem d_L_close_4 : decode b_L_close 4 = .ok (.iload_n 2, 1) := by decide +kernel
theorem d_L_close_5 : decode b_L_close 5 = .ok (.invokevirtual 67, 3) := by decide +kernel
theorem d_L_close_8 : decode b_L_close 8 = .ok (.i2l, 1) := by decide +kernel
theorem d_L_close_9 : decode b_L_close 9 = .ok (.lastore, 1) := by decide +kernel
theorem d_L_close_10 : decode b_L_close 10 = .ok (.goto 11, 3) := by decide +kernel
theorem d_L_close_13 : decode b_L_close 13 = .ok (.astore 4, 2) := by decide +kernel
theorem d_L_close_15 : decode b_L_close 15 = .ok (.iconst 1, 1) := by decide +kernel
theorem d_L_close_16 : decode b_L_close 16 = .ok (.ireturn, 1) := by decide +kernel
theorem d_L_close_17 : decode b_L_close 17 = .ok (.astore 4, 2) := by decide +kernel
theorem d_L_close_19 : decode b_L_close 19 = .ok (.iconst 2, 1) := by decide +kernel
theorem d_L_close_20 : decode b_L_close 20 = .ok (.ireturn, 1) := by decide +kernel
theorem d_L_close_21 : decode b_L_close 21 = .ok (.iconst 0, 1) := by decide +kernel
theorem d_L_close_22 : decode b_L_close 22 = .ok (.ireturn, 1) := by decide +kernel
theorem d_L_closeAll_0 : decode b_L_closeAll 0 = .ok (.aload_n 2, 1) := by decide +kernel
theorem d_L_closeAll_1 : decode b_L_closeAll 1 = .ok (.iconst 0, 1) := by decide +kernel
theorem d_L_closeAll_2 : decode b_L_closeAll 2 = .ok (.aload_n 0, 1) := by decide +kernel
theorem d_L_closeAll_3 : decode b_L_closeAll 3 = .ok (.iload_n 1, 1) := by decide +kernel
theorem d_L_closeAll_4 : decode b_L_closeAll 4 = .ok (.invokevirtual 70, 3) := by decide +kernel
theorem d_L_closeAll_7 : decode b_L_closeAll 7 = .ok (.i2l, 1) := by decide +kernel
theorem d_L_closeAll_8 : decode b_L_closeAll 8 = .ok (.lastore, 1) := by decide +kernel
theorem d_L_closeAll_9 : decode b_L_closeAll 9 = .ok (.goto 9, 3) := by decide +kernel
theorem d_L_closeAll_12 : decode b_L_closeAll 12 = .ok (.astore_n 3, 1) := by decide +kernel
theorem d_L_closeAll_13 : decode b_L_closeAll 13 = .ok (.iconst 1, 1) := by decide +kernel
theorem d_L_closeAll_14 : decode b_L_closeAll 14 = .ok (.ireturn, 1) := by decide +kernel
theorem d_L_closeAll_15 : decode b_L_closeAll 15 = .ok (.astore_n 3, 1) := by decide +kernel
theorem d_L_closeAll_16 : decode b_L_closeAll 16 = .ok (.iconst 2, 1) := by decide +kernel
theorem d_L_closeAll_17 : decode b_L_closeAll 17 = .ok (.ireturn, 1) := by decide +kernel
theorem d_L_closeAll_18 : decode b_L_closeAll 18 = .ok (.iconst 0, 1) := by decide +kernel
theorem d_L_closeAll_19 : decode b_L_closeAll 19 = .ok (.ireturn, 1) := by decide +kernel
theorem d_L_day_0 : decode b_L_day 0 = .ok (.aload_n 0, 1) := by decide +kernel
theorem d_L_day_1 : decode b_L_day 1 = .ok (.iload_n 1, 1) := by decide +kernel
theorem d_L_day_2 : decode b_L_day 2 = .ok (.invokevirtual 73, 3) := by decide +kernel
theorem d_L_day_5 : decode b_L_day 5 = .ok (.goto 9, 3) := by decide +kernel
theorem d_L_day_8 : decode b_L_day 8 = .ok (.astore_n 2, 1) := by decide +kernel
theorem d_L_day_9 : decode b_L_day 9 = .ok (.iconst 1, 1) := by decide +kernel
theorem d_L_day_10 : decode b_L_day 10 = .ok (.ireturn, 1) := by decide +kernel
theorem d_L_day_11 : decode b_L_day 11 = .ok (.astore_n 2, 1) := by decide +kernel
theorem d_L_day_12 : decode b_L_day 12 = .ok (.iconst 2, 1) := by decide +kernel
theorem d_L_day_13 : decode b_L_day 13 = .ok (.ireturn, 1) := by decide +kernel
theorem d_L_day_14 : decode b_L_day 14 = .ok (.iconst 0, 1) := by decide +kernel
theorem d_L_day_15 : decode b_L_day 15 = .ok (.ireturn, 1) := by decide +kernel
theorem d_L_differ_0 : decode b_L_differ 0 = .ok (.aload_n 3, 1) := by decide +kernel
theorem d_L_differ_1 : decode b_L_differ 1 = .ok (.iconst 0, 1) := by decide +kernel
theorem d_L_differ_2 : decode b_L_differ 2 = .ok (.aload_n 0, 1) := by decide +kernel
theorem d_L_differ_3 : decode b_L_differ 3 = .ok (.iload_n 1, 1) := by decide +kernel
theorem d_L_differ_4 : decode b_L_differ 4 = .ok (.iload_n 2, 1) := by decide +kernel
theorem d_L_differ_5 : decode b_L_differ 5 = .ok (.invokevirtual 77, 3) := by decide +kernel
theorem d_L_differ_8 : decode b_L_differ 8 = .ok (.i2l, 1) := by decide +kernel
theorem d_L_differ_9 : decode b_L_differ 9 = .ok (.lastore, 1) := by decide +kernel
theorem d_L_differ_10 : decode b_L_differ 10 = .ok (.goto 11, 3) := by decide +kernel
theorem d_L_differ_13 : decode b_L_differ 13 = .ok (.astore 4, 2) := by decide +kernel
theorem d_L_differ_15 : decode b_L_differ 15 = .ok (.iconst 1, 1) := by decide +kernel
theorem d_L_differ_16 : decode b_L_differ 16 = .ok (.ireturn, 1) := by decide +kernel
theorem d_L_differ_17 : decode b_L_differ 17 = .ok (.astore 4, 2) := by decide +kernel
theorem d_L_differ_19 : decode b_L_differ 19 = .ok (.iconst 2, 1) := by decide +kernel
theorem d_L_differ_20 : decode b_L_differ 20 = .ok (.ireturn, 1) := by decide +kernel
theorem d_L_differ_21 : decode b_L_differ 21 = .ok (.iconst 0, 1) := by decide +kernel
theorem d_L_differ_22 : decode b_L_differ 22 = .ok (.ireturn, 1) := by decide +kernel
theorem d_L_claim_0 : decode b_L_claim 0 = .ok (.aload_n 3, 1) := by decide +kernel
theorem d_L_claim_1 : decode b_L_claim 1 = .ok (.iconst 0, 1) := by decide +kernel
theorem d_L_claim_2 : decode b_L_claim 2 = .ok (.aload_n 0, 1) := by decide +kernel
theorem d_L_claim_3 : decode b_L_claim 3 = .ok (.iload_n 1, 1) := by decide +kernel
theorem d_L_claim_4 : decode b_L_claim 4 = .ok (.iload_n 2, 1) := by decide +kernel
theorem d_L_claim_5 : decode b_L_claim 5 = .ok (.invokevirtual 80, 3) := by decide +kernel
theorem d_L_claim_8 : decode b_L_claim 8 = .ok (.i2l, 1) := by decide +kernel
theorem d_L_claim_9 : decode b_L_claim 9 = .ok (.lastore, 1) := by decide +kernel
theorem d_L_claim_10 : decode b_L_claim 10 = .ok (.goto 11, 3) := by decide +kernel
theorem d_L_claim_13 : decode b_L_claim 13 = .ok (.astore 4, 2) := by decide +kernel
theorem d_L_claim_15 : decode b_L_claim 15 = .ok (.iconst 1, 1) := by decide +kernel
theorem d_L_claim_16 : decode b_L_claim 16 = .ok (.ireturn, 1) := by decide +kernel
theorem d_L_claim_17 : decode b_L_claim 17 = .ok (.astore 4, 2) := by decide +kernel
theorem d_L_claim_19 : decode b_L_claim 19 = .ok (.iconst 2, 1) := by decide +kernel
theorem d_L_claim_20 : decode b_L_claim 20 = .ok (.ireturn, 1) := by decide +kernel
theorem d_L_claim_21 : decode b_L_claim 21 = .ok (.iconst 0, 1) := by decide +kernel
theorem d_L_claim_22 : decode b_L_claim 22 = .ok (.ireturn, 1) := by decide +kernel
theorem d_L_unit_0 : decode b_L_unit 0 = .ok (.aload_n 3, 1) := by decide +kernel
theorem d_L_unit_1 : decode b_L_unit 1 = .ok (.iconst 0, 1) := by decide +kernel
theorem d_L_unit_2 : decode b_L_unit 2 = .ok (.aload_n 0, 1) := by decide +kernel
theorem d_L_unit_3 : decode b_L_unit 3 = .ok (.iload_n 1, 1) := by decide +kernel
theorem d_L_unit_4 : decode b_L_unit 4 = .ok (.iload_n 2, 1) := by decide +kernel
theorem d_L_unit_5 : decode b_L_unit 5 = .ok (.invokevirtual 83, 3) := by decide +kernel
theorem d_L_unit_8 : decode b_L_unit 8 = .ok (.i2l, 1) := by decide +kernel
theorem d_L_unit_9 : decode b_L_unit 9 = .ok (.lastore, 1) := by decide +kernel
theorem d_L_unit_10 : decode b_L_unit 10 = .ok (.goto 11, 3) := by decide +kernel
theorem d_L_unit_13 : decode b_L_unit 13 = .ok (.astore 4, 2) := by decide +kernel
theorem d_L_unit_15 : decode b_L_unit 15 = .ok (.iconst 1, 1) := by decide +kernel
theorem d_L_unit_16 : decode b_L_unit 16 = .ok (.ireturn, 1) := by decide +kernel
theorem d_L_unit_17 : decode b_L_unit 17 = .ok (.astore 4, 2) := by decide +kernel
theorem d_L_unit_19 : decode b_L_unit 19 = .ok (.iconst 2, 1) := by decide +kernel
theorem d_L_unit_20 : decode b_L_unit 20 = .ok (.ireturn, 1) := by decide +kernel
theorem d_L_unit_21 : decode b_L_unit 21 = .ok (.iconst 0, 1) := by decide +kernel
theorem d_L_unit_22 : decode b_L_unit 22 = .ok (.ireturn, 1) := by decide +kernel
theorem d_L_told_0 : decode b_L_told 0 = .ok (.aload 4, 2) := by decide +kernel
theorem d_L_told_2 : decode b_L_told 2 = .ok (.iconst 0, 1) := by decide +kernel
theorem d_L_told_3 : decode b_L_told 3 = .ok (.aload_n 0, 1) := by decide +kernel
theorem d_L_told_4 : decode b_L_told 4 = .ok (.iload_n 1, 1) := by decide +kernel
theorem d_L_told_5 : decode b_L_told 5 = .ok (.iload_n 2, 1) := by decide +kernel
theorem d_L_told_6 : decode b_L_told 6 = .ok (.iload_n 3, 1) := by decide +kernel
theorem d_L_told_7 : decode b_L_told 7 = .ok (.invokevirtual 86, 3) := by decide +kernel
theorem d_L_told_10 : decode b_L_told 10 = .ok (.i2l, 1) := by decide +kernel
theorem d_L_told_11 : decode b_L_told 11 = .ok (.lastore, 1) := by decide +kernel
theorem d_L_told_12 : decode b_L_told 12 = .ok (.goto 11, 3) := by decide +kernel
theorem d_L_told_15 : decode b_L_told 15 = .ok (.astore 5, 2) := by decide +kernel
theorem d_L_told_17 : decode b_L_told 17 = .ok (.iconst 1, 1) := by decide +kernel
theorem d_L_told_18 : decode b_L_told 18 = .ok (.ireturn, 1) := by decide +kernel
theorem d_L_told_19 : decode b_L_told 19 = .ok (.astore 5, 2) := by decide +kernel
theorem d_L_told_21 : decode b_L_told 21 = .ok (.iconst 2, 1) := by decide +kernel
theorem d_L_told_22 : decode b_L_told 22 = .ok (.ireturn, 1) := by decide +kernel
theorem d_L_told_23 : decode b_L_told 23 = .ok (.iconst 0, 1) := by decide +kernel
theorem d_L_told_24 : decode b_L_told 24 = .ok (.ireturn, 1) := by decide +kernel
theorem d_L_state_0 : decode b_L_state 0 = .ok (.aload_n 3, 1) := by decide +kernel
theorem d_L_state_1 : decode b_L_state 1 = .ok (.iconst 0, 1) := by decide +kernel
theorem d_L_state_2 : decode b_L_state 2 = .ok (.aload_n 0, 1) := by decide +kernel
theorem d_L_state_3 : decode b_L_state 3 = .ok (.iload_n 1, 1) := by decide +kernel
theorem d_L_state_4 : decode b_L_state 4 = .ok (.iload_n 2, 1) := by decide +kernel
theorem d_L_state_5 : decode b_L_state 5 = .ok (.invokevirtual 89, 3) := by decide +kernel
theorem d_L_state_8 : decode b_L_state 8 = .ok (.i2l, 1) := by decide +kernel
theorem d_L_state_9 : decode b_L_state 9 = .ok (.lastore, 1) := by decide +kernel
theorem d_L_state_10 : decode b_L_state 10 = .ok (.goto 11, 3) := by decide +kernel
theorem d_L_state_13 : decode b_L_state 13 = .ok (.astore 4, 2) := by decide +kernel
theorem d_L_state_15 : decode b_L_state 15 = .ok (.iconst 1, 1) := by decide +kernel
theorem d_L_state_16 : decode b_L_state 16 = .ok (.ireturn, 1) := by decide +kernel
theorem d_L_state_17 : decode b_L_state 17 = .ok (.astore 4, 2) := by decide +kernel
theorem d_L_state_19 : decode b_L_state 19 = .ok (.iconst 2, 1) := by decide +kernel
theorem d_L_state_20 : decode b_L_state 20 = .ok (.ireturn, 1) := by decide +kernel
theorem d_L_state_21 : decode b_L_state 21 = .ok (.iconst 0, 1) := by decide +kernel
theorem d_L_state_22 : decode b_L_state 22 = .ok (.ireturn, 1) := by decide +kernel
end
section
/-! pool worlds: a walk over a pool LP of cells with contents f; a contract speaks of the whole pool -/
def pv_strs : List (Nat × String) := [(231, "a number outside its range"), (37, "no room for another announcement"), (240, "there is no such announcement"), (235, "not as it is now"), (246, "there is no such line"), (101, "no room for so many units more"), (248, "there is no such unit"), (253, "there are not so many differences"), (205, "there is no such thing to ask of a difference"), (208, "claims are counted from 0"), (216, "there is no such thing to ask of a unit"), (224, "there is no such thing to ask of a line"), (229, "there is no such thing to ask of an announcement")]
def pv_exc : List String := ["java/lang/IllegalArgumentException", "java/lang/UnsupportedOperationException", "java/util/NoSuchElementException", "java/lang/IllegalStateException"]
def pv_sup : List String := ["java/lang/RuntimeException", "java/lang/Exception", "java/lang/Throwable"]
/-- what is asked of the surroundings: Throwable's two statics, the texts, the exceptions among themselves, the array classes -/
def pv_E (A : Nat → Prop) (U : State) (H : Heap) : Prop :=
  vx_Zq Bundle.tN "UNASSIGNED_STACK" Bundle.steD A U H ∧ vx_Zq Bundle.tN "SUPPRESSED_SENTINEL" Bundle.listD A U H ∧ (∀ q ∈ pv_strs, ∃ sa, vk_R RS q.1 q.2 sa U) ∧ (∀ E ∈ pv_exc, va_Nw (.castable E E) U) ∧
  (∀ E ∈ pv_exc, ∀ E' ∈ pv_exc, E ≠ E' → va_Nc E E' U) ∧ va_AO RA U ∧ va_AO RU U ∧ va_AO RN U ∧ ∀ N ∈ pv_sup, va_Nw (.declares (Bundle.initS N)) U
theorem pv_E.mv {A B : Nat → Prop} {s U : State} {H0 H : Heap} (h : pv_E A s H0) (hW : s.WarmedH U.vm) (hk : ∀ a : Nat, a < H0.size → ¬ A a → H[a]? = H0[a]?) (hAB : ∀ q, B q → A q) : pv_E B U H :=
  ⟨((vx_Zq.kept h.1 hk).moved hW.alike).narrow hAB, ((vx_Zq.kept h.2.1 hk).moved hW.alike).narrow hAB, fun q hq => by obtain ⟨sa, h1⟩ := h.2.2.1 q hq; exact ⟨sa, vk_R.warm hW h1⟩, fun E hE => va_Nw.warmC hW (h.2.2.2.1 E hE),
    fun E hE E' hE' hn => (h.2.2.2.2.1 E hE E' hE' hn).moved hW.alike, h.2.2.2.2.2.1.moved hW.alike, h.2.2.2.2.2.2.1.moved hW.alike, h.2.2.2.2.2.2.2.1.moved hW.alike, fun N hN => va_Nw.warmD hW (h.2.2.2.2.2.2.2.2 N hN)⟩
theorem pv_E.same {A : Nat → Prop} {s U : State} {H : Heap} (h : pv_E A s H) (hv : s.vm = U.vm) : pv_E A U H :=
  h.mv (by rw [← hv]; exact State.WarmedH.refl s) (fun _ _ _ => rfl) (fun _ h => h)
abbrev pv_K := Program × Launch × Env × Room × State × MethodId × Array Value × List Frame × Method × Code × (Nat → Prop) × Nat × (State → Prop)
def pv_V (D : va_G) (κ : pv_K) (cells slots : Nat) (LP : List Nat) (f : Nat → va_E) (pc : Nat) (lv : List (Nat × Value)) (st : List Value) : Prop :=
  match κ with
  | (p, l, e, R, s, m, args, below, meth, c, A, nL, Q) =>
    ∀ (H : Heap) (locs : List Loc) (ls : Array Slot), va_P D cls_ (va_pl LP f) H → va_D A (va_pl LP f) → va_S A s.heap H locs → lv_has ls nL lv → W p l e R s m args below meth c H locs cells slots Q (F0 m pc ls st)
/-- the context of a walk: the machine, the code, the words, the classes, the room -/
def pv_C (l0 : Launch) (D : va_G) (tys : List (ClassId × FieldType)) (κ : pv_K) (cc : ByteArray) (own : String) (rm : Room) (nl : Nat) : Prop :=
  match κ with
  | (p, l, e, R, s, m, args, below, meth, c, A, nL, Q) =>
    p.tables.exec = Jvm.exec ∧ c.code = cc ∧ c.maxLocals = nL ∧ s.vm.findClass own = some m.cls ∧ (∀ w ∈ Wg, w.before args s = true) ∧ va_K D cls_ tys s ∧ (∀ q, s.heap.size ≤ q → A q) ∧ R = rm ∧ nL = nl ∧ meth.locks = false ∧ pv_E A s s.heap ∧ l.stackTraces = false ∧ l = l0
def pv_Pc (D : va_G) (tys : List (ClassId × FieldType)) (av : List Value) (LP : List Nat) (f : Nat → va_E) (sz : Nat) : Array Value → State → Prop := fun a U =>
  a = av.toArray ∧ U.heap.size = sz ∧ va_P D cls_ (va_pl LP f) U.heap ∧ va_K D cls_ tys U ∧ va_D (fun _ => True) (va_pl LP f) ∧ pv_E (va_A (va_pl LP f) sz) U U.heap
def pv_Qc (D : va_G) (LP : List Nat) (f : Nat → va_E) (sz : Nat) (P : Option Value → List Nat → (Nat → va_E) → Prop) : Array Value → State → Outcome → State → Prop := fun _ st oc t =>
  (∃ (v : Option Value) (LP' : List Nat) (f' : Nat → va_E), oc = .returned v ∧ P v LP' f' ∧ va_P D cls_ (va_pl LP' f') t.heap ∧ va_D (va_A (va_pl LP f) sz) (va_pl LP' f')) ∧ va_F (va_A (va_pl LP f) sz) st t
def pv_Xc (D : va_G) (LP : List Nat) (f : Nat → va_E) (sz : Nat) (X : String → Prop) : String → State → State → Prop := fun E st t =>
  X E ∧ va_P D cls_ (va_pl LP f) t.heap ∧ va_F (va_A (va_pl LP f) sz) st t
/-- a method's contract over a pool: it returns with P, or throws with X and has changed nothing -/
def pv_M (l : Launch) (D : va_G) (tys : List (ClassId × FieldType)) (y : MethodName) (w0 : Cond) (rm : Room) (av : List Value) (LP : List Nat) (f : Nat → va_E) (P : Option Value → List Nat → (Nat → va_E) → Prop) (X : String → Prop) : Prop :=
  ∀ sz : Nat, vx_Met l y (w0 :: Wg) rm (pv_Pc D tys av LP f sz) (pv_Qc D LP f sz P) (pv_Xc D LP f sz X) rm.cells rm.slots (va_A (va_pl LP f) sz)
theorem pv_Pc.blind {D : va_G} {tys : List (ClassId × FieldType)} {av : List Value} {LP : List Nat} {f : Nat → va_E} {sz : Nat} : FrameBlind (pv_Pc D tys av LP f sz) := by
  intro a U g mk h
  obtain ⟨h1, h2, h3, h4, h5, h6⟩ := h
  exact ⟨h1, h2, h3, va_K.moved (u := U) (U := U.calling g mk a) (Vm.Alike.refl U.vm) h4, h5, h6.same rfl⟩
/-- what the end of a walk owes -/
def pv_R (κ : pv_K) (D : va_G) (LP0 : List Nat) (f0 : Nat → va_E) (P : Option Value → List Nat → (Nat → va_E) → Prop) (X : String → Prop) (ret : Option FieldType) : Prop :=
  match κ with
  | (p, l, e, R, s, m, args, below, meth, c, A, nL, Q) =>
    meth.sig.returnType = ret ∧ Q = vx_MQ below (pv_Qc D LP0 f0 s.heap.size P) (pv_Xc D LP0 f0 s.heap.size X) args s R.cells R.slots (va_A (va_pl LP0 f0) s.heap.size) ∧ A = va_A (va_pl LP0 f0) s.heap.size
/-- no handlers in this method -/
def pv_N (κ : pv_K) : Prop :=
  match κ with
  | (p, l, e, R, s, m, args, below, meth, c, A, nL, Q) => ∀ x ∈ c.exceptionTable.toList, False
section PV
variable {l0 : Launch} {D : va_G} {tys : List (ClassId × FieldType)} {κ : pv_K} {cc : ByteArray} {own : String} {rm : Room} {nl : Nat} {cells slots : Nat} {LP : List Nat} {f : Nat → va_E} {pc : Nat} {lv lv' : List (Nat × Value)} {st : List Value}
theorem pv_iconst (C : pv_C l0 D tys κ cc own rm nl) {n : Int} {v : Int32} (d : decode cc pc = .ok (.iconst n, 1)) (hv : Int32.ofInt n = v) (kk : pv_V D κ cells slots LP f (pc + 1) lv (.int v :: st)) : pv_V D κ cells slots LP f pc lv st := by
  obtain ⟨p, l, e, R, s, m, args, below, meth, c, A, nL, Q⟩ := κ
  exact fun H locs ls hP hD hS hl => lv_iconst C.1 C.2.1 d hv (kk H locs ls hP hD hS hl)
theorem pv_bipush (C : pv_C l0 D tys κ cc own rm nl) {n : Int} {v : Int32} (d : decode cc pc = .ok (.bipush n, 2)) (hv : (Int8.ofInt n).toInt32 = v) (kk : pv_V D κ cells slots LP f (pc + 2) lv (.int v :: st)) : pv_V D κ cells slots LP f pc lv st := by
  obtain ⟨p, l, e, R, s, m, args, below, meth, c, A, nL, Q⟩ := κ
  exact fun H locs ls hP hD hS hl => lv_bipush C.1 C.2.1 d hv (kk H locs ls hP hD hS hl)
theorem pv_sipush (C : pv_C l0 D tys κ cc own rm nl) {n : Int} {v : Int32} (d : decode cc pc = .ok (.sipush n, 3)) (hv : (Int16.ofInt n).toInt32 = v) (kk : pv_V D κ cells slots LP f (pc + 3) lv (.int v :: st)) : pv_V D κ cells slots LP f pc lv st := by
  obtain ⟨p, l, e, R, s, m, args, below, meth, c, A, nL, Q⟩ := κ
  exact fun H locs ls hP hD hS hl => lv_sipush C.1 C.2.1 d hv (kk H locs ls hP hD hS hl)
theorem pv_ldc (C : pv_C l0 D tys κ cc own rm nl) {i : Nat} {v : Int32} (hw : Cond.constant own i v ∈ Wg) (d : decode cc pc = .ok (.ldc i, 2)) (kk : pv_V D κ cells slots LP f (pc + 2) lv (.int v :: st)) : pv_V D κ cells slots LP f pc lv st := by
  obtain ⟨p, l, e, R, s, m, args, below, meth, c, A, nL, Q⟩ := κ
  exact fun H locs ls hP hD hS hl => lv_ldc C.1 C.2.1 C.2.2.2.1 (C.2.2.2.2.1 _ hw) d (kk H locs ls hP hD hS hl)
theorem pv_ldcw (C : pv_C l0 D tys κ cc own rm nl) {i : Nat} {v : Int32} (hw : Cond.constant own i v ∈ Wg) (d : decode cc pc = .ok (.ldc_w i, 3)) (kk : pv_V D κ cells slots LP f (pc + 3) lv (.int v :: st)) : pv_V D κ cells slots LP f pc lv st := by
  obtain ⟨p, l, e, R, s, m, args, below, meth, c, A, nL, Q⟩ := κ
  exact fun H locs ls hP hD hS hl => lv_ldcw C.1 C.2.1 C.2.2.2.1 (C.2.2.2.2.1 _ hw) d (kk H locs ls hP hD hS hl)
theorem pv_iload_n (C : pv_C l0 D tys κ cc own rm nl) {k : Fin 4} {i : Nat} {x : Int32} (d : decode cc pc = .ok (.iload_n k, 1)) (hi : (k : Nat) = i) (j : Nat) (hj : lv[j]? = some (i, .int x)) (kk : pv_V D κ cells slots LP f (pc + 1) lv (.int x :: st)) : pv_V D κ cells slots LP f pc lv st := by
  obtain ⟨p, l, e, R, s, m, args, below, meth, c, A, nL, Q⟩ := κ
  exact fun H locs ls hP hD hS hl => lv_iload_n C.1 C.2.1 d hi (lv_at hl j hj) (kk H locs ls hP hD hS hl)
theorem pv_iload (C : pv_C l0 D tys κ cc own rm nl) {i : Nat} {x : Int32} (d : decode cc pc = .ok (.iload i, 2)) (j : Nat) (hj : lv[j]? = some (i, .int x)) (kk : pv_V D κ cells slots LP f (pc + 2) lv (.int x :: st)) : pv_V D κ cells slots LP f pc lv st := by
  obtain ⟨p, l, e, R, s, m, args, below, meth, c, A, nL, Q⟩ := κ
  exact fun H locs ls hP hD hS hl => lv_iload C.1 C.2.1 d (lv_at hl j hj) (kk H locs ls hP hD hS hl)
theorem pv_istore_n (C : pv_C l0 D tys κ cc own rm nl) {k : Fin 4} {i : Nat} {x : Int32} (d : decode cc pc = .ok (.istore_n k, 1)) (hi : (k : Nat) = i) (hn : i < nl) (hv : (i, Value.int x) :: lv.filter (fun q => !(q.1 == i) && !(q.1 + 1 == i && q.2.category == 2)) = lv') (kk : pv_V D κ cells slots LP f (pc + 1) lv' st) : pv_V D κ cells slots LP f pc lv (.int x :: st) := by
  obtain ⟨p, l, e, R, s, m, args, below, meth, c, A, nL, Q⟩ := κ
  exact fun H locs ls hP hD hS hl => lv_istore_n C.1 C.2.1 d hi hl (by rw [C.2.2.2.2.2.2.2.2.1]; exact hn) hv (fun ls9 hl9 => kk H locs ls9 hP hD hS hl9)
theorem pv_istore (C : pv_C l0 D tys κ cc own rm nl) {i : Nat} {x : Int32} (d : decode cc pc = .ok (.istore i, 2)) (hn : i < nl) (hv : (i, Value.int x) :: lv.filter (fun q => !(q.1 == i) && !(q.1 + 1 == i && q.2.category == 2)) = lv') (kk : pv_V D κ cells slots LP f (pc + 2) lv' st) : pv_V D κ cells slots LP f pc lv (.int x :: st) := by
  obtain ⟨p, l, e, R, s, m, args, below, meth, c, A, nL, Q⟩ := κ
  exact fun H locs ls hP hD hS hl => lv_istore C.1 C.2.1 d hl (by rw [C.2.2.2.2.2.2.2.2.1]; exact hn) hv (fun ls9 hl9 => kk H locs ls9 hP hD hS hl9)
theorem pv_aload_n (C : pv_C l0 D tys κ cc own rm nl) {k : Fin 4} {i : Nat} {x : Nat} (d : decode cc pc = .ok (.aload_n k, 1)) (hi : (k : Nat) = i) (j : Nat) (hj : lv[j]? = some (i, .ref x)) (kk : pv_V D κ cells slots LP f (pc + 1) lv (.ref x :: st)) : pv_V D κ cells slots LP f pc lv st := by
  obtain ⟨p, l, e, R, s, m, args, below, meth, c, A, nL, Q⟩ := κ
  exact fun H locs ls hP hD hS hl => lv_aload_n C.1 C.2.1 d hi (lv_at hl j hj) (kk H locs ls hP hD hS hl)
theorem pv_aload (C : pv_C l0 D tys κ cc own rm nl) {i : Nat} {x : Nat} (d : decode cc pc = .ok (.aload i, 2)) (j : Nat) (hj : lv[j]? = some (i, .ref x)) (kk : pv_V D κ cells slots LP f (pc + 2) lv (.ref x :: st)) : pv_V D κ cells slots LP f pc lv st := by
  obtain ⟨p, l, e, R, s, m, args, below, meth, c, A, nL, Q⟩ := κ
  exact fun H locs ls hP hD hS hl => lv_aload C.1 C.2.1 d (lv_at hl j hj) (kk H locs ls hP hD hS hl)
theorem pv_astore_n (C : pv_C l0 D tys κ cc own rm nl) {k : Fin 4} {i : Nat} {x : Nat} (d : decode cc pc = .ok (.astore_n k, 1)) (hi : (k : Nat) = i) (hn : i < nl) (hv : (i, Value.ref x) :: lv.filter (fun q => !(q.1 == i) && !(q.1 + 1 == i && q.2.category == 2)) = lv') (kk : pv_V D κ cells slots LP f (pc + 1) lv' st) : pv_V D κ cells slots LP f pc lv (.ref x :: st) := by
  obtain ⟨p, l, e, R, s, m, args, below, meth, c, A, nL, Q⟩ := κ
  exact fun H locs ls hP hD hS hl => lv_astore_n C.1 C.2.1 d hi hl (by rw [C.2.2.2.2.2.2.2.2.1]; exact hn) hv (fun ls9 hl9 => kk H locs ls9 hP hD hS hl9)
theorem pv_astore (C : pv_C l0 D tys κ cc own rm nl) {i : Nat} {x : Nat} (d : decode cc pc = .ok (.astore i, 2)) (hn : i < nl) (hv : (i, Value.ref x) :: lv.filter (fun q => !(q.1 == i) && !(q.1 + 1 == i && q.2.category == 2)) = lv') (kk : pv_V D κ cells slots LP f (pc + 2) lv' st) : pv_V D κ cells slots LP f pc lv (.ref x :: st) := by
  obtain ⟨p, l, e, R, s, m, args, below, meth, c, A, nL, Q⟩ := κ
  exact fun H locs ls hP hD hS hl => lv_astore C.1 C.2.1 d hl (by rw [C.2.2.2.2.2.2.2.2.1]; exact hn) hv (fun ls9 hl9 => kk H locs ls9 hP hD hS hl9)
theorem pv_iinc (C : pv_C l0 D tys κ cc own rm nl) {i : Nat} {n : Int} {x v : Int32} (d : decode cc pc = .ok (.iinc i n, 3)) (j : Nat) (hj : lv[j]? = some (i, .int x)) (he : x + Int32.ofInt n = v) (hn : i < nl) (hv : (i, Value.int v) :: lv.filter (fun q => !(q.1 == i) && !(q.1 + 1 == i && q.2.category == 2)) = lv') (kk : pv_V D κ cells slots LP f (pc + 3) lv' st) : pv_V D κ cells slots LP f pc lv st := by
  obtain ⟨p, l, e, R, s, m, args, below, meth, c, A, nL, Q⟩ := κ
  exact fun H locs ls hP hD hS hl => lv_iinc C.1 C.2.1 d hl hj he (by rw [C.2.2.2.2.2.2.2.2.1]; exact hn) hv (fun ls9 hl9 => kk H locs ls9 hP hD hS hl9)
theorem pv_iadd (C : pv_C l0 D tys κ cc own rm nl) {x y : Int32} (d : decode cc pc = .ok (.iadd, 1)) (kk : pv_V D κ cells slots LP f (pc + 1) lv (.int (x + y) :: st)) : pv_V D κ cells slots LP f pc lv (.int y :: .int x :: st) := by
  obtain ⟨p, l, e, R, s, m, args, below, meth, c, A, nL, Q⟩ := κ
  exact fun H locs ls hP hD hS hl => lv_iadd C.1 C.2.1 d (kk H locs ls hP hD hS hl)
theorem pv_isub (C : pv_C l0 D tys κ cc own rm nl) {x y : Int32} (d : decode cc pc = .ok (.isub, 1)) (kk : pv_V D κ cells slots LP f (pc + 1) lv (.int (x - y) :: st)) : pv_V D κ cells slots LP f pc lv (.int y :: .int x :: st) := by
  obtain ⟨p, l, e, R, s, m, args, below, meth, c, A, nL, Q⟩ := κ
  exact fun H locs ls hP hD hS hl => lv_isub C.1 C.2.1 d (kk H locs ls hP hD hS hl)
theorem pv_imul (C : pv_C l0 D tys κ cc own rm nl) {x y : Int32} (d : decode cc pc = .ok (.imul, 1)) (kk : pv_V D κ cells slots LP f (pc + 1) lv (.int (x * y) :: st)) : pv_V D κ cells slots LP f pc lv (.int y :: .int x :: st) := by
  obtain ⟨p, l, e, R, s, m, args, below, meth, c, A, nL, Q⟩ := κ
  exact fun H locs ls hP hD hS hl => lv_imul C.1 C.2.1 d (kk H locs ls hP hD hS hl)
theorem pv_iand (C : pv_C l0 D tys κ cc own rm nl) {x y : Int32} (d : decode cc pc = .ok (.iand, 1)) (kk : pv_V D κ cells slots LP f (pc + 1) lv (.int (x &&& y) :: st)) : pv_V D κ cells slots LP f pc lv (.int y :: .int x :: st) := by
  obtain ⟨p, l, e, R, s, m, args, below, meth, c, A, nL, Q⟩ := κ
  exact fun H locs ls hP hD hS hl => lv_iand C.1 C.2.1 d (kk H locs ls hP hD hS hl)
theorem pv_ior (C : pv_C l0 D tys κ cc own rm nl) {x y : Int32} (d : decode cc pc = .ok (.ior, 1)) (kk : pv_V D κ cells slots LP f (pc + 1) lv (.int (x ||| y) :: st)) : pv_V D κ cells slots LP f pc lv (.int y :: .int x :: st) := by
  obtain ⟨p, l, e, R, s, m, args, below, meth, c, A, nL, Q⟩ := κ
  exact fun H locs ls hP hD hS hl => lv_ior C.1 C.2.1 d (kk H locs ls hP hD hS hl)
theorem pv_ixor (C : pv_C l0 D tys κ cc own rm nl) {x y : Int32} (d : decode cc pc = .ok (.ixor, 1)) (kk : pv_V D κ cells slots LP f (pc + 1) lv (.int (x ^^^ y) :: st)) : pv_V D κ cells slots LP f pc lv (.int y :: .int x :: st) := by
  obtain ⟨p, l, e, R, s, m, args, below, meth, c, A, nL, Q⟩ := κ
  exact fun H locs ls hP hD hS hl => lv_ixor C.1 C.2.1 d (kk H locs ls hP hD hS hl)
theorem pv_ishl (C : pv_C l0 D tys κ cc own rm nl) {x y : Int32} (d : decode cc pc = .ok (.ishl, 1)) (kk : pv_V D κ cells slots LP f (pc + 1) lv (.int (x <<< (y &&& 31)) :: st)) : pv_V D κ cells slots LP f pc lv (.int y :: .int x :: st) := by
  obtain ⟨p, l, e, R, s, m, args, below, meth, c, A, nL, Q⟩ := κ
  exact fun H locs ls hP hD hS hl => lv_ishl C.1 C.2.1 d (kk H locs ls hP hD hS hl)
theorem pv_idiv (C : pv_C l0 D tys κ cc own rm nl) {x y : Int32} (d : decode cc pc = .ok (.idiv, 1)) (hne : ¬ y = 0) (kk : pv_V D κ cells slots LP f (pc + 1) lv (.int (x / y) :: st)) : pv_V D κ cells slots LP f pc lv (.int y :: .int x :: st) := by
  obtain ⟨p, l, e, R, s, m, args, below, meth, c, A, nL, Q⟩ := κ
  exact fun H locs ls hP hD hS hl => lv_idiv C.1 C.2.1 d hne (kk H locs ls hP hD hS hl)
theorem pv_irem (C : pv_C l0 D tys κ cc own rm nl) {x y : Int32} (d : decode cc pc = .ok (.irem, 1)) (hne : ¬ y = 0) (kk : pv_V D κ cells slots LP f (pc + 1) lv (.int (x - x / y * y) :: st)) : pv_V D κ cells slots LP f pc lv (.int y :: .int x :: st) := by
  obtain ⟨p, l, e, R, s, m, args, below, meth, c, A, nL, Q⟩ := κ
  exact fun H locs ls hP hD hS hl => lv_irem C.1 C.2.1 d hne (kk H locs ls hP hD hS hl)
theorem pv_ineg (C : pv_C l0 D tys κ cc own rm nl) {x : Int32} (d : decode cc pc = .ok (.ineg, 1)) (kk : pv_V D κ cells slots LP f (pc + 1) lv (.int (-x) :: st)) : pv_V D κ cells slots LP f pc lv (.int x :: st) := by
  obtain ⟨p, l, e, R, s, m, args, below, meth, c, A, nL, Q⟩ := κ
  exact fun H locs ls hP hD hS hl => lv_ineg C.1 C.2.1 d (kk H locs ls hP hD hS hl)
theorem pv_i2l (C : pv_C l0 D tys κ cc own rm nl) {x : Int32} (d : decode cc pc = .ok (.i2l, 1)) (kk : pv_V D κ cells slots LP f (pc + 1) lv (.long x.toInt64 :: st)) : pv_V D κ cells slots LP f pc lv (.int x :: st) := by
  obtain ⟨p, l, e, R, s, m, args, below, meth, c, A, nL, Q⟩ := κ
  exact fun H locs ls hP hD hS hl => lv_i2l C.1 C.2.1 d rfl (kk H locs ls hP hD hS hl)
theorem pv_lcmp (C : pv_C l0 D tys κ cc own rm nl) {x y : Int64} (d : decode cc pc = .ok (.lcmp, 1)) (kk : pv_V D κ cells slots LP f (pc + 1) lv (.int (lg_cmp x y) :: st)) : pv_V D κ cells slots LP f pc lv (.long y :: .long x :: st) := by
  obtain ⟨p, l, e, R, s, m, args, below, meth, c, A, nL, Q⟩ := κ
  exact fun H locs ls hP hD hS hl => W.lcmp C.1 C.2.1 d (kk H locs ls hP hD hS hl)
theorem pv_dup (C : pv_C l0 D tys κ cc own rm nl) {va : Value} (d : decode cc pc = .ok (.dup, 1)) (hva : va.category = 1) (kk : pv_V D κ cells slots LP f (pc + 1) lv (va :: va :: st)) : pv_V D κ cells slots LP f pc lv (va :: st) := by
  obtain ⟨p, l, e, R, s, m, args, below, meth, c, A, nL, Q⟩ := κ
  exact fun H locs ls hP hD hS hl => lv_dup C.1 C.2.1 d hva (kk H locs ls hP hD hS hl)
theorem pv_dup2 (C : pv_C l0 D tys κ cc own rm nl) {va vb : Value} (d : decode cc pc = .ok (.dup2, 1)) (hva : va.category = 1) (hvb : vb.category = 1) (kk : pv_V D κ cells slots LP f (pc + 1) lv (va :: vb :: va :: vb :: st)) : pv_V D κ cells slots LP f pc lv (va :: vb :: st) := by
  obtain ⟨p, l, e, R, s, m, args, below, meth, c, A, nL, Q⟩ := κ
  exact fun H locs ls hP hD hS hl => lv_dup2_11 C.1 C.2.1 d hva hvb (kk H locs ls hP hD hS hl)
theorem pv_goto (C : pv_C l0 D tys κ cc own rm nl) {off : Int} {tgt : Nat} (d : decode cc pc = .ok (.goto off, 3)) (ht : (pc : Int) + off = (tgt : Int)) (kk : pv_V D κ cells slots LP f tgt lv st) : pv_V D κ cells slots LP f pc lv st := by
  obtain ⟨p, l, e, R, s, m, args, below, meth, c, A, nL, Q⟩ := κ
  exact fun H locs ls hP hD hS hl => lv_goto C.1 C.2.1 d ht (kk H locs ls hP hD hS hl)
theorem pv_ifnull (C : pv_C l0 D tys κ cc own rm nl) {x : Nat} {off : Int} (d : decode cc pc = .ok (.ifnull off, 3)) (kk : pv_V D κ cells slots LP f (pc + 3) lv st) : pv_V D κ cells slots LP f pc lv (.ref x :: st) := by
  obtain ⟨p, l, e, R, s, m, args, below, meth, c, A, nL, Q⟩ := κ
  exact fun H locs ls hP hD hS hl => lv_ifnull C.1 C.2.1 d (kk H locs ls hP hD hS hl)
theorem pv_ifnonnull (C : pv_C l0 D tys κ cc own rm nl) {x : Nat} {off : Int} {tgt : Nat} (d : decode cc pc = .ok (.ifnonnull off, 3)) (ht : (pc : Int) + off = (tgt : Int)) (kk : pv_V D κ cells slots LP f tgt lv st) : pv_V D κ cells slots LP f pc lv (.ref x :: st) := by
  obtain ⟨p, l, e, R, s, m, args, below, meth, c, A, nL, Q⟩ := κ
  exact fun H locs ls hP hD hS hl => lv_ifnonnull C.1 C.2.1 d ht (kk H locs ls hP hD hS hl)
theorem pv_if_eq (C : pv_C l0 D tys κ cc own rm nl) {x : Int32} {off : Int} {tgt : Nat} (d : decode cc pc = .ok (.ifCond .eq off, 3)) (ht : (pc : Int) + off = (tgt : Int)) (kt : x = 0 → pv_V D κ cells slots LP f tgt lv st) (kf : ¬ x = 0 → pv_V D κ cells slots LP f (pc + 3) lv st) : pv_V D κ cells slots LP f pc lv (.int x :: st) := by
  obtain ⟨p, l, e, R, s, m, args, below, meth, c, A, nL, Q⟩ := κ
  exact fun H locs ls hP hD hS hl => lv_if_eq C.1 C.2.1 d ht (fun h => kt h H locs ls hP hD hS hl) (fun h => kf h H locs ls hP hD hS hl)
theorem pv_icmp_eq (C : pv_C l0 D tys κ cc own rm nl) {x y : Int32} {off : Int} {tgt : Nat} (d : decode cc pc = .ok (.if_icmp .eq off, 3)) (ht : (pc : Int) + off = (tgt : Int)) (kt : x = y → pv_V D κ cells slots LP f tgt lv st) (kf : ¬ x = y → pv_V D κ cells slots LP f (pc + 3) lv st) : pv_V D κ cells slots LP f pc lv (.int y :: .int x :: st) := by
  obtain ⟨p, l, e, R, s, m, args, below, meth, c, A, nL, Q⟩ := κ
  exact fun H locs ls hP hD hS hl => lv_icmp_eq C.1 C.2.1 d ht (fun h => kt h H locs ls hP hD hS hl) (fun h => kf h H locs ls hP hD hS hl)
theorem pv_if_ne (C : pv_C l0 D tys κ cc own rm nl) {x : Int32} {off : Int} {tgt : Nat} (d : decode cc pc = .ok (.ifCond .ne off, 3)) (ht : (pc : Int) + off = (tgt : Int)) (kt : ¬ x = 0 → pv_V D κ cells slots LP f tgt lv st) (kf : x = 0 → pv_V D κ cells slots LP f (pc + 3) lv st) : pv_V D κ cells slots LP f pc lv (.int x :: st) := by
  obtain ⟨p, l, e, R, s, m, args, below, meth, c, A, nL, Q⟩ := κ
  exact fun H locs ls hP hD hS hl => lv_if_ne C.1 C.2.1 d ht (fun h => kt h H locs ls hP hD hS hl) (fun h => kf h H locs ls hP hD hS hl)
theorem pv_icmp_ne (C : pv_C l0 D tys κ cc own rm nl) {x y : Int32} {off : Int} {tgt : Nat} (d : decode cc pc = .ok (.if_icmp .ne off, 3)) (ht : (pc : Int) + off = (tgt : Int)) (kt : ¬ x = y → pv_V D κ cells slots LP f tgt lv st) (kf : x = y → pv_V D κ cells slots LP f (pc + 3) lv st) : pv_V D κ cells slots LP f pc lv (.int y :: .int x :: st) := by
  obtain ⟨p, l, e, R, s, m, args, below, meth, c, A, nL, Q⟩ := κ
  exact fun H locs ls hP hD hS hl => lv_icmp_ne C.1 C.2.1 d ht (fun h => kt h H locs ls hP hD hS hl) (fun h => kf h H locs ls hP hD hS hl)
theorem pv_if_lt (C : pv_C l0 D tys κ cc own rm nl) {x : Int32} {off : Int} {tgt : Nat} (d : decode cc pc = .ok (.ifCond .lt off, 3)) (ht : (pc : Int) + off = (tgt : Int)) (kt : x < 0 → pv_V D κ cells slots LP f tgt lv st) (kf : ¬ x < 0 → pv_V D κ cells slots LP f (pc + 3) lv st) : pv_V D κ cells slots LP f pc lv (.int x :: st) := by
  obtain ⟨p, l, e, R, s, m, args, below, meth, c, A, nL, Q⟩ := κ
  exact fun H locs ls hP hD hS hl => lv_if_lt C.1 C.2.1 d ht (fun h => kt h H locs ls hP hD hS hl) (fun h => kf h H locs ls hP hD hS hl)
theorem pv_icmp_lt (C : pv_C l0 D tys κ cc own rm nl) {x y : Int32} {off : Int} {tgt : Nat} (d : decode cc pc = .ok (.if_icmp .lt off, 3)) (ht : (pc : Int) + off = (tgt : Int)) (kt : x < y → pv_V D κ cells slots LP f tgt lv st) (kf : ¬ x < y → pv_V D κ cells slots LP f (pc + 3) lv st) : pv_V D κ cells slots LP f pc lv (.int y :: .int x :: st) := by
  obtain ⟨p, l, e, R, s, m, args, below, meth, c, A, nL, Q⟩ := κ
  exact fun H locs ls hP hD hS hl => lv_icmp_lt C.1 C.2.1 d ht (fun h => kt h H locs ls hP hD hS hl) (fun h => kf h H locs ls hP hD hS hl)
theorem pv_if_ge (C : pv_C l0 D tys κ cc own rm nl) {x : Int32} {off : Int} {tgt : Nat} (d : decode cc pc = .ok (.ifCond .ge off, 3)) (ht : (pc : Int) + off = (tgt : Int)) (kt : 0 ≤ x → pv_V D κ cells slots LP f tgt lv st) (kf : ¬ 0 ≤ x → pv_V D κ cells slots LP f (pc + 3) lv st) : pv_V D κ cells slots LP f pc lv (.int x :: st) := by
  obtain ⟨p, l, e, R, s, m, args, below, meth, c, A, nL, Q⟩ := κ
  exact fun H locs ls hP hD hS hl => lv_if_ge C.1 C.2.1 d ht (fun h => kt h H locs ls hP hD hS hl) (fun h => kf h H locs ls hP hD hS hl)
theorem pv_icmp_ge (C : pv_C l0 D tys κ cc own rm nl) {x y : Int32} {off : Int} {tgt : Nat} (d : decode cc pc = .ok (.if_icmp .ge off, 3)) (ht : (pc : Int) + off = (tgt : Int)) (kt : y ≤ x → pv_V D κ cells slots LP f tgt lv st) (kf : ¬ y ≤ x → pv_V D κ cells slots LP f (pc + 3) lv st) : pv_V D κ cells slots LP f pc lv (.int y :: .int x :: st) := by
  obtain ⟨p, l, e, R, s, m, args, below, meth, c, A, nL, Q⟩ := κ
  exact fun H locs ls hP hD hS hl => lv_icmp_ge C.1 C.2.1 d ht (fun h => kt h H locs ls hP hD hS hl) (fun h => kf h H locs ls hP hD hS hl)
theorem pv_if_gt (C : pv_C l0 D tys κ cc own rm nl) {x : Int32} {off : Int} {tgt : Nat} (d : decode cc pc = .ok (.ifCond .gt off, 3)) (ht : (pc : Int) + off = (tgt : Int)) (kt : 0 < x → pv_V D κ cells slots LP f tgt lv st) (kf : ¬ 0 < x → pv_V D κ cells slots LP f (pc + 3) lv st) : pv_V D κ cells slots LP f pc lv (.int x :: st) := by
  obtain ⟨p, l, e, R, s, m, args, below, meth, c, A, nL, Q⟩ := κ
  exact fun H locs ls hP hD hS hl => lv_if_gt C.1 C.2.1 d ht (fun h => kt h H locs ls hP hD hS hl) (fun h => kf h H locs ls hP hD hS hl)
theorem pv_icmp_gt (C : pv_C l0 D tys κ cc own rm nl) {x y : Int32} {off : Int} {tgt : Nat} (d : decode cc pc = .ok (.if_icmp .gt off, 3)) (ht : (pc : Int) + off = (tgt : Int)) (kt : y < x → pv_V D κ cells slots LP f tgt lv st) (kf : ¬ y < x → pv_V D κ cells slots LP f (pc + 3) lv st) : pv_V D κ cells slots LP f pc lv (.int y :: .int x :: st) := by
  obtain ⟨p, l, e, R, s, m, args, below, meth, c, A, nL, Q⟩ := κ
  exact fun H locs ls hP hD hS hl => lv_icmp_gt C.1 C.2.1 d ht (fun h => kt h H locs ls hP hD hS hl) (fun h => kf h H locs ls hP hD hS hl)
theorem pv_if_le (C : pv_C l0 D tys κ cc own rm nl) {x : Int32} {off : Int} {tgt : Nat} (d : decode cc pc = .ok (.ifCond .le off, 3)) (ht : (pc : Int) + off = (tgt : Int)) (kt : x ≤ 0 → pv_V D κ cells slots LP f tgt lv st) (kf : ¬ x ≤ 0 → pv_V D κ cells slots LP f (pc + 3) lv st) : pv_V D κ cells slots LP f pc lv (.int x :: st) := by
  obtain ⟨p, l, e, R, s, m, args, below, meth, c, A, nL, Q⟩ := κ
  exact fun H locs ls hP hD hS hl => lv_if_le C.1 C.2.1 d ht (fun h => kt h H locs ls hP hD hS hl) (fun h => kf h H locs ls hP hD hS hl)
theorem pv_icmp_le (C : pv_C l0 D tys κ cc own rm nl) {x y : Int32} {off : Int} {tgt : Nat} (d : decode cc pc = .ok (.if_icmp .le off, 3)) (ht : (pc : Int) + off = (tgt : Int)) (kt : x ≤ y → pv_V D κ cells slots LP f tgt lv st) (kf : ¬ x ≤ y → pv_V D κ cells slots LP f (pc + 3) lv st) : pv_V D κ cells slots LP f pc lv (.int y :: .int x :: st) := by
  obtain ⟨p, l, e, R, s, m, args, below, meth, c, A, nL, Q⟩ := κ
  exact fun H locs ls hP hD hS hl => lv_icmp_le C.1 C.2.1 d ht (fun h => kt h H locs ls hP hD hS hl) (fun h => kf h H locs ls hP hD hS hl)
theorem pv_acmp_eq (C : pv_C l0 D tys κ cc own rm nl) {x y : Nat} {off : Int} {tgt : Nat} (d : decode cc pc = .ok (.if_acmp .eq off, 3)) (ht : (pc : Int) + off = (tgt : Int)) (kt : x = y → pv_V D κ cells slots LP f tgt lv st) (kf : ¬ x = y → pv_V D κ cells slots LP f (pc + 3) lv st) : pv_V D κ cells slots LP f pc lv (.ref y :: .ref x :: st) := by
  obtain ⟨p, l, e, R, s, m, args, below, meth, c, A, nL, Q⟩ := κ
  exact fun H locs ls hP hD hS hl => lv_acmp_eq (rx := some x) (ry := some y) C.1 C.2.1 d ht (fun h => kt (Option.some.inj h) H locs ls hP hD hS hl) (fun h => kf (fun q => h (congrArg some q)) H locs ls hP hD hS hl)
theorem pv_acmp_ne (C : pv_C l0 D tys κ cc own rm nl) {x y : Nat} {off : Int} {tgt : Nat} (d : decode cc pc = .ok (.if_acmp .ne off, 3)) (ht : (pc : Int) + off = (tgt : Int)) (kt : ¬ x = y → pv_V D κ cells slots LP f tgt lv st) (kf : x = y → pv_V D κ cells slots LP f (pc + 3) lv st) : pv_V D κ cells slots LP f pc lv (.ref y :: .ref x :: st) := by
  obtain ⟨p, l, e, R, s, m, args, below, meth, c, A, nL, Q⟩ := κ
  exact fun H locs ls hP hD hS hl => lv_acmp_ne (rx := some x) (ry := some y) C.1 C.2.1 d ht (fun h => kt (fun q => h (congrArg some q)) H locs ls hP hD hS hl) (fun h => kf (Option.some.inj h) H locs ls hP hD hS hl)
theorem nI_inj_toInt {x : Int32} {k : Nat} (hk : k < 2 ^ 31) (h : x.toInt = (k : Int)) : x = nI k := Int32.toInt_inj.mp (by rw [h, nI_toInt hk])
theorem pv_tsw (C : pv_C l0 D tys κ cc own rm nl) {dflt hi : Int} {offs : Array Int} {len n : Nat} {x : Int32} {td : Nat} (tg : Nat → Nat) (d : decode cc pc = .ok (.tableswitch dflt 0 hi offs, len)) (hhi : hi = (n : Int) - 1) (ho : ∀ k, k < n → ∃ off : Int, offs[k]? = some off ∧ (pc : Int) + off = (tg k : Int)) (hd : (pc : Int) + dflt = (td : Int)) (hn : n < 2 ^ 31)
    (kin : ∀ k, k < n → x = nI k → pv_V D κ cells slots LP f (tg k) lv st) (kout : (∀ k, k < n → ¬ x = nI k) → pv_V D κ cells slots LP f td lv st) : pv_V D κ cells slots LP f pc lv (.int x :: st) := by
  obtain ⟨p, l, e, R, s, m, args, below, meth, c, A, nL, Q⟩ := κ
  intro H locs ls hP hD hS hl
  by_cases h : x.toInt < 0 ∨ hi < x.toInt
  · refine lv_tableOut C.1 C.2.1 d h hd (kout ?_ H locs ls hP hD hS hl)
    intro k hk q
    subst q
    rw [nI_toInt (by omega)] at h
    omega
  · have h1 : ¬ x.toInt < 0 := fun q => h (Or.inl q)
    have h2 : ¬ hi < x.toInt := fun q => h (Or.inr q)
    have hk : x.toInt.toNat < n := by omega
    obtain ⟨off, e1, e2⟩ := ho _ hk
    exact lv_tableIn C.1 C.2.1 d h1 h2 (by rw [Int.sub_zero]; exact e1) e2 (kin _ hk (nI_inj_toInt (by omega) (by omega)) H locs ls hP hD hS hl)
theorem pv_get (C : pv_C l0 D tys κ cc own rm nl) {ref Cn : String} {Tb : u_T} {N ci index : Nat} (hin : ∀ w ∈ u_ws Cn Tb N, w ∈ Wg) {a : Nat} {fs : List Value} (hc : cls_[ci]? = some (Cn, Tb, N)) (ha : a ∈ LP) (hf : f a = .inr (ci, fs)) (k : Nat) (hk : k < N) (hlk : Cond.fieldLink own index ref (Tb k).2.1 (Tb k).2.2.1 ∈ Wg) (hr : (Tb k).1 = ref) {v : Value} (hv : fs[k]? = some v) (d : decode cc pc = .ok (.getfield index, 3)) (kk : pv_V D κ cells slots LP f (pc + 3) lv (v :: st)) : pv_V D κ cells slots LP f pc lv (.ref a :: st) := by
  obtain ⟨p, l, e, R, s, m, args, below, meth, c, A, nL, Q⟩ := κ
  intro H locs ls hP hD hS hl
  obtain ⟨k0, hk0⟩ := va_pl_get (X := []) (f := f) ha
  rw [hf] at hk0
  exact va_get C.1 C.2.1 C.2.2.2.2.1 hin C.2.2.2.1 C.2.2.2.2.2.1 hP k0 hk0 hc k hk (C.2.2.2.2.1 _ hlk) (fun x h => by rw [← hr]; exact h) hv d (kk H locs ls hP hD hS hl)
def pv_I (κ : pv_K) : Prop :=
  match κ with
  | (p, l, e, R, s, m, args, below, meth, c, A, nL, Q) => meth.name = "<init>"
theorem pv_put (C : pv_C l0 D tys κ cc own rm nl)  {ref Cn : String} {Tb : u_T} {N ci index : Nat} (hin : ∀ w ∈ u_ws Cn Tb N, w ∈ Wg) (ty0 : Nat → FieldType) (hty : ∀ k, k < N → parseFieldDescriptor (Tb k).2.2.1 = some (ty0 k)) (hnm : ∀ a, a < N → ∀ b, b < N → a ≠ b → (Tb a).2.1 ≠ (Tb b).2.1) {a : Nat} {fs : List Value} (hc : cls_[ci]? = some (Cn, Tb, N)) (ha : a ∈ LP) (hf : f a = .inr (ci, fs)) (k : Nat) (hk : k < N) (hlk : Cond.fieldLink own index ref (Tb k).2.1 (Tb k).2.2.1 ∈ Wg) (hr : (Tb k).1 = ref) (hfin : (Tb k).2.2.2 = false) {v : Value} (hn : narrow (ty0 k) v = v) (hfit : fits (ty0 k) v = true) (hlen : k < fs.length) (d : decode cc pc = .ok (.putfield index, 3)) (kk : pv_V D κ cells slots LP (va_up f a (.inr (ci, fs.set k v))) (pc + 3) lv st) : pv_V D κ cells slots LP f pc lv (v :: .ref a :: st) := by
  obtain ⟨p, l, e, R, s, m, args, below, meth, c, A, nL, Q⟩ := κ
  intro H locs ls hP hD hS hl
  obtain ⟨k0, hk0⟩ := va_pl_get (X := []) (f := f) ha
  have hk1 := hk0
  rw [hf] at hk0
  refine va_put C.1 C.2.1 C.2.2.2.2.1 hin ty0 hty hnm C.2.2.2.1 C.2.2.2.2.2.1 hP hD hS k0 hk0 hc k hk (C.2.2.2.2.1 _ hlk) (fun x h => by rw [← hr]; exact h) hfin (hty k hk) hn hfit hlen d (fun H1 locs1 hP1 hD1 hS1 => ?_)
  have e := va_pl_set (X := []) (e := .inr (ci, fs.set k v)) hD ha hk1
  exact kk H1 locs1 ls (by rw [show va_pl LP (va_up f a (.inr (ci, fs.set k v))) = _ from e.symm]; exact hP1) (by rw [show va_pl LP (va_up f a (.inr (ci, fs.set k v))) = _ from e.symm]; exact hD1) hS1 hl
theorem pv_putF (C : pv_C l0 D tys κ cc own rm nl) (hI : pv_I κ) {ref Cn : String} {Tb : u_T} {N ci index : Nat} (hin : ∀ w ∈ u_ws Cn Tb N, w ∈ Wg) (ty0 : Nat → FieldType) (hty : ∀ k, k < N → parseFieldDescriptor (Tb k).2.2.1 = some (ty0 k)) (hnm : ∀ a, a < N → ∀ b, b < N → a ≠ b → (Tb a).2.1 ≠ (Tb b).2.1) {a : Nat} {fs : List Value} (hc : cls_[ci]? = some (Cn, Tb, N)) (ha : a ∈ LP) (hf : f a = .inr (ci, fs)) (k : Nat) (hk : k < N) (hlk : Cond.fieldLink own index ref (Tb k).2.1 (Tb k).2.2.1 ∈ Wg) (hr : (Tb k).1 = ref) (hfin : (Tb k).2.2.2 = true) (hdecl : (Tb k).1 = own) {v : Value} (hn : narrow (ty0 k) v = v) (hfit : fits (ty0 k) v = true) (hlen : k < fs.length) (d : decode cc pc = .ok (.putfield index, 3)) (kk : pv_V D κ cells slots LP (va_up f a (.inr (ci, fs.set k v))) (pc + 3) lv st) : pv_V D κ cells slots LP f pc lv (v :: .ref a :: st) := by
  obtain ⟨p, l, e, R, s, m, args, below, meth, c, A, nL, Q⟩ := κ
  intro H locs ls hP hD hS hl
  obtain ⟨k0, hk0⟩ := va_pl_get (X := []) (f := f) ha
  have hk1 := hk0
  rw [hf] at hk0
  refine va_putF C.1 C.2.1 C.2.2.2.2.1 hin ty0 hty hnm C.2.2.2.1 C.2.2.2.2.2.1 hP hD hS k0 hk0 hc k hk (C.2.2.2.2.1 _ hlk) (fun x h => by rw [← hr]; exact h) hfin hI hdecl (hty k hk) hn hfit hlen d (fun H1 locs1 hP1 hD1 hS1 => ?_)
  have e := va_pl_set (X := []) (e := .inr (ci, fs.set k v)) hD ha hk1
  exact kk H1 locs1 ls (by rw [show va_pl LP (va_up f a (.inr (ci, fs.set k v))) = _ from e.symm]; exact hP1) (by rw [show va_pl LP (va_up f a (.inr (ci, fs.set k v))) = _ from e.symm]; exact hD1) hS1 hl
theorem pv_iald (C : pv_C l0 D tys κ cc own rm nl) (t0 : Nat) {cA : ClassId} {n a : Nat} {g : Nat → Int32} (ht : tys[t0]? = some (cA, .int)) (ha : a ∈ LP) (hf : f a = .inl (cA, n, .inl g)) {i : Int32} {j : Nat} (hi : i = nI j) (hj : j < n) (hn : n < 2 ^ 31) (d : decode cc pc = .ok (.iaload, 1)) (kk : pv_V D κ cells slots LP f (pc + 1) lv (.int (g j) :: st)) : pv_V D κ cells slots LP f pc lv (.int i :: .ref a :: st) := by
  obtain ⟨p, l, e, R, s, m, args, below, meth, c, A, nL, Q⟩ := κ
  intro H locs ls hP hD hS hl
  obtain ⟨k0, hk0⟩ := va_pl_get (X := []) (f := f) ha
  rw [hf] at hk0
  subst hi
  refine va_iald C.1 C.2.1 C.2.2.2.2.2.1 hP k0 t0 hk0 ht (vp_in_nI hj hn) d ?_
  rw [nI_clamp (by omega)]
  exact kk H locs ls hP hD hS hl
theorem pv_iast (C : pv_C l0 D tys κ cc own rm nl) (t0 : Nat) {cA : ClassId} {n a : Nat} {g : Nat → Int32} (ht : tys[t0]? = some (cA, .int)) (ha : a ∈ LP) (hf : f a = .inl (cA, n, .inl g)) {i : Int32} {x : Int32} {j : Nat} (hi : i = nI j) (hj : j < n) (hn : n < 2 ^ 31)  (d : decode cc pc = .ok (.iastore, 1)) (kk : pv_V D κ cells slots LP (va_up f a (.inl (cA, n, .inl (upd g j x)))) (pc + 1) lv st) : pv_V D κ cells slots LP f pc lv (.int x :: .int i :: .ref a :: st) := by
  obtain ⟨p, l, e, R, s, m, args, below, meth, c, A, nL, Q⟩ := κ
  intro H locs ls hP hD hS hl
  obtain ⟨k0, hk0⟩ := va_pl_get (X := []) (f := f) ha
  have hk1 := hk0
  rw [hf] at hk0
  subst hi
  refine va_iast C.1 C.2.1 C.2.2.2.2.2.1 hP hD hS k0 t0 hk0 ht (vp_in_nI hj hn) d (fun H1 locs1 hP1 hD1 hS1 => ?_)
  rw [nI_clamp (by omega)] at hP1 hD1
  have e := va_pl_set (X := []) (e := .inl (cA, n, .inl (upd g j x))) hD ha hk1
  exact kk H1 locs1 ls (by rw [show va_pl LP (va_up f a (.inl (cA, n, .inl (upd g j x)))) = _ from e.symm]; exact hP1) (by rw [show va_pl LP (va_up f a (.inl (cA, n, .inl (upd g j x)))) = _ from e.symm]; exact hD1) hS1 hl
theorem pv_zald (C : pv_C l0 D tys κ cc own rm nl) (t0 : Nat) {cA : ClassId} {n a : Nat} {g : Nat → Int32} (ht : tys[t0]? = some (cA, .boolean)) (ha : a ∈ LP) (hf : f a = .inl (cA, n, .inl g)) {i : Int32} {j : Nat} (hi : i = nI j) (hj : j < n) (hn : n < 2 ^ 31) (d : decode cc pc = .ok (.baload, 1)) (kk : pv_V D κ cells slots LP f (pc + 1) lv (.int (g j) :: st)) : pv_V D κ cells slots LP f pc lv (.int i :: .ref a :: st) := by
  obtain ⟨p, l, e, R, s, m, args, below, meth, c, A, nL, Q⟩ := κ
  intro H locs ls hP hD hS hl
  obtain ⟨k0, hk0⟩ := va_pl_get (X := []) (f := f) ha
  rw [hf] at hk0
  subst hi
  refine va_zald C.1 C.2.1 C.2.2.2.2.2.1 hP k0 t0 hk0 ht (vp_in_nI hj hn) d ?_
  rw [nI_clamp (by omega)]
  exact kk H locs ls hP hD hS hl
theorem pv_zast (C : pv_C l0 D tys κ cc own rm nl) (t0 : Nat) {cA : ClassId} {n a : Nat} {g : Nat → Int32} (ht : tys[t0]? = some (cA, .boolean)) (ha : a ∈ LP) (hf : f a = .inl (cA, n, .inl g)) {i : Int32} {x : Int32} {j : Nat} (hi : i = nI j) (hj : j < n) (hn : n < 2 ^ 31) (hx : vp_nar .boolean x = x) (d : decode cc pc = .ok (.bastore, 1)) (kk : pv_V D κ cells slots LP (va_up f a (.inl (cA, n, .inl (upd g j x)))) (pc + 1) lv st) : pv_V D κ cells slots LP f pc lv (.int x :: .int i :: .ref a :: st) := by
  obtain ⟨p, l, e, R, s, m, args, below, meth, c, A, nL, Q⟩ := κ
  intro H locs ls hP hD hS hl
  obtain ⟨k0, hk0⟩ := va_pl_get (X := []) (f := f) ha
  have hk1 := hk0
  rw [hf] at hk0
  subst hi
  refine va_zast C.1 C.2.1 C.2.2.2.2.2.1 hP hD hS k0 t0 hk0 ht (vp_in_nI hj hn) d (fun H1 locs1 hP1 hD1 hS1 => ?_)
  rw [nI_clamp (by omega), hx] at hP1 hD1
  have e := va_pl_set (X := []) (e := .inl (cA, n, .inl (upd g j x))) hD ha hk1
  exact kk H1 locs1 ls (by rw [show va_pl LP (va_up f a (.inl (cA, n, .inl (upd g j x)))) = _ from e.symm]; exact hP1) (by rw [show va_pl LP (va_up f a (.inl (cA, n, .inl (upd g j x)))) = _ from e.symm]; exact hD1) hS1 hl
theorem pv_lald (C : pv_C l0 D tys κ cc own rm nl) (t0 : Nat) {cA : ClassId} {n a : Nat} {g : Nat → Int64} (ht : tys[t0]? = some (cA, .long)) (ha : a ∈ LP) (hf : f a = .inl (cA, n, .inr (.inl g))) {i : Int32} {j : Nat} (hi : i = nI j) (hj : j < n) (hn : n < 2 ^ 31) (d : decode cc pc = .ok (.laload, 1)) (kk : pv_V D κ cells slots LP f (pc + 1) lv (.long (g j) :: st)) : pv_V D κ cells slots LP f pc lv (.int i :: .ref a :: st) := by
  obtain ⟨p, l, e, R, s, m, args, below, meth, c, A, nL, Q⟩ := κ
  intro H locs ls hP hD hS hl
  obtain ⟨k0, hk0⟩ := va_pl_get (X := []) (f := f) ha
  rw [hf] at hk0
  subst hi
  refine va_lald C.1 C.2.1 C.2.2.2.2.2.1 hP k0 t0 hk0 ht (vp_in_nI hj hn) d ?_
  rw [nI_clamp (by omega)]
  exact kk H locs ls hP hD hS hl
theorem pv_last (C : pv_C l0 D tys κ cc own rm nl) (t0 : Nat) {cA : ClassId} {n a : Nat} {g : Nat → Int64} (ht : tys[t0]? = some (cA, .long)) (ha : a ∈ LP) (hf : f a = .inl (cA, n, .inr (.inl g))) {i : Int32} {x : Int64} {j : Nat} (hi : i = nI j) (hj : j < n) (hn : n < 2 ^ 31)  (d : decode cc pc = .ok (.lastore, 1)) (kk : pv_V D κ cells slots LP (va_up f a (.inl (cA, n, .inr (.inl (vp_updL g j x))))) (pc + 1) lv st) : pv_V D κ cells slots LP f pc lv (.long x :: .int i :: .ref a :: st) := by
  obtain ⟨p, l, e, R, s, m, args, below, meth, c, A, nL, Q⟩ := κ
  intro H locs ls hP hD hS hl
  obtain ⟨k0, hk0⟩ := va_pl_get (X := []) (f := f) ha
  have hk1 := hk0
  rw [hf] at hk0
  subst hi
  refine va_last C.1 C.2.1 C.2.2.2.2.2.1 hP hD hS k0 t0 hk0 ht (vp_in_nI hj hn) d (fun H1 locs1 hP1 hD1 hS1 => ?_)
  rw [nI_clamp (by omega)] at hP1 hD1
  have e := va_pl_set (X := []) (e := .inl (cA, n, .inr (.inl (vp_updL g j x)))) hD ha hk1
  exact kk H1 locs1 ls (by rw [show va_pl LP (va_up f a (.inl (cA, n, .inr (.inl (vp_updL g j x))))) = _ from e.symm]; exact hP1) (by rw [show va_pl LP (va_up f a (.inl (cA, n, .inr (.inl (vp_updL g j x))))) = _ from e.symm]; exact hD1) hS1 hl
theorem pv_aald (C : pv_C l0 D tys κ cc own rm nl) (t0 : Nat) {cA : ClassId} {Cn : String} {n a : Nat} {g : Nat → Option Nat} (ht : tys[t0]? = some (cA, .object Cn)) (ha : a ∈ LP) (hf : f a = .inl (cA, n, .inr (.inr (.inr (.inr g))))) {i : Int32} {j b : Nat} (hi : i = nI j) (hj : j < n) (hn : n < 2 ^ 31) (hg : g j = some b) (d : decode cc pc = .ok (.aaload, 1)) (kk : pv_V D κ cells slots LP f (pc + 1) lv (.ref b :: st)) : pv_V D κ cells slots LP f pc lv (.int i :: .ref a :: st) := by
  obtain ⟨p, l, e, R, s, m, args, below, meth, c, A, nL, Q⟩ := κ
  intro H locs ls hP hD hS hl
  obtain ⟨k0, hk0⟩ := va_pl_get (X := []) (f := f) ha
  rw [hf] at hk0
  subst hi
  refine va_aldq C.1 C.2.1 C.2.2.2.2.2.1 hP k0 t0 hk0 ht (vp_in_nI hj hn) d ?_
  rw [nI_clamp (by omega), hg]
  exact kk H locs ls hP hD hS hl
theorem pv_aast (C : pv_C l0 D tys κ cc own rm nl) (t0 ci : Nat) {cA : ClassId} {r : vw_C} {n a v : Nat} {vs : List Value} {g : Nat → Option Nat} (ht : tys[t0]? = some (cA, .object r.1)) (ha : a ∈ LP) (hf : f a = .inl (cA, n, .inr (.inr (.inr (.inr g))))) (hv : v ∈ LP) (hfv : f v = .inr (ci, vs)) (hc : cls_[ci]? = some r) {i : Int32} {j : Nat} (hi : i = nI j) (hj : j < n) (hn : n < 2 ^ 31) (d : decode cc pc = .ok (.aastore, 1)) (kk : pv_V D κ cells slots LP (va_up f a (.inl (cA, n, .inr (.inr (.inr (.inr (va_up g j (some v)))))))) (pc + 1) lv st) : pv_V D κ cells slots LP f pc lv (.ref v :: .int i :: .ref a :: st) := by
  obtain ⟨p, l, e, R, s, m, args, below, meth, c, A, nL, Q⟩ := κ
  intro H locs ls hP hD hS hl
  obtain ⟨k0, hk0⟩ := va_pl_get (X := []) (f := f) ha
  obtain ⟨k9, hk9⟩ := va_pl_get (X := []) (f := f) hv
  have hk1 := hk0
  rw [hf] at hk0
  rw [hfv] at hk9
  subst hi
  refine va_astq C.1 C.2.1 C.2.2.2.2.2.1 hP hD hS k0 t0 k9 ci hk0 ht hk9 hc (vp_in_nI hj hn) d (fun H1 locs1 hP1 hD1 hS1 => ?_)
  rw [nI_clamp (by omega)] at hP1 hD1
  have e := va_pl_set (X := []) (e := .inl (cA, n, .inr (.inr (.inr (.inr (va_up g j (some v))))))) hD ha hk1
  exact kk H1 locs1 ls (by rw [show va_pl LP (va_up f a (.inl (cA, n, .inr (.inr (.inr (.inr (va_up g j (some v)))))))) = _ from e.symm]; exact hP1) (by rw [show va_pl LP (va_up f a (.inl (cA, n, .inr (.inr (.inr (.inr (va_up g j (some v)))))))) = _ from e.symm]; exact hD1) hS1 hl
theorem pv_alen (C : pv_C l0 D tys κ cc own rm nl) (t0 : Nat) {cA : ClassId} {a : Nat} {x : vp_A} {ty : FieldType} (ht : tys[t0]? = some (cA, ty)) (ha : a ∈ LP) (hf : f a = .inl (cA, x)) {v : Int32} (hv : Int32.ofNat x.1 = v) (d : decode cc pc = .ok (.arraylength, 1)) (kk : pv_V D κ cells slots LP f (pc + 1) lv (.int v :: st)) : pv_V D κ cells slots LP f pc lv (.ref a :: st) := by
  obtain ⟨p, l, e, R, s, m, args, below, meth, c, A, nL, Q⟩ := κ
  intro H locs ls hP hD hS hl
  obtain ⟨k0, hk0⟩ := va_pl_get (X := []) (f := f) ha
  rw [hf] at hk0
  exact va_alen C.1 C.2.1 C.2.2.2.2.2.1 hP k0 t0 hk0 ht hv d (kk H locs ls hP hD hS hl)
theorem pv_fresh {D : va_G} {cl : List vw_C} {LP : List Nat} {f : Nat → va_E} {A : Nat → Prop} {q : Nat} {e : va_E} {H : Heap} (hP : va_P D cl (va_pl LP f ++ [(q, e)]) H) (hD : va_D A (va_pl LP f ++ [(q, e)])) : q ∉ LP ∧ va_P D cl (va_pl (LP ++ [q]) (va_up f q e)) H ∧ va_D A (va_pl (LP ++ [q]) (va_up f q e)) := by
  have hq : q ∉ LP := va_pl_fresh2 (X := []) hD
  rw [← va_pl_push hq]
  exact ⟨hq, hP, hD⟩
theorem pv_new (C : pv_C l0 D tys κ cc own rm nl) {Cn : String} {Tb : u_T} {N ci index : Nat} (hin : ∀ w ∈ u_ws Cn Tb N, w ∈ Wg) (ty0 : Nat → FieldType) (hty : ∀ k, k < N → parseFieldDescriptor (Tb k).2.2.1 = some (ty0 k)) (hc : cls_[ci]? = some (Cn, Tb, N)) (hcl : Cond.classLink own index Cn ∈ Wg) (his : Cond.instantiable Cn N ∈ Wg) (hini : Cond.initialized Cn ∈ Wg) {fs : List Value} (hfs : ∀ j, j < N → defaultValue (ty0 j) = vp_V fs j) (hcells : cells + 1 ≤ rm.cells) (hslots : slots + N ≤ rm.slots) (d : decode cc pc = .ok (.new index, 3))
    (kk : ∀ q, q ∉ LP → pv_V D κ (cells + 1) (slots + N) (LP ++ [q]) (va_up f q (.inr (ci, fs))) (pc + 3) lv (.ref q :: st)) : pv_V D κ cells slots LP f pc lv st := by
  obtain ⟨p, l, e, R, s, m, args, below, meth, c, A, nL, Q⟩ := κ
  intro H locs ls hP hD hS hl
  have hR : R = rm := C.2.2.2.2.2.2.2.1
  subst hR
  refine va_new C.1 C.2.1 C.2.2.2.2.1 hin ty0 hty C.2.2.2.1 (C.2.2.2.2.1 _ hcl) (C.2.2.2.2.1 _ his) (C.2.2.2.2.1 _ hini) C.2.2.2.2.2.1 hP hD hS C.2.2.2.2.2.2.1 hc hfs hcells hslots d (fun q H1 hP1 hD1 hS1 => ?_)
  obtain ⟨h1, h2, h3⟩ := pv_fresh hP1 hD1
  exact kk q h1 H1 locs ls h2 h3 hS1 hl
theorem pv_K_same {D : va_G} {cl : List vw_C} {tys : List (ClassId × FieldType)} {s : State} {cA cB : ClassId} {ty : FieldType} {t0 : Nat} (h : va_K D cl (tys ++ [(cA, ty)]) s) (ht : tys[t0]? = some (cB, ty)) : cA = cB := by
  have h1 : (tys ++ [(cA, ty)])[tys.length]? = some (cA, ty) := by rw [List.getElem?_append_right (Nat.le_refl _), Nat.sub_self]; rfl
  have h2 : (tys ++ [(cA, ty)])[t0]? = some (cB, ty) := by rw [List.getElem?_append_left (List.getElem?_eq_some_iff.mp ht).1]; exact ht
  have a := (h.2 _ _ h1).2
  have b := (h.2 _ _ h2).2
  cases ty with
  | object C =>
    obtain ⟨_, _, _, _, _, a4⟩ := a
    obtain ⟨_, _, _, _, _, b4⟩ := b
    exact Option.some.inj (a4.symm.trans b4)
  | _ => exact Option.some.inj ((show s.vm.findClass _ = some cA from a).symm.trans b)
theorem pv_newq (C : pv_C l0 D tys κ cc own rm nl) (t0 : Nat) {Cn : String} {cA : ClassId} {index : Nat} (ht : tys[t0]? = some (cA, .object Cn)) (hcl : Cond.classLink own index Cn ∈ Wg) (hao : Cn = RA ∨ Cn = RU ∨ Cn = RN) {n : Int32} {N : Nat} (hn : n = nI N) (hN : N ≤ 1000) (hcells : cells + 1 ≤ rm.cells) (hslots : slots + N ≤ rm.slots) (d : decode cc pc = .ok (.anewarray index, 3))
    (kk : ∀ q, q ∉ LP → pv_V D κ (cells + 1) (slots + N) (LP ++ [q]) (va_up f q (.inl (cA, N, .inr (.inr (.inr (.inr (fun _ => none))))))) (pc + 3) lv (.ref q :: st)) : pv_V D κ cells slots LP f pc lv (.int n :: st) := by
  obtain ⟨p, l, e, R, s, m, args, below, meth, c, A, nL, Q⟩ := κ
  intro H locs ls hP hD hS hl
  have hR : R = rm := C.2.2.2.2.2.2.2.1
  subst hR
  subst hn
  have hE : pv_E A s s.heap := C.2.2.2.2.2.2.2.2.2.2.1
  have hao' : va_AO Cn s := by
    rcases hao with h | h | h
    · rw [h]; exact hE.2.2.2.2.2.1
    · rw [h]; exact hE.2.2.2.2.2.2.1
    · rw [h]; exact hE.2.2.2.2.2.2.2.1
  refine va_newq C.1 C.2.1 C.2.2.2.1 (C.2.2.2.2.1 _ hcl) hao' C.2.2.2.2.2.1 hP hD hS C.2.2.2.2.2.2.1 (nI_pos (by omega)) (nI_clamp (by omega)) (by omega) hcells hslots d (fun q cB H1 hK1 hP1 hD1 hS1 => ?_)
  cases pv_K_same hK1 ht
  obtain ⟨h1, h2, h3⟩ := pv_fresh hP1 hD1
  exact kk q h1 H1 locs ls h2 h3 hS1 hl
theorem pv_newai (C : pv_C l0 D tys κ cc own rm nl) (t0 : Nat) {cA : ClassId} (ht : tys[t0]? = some (cA, .int)) (hw : Cond.arrayClass .int ∈ Wg) {n : Int32} {N : Nat} (hn : n = nI N) (hN : N ≤ 1000) (hcells : cells + 1 ≤ rm.cells) (hslots : slots + N ≤ rm.slots) (d : decode cc pc = .ok (.newarray .int, 2))
    (kk : ∀ q, q ∉ LP → pv_V D κ (cells + 1) (slots + N) (LP ++ [q]) (va_up f q (.inl (cA, N, .inl (fun _ => 0)))) (pc + 2) lv (.ref q :: st)) : pv_V D κ cells slots LP f pc lv (.int n :: st) := by
  obtain ⟨p, l, e, R, s, m, args, below, meth, c, A, nL, Q⟩ := κ
  intro H locs ls hP hD hS hl
  have hR : R = rm := C.2.2.2.2.2.2.2.1
  subst hR
  subst hn
  refine va_newa (atype := .int) (ty := .int) (a0 := (N, .inl (fun _ => 0))) C.1 C.2.1 (C.2.2.2.2.1 _ hw) rfl C.2.2.2.2.2.1 hP hD hS C.2.2.2.2.2.2.1 (fun _ => rfl) (nI_pos (by omega)) (nI_clamp (by omega)) (by simp only [componentBytes]; omega) hcells hslots d (fun q cB H1 hK1 hP1 hD1 hS1 => ?_)
  cases pv_K_same hK1 ht
  obtain ⟨h1, h2, h3⟩ := pv_fresh hP1 hD1
  exact kk q h1 H1 locs ls h2 h3 hS1 hl
theorem pv_newaz (C : pv_C l0 D tys κ cc own rm nl) (t0 : Nat) {cA : ClassId} (ht : tys[t0]? = some (cA, .boolean)) (hw : Cond.arrayClass .boolean ∈ Wg) {n : Int32} {N : Nat} (hn : n = nI N) (hN : N ≤ 1000) (hcells : cells + 1 ≤ rm.cells) (hslots : slots + N ≤ rm.slots) (d : decode cc pc = .ok (.newarray .boolean, 2))
    (kk : ∀ q, q ∉ LP → pv_V D κ (cells + 1) (slots + N) (LP ++ [q]) (va_up f q (.inl (cA, N, .inl (fun _ => 0)))) (pc + 2) lv (.ref q :: st)) : pv_V D κ cells slots LP f pc lv (.int n :: st) := by
  obtain ⟨p, l, e, R, s, m, args, below, meth, c, A, nL, Q⟩ := κ
  intro H locs ls hP hD hS hl
  have hR : R = rm := C.2.2.2.2.2.2.2.1
  subst hR
  subst hn
  refine va_newa (atype := .boolean) (ty := .boolean) (a0 := (N, .inl (fun _ => 0))) C.1 C.2.1 (C.2.2.2.2.1 _ hw) rfl C.2.2.2.2.2.1 hP hD hS C.2.2.2.2.2.2.1 (fun _ => rfl) (nI_pos (by omega)) (nI_clamp (by omega)) (by simp only [componentBytes]; omega) hcells hslots d (fun q cB H1 hK1 hP1 hD1 hS1 => ?_)
  cases pv_K_same hK1 ht
  obtain ⟨h1, h2, h3⟩ := pv_fresh hP1 hD1
  exact kk q h1 H1 locs ls h2 h3 hS1 hl
theorem pv_newal (C : pv_C l0 D tys κ cc own rm nl) (t0 : Nat) {cA : ClassId} (ht : tys[t0]? = some (cA, .long)) (hw : Cond.arrayClass .long ∈ Wg) {n : Int32} {N : Nat} (hn : n = nI N) (hN : N ≤ 1000) (hcells : cells + 1 ≤ rm.cells) (hslots : slots + N ≤ rm.slots) (d : decode cc pc = .ok (.newarray .long, 2))
    (kk : ∀ q, q ∉ LP → pv_V D κ (cells + 1) (slots + N) (LP ++ [q]) (va_up f q (.inl (cA, N, .inr (.inl (fun _ => 0))))) (pc + 2) lv (.ref q :: st)) : pv_V D κ cells slots LP f pc lv (.int n :: st) := by
  obtain ⟨p, l, e, R, s, m, args, below, meth, c, A, nL, Q⟩ := κ
  intro H locs ls hP hD hS hl
  have hR : R = rm := C.2.2.2.2.2.2.2.1
  subst hR
  subst hn
  refine va_newa (atype := .long) (ty := .long) (a0 := (N, .inr (.inl (fun _ => 0)))) C.1 C.2.1 (C.2.2.2.2.1 _ hw) rfl C.2.2.2.2.2.1 hP hD hS C.2.2.2.2.2.2.1 (fun _ => rfl) (nI_pos (by omega)) (nI_clamp (by omega)) (by simp only [componentBytes]; omega) hcells hslots d (fun q cB H1 hK1 hP1 hD1 hS1 => ?_)
  cases pv_K_same hK1 ht
  obtain ⟨h1, h2, h3⟩ := pv_fresh hP1 hD1
  exact kk q h1 H1 locs ls h2 h3 hS1 hl
end PV
end
section
/-! calls, ends and throws over pools -/
section PW
variable {l0 : Launch} {D : va_G} {tys : List (ClassId × FieldType)} {κ : pv_K} {cc : ByteArray} {own : String} {rm : Room} {nl : Nat} {cells slots : Nat} {LP : List Nat} {f : Nat → va_E} {pc : Nat} {lv lv' : List (Nat × Value)} {st : List Value}
theorem wg_in {y : MethodName} {bytes : ByteArray} {maxL : Nat} {ret : Option FieldType} (h : Cond.code y bytes maxL ret ∈ Wg) : GoodIn Wg (Cond.code y bytes maxL ret :: Wg) := fun w hw => by
  rcases List.mem_cons.mp hw with e | e
  · rw [e]; exact ⟨h, wg_good h⟩
  · exact ⟨e, wg_good e⟩
theorem pv_poolA {A : Nat → Prop} {s : State} {H : Heap} {locs : List Loc} {LP : List Nat} {f : Nat → va_E} (hD : va_D A (va_pl LP f)) (hS : va_S A s.heap H locs) (hA : ∀ q, s.heap.size ≤ q → A q) : ∀ q, va_A (va_pl LP f) H.size q → A q := by
  intro q h
  rcases h with ⟨k, e, h⟩ | h
  · exact hD.2 _ (q, e) h
  · exact hA q (Nat.le_trans hS.1 h)
/-- behind a call: it returned, or threw with nothing changed -/
theorem pv_back {p : Program} {l : Launch} {e : Env} {R : Room} {s : State} {m : MethodId} {args : Array Value} {below : List Frame} {meth : Method} {c : Code} {A : Nat → Prop} {Q : State → Prop} {H : Heap} {locs : List Loc} {mc ms : Nat} {ls : Array Slot} {st0 rest : List Value} {a : Array Value} {P : Option Value → List Nat → (Nat → va_E) → Prop} {X : String → Prop}
    (hD : va_D A (va_pl LP f)) (hS : va_S A s.heap H locs) (hA : ∀ q, s.heap.size ≤ q → A q)
    (hr : vx_Run p l e R s m args below meth c H locs cells slots mc ms (F0 m pc ls st0) rest (pv_Qc D LP f H.size P a) (pv_Xc D LP f H.size X) (va_A (va_pl LP f) H.size))
    (kx : ∀ (E : String) (ce : Cell) (q9 : Addr) (H1 : Heap) (locs1 : List Loc), X E → va_P D cls_ (va_pl LP f) H1 → va_S A s.heap H1 locs1 → H1[q9]? = some ce → ce.vm = .none → s.vm.findClass E = some ce.cls → vx_W p l e R s m args below meth c H1 locs1 (cells + mc) (slots + ms) Q (F0 m pc ls rest) q9)
    (kk : ∀ (v : Option Value) (LP1 : List Nat) (f1 : Nat → va_E) (H1 : Heap) (locs1 : List Loc), P v LP1 f1 → va_P D cls_ (va_pl LP1 f1) H1 → va_D A (va_pl LP1 f1) → va_S A s.heap H1 locs1 → W p l e R s m args below meth c H1 locs1 (cells + mc) (slots + ms) Q (F0 m (pc + 3) ls (v.toList ++ rest))) :
    W p l e R s m args below meth c H locs cells slots Q (F0 m pc ls st0) := by
  have hF := pv_poolA hD hS hA
  intro T hT X0
  rcases hr T hT X0 with ⟨v, st₀, t, T', L, h0, X', hL, e1, e2, ⟨⟨v', LP1, f1, hv, hp, hb, hd⟩, hFr⟩, stp⟩ | ⟨q, st₀, t, T', L, E, ce, h0, X', hL, e1, e2, ⟨hX, hb, hFr⟩, hce, hcv, hcl, stp⟩
  · cases hv
    obtain ⟨k1, k2, k3⟩ := vx_keep h0 e1 hS (fun q _ h => hF q h) hF hL hFr
    obtain ⟨t2, a1, b1⟩ := kk v LP1 f1 T'.heap (locs ++ L) hp (by rw [e1]; exact hb) (hd.weaken (fun _ q _ h => hF q.1 h)) k3 T' rfl X'
    exact ⟨t2, stp t2 a1, b1⟩
  · obtain ⟨k1, k2, k3⟩ := vx_keep h0 e1 hS (fun q _ h => hF q h) hF hL hFr
    obtain ⟨t2, a1, b1⟩ := kx E ce q T'.heap (locs ++ L) hX (by rw [e1]; exact hb) k3 (by rw [e1]; exact hce) hcv hcl T' rfl X'
    exact ⟨t2, stp.trans a1, b1⟩
/-- the start of a callee -/
theorem pv_pre {s : State} {args : Array Value} {A : Nat → Prop} {H : Heap} {locs : List Loc} {av : List Value} (hP : va_P D cls_ (va_pl LP f) H) (hD : va_D A (va_pl LP f)) (hS : va_S A s.heap H locs) (hA : ∀ q, s.heap.size ≤ q → A q) (hK : va_K D cls_ tys s) (hE : pv_E A s s.heap) : PreS s H (pv_Pc D tys av LP f H.size) av :=
  ⟨pv_Pc.blind, fun U hU hW => ⟨rfl, by rw [hU], by rw [hU]; exact hP, va_K.moved hW.alike hK, hD.weaken (fun _ _ _ _ => trivial), hE.mv hW (fun a h1 h2 => by rw [hU]; exact hS.2.1 a h1 h2) (pv_poolA hD hS hA)⟩⟩
/-- not caught in a method without handlers, the pool as at the start -/
theorem pv_thr {p : Program} {l : Launch} {e : Env} {R : Room} {s : State} {m : MethodId} {args : Array Value} {below : List Frame} {meth : Method} {c : Code} {H : Heap} {locs : List Loc} {ls : Array Slot} {st0 : List Value} {P : Option Value → List Nat → (Nat → va_E) → Prop} {X : String → Prop} {E : String} {ce : Cell} {q : Addr} {mc ms : Nat}
    (hN : ∀ x ∈ c.exceptionTable.toList, False) (hlocks : meth.locks = false) (hcell : H[q]? = some ce) (hv : ce.vm = .none) (hcl : s.vm.findClass E = some ce.cls) (hX : X E) (hP : va_P D cls_ (va_pl LP f) H) (hS : va_S (va_A (va_pl LP f) s.heap.size) s.heap H locs) (hc : cells ≤ mc) (hs : slots ≤ ms) :
    vx_W p l e R s m args below meth c H locs cells slots (vx_MQ below (pv_Qc D LP f s.heap.size P) (pv_Xc D LP f s.heap.size X) args s mc ms (va_A (va_pl LP f) s.heap.size)) (F0 m pc ls st0) q :=
  vx_out (fun x hx => (hN x hx).elim) hlocks hcell hv hcl (fun t ht _ => ⟨hX, by rw [ht]; exact hP, hS.F ht⟩) hS.2.2 hc hs
theorem pv_callV (C : pv_C l0 D tys κ cc own rm nl) {y : MethodName} {bytes : ByteArray} {maxL : Nat} {ret : Option FieldType} {rmy : Room} {index n : Nat} {As rest : List Value} {P P0 : Option Value → List Nat → (Nat → va_E) → Prop} {X X0 : String → Prop} {LP0 : List Nat} {f0 : Nat → va_E} {ret0 : Option FieldType} {b ci : Nat} {fs : List Value} {qc : vw_C} (hM : pv_M l0 D tys y (Cond.code y bytes maxL ret) rmy (.ref b :: As) LP f P X) (hcd : Cond.code y bytes maxL ret ∈ Wg) (hlk : Cond.methodLink own index y ∈ Wg) (hini : Cond.initialized y.cls ∈ Wg) (him : Cond.instanceMethod y ∈ Wg) (hse : Cond.selects y.cls y y ∈ Wg) (hbL : b ∈ LP) (hfb : f b = .inr (ci, fs)) (hc : cls_[ci]? = some qc) (hqc : qc.1 = y.cls)
    (hy : y.cls ≠ "java/lang/invoke/MethodHandle" ∧ y.cls ≠ "java/lang/invoke/VarHandle" ∧ (parseMethodDescriptor y.desc).map (fun d => d.parameters.length) = some n) (hR : rmy.frames + 1 ≤ rm.frames ∧ 8 + (maxL + 11) + rmy.locals ≤ rm.locals) (hn : As.length = n) (hsum : (rest.map fun v => v.category).sum ≤ 8) (hst : st = As.reverse ++ .ref b :: rest) (d : decode cc pc = .ok (.invokevirtual index, 3)) (hf : cells + rmy.cells ≤ rm.cells ∧ slots + rmy.slots ≤ rm.slots)
    (hN : pv_N κ) (R0 : pv_R κ D LP0 f0 P0 X0 ret0) (kx : ∀ E, X E → X0 E ∧ LP = LP0 ∧ f = f0) (kk : ∀ v LP1 f1, P v LP1 f1 → pv_V D κ (cells + rmy.cells) (slots + rmy.slots) LP1 f1 (pc + 3) lv (v.toList ++ rest)) : pv_V D κ cells slots LP f pc lv st := by
  obtain ⟨p, l, e, R, s, m, args, below, meth, c, A, nL, Q⟩ := κ
  obtain ⟨hx, hb, hml, hown, hts, hK, hA, hRe, hnl, hlocks, hE, htr, hl0⟩ := C
  obtain ⟨hr0, hQ, hAe⟩ := R0
  subst hRe
  subst hl0
  subst hst
  intro H locs ls hP hD hS hl
  obtain ⟨k0, hk0⟩ := va_pl_get (X := []) (f := f) hbL
  rw [hfb] at hk0
  have hpre := pv_pre (args := args) (tys := tys) (av := .ref b :: As) hP hD hS hA hK hE
  refine pv_back hD hS hA (vx_runV (Ts := Wg) ⟨hx, hb, hml, hown, hts⟩ (hM H.size) ⟨callB_of n hts (wg_in hcd) rfl rfl rfl (hts _ hini) (hts _ hlk) hy hR, hts _ him, hts _ hse⟩ ⟨hpre.1, by rw [← hqc]; exact va_recv hK hP hc hk0, hpre.2⟩ rfl hn hl.1 rfl (lv_room hsum) d hf) (fun E ce q9 H1 locs1 hX hP1 hS1 h1 h2 h3 => ?_) (fun v LP1 f1 H1 locs1 hp hP1 hD1 hS1 => kk v LP1 f1 hp H1 locs1 ls hP1 hD1 hS1 hl)
  obtain ⟨g1, g2, g3⟩ := kx E hX
  subst g2
  subst g3
  subst hQ
  subst hAe
  exact pv_thr hN hlocks h1 h2 h3 g1 hP1 hS1 hf.1 hf.2
theorem pv_callS (C : pv_C l0 D tys κ cc own rm nl) {y : MethodName} {bytes : ByteArray} {maxL : Nat} {ret : Option FieldType} {rmy : Room} {index n : Nat} {As rest : List Value} {P P0 : Option Value → List Nat → (Nat → va_E) → Prop} {X X0 : String → Prop} {LP0 : List Nat} {f0 : Nat → va_E} {ret0 : Option FieldType}  (hM : pv_M l0 D tys y (Cond.code y bytes maxL ret) rmy (As) LP f P X) (hcd : Cond.code y bytes maxL ret ∈ Wg) (hlk : Cond.methodLink own index y ∈ Wg) (hini : Cond.initialized y.cls ∈ Wg) (hsm : Cond.static y ∈ Wg)
    (hy : y.cls ≠ "java/lang/invoke/MethodHandle" ∧ y.cls ≠ "java/lang/invoke/VarHandle" ∧ (parseMethodDescriptor y.desc).map (fun d => d.parameters.length) = some n) (hR : rmy.frames + 1 ≤ rm.frames ∧ 8 + (maxL + 11) + rmy.locals ≤ rm.locals) (hn : As.length = n) (hsum : (rest.map fun v => v.category).sum ≤ 8) (hst : st = As.reverse ++ rest) (d : decode cc pc = .ok (.invokestatic index, 3)) (hf : cells + rmy.cells ≤ rm.cells ∧ slots + rmy.slots ≤ rm.slots)
    (hN : pv_N κ) (R0 : pv_R κ D LP0 f0 P0 X0 ret0) (kx : ∀ E, X E → X0 E ∧ LP = LP0 ∧ f = f0) (kk : ∀ v LP1 f1, P v LP1 f1 → pv_V D κ (cells + rmy.cells) (slots + rmy.slots) LP1 f1 (pc + 3) lv (v.toList ++ rest)) : pv_V D κ cells slots LP f pc lv st := by
  obtain ⟨p, l, e, R, s, m, args, below, meth, c, A, nL, Q⟩ := κ
  obtain ⟨hx, hb, hml, hown, hts, hK, hA, hRe, hnl, hlocks, hE, htr, hl0⟩ := C
  obtain ⟨hr0, hQ, hAe⟩ := R0
  subst hRe
  subst hl0
  subst hst
  intro H locs ls hP hD hS hl
  have hpre := pv_pre (args := args) (tys := tys) (av := As) hP hD hS hA hK hE
  refine pv_back hD hS hA (vx_runS (Ts := Wg) ⟨hx, hb, hml, hown, hts⟩ (hM H.size) ⟨callB_of n hts (wg_in hcd) rfl rfl rfl (hts _ hini) (hts _ hlk) hy hR, hts _ hsm⟩ hpre rfl hn hl.1 rfl (lv_room hsum) d hf) (fun E ce q9 H1 locs1 hX hP1 hS1 h1 h2 h3 => ?_) (fun v LP1 f1 H1 locs1 hp hP1 hD1 hS1 => kk v LP1 f1 hp H1 locs1 ls hP1 hD1 hS1 hl)
  obtain ⟨g1, g2, g3⟩ := kx E hX
  subst g2
  subst g3
  subst hQ
  subst hAe
  exact pv_thr hN hlocks h1 h2 h3 g1 hP1 hS1 hf.1 hf.2
theorem pv_M.met {l : Launch} {y : MethodName} {w0 : Cond} {av : List Value} {P : Option Value → List Nat → (Nat → va_E) → Prop} (h : pv_M l D tys y w0 rm av LP f P (fun _ => False)) (sz : Nat) : Met l y (w0 :: Wg) rm (pv_Pc D tys av LP f sz) (pv_Qc D LP f sz P) rm.cells rm.slots (va_A (va_pl LP f) sz) := by
  intro p e h1 h2 h3 s m args below h4 h5 h6 h7
  obtain ⟨n, o, g1, g2, g3, g4⟩ := h sz p e h1 h2 h3 s m args below h4 h5 h6 h7
  rcases g4 with g4 | ⟨q, -, E, ce, L, ⟨hx, -⟩, -⟩
  · exact ⟨n, o, g1, g2, g3, g4⟩
  · exact hx.elim
theorem pv_run {p : Program} {l : Launch} {e : Env} {R : Room} {s : State} {m : MethodId} {args : Array Value} {below : List Frame} {meth : Method} {c : Code} {H : Heap} {locs : List Loc} {mc ms : Nat} {g : JFrame} {rest : List Value} {Qa : State → Outcome → State → Prop} {XC : String → State → State → Prop} {free : Addr → Prop}
    (h : va_Run p l e R s m args below meth c H locs cells slots mc ms g rest Qa free) : vx_Run p l e R s m args below meth c H locs cells slots mc ms g rest Qa XC free := fun T hT X0 => Or.inl (h T hT X0)
theorem pv_callI (C : pv_C l0 D tys κ cc own rm nl) {y : MethodName} {bytes : ByteArray} {maxL : Nat} {ret : Option FieldType} {rmy : Room} {index n : Nat} {As rest : List Value} {P P0 : Option Value → List Nat → (Nat → va_E) → Prop} {X X0 : String → Prop} {LP0 : List Nat} {f0 : Nat → va_E} {ret0 : Option FieldType} {b : Nat} (hM : pv_M l0 D tys y (Cond.code y bytes maxL none) rmy (.ref b :: As) LP f P (fun _ => False)) (hcd : Cond.code y bytes maxL none ∈ Wg) (hlk : Cond.methodLink own index y ∈ Wg) (hini : Cond.initialized y.cls ∈ Wg) (him : Cond.instanceMethod y ∈ Wg) (hy1 : y.name = "<init>")
    (hy : y.cls ≠ "java/lang/invoke/MethodHandle" ∧ y.cls ≠ "java/lang/invoke/VarHandle" ∧ (parseMethodDescriptor y.desc).map (fun d => d.parameters.length) = some n) (hR : rmy.frames + 1 ≤ rm.frames ∧ 8 + (maxL + 11) + rmy.locals ≤ rm.locals) (hn : As.length = n) (hsum : (rest.map fun v => v.category).sum ≤ 8) (hst : st = As.reverse ++ .ref b :: rest) (d : decode cc pc = .ok (.invokespecial index, 3)) (hf : cells + rmy.cells ≤ rm.cells ∧ slots + rmy.slots ≤ rm.slots)
    (hN : pv_N κ) (R0 : pv_R κ D LP0 f0 P0 X0 ret0) (kx : ∀ E, False → X0 E ∧ LP = LP0 ∧ f = f0) (kk : ∀ v LP1 f1, P v LP1 f1 → pv_V D κ (cells + rmy.cells) (slots + rmy.slots) LP1 f1 (pc + 3) lv (v.toList ++ rest)) : pv_V D κ cells slots LP f pc lv st := by
  obtain ⟨p, l, e, R, s, m, args, below, meth, c, A, nL, Q⟩ := κ
  obtain ⟨hx, hb, hml, hown, hts, hK, hA, hRe, hnl, hlocks, hE, htr, hl0⟩ := C
  obtain ⟨hr0, hQ, hAe⟩ := R0
  subst hRe
  subst hl0
  subst hst
  intro H locs ls hP hD hS hl
  have hpre := pv_pre (args := args) (tys := tys) (av := .ref b :: As) hP hD hS hA hK hE
  refine pv_back (X := fun _ => False) hD hS hA (pv_run (va_runI (Ts := Wg) ⟨hx, hb, hml, hown, hts⟩ (hM.met H.size) ⟨callB_of n hts (wg_in hcd) rfl rfl rfl (hts _ hini) (hts _ hlk) hy hR, hy1, hts _ him⟩ hpre rfl hn hl.1 rfl (lv_room hsum) d hf)) (fun E ce q9 H1 locs1 hX hP1 hS1 h1 h2 h3 => ?_) (fun v LP1 f1 H1 locs1 hp hP1 hD1 hS1 => kk v LP1 f1 hp H1 locs1 ls hP1 hD1 hS1 hl)
  obtain ⟨g1, g2, g3⟩ := kx E hX
  subst g2
  subst g3
  subst hQ
  subst hAe
  exact pv_thr hN hlocks h1 h2 h3 g1 hP1 hS1 hf.1 hf.2
theorem pv_objInit (C : pv_C l0 D tys κ cc own rm nl) {index a : Nat} {rest : List Value} (hlk : Cond.methodLink own index objectInit ∈ Wg) (d : decode cc pc = .ok (.invokespecial index, 3)) (hf : 1 ≤ rm.frames) (hl9 : (rest.map fun v => v.category).sum + 12 ≤ rm.locals) (kk : pv_V D κ cells slots LP f (pc + 3) lv rest) : pv_V D κ cells slots LP f pc lv (.ref a :: rest) := by
  obtain ⟨p, l, e, R, s, m, args, below, meth, c, A, nL, Q⟩ := κ
  obtain ⟨hx, hb, hml, hown, hts, hK, hA, hRe, hnl, hlocks, hE, htr, hl0⟩ := C
  subst hRe
  intro H locs ls hP hD hS hl
  refine W.objInit hx hb hown (hts _ hlk) (hts _ oi_im) (hts _ oi_cd) rfl (by rw [hml]; exact hl.1) rfl d hf (by show 2 * 0 + _ + 12 ≤ _; omega) ?_
  exact kk H locs ls hP hD hS hl
theorem pv_mmax (C : pv_C l0 D tys κ cc own rm nl) {index : Nat} {x y : Int32} (hlk : Cond.methodLink own index Lib.Math.max.name ∈ Wg) (hf : 1 ≤ rm.frames) (hl9 : (st.map fun v => v.category).sum + 13 ≤ rm.locals) (hc : cells ≤ rm.cells) (hs : slots ≤ rm.slots) (d : decode cc pc = .ok (.invokestatic index, 3)) (kk : pv_V D κ cells slots LP f (pc + 3) lv (.int (if x < y then y else x) :: st)) : pv_V D κ cells slots LP f pc lv (.int y :: .int x :: st) := by
  obtain ⟨p, l, e, R, s, m, args, below, meth, c, A, nL, Q⟩ := κ
  obtain ⟨hx, hb, hml, hown, hts, hK, hA, hRe, hnl, hlocks, hE, htr, hl0⟩ := C
  subst hRe
  intro H locs ls hP hD hS hl
  exact va_mmax hx hb (by rw [hml]; exact hl.1.symm) hown (hts _ hlk) (hts _ sm_max) (hts _ in_Math) (hts _ cd_max) hf hl9 hc hs d (kk H locs ls hP hD hS hl)
theorem pv_mmin (C : pv_C l0 D tys κ cc own rm nl) {index : Nat} {x y : Int32} (hlk : Cond.methodLink own index Lib.Math.min.name ∈ Wg) (hf : 1 ≤ rm.frames) (hl9 : (st.map fun v => v.category).sum + 13 ≤ rm.locals) (hc : cells ≤ rm.cells) (hs : slots ≤ rm.slots) (d : decode cc pc = .ok (.invokestatic index, 3)) (kk : pv_V D κ cells slots LP f (pc + 3) lv (.int (if y < x then y else x) :: st)) : pv_V D κ cells slots LP f pc lv (.int y :: .int x :: st) := by
  obtain ⟨p, l, e, R, s, m, args, below, meth, c, A, nL, Q⟩ := κ
  obtain ⟨hx, hb, hml, hown, hts, hK, hA, hRe, hnl, hlocks, hE, htr, hl0⟩ := C
  subst hRe
  intro H locs ls hP hD hS hl
  exact va_mmin hx hb (by rw [hml]; exact hl.1.symm) hown (hts _ hlk) (hts _ sm_min) (hts _ in_Math) (hts _ cd_min) hf hl9 hc hs d (kk H locs ls hP hD hS hl)
theorem pv_iret (C : pv_C l0 D tys κ cc own rm nl) {P0 : Option Value → List Nat → (Nat → va_E) → Prop} {X0 : String → Prop} {LP0 : List Nat} {f0 : Nat → va_E} {v : Int32} (R0 : pv_R κ D LP0 f0 P0 X0 (some .int)) (d : decode cc pc = .ok (.ireturn, 1)) (hc : cells ≤ rm.cells) (hs : slots ≤ rm.slots) (hp : P0 (some (.int v)) LP f) : pv_V D κ cells slots LP f pc lv [.int v] := by
  obtain ⟨p, l, e, R, s, m, args, below, meth, c, A, nL, Q⟩ := κ
  obtain ⟨hx, hb, hml, hown, hts, hK, hA, hRe, hnl, hlocks, hE, htr, hl0⟩ := C
  obtain ⟨hr0, hQ, hAe⟩ := R0
  subst hRe
  subst hQ
  subst hAe
  intro H locs ls hP hD hS hl
  refine vx_ret (W.widen hc hs ?_)
  exact W.iret hx hb hr0 (fun t ht hW => ⟨⟨_, LP, f, rfl, hp, by rw [ht]; exact hP, hD⟩, hS.F ht⟩) hS.2.2 d hlocks
theorem pv_zret (C : pv_C l0 D tys κ cc own rm nl) {P0 : Option Value → List Nat → (Nat → va_E) → Prop} {X0 : String → Prop} {LP0 : List Nat} {f0 : Nat → va_E} {v : Int32} (hn : narrow .boolean (.int v) = .int v) (R0 : pv_R κ D LP0 f0 P0 X0 (some .boolean)) (d : decode cc pc = .ok (.ireturn, 1)) (hc : cells ≤ rm.cells) (hs : slots ≤ rm.slots) (hp : P0 (some (.int v)) LP f) : pv_V D κ cells slots LP f pc lv [.int v] := by
  obtain ⟨p, l, e, R, s, m, args, below, meth, c, A, nL, Q⟩ := κ
  obtain ⟨hx, hb, hml, hown, hts, hK, hA, hRe, hnl, hlocks, hE, htr, hl0⟩ := C
  obtain ⟨hr0, hQ, hAe⟩ := R0
  subst hRe
  subst hQ
  subst hAe
  intro H locs ls hP hD hS hl
  refine vx_ret (W.widen hc hs ?_)
  exact W.zret hx hb hr0 hn (fun t ht hW => ⟨⟨_, LP, f, rfl, hp, by rw [ht]; exact hP, hD⟩, hS.F ht⟩) hS.2.2 d hlocks
theorem pv_aret (C : pv_C l0 D tys κ cc own rm nl) {P0 : Option Value → List Nat → (Nat → va_E) → Prop} {X0 : String → Prop} {LP0 : List Nat} {f0 : Nat → va_E} {v : Nat} {Cn : String} (R0 : pv_R κ D LP0 f0 P0 X0 (some (.object Cn))) (d : decode cc pc = .ok (.areturn, 1)) (hc : cells ≤ rm.cells) (hs : slots ≤ rm.slots) (hp : P0 (some (.ref v)) LP f) : pv_V D κ cells slots LP f pc lv [.ref v] := by
  obtain ⟨p, l, e, R, s, m, args, below, meth, c, A, nL, Q⟩ := κ
  obtain ⟨hx, hb, hml, hown, hts, hK, hA, hRe, hnl, hlocks, hE, htr, hl0⟩ := C
  obtain ⟨hr0, hQ, hAe⟩ := R0
  subst hRe
  subst hQ
  subst hAe
  intro H locs ls hP hD hS hl
  refine vx_ret (W.widen hc hs ?_)
  exact W.aret (v := .ref v) hx hb hr0 (Or.inl ⟨_, rfl⟩) (Or.inr ⟨_, rfl⟩) (fun t ht hW => ⟨⟨_, LP, f, rfl, hp, by rw [ht]; exact hP, hD⟩, hS.F ht⟩) hS.2.2 d hlocks
theorem pv_vret (C : pv_C l0 D tys κ cc own rm nl) {P0 : Option Value → List Nat → (Nat → va_E) → Prop} {X0 : String → Prop} {LP0 : List Nat} {f0 : Nat → va_E}  (R0 : pv_R κ D LP0 f0 P0 X0 (none)) (d : decode cc pc = .ok (.return_, 1)) (hc : cells ≤ rm.cells) (hs : slots ≤ rm.slots) (hp : P0 none LP f) : pv_V D κ cells slots LP f pc lv [] := by
  obtain ⟨p, l, e, R, s, m, args, below, meth, c, A, nL, Q⟩ := κ
  obtain ⟨hx, hb, hml, hown, hts, hK, hA, hRe, hnl, hlocks, hE, htr, hl0⟩ := C
  obtain ⟨hr0, hQ, hAe⟩ := R0
  subst hRe
  subst hQ
  subst hAe
  intro H locs ls hP hD hS hl
  refine vx_ret (W.widen hc hs ?_)
  exact W.vret hx hb hr0 (fun t ht hW => ⟨⟨_, LP, f, rfl, hp, by rw [ht]; exact hP, hD⟩, hS.F ht⟩) hS.2.2 d hlocks
theorem pv_nw {A : Nat → Prop} {s : State} {H : Heap} {args : Array Value} {E : String} (hE : pv_E A s H) (hEx : E ∈ pv_exc) : ∀ w ∈ Cond.castable E E :: pv_sup.map (fun N => Cond.declares (Bundle.initS N)), w.before args s = true := by
  intro w hw
  rcases List.mem_cons.mp hw with q | q
  · rw [q]
    exact va_Nw.use rfl (hE.2.2.2.1 E hEx)
  · obtain ⟨N, hN, rfl⟩ := List.mem_map.mp q
    exact va_Nw.use rfl (hE.2.2.2.2.2.2.2.2 N hN)
/-- throw new E("text") in a method that has changed nothing yet -/
theorem pv_throw (C : pv_C l0 D tys κ cc own rm nl) {P0 : Option Value → List Nat → (Nat → va_E) → Prop} {X0 : String → Prop} {LP0 : List Nat} {f0 : Nat → va_E} {ret0 : Option FieldType} {E text : String} {ik is ic : Nat} (hN : pv_N κ) (R0 : pv_R κ D LP f P0 X0 ret0) (hEx : E ∈ pv_exc) (hcls : Bundle.fit E = true) (hk : Cond.classLink own ik E ∈ Wg) (hini : Cond.initialized E ∈ Wg) (hown : own = RS) (htx : (is, text) ∈ pv_strs)
    (h1 : ∀ w ∈ (vx_atS own ic E ["java/lang/RuntimeException", "java/lang/Exception"]).filter goodWord, w ∈ Wg) (h2 : ∀ w ∈ (vx_atS own ic E ["java/lang/RuntimeException", "java/lang/Exception"]).filter (fun w => !goodWord w), w ∈ Cond.castable E E :: pv_sup.map (fun N => Cond.declares (Bundle.initS N))) (h3 : (vx_atS own ic E ["java/lang/RuntimeException", "java/lang/Exception"]).all vx_ot = true)
    (d0 : decode cc pc = .ok (.new ik, 3)) (d3 : decode cc (pc + 3) = .ok (.dup, 1)) (d4 : decode cc (pc + 4) = .ok (.ldc is, 2)) (d6 : decode cc (pc + 6) = .ok (.invokespecial ic, 3)) (d9 : decode cc (pc + 9) = .ok (.athrow, 1))
    (hfr : 5 < rm.frames) (hlo : (st.map fun v => v.category).sum + 82 ≤ rm.locals) (hc : cells + 1 ≤ rm.cells) (hs : slots + 6 ≤ rm.slots) (hX : X0 E) : pv_V D κ cells slots LP f pc lv st := by
  obtain ⟨p, l, e, R, s, m, args, below, meth, c, A, nL, Q⟩ := κ
  obtain ⟨hx, hb, hml, hown9, hts, hK, hA, hRe, hnl, hlocks, hE, htr, hl0⟩ := C
  obtain ⟨hr0, hQ, hAe⟩ := R0
  subst hRe
  subst hQ
  subst hAe
  subst hown
  intro H locs ls hP hD hS hl
  obtain ⟨sa, hsa⟩ := hE.2.2.1 _ htx
  refine vx_throwS (text := text) (sa := sa) (names := ["java/lang/RuntimeException", "java/lang/Exception"]) hx hb htr hown9 hcls (by decide) (hts _ hk) (hts _ hini) hsa ?_ ?_ hE.1 hE.2.1 hS (by rw [hml]; exact hl.1) d0 d3 d4 d6 d9 (fun x hx => (hN x hx).elim) hfr hlo hc hs hlocks ?_ hS.2.2 hc hs
  · refine vx_hat (fun w hw => hts _ (h1 w hw)) (B := Cond.castable E E :: pv_sup.map (fun N => Cond.declares (Bundle.initS N))) h2 (pv_nw hE hEx)
  · intro w hw
    rcases List.mem_cons.mp hw with q | hw
    · rw [q]; rfl
    · rcases List.mem_cons.mp hw with q | hw
      · rw [q]; rfl
      · exact List.all_eq_true.mp h3 w hw
  · intro t hW hz hk9
    refine ⟨hX, fun k q hq => (hP k q hq).kept (hk9 q.1 ((hP k q hq).lt)), Nat.le_trans hS.1 hz, fun q h1 h2 => ?_⟩
    rw [hk9 q (Nat.lt_of_lt_of_le h1 hS.1)]
    exact hS.2.1 q h1 h2
/-- a method's contract out of its walk -/
theorem pv_mk {y : MethodName} {bytes : ByteArray} {maxL : Nat} {ret : Option FieldType} {av : List Value} {P : Option Value → List Nat → (Nat → va_E) → Prop} {X : String → Prop} (hl0 : l0.stackTraces = false) (hy : plainName y.cls = true) (hav : (lg_sl av).length ≤ maxL)
    (body : ∀ κ : pv_K, pv_C l0 D tys κ bytes y.cls rm maxL → pv_R κ D LP f P X ret → pv_N κ → (y.name = "<init>" → pv_I κ) → pv_V D κ 0 0 LP f 0 (lv_args 0 av) []) : pv_M l0 D tys y (Cond.code y bytes maxL ret) rm av LP f P X := by
  intro sz
  refine vx_ofW (cc := bytes) (maxL := maxL) (ret := ret) hy rfl ?_
  intro p e s m args below meth c s₁ B hml ht hv
  obtain ⟨h1, hsz, hP, hK, hD, hE⟩ := hv
  subst h1
  subst hsz
  have hts := atoms_spec (ws := Cond.code y bytes maxL ret :: Wg) B.pre
  have hl := lv_entry av (n := maxL) hav
  rw [lg_entry_eq]
  exact body (p, l0, e, rm, s, m, av.toArray, below, meth, c, va_A (va_pl LP f) s.heap.size, maxL, _)
    ⟨B.exec, B.bytes, hml, findClass_of_methodNamed B.named, fun w hw => hts w (List.mem_cons_of_mem _ hw), hK, fun q h => Or.inr h, rfl, rfl, B.notSynchronized, hE, hl0, rfl⟩ ⟨B.returns, rfl, rfl⟩ ht (fun h => (name_of_methodNamed B.named B.method).1.trans h)
    s.heap [] _ hP (hD.self) va_S.rf hl
end PW
end
section
/-! the reference's state: z k j is what its field k holds at place j (a number alone: place 0) -/
abbrev tys_ (γ : Nat → ClassId) : List (ClassId × FieldType) := [(γ 0, .object RA), (γ 1, .object RN), (γ 2, .object RU), (γ 3, .int), (γ 4, .boolean), (γ 5, .long)]
abbrev zT : Type := Nat → Nat → Int32
def zs (z : zT) (k j : Nat) (x : Int32) : zT := fun a b => if a = k ∧ b = j then x else z a b
theorem zs_eq (z : zT) (k j : Nat) (x : Int32) : zs z k j x k j = x := if_pos ⟨rfl, rfl⟩
theorem zs_k (z : zT) {k j a b : Nat} (x : Int32) (h : a ≠ k) : zs z k j x a b = z a b := if_neg (fun q => h q.1)
theorem zs_j (z : zT) {k j a b : Nat} (x : Int32) (h : b ≠ j) : zs z k j x a b = z a b := if_neg (fun q => h q.2)
theorem zs_row (z : zT) {k j a : Nat} (x : Int32) (h : a ≠ k) : zs z k j x a = z a := funext fun _ => zs_k z x h
theorem zs_upd (z : zT) (k j : Nat) (x : Int32) : zs z k j x k = upd (z k) j x := funext fun b => by
  by_cases h : b = j
  · subst h; rw [zs_eq, pk_us]
  · rw [zs_j z x h, pk_un h]
def mm_arrs : List Nat := [2, 4, 5, 6, 7, 8, 9, 10, 11, 12, 13, 14, 15, 16, 17, 19, 20, 21, 22, 23, 24, 25, 26, 30]
def mm_c (γ : Nat → ClassId) (k : Nat) : ClassId := if k = 2 ∨ k = 15 ∨ k = 16 ∨ k = 17 then γ 4 else γ 3
def mm_len (k : Nat) : Nat := if k = 2 then 8 else if k < 9 then 17 else if k < 17 then 68 else if k = 17 then 544 else if k = 30 then 64 else 121
theorem mm_len_lt (k : Nat) : mm_len k < 2 ^ 31 := by
  unfold mm_len
  (repeat' split) <;> omega
def mm_o (ad : Nat → Nat) (z : zT) : List Value := [.int (z 0 0), .int (z 1 0), .ref (ad 2), .int (z 3 0), .ref (ad 4), .ref (ad 5), .ref (ad 6), .ref (ad 7), .ref (ad 8), .ref (ad 9), .ref (ad 10), .ref (ad 11), .ref (ad 12), .ref (ad 13), .ref (ad 14), .ref (ad 15), .ref (ad 16), .ref (ad 17), .int (z 18 0), .ref (ad 19), .ref (ad 20), .ref (ad 21), .ref (ad 22), .ref (ad 23), .ref (ad 24), .ref (ad 25), .ref (ad 26), .int (z 27 0), .int (z 28 0), .int (z 29 0), .ref (ad 30)]
def mm_f (γ : Nat → ClassId) (f0 : Nat → va_E) (mo : Nat) (ad : Nat → Nat) (z : zT) : Nat → va_E := fun a => if a = mo then .inr (4, mm_o ad z) else match mm_arrs.find? (fun k => ad k == a) with
  | some k => .inl (mm_c γ k, mm_len k, .inl (z k))
  | none => f0 a
def mm_H (mo : Nat) (ad : Nat → Nat) (LP : List Nat) : Prop := mo ∈ LP ∧ (∀ k ∈ mm_arrs, ad k ∈ LP) ∧ (∀ k ∈ mm_arrs, ad k ≠ mo) ∧ ∀ i ∈ mm_arrs, ∀ j ∈ mm_arrs, ad i = ad j → i = j
section MM
variable {γ : Nat → ClassId} {f0 : Nat → va_E} {mo : Nat} {ad : Nat → Nat} {z : zT} {LP : List Nat}
theorem mm_find (G : mm_H mo ad LP) {k : Nat} (hk : k ∈ mm_arrs) : mm_arrs.find? (fun i => ad i == ad k) = some k := by
  cases h : mm_arrs.find? (fun i => ad i == ad k) with
  | none => exact absurd (beq_self_eq_true (ad k)) (by simpa using List.find?_eq_none.mp h k hk)
  | some i =>
    have h1 := List.find?_some h
    have h2 := List.mem_of_find?_eq_some h
    rw [G.2.2.2 i h2 k hk (by simpa using h1)]
theorem mm_obj : mm_f γ f0 mo ad z mo = .inr (4, mm_o ad z) := if_pos rfl
theorem mm_at (G : mm_H mo ad LP) {k : Nat} (hk : k ∈ mm_arrs) : mm_f γ f0 mo ad z (ad k) = .inl (mm_c γ k, mm_len k, .inl (z k)) := by
  unfold mm_f
  rw [if_neg (G.2.2.1 k hk), mm_find G hk]
theorem mm_up_arr (G : mm_H mo ad LP) {k : Nat} (hk : k ∈ mm_arrs) (j : Nat) (x : Int32) (h0 : ∀ z' : zT, (∀ i, i ∉ mm_arrs → z' i = z i) → mm_o ad z' = mm_o ad z) : va_up (mm_f γ f0 mo ad z) (ad k) (.inl (mm_c γ k, mm_len k, .inl (upd (z k) j x))) = mm_f γ f0 mo ad (zs z k j x) := by
  funext a
  have ho : mm_o ad (zs z k j x) = mm_o ad z := h0 _ (fun i hi => zs_row z x (fun q => hi (q ▸ hk)))
  by_cases h : a = ad k
  · subst h
    rw [va_up_self, mm_at G hk, zs_upd]
  · rw [va_up_ne _ _ h]
    unfold mm_f
    rw [ho]
    by_cases h2 : a = mo
    · rw [if_pos h2, if_pos h2]
    · rw [if_neg h2, if_neg h2]
      cases h3 : mm_arrs.find? (fun i => ad i == a) with
      | none => rfl
      | some i =>
        have h4 : ad i = a := by simpa using List.find?_some h3
        have h5 : i ≠ k := fun q => h (by rw [← h4, q])
        show Sum.inl (mm_c γ i, mm_len i, Sum.inl (z i)) = Sum.inl (mm_c γ i, mm_len i, Sum.inl (zs z k j x i))
        rw [zs_row z x h5]
theorem mm_o_arr {z' : zT} (h : ∀ i, i ∉ mm_arrs → z' i = z i) : mm_o ad z' = mm_o ad z := by
  unfold mm_o
  rw [h 0 (by decide), h 1 (by decide), h 3 (by decide), h 18 (by decide), h 27 (by decide), h 28 (by decide), h 29 (by decide)]
theorem mm_up_obj {k : Nat} (hk : k ∉ mm_arrs) (x : Int32) (ho : (mm_o ad z).set k (.int x) = mm_o ad (zs z k 0 x)) : va_up (mm_f γ f0 mo ad z) mo (.inr (4, (mm_o ad z).set k (.int x))) = mm_f γ f0 mo ad (zs z k 0 x) := by
  funext a
  by_cases h : a = mo
  · subst h
    rw [va_up_self, mm_obj, ho]
  · rw [va_up_ne _ _ h]
    unfold mm_f
    rw [if_neg h, if_neg h]
    cases h3 : mm_arrs.find? (fun i => ad i == a) with
    | none => rfl
    | some i =>
      have h5 : i ≠ k := fun q => hk (q ▸ List.mem_of_find?_eq_some h3)
      show Sum.inl (mm_c γ i, mm_len i, Sum.inl (z i)) = Sum.inl (mm_c γ i, mm_len i, Sum.inl (zs z k 0 x i))
      rw [zs_row z x h5]
end MM
section PM
variable {l0 : Launch} {D : va_G} {γ : Nat → ClassId} {κ : pv_K} {cc : ByteArray} {rm : Room} {nl : Nat} {cells slots : Nat} {LP : List Nat} {f0 : Nat → va_E} {mo : Nat} {ad : Nat → Nat} {z : zT} {pc : Nat} {lv : List (Nat × Value)} {st : List Value}
/-- a walk over the reference's state -/
abbrev pm_V (D : va_G) (γ : Nat → ClassId) (κ : pv_K) (cells slots : Nat) (LP : List Nat) (f0 : Nat → va_E) (mo : Nat) (ad : Nat → Nat) (z : zT) (pc : Nat) (lv : List (Nat × Value)) (st : List Value) : Prop := pv_V D κ cells slots LP (mm_f γ f0 mo ad z) pc lv st
theorem pm_get (C : pv_C l0 D (tys_ γ) κ cc RM rm nl) (G : mm_H mo ad LP) {index : Nat} (k : Nat) (hk : k < 31) (hlk : Cond.fieldLink RM index RM (TM k).2.1 (TM k).2.2.1 ∈ Wg) (hr : (TM k).1 = RM) {v : Value} (hv : (mm_o ad z)[k]? = some v) (d : decode cc pc = .ok (.getfield index, 3)) (kk : pm_V D γ κ cells slots LP f0 mo ad z (pc + 3) lv (v :: st)) : pm_V D γ κ cells slots LP f0 mo ad z pc lv (.ref mo :: st) :=
  pv_get C hin_M rfl G.1 mm_obj k hk hlk hr hv d kk
theorem pm_put (C : pv_C l0 D (tys_ γ) κ cc RM rm nl) (G : mm_H mo ad LP) {index : Nat} (k : Nat) (hk : k < 31) (hlk : Cond.fieldLink RM index RM (TM k).2.1 (TM k).2.2.1 ∈ Wg) (hr : (TM k).1 = RM) (hfin : (TM k).2.2.2 = false) {x : Int32} (hty : tyM k = .int) (hka : k ∉ mm_arrs) (ho : (mm_o ad z).set k (.int x) = mm_o ad (zs z k 0 x)) (d : decode cc pc = .ok (.putfield index, 3)) (kk : pm_V D γ κ cells slots LP f0 mo ad (zs z k 0 x) (pc + 3) lv st) : pm_V D γ κ cells slots LP f0 mo ad z pc lv (.int x :: .ref mo :: st) :=
  pv_put C hin_M tyM tyM_ok nmM rfl G.1 mm_obj k hk hlk hr hfin (by rw [hty]; rfl) (by rw [hty]; rfl) hk d (by rw [mm_up_obj hka x ho]; exact kk)
theorem pm_ald (C : pv_C l0 D (tys_ γ) κ cc RM rm nl) (G : mm_H mo ad LP) (k : Nat) (hk : k ∈ mm_arrs) (hc : mm_c γ k = γ 3) {i : Int32} {j : Nat} (hi : i = nI j) (hj : j < mm_len k) (d : decode cc pc = .ok (.iaload, 1)) (kk : pm_V D γ κ cells slots LP f0 mo ad z (pc + 1) lv (.int (z k j) :: st)) : pm_V D γ κ cells slots LP f0 mo ad z pc lv (.int i :: .ref (ad k) :: st) :=
  pv_iald C 3 (cA := mm_c γ k) (by rw [hc]; rfl) (G.2.1 k hk) (mm_at G hk) hi hj (mm_len_lt k) d kk
theorem pm_zld (C : pv_C l0 D (tys_ γ) κ cc RM rm nl) (G : mm_H mo ad LP) (k : Nat) (hk : k ∈ mm_arrs) (hc : mm_c γ k = γ 4) {i : Int32} {j : Nat} (hi : i = nI j) (hj : j < mm_len k) (d : decode cc pc = .ok (.baload, 1)) (kk : pm_V D γ κ cells slots LP f0 mo ad z (pc + 1) lv (.int (z k j) :: st)) : pm_V D γ κ cells slots LP f0 mo ad z pc lv (.int i :: .ref (ad k) :: st) :=
  pv_zald C 4 (cA := mm_c γ k) (by rw [hc]; rfl) (G.2.1 k hk) (mm_at G hk) hi hj (mm_len_lt k) d kk
theorem pm_ast (C : pv_C l0 D (tys_ γ) κ cc RM rm nl) (G : mm_H mo ad LP) (k : Nat) (hk : k ∈ mm_arrs) (hc : mm_c γ k = γ 3) {i x : Int32} {j : Nat} (hi : i = nI j) (hj : j < mm_len k) (d : decode cc pc = .ok (.iastore, 1)) (kk : pm_V D γ κ cells slots LP f0 mo ad (zs z k j x) (pc + 1) lv st) : pm_V D γ κ cells slots LP f0 mo ad z pc lv (.int x :: .int i :: .ref (ad k) :: st) :=
  pv_iast C 3 (cA := mm_c γ k) (by rw [hc]; rfl) (G.2.1 k hk) (mm_at G hk) hi hj (mm_len_lt k) d (by rw [mm_up_arr G hk j x (fun _ h => mm_o_arr h)]; exact kk)
theorem pm_zst (C : pv_C l0 D (tys_ γ) κ cc RM rm nl) (G : mm_H mo ad LP) (k : Nat) (hk : k ∈ mm_arrs) (hc : mm_c γ k = γ 4) {i x : Int32} {j : Nat} (hi : i = nI j) (hj : j < mm_len k) (hx : vp_nar .boolean x = x) (d : decode cc pc = .ok (.bastore, 1)) (kk : pm_V D γ κ cells slots LP f0 mo ad (zs z k j x) (pc + 1) lv st) : pm_V D γ κ cells slots LP f0 mo ad z pc lv (.int x :: .int i :: .ref (ad k) :: st) :=
  pv_zast C 4 (cA := mm_c γ k) (by rw [hc]; rfl) (G.2.1 k hk) (mm_at G hk) hi hj (mm_len_lt k) hx d (by rw [mm_up_arr G hk j x (fun _ h => mm_o_arr h)]; exact kk)
end PM
end
section
/-! the reference as functions over its state -/
def bN (b : Bool) : Int32 := if b = true then 1 else 0
theorem bN_t : bN true = 1 := rfl
theorem bN_f : bN false = 0 := rfl
theorem bN_0 {b : Bool} (h : bN b = 0) : b = false := by cases b; rfl; exact absurd h (by decide)
theorem bN_1 {b : Bool} (h : ¬ bN b = 0) : b = true := by cases b; exact absurd rfl h; rfl
theorem bN_nar (b : Bool) : vp_nar .boolean (bN b) = bN b := by cases b <;> rfl
theorem bN_n (b : Bool) : narrow .boolean (.int (bN b)) = .int (bN b) := by cases b <;> rfl
abbrev ix (x : Int32) : Nat := x.toNatClampNeg
theorem ix_nI {n : Nat} (h : n < 2 ^ 31) : ix (nI n) = n := nI_clamp h
theorem nI_ix {x : Int32} (h : ¬ x < 0) : x = nI (ix x) := by
  obtain ⟨j, h1, rfl⟩ := nI_of h
  rw [ix_nI h1]
def inB (v lo hi : Int32) : Bool := decide (lo ≤ v) && decide (v ≤ hi)
theorem inB_t {v lo hi : Int32} (h : inB v lo hi = true) : lo ≤ v ∧ v ≤ hi := by simpa [inB] using h
theorem inB_f {v lo hi : Int32} (h : inB v lo hi = false) : ¬ (lo ≤ v ∧ v ≤ hi) := fun q => by simp [inB, q.1, q.2] at h
/-- an argument within 0 .. n is a number -/
theorem inB_ix {v lo hi : Int32} {a b : Nat} (h : inB v lo hi = true) (hlo : lo = nI a) (hhi : hi = nI b) (ha : a < 2 ^ 31) (hb : b < 2 ^ 31) : v = nI (ix v) ∧ a ≤ ix v ∧ ix v ≤ b := by
  obtain ⟨h1, h2⟩ := inB_t h
  subst hlo
  subst hhi
  have h0 : ¬ v < 0 := fun q => by
    have := Int32.lt_iff_toInt_lt.mp q
    have h3 := Int32.le_iff_toInt_le.mp h1
    rw [nI_toInt ha] at h3
    rw [Int32.toInt_zero] at this
    omega
  obtain ⟨j, hj, rfl⟩ := nI_of h0
  rw [ix_nI hj]
  exact ⟨rfl, (nI_leI ha hj).mp h1, (nI_leI hj hb).mp h2⟩
abbrev zA (z : zT) : Nat := ix (z 3 0)
abbrev zU (z : zT) : Nat := ix (z 18 0)
abbrev zD (z : zT) : Nat := ix (z 29 0)
abbrev zt (z : zT) (i : Nat) : Nat := ix (z 6 i)
abbrev zl (z : zT) (u : Nat) : Nat := ix (z 19 u)
/-- what keeps the reference within its arrays -/
def zI (z : zT) : Prop := (z 3 0 = nI (zA z) ∧ zA z ≤ 16) ∧ (z 18 0 = nI (zU z) ∧ zU z ≤ 120) ∧ (z 29 0 = nI (zD z) ∧ zD z ≤ 64) ∧ (∀ i, i ≤ 16 → z 6 i = nI (zt z i) ∧ zt z i ≤ 4 ∧ z 5 i = nI (ix (z 5 i)) ∧ zt z i ≤ ix (z 5 i) ∧ ix (z 5 i) ≤ 4) ∧ (∀ u, 1 ≤ u → u ≤ zU z → z 19 u = nI (zl z u) ∧ 4 ≤ zl z u ∧ zl z u < 68) ∧ ∀ i, i < zD z → z 30 i = nI (ix (z 30 i)) ∧ ix (z 30 i) < 68
def isA (z : zT) (a : Int32) : Bool := inB a 1 (z 3 0)
def isL (z : zT) (a n : Int32) : Bool := isA z a && inB n 0 (z 6 (ix a) - 1)
def isU (z : zT) (u : Int32) : Bool := inB u 1 (z 18 0)
def isP (p : Int32) : Bool := inB p 0 7
theorem isA_ix {z : zT} {a : Int32} (hz : zI z) (h : isA z a = true) : a = nI (ix a) ∧ 1 ≤ ix a ∧ ix a ≤ zA z ∧ ix a ≤ 16 := by
  obtain ⟨h1, h2, h3⟩ := inB_ix (a := 1) (b := zA z) h rfl hz.1.1 (by decide) (by have := hz.1.2; omega)
  exact ⟨h1, h2, h3, Nat.le_trans h3 hz.1.2⟩
theorem isU_ix {z : zT} {u : Int32} (hz : zI z) (h : isU z u = true) : u = nI (ix u) ∧ 1 ≤ ix u ∧ ix u ≤ zU z ∧ ix u ≤ 120 := by
  obtain ⟨h1, h2, h3⟩ := inB_ix (a := 1) (b := zU z) h rfl hz.2.1.1 (by decide) (by have := hz.2.1.2; omega)
  exact ⟨h1, h2, h3, Nat.le_trans h3 hz.2.1.2⟩
theorem isP_ix {p : Int32} (h : isP p = true) : p = nI (ix p) ∧ ix p ≤ 7 := by
  obtain ⟨h1, -, h3⟩ := inB_ix (a := 0) (b := 7) h rfl rfl (by decide) (by decide)
  exact ⟨h1, h3⟩
theorem isL_ix {z : zT} {a n : Int32} (hz : zI z) (h : isL z a n = true) : (a = nI (ix a) ∧ 1 ≤ ix a ∧ ix a ≤ zA z ∧ ix a ≤ 16) ∧ n = nI (ix n) ∧ ix n < zt z (ix a) ∧ ix n < 4 := by
  have h1 : isA z a = true := by simp [isL] at h; exact h.1
  have h2 : inB n 0 (z 6 (ix a) - 1) = true := by simp [isL] at h; exact h.2
  have ha := isA_ix hz h1
  obtain ⟨e1, e2, -⟩ := hz.2.2.2.1 (ix a) ha.2.2.2
  rw [e1] at h2
  rcases Nat.eq_zero_or_pos (zt z (ix a)) with q | q
  · rw [q] at h2
    obtain ⟨q1, q2⟩ := inB_t h2
    have q3 := Int32.le_iff_toInt_le.mp q1
    have q4 := Int32.le_iff_toInt_le.mp q2
    rw [Int32.toInt_zero] at q3
    rw [show (nI 0 - 1).toInt = -1 by decide] at q4
    omega
  · have e3 : nI (zt z (ix a)) - 1 = nI (zt z (ix a) - 1) := by
      obtain ⟨w, hw⟩ : ∃ w, zt z (ix a) = w + 1 := ⟨zt z (ix a) - 1, by omega⟩
      rw [hw, nI_pred, Nat.add_sub_cancel]
    rw [e3] at h2
    obtain ⟨g1, -, g3⟩ := inB_ix (a := 0) (b := zt z (ix a) - 1) h2 rfl rfl (by decide) (by omega)
    exact ⟨ha, g1, by omega, by omega⟩
/-- a method of the reference: it answers r, and its state is z' then -/
def mP (γ : Nat → ClassId) (LP : List Nat) (f0 : Nat → va_E) (mo : Nat) (ad : Nat → Nat) (v : Option Value) (z' : zT) : Option Value → List Nat → (Nat → va_E) → Prop := fun w LP1 f1 => w = v ∧ LP1 = LP ∧ f1 = mm_f γ f0 mo ad z'
abbrev mM (l : Launch) (D : va_G) (γ : Nat → ClassId) (y : MethodName) (w0 : Cond) (rm : Room) (as : List Value) (LP : List Nat) (f0 : Nat → va_E) (mo : Nat) (ad : Nat → Nat) (z : zT) (v : Option Value) (z' : zT) : Prop := pv_M l D (tys_ γ) y w0 rm as LP (mm_f γ f0 mo ad z) (mP γ LP f0 mo ad v z') (fun _ => False)
theorem mP_i {γ : Nat → ClassId} {LP : List Nat} {f0 : Nat → va_E} {mo : Nat} {ad : Nat → Nat} {r : Int32} {z1 : zT} {q : Int32 × zT} (h : (r, z1) = q) : mP γ LP f0 mo ad (some (.int q.1)) q.2 (some (.int r)) LP (mm_f γ f0 mo ad z1) := by
  subst h
  exact ⟨rfl, rfl, rfl⟩
theorem mP_v {γ : Nat → ClassId} {LP : List Nat} {f0 : Nat → va_E} {mo : Nat} {ad : Nat → Nat} {z1 z2 : zT} (h : z1 = z2) : mP γ LP f0 mo ad none z2 none LP (mm_f γ f0 mo ad z1) := by
  subst h
  exact ⟨rfl, rfl, rfl⟩
section PB
variable {l0 : Launch} {D : va_G} {tys : List (ClassId × FieldType)} {κ : pv_K} {cc : ByteArray} {own : String} {rm : Room} {nl : Nat} {cells slots : Nat} {LP : List Nat} {f : Nat → va_E} {pc : Nat} {lv lv' : List (Nat × Value)} {st : List Value}
theorem pv_ifb_eq (C : pv_C l0 D tys κ cc own rm nl) {b : Bool} {off : Int} {tgt : Nat} (d : decode cc pc = .ok (.ifCond .eq off, 3)) (ht : (pc : Int) + off = (tgt : Int)) (kt : b = false → pv_V D κ cells slots LP f tgt lv st) (kf : b = true → pv_V D κ cells slots LP f (pc + 3) lv st) : pv_V D κ cells slots LP f pc lv (.int (bN b) :: st) :=
  pv_if_eq C d ht (fun h => kt (bN_0 h)) (fun h => kf (bN_1 h))
theorem pv_ifb_ne (C : pv_C l0 D tys κ cc own rm nl) {b : Bool} {off : Int} {tgt : Nat} (d : decode cc pc = .ok (.ifCond .ne off, 3)) (ht : (pc : Int) + off = (tgt : Int)) (kt : b = true → pv_V D κ cells slots LP f tgt lv st) (kf : b = false → pv_V D κ cells slots LP f (pc + 3) lv st) : pv_V D κ cells slots LP f pc lv (.int (bN b) :: st) :=
  pv_if_ne C d ht (fun h => kt (bN_1 h)) (fun h => kf (bN_0 h))
theorem pv_st {st2 : List Value} {c2 s2 : Nat} (h : st = st2) (hc : cells = c2) (hs : slots = s2) (kk : pv_V D κ c2 s2 LP f pc lv st2) : pv_V D κ cells slots LP f pc lv st := by
  subst h
  subst hc
  subst hs
  exact kk
theorem pv_top {x y : Int32} (h : x = y) (kk : pv_V D κ cells slots LP f pc lv (.int y :: st)) : pv_V D κ cells slots LP f pc lv (.int x :: st) := by
  subst h
  exact kk
end PB
end
section
/-! contracts of the reference (by the programs wip/whole/gen/model1.py, m1.py, walk.py) -/
theorem nT {b : Bool} (h : b = false) : ¬ b = true := by rw [h]; decide
theorem ln_ix {a n : Int32} {j k : Nat} (h1 : a = nI j) (h2 : n = nI k) : 4 * a + n = nI (4 * j + k) := by
  subst h1
  subst h2
  rw [show (4 : Int32) = nI 4 from rfl, pk_mul, nI_add]
theorem pn_ix {a n : Int32} {j k : Nat} (h1 : a = nI j) (h2 : n = nI k) : 8 * a + n = nI (8 * j + k) := by
  subst h1
  subst h2
  rw [show (8 : Int32) = nI 8 from rfl, pk_mul, nI_add]
theorem dv_ix {a : Int32} {j : Nat} (h1 : a = nI j) (h : j < 2 ^ 31) : a / 4 = nI (j / 4) := by
  subst h1
  exact pk_div h (by decide) (by decide)
theorem df_ix {z : zT} {i : Int32} (hz : zI z) (h : inB i 0 (z 29 0 - 1) = true) : i = nI (ix i) ∧ ix i < zD z := by
  have e1 := hz.2.2.1.1
  have e2 := hz.2.2.1.2
  rw [e1] at h
  rcases Nat.eq_zero_or_pos (zD z) with q | q
  · rw [q] at h
    obtain ⟨q1, q2⟩ := inB_t h
    have q3 := Int32.le_iff_toInt_le.mp q1
    have q4 := Int32.le_iff_toInt_le.mp q2
    rw [Int32.toInt_zero] at q3
    rw [show (nI 0 - 1).toInt = -1 by decide] at q4
    omega
  · have e3 : nI (zD z) - 1 = nI (zD z - 1) := by
      obtain ⟨w, hw⟩ : ∃ w, zD z = w + 1 := ⟨zD z - 1, by omega⟩
      rw [hw, nI_pred, Nat.add_sub_cancel]
    rw [e3] at h
    obtain ⟨g1, -, g3⟩ := inB_ix (a := 0) (b := zD z - 1) h rfl rfl (by decide) (by omega)
    exact ⟨g1, by omega⟩
abbrev rm_M_in : Room := { frames := 0, cells := 0, slots := 0, locals := 0 }
set_option maxRecDepth 100000 in
set_option maxHeartbeats 4000000 in
theorem c_M_in {l0 : Launch} {D : va_G} {γ : Nat → ClassId} (hl0 : l0.stackTraces = false) {LP : List Nat} {f0 : Nat → va_E} {mo : Nat} {ad : Nat → Nat} (G : mm_H mo ad LP) (z : zT) (v : Int32) (lo : Int32) (hi : Int32)  : mM l0 D γ y_M_in (Cond.code y_M_in b_M_in 3 (Option.some FieldType.boolean)) rm_M_in [.int v, .int lo, .int hi] LP f0 mo ad z (some (.int ((bN (inB v lo hi), z)).1)) ((bN (inB v lo hi), z)).2 := by
  refine pv_mk hl0 (by decide) (Nat.le_of_ble_eq_true rfl) (fun κ C R0 hN _ => ?_)
  show pv_V D κ 0 0 LP (mm_f γ f0 mo ad z) 0 [(0, .int v), (1, .int lo), (2, .int hi)] []
  refine pv_iload_n C d_M_in_0 rfl 0 rfl ?_
  refine pv_iload_n C d_M_in_1 rfl 1 rfl ?_
  refine pv_icmp_lt (tgt := 14) C d_M_in_2 (by decide) (fun h1 => ?_) (fun h1 => ?_)
  · refine pv_iconst (v := 0) C d_M_in_14 (by decide) ?_
    exact pv_zret C (rfl) R0 d_M_in_15 (by decide) (by decide) (mP_i (by simp [inB, bN, ← Int32.not_lt, bN_t, bN_f, h1]))
  · refine pv_iload_n C d_M_in_5 rfl 0 rfl ?_
    refine pv_iload_n C d_M_in_6 rfl 2 rfl ?_
    refine pv_icmp_gt (tgt := 14) C d_M_in_7 (by decide) (fun h2 => ?_) (fun h2 => ?_)
    · refine pv_iconst (v := 0) C d_M_in_14 (by decide) ?_
      exact pv_zret C (rfl) R0 d_M_in_15 (by decide) (by decide) (mP_i (by simp [inB, bN, ← Int32.not_lt, bN_t, bN_f, h1, h2]))
    · refine pv_iconst (v := 1) C d_M_in_10 (by decide) ?_
      refine pv_goto (tgt := 15) C d_M_in_11 (by decide) ?_
      exact pv_zret C (rfl) R0 d_M_in_15 (by decide) (by decide) (mP_i (by simp [inB, bN, ← Int32.not_lt, bN_t, bN_f, h1, h2]))
abbrev rm_M_isAnnouncement : Room := { frames := 1, cells := 0, slots := 0, locals := 22 }
set_option maxRecDepth 100000 in
set_option maxHeartbeats 4000000 in
theorem c_M_isAnnouncement {l0 : Launch} {D : va_G} {γ : Nat → ClassId} (hl0 : l0.stackTraces = false) {LP : List Nat} {f0 : Nat → va_E} {mo : Nat} {ad : Nat → Nat} (G : mm_H mo ad LP) (z : zT) (a : Int32)  : mM l0 D γ y_M_isAnnouncement (Cond.code y_M_isAnnouncement b_M_isAnnouncement 2 (Option.some FieldType.boolean)) rm_M_isAnnouncement [.ref mo, .int a] LP f0 mo ad z (some (.int ((bN (isA z a), z)).1)) ((bN (isA z a), z)).2 := by
  refine pv_mk hl0 (by decide) (Nat.le_of_ble_eq_true rfl) (fun κ C R0 hN _ => ?_)
  show pv_V D κ 0 0 LP (mm_f γ f0 mo ad z) 0 [(0, .ref mo), (1, .int a)] []
  refine pv_iload_n C d_M_isAnnouncement_0 rfl 1 rfl ?_
  refine pv_iconst (v := 1) C d_M_isAnnouncement_1 (by decide) ?_
  refine pv_aload_n C d_M_isAnnouncement_2 rfl 0 rfl ?_
  refine pm_get (v := .int (z 3 0)) C G 3 (by decide) fl_M_87 rfl rfl d_M_isAnnouncement_3 ?_
  refine pv_callS (n := 3) (As := [.int a, .int 1, .int (z 3 0)]) (rest := []) C (c_M_in hl0 G z a 1 (z 3 0)) cd_M_in ml_M_90 in_M sm_M_in (by decide +kernel) (by decide) rfl (Nat.le_of_ble_eq_true rfl) rfl d_M_isAnnouncement_6 (by decide) hN R0 (fun _ h => h.elim) (fun v9 LP9 f9 h9 => ?_)
  obtain ⟨rfl, rfl, rfl⟩ := h9
  refine pv_st (st2 := [.int (bN (inB a 1 (z 3 0)))]) (c2 := 0) (s2 := 0) rfl rfl rfl ?_
  exact pv_zret C (bN_n _) R0 d_M_isAnnouncement_9 (by decide) (by decide) (mP_i (by simp [isA, bN_t, bN_f]))
abbrev rm_M_isPerson : Room := { frames := 1, cells := 0, slots := 0, locals := 22 }
set_option maxRecDepth 100000 in
set_option maxHeartbeats 4000000 in
theorem c_M_isPerson {l0 : Launch} {D : va_G} {γ : Nat → ClassId} (hl0 : l0.stackTraces = false) {LP : List Nat} {f0 : Nat → va_E} {mo : Nat} {ad : Nat → Nat} (G : mm_H mo ad LP) (z : zT) (p : Int32)  : mM l0 D γ y_M_isPerson (Cond.code y_M_isPerson b_M_isPerson 1 (Option.some FieldType.boolean)) rm_M_isPerson [.int p] LP f0 mo ad z (some (.int ((bN (isP p), z)).1)) ((bN (isP p), z)).2 := by
  refine pv_mk hl0 (by decide) (Nat.le_of_ble_eq_true rfl) (fun κ C R0 hN _ => ?_)
  show pv_V D κ 0 0 LP (mm_f γ f0 mo ad z) 0 [(0, .int p)] []
  refine pv_iload_n C d_M_isPerson_0 rfl 0 rfl ?_
  refine pv_iconst (v := 0) C d_M_isPerson_1 (by decide) ?_
  refine pv_bipush (v := 7) C d_M_isPerson_2 (by decide) ?_
  refine pv_callS (n := 3) (As := [.int p, .int 0, .int 7]) (rest := []) C (c_M_in hl0 G z p 0 7) cd_M_in ml_M_90 in_M sm_M_in (by decide +kernel) (by decide) rfl (Nat.le_of_ble_eq_true rfl) rfl d_M_isPerson_4 (by decide) hN R0 (fun _ h => h.elim) (fun v9 LP9 f9 h9 => ?_)
  obtain ⟨rfl, rfl, rfl⟩ := h9
  refine pv_st (st2 := [.int (bN (inB p 0 7))]) (c2 := 0) (s2 := 0) rfl rfl rfl ?_
  exact pv_zret C (bN_n _) R0 d_M_isPerson_7 (by decide) (by decide) (mP_i (by simp [isP, bN_t, bN_f]))
abbrev rm_M_isUnit : Room := { frames := 1, cells := 0, slots := 0, locals := 22 }
set_option maxRecDepth 100000 in
set_option maxHeartbeats 4000000 in
theorem c_M_isUnit {l0 : Launch} {D : va_G} {γ : Nat → ClassId} (hl0 : l0.stackTraces = false) {LP : List Nat} {f0 : Nat → va_E} {mo : Nat} {ad : Nat → Nat} (G : mm_H mo ad LP) (z : zT) (u : Int32)  : mM l0 D γ y_M_isUnit (Cond.code y_M_isUnit b_M_isUnit 2 (Option.some FieldType.boolean)) rm_M_isUnit [.ref mo, .int u] LP f0 mo ad z (some (.int ((bN (isU z u), z)).1)) ((bN (isU z u), z)).2 := by
  refine pv_mk hl0 (by decide) (Nat.le_of_ble_eq_true rfl) (fun κ C R0 hN _ => ?_)
  show pv_V D κ 0 0 LP (mm_f γ f0 mo ad z) 0 [(0, .ref mo), (1, .int u)] []
  refine pv_iload_n C d_M_isUnit_0 rfl 1 rfl ?_
  refine pv_iconst (v := 1) C d_M_isUnit_1 (by decide) ?_
  refine pv_aload_n C d_M_isUnit_2 rfl 0 rfl ?_
  refine pm_get (v := .int (z 18 0)) C G 18 (by decide) fl_M_98 rfl rfl d_M_isUnit_3 ?_
  refine pv_callS (n := 3) (As := [.int u, .int 1, .int (z 18 0)]) (rest := []) C (c_M_in hl0 G z u 1 (z 18 0)) cd_M_in ml_M_90 in_M sm_M_in (by decide +kernel) (by decide) rfl (Nat.le_of_ble_eq_true rfl) rfl d_M_isUnit_6 (by decide) hN R0 (fun _ h => h.elim) (fun v9 LP9 f9 h9 => ?_)
  obtain ⟨rfl, rfl, rfl⟩ := h9
  refine pv_st (st2 := [.int (bN (inB u 1 (z 18 0)))]) (c2 := 0) (s2 := 0) rfl rfl rfl ?_
  exact pv_zret C (bN_n _) R0 d_M_isUnit_9 (by decide) (by decide) (mP_i (by simp [isU, bN_t, bN_f]))
abbrev rm_M_thrown : Room := { frames := 0, cells := 0, slots := 0, locals := 0 }
set_option maxRecDepth 100000 in
set_option maxHeartbeats 4000000 in
theorem c_M_thrown {l0 : Launch} {D : va_G} {γ : Nat → ClassId} (hl0 : l0.stackTraces = false) {LP : List Nat} {f0 : Nat → va_E} {mo : Nat} {ad : Nat → Nat} (G : mm_H mo ad LP) (z : zT)   : mM l0 D γ y_M_thrown (Cond.code y_M_thrown b_M_thrown 1 (Option.some FieldType.int)) rm_M_thrown [.ref mo] LP f0 mo ad z (some (.int ((z 0 0, z)).1)) ((z 0 0, z)).2 := by
  refine pv_mk hl0 (by decide) (Nat.le_of_ble_eq_true rfl) (fun κ C R0 hN _ => ?_)
  show pv_V D κ 0 0 LP (mm_f γ f0 mo ad z) 0 [(0, .ref mo)] []
  refine pv_aload_n C d_M_thrown_0 rfl 0 rfl ?_
  refine pm_get (v := .int (z 0 0)) C G 0 (by decide) fl_M_83 rfl rfl d_M_thrown_1 ?_
  exact pv_iret C R0 d_M_thrown_4 (by decide) (by decide) (mP_i (by simp [bN_t, bN_f]))
abbrev rm_M_isLine : Room := { frames := 2, cells := 0, slots := 0, locals := 43 }
set_option maxRecDepth 100000 in
set_option maxHeartbeats 4000000 in
theorem c_M_isLine {l0 : Launch} {D : va_G} {γ : Nat → ClassId} (hl0 : l0.stackTraces = false) {LP : List Nat} {f0 : Nat → va_E} {mo : Nat} {ad : Nat → Nat} (G : mm_H mo ad LP) (z : zT) (a : Int32) (n : Int32) (hz : zI z) : mM l0 D γ y_M_isLine (Cond.code y_M_isLine b_M_isLine 3 (Option.some FieldType.boolean)) rm_M_isLine [.ref mo, .int a, .int n] LP f0 mo ad z (some (.int ((bN (isL z a n), z)).1)) ((bN (isL z a n), z)).2 := by
  refine pv_mk hl0 (by decide) (Nat.le_of_ble_eq_true rfl) (fun κ C R0 hN _ => ?_)
  show pv_V D κ 0 0 LP (mm_f γ f0 mo ad z) 0 [(0, .ref mo), (1, .int a), (2, .int n)] []
  refine pv_aload_n C d_M_isLine_0 rfl 0 rfl ?_
  refine pv_iload_n C d_M_isLine_1 rfl 1 rfl ?_
  refine pv_callV (n := 1) (As := [.int a]) (rest := []) C (c_M_isAnnouncement hl0 G z a) cd_M_isAnnouncement ml_M_94 in_M im_M_isAnnouncement se_M_isAnnouncement G.1 mm_obj rfl rfl (by decide +kernel) (by decide) rfl (Nat.le_of_ble_eq_true rfl) rfl d_M_isLine_2 (by decide) hN R0 (fun _ h => h.elim) (fun v9 LP9 f9 h9 => ?_)
  obtain ⟨rfl, rfl, rfl⟩ := h9
  refine pv_st (st2 := [.int (bN (isA z a))]) (c2 := 0) (s2 := 0) rfl rfl rfl ?_
  refine pv_ifb_eq (tgt := 44) C d_M_isLine_5 (by decide) (fun h1 => ?_) (fun h1 => ?_)
  · refine pv_iconst (v := 0) C d_M_isLine_44 (by decide) ?_
    exact pv_zret C (rfl) R0 d_M_isLine_45 (by decide) (by decide) (mP_i (by simp [isL, bN_t, bN_f, h1]))
  · have hA := isA_ix hz h1
    refine pv_iload_n C d_M_isLine_8 rfl 2 rfl ?_
    refine pv_iconst (v := 0) C d_M_isLine_9 (by decide) ?_
    refine pv_aload_n C d_M_isLine_10 rfl 0 rfl ?_
    refine pm_get (v := .ref (ad 6)) C G 6 (by decide) fl_M_20 rfl rfl d_M_isLine_11 ?_
    refine pv_iload_n C d_M_isLine_14 rfl 1 rfl ?_
    refine pv_iconst (v := 1) C d_M_isLine_15 (by decide) ?_
    refine pv_aload_n C d_M_isLine_16 rfl 0 rfl ?_
    refine pm_get (v := .int (z 3 0)) C G 3 (by decide) fl_M_87 rfl rfl d_M_isLine_17 ?_
    refine pv_callS (n := 3) (As := [.int a, .int 1, .int (z 3 0)]) (rest := [.ref (ad 6), .int 0, .int n]) C (c_M_in hl0 G z a 1 (z 3 0)) cd_M_in ml_M_90 in_M sm_M_in (by decide +kernel) (by decide) rfl (Nat.le_of_ble_eq_true rfl) rfl d_M_isLine_20 (by decide) hN R0 (fun _ h => h.elim) (fun v9 LP9 f9 h9 => ?_)
    obtain ⟨rfl, rfl, rfl⟩ := h9
    refine pv_st (st2 := [.int (bN (inB a 1 (z 3 0))), .ref (ad 6), .int 0, .int n]) (c2 := 0) (s2 := 0) rfl rfl rfl ?_
    refine pv_ifb_eq (tgt := 30) C d_M_isLine_23 (by decide) (fun h2 => ?_) (fun h2 => ?_)
    · exact absurd h1 (by simp [isA, h2])
    · refine pv_iload_n C d_M_isLine_26 rfl 1 rfl ?_
      refine pv_goto (tgt := 31) C d_M_isLine_27 (by decide) ?_
      refine pm_ald C G 6 (by decide) rfl (j := (ix a)) hA.1 (show (ix a) < 17 by omega) d_M_isLine_31 ?_
      refine pv_top (y := (z 6 (ix a))) rfl ?_
      refine pv_iconst (v := 1) C d_M_isLine_32 (by decide) ?_
      refine pv_isub C d_M_isLine_33 ?_
      refine pv_callS (n := 3) (As := [.int n, .int 0, .int ((z 6 (ix a)) - 1)]) (rest := []) C (c_M_in hl0 G z n 0 ((z 6 (ix a)) - 1)) cd_M_in ml_M_90 in_M sm_M_in (by decide +kernel) (by decide) rfl (Nat.le_of_ble_eq_true rfl) rfl d_M_isLine_34 (by decide) hN R0 (fun _ h => h.elim) (fun v9 LP9 f9 h9 => ?_)
      obtain ⟨rfl, rfl, rfl⟩ := h9
      refine pv_st (st2 := [.int (bN (inB n 0 ((z 6 (ix a)) - 1)))]) (c2 := 0) (s2 := 0) rfl rfl rfl ?_
      refine pv_ifb_eq (tgt := 44) C d_M_isLine_37 (by decide) (fun h3 => ?_) (fun h3 => ?_)
      · refine pv_iconst (v := 0) C d_M_isLine_44 (by decide) ?_
        exact pv_zret C (rfl) R0 d_M_isLine_45 (by decide) (by decide) (mP_i (by simp [isL, bN_t, bN_f, h1, h2, h3]))
      · refine pv_iconst (v := 1) C d_M_isLine_40 (by decide) ?_
        refine pv_goto (tgt := 45) C d_M_isLine_41 (by decide) ?_
        exact pv_zret C (rfl) R0 d_M_isLine_45 (by decide) (by decide) (mP_i (by simp [isL, bN_t, bN_f, h1, h2, h3]))
abbrev rm_M_announce : Room := { frames := 1, cells := 0, slots := 0, locals := 22 }
def m_announce (z : zT) (o : Int32) (n : Int32) : Int32 × zT :=
  (if (inB o 0 7) = true then (if (inB n 1 4) = true then (if (z 3 0) = 16 then (0, (zs z 0 0 2)) else (((z 3 0) + 1), (zs (zs (zs (zs (zs z 0 0 0) 3 0 ((z 3 0) + 1)) 4 (zA z + 1) o) 5 (zA z + 1) n) 8 (zA z + 1) (-1)))) else (0, (zs z 0 0 1))) else (0, (zs z 0 0 1)))
set_option maxRecDepth 100000 in
set_option maxHeartbeats 4000000 in
theorem c_M_announce {l0 : Launch} {D : va_G} {γ : Nat → ClassId} (hl0 : l0.stackTraces = false) {LP : List Nat} {f0 : Nat → va_E} {mo : Nat} {ad : Nat → Nat} (G : mm_H mo ad LP) (z : zT) (o : Int32) (n : Int32) (hz : zI z) : mM l0 D γ y_M_announce (Cond.code y_M_announce b_M_announce 3 (Option.some FieldType.int)) rm_M_announce [.ref mo, .int o, .int n] LP f0 mo ad z (some (.int (m_announce z o n).1)) (m_announce z o n).2 := by
  refine pv_mk hl0 (by decide) (Nat.le_of_ble_eq_true rfl) (fun κ C R0 hN _ => ?_)
  show pv_V D κ 0 0 LP (mm_f γ f0 mo ad z) 0 [(0, .ref mo), (1, .int o), (2, .int n)] []
  refine pv_aload_n C d_M_announce_0 rfl 0 rfl ?_
  refine pv_iload_n C d_M_announce_1 rfl 1 rfl ?_
  refine pv_iconst (v := 0) C d_M_announce_2 (by decide) ?_
  refine pv_bipush (v := 7) C d_M_announce_3 (by decide) ?_
  refine pv_callS (n := 3) (As := [.int o, .int 0, .int 7]) (rest := [.ref mo]) C (c_M_in hl0 G z o 0 7) cd_M_in ml_M_90 in_M sm_M_in (by decide +kernel) (by decide) rfl (Nat.le_of_ble_eq_true rfl) rfl d_M_announce_5 (by decide) hN R0 (fun _ h => h.elim) (fun v9 LP9 f9 h9 => ?_)
  obtain ⟨rfl, rfl, rfl⟩ := h9
  refine pv_st (st2 := [.int (bN (inB o 0 7)), .ref mo]) (c2 := 0) (s2 := 0) rfl rfl rfl ?_
  refine pv_ifb_eq (tgt := 20) C d_M_announce_8 (by decide) (fun h1 => ?_) (fun h1 => ?_)
  · refine pv_iconst (v := 1) C d_M_announce_20 (by decide) ?_
    refine pv_goto (tgt := 38) C d_M_announce_21 (by decide) ?_
    refine pm_put C G 0 (by decide) fl_M_83 rfl rfl rfl (by decide) rfl d_M_announce_38 ?_
    refine pv_aload_n C d_M_announce_41 rfl 0 rfl ?_
    refine pm_get (v := .int 1) C G 0 (by decide) fl_M_83 rfl rfl d_M_announce_42 ?_
    refine pv_if_le (tgt := 50) C d_M_announce_45 (by decide) (fun q => absurd q (by decide)) (fun _ => ?_)
    refine pv_iconst (v := 0) C d_M_announce_48 (by decide) ?_
    exact pv_iret C R0 d_M_announce_49 (by decide) (by decide) (mP_i (by unfold m_announce; rw [if_neg (nT h1)]))
  · refine pv_iload_n C d_M_announce_11 rfl 2 rfl ?_
    refine pv_iconst (v := 1) C d_M_announce_12 (by decide) ?_
    refine pv_iconst (v := 4) C d_M_announce_13 (by decide) ?_
    refine pv_callS (n := 3) (As := [.int n, .int 1, .int 4]) (rest := [.ref mo]) C (c_M_in hl0 G z n 1 4) cd_M_in ml_M_90 in_M sm_M_in (by decide +kernel) (by decide) rfl (Nat.le_of_ble_eq_true rfl) rfl d_M_announce_14 (by decide) hN R0 (fun _ h => h.elim) (fun v9 LP9 f9 h9 => ?_)
    obtain ⟨rfl, rfl, rfl⟩ := h9
    refine pv_st (st2 := [.int (bN (inB n 1 4)), .ref mo]) (c2 := 0) (s2 := 0) rfl rfl rfl ?_
    refine pv_ifb_ne (tgt := 24) C d_M_announce_17 (by decide) (fun h2 => ?_) (fun h2 => ?_)
    · refine pv_aload_n C d_M_announce_24 rfl 0 rfl ?_
      refine pm_get (v := .int (z 3 0)) C G 3 (by decide) fl_M_87 rfl rfl d_M_announce_25 ?_
      refine pv_bipush (v := 16) C d_M_announce_28 (by decide) ?_
      refine pv_icmp_ne (tgt := 37) C d_M_announce_30 (by decide) (fun h3 => ?_) (fun h3 => ?_)
      · refine pv_iconst (v := 0) C d_M_announce_37 (by decide) ?_
        refine pm_put C G 0 (by decide) fl_M_83 rfl rfl rfl (by decide) rfl d_M_announce_38 ?_
        refine pv_aload_n C d_M_announce_41 rfl 0 rfl ?_
        refine pm_get (v := .int 0) C G 0 (by decide) fl_M_83 rfl rfl d_M_announce_42 ?_
        refine pv_if_le (tgt := 50) C d_M_announce_45 (by decide) (fun _ => ?_) (fun q => absurd q (by decide))
        have hA : z 3 0 = nI (zA z) := hz.1.1
        have hA2 : zA z ≤ 16 := hz.1.2
        have hA1 : zA z ≠ 16 := fun q => h3 (by rw [hA, q]; rfl)
        have hI : z 3 0 + 1 = nI (zA z + 1) := by rw [nI_succ, ← hA]
        refine pv_aload_n C d_M_announce_50 rfl 0 rfl ?_
        refine pv_dup C d_M_announce_51 rfl ?_
        refine pm_get (v := .int (z 3 0)) C G 3 (by decide) fl_M_87 rfl rfl d_M_announce_52 ?_
        refine pv_iconst (v := 1) C d_M_announce_55 (by decide) ?_
        refine pv_iadd C d_M_announce_56 ?_
        refine pm_put C G 3 (by decide) fl_M_87 rfl rfl rfl (by decide) rfl d_M_announce_57 ?_
        refine pv_aload_n C d_M_announce_60 rfl 0 rfl ?_
        refine pm_get (v := .ref (ad 4)) C G 4 (by decide) fl_M_13 rfl rfl d_M_announce_61 ?_
        refine pv_aload_n C d_M_announce_64 rfl 0 rfl ?_
        refine pm_get (v := .int ((z 3 0) + 1)) C G 3 (by decide) fl_M_87 rfl rfl d_M_announce_65 ?_
        refine pv_iload_n C d_M_announce_68 rfl 1 rfl ?_
        refine pm_ast C G 4 (by decide) rfl (j := (zA z + 1)) hI (show (zA z + 1) < 17 by omega) d_M_announce_69 ?_
        refine pv_aload_n C d_M_announce_70 rfl 0 rfl ?_
        refine pm_get (v := .ref (ad 5)) C G 5 (by decide) fl_M_17 rfl rfl d_M_announce_71 ?_
        refine pv_aload_n C d_M_announce_74 rfl 0 rfl ?_
        refine pm_get (v := .int ((z 3 0) + 1)) C G 3 (by decide) fl_M_87 rfl rfl d_M_announce_75 ?_
        refine pv_iload_n C d_M_announce_78 rfl 2 rfl ?_
        refine pm_ast C G 5 (by decide) rfl (j := (zA z + 1)) hI (show (zA z + 1) < 17 by omega) d_M_announce_79 ?_
        refine pv_aload_n C d_M_announce_80 rfl 0 rfl ?_
        refine pm_get (v := .ref (ad 8)) C G 8 (by decide) fl_M_26 rfl rfl d_M_announce_81 ?_
        refine pv_aload_n C d_M_announce_84 rfl 0 rfl ?_
        refine pm_get (v := .int ((z 3 0) + 1)) C G 3 (by decide) fl_M_87 rfl rfl d_M_announce_85 ?_
        refine pv_iconst (v := (-1)) C d_M_announce_88 (by decide) ?_
        refine pm_ast C G 8 (by decide) rfl (j := (zA z + 1)) hI (show (zA z + 1) < 17 by omega) d_M_announce_89 ?_
        refine pv_aload_n C d_M_announce_90 rfl 0 rfl ?_
        refine pm_get (v := .int ((z 3 0) + 1)) C G 3 (by decide) fl_M_87 rfl rfl d_M_announce_91 ?_
        exact pv_iret C R0 d_M_announce_94 (by decide) (by decide) (mP_i (by unfold m_announce; rw [if_pos h1, if_pos h2, if_neg h3]))
      · refine pv_iconst (v := 2) C d_M_announce_33 (by decide) ?_
        refine pv_goto (tgt := 38) C d_M_announce_34 (by decide) ?_
        refine pm_put C G 0 (by decide) fl_M_83 rfl rfl rfl (by decide) rfl d_M_announce_38 ?_
        refine pv_aload_n C d_M_announce_41 rfl 0 rfl ?_
        refine pm_get (v := .int 2) C G 0 (by decide) fl_M_83 rfl rfl d_M_announce_42 ?_
        refine pv_if_le (tgt := 50) C d_M_announce_45 (by decide) (fun q => absurd q (by decide)) (fun _ => ?_)
        refine pv_iconst (v := 0) C d_M_announce_48 (by decide) ?_
        exact pv_iret C R0 d_M_announce_49 (by decide) (by decide) (mP_i (by unfold m_announce; rw [if_pos h1, if_pos h2, if_pos h3]))
    · refine pv_iconst (v := 1) C d_M_announce_20 (by decide) ?_
      refine pv_goto (tgt := 38) C d_M_announce_21 (by decide) ?_
      refine pm_put C G 0 (by decide) fl_M_83 rfl rfl rfl (by decide) rfl d_M_announce_38 ?_
      refine pv_aload_n C d_M_announce_41 rfl 0 rfl ?_
      refine pm_get (v := .int 1) C G 0 (by decide) fl_M_83 rfl rfl d_M_announce_42 ?_
      refine pv_if_le (tgt := 50) C d_M_announce_45 (by decide) (fun q => absurd q (by decide)) (fun _ => ?_)
      refine pv_iconst (v := 0) C d_M_announce_48 (by decide) ?_
      exact pv_iret C R0 d_M_announce_49 (by decide) (by decide) (mP_i (by unfold m_announce; rw [if_pos h1, if_neg (nT h2)]))
abbrev rm_M_line : Room := { frames := 2, cells := 0, slots := 0, locals := 43 }
def m_line (z : zT) (a : Int32) (g : Int32) (n : Int32) : Int32 × zT :=
  (if (isA z a) = true then (if (inB g 0 9) = true then (if (inB n 0 400) = true then (if (z 6 (ix a)) = (z 5 (ix a)) then (0, (zs (zs z 0 0 0) 0 0 3)) else (if (z 7 (ix a)) = 3 then (0, (zs (zs z 0 0 0) 0 0 3)) else ((((z 6 (ix a)) + 1) - 1), (zs (zs (zs (zs (zs z 0 0 0) 0 0 0) 9 (4 * ix a + zt z (ix a)) g) 10 (4 * ix a + zt z (ix a)) n) 6 (ix a) ((z 6 (ix a)) + 1))))) else (0, (zs z 0 0 2))) else (0, (zs z 0 0 2))) else (0, (zs z 0 0 1)))
set_option maxRecDepth 100000 in
set_option maxHeartbeats 4000000 in
theorem c_M_line {l0 : Launch} {D : va_G} {γ : Nat → ClassId} (hl0 : l0.stackTraces = false) {LP : List Nat} {f0 : Nat → va_E} {mo : Nat} {ad : Nat → Nat} (G : mm_H mo ad LP) (z : zT) (a : Int32) (g : Int32) (n : Int32) (hz : zI z) : mM l0 D γ y_M_line (Cond.code y_M_line b_M_line 5 (Option.some FieldType.int)) rm_M_line [.ref mo, .int a, .int g, .int n] LP f0 mo ad z (some (.int (m_line z a g n).1)) (m_line z a g n).2 := by
  refine pv_mk hl0 (by decide) (Nat.le_of_ble_eq_true rfl) (fun κ C R0 hN _ => ?_)
  show pv_V D κ 0 0 LP (mm_f γ f0 mo ad z) 0 [(0, .ref mo), (1, .int a), (2, .int g), (3, .int n)] []
  refine pv_aload_n C d_M_line_0 rfl 0 rfl ?_
  refine pv_aload_n C d_M_line_1 rfl 0 rfl ?_
  refine pv_iload_n C d_M_line_2 rfl 1 rfl ?_
  refine pv_callV (n := 1) (As := [.int a]) (rest := [.ref mo]) C (c_M_isAnnouncement hl0 G z a) cd_M_isAnnouncement ml_M_94 in_M im_M_isAnnouncement se_M_isAnnouncement G.1 mm_obj rfl rfl (by decide +kernel) (by decide) rfl (Nat.le_of_ble_eq_true rfl) rfl d_M_line_3 (by decide) hN R0 (fun _ h => h.elim) (fun v9 LP9 f9 h9 => ?_)
  obtain ⟨rfl, rfl, rfl⟩ := h9
  refine pv_st (st2 := [.int (bN (isA z a)), .ref mo]) (c2 := 0) (s2 := 0) rfl rfl rfl ?_
  refine pv_ifb_ne (tgt := 13) C d_M_line_6 (by decide) (fun h1 => ?_) (fun h1 => ?_)
  · have hA := isA_ix hz h1
    refine pv_iload_n C d_M_line_13 rfl 2 rfl ?_
    refine pv_iconst (v := 0) C d_M_line_14 (by decide) ?_
    refine pv_bipush (v := 9) C d_M_line_15 (by decide) ?_
    refine pv_callS (n := 3) (As := [.int g, .int 0, .int 9]) (rest := [.ref mo]) C (c_M_in hl0 G z g 0 9) cd_M_in ml_M_90 in_M sm_M_in (by decide +kernel) (by decide) rfl (Nat.le_of_ble_eq_true rfl) rfl d_M_line_17 (by decide) hN R0 (fun _ h => h.elim) (fun v9 LP9 f9 h9 => ?_)
    obtain ⟨rfl, rfl, rfl⟩ := h9
    refine pv_st (st2 := [.int (bN (inB g 0 9)), .ref mo]) (c2 := 0) (s2 := 0) rfl rfl rfl ?_
    refine pv_ifb_eq (tgt := 34) C d_M_line_20 (by decide) (fun h2 => ?_) (fun h2 => ?_)
    · refine pv_iconst (v := 2) C d_M_line_34 (by decide) ?_
      refine pv_goto (tgt := 39) C d_M_line_35 (by decide) ?_
      refine pm_put C G 0 (by decide) fl_M_83 rfl rfl rfl (by decide) rfl d_M_line_39 ?_
      refine pv_aload_n C d_M_line_42 rfl 0 rfl ?_
      refine pm_get (v := .int 2) C G 0 (by decide) fl_M_83 rfl rfl d_M_line_43 ?_
      refine pv_if_ne (tgt := 83) C d_M_line_46 (by decide) (fun _ => ?_) (fun q => absurd q (by decide))
      refine pv_aload_n C d_M_line_83 rfl 0 rfl ?_
      refine pm_get (v := .int 2) C G 0 (by decide) fl_M_83 rfl rfl d_M_line_84 ?_
      refine pv_if_le (tgt := 92) C d_M_line_87 (by decide) (fun q => absurd q (by decide)) (fun _ => ?_)
      refine pv_iconst (v := 0) C d_M_line_90 (by decide) ?_
      exact pv_iret C R0 d_M_line_91 (by decide) (by decide) (mP_i (by unfold m_line; rw [if_pos h1, if_neg (nT h2)]))
    · refine pv_iload_n C d_M_line_23 rfl 3 rfl ?_
      refine pv_iconst (v := 0) C d_M_line_24 (by decide) ?_
      refine pv_sipush (v := 400) C d_M_line_25 (by decide) ?_
      refine pv_callS (n := 3) (As := [.int n, .int 0, .int 400]) (rest := [.ref mo]) C (c_M_in hl0 G z n 0 400) cd_M_in ml_M_90 in_M sm_M_in (by decide +kernel) (by decide) rfl (Nat.le_of_ble_eq_true rfl) rfl d_M_line_28 (by decide) hN R0 (fun _ h => h.elim) (fun v9 LP9 f9 h9 => ?_)
      obtain ⟨rfl, rfl, rfl⟩ := h9
      refine pv_st (st2 := [.int (bN (inB n 0 400)), .ref mo]) (c2 := 0) (s2 := 0) rfl rfl rfl ?_
      refine pv_ifb_ne (tgt := 38) C d_M_line_31 (by decide) (fun h3 => ?_) (fun h3 => ?_)
      · refine pv_iconst (v := 0) C d_M_line_38 (by decide) ?_
        refine pm_put C G 0 (by decide) fl_M_83 rfl rfl rfl (by decide) rfl d_M_line_39 ?_
        refine pv_aload_n C d_M_line_42 rfl 0 rfl ?_
        refine pm_get (v := .int 0) C G 0 (by decide) fl_M_83 rfl rfl d_M_line_43 ?_
        refine pv_if_ne (tgt := 83) C d_M_line_46 (by decide) (fun q => absurd q (by decide)) (fun _ => ?_)
        refine pv_aload_n C d_M_line_49 rfl 0 rfl ?_
        refine pv_aload_n C d_M_line_50 rfl 0 rfl ?_
        refine pm_get (v := .ref (ad 6)) C G 6 (by decide) fl_M_20 rfl rfl d_M_line_51 ?_
        refine pv_iload_n C d_M_line_54 rfl 1 rfl ?_
        refine pm_ald C G 6 (by decide) rfl (j := (ix a)) hA.1 (show (ix a) < 17 by omega) d_M_line_55 ?_
        refine pv_top (y := (z 6 (ix a))) (zs_k _ _ (by decide)) ?_
        refine pv_aload_n C d_M_line_56 rfl 0 rfl ?_
        refine pm_get (v := .ref (ad 5)) C G 5 (by decide) fl_M_17 rfl rfl d_M_line_57 ?_
        refine pv_iload_n C d_M_line_60 rfl 1 rfl ?_
        refine pm_ald C G 5 (by decide) rfl (j := (ix a)) hA.1 (show (ix a) < 17 by omega) d_M_line_61 ?_
        refine pv_top (y := (z 5 (ix a))) (zs_k _ _ (by decide)) ?_
        refine pv_icmp_eq (tgt := 75) C d_M_line_62 (by decide) (fun h4 => ?_) (fun h4 => ?_)
        · refine pv_iconst (v := 3) C d_M_line_75 (by decide) ?_
          refine pv_goto (tgt := 80) C d_M_line_76 (by decide) ?_
          refine pm_put C G 0 (by decide) fl_M_83 rfl rfl rfl (by decide) rfl d_M_line_80 ?_
          refine pv_aload_n C d_M_line_83 rfl 0 rfl ?_
          refine pm_get (v := .int 3) C G 0 (by decide) fl_M_83 rfl rfl d_M_line_84 ?_
          refine pv_if_le (tgt := 92) C d_M_line_87 (by decide) (fun q => absurd q (by decide)) (fun _ => ?_)
          refine pv_iconst (v := 0) C d_M_line_90 (by decide) ?_
          exact pv_iret C R0 d_M_line_91 (by decide) (by decide) (mP_i (by unfold m_line; rw [if_pos h1, if_pos h2, if_pos h3, if_pos h4]))
        · refine pv_aload_n C d_M_line_65 rfl 0 rfl ?_
          refine pm_get (v := .ref (ad 7)) C G 7 (by decide) fl_M_23 rfl rfl d_M_line_66 ?_
          refine pv_iload_n C d_M_line_69 rfl 1 rfl ?_
          refine pm_ald C G 7 (by decide) rfl (j := (ix a)) hA.1 (show (ix a) < 17 by omega) d_M_line_70 ?_
          refine pv_top (y := (z 7 (ix a))) (zs_k _ _ (by decide)) ?_
          refine pv_iconst (v := 3) C d_M_line_71 (by decide) ?_
          refine pv_icmp_ne (tgt := 79) C d_M_line_72 (by decide) (fun h5 => ?_) (fun h5 => ?_)
          · refine pv_iconst (v := 0) C d_M_line_79 (by decide) ?_
            refine pm_put C G 0 (by decide) fl_M_83 rfl rfl rfl (by decide) rfl d_M_line_80 ?_
            refine pv_aload_n C d_M_line_83 rfl 0 rfl ?_
            refine pm_get (v := .int 0) C G 0 (by decide) fl_M_83 rfl rfl d_M_line_84 ?_
            refine pv_if_le (tgt := 92) C d_M_line_87 (by decide) (fun _ => ?_) (fun q => absurd q (by decide))
            have ht := hz.2.2.2.1 (ix a) hA.2.2.2
            have hq : zt z (ix a) ≠ ix (z 5 (ix a)) := fun q => h4 (by rw [ht.1, ht.2.2.1, q])
            have hI : 4 * a + z 6 (ix a) = nI (4 * ix a + zt z (ix a)) := ln_ix hA.1 ht.1
            refine pv_iconst (v := 4) C d_M_line_92 (by decide) ?_
            refine pv_iload_n C d_M_line_93 rfl 1 rfl ?_
            refine pv_imul C d_M_line_94 ?_
            refine pv_aload_n C d_M_line_95 rfl 0 rfl ?_
            refine pm_get (v := .ref (ad 6)) C G 6 (by decide) fl_M_20 rfl rfl d_M_line_96 ?_
            refine pv_iload_n C d_M_line_99 rfl 1 rfl ?_
            refine pm_ald C G 6 (by decide) rfl (j := (ix a)) hA.1 (show (ix a) < 17 by omega) d_M_line_100 ?_
            refine pv_top (y := (z 6 (ix a))) ((zs_k _ _ (by decide)).trans (zs_k _ _ (by decide))) ?_
            refine pv_iadd C d_M_line_101 ?_
            refine pv_istore (lv' := [(4, .int ((4 * a) + (z 6 (ix a)))), (0, .ref mo), (1, .int a), (2, .int g), (3, .int n)]) C d_M_line_102 (by decide) rfl ?_
            refine pv_aload_n C d_M_line_104 rfl 1 rfl ?_
            refine pm_get (v := .ref (ad 9)) C G 9 (by decide) fl_M_29 rfl rfl d_M_line_105 ?_
            refine pv_iload C d_M_line_108 0 rfl ?_
            refine pv_iload_n C d_M_line_110 rfl 3 rfl ?_
            refine pm_ast C G 9 (by decide) rfl (j := (4 * ix a + zt z (ix a))) hI (show (4 * ix a + zt z (ix a)) < 68 by omega) d_M_line_111 ?_
            refine pv_aload_n C d_M_line_112 rfl 1 rfl ?_
            refine pm_get (v := .ref (ad 10)) C G 10 (by decide) fl_M_32 rfl rfl d_M_line_113 ?_
            refine pv_iload C d_M_line_116 0 rfl ?_
            refine pv_iload_n C d_M_line_118 rfl 4 rfl ?_
            refine pm_ast C G 10 (by decide) rfl (j := (4 * ix a + zt z (ix a))) hI (show (4 * ix a + zt z (ix a)) < 68 by omega) d_M_line_119 ?_
            refine pv_aload_n C d_M_line_120 rfl 1 rfl ?_
            refine pm_get (v := .ref (ad 6)) C G 6 (by decide) fl_M_20 rfl rfl d_M_line_121 ?_
            refine pv_iload_n C d_M_line_124 rfl 2 rfl ?_
            refine pv_dup2 C d_M_line_125 rfl rfl ?_
            refine pm_ald C G 6 (by decide) rfl (j := (ix a)) hA.1 (show (ix a) < 17 by omega) d_M_line_126 ?_
            refine pv_top (y := (z 6 (ix a))) ((zs_k _ _ (by decide)).trans ((zs_k _ _ (by decide)).trans ((zs_k _ _ (by decide)).trans (zs_k _ _ (by decide))))) ?_
            refine pv_iconst (v := 1) C d_M_line_127 (by decide) ?_
            refine pv_iadd C d_M_line_128 ?_
            refine pm_ast C G 6 (by decide) rfl (j := (ix a)) hA.1 (show (ix a) < 17 by omega) d_M_line_129 ?_
            refine pv_aload_n C d_M_line_130 rfl 1 rfl ?_
            refine pm_get (v := .ref (ad 6)) C G 6 (by decide) fl_M_20 rfl rfl d_M_line_131 ?_
            refine pv_iload_n C d_M_line_134 rfl 2 rfl ?_
            refine pm_ald C G 6 (by decide) rfl (j := (ix a)) hA.1 (show (ix a) < 17 by omega) d_M_line_135 ?_
            refine pv_top (y := ((z 6 (ix a)) + 1)) (zs_eq _ _ _ _) ?_
            refine pv_iconst (v := 1) C d_M_line_136 (by decide) ?_
            refine pv_isub C d_M_line_137 ?_
            exact pv_iret C R0 d_M_line_138 (by decide) (by decide) (mP_i (by unfold m_line; rw [if_pos h1, if_pos h2, if_pos h3, if_neg h4, if_neg h5]))
          · refine pv_iconst (v := 3) C d_M_line_75 (by decide) ?_
            refine pv_goto (tgt := 80) C d_M_line_76 (by decide) ?_
            refine pm_put C G 0 (by decide) fl_M_83 rfl rfl rfl (by decide) rfl d_M_line_80 ?_
            refine pv_aload_n C d_M_line_83 rfl 0 rfl ?_
            refine pm_get (v := .int 3) C G 0 (by decide) fl_M_83 rfl rfl d_M_line_84 ?_
            refine pv_if_le (tgt := 92) C d_M_line_87 (by decide) (fun q => absurd q (by decide)) (fun _ => ?_)
            refine pv_iconst (v := 0) C d_M_line_90 (by decide) ?_
            exact pv_iret C R0 d_M_line_91 (by decide) (by decide) (mP_i (by unfold m_line; rw [if_pos h1, if_pos h2, if_pos h3, if_neg h4, if_pos h5]))
      · refine pv_iconst (v := 2) C d_M_line_34 (by decide) ?_
        refine pv_goto (tgt := 39) C d_M_line_35 (by decide) ?_
        refine pm_put C G 0 (by decide) fl_M_83 rfl rfl rfl (by decide) rfl d_M_line_39 ?_
        refine pv_aload_n C d_M_line_42 rfl 0 rfl ?_
        refine pm_get (v := .int 2) C G 0 (by decide) fl_M_83 rfl rfl d_M_line_43 ?_
        refine pv_if_ne (tgt := 83) C d_M_line_46 (by decide) (fun _ => ?_) (fun q => absurd q (by decide))
        refine pv_aload_n C d_M_line_83 rfl 0 rfl ?_
        refine pm_get (v := .int 2) C G 0 (by decide) fl_M_83 rfl rfl d_M_line_84 ?_
        refine pv_if_le (tgt := 92) C d_M_line_87 (by decide) (fun q => absurd q (by decide)) (fun _ => ?_)
        refine pv_iconst (v := 0) C d_M_line_90 (by decide) ?_
        exact pv_iret C R0 d_M_line_91 (by decide) (by decide) (mP_i (by unfold m_line; rw [if_pos h1, if_pos h2, if_neg (nT h3)]))
  · refine pv_iconst (v := 1) C d_M_line_9 (by decide) ?_
    refine pv_goto (tgt := 39) C d_M_line_10 (by decide) ?_
    refine pm_put C G 0 (by decide) fl_M_83 rfl rfl rfl (by decide) rfl d_M_line_39 ?_
    refine pv_aload_n C d_M_line_42 rfl 0 rfl ?_
    refine pm_get (v := .int 1) C G 0 (by decide) fl_M_83 rfl rfl d_M_line_43 ?_
    refine pv_if_ne (tgt := 83) C d_M_line_46 (by decide) (fun _ => ?_) (fun q => absurd q (by decide))
    refine pv_aload_n C d_M_line_83 rfl 0 rfl ?_
    refine pm_get (v := .int 1) C G 0 (by decide) fl_M_83 rfl rfl d_M_line_84 ?_
    refine pv_if_le (tgt := 92) C d_M_line_87 (by decide) (fun q => absurd q (by decide)) (fun _ => ?_)
    refine pv_iconst (v := 0) C d_M_line_90 (by decide) ?_
    exact pv_iret C R0 d_M_line_91 (by decide) (by decide) (mP_i (by unfold m_line; rw [if_neg (nT h1)]))
abbrev rm_M_accept : Room := { frames := 2, cells := 0, slots := 0, locals := 43 }
def m_accept (z : zT) (a : Int32) (p : Int32) : zT :=
  (if (isA z a) = true then (if (isP p) = true then (if (z 7 (ix a)) = 2 then (if (z 2 (ix p)) = 0 then (zs (zs z 0 0 0) 0 0 3) else (zs (zs (zs z 0 0 0) 0 0 0) 7 (ix a) 1)) else (zs (zs z 0 0 0) 0 0 3)) else (zs z 0 0 2)) else (zs z 0 0 1))
set_option maxRecDepth 100000 in
set_option maxHeartbeats 4000000 in
theorem c_M_accept {l0 : Launch} {D : va_G} {γ : Nat → ClassId} (hl0 : l0.stackTraces = false) {LP : List Nat} {f0 : Nat → va_E} {mo : Nat} {ad : Nat → Nat} (G : mm_H mo ad LP) (z : zT) (a : Int32) (p : Int32) (hz : zI z) : mM l0 D γ y_M_accept (Cond.code y_M_accept b_M_accept 3 (Option.none : Option FieldType)) rm_M_accept [.ref mo, .int a, .int p] LP f0 mo ad z none (m_accept z a p) := by
  refine pv_mk hl0 (by decide) (Nat.le_of_ble_eq_true rfl) (fun κ C R0 hN _ => ?_)
  show pv_V D κ 0 0 LP (mm_f γ f0 mo ad z) 0 [(0, .ref mo), (1, .int a), (2, .int p)] []
  refine pv_aload_n C d_M_accept_0 rfl 0 rfl ?_
  refine pv_aload_n C d_M_accept_1 rfl 0 rfl ?_
  refine pv_iload_n C d_M_accept_2 rfl 1 rfl ?_
  refine pv_callV (n := 1) (As := [.int a]) (rest := [.ref mo]) C (c_M_isAnnouncement hl0 G z a) cd_M_isAnnouncement ml_M_94 in_M im_M_isAnnouncement se_M_isAnnouncement G.1 mm_obj rfl rfl (by decide +kernel) (by decide) rfl (Nat.le_of_ble_eq_true rfl) rfl d_M_accept_3 (by decide) hN R0 (fun _ h => h.elim) (fun v9 LP9 f9 h9 => ?_)
  obtain ⟨rfl, rfl, rfl⟩ := h9
  refine pv_st (st2 := [.int (bN (isA z a)), .ref mo]) (c2 := 0) (s2 := 0) rfl rfl rfl ?_
  refine pv_ifb_ne (tgt := 13) C d_M_accept_6 (by decide) (fun h1 => ?_) (fun h1 => ?_)
  · have hA := isA_ix hz h1
    refine pv_iload_n C d_M_accept_13 rfl 2 rfl ?_
    refine pv_callS (n := 1) (As := [.int p]) (rest := [.ref mo]) C (c_M_isPerson hl0 G z p) cd_M_isPerson ml_M_104 in_M sm_M_isPerson (by decide +kernel) (by decide) rfl (Nat.le_of_ble_eq_true rfl) rfl d_M_accept_14 (by decide) hN R0 (fun _ h => h.elim) (fun v9 LP9 f9 h9 => ?_)
    obtain ⟨rfl, rfl, rfl⟩ := h9
    refine pv_st (st2 := [.int (bN (isP p)), .ref mo]) (c2 := 0) (s2 := 0) rfl rfl rfl ?_
    refine pv_ifb_ne (tgt := 24) C d_M_accept_17 (by decide) (fun h2 => ?_) (fun h2 => ?_)
    · have hP := isP_ix h2
      refine pv_iconst (v := 0) C d_M_accept_24 (by decide) ?_
      refine pm_put C G 0 (by decide) fl_M_83 rfl rfl rfl (by decide) rfl d_M_accept_25 ?_
      refine pv_aload_n C d_M_accept_28 rfl 0 rfl ?_
      refine pm_get (v := .int 0) C G 0 (by decide) fl_M_83 rfl rfl d_M_accept_29 ?_
      refine pv_if_ne (tgt := 63) C d_M_accept_32 (by decide) (fun q => absurd q (by decide)) (fun _ => ?_)
      refine pv_aload_n C d_M_accept_35 rfl 0 rfl ?_
      refine pv_aload_n C d_M_accept_36 rfl 0 rfl ?_
      refine pm_get (v := .ref (ad 7)) C G 7 (by decide) fl_M_23 rfl rfl d_M_accept_37 ?_
      refine pv_iload_n C d_M_accept_40 rfl 1 rfl ?_
      refine pm_ald C G 7 (by decide) rfl (j := (ix a)) hA.1 (show (ix a) < 17 by omega) d_M_accept_41 ?_
      refine pv_top (y := (z 7 (ix a))) (zs_k _ _ (by decide)) ?_
      refine pv_iconst (v := 2) C d_M_accept_42 (by decide) ?_
      refine pv_icmp_ne (tgt := 55) C d_M_accept_43 (by decide) (fun h3 => ?_) (fun h3 => ?_)
      · refine pv_iconst (v := 3) C d_M_accept_55 (by decide) ?_
        refine pv_goto (tgt := 60) C d_M_accept_56 (by decide) ?_
        refine pm_put C G 0 (by decide) fl_M_83 rfl rfl rfl (by decide) rfl d_M_accept_60 ?_
        refine pv_aload_n C d_M_accept_63 rfl 0 rfl ?_
        refine pm_get (v := .int 3) C G 0 (by decide) fl_M_83 rfl rfl d_M_accept_64 ?_
        refine pv_if_ne (tgt := 77) C d_M_accept_67 (by decide) (fun _ => ?_) (fun q => absurd q (by decide))
        exact pv_vret C R0 d_M_accept_77 (by decide) (by decide) (mP_v (by unfold m_accept; rw [if_pos h1, if_pos h2, if_neg h3]))
      · refine pv_aload_n C d_M_accept_46 rfl 0 rfl ?_
        refine pm_get (v := .ref (ad 2)) C G 2 (by decide) fl_M_7 rfl rfl d_M_accept_47 ?_
        refine pv_iload_n C d_M_accept_50 rfl 2 rfl ?_
        refine pm_zld C G 2 (by decide) rfl (j := (ix p)) hP.1 (show (ix p) < 8 by omega) d_M_accept_51 ?_
        refine pv_top (y := (z 2 (ix p))) (zs_k _ _ (by decide)) ?_
        refine pv_if_ne (tgt := 59) C d_M_accept_52 (by decide) (fun h4 => ?_) (fun h4 => ?_)
        · refine pv_iconst (v := 0) C d_M_accept_59 (by decide) ?_
          refine pm_put C G 0 (by decide) fl_M_83 rfl rfl rfl (by decide) rfl d_M_accept_60 ?_
          refine pv_aload_n C d_M_accept_63 rfl 0 rfl ?_
          refine pm_get (v := .int 0) C G 0 (by decide) fl_M_83 rfl rfl d_M_accept_64 ?_
          refine pv_if_ne (tgt := 77) C d_M_accept_67 (by decide) (fun q => absurd q (by decide)) (fun _ => ?_)
          refine pv_aload_n C d_M_accept_70 rfl 0 rfl ?_
          refine pm_get (v := .ref (ad 7)) C G 7 (by decide) fl_M_23 rfl rfl d_M_accept_71 ?_
          refine pv_iload_n C d_M_accept_74 rfl 1 rfl ?_
          refine pv_iconst (v := 1) C d_M_accept_75 (by decide) ?_
          refine pm_ast C G 7 (by decide) rfl (j := (ix a)) hA.1 (show (ix a) < 17 by omega) d_M_accept_76 ?_
          exact pv_vret C R0 d_M_accept_77 (by decide) (by decide) (mP_v (by unfold m_accept; rw [if_pos h1, if_pos h2, if_pos h3, if_neg h4]))
        · refine pv_iconst (v := 3) C d_M_accept_55 (by decide) ?_
          refine pv_goto (tgt := 60) C d_M_accept_56 (by decide) ?_
          refine pm_put C G 0 (by decide) fl_M_83 rfl rfl rfl (by decide) rfl d_M_accept_60 ?_
          refine pv_aload_n C d_M_accept_63 rfl 0 rfl ?_
          refine pm_get (v := .int 3) C G 0 (by decide) fl_M_83 rfl rfl d_M_accept_64 ?_
          refine pv_if_ne (tgt := 77) C d_M_accept_67 (by decide) (fun _ => ?_) (fun q => absurd q (by decide))
          exact pv_vret C R0 d_M_accept_77 (by decide) (by decide) (mP_v (by unfold m_accept; rw [if_pos h1, if_pos h2, if_pos h3, if_pos h4]))
    · refine pv_iconst (v := 2) C d_M_accept_20 (by decide) ?_
      refine pv_goto (tgt := 25) C d_M_accept_21 (by decide) ?_
      refine pm_put C G 0 (by decide) fl_M_83 rfl rfl rfl (by decide) rfl d_M_accept_25 ?_
      refine pv_aload_n C d_M_accept_28 rfl 0 rfl ?_
      refine pm_get (v := .int 2) C G 0 (by decide) fl_M_83 rfl rfl d_M_accept_29 ?_
      refine pv_if_ne (tgt := 63) C d_M_accept_32 (by decide) (fun _ => ?_) (fun q => absurd q (by decide))
      refine pv_aload_n C d_M_accept_63 rfl 0 rfl ?_
      refine pm_get (v := .int 2) C G 0 (by decide) fl_M_83 rfl rfl d_M_accept_64 ?_
      refine pv_if_ne (tgt := 77) C d_M_accept_67 (by decide) (fun _ => ?_) (fun q => absurd q (by decide))
      exact pv_vret C R0 d_M_accept_77 (by decide) (by decide) (mP_v (by unfold m_accept; rw [if_pos h1, if_neg (nT h2)]))
  · refine pv_iconst (v := 1) C d_M_accept_9 (by decide) ?_
    refine pv_goto (tgt := 25) C d_M_accept_10 (by decide) ?_
    refine pm_put C G 0 (by decide) fl_M_83 rfl rfl rfl (by decide) rfl d_M_accept_25 ?_
    refine pv_aload_n C d_M_accept_28 rfl 0 rfl ?_
    refine pm_get (v := .int 1) C G 0 (by decide) fl_M_83 rfl rfl d_M_accept_29 ?_
    refine pv_if_ne (tgt := 63) C d_M_accept_32 (by decide) (fun _ => ?_) (fun q => absurd q (by decide))
    refine pv_aload_n C d_M_accept_63 rfl 0 rfl ?_
    refine pm_get (v := .int 1) C G 0 (by decide) fl_M_83 rfl rfl d_M_accept_64 ?_
    refine pv_if_ne (tgt := 77) C d_M_accept_67 (by decide) (fun _ => ?_) (fun q => absurd q (by decide))
    exact pv_vret C R0 d_M_accept_77 (by decide) (by decide) (mP_v (by unfold m_accept; rw [if_neg (nT h1)]))
abbrev rm_M_right : Room := { frames := 2, cells := 0, slots := 0, locals := 42 }
def m_right (z : zT) (p : Int32) (b : Bool) : zT :=
  (if (isP p) = true then (zs (zs z 0 0 0) 2 (ix p) (bN b)) else (zs z 0 0 1))
set_option maxRecDepth 100000 in
set_option maxHeartbeats 4000000 in
theorem c_M_right {l0 : Launch} {D : va_G} {γ : Nat → ClassId} (hl0 : l0.stackTraces = false) {LP : List Nat} {f0 : Nat → va_E} {mo : Nat} {ad : Nat → Nat} (G : mm_H mo ad LP) (z : zT) (p : Int32) (b : Bool)  : mM l0 D γ y_M_right (Cond.code y_M_right b_M_right 3 (Option.none : Option FieldType)) rm_M_right [.ref mo, .int p, .int (bN b)] LP f0 mo ad z none (m_right z p b) := by
  refine pv_mk hl0 (by decide) (Nat.le_of_ble_eq_true rfl) (fun κ C R0 hN _ => ?_)
  show pv_V D κ 0 0 LP (mm_f γ f0 mo ad z) 0 [(0, .ref mo), (1, .int p), (2, .int (bN b))] []
  refine pv_aload_n C d_M_right_0 rfl 0 rfl ?_
  refine pv_iload_n C d_M_right_1 rfl 1 rfl ?_
  refine pv_callS (n := 1) (As := [.int p]) (rest := [.ref mo]) C (c_M_isPerson hl0 G z p) cd_M_isPerson ml_M_104 in_M sm_M_isPerson (by decide +kernel) (by decide) rfl (Nat.le_of_ble_eq_true rfl) rfl d_M_right_2 (by decide) hN R0 (fun _ h => h.elim) (fun v9 LP9 f9 h9 => ?_)
  obtain ⟨rfl, rfl, rfl⟩ := h9
  refine pv_st (st2 := [.int (bN (isP p)), .ref mo]) (c2 := 0) (s2 := 0) rfl rfl rfl ?_
  refine pv_ifb_eq (tgt := 12) C d_M_right_5 (by decide) (fun h1 => ?_) (fun h1 => ?_)
  · refine pv_iconst (v := 1) C d_M_right_12 (by decide) ?_
    refine pm_put C G 0 (by decide) fl_M_83 rfl rfl rfl (by decide) rfl d_M_right_13 ?_
    refine pv_aload_n C d_M_right_16 rfl 0 rfl ?_
    refine pm_get (v := .int 1) C G 0 (by decide) fl_M_83 rfl rfl d_M_right_17 ?_
    refine pv_if_ne (tgt := 30) C d_M_right_20 (by decide) (fun _ => ?_) (fun q => absurd q (by decide))
    exact pv_vret C R0 d_M_right_30 (by decide) (by decide) (mP_v (by unfold m_right; rw [if_neg (nT h1)]))
  · have hP := isP_ix h1
    refine pv_iconst (v := 0) C d_M_right_8 (by decide) ?_
    refine pv_goto (tgt := 13) C d_M_right_9 (by decide) ?_
    refine pm_put C G 0 (by decide) fl_M_83 rfl rfl rfl (by decide) rfl d_M_right_13 ?_
    refine pv_aload_n C d_M_right_16 rfl 0 rfl ?_
    refine pm_get (v := .int 0) C G 0 (by decide) fl_M_83 rfl rfl d_M_right_17 ?_
    refine pv_if_ne (tgt := 30) C d_M_right_20 (by decide) (fun q => absurd q (by decide)) (fun _ => ?_)
    refine pv_aload_n C d_M_right_23 rfl 0 rfl ?_
    refine pm_get (v := .ref (ad 2)) C G 2 (by decide) fl_M_7 rfl rfl d_M_right_24 ?_
    refine pv_iload_n C d_M_right_27 rfl 1 rfl ?_
    refine pv_iload_n C d_M_right_28 rfl 2 rfl ?_
    refine pm_zst C G 2 (by decide) rfl (j := (ix p)) hP.1 (show (ix p) < 8 by omega) (bN_nar _) d_M_right_29 ?_
    exact pv_vret C R0 d_M_right_30 (by decide) (by decide) (mP_v (by unfold m_right; rw [if_pos h1]))
abbrev rm_M_tolerance : Room := { frames := 3, cells := 0, slots := 0, locals := 65 }
def m_tolerance (z : zT) (a : Int32) (n : Int32) (x : Int32) : zT :=
  (if (isL z a n) = true then (if (inB x 0 50) = true then (if (z 16 (4 * ix a + ix n)) = 0 then (zs (zs (zs z 0 0 0) 0 0 0) 11 (4 * ix a + ix n) x) else (zs (zs z 0 0 0) 0 0 3)) else (zs z 0 0 2)) else (zs z 0 0 1))
set_option maxRecDepth 100000 in
set_option maxHeartbeats 4000000 in
theorem c_M_tolerance {l0 : Launch} {D : va_G} {γ : Nat → ClassId} (hl0 : l0.stackTraces = false) {LP : List Nat} {f0 : Nat → va_E} {mo : Nat} {ad : Nat → Nat} (G : mm_H mo ad LP) (z : zT) (a : Int32) (n : Int32) (x : Int32) (hz : zI z) : mM l0 D γ y_M_tolerance (Cond.code y_M_tolerance b_M_tolerance 4 (Option.none : Option FieldType)) rm_M_tolerance [.ref mo, .int a, .int n, .int x] LP f0 mo ad z none (m_tolerance z a n x) := by
  refine pv_mk hl0 (by decide) (Nat.le_of_ble_eq_true rfl) (fun κ C R0 hN _ => ?_)
  show pv_V D κ 0 0 LP (mm_f γ f0 mo ad z) 0 [(0, .ref mo), (1, .int a), (2, .int n), (3, .int x)] []
  refine pv_aload_n C d_M_tolerance_0 rfl 0 rfl ?_
  refine pv_aload_n C d_M_tolerance_1 rfl 0 rfl ?_
  refine pv_iload_n C d_M_tolerance_2 rfl 1 rfl ?_
  refine pv_iload_n C d_M_tolerance_3 rfl 2 rfl ?_
  refine pv_callV (n := 2) (As := [.int a, .int n]) (rest := [.ref mo]) C (c_M_isLine hl0 G z a n hz) cd_M_isLine ml_M_107 in_M im_M_isLine se_M_isLine G.1 mm_obj rfl rfl (by decide +kernel) (by decide) rfl (Nat.le_of_ble_eq_true rfl) rfl d_M_tolerance_4 (by decide) hN R0 (fun _ h => h.elim) (fun v9 LP9 f9 h9 => ?_)
  obtain ⟨rfl, rfl, rfl⟩ := h9
  refine pv_st (st2 := [.int (bN (isL z a n)), .ref mo]) (c2 := 0) (s2 := 0) rfl rfl rfl ?_
  refine pv_ifb_ne (tgt := 14) C d_M_tolerance_7 (by decide) (fun h1 => ?_) (fun h1 => ?_)
  · have hL := isL_ix hz h1
    refine pv_iload_n C d_M_tolerance_14 rfl 3 rfl ?_
    refine pv_iconst (v := 0) C d_M_tolerance_15 (by decide) ?_
    refine pv_bipush (v := 50) C d_M_tolerance_16 (by decide) ?_
    refine pv_callS (n := 3) (As := [.int x, .int 0, .int 50]) (rest := [.ref mo]) C (c_M_in hl0 G z x 0 50) cd_M_in ml_M_90 in_M sm_M_in (by decide +kernel) (by decide) rfl (Nat.le_of_ble_eq_true rfl) rfl d_M_tolerance_18 (by decide) hN R0 (fun _ h => h.elim) (fun v9 LP9 f9 h9 => ?_)
    obtain ⟨rfl, rfl, rfl⟩ := h9
    refine pv_st (st2 := [.int (bN (inB x 0 50)), .ref mo]) (c2 := 0) (s2 := 0) rfl rfl rfl ?_
    refine pv_ifb_ne (tgt := 28) C d_M_tolerance_21 (by decide) (fun h2 => ?_) (fun h2 => ?_)
    · refine pv_iconst (v := 0) C d_M_tolerance_28 (by decide) ?_
      refine pm_put C G 0 (by decide) fl_M_83 rfl rfl rfl (by decide) rfl d_M_tolerance_29 ?_
      refine pv_aload_n C d_M_tolerance_32 rfl 0 rfl ?_
      refine pm_get (v := .int 0) C G 0 (by decide) fl_M_83 rfl rfl d_M_tolerance_33 ?_
      refine pv_if_ne (tgt := 61) C d_M_tolerance_36 (by decide) (fun q => absurd q (by decide)) (fun _ => ?_)
      refine pv_aload_n C d_M_tolerance_39 rfl 0 rfl ?_
      refine pv_aload_n C d_M_tolerance_40 rfl 0 rfl ?_
      refine pm_get (v := .ref (ad 16)) C G 16 (by decide) fl_M_50 rfl rfl d_M_tolerance_41 ?_
      refine pv_iconst (v := 4) C d_M_tolerance_44 (by decide) ?_
      refine pv_iload_n C d_M_tolerance_45 rfl 1 rfl ?_
      refine pv_imul C d_M_tolerance_46 ?_
      refine pv_iload_n C d_M_tolerance_47 rfl 2 rfl ?_
      refine pv_iadd C d_M_tolerance_48 ?_
      refine pm_zld C G 16 (by decide) rfl (j := (4 * ix a + ix n)) (ln_ix hL.1.1 hL.2.1) (show (4 * ix a + ix n) < 68 by omega) d_M_tolerance_49 ?_
      refine pv_top (y := (z 16 (4 * ix a + ix n))) (zs_k _ _ (by decide)) ?_
      refine pv_if_eq (tgt := 57) C d_M_tolerance_50 (by decide) (fun h3 => ?_) (fun h3 => ?_)
      · refine pv_iconst (v := 0) C d_M_tolerance_57 (by decide) ?_
        refine pm_put C G 0 (by decide) fl_M_83 rfl rfl rfl (by decide) rfl d_M_tolerance_58 ?_
        refine pv_aload_n C d_M_tolerance_61 rfl 0 rfl ?_
        refine pm_get (v := .int 0) C G 0 (by decide) fl_M_83 rfl rfl d_M_tolerance_62 ?_
        refine pv_if_ne (tgt := 79) C d_M_tolerance_65 (by decide) (fun q => absurd q (by decide)) (fun _ => ?_)
        refine pv_aload_n C d_M_tolerance_68 rfl 0 rfl ?_
        refine pm_get (v := .ref (ad 11)) C G 11 (by decide) fl_M_35 rfl rfl d_M_tolerance_69 ?_
        refine pv_iconst (v := 4) C d_M_tolerance_72 (by decide) ?_
        refine pv_iload_n C d_M_tolerance_73 rfl 1 rfl ?_
        refine pv_imul C d_M_tolerance_74 ?_
        refine pv_iload_n C d_M_tolerance_75 rfl 2 rfl ?_
        refine pv_iadd C d_M_tolerance_76 ?_
        refine pv_iload_n C d_M_tolerance_77 rfl 3 rfl ?_
        refine pm_ast C G 11 (by decide) rfl (j := (4 * ix a + ix n)) (ln_ix hL.1.1 hL.2.1) (show (4 * ix a + ix n) < 68 by omega) d_M_tolerance_78 ?_
        exact pv_vret C R0 d_M_tolerance_79 (by decide) (by decide) (mP_v (by unfold m_tolerance; rw [if_pos h1, if_pos h2, if_pos h3]))
      · refine pv_iconst (v := 3) C d_M_tolerance_53 (by decide) ?_
        refine pv_goto (tgt := 58) C d_M_tolerance_54 (by decide) ?_
        refine pm_put C G 0 (by decide) fl_M_83 rfl rfl rfl (by decide) rfl d_M_tolerance_58 ?_
        refine pv_aload_n C d_M_tolerance_61 rfl 0 rfl ?_
        refine pm_get (v := .int 3) C G 0 (by decide) fl_M_83 rfl rfl d_M_tolerance_62 ?_
        refine pv_if_ne (tgt := 79) C d_M_tolerance_65 (by decide) (fun _ => ?_) (fun q => absurd q (by decide))
        exact pv_vret C R0 d_M_tolerance_79 (by decide) (by decide) (mP_v (by unfold m_tolerance; rw [if_pos h1, if_pos h2, if_neg h3]))
    · refine pv_iconst (v := 2) C d_M_tolerance_24 (by decide) ?_
      refine pv_goto (tgt := 29) C d_M_tolerance_25 (by decide) ?_
      refine pm_put C G 0 (by decide) fl_M_83 rfl rfl rfl (by decide) rfl d_M_tolerance_29 ?_
      refine pv_aload_n C d_M_tolerance_32 rfl 0 rfl ?_
      refine pm_get (v := .int 2) C G 0 (by decide) fl_M_83 rfl rfl d_M_tolerance_33 ?_
      refine pv_if_ne (tgt := 61) C d_M_tolerance_36 (by decide) (fun _ => ?_) (fun q => absurd q (by decide))
      refine pv_aload_n C d_M_tolerance_61 rfl 0 rfl ?_
      refine pm_get (v := .int 2) C G 0 (by decide) fl_M_83 rfl rfl d_M_tolerance_62 ?_
      refine pv_if_ne (tgt := 79) C d_M_tolerance_65 (by decide) (fun _ => ?_) (fun q => absurd q (by decide))
      exact pv_vret C R0 d_M_tolerance_79 (by decide) (by decide) (mP_v (by unfold m_tolerance; rw [if_pos h1, if_neg (nT h2)]))
  · refine pv_iconst (v := 1) C d_M_tolerance_10 (by decide) ?_
    refine pv_goto (tgt := 29) C d_M_tolerance_11 (by decide) ?_
    refine pm_put C G 0 (by decide) fl_M_83 rfl rfl rfl (by decide) rfl d_M_tolerance_29 ?_
    refine pv_aload_n C d_M_tolerance_32 rfl 0 rfl ?_
    refine pm_get (v := .int 1) C G 0 (by decide) fl_M_83 rfl rfl d_M_tolerance_33 ?_
    refine pv_if_ne (tgt := 61) C d_M_tolerance_36 (by decide) (fun _ => ?_) (fun q => absurd q (by decide))
    refine pv_aload_n C d_M_tolerance_61 rfl 0 rfl ?_
    refine pm_get (v := .int 1) C G 0 (by decide) fl_M_83 rfl rfl d_M_tolerance_62 ?_
    refine pv_if_ne (tgt := 79) C d_M_tolerance_65 (by decide) (fun _ => ?_) (fun q => absurd q (by decide))
    exact pv_vret C R0 d_M_tolerance_79 (by decide) (by decide) (mP_v (by unfold m_tolerance; rw [if_neg (nT h1)]))
abbrev rm_M_wanted : Room := { frames := 3, cells := 0, slots := 0, locals := 65 }
def m_wanted (z : zT) (a : Int32) (n : Int32) (x : Int32) : zT :=
  (if (isL z a n) = true then (if (inB x 0 5) = true then (if (z 16 (4 * ix a + ix n)) = 0 then (zs (zs (zs z 0 0 0) 0 0 0) 13 (4 * ix a + ix n) x) else (zs (zs z 0 0 0) 0 0 3)) else (zs z 0 0 2)) else (zs z 0 0 1))
set_option maxRecDepth 100000 in
set_option maxHeartbeats 4000000 in
theorem c_M_wanted {l0 : Launch} {D : va_G} {γ : Nat → ClassId} (hl0 : l0.stackTraces = false) {LP : List Nat} {f0 : Nat → va_E} {mo : Nat} {ad : Nat → Nat} (G : mm_H mo ad LP) (z : zT) (a : Int32) (n : Int32) (x : Int32) (hz : zI z) : mM l0 D γ y_M_wanted (Cond.code y_M_wanted b_M_wanted 4 (Option.none : Option FieldType)) rm_M_wanted [.ref mo, .int a, .int n, .int x] LP f0 mo ad z none (m_wanted z a n x) := by
  refine pv_mk hl0 (by decide) (Nat.le_of_ble_eq_true rfl) (fun κ C R0 hN _ => ?_)
  show pv_V D κ 0 0 LP (mm_f γ f0 mo ad z) 0 [(0, .ref mo), (1, .int a), (2, .int n), (3, .int x)] []
  refine pv_aload_n C d_M_wanted_0 rfl 0 rfl ?_
  refine pv_aload_n C d_M_wanted_1 rfl 0 rfl ?_
  refine pv_iload_n C d_M_wanted_2 rfl 1 rfl ?_
  refine pv_iload_n C d_M_wanted_3 rfl 2 rfl ?_
  refine pv_callV (n := 2) (As := [.int a, .int n]) (rest := [.ref mo]) C (c_M_isLine hl0 G z a n hz) cd_M_isLine ml_M_107 in_M im_M_isLine se_M_isLine G.1 mm_obj rfl rfl (by decide +kernel) (by decide) rfl (Nat.le_of_ble_eq_true rfl) rfl d_M_wanted_4 (by decide) hN R0 (fun _ h => h.elim) (fun v9 LP9 f9 h9 => ?_)
  obtain ⟨rfl, rfl, rfl⟩ := h9
  refine pv_st (st2 := [.int (bN (isL z a n)), .ref mo]) (c2 := 0) (s2 := 0) rfl rfl rfl ?_
  refine pv_ifb_ne (tgt := 14) C d_M_wanted_7 (by decide) (fun h1 => ?_) (fun h1 => ?_)
  · have hL := isL_ix hz h1
    refine pv_iload_n C d_M_wanted_14 rfl 3 rfl ?_
    refine pv_iconst (v := 0) C d_M_wanted_15 (by decide) ?_
    refine pv_iconst (v := 5) C d_M_wanted_16 (by decide) ?_
    refine pv_callS (n := 3) (As := [.int x, .int 0, .int 5]) (rest := [.ref mo]) C (c_M_in hl0 G z x 0 5) cd_M_in ml_M_90 in_M sm_M_in (by decide +kernel) (by decide) rfl (Nat.le_of_ble_eq_true rfl) rfl d_M_wanted_17 (by decide) hN R0 (fun _ h => h.elim) (fun v9 LP9 f9 h9 => ?_)
    obtain ⟨rfl, rfl, rfl⟩ := h9
    refine pv_st (st2 := [.int (bN (inB x 0 5)), .ref mo]) (c2 := 0) (s2 := 0) rfl rfl rfl ?_
    refine pv_ifb_ne (tgt := 27) C d_M_wanted_20 (by decide) (fun h2 => ?_) (fun h2 => ?_)
    · refine pv_iconst (v := 0) C d_M_wanted_27 (by decide) ?_
      refine pm_put C G 0 (by decide) fl_M_83 rfl rfl rfl (by decide) rfl d_M_wanted_28 ?_
      refine pv_aload_n C d_M_wanted_31 rfl 0 rfl ?_
      refine pm_get (v := .int 0) C G 0 (by decide) fl_M_83 rfl rfl d_M_wanted_32 ?_
      refine pv_if_ne (tgt := 60) C d_M_wanted_35 (by decide) (fun q => absurd q (by decide)) (fun _ => ?_)
      refine pv_aload_n C d_M_wanted_38 rfl 0 rfl ?_
      refine pv_aload_n C d_M_wanted_39 rfl 0 rfl ?_
      refine pm_get (v := .ref (ad 16)) C G 16 (by decide) fl_M_50 rfl rfl d_M_wanted_40 ?_
      refine pv_iconst (v := 4) C d_M_wanted_43 (by decide) ?_
      refine pv_iload_n C d_M_wanted_44 rfl 1 rfl ?_
      refine pv_imul C d_M_wanted_45 ?_
      refine pv_iload_n C d_M_wanted_46 rfl 2 rfl ?_
      refine pv_iadd C d_M_wanted_47 ?_
      refine pm_zld C G 16 (by decide) rfl (j := (4 * ix a + ix n)) (ln_ix hL.1.1 hL.2.1) (show (4 * ix a + ix n) < 68 by omega) d_M_wanted_48 ?_
      refine pv_top (y := (z 16 (4 * ix a + ix n))) (zs_k _ _ (by decide)) ?_
      refine pv_if_eq (tgt := 56) C d_M_wanted_49 (by decide) (fun h3 => ?_) (fun h3 => ?_)
      · refine pv_iconst (v := 0) C d_M_wanted_56 (by decide) ?_
        refine pm_put C G 0 (by decide) fl_M_83 rfl rfl rfl (by decide) rfl d_M_wanted_57 ?_
        refine pv_aload_n C d_M_wanted_60 rfl 0 rfl ?_
        refine pm_get (v := .int 0) C G 0 (by decide) fl_M_83 rfl rfl d_M_wanted_61 ?_
        refine pv_if_ne (tgt := 78) C d_M_wanted_64 (by decide) (fun q => absurd q (by decide)) (fun _ => ?_)
        refine pv_aload_n C d_M_wanted_67 rfl 0 rfl ?_
        refine pm_get (v := .ref (ad 13)) C G 13 (by decide) fl_M_41 rfl rfl d_M_wanted_68 ?_
        refine pv_iconst (v := 4) C d_M_wanted_71 (by decide) ?_
        refine pv_iload_n C d_M_wanted_72 rfl 1 rfl ?_
        refine pv_imul C d_M_wanted_73 ?_
        refine pv_iload_n C d_M_wanted_74 rfl 2 rfl ?_
        refine pv_iadd C d_M_wanted_75 ?_
        refine pv_iload_n C d_M_wanted_76 rfl 3 rfl ?_
        refine pm_ast C G 13 (by decide) rfl (j := (4 * ix a + ix n)) (ln_ix hL.1.1 hL.2.1) (show (4 * ix a + ix n) < 68 by omega) d_M_wanted_77 ?_
        exact pv_vret C R0 d_M_wanted_78 (by decide) (by decide) (mP_v (by unfold m_wanted; rw [if_pos h1, if_pos h2, if_pos h3]))
      · refine pv_iconst (v := 3) C d_M_wanted_52 (by decide) ?_
        refine pv_goto (tgt := 57) C d_M_wanted_53 (by decide) ?_
        refine pm_put C G 0 (by decide) fl_M_83 rfl rfl rfl (by decide) rfl d_M_wanted_57 ?_
        refine pv_aload_n C d_M_wanted_60 rfl 0 rfl ?_
        refine pm_get (v := .int 3) C G 0 (by decide) fl_M_83 rfl rfl d_M_wanted_61 ?_
        refine pv_if_ne (tgt := 78) C d_M_wanted_64 (by decide) (fun _ => ?_) (fun q => absurd q (by decide))
        exact pv_vret C R0 d_M_wanted_78 (by decide) (by decide) (mP_v (by unfold m_wanted; rw [if_pos h1, if_pos h2, if_neg h3]))
    · refine pv_iconst (v := 2) C d_M_wanted_23 (by decide) ?_
      refine pv_goto (tgt := 28) C d_M_wanted_24 (by decide) ?_
      refine pm_put C G 0 (by decide) fl_M_83 rfl rfl rfl (by decide) rfl d_M_wanted_28 ?_
      refine pv_aload_n C d_M_wanted_31 rfl 0 rfl ?_
      refine pm_get (v := .int 2) C G 0 (by decide) fl_M_83 rfl rfl d_M_wanted_32 ?_
      refine pv_if_ne (tgt := 60) C d_M_wanted_35 (by decide) (fun _ => ?_) (fun q => absurd q (by decide))
      refine pv_aload_n C d_M_wanted_60 rfl 0 rfl ?_
      refine pm_get (v := .int 2) C G 0 (by decide) fl_M_83 rfl rfl d_M_wanted_61 ?_
      refine pv_if_ne (tgt := 78) C d_M_wanted_64 (by decide) (fun _ => ?_) (fun q => absurd q (by decide))
      exact pv_vret C R0 d_M_wanted_78 (by decide) (by decide) (mP_v (by unfold m_wanted; rw [if_pos h1, if_neg (nT h2)]))
  · refine pv_iconst (v := 1) C d_M_wanted_10 (by decide) ?_
    refine pv_goto (tgt := 28) C d_M_wanted_11 (by decide) ?_
    refine pm_put C G 0 (by decide) fl_M_83 rfl rfl rfl (by decide) rfl d_M_wanted_28 ?_
    refine pv_aload_n C d_M_wanted_31 rfl 0 rfl ?_
    refine pm_get (v := .int 1) C G 0 (by decide) fl_M_83 rfl rfl d_M_wanted_32 ?_
    refine pv_if_ne (tgt := 60) C d_M_wanted_35 (by decide) (fun _ => ?_) (fun q => absurd q (by decide))
    refine pv_aload_n C d_M_wanted_60 rfl 0 rfl ?_
    refine pm_get (v := .int 1) C G 0 (by decide) fl_M_83 rfl rfl d_M_wanted_61 ?_
    refine pv_if_ne (tgt := 78) C d_M_wanted_64 (by decide) (fun _ => ?_) (fun q => absurd q (by decide))
    exact pv_vret C R0 d_M_wanted_78 (by decide) (by decide) (mP_v (by unfold m_wanted; rw [if_neg (nT h1)]))
abbrev rm_M_day : Room := { frames := 1, cells := 0, slots := 0, locals := 22 }
def m_day (z : zT) (x : Int32) : zT :=
  (if (inB x 0 10000) = true then (if (z 1 0) ≤ x then (zs (zs z 0 0 0) 1 0 x) else (zs z 0 0 2)) else (zs z 0 0 1))
set_option maxRecDepth 100000 in
set_option maxHeartbeats 4000000 in
theorem c_M_day {l0 : Launch} {D : va_G} {γ : Nat → ClassId} (hl0 : l0.stackTraces = false) {LP : List Nat} {f0 : Nat → va_E} {mo : Nat} {ad : Nat → Nat} (G : mm_H mo ad LP) (z : zT) (x : Int32)  : mM l0 D γ y_M_day (Cond.code y_M_day b_M_day 2 (Option.none : Option FieldType)) rm_M_day [.ref mo, .int x] LP f0 mo ad z none (m_day z x) := by
  refine pv_mk hl0 (by decide) (Nat.le_of_ble_eq_true rfl) (fun κ C R0 hN _ => ?_)
  show pv_V D κ 0 0 LP (mm_f γ f0 mo ad z) 0 [(0, .ref mo), (1, .int x)] []
  refine pv_aload_n C d_M_day_0 rfl 0 rfl ?_
  refine pv_iload_n C d_M_day_1 rfl 1 rfl ?_
  refine pv_iconst (v := 0) C d_M_day_2 (by decide) ?_
  refine pv_sipush (v := 10000) C d_M_day_3 (by decide) ?_
  refine pv_callS (n := 3) (As := [.int x, .int 0, .int 10000]) (rest := [.ref mo]) C (c_M_in hl0 G z x 0 10000) cd_M_in ml_M_90 in_M sm_M_in (by decide +kernel) (by decide) rfl (Nat.le_of_ble_eq_true rfl) rfl d_M_day_6 (by decide) hN R0 (fun _ h => h.elim) (fun v9 LP9 f9 h9 => ?_)
  obtain ⟨rfl, rfl, rfl⟩ := h9
  refine pv_st (st2 := [.int (bN (inB x 0 10000)), .ref mo]) (c2 := 0) (s2 := 0) rfl rfl rfl ?_
  refine pv_ifb_ne (tgt := 16) C d_M_day_9 (by decide) (fun h1 => ?_) (fun h1 => ?_)
  · refine pv_iload_n C d_M_day_16 rfl 1 rfl ?_
    refine pv_aload_n C d_M_day_17 rfl 0 rfl ?_
    refine pm_get (v := .int (z 1 0)) C G 1 (by decide) fl_M_121 rfl rfl d_M_day_18 ?_
    refine pv_icmp_ge (tgt := 28) C d_M_day_21 (by decide) (fun h2 => ?_) (fun h2 => ?_)
    · refine pv_iconst (v := 0) C d_M_day_28 (by decide) ?_
      refine pm_put C G 0 (by decide) fl_M_83 rfl rfl rfl (by decide) rfl d_M_day_29 ?_
      refine pv_aload_n C d_M_day_32 rfl 0 rfl ?_
      refine pm_get (v := .int 0) C G 0 (by decide) fl_M_83 rfl rfl d_M_day_33 ?_
      refine pv_if_ne (tgt := 44) C d_M_day_36 (by decide) (fun q => absurd q (by decide)) (fun _ => ?_)
      refine pv_aload_n C d_M_day_39 rfl 0 rfl ?_
      refine pv_iload_n C d_M_day_40 rfl 1 rfl ?_
      refine pm_put C G 1 (by decide) fl_M_121 rfl rfl rfl (by decide) rfl d_M_day_41 ?_
      exact pv_vret C R0 d_M_day_44 (by decide) (by decide) (mP_v (by unfold m_day; rw [if_pos h1, if_pos h2]))
    · refine pv_iconst (v := 2) C d_M_day_24 (by decide) ?_
      refine pv_goto (tgt := 29) C d_M_day_25 (by decide) ?_
      refine pm_put C G 0 (by decide) fl_M_83 rfl rfl rfl (by decide) rfl d_M_day_29 ?_
      refine pv_aload_n C d_M_day_32 rfl 0 rfl ?_
      refine pm_get (v := .int 2) C G 0 (by decide) fl_M_83 rfl rfl d_M_day_33 ?_
      refine pv_if_ne (tgt := 44) C d_M_day_36 (by decide) (fun _ => ?_) (fun q => absurd q (by decide))
      exact pv_vret C R0 d_M_day_44 (by decide) (by decide) (mP_v (by unfold m_day; rw [if_pos h1, if_neg h2]))
  · refine pv_iconst (v := 1) C d_M_day_12 (by decide) ?_
    refine pv_goto (tgt := 29) C d_M_day_13 (by decide) ?_
    refine pm_put C G 0 (by decide) fl_M_83 rfl rfl rfl (by decide) rfl d_M_day_29 ?_
    refine pv_aload_n C d_M_day_32 rfl 0 rfl ?_
    refine pm_get (v := .int 1) C G 0 (by decide) fl_M_83 rfl rfl d_M_day_33 ?_
    refine pv_if_ne (tgt := 44) C d_M_day_36 (by decide) (fun _ => ?_) (fun q => absurd q (by decide))
    exact pv_vret C R0 d_M_day_44 (by decide) (by decide) (mP_v (by unfold m_day; rw [if_neg (nT h1)]))
abbrev rm_M_state : Room := { frames := 2, cells := 0, slots := 0, locals := 43 }
def m_state (z : zT) (a : Int32) (w : Int32) : Int32 × zT :=
  (if (isA z a) = true then (if (inB w 0 3) = true then (if w = 0 then ((z 7 (ix a)), (zs z 0 0 0)) else (if w = 1 then ((z 4 (ix a)), (zs z 0 0 0)) else (if w = 2 then ((z 6 (ix a)), (zs z 0 0 0)) else ((z 8 (ix a)), (zs z 0 0 0))))) else (0, (zs z 0 0 2))) else (0, (zs z 0 0 1)))
set_option maxRecDepth 100000 in
set_option maxHeartbeats 4000000 in
theorem c_M_state {l0 : Launch} {D : va_G} {γ : Nat → ClassId} (hl0 : l0.stackTraces = false) {LP : List Nat} {f0 : Nat → va_E} {mo : Nat} {ad : Nat → Nat} (G : mm_H mo ad LP) (z : zT) (a : Int32) (w : Int32) (hz : zI z) : mM l0 D γ y_M_state (Cond.code y_M_state b_M_state 3 (Option.some FieldType.int)) rm_M_state [.ref mo, .int a, .int w] LP f0 mo ad z (some (.int (m_state z a w).1)) (m_state z a w).2 := by
  refine pv_mk hl0 (by decide) (Nat.le_of_ble_eq_true rfl) (fun κ C R0 hN _ => ?_)
  show pv_V D κ 0 0 LP (mm_f γ f0 mo ad z) 0 [(0, .ref mo), (1, .int a), (2, .int w)] []
  refine pv_aload_n C d_M_state_0 rfl 0 rfl ?_
  refine pv_aload_n C d_M_state_1 rfl 0 rfl ?_
  refine pv_iload_n C d_M_state_2 rfl 1 rfl ?_
  refine pv_callV (n := 1) (As := [.int a]) (rest := [.ref mo]) C (c_M_isAnnouncement hl0 G z a) cd_M_isAnnouncement ml_M_94 in_M im_M_isAnnouncement se_M_isAnnouncement G.1 mm_obj rfl rfl (by decide +kernel) (by decide) rfl (Nat.le_of_ble_eq_true rfl) rfl d_M_state_3 (by decide) hN R0 (fun _ h => h.elim) (fun v9 LP9 f9 h9 => ?_)
  obtain ⟨rfl, rfl, rfl⟩ := h9
  refine pv_st (st2 := [.int (bN (isA z a)), .ref mo]) (c2 := 0) (s2 := 0) rfl rfl rfl ?_
  refine pv_ifb_ne (tgt := 13) C d_M_state_6 (by decide) (fun h1 => ?_) (fun h1 => ?_)
  · have hA := isA_ix hz h1
    refine pv_iload_n C d_M_state_13 rfl 2 rfl ?_
    refine pv_iconst (v := 0) C d_M_state_14 (by decide) ?_
    refine pv_iconst (v := 3) C d_M_state_15 (by decide) ?_
    refine pv_callS (n := 3) (As := [.int w, .int 0, .int 3]) (rest := [.ref mo]) C (c_M_in hl0 G z w 0 3) cd_M_in ml_M_90 in_M sm_M_in (by decide +kernel) (by decide) rfl (Nat.le_of_ble_eq_true rfl) rfl d_M_state_16 (by decide) hN R0 (fun _ h => h.elim) (fun v9 LP9 f9 h9 => ?_)
    obtain ⟨rfl, rfl, rfl⟩ := h9
    refine pv_st (st2 := [.int (bN (inB w 0 3)), .ref mo]) (c2 := 0) (s2 := 0) rfl rfl rfl ?_
    refine pv_ifb_ne (tgt := 26) C d_M_state_19 (by decide) (fun h2 => ?_) (fun h2 => ?_)
    · refine pv_iconst (v := 0) C d_M_state_26 (by decide) ?_
      refine pm_put C G 0 (by decide) fl_M_83 rfl rfl rfl (by decide) rfl d_M_state_27 ?_
      refine pv_aload_n C d_M_state_30 rfl 0 rfl ?_
      refine pm_get (v := .int 0) C G 0 (by decide) fl_M_83 rfl rfl d_M_state_31 ?_
      refine pv_if_le (tgt := 39) C d_M_state_34 (by decide) (fun _ => ?_) (fun q => absurd q (by decide))
      refine pv_iload_n C d_M_state_39 rfl 2 rfl ?_
      refine pv_if_ne (tgt := 52) C d_M_state_40 (by decide) (fun h3 => ?_) (fun h3 => ?_)
      · refine pv_iload_n C d_M_state_52 rfl 2 rfl ?_
        refine pv_iconst (v := 1) C d_M_state_53 (by decide) ?_
        refine pv_icmp_ne (tgt := 66) C d_M_state_54 (by decide) (fun h4 => ?_) (fun h4 => ?_)
        · refine pv_iload_n C d_M_state_66 rfl 2 rfl ?_
          refine pv_iconst (v := 2) C d_M_state_67 (by decide) ?_
          refine pv_icmp_ne (tgt := 80) C d_M_state_68 (by decide) (fun h5 => ?_) (fun h5 => ?_)
          · refine pv_aload_n C d_M_state_80 rfl 0 rfl ?_
            refine pm_get (v := .ref (ad 8)) C G 8 (by decide) fl_M_26 rfl rfl d_M_state_81 ?_
            refine pv_iload_n C d_M_state_84 rfl 1 rfl ?_
            refine pm_ald C G 8 (by decide) rfl (j := (ix a)) hA.1 (show (ix a) < 17 by omega) d_M_state_85 ?_
            refine pv_top (y := (z 8 (ix a))) (zs_k _ _ (by decide)) ?_
            exact pv_iret C R0 d_M_state_86 (by decide) (by decide) (mP_i (by unfold m_state; rw [if_pos h1, if_pos h2, if_neg h3, if_neg h4, if_neg h5]))
          · refine pv_aload_n C d_M_state_71 rfl 0 rfl ?_
            refine pm_get (v := .ref (ad 6)) C G 6 (by decide) fl_M_20 rfl rfl d_M_state_72 ?_
            refine pv_iload_n C d_M_state_75 rfl 1 rfl ?_
            refine pm_ald C G 6 (by decide) rfl (j := (ix a)) hA.1 (show (ix a) < 17 by omega) d_M_state_76 ?_
            refine pv_top (y := (z 6 (ix a))) (zs_k _ _ (by decide)) ?_
            refine pv_goto (tgt := 86) C d_M_state_77 (by decide) ?_
            exact pv_iret C R0 d_M_state_86 (by decide) (by decide) (mP_i (by unfold m_state; rw [if_pos h1, if_pos h2, if_neg h3, if_neg h4, if_pos h5]))
        · refine pv_aload_n C d_M_state_57 rfl 0 rfl ?_
          refine pm_get (v := .ref (ad 4)) C G 4 (by decide) fl_M_13 rfl rfl d_M_state_58 ?_
          refine pv_iload_n C d_M_state_61 rfl 1 rfl ?_
          refine pm_ald C G 4 (by decide) rfl (j := (ix a)) hA.1 (show (ix a) < 17 by omega) d_M_state_62 ?_
          refine pv_top (y := (z 4 (ix a))) (zs_k _ _ (by decide)) ?_
          refine pv_goto (tgt := 86) C d_M_state_63 (by decide) ?_
          exact pv_iret C R0 d_M_state_86 (by decide) (by decide) (mP_i (by unfold m_state; rw [if_pos h1, if_pos h2, if_neg h3, if_pos h4]))
      · refine pv_aload_n C d_M_state_43 rfl 0 rfl ?_
        refine pm_get (v := .ref (ad 7)) C G 7 (by decide) fl_M_23 rfl rfl d_M_state_44 ?_
        refine pv_iload_n C d_M_state_47 rfl 1 rfl ?_
        refine pm_ald C G 7 (by decide) rfl (j := (ix a)) hA.1 (show (ix a) < 17 by omega) d_M_state_48 ?_
        refine pv_top (y := (z 7 (ix a))) (zs_k _ _ (by decide)) ?_
        refine pv_goto (tgt := 86) C d_M_state_49 (by decide) ?_
        exact pv_iret C R0 d_M_state_86 (by decide) (by decide) (mP_i (by unfold m_state; rw [if_pos h1, if_pos h2, if_pos h3]))
    · refine pv_iconst (v := 2) C d_M_state_22 (by decide) ?_
      refine pv_goto (tgt := 27) C d_M_state_23 (by decide) ?_
      refine pm_put C G 0 (by decide) fl_M_83 rfl rfl rfl (by decide) rfl d_M_state_27 ?_
      refine pv_aload_n C d_M_state_30 rfl 0 rfl ?_
      refine pm_get (v := .int 2) C G 0 (by decide) fl_M_83 rfl rfl d_M_state_31 ?_
      refine pv_if_le (tgt := 39) C d_M_state_34 (by decide) (fun q => absurd q (by decide)) (fun _ => ?_)
      refine pv_iconst (v := 0) C d_M_state_37 (by decide) ?_
      exact pv_iret C R0 d_M_state_38 (by decide) (by decide) (mP_i (by unfold m_state; rw [if_pos h1, if_neg (nT h2)]))
  · refine pv_iconst (v := 1) C d_M_state_9 (by decide) ?_
    refine pv_goto (tgt := 27) C d_M_state_10 (by decide) ?_
    refine pm_put C G 0 (by decide) fl_M_83 rfl rfl rfl (by decide) rfl d_M_state_27 ?_
    refine pv_aload_n C d_M_state_30 rfl 0 rfl ?_
    refine pm_get (v := .int 1) C G 0 (by decide) fl_M_83 rfl rfl d_M_state_31 ?_
    refine pv_if_le (tgt := 39) C d_M_state_34 (by decide) (fun q => absurd q (by decide)) (fun _ => ?_)
    refine pv_iconst (v := 0) C d_M_state_37 (by decide) ?_
    exact pv_iret C R0 d_M_state_38 (by decide) (by decide) (mP_i (by unfold m_state; rw [if_neg (nT h1)]))
abbrev rm_M_count1 : Room := { frames := 0, cells := 0, slots := 0, locals := 0 }
def m_count1 (z : zT) (w : Int32) : Int32 × zT :=
  (if w = 0 then ((z 3 0), (zs z 0 0 0)) else (if w = 1 then ((z 18 0), (zs z 0 0 0)) else (if w = 2 then ((z 27 0), (zs z 0 0 0)) else (if w = 3 then ((z 1 0), (zs z 0 0 0)) else (if w = 4 then ((z 28 0), (zs z 0 0 0)) else ((-1), (zs z 0 0 0)))))))
set_option maxRecDepth 100000 in
set_option maxHeartbeats 4000000 in
theorem c_M_count1 {l0 : Launch} {D : va_G} {γ : Nat → ClassId} (hl0 : l0.stackTraces = false) {LP : List Nat} {f0 : Nat → va_E} {mo : Nat} {ad : Nat → Nat} (G : mm_H mo ad LP) (z : zT) (w : Int32)  : mM l0 D γ y_M_count1 (Cond.code y_M_count1 b_M_count1 2 (Option.some FieldType.int)) rm_M_count1 [.ref mo, .int w] LP f0 mo ad z (some (.int (m_count1 z w).1)) (m_count1 z w).2 := by
  refine pv_mk hl0 (by decide) (Nat.le_of_ble_eq_true rfl) (fun κ C R0 hN _ => ?_)
  show pv_V D κ 0 0 LP (mm_f γ f0 mo ad z) 0 [(0, .ref mo), (1, .int w)] []
  refine pv_aload_n C d_M_count1_0 rfl 0 rfl ?_
  refine pv_iconst (v := 0) C d_M_count1_1 (by decide) ?_
  refine pm_put C G 0 (by decide) fl_M_83 rfl rfl rfl (by decide) rfl d_M_count1_2 ?_
  refine pv_iload_n C d_M_count1_5 rfl 1 rfl ?_
  refine pv_if_ne (tgt := 16) C d_M_count1_6 (by decide) (fun h1 => ?_) (fun h1 => ?_)
  · refine pv_iload_n C d_M_count1_16 rfl 1 rfl ?_
    refine pv_iconst (v := 1) C d_M_count1_17 (by decide) ?_
    refine pv_icmp_ne (tgt := 28) C d_M_count1_18 (by decide) (fun h2 => ?_) (fun h2 => ?_)
    · refine pv_iload_n C d_M_count1_28 rfl 1 rfl ?_
      refine pv_iconst (v := 2) C d_M_count1_29 (by decide) ?_
      refine pv_icmp_ne (tgt := 40) C d_M_count1_30 (by decide) (fun h3 => ?_) (fun h3 => ?_)
      · refine pv_iload_n C d_M_count1_40 rfl 1 rfl ?_
        refine pv_iconst (v := 3) C d_M_count1_41 (by decide) ?_
        refine pv_icmp_ne (tgt := 52) C d_M_count1_42 (by decide) (fun h4 => ?_) (fun h4 => ?_)
        · refine pv_iload_n C d_M_count1_52 rfl 1 rfl ?_
          refine pv_iconst (v := 4) C d_M_count1_53 (by decide) ?_
          refine pv_icmp_ne (tgt := 64) C d_M_count1_54 (by decide) (fun h5 => ?_) (fun h5 => ?_)
          · refine pv_iconst (v := (-1)) C d_M_count1_64 (by decide) ?_
            exact pv_iret C R0 d_M_count1_65 (by decide) (by decide) (mP_i (by unfold m_count1; rw [if_neg h1, if_neg h2, if_neg h3, if_neg h4, if_neg h5]))
          · refine pv_aload_n C d_M_count1_57 rfl 0 rfl ?_
            refine pm_get (v := .int (z 28 0)) C G 28 (by decide) fl_M_138 rfl rfl d_M_count1_58 ?_
            refine pv_goto (tgt := 65) C d_M_count1_61 (by decide) ?_
            exact pv_iret C R0 d_M_count1_65 (by decide) (by decide) (mP_i (by unfold m_count1; rw [if_neg h1, if_neg h2, if_neg h3, if_neg h4, if_pos h5]))
        · refine pv_aload_n C d_M_count1_45 rfl 0 rfl ?_
          refine pm_get (v := .int (z 1 0)) C G 1 (by decide) fl_M_121 rfl rfl d_M_count1_46 ?_
          refine pv_goto (tgt := 65) C d_M_count1_49 (by decide) ?_
          exact pv_iret C R0 d_M_count1_65 (by decide) (by decide) (mP_i (by unfold m_count1; rw [if_neg h1, if_neg h2, if_neg h3, if_pos h4]))
      · refine pv_aload_n C d_M_count1_33 rfl 0 rfl ?_
        refine pm_get (v := .int (z 27 0)) C G 27 (by decide) fl_M_127 rfl rfl d_M_count1_34 ?_
        refine pv_goto (tgt := 65) C d_M_count1_37 (by decide) ?_
        exact pv_iret C R0 d_M_count1_65 (by decide) (by decide) (mP_i (by unfold m_count1; rw [if_neg h1, if_neg h2, if_pos h3]))
    · refine pv_aload_n C d_M_count1_21 rfl 0 rfl ?_
      refine pm_get (v := .int (z 18 0)) C G 18 (by decide) fl_M_98 rfl rfl d_M_count1_22 ?_
      refine pv_goto (tgt := 65) C d_M_count1_25 (by decide) ?_
      exact pv_iret C R0 d_M_count1_65 (by decide) (by decide) (mP_i (by unfold m_count1; rw [if_neg h1, if_pos h2]))
  · refine pv_aload_n C d_M_count1_9 rfl 0 rfl ?_
    refine pm_get (v := .int (z 3 0)) C G 3 (by decide) fl_M_87 rfl rfl d_M_count1_10 ?_
    refine pv_goto (tgt := 65) C d_M_count1_13 (by decide) ?_
    exact pv_iret C R0 d_M_count1_65 (by decide) (by decide) (mP_i (by unfold m_count1; rw [if_pos h1]))
abbrev rm_M_takes : Room := { frames := 0, cells := 0, slots := 0, locals := 0 }
set_option maxRecDepth 100000 in
set_option maxHeartbeats 4000000 in
theorem c_M_takes {l0 : Launch} {D : va_G} {γ : Nat → ClassId} (hl0 : l0.stackTraces = false) {LP : List Nat} {f0 : Nat → va_E} {mo : Nat} {ad : Nat → Nat} (G : mm_H mo ad LP) (z : zT) (l : Int32) (j : Nat) (hj : j < 68) (hl : l = nI j) : mM l0 D γ y_M_takes (Cond.code y_M_takes b_M_takes 2 (Option.some FieldType.int)) rm_M_takes [.ref mo, .int l] LP f0 mo ad z (some (.int ((z 10 j + z 10 j * z 11 j / 100, z)).1)) ((z 10 j + z 10 j * z 11 j / 100, z)).2 := by
  refine pv_mk hl0 (by decide) (Nat.le_of_ble_eq_true rfl) (fun κ C R0 hN _ => ?_)
  show pv_V D κ 0 0 LP (mm_f γ f0 mo ad z) 0 [(0, .ref mo), (1, .int l)] []
  refine pv_aload_n C d_M_takes_0 rfl 0 rfl ?_
  refine pm_get (v := .ref (ad 10)) C G 10 (by decide) fl_M_32 rfl rfl d_M_takes_1 ?_
  refine pv_iload_n C d_M_takes_4 rfl 1 rfl ?_
  refine pm_ald C G 10 (by decide) rfl (j := j) hl (show j < 68 by omega) d_M_takes_5 ?_
  refine pv_top (y := (z 10 j)) rfl ?_
  refine pv_aload_n C d_M_takes_6 rfl 0 rfl ?_
  refine pm_get (v := .ref (ad 10)) C G 10 (by decide) fl_M_32 rfl rfl d_M_takes_7 ?_
  refine pv_iload_n C d_M_takes_10 rfl 1 rfl ?_
  refine pm_ald C G 10 (by decide) rfl (j := j) hl (show j < 68 by omega) d_M_takes_11 ?_
  refine pv_top (y := (z 10 j)) rfl ?_
  refine pv_aload_n C d_M_takes_12 rfl 0 rfl ?_
  refine pm_get (v := .ref (ad 11)) C G 11 (by decide) fl_M_35 rfl rfl d_M_takes_13 ?_
  refine pv_iload_n C d_M_takes_16 rfl 1 rfl ?_
  refine pm_ald C G 11 (by decide) rfl (j := j) hl (show j < 68 by omega) d_M_takes_17 ?_
  refine pv_top (y := (z 11 j)) rfl ?_
  refine pv_imul C d_M_takes_18 ?_
  refine pv_bipush (v := 100) C d_M_takes_19 (by decide) ?_
  refine pv_idiv C d_M_takes_21 (by decide) ?_
  refine pv_iadd C d_M_takes_22 ?_
  exact pv_iret C R0 d_M_takes_23 (by decide) (by decide) (mP_i (by simp [bN_t, bN_f]))
def m_open (z : zT) (j : Nat) : Int32 := if z 13 j ≤ z 14 j then 0 else z 13 j - z 14 j
abbrev rm_M_openSamples : Room := { frames := 0, cells := 0, slots := 0, locals := 0 }
set_option maxRecDepth 100000 in
set_option maxHeartbeats 4000000 in
theorem c_M_openSamples {l0 : Launch} {D : va_G} {γ : Nat → ClassId} (hl0 : l0.stackTraces = false) {LP : List Nat} {f0 : Nat → va_E} {mo : Nat} {ad : Nat → Nat} (G : mm_H mo ad LP) (z : zT) (l : Int32) (j : Nat) (hj : j < 68) (hl : l = nI j) : mM l0 D γ y_M_openSamples (Cond.code y_M_openSamples b_M_openSamples 2 (Option.some FieldType.int)) rm_M_openSamples [.ref mo, .int l] LP f0 mo ad z (some (.int ((m_open z j, z)).1)) ((m_open z j, z)).2 := by
  refine pv_mk hl0 (by decide) (Nat.le_of_ble_eq_true rfl) (fun κ C R0 hN _ => ?_)
  show pv_V D κ 0 0 LP (mm_f γ f0 mo ad z) 0 [(0, .ref mo), (1, .int l)] []
  refine pv_aload_n C d_M_openSamples_0 rfl 0 rfl ?_
  refine pm_get (v := .ref (ad 13)) C G 13 (by decide) fl_M_41 rfl rfl d_M_openSamples_1 ?_
  refine pv_iload_n C d_M_openSamples_4 rfl 1 rfl ?_
  refine pm_ald C G 13 (by decide) rfl (j := j) hl (show j < 68 by omega) d_M_openSamples_5 ?_
  refine pv_top (y := (z 13 j)) rfl ?_
  refine pv_aload_n C d_M_openSamples_6 rfl 0 rfl ?_
  refine pm_get (v := .ref (ad 14)) C G 14 (by decide) fl_M_44 rfl rfl d_M_openSamples_7 ?_
  refine pv_iload_n C d_M_openSamples_10 rfl 1 rfl ?_
  refine pm_ald C G 14 (by decide) rfl (j := j) hl (show j < 68 by omega) d_M_openSamples_11 ?_
  refine pv_top (y := (z 14 j)) rfl ?_
  refine pv_icmp_le (tgt := 31) C d_M_openSamples_12 (by decide) (fun h1 => ?_) (fun h1 => ?_)
  · refine pv_iconst (v := 0) C d_M_openSamples_31 (by decide) ?_
    exact pv_iret C R0 d_M_openSamples_32 (by decide) (by decide) (mP_i (by simp [m_open, bN_t, bN_f, h1]))
  · refine pv_aload_n C d_M_openSamples_15 rfl 0 rfl ?_
    refine pm_get (v := .ref (ad 13)) C G 13 (by decide) fl_M_41 rfl rfl d_M_openSamples_16 ?_
    refine pv_iload_n C d_M_openSamples_19 rfl 1 rfl ?_
    refine pm_ald C G 13 (by decide) rfl (j := j) hl (show j < 68 by omega) d_M_openSamples_20 ?_
    refine pv_top (y := (z 13 j)) rfl ?_
    refine pv_aload_n C d_M_openSamples_21 rfl 0 rfl ?_
    refine pm_get (v := .ref (ad 14)) C G 14 (by decide) fl_M_44 rfl rfl d_M_openSamples_22 ?_
    refine pv_iload_n C d_M_openSamples_25 rfl 1 rfl ?_
    refine pm_ald C G 14 (by decide) rfl (j := j) hl (show j < 68 by omega) d_M_openSamples_26 ?_
    refine pv_top (y := (z 14 j)) rfl ?_
    refine pv_isub C d_M_openSamples_27 ?_
    refine pv_goto (tgt := 32) C d_M_openSamples_28 (by decide) ?_
    exact pv_iret C R0 d_M_openSamples_32 (by decide) (by decide) (mP_i (by simp [m_open, bN_t, bN_f, h1]))
def m_plain (z : zT) (u : Nat) : Int32 := if z 15 (zl z u) = 0 then 0 else 2
abbrev rm_M_plainState : Room := { frames := 0, cells := 0, slots := 0, locals := 0 }
set_option maxRecDepth 100000 in
set_option maxHeartbeats 4000000 in
theorem c_M_plainState {l0 : Launch} {D : va_G} {γ : Nat → ClassId} (hl0 : l0.stackTraces = false) {LP : List Nat} {f0 : Nat → va_E} {mo : Nat} {ad : Nat → Nat} (G : mm_H mo ad LP) (z : zT) (u : Int32) (j : Nat) (hj : j < 121) (hu : u = nI j) (hlu : z 19 j = nI (zl z j) ∧ 4 ≤ zl z j ∧ zl z j < 68) : mM l0 D γ y_M_plainState (Cond.code y_M_plainState b_M_plainState 2 (Option.some FieldType.int)) rm_M_plainState [.ref mo, .int u] LP f0 mo ad z (some (.int ((m_plain z j, z)).1)) ((m_plain z j, z)).2 := by
  refine pv_mk hl0 (by decide) (Nat.le_of_ble_eq_true rfl) (fun κ C R0 hN _ => ?_)
  show pv_V D κ 0 0 LP (mm_f γ f0 mo ad z) 0 [(0, .ref mo), (1, .int u)] []
  refine pv_aload_n C d_M_plainState_0 rfl 0 rfl ?_
  refine pm_get (v := .ref (ad 15)) C G 15 (by decide) fl_M_47 rfl rfl d_M_plainState_1 ?_
  refine pv_aload_n C d_M_plainState_4 rfl 0 rfl ?_
  refine pm_get (v := .ref (ad 19)) C G 19 (by decide) fl_M_56 rfl rfl d_M_plainState_5 ?_
  refine pv_iload_n C d_M_plainState_8 rfl 1 rfl ?_
  refine pm_ald C G 19 (by decide) rfl (j := j) hu (show j < 121 by omega) d_M_plainState_9 ?_
  refine pv_top (y := (z 19 j)) rfl ?_
  refine pm_zld C G 15 (by decide) rfl (j := (zl z j)) hlu.1 (show (zl z j) < 68 by omega) d_M_plainState_10 ?_
  refine pv_top (y := (z 15 (zl z j))) rfl ?_
  refine pv_if_eq (tgt := 18) C d_M_plainState_11 (by decide) (fun h1 => ?_) (fun h1 => ?_)
  · refine pv_iconst (v := 0) C d_M_plainState_18 (by decide) ?_
    exact pv_iret C R0 d_M_plainState_19 (by decide) (by decide) (mP_i (by simp [m_plain, bN_t, bN_f, h1]))
  · refine pv_iconst (v := 2) C d_M_plainState_14 (by decide) ?_
    refine pv_goto (tgt := 19) C d_M_plainState_15 (by decide) ?_
    exact pv_iret C R0 d_M_plainState_19 (by decide) (by decide) (mP_i (by simp [m_plain, bN_t, bN_f, h1]))
abbrev rm_M_date : Room := { frames := 2, cells := 0, slots := 0, locals := 43 }
def m_date (z : zT) (u : Int32) (x : Int32) : Int32 × zT :=
  (if (isU z u) = true then (if (inB x 0 10000) = true then (if (z 20 (ix u)) = 1 then (0, (zs (zs z 0 0 0) 0 0 3)) else (if (z 16 (zl z (ix u))) = 0 then (if (z 1 0) ≤ x then (if (z 1 0) ≤ x then (1, (zs (zs (zs (zs z 0 0 0) 0 0 0) 23 (ix u) x) 20 (ix u) (m_plain z (ix u)))) else (2, (zs (zs (zs (zs z 0 0 0) 0 0 0) 23 (ix u) x) 20 (ix u) (m_plain z (ix u))))) else (if (z 1 0) ≤ x then (1, (zs (zs (zs (zs z 0 0 0) 0 0 0) 23 (ix u) x) 20 (ix u) 3)) else (2, (zs (zs (zs (zs z 0 0 0) 0 0 0) 23 (ix u) x) 20 (ix u) 3)))) else (0, (zs (zs z 0 0 0) 0 0 3)))) else (0, (zs z 0 0 2))) else (0, (zs z 0 0 1)))
set_option maxRecDepth 100000 in
set_option maxHeartbeats 4000000 in
theorem c_M_date {l0 : Launch} {D : va_G} {γ : Nat → ClassId} (hl0 : l0.stackTraces = false) {LP : List Nat} {f0 : Nat → va_E} {mo : Nat} {ad : Nat → Nat} (G : mm_H mo ad LP) (z : zT) (u : Int32) (x : Int32) (hz : zI z) : mM l0 D γ y_M_date (Cond.code y_M_date b_M_date 3 (Option.some FieldType.int)) rm_M_date [.ref mo, .int u, .int x] LP f0 mo ad z (some (.int (m_date z u x).1)) (m_date z u x).2 := by
  refine pv_mk hl0 (by decide) (Nat.le_of_ble_eq_true rfl) (fun κ C R0 hN _ => ?_)
  show pv_V D κ 0 0 LP (mm_f γ f0 mo ad z) 0 [(0, .ref mo), (1, .int u), (2, .int x)] []
  refine pv_aload_n C d_M_date_0 rfl 0 rfl ?_
  refine pv_aload_n C d_M_date_1 rfl 0 rfl ?_
  refine pv_iload_n C d_M_date_2 rfl 1 rfl ?_
  refine pv_callV (n := 1) (As := [.int u]) (rest := [.ref mo]) C (c_M_isUnit hl0 G z u) cd_M_isUnit ml_M_115 in_M im_M_isUnit se_M_isUnit G.1 mm_obj rfl rfl (by decide +kernel) (by decide) rfl (Nat.le_of_ble_eq_true rfl) rfl d_M_date_3 (by decide) hN R0 (fun _ h => h.elim) (fun v9 LP9 f9 h9 => ?_)
  obtain ⟨rfl, rfl, rfl⟩ := h9
  refine pv_st (st2 := [.int (bN (isU z u)), .ref mo]) (c2 := 0) (s2 := 0) rfl rfl rfl ?_
  refine pv_ifb_ne (tgt := 13) C d_M_date_6 (by decide) (fun h1 => ?_) (fun h1 => ?_)
  · have hU := isU_ix hz h1
    have hlu := hz.2.2.2.2.1 (ix u) hU.2.1 hU.2.2.1
    refine pv_iload_n C d_M_date_13 rfl 2 rfl ?_
    refine pv_iconst (v := 0) C d_M_date_14 (by decide) ?_
    refine pv_sipush (v := 10000) C d_M_date_15 (by decide) ?_
    refine pv_callS (n := 3) (As := [.int x, .int 0, .int 10000]) (rest := [.ref mo]) C (c_M_in hl0 G z x 0 10000) cd_M_in ml_M_90 in_M sm_M_in (by decide +kernel) (by decide) rfl (Nat.le_of_ble_eq_true rfl) rfl d_M_date_18 (by decide) hN R0 (fun _ h => h.elim) (fun v9 LP9 f9 h9 => ?_)
    obtain ⟨rfl, rfl, rfl⟩ := h9
    refine pv_st (st2 := [.int (bN (inB x 0 10000)), .ref mo]) (c2 := 0) (s2 := 0) rfl rfl rfl ?_
    refine pv_ifb_ne (tgt := 28) C d_M_date_21 (by decide) (fun h2 => ?_) (fun h2 => ?_)
    · refine pv_iconst (v := 0) C d_M_date_28 (by decide) ?_
      refine pm_put C G 0 (by decide) fl_M_83 rfl rfl rfl (by decide) rfl d_M_date_29 ?_
      refine pv_aload_n C d_M_date_32 rfl 0 rfl ?_
      refine pm_get (v := .int 0) C G 0 (by decide) fl_M_83 rfl rfl d_M_date_33 ?_
      refine pv_if_ne (tgt := 72) C d_M_date_36 (by decide) (fun q => absurd q (by decide)) (fun _ => ?_)
      refine pv_aload_n C d_M_date_39 rfl 0 rfl ?_
      refine pv_aload_n C d_M_date_40 rfl 0 rfl ?_
      refine pm_get (v := .ref (ad 20)) C G 20 (by decide) fl_M_59 rfl rfl d_M_date_41 ?_
      refine pv_iload_n C d_M_date_44 rfl 1 rfl ?_
      refine pm_ald C G 20 (by decide) rfl (j := (ix u)) hU.1 (show (ix u) < 121 by omega) d_M_date_45 ?_
      refine pv_top (y := (z 20 (ix u))) (zs_k _ _ (by decide)) ?_
      refine pv_iconst (v := 1) C d_M_date_46 (by decide) ?_
      refine pv_icmp_eq (tgt := 64) C d_M_date_47 (by decide) (fun h3 => ?_) (fun h3 => ?_)
      · refine pv_iconst (v := 3) C d_M_date_64 (by decide) ?_
        refine pv_goto (tgt := 69) C d_M_date_65 (by decide) ?_
        refine pm_put C G 0 (by decide) fl_M_83 rfl rfl rfl (by decide) rfl d_M_date_69 ?_
        refine pv_aload_n C d_M_date_72 rfl 0 rfl ?_
        refine pm_get (v := .int 3) C G 0 (by decide) fl_M_83 rfl rfl d_M_date_73 ?_
        refine pv_if_le (tgt := 81) C d_M_date_76 (by decide) (fun q => absurd q (by decide)) (fun _ => ?_)
        refine pv_iconst (v := 0) C d_M_date_79 (by decide) ?_
        exact pv_iret C R0 d_M_date_80 (by decide) (by decide) (mP_i (by unfold m_date; rw [if_pos h1, if_pos h2, if_pos h3]))
      · refine pv_aload_n C d_M_date_50 rfl 0 rfl ?_
        refine pm_get (v := .ref (ad 16)) C G 16 (by decide) fl_M_50 rfl rfl d_M_date_51 ?_
        refine pv_aload_n C d_M_date_54 rfl 0 rfl ?_
        refine pm_get (v := .ref (ad 19)) C G 19 (by decide) fl_M_56 rfl rfl d_M_date_55 ?_
        refine pv_iload_n C d_M_date_58 rfl 1 rfl ?_
        refine pm_ald C G 19 (by decide) rfl (j := (ix u)) hU.1 (show (ix u) < 121 by omega) d_M_date_59 ?_
        refine pv_top (y := (z 19 (ix u))) (zs_k _ _ (by decide)) ?_
        refine pm_zld C G 16 (by decide) rfl (j := (zl z (ix u))) hlu.1 (show (zl z (ix u)) < 68 by omega) d_M_date_60 ?_
        refine pv_top (y := (z 16 (zl z (ix u)))) (zs_k _ _ (by decide)) ?_
        refine pv_if_eq (tgt := 68) C d_M_date_61 (by decide) (fun h4 => ?_) (fun h4 => ?_)
        · refine pv_iconst (v := 0) C d_M_date_68 (by decide) ?_
          refine pm_put C G 0 (by decide) fl_M_83 rfl rfl rfl (by decide) rfl d_M_date_69 ?_
          refine pv_aload_n C d_M_date_72 rfl 0 rfl ?_
          refine pm_get (v := .int 0) C G 0 (by decide) fl_M_83 rfl rfl d_M_date_73 ?_
          refine pv_if_le (tgt := 81) C d_M_date_76 (by decide) (fun _ => ?_) (fun q => absurd q (by decide))
          refine pv_aload_n C d_M_date_81 rfl 0 rfl ?_
          refine pm_get (v := .ref (ad 23)) C G 23 (by decide) fl_M_68 rfl rfl d_M_date_82 ?_
          refine pv_iload_n C d_M_date_85 rfl 1 rfl ?_
          refine pv_iload_n C d_M_date_86 rfl 2 rfl ?_
          refine pm_ast C G 23 (by decide) rfl (j := (ix u)) hU.1 (show (ix u) < 121 by omega) d_M_date_87 ?_
          refine pv_aload_n C d_M_date_88 rfl 0 rfl ?_
          refine pm_get (v := .ref (ad 20)) C G 20 (by decide) fl_M_59 rfl rfl d_M_date_89 ?_
          refine pv_iload_n C d_M_date_92 rfl 1 rfl ?_
          refine pv_iload_n C d_M_date_93 rfl 2 rfl ?_
          refine pv_aload_n C d_M_date_94 rfl 0 rfl ?_
          refine pm_get (v := .int (z 1 0)) C G 1 (by decide) fl_M_121 rfl rfl d_M_date_95 ?_
          refine pv_icmp_ge (tgt := 105) C d_M_date_98 (by decide) (fun h5 => ?_) (fun h5 => ?_)
          · refine pv_aload_n C d_M_date_105 rfl 0 rfl ?_
            refine pv_iload_n C d_M_date_106 rfl 1 rfl ?_
            refine pv_callV (n := 1) (As := [.int u]) (rest := [.int u, .ref (ad 20)]) C (c_M_plainState hl0 G (zs (zs (zs z 0 0 0) 0 0 0) 23 (ix u) x) u (ix u) (by omega) hU.1 hlu) cd_M_plainState ml_M_124 in_M im_M_plainState se_M_plainState G.1 mm_obj rfl rfl (by decide +kernel) (by decide) rfl (Nat.le_of_ble_eq_true rfl) rfl d_M_date_107 (by decide) hN R0 (fun _ h => h.elim) (fun v9 LP9 f9 h9 => ?_)
            obtain ⟨rfl, rfl, rfl⟩ := h9
            refine pv_st (st2 := [.int (m_plain z (ix u)), .int u, .ref (ad 20)]) (c2 := 0) (s2 := 0) rfl rfl rfl ?_
            refine pm_ast C G 20 (by decide) rfl (j := (ix u)) hU.1 (show (ix u) < 121 by omega) d_M_date_110 ?_
            refine pv_iload_n C d_M_date_111 rfl 2 rfl ?_
            refine pv_aload_n C d_M_date_112 rfl 0 rfl ?_
            refine pm_get (v := .int (z 1 0)) C G 1 (by decide) fl_M_121 rfl rfl d_M_date_113 ?_
            refine pv_icmp_ge (tgt := 123) C d_M_date_116 (by decide) (fun h6 => ?_) (fun h6 => ?_)
            · refine pv_iconst (v := 1) C d_M_date_123 (by decide) ?_
              exact pv_iret C R0 d_M_date_124 (by decide) (by decide) (mP_i (by unfold m_date; rw [if_pos h1, if_pos h2, if_neg h3, if_pos h4, if_pos h5, if_pos h6]))
            · refine pv_iconst (v := 2) C d_M_date_119 (by decide) ?_
              refine pv_goto (tgt := 124) C d_M_date_120 (by decide) ?_
              exact pv_iret C R0 d_M_date_124 (by decide) (by decide) (mP_i (by unfold m_date; rw [if_pos h1, if_pos h2, if_neg h3, if_pos h4, if_pos h5, if_neg h6]))
          · refine pv_iconst (v := 3) C d_M_date_101 (by decide) ?_
            refine pv_goto (tgt := 110) C d_M_date_102 (by decide) ?_
            refine pm_ast C G 20 (by decide) rfl (j := (ix u)) hU.1 (show (ix u) < 121 by omega) d_M_date_110 ?_
            refine pv_iload_n C d_M_date_111 rfl 2 rfl ?_
            refine pv_aload_n C d_M_date_112 rfl 0 rfl ?_
            refine pm_get (v := .int (z 1 0)) C G 1 (by decide) fl_M_121 rfl rfl d_M_date_113 ?_
            refine pv_icmp_ge (tgt := 123) C d_M_date_116 (by decide) (fun h7 => ?_) (fun h7 => ?_)
            · refine pv_iconst (v := 1) C d_M_date_123 (by decide) ?_
              exact pv_iret C R0 d_M_date_124 (by decide) (by decide) (mP_i (by unfold m_date; rw [if_pos h1, if_pos h2, if_neg h3, if_pos h4, if_neg h5, if_pos h7]))
            · refine pv_iconst (v := 2) C d_M_date_119 (by decide) ?_
              refine pv_goto (tgt := 124) C d_M_date_120 (by decide) ?_
              exact pv_iret C R0 d_M_date_124 (by decide) (by decide) (mP_i (by unfold m_date; rw [if_pos h1, if_pos h2, if_neg h3, if_pos h4, if_neg h5, if_neg h7]))
        · refine pv_iconst (v := 3) C d_M_date_64 (by decide) ?_
          refine pv_goto (tgt := 69) C d_M_date_65 (by decide) ?_
          refine pm_put C G 0 (by decide) fl_M_83 rfl rfl rfl (by decide) rfl d_M_date_69 ?_
          refine pv_aload_n C d_M_date_72 rfl 0 rfl ?_
          refine pm_get (v := .int 3) C G 0 (by decide) fl_M_83 rfl rfl d_M_date_73 ?_
          refine pv_if_le (tgt := 81) C d_M_date_76 (by decide) (fun q => absurd q (by decide)) (fun _ => ?_)
          refine pv_iconst (v := 0) C d_M_date_79 (by decide) ?_
          exact pv_iret C R0 d_M_date_80 (by decide) (by decide) (mP_i (by unfold m_date; rw [if_pos h1, if_pos h2, if_neg h3, if_neg h4]))
    · refine pv_iconst (v := 2) C d_M_date_24 (by decide) ?_
      refine pv_goto (tgt := 29) C d_M_date_25 (by decide) ?_
      refine pm_put C G 0 (by decide) fl_M_83 rfl rfl rfl (by decide) rfl d_M_date_29 ?_
      refine pv_aload_n C d_M_date_32 rfl 0 rfl ?_
      refine pm_get (v := .int 2) C G 0 (by decide) fl_M_83 rfl rfl d_M_date_33 ?_
      refine pv_if_ne (tgt := 72) C d_M_date_36 (by decide) (fun _ => ?_) (fun q => absurd q (by decide))
      refine pv_aload_n C d_M_date_72 rfl 0 rfl ?_
      refine pm_get (v := .int 2) C G 0 (by decide) fl_M_83 rfl rfl d_M_date_73 ?_
      refine pv_if_le (tgt := 81) C d_M_date_76 (by decide) (fun q => absurd q (by decide)) (fun _ => ?_)
      refine pv_iconst (v := 0) C d_M_date_79 (by decide) ?_
      exact pv_iret C R0 d_M_date_80 (by decide) (by decide) (mP_i (by unfold m_date; rw [if_pos h1, if_neg (nT h2)]))
  · refine pv_iconst (v := 1) C d_M_date_9 (by decide) ?_
    refine pv_goto (tgt := 29) C d_M_date_10 (by decide) ?_
    refine pm_put C G 0 (by decide) fl_M_83 rfl rfl rfl (by decide) rfl d_M_date_29 ?_
    refine pv_aload_n C d_M_date_32 rfl 0 rfl ?_
    refine pm_get (v := .int 1) C G 0 (by decide) fl_M_83 rfl rfl d_M_date_33 ?_
    refine pv_if_ne (tgt := 72) C d_M_date_36 (by decide) (fun _ => ?_) (fun q => absurd q (by decide))
    refine pv_aload_n C d_M_date_72 rfl 0 rfl ?_
    refine pm_get (v := .int 1) C G 0 (by decide) fl_M_83 rfl rfl d_M_date_73 ?_
    refine pv_if_le (tgt := 81) C d_M_date_76 (by decide) (fun q => absurd q (by decide)) (fun _ => ?_)
    refine pv_iconst (v := 0) C d_M_date_79 (by decide) ?_
    exact pv_iret C R0 d_M_date_80 (by decide) (by decide) (mP_i (by unfold m_date; rw [if_neg (nT h1)]))
abbrev rm_M_take : Room := { frames := 2, cells := 0, slots := 0, locals := 43 }
def m_take (z : zT) (u : Int32) (p : Int32) : Int32 × zT :=
  (if (isU z u) = true then (if (isP p) = true then (if (z 20 (ix u)) = 3 then (if (z 2 (ix p)) = 0 then (0, (zs (zs z 0 0 0) 0 0 3)) else ((m_plain z (ix u)), (zs (zs (zs z 0 0 0) 0 0 0) 20 (ix u) (m_plain z (ix u))))) else (0, (zs (zs z 0 0 0) 0 0 3))) else (0, (zs z 0 0 2))) else (0, (zs z 0 0 1)))
set_option maxRecDepth 100000 in
set_option maxHeartbeats 4000000 in
theorem c_M_take {l0 : Launch} {D : va_G} {γ : Nat → ClassId} (hl0 : l0.stackTraces = false) {LP : List Nat} {f0 : Nat → va_E} {mo : Nat} {ad : Nat → Nat} (G : mm_H mo ad LP) (z : zT) (u : Int32) (p : Int32) (hz : zI z) : mM l0 D γ y_M_take (Cond.code y_M_take b_M_take 3 (Option.some FieldType.int)) rm_M_take [.ref mo, .int u, .int p] LP f0 mo ad z (some (.int (m_take z u p).1)) (m_take z u p).2 := by
  refine pv_mk hl0 (by decide) (Nat.le_of_ble_eq_true rfl) (fun κ C R0 hN _ => ?_)
  show pv_V D κ 0 0 LP (mm_f γ f0 mo ad z) 0 [(0, .ref mo), (1, .int u), (2, .int p)] []
  refine pv_aload_n C d_M_take_0 rfl 0 rfl ?_
  refine pv_aload_n C d_M_take_1 rfl 0 rfl ?_
  refine pv_iload_n C d_M_take_2 rfl 1 rfl ?_
  refine pv_callV (n := 1) (As := [.int u]) (rest := [.ref mo]) C (c_M_isUnit hl0 G z u) cd_M_isUnit ml_M_115 in_M im_M_isUnit se_M_isUnit G.1 mm_obj rfl rfl (by decide +kernel) (by decide) rfl (Nat.le_of_ble_eq_true rfl) rfl d_M_take_3 (by decide) hN R0 (fun _ h => h.elim) (fun v9 LP9 f9 h9 => ?_)
  obtain ⟨rfl, rfl, rfl⟩ := h9
  refine pv_st (st2 := [.int (bN (isU z u)), .ref mo]) (c2 := 0) (s2 := 0) rfl rfl rfl ?_
  refine pv_ifb_ne (tgt := 13) C d_M_take_6 (by decide) (fun h1 => ?_) (fun h1 => ?_)
  · have hU := isU_ix hz h1
    have hlu := hz.2.2.2.2.1 (ix u) hU.2.1 hU.2.2.1
    refine pv_iload_n C d_M_take_13 rfl 2 rfl ?_
    refine pv_callS (n := 1) (As := [.int p]) (rest := [.ref mo]) C (c_M_isPerson hl0 G z p) cd_M_isPerson ml_M_104 in_M sm_M_isPerson (by decide +kernel) (by decide) rfl (Nat.le_of_ble_eq_true rfl) rfl d_M_take_14 (by decide) hN R0 (fun _ h => h.elim) (fun v9 LP9 f9 h9 => ?_)
    obtain ⟨rfl, rfl, rfl⟩ := h9
    refine pv_st (st2 := [.int (bN (isP p)), .ref mo]) (c2 := 0) (s2 := 0) rfl rfl rfl ?_
    refine pv_ifb_ne (tgt := 24) C d_M_take_17 (by decide) (fun h2 => ?_) (fun h2 => ?_)
    · have hP := isP_ix h2
      refine pv_iconst (v := 0) C d_M_take_24 (by decide) ?_
      refine pm_put C G 0 (by decide) fl_M_83 rfl rfl rfl (by decide) rfl d_M_take_25 ?_
      refine pv_aload_n C d_M_take_28 rfl 0 rfl ?_
      refine pm_get (v := .int 0) C G 0 (by decide) fl_M_83 rfl rfl d_M_take_29 ?_
      refine pv_if_ne (tgt := 63) C d_M_take_32 (by decide) (fun q => absurd q (by decide)) (fun _ => ?_)
      refine pv_aload_n C d_M_take_35 rfl 0 rfl ?_
      refine pv_aload_n C d_M_take_36 rfl 0 rfl ?_
      refine pm_get (v := .ref (ad 20)) C G 20 (by decide) fl_M_59 rfl rfl d_M_take_37 ?_
      refine pv_iload_n C d_M_take_40 rfl 1 rfl ?_
      refine pm_ald C G 20 (by decide) rfl (j := (ix u)) hU.1 (show (ix u) < 121 by omega) d_M_take_41 ?_
      refine pv_top (y := (z 20 (ix u))) (zs_k _ _ (by decide)) ?_
      refine pv_iconst (v := 3) C d_M_take_42 (by decide) ?_
      refine pv_icmp_ne (tgt := 55) C d_M_take_43 (by decide) (fun h3 => ?_) (fun h3 => ?_)
      · refine pv_iconst (v := 3) C d_M_take_55 (by decide) ?_
        refine pv_goto (tgt := 60) C d_M_take_56 (by decide) ?_
        refine pm_put C G 0 (by decide) fl_M_83 rfl rfl rfl (by decide) rfl d_M_take_60 ?_
        refine pv_aload_n C d_M_take_63 rfl 0 rfl ?_
        refine pm_get (v := .int 3) C G 0 (by decide) fl_M_83 rfl rfl d_M_take_64 ?_
        refine pv_if_le (tgt := 72) C d_M_take_67 (by decide) (fun q => absurd q (by decide)) (fun _ => ?_)
        refine pv_iconst (v := 0) C d_M_take_70 (by decide) ?_
        exact pv_iret C R0 d_M_take_71 (by decide) (by decide) (mP_i (by unfold m_take; rw [if_pos h1, if_pos h2, if_neg h3]))
      · refine pv_aload_n C d_M_take_46 rfl 0 rfl ?_
        refine pm_get (v := .ref (ad 2)) C G 2 (by decide) fl_M_7 rfl rfl d_M_take_47 ?_
        refine pv_iload_n C d_M_take_50 rfl 2 rfl ?_
        refine pm_zld C G 2 (by decide) rfl (j := (ix p)) hP.1 (show (ix p) < 8 by omega) d_M_take_51 ?_
        refine pv_top (y := (z 2 (ix p))) (zs_k _ _ (by decide)) ?_
        refine pv_if_ne (tgt := 59) C d_M_take_52 (by decide) (fun h4 => ?_) (fun h4 => ?_)
        · refine pv_iconst (v := 0) C d_M_take_59 (by decide) ?_
          refine pm_put C G 0 (by decide) fl_M_83 rfl rfl rfl (by decide) rfl d_M_take_60 ?_
          refine pv_aload_n C d_M_take_63 rfl 0 rfl ?_
          refine pm_get (v := .int 0) C G 0 (by decide) fl_M_83 rfl rfl d_M_take_64 ?_
          refine pv_if_le (tgt := 72) C d_M_take_67 (by decide) (fun _ => ?_) (fun q => absurd q (by decide))
          refine pv_aload_n C d_M_take_72 rfl 0 rfl ?_
          refine pm_get (v := .ref (ad 20)) C G 20 (by decide) fl_M_59 rfl rfl d_M_take_73 ?_
          refine pv_iload_n C d_M_take_76 rfl 1 rfl ?_
          refine pv_aload_n C d_M_take_77 rfl 0 rfl ?_
          refine pv_iload_n C d_M_take_78 rfl 1 rfl ?_
          refine pv_callV (n := 1) (As := [.int u]) (rest := [.int u, .ref (ad 20)]) C (c_M_plainState hl0 G (zs (zs z 0 0 0) 0 0 0) u (ix u) (by omega) hU.1 hlu) cd_M_plainState ml_M_124 in_M im_M_plainState se_M_plainState G.1 mm_obj rfl rfl (by decide +kernel) (by decide) rfl (Nat.le_of_ble_eq_true rfl) rfl d_M_take_79 (by decide) hN R0 (fun _ h => h.elim) (fun v9 LP9 f9 h9 => ?_)
          obtain ⟨rfl, rfl, rfl⟩ := h9
          refine pv_st (st2 := [.int (m_plain z (ix u)), .int u, .ref (ad 20)]) (c2 := 0) (s2 := 0) rfl rfl rfl ?_
          refine pm_ast C G 20 (by decide) rfl (j := (ix u)) hU.1 (show (ix u) < 121 by omega) d_M_take_82 ?_
          refine pv_aload_n C d_M_take_83 rfl 0 rfl ?_
          refine pm_get (v := .ref (ad 20)) C G 20 (by decide) fl_M_59 rfl rfl d_M_take_84 ?_
          refine pv_iload_n C d_M_take_87 rfl 1 rfl ?_
          refine pm_ald C G 20 (by decide) rfl (j := (ix u)) hU.1 (show (ix u) < 121 by omega) d_M_take_88 ?_
          refine pv_top (y := (m_plain z (ix u))) (zs_eq _ _ _ _) ?_
          exact pv_iret C R0 d_M_take_89 (by decide) (by decide) (mP_i (by unfold m_take; rw [if_pos h1, if_pos h2, if_pos h3, if_neg h4]))
        · refine pv_iconst (v := 3) C d_M_take_55 (by decide) ?_
          refine pv_goto (tgt := 60) C d_M_take_56 (by decide) ?_
          refine pm_put C G 0 (by decide) fl_M_83 rfl rfl rfl (by decide) rfl d_M_take_60 ?_
          refine pv_aload_n C d_M_take_63 rfl 0 rfl ?_
          refine pm_get (v := .int 3) C G 0 (by decide) fl_M_83 rfl rfl d_M_take_64 ?_
          refine pv_if_le (tgt := 72) C d_M_take_67 (by decide) (fun q => absurd q (by decide)) (fun _ => ?_)
          refine pv_iconst (v := 0) C d_M_take_70 (by decide) ?_
          exact pv_iret C R0 d_M_take_71 (by decide) (by decide) (mP_i (by unfold m_take; rw [if_pos h1, if_pos h2, if_pos h3, if_pos h4]))
    · refine pv_iconst (v := 2) C d_M_take_20 (by decide) ?_
      refine pv_goto (tgt := 25) C d_M_take_21 (by decide) ?_
      refine pm_put C G 0 (by decide) fl_M_83 rfl rfl rfl (by decide) rfl d_M_take_25 ?_
      refine pv_aload_n C d_M_take_28 rfl 0 rfl ?_
      refine pm_get (v := .int 2) C G 0 (by decide) fl_M_83 rfl rfl d_M_take_29 ?_
      refine pv_if_ne (tgt := 63) C d_M_take_32 (by decide) (fun _ => ?_) (fun q => absurd q (by decide))
      refine pv_aload_n C d_M_take_63 rfl 0 rfl ?_
      refine pm_get (v := .int 2) C G 0 (by decide) fl_M_83 rfl rfl d_M_take_64 ?_
      refine pv_if_le (tgt := 72) C d_M_take_67 (by decide) (fun q => absurd q (by decide)) (fun _ => ?_)
      refine pv_iconst (v := 0) C d_M_take_70 (by decide) ?_
      exact pv_iret C R0 d_M_take_71 (by decide) (by decide) (mP_i (by unfold m_take; rw [if_pos h1, if_neg (nT h2)]))
  · refine pv_iconst (v := 1) C d_M_take_9 (by decide) ?_
    refine pv_goto (tgt := 25) C d_M_take_10 (by decide) ?_
    refine pm_put C G 0 (by decide) fl_M_83 rfl rfl rfl (by decide) rfl d_M_take_25 ?_
    refine pv_aload_n C d_M_take_28 rfl 0 rfl ?_
    refine pm_get (v := .int 1) C G 0 (by decide) fl_M_83 rfl rfl d_M_take_29 ?_
    refine pv_if_ne (tgt := 63) C d_M_take_32 (by decide) (fun _ => ?_) (fun q => absurd q (by decide))
    refine pv_aload_n C d_M_take_63 rfl 0 rfl ?_
    refine pm_get (v := .int 1) C G 0 (by decide) fl_M_83 rfl rfl d_M_take_64 ?_
    refine pv_if_le (tgt := 72) C d_M_take_67 (by decide) (fun q => absurd q (by decide)) (fun _ => ?_)
    refine pv_iconst (v := 0) C d_M_take_70 (by decide) ?_
    exact pv_iret C R0 d_M_take_71 (by decide) (by decide) (mP_i (by unfold m_take; rw [if_neg (nT h1)]))
abbrev rm_M_again : Room := { frames := 2, cells := 0, slots := 0, locals := 43 }
def m_again (z : zT) (u : Int32) : Int32 × zT :=
  (if (isU z u) = true then (if (z 25 (ix u)) = 0 then (0, (zs (zs z 0 0 0) 0 0 2)) else (((z 26 (ix u)) + 1), (zs (zs (zs z 0 0 0) 0 0 0) 26 (ix u) ((z 26 (ix u)) + 1)))) else (0, (zs z 0 0 1)))
set_option maxRecDepth 100000 in
set_option maxHeartbeats 4000000 in
theorem c_M_again {l0 : Launch} {D : va_G} {γ : Nat → ClassId} (hl0 : l0.stackTraces = false) {LP : List Nat} {f0 : Nat → va_E} {mo : Nat} {ad : Nat → Nat} (G : mm_H mo ad LP) (z : zT) (u : Int32) (hz : zI z) : mM l0 D γ y_M_again (Cond.code y_M_again b_M_again 2 (Option.some FieldType.int)) rm_M_again [.ref mo, .int u] LP f0 mo ad z (some (.int (m_again z u).1)) (m_again z u).2 := by
  refine pv_mk hl0 (by decide) (Nat.le_of_ble_eq_true rfl) (fun κ C R0 hN _ => ?_)
  show pv_V D κ 0 0 LP (mm_f γ f0 mo ad z) 0 [(0, .ref mo), (1, .int u)] []
  refine pv_aload_n C d_M_again_0 rfl 0 rfl ?_
  refine pv_aload_n C d_M_again_1 rfl 0 rfl ?_
  refine pv_iload_n C d_M_again_2 rfl 1 rfl ?_
  refine pv_callV (n := 1) (As := [.int u]) (rest := [.ref mo]) C (c_M_isUnit hl0 G z u) cd_M_isUnit ml_M_115 in_M im_M_isUnit se_M_isUnit G.1 mm_obj rfl rfl (by decide +kernel) (by decide) rfl (Nat.le_of_ble_eq_true rfl) rfl d_M_again_3 (by decide) hN R0 (fun _ h => h.elim) (fun v9 LP9 f9 h9 => ?_)
  obtain ⟨rfl, rfl, rfl⟩ := h9
  refine pv_st (st2 := [.int (bN (isU z u)), .ref mo]) (c2 := 0) (s2 := 0) rfl rfl rfl ?_
  refine pv_ifb_ne (tgt := 13) C d_M_again_6 (by decide) (fun h1 => ?_) (fun h1 => ?_)
  · have hU := isU_ix hz h1
    have hlu := hz.2.2.2.2.1 (ix u) hU.2.1 hU.2.2.1
    refine pv_iconst (v := 0) C d_M_again_13 (by decide) ?_
    refine pm_put C G 0 (by decide) fl_M_83 rfl rfl rfl (by decide) rfl d_M_again_14 ?_
    refine pv_aload_n C d_M_again_17 rfl 0 rfl ?_
    refine pm_get (v := .int 0) C G 0 (by decide) fl_M_83 rfl rfl d_M_again_18 ?_
    refine pv_if_ne (tgt := 42) C d_M_again_21 (by decide) (fun q => absurd q (by decide)) (fun _ => ?_)
    refine pv_aload_n C d_M_again_24 rfl 0 rfl ?_
    refine pv_aload_n C d_M_again_25 rfl 0 rfl ?_
    refine pm_get (v := .ref (ad 25)) C G 25 (by decide) fl_M_74 rfl rfl d_M_again_26 ?_
    refine pv_iload_n C d_M_again_29 rfl 1 rfl ?_
    refine pm_ald C G 25 (by decide) rfl (j := (ix u)) hU.1 (show (ix u) < 121 by omega) d_M_again_30 ?_
    refine pv_top (y := (z 25 (ix u))) (zs_k _ _ (by decide)) ?_
    refine pv_if_ne (tgt := 38) C d_M_again_31 (by decide) (fun h2 => ?_) (fun h2 => ?_)
    · refine pv_iconst (v := 0) C d_M_again_38 (by decide) ?_
      refine pm_put C G 0 (by decide) fl_M_83 rfl rfl rfl (by decide) rfl d_M_again_39 ?_
      refine pv_aload_n C d_M_again_42 rfl 0 rfl ?_
      refine pm_get (v := .int 0) C G 0 (by decide) fl_M_83 rfl rfl d_M_again_43 ?_
      refine pv_if_le (tgt := 51) C d_M_again_46 (by decide) (fun _ => ?_) (fun q => absurd q (by decide))
      refine pv_aload_n C d_M_again_51 rfl 0 rfl ?_
      refine pm_get (v := .ref (ad 26)) C G 26 (by decide) fl_M_77 rfl rfl d_M_again_52 ?_
      refine pv_iload_n C d_M_again_55 rfl 1 rfl ?_
      refine pv_dup2 C d_M_again_56 rfl rfl ?_
      refine pm_ald C G 26 (by decide) rfl (j := (ix u)) hU.1 (show (ix u) < 121 by omega) d_M_again_57 ?_
      refine pv_top (y := (z 26 (ix u))) ((zs_k _ _ (by decide)).trans (zs_k _ _ (by decide))) ?_
      refine pv_iconst (v := 1) C d_M_again_58 (by decide) ?_
      refine pv_iadd C d_M_again_59 ?_
      refine pm_ast C G 26 (by decide) rfl (j := (ix u)) hU.1 (show (ix u) < 121 by omega) d_M_again_60 ?_
      refine pv_aload_n C d_M_again_61 rfl 0 rfl ?_
      refine pm_get (v := .ref (ad 26)) C G 26 (by decide) fl_M_77 rfl rfl d_M_again_62 ?_
      refine pv_iload_n C d_M_again_65 rfl 1 rfl ?_
      refine pm_ald C G 26 (by decide) rfl (j := (ix u)) hU.1 (show (ix u) < 121 by omega) d_M_again_66 ?_
      refine pv_top (y := ((z 26 (ix u)) + 1)) (zs_eq _ _ _ _) ?_
      exact pv_iret C R0 d_M_again_67 (by decide) (by decide) (mP_i (by unfold m_again; rw [if_pos h1, if_neg h2]))
    · refine pv_iconst (v := 2) C d_M_again_34 (by decide) ?_
      refine pv_goto (tgt := 39) C d_M_again_35 (by decide) ?_
      refine pm_put C G 0 (by decide) fl_M_83 rfl rfl rfl (by decide) rfl d_M_again_39 ?_
      refine pv_aload_n C d_M_again_42 rfl 0 rfl ?_
      refine pm_get (v := .int 2) C G 0 (by decide) fl_M_83 rfl rfl d_M_again_43 ?_
      refine pv_if_le (tgt := 51) C d_M_again_46 (by decide) (fun q => absurd q (by decide)) (fun _ => ?_)
      refine pv_iconst (v := 0) C d_M_again_49 (by decide) ?_
      exact pv_iret C R0 d_M_again_50 (by decide) (by decide) (mP_i (by unfold m_again; rw [if_pos h1, if_pos h2]))
  · refine pv_iconst (v := 1) C d_M_again_9 (by decide) ?_
    refine pv_goto (tgt := 14) C d_M_again_10 (by decide) ?_
    refine pm_put C G 0 (by decide) fl_M_83 rfl rfl rfl (by decide) rfl d_M_again_14 ?_
    refine pv_aload_n C d_M_again_17 rfl 0 rfl ?_
    refine pm_get (v := .int 1) C G 0 (by decide) fl_M_83 rfl rfl d_M_again_18 ?_
    refine pv_if_ne (tgt := 42) C d_M_again_21 (by decide) (fun _ => ?_) (fun q => absurd q (by decide))
    refine pv_aload_n C d_M_again_42 rfl 0 rfl ?_
    refine pm_get (v := .int 1) C G 0 (by decide) fl_M_83 rfl rfl d_M_again_43 ?_
    refine pv_if_le (tgt := 51) C d_M_again_46 (by decide) (fun q => absurd q (by decide)) (fun _ => ?_)
    refine pv_iconst (v := 0) C d_M_again_49 (by decide) ?_
    exact pv_iret C R0 d_M_again_50 (by decide) (by decide) (mP_i (by unfold m_again; rw [if_neg (nT h1)]))
abbrev rm_M_unit : Room := { frames := 2, cells := 0, slots := 0, locals := 43 }
def m_unit (z : zT) (u : Int32) (w : Int32) : Int32 × zT :=
  (if (isU z u) = true then (if (inB w 0 7) = true then (if w = 0 then ((z 20 (ix u)), (zs z 0 0 0)) else (if w = 1 then (((z 19 (ix u)) / 4), (zs z 0 0 0)) else (if w = 2 then (((z 19 (ix u)) - (z 19 (ix u)) / 4 * 4), (zs z 0 0 0)) else (if w = 3 then ((z 21 (ix u)), (zs z 0 0 0)) else (if w = 4 then ((z 22 (ix u)), (zs z 0 0 0)) else (if w = 5 then ((z 23 (ix u)), (zs z 0 0 0)) else (if w = 6 then ((z 24 (ix u)), (zs z 0 0 0)) else ((z 25 (ix u)), (zs z 0 0 0))))))))) else (0, (zs z 0 0 2))) else (0, (zs z 0 0 1)))
set_option maxRecDepth 100000 in
set_option maxHeartbeats 4000000 in
theorem c_M_unit {l0 : Launch} {D : va_G} {γ : Nat → ClassId} (hl0 : l0.stackTraces = false) {LP : List Nat} {f0 : Nat → va_E} {mo : Nat} {ad : Nat → Nat} (G : mm_H mo ad LP) (z : zT) (u : Int32) (w : Int32) (hz : zI z) : mM l0 D γ y_M_unit (Cond.code y_M_unit b_M_unit 3 (Option.some FieldType.int)) rm_M_unit [.ref mo, .int u, .int w] LP f0 mo ad z (some (.int (m_unit z u w).1)) (m_unit z u w).2 := by
  refine pv_mk hl0 (by decide) (Nat.le_of_ble_eq_true rfl) (fun κ C R0 hN _ => ?_)
  show pv_V D κ 0 0 LP (mm_f γ f0 mo ad z) 0 [(0, .ref mo), (1, .int u), (2, .int w)] []
  refine pv_aload_n C d_M_unit_0 rfl 0 rfl ?_
  refine pv_aload_n C d_M_unit_1 rfl 0 rfl ?_
  refine pv_iload_n C d_M_unit_2 rfl 1 rfl ?_
  refine pv_callV (n := 1) (As := [.int u]) (rest := [.ref mo]) C (c_M_isUnit hl0 G z u) cd_M_isUnit ml_M_115 in_M im_M_isUnit se_M_isUnit G.1 mm_obj rfl rfl (by decide +kernel) (by decide) rfl (Nat.le_of_ble_eq_true rfl) rfl d_M_unit_3 (by decide) hN R0 (fun _ h => h.elim) (fun v9 LP9 f9 h9 => ?_)
  obtain ⟨rfl, rfl, rfl⟩ := h9
  refine pv_st (st2 := [.int (bN (isU z u)), .ref mo]) (c2 := 0) (s2 := 0) rfl rfl rfl ?_
  refine pv_ifb_ne (tgt := 13) C d_M_unit_6 (by decide) (fun h1 => ?_) (fun h1 => ?_)
  · have hU := isU_ix hz h1
    have hlu := hz.2.2.2.2.1 (ix u) hU.2.1 hU.2.2.1
    refine pv_iload_n C d_M_unit_13 rfl 2 rfl ?_
    refine pv_iconst (v := 0) C d_M_unit_14 (by decide) ?_
    refine pv_bipush (v := 7) C d_M_unit_15 (by decide) ?_
    refine pv_callS (n := 3) (As := [.int w, .int 0, .int 7]) (rest := [.ref mo]) C (c_M_in hl0 G z w 0 7) cd_M_in ml_M_90 in_M sm_M_in (by decide +kernel) (by decide) rfl (Nat.le_of_ble_eq_true rfl) rfl d_M_unit_17 (by decide) hN R0 (fun _ h => h.elim) (fun v9 LP9 f9 h9 => ?_)
    obtain ⟨rfl, rfl, rfl⟩ := h9
    refine pv_st (st2 := [.int (bN (inB w 0 7)), .ref mo]) (c2 := 0) (s2 := 0) rfl rfl rfl ?_
    refine pv_ifb_ne (tgt := 27) C d_M_unit_20 (by decide) (fun h2 => ?_) (fun h2 => ?_)
    · refine pv_iconst (v := 0) C d_M_unit_27 (by decide) ?_
      refine pm_put C G 0 (by decide) fl_M_83 rfl rfl rfl (by decide) rfl d_M_unit_28 ?_
      refine pv_aload_n C d_M_unit_31 rfl 0 rfl ?_
      refine pm_get (v := .int 0) C G 0 (by decide) fl_M_83 rfl rfl d_M_unit_32 ?_
      refine pv_if_le (tgt := 40) C d_M_unit_35 (by decide) (fun _ => ?_) (fun q => absurd q (by decide))
      refine pv_iload_n C d_M_unit_40 rfl 2 rfl ?_
      refine pv_if_ne (tgt := 51) C d_M_unit_41 (by decide) (fun h3 => ?_) (fun h3 => ?_)
      · refine pv_iload_n C d_M_unit_51 rfl 2 rfl ?_
        refine pv_iconst (v := 1) C d_M_unit_52 (by decide) ?_
        refine pv_icmp_ne (tgt := 65) C d_M_unit_53 (by decide) (fun h4 => ?_) (fun h4 => ?_)
        · refine pv_iload_n C d_M_unit_65 rfl 2 rfl ?_
          refine pv_iconst (v := 2) C d_M_unit_66 (by decide) ?_
          refine pv_icmp_ne (tgt := 79) C d_M_unit_67 (by decide) (fun h5 => ?_) (fun h5 => ?_)
          · refine pv_iload_n C d_M_unit_79 rfl 2 rfl ?_
            refine pv_iconst (v := 3) C d_M_unit_80 (by decide) ?_
            refine pv_icmp_ne (tgt := 91) C d_M_unit_81 (by decide) (fun h6 => ?_) (fun h6 => ?_)
            · refine pv_iload_n C d_M_unit_91 rfl 2 rfl ?_
              refine pv_iconst (v := 4) C d_M_unit_92 (by decide) ?_
              refine pv_icmp_ne (tgt := 103) C d_M_unit_93 (by decide) (fun h7 => ?_) (fun h7 => ?_)
              · refine pv_iload_n C d_M_unit_103 rfl 2 rfl ?_
                refine pv_iconst (v := 5) C d_M_unit_104 (by decide) ?_
                refine pv_icmp_ne (tgt := 117) C d_M_unit_105 (by decide) (fun h8 => ?_) (fun h8 => ?_)
                · refine pv_iload_n C d_M_unit_117 rfl 2 rfl ?_
                  refine pv_bipush (v := 6) C d_M_unit_118 (by decide) ?_
                  refine pv_icmp_ne (tgt := 132) C d_M_unit_120 (by decide) (fun h9 => ?_) (fun h9 => ?_)
                  · refine pv_aload_n C d_M_unit_132 rfl 0 rfl ?_
                    refine pm_get (v := .ref (ad 25)) C G 25 (by decide) fl_M_74 rfl rfl d_M_unit_133 ?_
                    refine pv_iload_n C d_M_unit_136 rfl 1 rfl ?_
                    refine pm_ald C G 25 (by decide) rfl (j := (ix u)) hU.1 (show (ix u) < 121 by omega) d_M_unit_137 ?_
                    refine pv_top (y := (z 25 (ix u))) (zs_k _ _ (by decide)) ?_
                    exact pv_iret C R0 d_M_unit_138 (by decide) (by decide) (mP_i (by unfold m_unit; rw [if_pos h1, if_pos h2, if_neg h3, if_neg h4, if_neg h5, if_neg h6, if_neg h7, if_neg h8, if_neg h9]))
                  · refine pv_aload_n C d_M_unit_123 rfl 0 rfl ?_
                    refine pm_get (v := .ref (ad 24)) C G 24 (by decide) fl_M_71 rfl rfl d_M_unit_124 ?_
                    refine pv_iload_n C d_M_unit_127 rfl 1 rfl ?_
                    refine pm_ald C G 24 (by decide) rfl (j := (ix u)) hU.1 (show (ix u) < 121 by omega) d_M_unit_128 ?_
                    refine pv_top (y := (z 24 (ix u))) (zs_k _ _ (by decide)) ?_
                    refine pv_goto (tgt := 138) C d_M_unit_129 (by decide) ?_
                    exact pv_iret C R0 d_M_unit_138 (by decide) (by decide) (mP_i (by unfold m_unit; rw [if_pos h1, if_pos h2, if_neg h3, if_neg h4, if_neg h5, if_neg h6, if_neg h7, if_neg h8, if_pos h9]))
                · refine pv_aload_n C d_M_unit_108 rfl 0 rfl ?_
                  refine pm_get (v := .ref (ad 23)) C G 23 (by decide) fl_M_68 rfl rfl d_M_unit_109 ?_
                  refine pv_iload_n C d_M_unit_112 rfl 1 rfl ?_
                  refine pm_ald C G 23 (by decide) rfl (j := (ix u)) hU.1 (show (ix u) < 121 by omega) d_M_unit_113 ?_
                  refine pv_top (y := (z 23 (ix u))) (zs_k _ _ (by decide)) ?_
                  refine pv_goto (tgt := 138) C d_M_unit_114 (by decide) ?_
                  exact pv_iret C R0 d_M_unit_138 (by decide) (by decide) (mP_i (by unfold m_unit; rw [if_pos h1, if_pos h2, if_neg h3, if_neg h4, if_neg h5, if_neg h6, if_neg h7, if_pos h8]))
              · refine pv_aload_n C d_M_unit_96 rfl 0 rfl ?_
                refine pm_get (v := .ref (ad 22)) C G 22 (by decide) fl_M_65 rfl rfl d_M_unit_97 ?_
                refine pv_iload_n C d_M_unit_100 rfl 1 rfl ?_
                refine pm_ald C G 22 (by decide) rfl (j := (ix u)) hU.1 (show (ix u) < 121 by omega) d_M_unit_101 ?_
                refine pv_top (y := (z 22 (ix u))) (zs_k _ _ (by decide)) ?_
                exact pv_iret C R0 d_M_unit_102 (by decide) (by decide) (mP_i (by unfold m_unit; rw [if_pos h1, if_pos h2, if_neg h3, if_neg h4, if_neg h5, if_neg h6, if_pos h7]))
            · refine pv_aload_n C d_M_unit_84 rfl 0 rfl ?_
              refine pm_get (v := .ref (ad 21)) C G 21 (by decide) fl_M_62 rfl rfl d_M_unit_85 ?_
              refine pv_iload_n C d_M_unit_88 rfl 1 rfl ?_
              refine pm_ald C G 21 (by decide) rfl (j := (ix u)) hU.1 (show (ix u) < 121 by omega) d_M_unit_89 ?_
              refine pv_top (y := (z 21 (ix u))) (zs_k _ _ (by decide)) ?_
              exact pv_iret C R0 d_M_unit_90 (by decide) (by decide) (mP_i (by unfold m_unit; rw [if_pos h1, if_pos h2, if_neg h3, if_neg h4, if_neg h5, if_pos h6]))
          · refine pv_aload_n C d_M_unit_70 rfl 0 rfl ?_
            refine pm_get (v := .ref (ad 19)) C G 19 (by decide) fl_M_56 rfl rfl d_M_unit_71 ?_
            refine pv_iload_n C d_M_unit_74 rfl 1 rfl ?_
            refine pm_ald C G 19 (by decide) rfl (j := (ix u)) hU.1 (show (ix u) < 121 by omega) d_M_unit_75 ?_
            refine pv_top (y := (z 19 (ix u))) (zs_k _ _ (by decide)) ?_
            refine pv_iconst (v := 4) C d_M_unit_76 (by decide) ?_
            refine pv_irem C d_M_unit_77 (by decide) ?_
            exact pv_iret C R0 d_M_unit_78 (by decide) (by decide) (mP_i (by unfold m_unit; rw [if_pos h1, if_pos h2, if_neg h3, if_neg h4, if_pos h5]))
        · refine pv_aload_n C d_M_unit_56 rfl 0 rfl ?_
          refine pm_get (v := .ref (ad 19)) C G 19 (by decide) fl_M_56 rfl rfl d_M_unit_57 ?_
          refine pv_iload_n C d_M_unit_60 rfl 1 rfl ?_
          refine pm_ald C G 19 (by decide) rfl (j := (ix u)) hU.1 (show (ix u) < 121 by omega) d_M_unit_61 ?_
          refine pv_top (y := (z 19 (ix u))) (zs_k _ _ (by decide)) ?_
          refine pv_iconst (v := 4) C d_M_unit_62 (by decide) ?_
          refine pv_idiv C d_M_unit_63 (by decide) ?_
          exact pv_iret C R0 d_M_unit_64 (by decide) (by decide) (mP_i (by unfold m_unit; rw [if_pos h1, if_pos h2, if_neg h3, if_pos h4]))
      · refine pv_aload_n C d_M_unit_44 rfl 0 rfl ?_
        refine pm_get (v := .ref (ad 20)) C G 20 (by decide) fl_M_59 rfl rfl d_M_unit_45 ?_
        refine pv_iload_n C d_M_unit_48 rfl 1 rfl ?_
        refine pm_ald C G 20 (by decide) rfl (j := (ix u)) hU.1 (show (ix u) < 121 by omega) d_M_unit_49 ?_
        refine pv_top (y := (z 20 (ix u))) (zs_k _ _ (by decide)) ?_
        exact pv_iret C R0 d_M_unit_50 (by decide) (by decide) (mP_i (by unfold m_unit; rw [if_pos h1, if_pos h2, if_pos h3]))
    · refine pv_iconst (v := 2) C d_M_unit_23 (by decide) ?_
      refine pv_goto (tgt := 28) C d_M_unit_24 (by decide) ?_
      refine pm_put C G 0 (by decide) fl_M_83 rfl rfl rfl (by decide) rfl d_M_unit_28 ?_
      refine pv_aload_n C d_M_unit_31 rfl 0 rfl ?_
      refine pm_get (v := .int 2) C G 0 (by decide) fl_M_83 rfl rfl d_M_unit_32 ?_
      refine pv_if_le (tgt := 40) C d_M_unit_35 (by decide) (fun q => absurd q (by decide)) (fun _ => ?_)
      refine pv_iconst (v := 0) C d_M_unit_38 (by decide) ?_
      exact pv_iret C R0 d_M_unit_39 (by decide) (by decide) (mP_i (by unfold m_unit; rw [if_pos h1, if_neg (nT h2)]))
  · refine pv_iconst (v := 1) C d_M_unit_9 (by decide) ?_
    refine pv_goto (tgt := 28) C d_M_unit_10 (by decide) ?_
    refine pm_put C G 0 (by decide) fl_M_83 rfl rfl rfl (by decide) rfl d_M_unit_28 ?_
    refine pv_aload_n C d_M_unit_31 rfl 0 rfl ?_
    refine pm_get (v := .int 1) C G 0 (by decide) fl_M_83 rfl rfl d_M_unit_32 ?_
    refine pv_if_le (tgt := 40) C d_M_unit_35 (by decide) (fun q => absurd q (by decide)) (fun _ => ?_)
    refine pv_iconst (v := 0) C d_M_unit_38 (by decide) ?_
    exact pv_iret C R0 d_M_unit_39 (by decide) (by decide) (mP_i (by unfold m_unit; rw [if_neg (nT h1)]))
abbrev rm_M_told : Room := { frames := 3, cells := 0, slots := 0, locals := 65 }
def m_told (z : zT) (a : Int32) (n : Int32) (w : Int32) : Int32 × zT :=
  (if (isL z a n) = true then (if (inB w 0 6) = true then (if w = 0 then ((z 9 (4 * ix a + ix n)), (zs z 0 0 0)) else (if w = 1 then ((z 10 (4 * ix a + ix n)), (zs z 0 0 0)) else (if w = 2 then ((z 12 (4 * ix a + ix n)), (zs z 0 0 0)) else (if w = 3 then (if (z 16 (4 * ix a + ix n)) = 0 then (0, (zs z 0 0 0)) else (1, (zs z 0 0 0))) else (if w = 4 then ((m_open z (4 * ix a + ix n)), (zs z 0 0 0)) else (if w = 5 then (if (z 15 (4 * ix a + ix n)) = 0 then (0, (zs z 0 0 0)) else (1, (zs z 0 0 0))) else ((z 10 (4 * ix a + ix n) + z 10 (4 * ix a + ix n) * z 11 (4 * ix a + ix n) / 100), (zs z 0 0 0)))))))) else (0, (zs z 0 0 2))) else (0, (zs z 0 0 1)))
set_option maxRecDepth 100000 in
set_option maxHeartbeats 4000000 in
theorem c_M_told {l0 : Launch} {D : va_G} {γ : Nat → ClassId} (hl0 : l0.stackTraces = false) {LP : List Nat} {f0 : Nat → va_E} {mo : Nat} {ad : Nat → Nat} (G : mm_H mo ad LP) (z : zT) (a : Int32) (n : Int32) (w : Int32) (hz : zI z) : mM l0 D γ y_M_told (Cond.code y_M_told b_M_told 5 (Option.some FieldType.int)) rm_M_told [.ref mo, .int a, .int n, .int w] LP f0 mo ad z (some (.int (m_told z a n w).1)) (m_told z a n w).2 := by
  refine pv_mk hl0 (by decide) (Nat.le_of_ble_eq_true rfl) (fun κ C R0 hN _ => ?_)
  show pv_V D κ 0 0 LP (mm_f γ f0 mo ad z) 0 [(0, .ref mo), (1, .int a), (2, .int n), (3, .int w)] []
  refine pv_aload_n C d_M_told_0 rfl 0 rfl ?_
  refine pv_aload_n C d_M_told_1 rfl 0 rfl ?_
  refine pv_iload_n C d_M_told_2 rfl 1 rfl ?_
  refine pv_iload_n C d_M_told_3 rfl 2 rfl ?_
  refine pv_callV (n := 2) (As := [.int a, .int n]) (rest := [.ref mo]) C (c_M_isLine hl0 G z a n hz) cd_M_isLine ml_M_107 in_M im_M_isLine se_M_isLine G.1 mm_obj rfl rfl (by decide +kernel) (by decide) rfl (Nat.le_of_ble_eq_true rfl) rfl d_M_told_4 (by decide) hN R0 (fun _ h => h.elim) (fun v9 LP9 f9 h9 => ?_)
  obtain ⟨rfl, rfl, rfl⟩ := h9
  refine pv_st (st2 := [.int (bN (isL z a n)), .ref mo]) (c2 := 0) (s2 := 0) rfl rfl rfl ?_
  refine pv_ifb_ne (tgt := 14) C d_M_told_7 (by decide) (fun h1 => ?_) (fun h1 => ?_)
  · have hL := isL_ix hz h1
    refine pv_iload_n C d_M_told_14 rfl 3 rfl ?_
    refine pv_iconst (v := 0) C d_M_told_15 (by decide) ?_
    refine pv_bipush (v := 6) C d_M_told_16 (by decide) ?_
    refine pv_callS (n := 3) (As := [.int w, .int 0, .int 6]) (rest := [.ref mo]) C (c_M_in hl0 G z w 0 6) cd_M_in ml_M_90 in_M sm_M_in (by decide +kernel) (by decide) rfl (Nat.le_of_ble_eq_true rfl) rfl d_M_told_18 (by decide) hN R0 (fun _ h => h.elim) (fun v9 LP9 f9 h9 => ?_)
    obtain ⟨rfl, rfl, rfl⟩ := h9
    refine pv_st (st2 := [.int (bN (inB w 0 6)), .ref mo]) (c2 := 0) (s2 := 0) rfl rfl rfl ?_
    refine pv_ifb_ne (tgt := 28) C d_M_told_21 (by decide) (fun h2 => ?_) (fun h2 => ?_)
    · refine pv_iconst (v := 0) C d_M_told_28 (by decide) ?_
      refine pm_put C G 0 (by decide) fl_M_83 rfl rfl rfl (by decide) rfl d_M_told_29 ?_
      refine pv_aload_n C d_M_told_32 rfl 0 rfl ?_
      refine pm_get (v := .int 0) C G 0 (by decide) fl_M_83 rfl rfl d_M_told_33 ?_
      refine pv_if_le (tgt := 41) C d_M_told_36 (by decide) (fun _ => ?_) (fun q => absurd q (by decide))
      refine pv_iconst (v := 4) C d_M_told_41 (by decide) ?_
      refine pv_iload_n C d_M_told_42 rfl 1 rfl ?_
      refine pv_imul C d_M_told_43 ?_
      refine pv_iload_n C d_M_told_44 rfl 2 rfl ?_
      refine pv_iadd C d_M_told_45 ?_
      refine pv_istore (lv' := [(4, .int ((4 * a) + n)), (0, .ref mo), (1, .int a), (2, .int n), (3, .int w)]) C d_M_told_46 (by decide) rfl ?_
      refine pv_iload_n C d_M_told_48 rfl 4 rfl ?_
      refine pv_if_ne (tgt := 60) C d_M_told_49 (by decide) (fun h3 => ?_) (fun h3 => ?_)
      · refine pv_iload_n C d_M_told_60 rfl 4 rfl ?_
        refine pv_iconst (v := 1) C d_M_told_61 (by decide) ?_
        refine pv_icmp_ne (tgt := 73) C d_M_told_62 (by decide) (fun h4 => ?_) (fun h4 => ?_)
        · refine pv_iload_n C d_M_told_73 rfl 4 rfl ?_
          refine pv_iconst (v := 2) C d_M_told_74 (by decide) ?_
          refine pv_icmp_ne (tgt := 86) C d_M_told_75 (by decide) (fun h5 => ?_) (fun h5 => ?_)
          · refine pv_iload_n C d_M_told_86 rfl 4 rfl ?_
            refine pv_iconst (v := 3) C d_M_told_87 (by decide) ?_
            refine pv_icmp_ne (tgt := 107) C d_M_told_88 (by decide) (fun h6 => ?_) (fun h6 => ?_)
            · refine pv_iload_n C d_M_told_107 rfl 4 rfl ?_
              refine pv_iconst (v := 4) C d_M_told_108 (by decide) ?_
              refine pv_icmp_ne (tgt := 119) C d_M_told_109 (by decide) (fun h7 => ?_) (fun h7 => ?_)
              · refine pv_iload_n C d_M_told_119 rfl 4 rfl ?_
                refine pv_iconst (v := 5) C d_M_told_120 (by decide) ?_
                refine pv_icmp_ne (tgt := 142) C d_M_told_121 (by decide) (fun h8 => ?_) (fun h8 => ?_)
                · refine pv_aload_n C d_M_told_142 rfl 1 rfl ?_
                  refine pv_iload C d_M_told_143 0 rfl ?_
                  refine pv_callV (n := 1) (As := [.int ((4 * a) + n)]) (rest := []) C (c_M_takes hl0 G (zs z 0 0 0) ((4 * a) + n) (4 * ix a + ix n) (by omega) (ln_ix hL.1.1 hL.2.1)) cd_M_takes ml_M_111 in_M im_M_takes se_M_takes G.1 mm_obj rfl rfl (by decide +kernel) (by decide) rfl (Nat.le_of_ble_eq_true rfl) rfl d_M_told_145 (by decide) hN R0 (fun _ h => h.elim) (fun v9 LP9 f9 h9 => ?_)
                  obtain ⟨rfl, rfl, rfl⟩ := h9
                  refine pv_st (st2 := [.int (z 10 (4 * ix a + ix n) + z 10 (4 * ix a + ix n) * z 11 (4 * ix a + ix n) / 100)]) (c2 := 0) (s2 := 0) rfl rfl rfl ?_
                  exact pv_iret C R0 d_M_told_148 (by decide) (by decide) (mP_i (by unfold m_told; rw [if_pos h1, if_pos h2, if_neg h3, if_neg h4, if_neg h5, if_neg h6, if_neg h7, if_neg h8]))
                · refine pv_aload_n C d_M_told_124 rfl 1 rfl ?_
                  refine pm_get (v := .ref (ad 15)) C G 15 (by decide) fl_M_47 rfl rfl d_M_told_125 ?_
                  refine pv_iload C d_M_told_128 0 rfl ?_
                  refine pm_zld C G 15 (by decide) rfl (j := (4 * ix a + ix n)) (ln_ix hL.1.1 hL.2.1) (show (4 * ix a + ix n) < 68 by omega) d_M_told_130 ?_
                  refine pv_top (y := (z 15 (4 * ix a + ix n))) (zs_k _ _ (by decide)) ?_
                  refine pv_if_eq (tgt := 138) C d_M_told_131 (by decide) (fun h9 => ?_) (fun h9 => ?_)
                  · refine pv_iconst (v := 0) C d_M_told_138 (by decide) ?_
                    refine pv_goto (tgt := 148) C d_M_told_139 (by decide) ?_
                    exact pv_iret C R0 d_M_told_148 (by decide) (by decide) (mP_i (by unfold m_told; rw [if_pos h1, if_pos h2, if_neg h3, if_neg h4, if_neg h5, if_neg h6, if_neg h7, if_pos h8, if_pos h9]))
                  · refine pv_iconst (v := 1) C d_M_told_134 (by decide) ?_
                    refine pv_goto (tgt := 148) C d_M_told_135 (by decide) ?_
                    exact pv_iret C R0 d_M_told_148 (by decide) (by decide) (mP_i (by unfold m_told; rw [if_pos h1, if_pos h2, if_neg h3, if_neg h4, if_neg h5, if_neg h6, if_neg h7, if_pos h8, if_neg h9]))
              · refine pv_aload_n C d_M_told_112 rfl 1 rfl ?_
                refine pv_iload C d_M_told_113 0 rfl ?_
                refine pv_callV (n := 1) (As := [.int ((4 * a) + n)]) (rest := []) C (c_M_openSamples hl0 G (zs z 0 0 0) ((4 * a) + n) (4 * ix a + ix n) (by omega) (ln_ix hL.1.1 hL.2.1)) cd_M_openSamples ml_M_118 in_M im_M_openSamples se_M_openSamples G.1 mm_obj rfl rfl (by decide +kernel) (by decide) rfl (Nat.le_of_ble_eq_true rfl) rfl d_M_told_115 (by decide) hN R0 (fun _ h => h.elim) (fun v9 LP9 f9 h9 => ?_)
                obtain ⟨rfl, rfl, rfl⟩ := h9
                refine pv_st (st2 := [.int (m_open z (4 * ix a + ix n))]) (c2 := 0) (s2 := 0) rfl rfl rfl ?_
                exact pv_iret C R0 d_M_told_118 (by decide) (by decide) (mP_i (by unfold m_told; rw [if_pos h1, if_pos h2, if_neg h3, if_neg h4, if_neg h5, if_neg h6, if_pos h7]))
            · refine pv_aload_n C d_M_told_91 rfl 1 rfl ?_
              refine pm_get (v := .ref (ad 16)) C G 16 (by decide) fl_M_50 rfl rfl d_M_told_92 ?_
              refine pv_iload C d_M_told_95 0 rfl ?_
              refine pm_zld C G 16 (by decide) rfl (j := (4 * ix a + ix n)) (ln_ix hL.1.1 hL.2.1) (show (4 * ix a + ix n) < 68 by omega) d_M_told_97 ?_
              refine pv_top (y := (z 16 (4 * ix a + ix n))) (zs_k _ _ (by decide)) ?_
              refine pv_if_eq (tgt := 105) C d_M_told_98 (by decide) (fun h10 => ?_) (fun h10 => ?_)
              · refine pv_iconst (v := 0) C d_M_told_105 (by decide) ?_
                exact pv_iret C R0 d_M_told_106 (by decide) (by decide) (mP_i (by unfold m_told; rw [if_pos h1, if_pos h2, if_neg h3, if_neg h4, if_neg h5, if_pos h6, if_pos h10]))
              · refine pv_iconst (v := 1) C d_M_told_101 (by decide) ?_
                refine pv_goto (tgt := 106) C d_M_told_102 (by decide) ?_
                exact pv_iret C R0 d_M_told_106 (by decide) (by decide) (mP_i (by unfold m_told; rw [if_pos h1, if_pos h2, if_neg h3, if_neg h4, if_neg h5, if_pos h6, if_neg h10]))
          · refine pv_aload_n C d_M_told_78 rfl 1 rfl ?_
            refine pm_get (v := .ref (ad 12)) C G 12 (by decide) fl_M_38 rfl rfl d_M_told_79 ?_
            refine pv_iload C d_M_told_82 0 rfl ?_
            refine pm_ald C G 12 (by decide) rfl (j := (4 * ix a + ix n)) (ln_ix hL.1.1 hL.2.1) (show (4 * ix a + ix n) < 68 by omega) d_M_told_84 ?_
            refine pv_top (y := (z 12 (4 * ix a + ix n))) (zs_k _ _ (by decide)) ?_
            exact pv_iret C R0 d_M_told_85 (by decide) (by decide) (mP_i (by unfold m_told; rw [if_pos h1, if_pos h2, if_neg h3, if_neg h4, if_pos h5]))
        · refine pv_aload_n C d_M_told_65 rfl 1 rfl ?_
          refine pm_get (v := .ref (ad 10)) C G 10 (by decide) fl_M_32 rfl rfl d_M_told_66 ?_
          refine pv_iload C d_M_told_69 0 rfl ?_
          refine pm_ald C G 10 (by decide) rfl (j := (4 * ix a + ix n)) (ln_ix hL.1.1 hL.2.1) (show (4 * ix a + ix n) < 68 by omega) d_M_told_71 ?_
          refine pv_top (y := (z 10 (4 * ix a + ix n))) (zs_k _ _ (by decide)) ?_
          exact pv_iret C R0 d_M_told_72 (by decide) (by decide) (mP_i (by unfold m_told; rw [if_pos h1, if_pos h2, if_neg h3, if_pos h4]))
      · refine pv_aload_n C d_M_told_52 rfl 1 rfl ?_
        refine pm_get (v := .ref (ad 9)) C G 9 (by decide) fl_M_29 rfl rfl d_M_told_53 ?_
        refine pv_iload C d_M_told_56 0 rfl ?_
        refine pm_ald C G 9 (by decide) rfl (j := (4 * ix a + ix n)) (ln_ix hL.1.1 hL.2.1) (show (4 * ix a + ix n) < 68 by omega) d_M_told_58 ?_
        refine pv_top (y := (z 9 (4 * ix a + ix n))) (zs_k _ _ (by decide)) ?_
        exact pv_iret C R0 d_M_told_59 (by decide) (by decide) (mP_i (by unfold m_told; rw [if_pos h1, if_pos h2, if_pos h3]))
    · refine pv_iconst (v := 2) C d_M_told_24 (by decide) ?_
      refine pv_goto (tgt := 29) C d_M_told_25 (by decide) ?_
      refine pm_put C G 0 (by decide) fl_M_83 rfl rfl rfl (by decide) rfl d_M_told_29 ?_
      refine pv_aload_n C d_M_told_32 rfl 0 rfl ?_
      refine pm_get (v := .int 2) C G 0 (by decide) fl_M_83 rfl rfl d_M_told_33 ?_
      refine pv_if_le (tgt := 41) C d_M_told_36 (by decide) (fun q => absurd q (by decide)) (fun _ => ?_)
      refine pv_iconst (v := 0) C d_M_told_39 (by decide) ?_
      exact pv_iret C R0 d_M_told_40 (by decide) (by decide) (mP_i (by unfold m_told; rw [if_pos h1, if_neg (nT h2)]))
  · refine pv_iconst (v := 1) C d_M_told_10 (by decide) ?_
    refine pv_goto (tgt := 29) C d_M_told_11 (by decide) ?_
    refine pm_put C G 0 (by decide) fl_M_83 rfl rfl rfl (by decide) rfl d_M_told_29 ?_
    refine pv_aload_n C d_M_told_32 rfl 0 rfl ?_
    refine pm_get (v := .int 1) C G 0 (by decide) fl_M_83 rfl rfl d_M_told_33 ?_
    refine pv_if_le (tgt := 41) C d_M_told_36 (by decide) (fun q => absurd q (by decide)) (fun _ => ?_)
    refine pv_iconst (v := 0) C d_M_told_39 (by decide) ?_
    exact pv_iret C R0 d_M_told_40 (by decide) (by decide) (mP_i (by unfold m_told; rw [if_neg (nT h1)]))
abbrev rm_M_differ : Room := { frames := 1, cells := 0, slots := 0, locals := 22 }
def m_differ (z : zT) (i : Int32) (w : Int32) : Int32 × zT :=
  (if (inB i 0 ((z 29 0) - 1)) = true then (if (inB w 0 2) = true then (if w = 0 then (((z 30 (ix i)) / 4), (zs z 0 0 0)) else (if w = 1 then (((z 30 (ix i)) - (z 30 (ix i)) / 4 * 4), (zs z 0 0 0)) else (((z 12 (ix (z 30 (ix i)))) - (z 10 (ix (z 30 (ix i))))), (zs z 0 0 0)))) else (0, (zs z 0 0 2))) else (0, (zs z 0 0 1)))
set_option maxRecDepth 100000 in
set_option maxHeartbeats 4000000 in
theorem c_M_differ {l0 : Launch} {D : va_G} {γ : Nat → ClassId} (hl0 : l0.stackTraces = false) {LP : List Nat} {f0 : Nat → va_E} {mo : Nat} {ad : Nat → Nat} (G : mm_H mo ad LP) (z : zT) (i : Int32) (w : Int32) (hz : zI z) : mM l0 D γ y_M_differ (Cond.code y_M_differ b_M_differ 4 (Option.some FieldType.int)) rm_M_differ [.ref mo, .int i, .int w] LP f0 mo ad z (some (.int (m_differ z i w).1)) (m_differ z i w).2 := by
  refine pv_mk hl0 (by decide) (Nat.le_of_ble_eq_true rfl) (fun κ C R0 hN _ => ?_)
  show pv_V D κ 0 0 LP (mm_f γ f0 mo ad z) 0 [(0, .ref mo), (1, .int i), (2, .int w)] []
  refine pv_aload_n C d_M_differ_0 rfl 0 rfl ?_
  refine pv_iload_n C d_M_differ_1 rfl 1 rfl ?_
  refine pv_iconst (v := 0) C d_M_differ_2 (by decide) ?_
  refine pv_aload_n C d_M_differ_3 rfl 0 rfl ?_
  refine pm_get (v := .int (z 29 0)) C G 29 (by decide) fl_M_141 rfl rfl d_M_differ_4 ?_
  refine pv_iconst (v := 1) C d_M_differ_7 (by decide) ?_
  refine pv_isub C d_M_differ_8 ?_
  refine pv_callS (n := 3) (As := [.int i, .int 0, .int ((z 29 0) - 1)]) (rest := [.ref mo]) C (c_M_in hl0 G z i 0 ((z 29 0) - 1)) cd_M_in ml_M_90 in_M sm_M_in (by decide +kernel) (by decide) rfl (Nat.le_of_ble_eq_true rfl) rfl d_M_differ_9 (by decide) hN R0 (fun _ h => h.elim) (fun v9 LP9 f9 h9 => ?_)
  obtain ⟨rfl, rfl, rfl⟩ := h9
  refine pv_st (st2 := [.int (bN (inB i 0 ((z 29 0) - 1))), .ref mo]) (c2 := 0) (s2 := 0) rfl rfl rfl ?_
  refine pv_ifb_ne (tgt := 19) C d_M_differ_12 (by decide) (fun h1 => ?_) (fun h1 => ?_)
  · refine pv_iload_n C d_M_differ_19 rfl 2 rfl ?_
    refine pv_iconst (v := 0) C d_M_differ_20 (by decide) ?_
    refine pv_iconst (v := 2) C d_M_differ_21 (by decide) ?_
    refine pv_callS (n := 3) (As := [.int w, .int 0, .int 2]) (rest := [.ref mo]) C (c_M_in hl0 G z w 0 2) cd_M_in ml_M_90 in_M sm_M_in (by decide +kernel) (by decide) rfl (Nat.le_of_ble_eq_true rfl) rfl d_M_differ_22 (by decide) hN R0 (fun _ h => h.elim) (fun v9 LP9 f9 h9 => ?_)
    obtain ⟨rfl, rfl, rfl⟩ := h9
    refine pv_st (st2 := [.int (bN (inB w 0 2)), .ref mo]) (c2 := 0) (s2 := 0) rfl rfl rfl ?_
    refine pv_ifb_ne (tgt := 32) C d_M_differ_25 (by decide) (fun h2 => ?_) (fun h2 => ?_)
    · refine pv_iconst (v := 0) C d_M_differ_32 (by decide) ?_
      refine pm_put C G 0 (by decide) fl_M_83 rfl rfl rfl (by decide) rfl d_M_differ_33 ?_
      refine pv_aload_n C d_M_differ_36 rfl 0 rfl ?_
      refine pm_get (v := .int 0) C G 0 (by decide) fl_M_83 rfl rfl d_M_differ_37 ?_
      refine pv_if_le (tgt := 45) C d_M_differ_40 (by decide) (fun _ => ?_) (fun q => absurd q (by decide))
      have hI := df_ix hz h1
      have hJ := hz.2.2.2.2.2 (ix i) hI.2
      have hDD := hz.2.2.1.2
      refine pv_aload_n C d_M_differ_45 rfl 0 rfl ?_
      refine pm_get (v := .ref (ad 30)) C G 30 (by decide) fl_M_80 rfl rfl d_M_differ_46 ?_
      refine pv_iload_n C d_M_differ_49 rfl 1 rfl ?_
      refine pm_ald C G 30 (by decide) rfl (j := (ix i)) hI.1 (show (ix i) < 64 by omega) d_M_differ_50 ?_
      refine pv_top (y := (z 30 (ix i))) (zs_k _ _ (by decide)) ?_
      refine pv_istore_n (lv' := [(3, .int (z 30 (ix i))), (0, .ref mo), (1, .int i), (2, .int w)]) C d_M_differ_51 rfl (by decide) rfl ?_
      refine pv_iload_n C d_M_differ_52 rfl 3 rfl ?_
      refine pv_if_ne (tgt := 62) C d_M_differ_53 (by decide) (fun h3 => ?_) (fun h3 => ?_)
      · refine pv_iload_n C d_M_differ_62 rfl 3 rfl ?_
        refine pv_iconst (v := 1) C d_M_differ_63 (by decide) ?_
        refine pv_icmp_ne (tgt := 73) C d_M_differ_64 (by decide) (fun h4 => ?_) (fun h4 => ?_)
        · refine pv_aload_n C d_M_differ_73 rfl 1 rfl ?_
          refine pm_get (v := .ref (ad 12)) C G 12 (by decide) fl_M_38 rfl rfl d_M_differ_74 ?_
          refine pv_iload_n C d_M_differ_77 rfl 0 rfl ?_
          refine pm_ald C G 12 (by decide) rfl (j := (ix (z 30 (ix i)))) hJ.1 (show (ix (z 30 (ix i))) < 68 by omega) d_M_differ_78 ?_
          refine pv_top (y := (z 12 (ix (z 30 (ix i))))) (zs_k _ _ (by decide)) ?_
          refine pv_aload_n C d_M_differ_79 rfl 1 rfl ?_
          refine pm_get (v := .ref (ad 10)) C G 10 (by decide) fl_M_32 rfl rfl d_M_differ_80 ?_
          refine pv_iload_n C d_M_differ_83 rfl 0 rfl ?_
          refine pm_ald C G 10 (by decide) rfl (j := (ix (z 30 (ix i)))) hJ.1 (show (ix (z 30 (ix i))) < 68 by omega) d_M_differ_84 ?_
          refine pv_top (y := (z 10 (ix (z 30 (ix i))))) (zs_k _ _ (by decide)) ?_
          refine pv_isub C d_M_differ_85 ?_
          exact pv_iret C R0 d_M_differ_86 (by decide) (by decide) (mP_i (by unfold m_differ; rw [if_pos h1, if_pos h2, if_neg h3, if_neg h4]))
        · refine pv_iload_n C d_M_differ_67 rfl 0 rfl ?_
          refine pv_iconst (v := 4) C d_M_differ_68 (by decide) ?_
          refine pv_irem C d_M_differ_69 (by decide) ?_
          refine pv_goto (tgt := 86) C d_M_differ_70 (by decide) ?_
          exact pv_iret C R0 d_M_differ_86 (by decide) (by decide) (mP_i (by unfold m_differ; rw [if_pos h1, if_pos h2, if_neg h3, if_pos h4]))
      · refine pv_iload_n C d_M_differ_56 rfl 0 rfl ?_
        refine pv_iconst (v := 4) C d_M_differ_57 (by decide) ?_
        refine pv_idiv C d_M_differ_58 (by decide) ?_
        refine pv_goto (tgt := 86) C d_M_differ_59 (by decide) ?_
        exact pv_iret C R0 d_M_differ_86 (by decide) (by decide) (mP_i (by unfold m_differ; rw [if_pos h1, if_pos h2, if_pos h3]))
    · refine pv_iconst (v := 2) C d_M_differ_28 (by decide) ?_
      refine pv_goto (tgt := 33) C d_M_differ_29 (by decide) ?_
      refine pm_put C G 0 (by decide) fl_M_83 rfl rfl rfl (by decide) rfl d_M_differ_33 ?_
      refine pv_aload_n C d_M_differ_36 rfl 0 rfl ?_
      refine pm_get (v := .int 2) C G 0 (by decide) fl_M_83 rfl rfl d_M_differ_37 ?_
      refine pv_if_le (tgt := 45) C d_M_differ_40 (by decide) (fun q => absurd q (by decide)) (fun _ => ?_)
      refine pv_iconst (v := 0) C d_M_differ_43 (by decide) ?_
      exact pv_iret C R0 d_M_differ_44 (by decide) (by decide) (mP_i (by unfold m_differ; rw [if_pos h1, if_neg (nT h2)]))
  · refine pv_iconst (v := 1) C d_M_differ_15 (by decide) ?_
    refine pv_goto (tgt := 33) C d_M_differ_16 (by decide) ?_
    refine pm_put C G 0 (by decide) fl_M_83 rfl rfl rfl (by decide) rfl d_M_differ_33 ?_
    refine pv_aload_n C d_M_differ_36 rfl 0 rfl ?_
    refine pm_get (v := .int 1) C G 0 (by decide) fl_M_83 rfl rfl d_M_differ_37 ?_
    refine pv_if_le (tgt := 45) C d_M_differ_40 (by decide) (fun q => absurd q (by decide)) (fun _ => ?_)
    refine pv_iconst (v := 0) C d_M_differ_43 (by decide) ?_
    exact pv_iret C R0 d_M_differ_44 (by decide) (by decide) (mP_i (by unfold m_differ; rw [if_neg (nT h1)]))
end
section
/-! contracts of the reference: loops (by wip/whole/gen/m2.py) -/
section PL
variable {D : va_G} {κ : pv_K} {cells slots : Nat} {LP : List Nat} {f : Nat → va_E} {pc : Nat} {lv : List (Nat × Value)} {st : List Value}
theorem pv_lvs {lv2 : List (Nat × Value)} (ks : List Nat) (h : lv_pick lv ks = lv2) (kk : pv_V D κ cells slots LP f pc lv2 st) : pv_V D κ cells slots LP f pc lv st := by
  obtain ⟨p, l, e, R, s, m, args, below, meth, c, A, nL, Q⟩ := κ
  exact fun H locs ls hP hD hS hl => kk H locs ls hP hD hS (lv_sub hl ks h)
theorem pv_stf {f2 : Nat → va_E} {st2 : List Value} {c2 s2 : Nat} (hf : f = f2) (h : st = st2) (hc : cells = c2) (hs : slots = s2) (kk : pv_V D κ c2 s2 LP f2 pc lv st2) : pv_V D κ cells slots LP f pc lv st := by
  subst hf
  subst h
  subst hc
  subst hs
  exact kk
end PL
def lAny (p : Nat → Bool) : Nat → Bool
  | 0 => false
  | n + 1 => lAny p n || p (n + 1)
theorem lAny_t {p : Nat → Bool} : ∀ {N i : Nat}, 1 ≤ i → i ≤ N → p i = true → lAny p N = true
  | 0, i, h1, h2, _ => absurd h2 (by omega)
  | N + 1, i, h1, h2, h3 => by
    by_cases h : i = N + 1
    · subst h; simp [lAny, h3]
    · simp [lAny, lAny_t h1 (by omega : i ≤ N) h3]
theorem lAny_f {p : Nat → Bool} : ∀ {N : Nat}, (∀ a, 1 ≤ a → a ≤ N → p a = false) → lAny p N = false
  | 0, _ => rfl
  | N + 1, h => by
    have h0 := lAny_f (p := p) (N := N) (fun a h1 h2 => h a h1 (by omega))
    simp [lAny, h0, h (N + 1) (by omega) (Nat.le_refl _)]
theorem lExt {p : Nat → Bool} {i : Nat} (hn : ∀ a, 1 ≤ a → a < i → p a = false) (hi : p i = false) : ∀ a, 1 ≤ a → a < i + 1 → p a = false := by
  intro a h1 h2
  by_cases q : a = i
  · rw [q]; exact hi
  · exact hn a h1 (by omega)
def lCnt (p : Nat → Bool) : Nat → Int32
  | 0 => 0
  | n + 1 => lCnt p n + bN (p (n + 1))
/-- is the door d taken, of n announcements with their doors and states -/
def tkP (dr sx : Nat → Int32) (d : Int32) (a : Nat) : Bool := decide (dr a = d) && (decide (sx a = 1) || decide (sx a = 2))
theorem nI_next (i : Nat) : nI i + 1 = nI (i + 1) := (nI_succ i).symm
abbrev rm_M_isTaken : Room := { frames := 0, cells := 0, slots := 0, locals := 0 }
set_option maxRecDepth 100000 in
set_option maxHeartbeats 4000000 in
theorem c_M_isTaken {l0 : Launch} {D : va_G} {γ : Nat → ClassId} (hl0 : l0.stackTraces = false) {LP : List Nat} {f0 : Nat → va_E} {mo : Nat} {ad : Nat → Nat} (G : mm_H mo ad LP) (z : zT) (d : Int32) (hz : (z 3 0 = nI (zA z) ∧ zA z ≤ 16)) : mM l0 D γ y_M_isTaken (Cond.code y_M_isTaken b_M_isTaken 3 (Option.some FieldType.boolean)) rm_M_isTaken [.ref mo, .int d] LP f0 mo ad z (some (.int ((bN (lAny (tkP (z 8) (z 7) d) (zA z)), z)).1)) ((bN (lAny (tkP (z 8) (z 7) d) (zA z)), z)).2 := by
  refine pv_mk hl0 (by decide) (Nat.le_of_ble_eq_true rfl) (fun κ C R0 hN _ => ?_)
  show pv_V D κ 0 0 LP (mm_f γ f0 mo ad z) 0 [(0, .ref mo), (1, .int d)] []
  have loop : ∀ (n9 : Nat) (i : Nat) (h1 : 1 ≤ i) (h2 : i ≤ zA z + 1) (hn : ∀ a, 1 ≤ a → a < i → tkP (z 8) (z 7) d a = false), zA z + 1 - i < n9 → pv_V D κ 0 0 LP (mm_f γ f0 mo ad z) 2 [(2, .int (nI i)), (0, .ref mo), (1, .int d)] [] := by
    intro n9
    induction n9 with
    | zero => intro i h1 h2 hn hm; exact absurd hm (Nat.not_lt_zero _)
    | succ n9 ih =>
      intro i h1 h2 hn hm
      have hz1 := hz.2
      refine pv_iload_n C d_M_isTaken_2 rfl 0 rfl ?_
      refine pv_aload_n C d_M_isTaken_3 rfl 1 rfl ?_
      refine pm_get (v := .int (z 3 0)) C G 3 (by decide) fl_M_87 rfl rfl d_M_isTaken_4 ?_
      refine pv_icmp_gt (tgt := 48) C d_M_isTaken_7 (by decide) (fun h101 => ?_) (fun h101 => ?_)
      · refine pv_iconst (v := 0) C d_M_isTaken_48 (by decide) ?_
        exact pv_zret C rfl R0 d_M_isTaken_49 (by decide) (by decide) (mP_i (by rw [lAny_f (fun a q1 q2 => hn a q1 (by rw [hz.1] at h101; have := (nI_ltI (by omega) (by omega)).mp h101; omega))]; rfl))
      · have hle : i ≤ zA z := by rw [hz.1] at h101; exact Nat.not_lt.mp (fun q => h101 (nI_lt q (by omega)))
        refine pv_aload_n C d_M_isTaken_10 rfl 1 rfl ?_
        refine pm_get (v := .ref (ad 8)) C G 8 (by decide) fl_M_26 rfl rfl d_M_isTaken_11 ?_
        refine pv_iload_n C d_M_isTaken_14 rfl 0 rfl ?_
        refine pm_ald C G 8 (by decide) rfl (j := i) rfl (show i < 17 by omega) d_M_isTaken_15 ?_
        refine pv_top (y := (z 8 i)) rfl ?_
        refine pv_iload_n C d_M_isTaken_16 rfl 2 rfl ?_
        refine pv_icmp_ne (tgt := 42) C d_M_isTaken_17 (by decide) (fun h102 => ?_) (fun h102 => ?_)
        · refine pv_iinc (v := ((nI i) + 1)) (lv' := [(2, .int ((nI i) + 1)), (0, .ref mo), (1, .int d)]) C d_M_isTaken_42 0 rfl rfl (by decide) rfl ?_
          refine pv_goto (tgt := 2) C d_M_isTaken_45 (by decide) ?_
          refine pv_lvs (lv2 := [(2, .int (nI (i + 1))), (0, .ref mo), (1, .int d)]) [0, 1, 2] (by rw [← nI_next]; rfl) ?_
          exact ih (i + 1) (by omega) (by omega) (lExt hn (by simp [tkP, h102])) (by omega)
        · refine pv_aload_n C d_M_isTaken_20 rfl 1 rfl ?_
          refine pm_get (v := .ref (ad 7)) C G 7 (by decide) fl_M_23 rfl rfl d_M_isTaken_21 ?_
          refine pv_iload_n C d_M_isTaken_24 rfl 0 rfl ?_
          refine pm_ald C G 7 (by decide) rfl (j := i) rfl (show i < 17 by omega) d_M_isTaken_25 ?_
          refine pv_top (y := (z 7 i)) rfl ?_
          refine pv_iconst (v := 1) C d_M_isTaken_26 (by decide) ?_
          refine pv_icmp_eq (tgt := 40) C d_M_isTaken_27 (by decide) (fun h103 => ?_) (fun h103 => ?_)
          · refine pv_iconst (v := 1) C d_M_isTaken_40 (by decide) ?_
            exact pv_zret C rfl R0 d_M_isTaken_41 (by decide) (by decide) (mP_i (by rw [lAny_t h1 hle (by simp [tkP, h102, h103])]; rfl))
          · refine pv_aload_n C d_M_isTaken_30 rfl 1 rfl ?_
            refine pm_get (v := .ref (ad 7)) C G 7 (by decide) fl_M_23 rfl rfl d_M_isTaken_31 ?_
            refine pv_iload_n C d_M_isTaken_34 rfl 0 rfl ?_
            refine pm_ald C G 7 (by decide) rfl (j := i) rfl (show i < 17 by omega) d_M_isTaken_35 ?_
            refine pv_top (y := (z 7 i)) rfl ?_
            refine pv_iconst (v := 2) C d_M_isTaken_36 (by decide) ?_
            refine pv_icmp_ne (tgt := 42) C d_M_isTaken_37 (by decide) (fun h104 => ?_) (fun h104 => ?_)
            · refine pv_iinc (v := ((nI i) + 1)) (lv' := [(2, .int ((nI i) + 1)), (0, .ref mo), (1, .int d)]) C d_M_isTaken_42 0 rfl rfl (by decide) rfl ?_
              refine pv_goto (tgt := 2) C d_M_isTaken_45 (by decide) ?_
              refine pv_lvs (lv2 := [(2, .int (nI (i + 1))), (0, .ref mo), (1, .int d)]) [0, 1, 2] (by rw [← nI_next]; rfl) ?_
              exact ih (i + 1) (by omega) (by omega) (lExt hn (by simp [tkP, h102, h103, h104])) (by omega)
            · refine pv_iconst (v := 1) C d_M_isTaken_40 (by decide) ?_
              exact pv_zret C rfl R0 d_M_isTaken_41 (by decide) (by decide) (mP_i (by rw [lAny_t h1 hle (by simp [tkP, h102, h103, h104])]; rfl))
  refine pv_iconst (v := 1) C d_M_isTaken_0 (by decide) ?_
  refine pv_istore_n (lv' := [(2, .int 1), (0, .ref mo), (1, .int d)]) C d_M_isTaken_1 rfl (by decide) rfl ?_
  refine pv_lvs (lv2 := [(2, .int (nI 1)), (0, .ref mo), (1, .int d)]) [0, 1, 2] rfl ?_
  exact loop (zA z + 2) 1 (by omega) (by omega) (fun a q1 q2 => absurd q1 (by omega)) (by omega)
abbrev rm_M_arrive : Room := { frames := 2, cells := 0, slots := 0, locals := 43 }
def m_arrive (z : zT) (a : Int32) (d : Int32) (b : Bool) : Int32 × zT :=
  (if (isA z a) = true then (if (inB d 0 3) = true then (if (z 7 (ix a)) = 0 then (if (z 6 (ix a)) < (z 5 (ix a)) then (0, (zs (zs z 0 0 0) 0 0 3)) else (if (lAny (tkP (z 8) (z 7) d) (zA z)) = true then (0, (zs (zs z 0 0 0) 0 0 3)) else (if b = true then (1, (zs (zs (zs (zs z 0 0 0) 0 0 0) 8 (ix a) d) 7 (ix a) 1)) else (2, (zs (zs (zs (zs z 0 0 0) 0 0 0) 8 (ix a) d) 7 (ix a) 2))))) else (0, (zs (zs z 0 0 0) 0 0 3))) else (0, (zs z 0 0 2))) else (0, (zs z 0 0 1)))
set_option maxRecDepth 100000 in
set_option maxHeartbeats 4000000 in
theorem c_M_arrive {l0 : Launch} {D : va_G} {γ : Nat → ClassId} (hl0 : l0.stackTraces = false) {LP : List Nat} {f0 : Nat → va_E} {mo : Nat} {ad : Nat → Nat} (G : mm_H mo ad LP) (z : zT) (a : Int32) (d : Int32) (b : Bool) (hz : zI z) : mM l0 D γ y_M_arrive (Cond.code y_M_arrive b_M_arrive 4 (Option.some FieldType.int)) rm_M_arrive [.ref mo, .int a, .int d, .int (bN b)] LP f0 mo ad z (some (.int (m_arrive z a d b).1)) (m_arrive z a d b).2 := by
  refine pv_mk hl0 (by decide) (Nat.le_of_ble_eq_true rfl) (fun κ C R0 hN _ => ?_)
  show pv_V D κ 0 0 LP (mm_f γ f0 mo ad z) 0 [(0, .ref mo), (1, .int a), (2, .int d), (3, .int (bN b))] []
  refine pv_aload_n C d_M_arrive_0 rfl 0 rfl ?_
  refine pv_aload_n C d_M_arrive_1 rfl 0 rfl ?_
  refine pv_iload_n C d_M_arrive_2 rfl 1 rfl ?_
  refine pv_callV (n := 1) (As := [.int a]) (rest := [.ref mo]) C (c_M_isAnnouncement hl0 G z a) cd_M_isAnnouncement ml_M_94 in_M im_M_isAnnouncement se_M_isAnnouncement G.1 mm_obj rfl rfl (by decide +kernel) (by decide) rfl (Nat.le_of_ble_eq_true rfl) rfl d_M_arrive_3 (by decide) hN R0 (fun _ h => h.elim) (fun v9 LP9 f9 h9 => ?_)
  obtain ⟨rfl, rfl, rfl⟩ := h9
  refine pv_st (st2 := [.int (bN (isA z a)), .ref mo]) (c2 := 0) (s2 := 0) rfl rfl rfl ?_
  refine pv_ifb_ne (tgt := 13) C d_M_arrive_6 (by decide) (fun h1 => ?_) (fun h1 => ?_)
  · have hA := isA_ix hz h1
    refine pv_iload_n C d_M_arrive_13 rfl 2 rfl ?_
    refine pv_iconst (v := 0) C d_M_arrive_14 (by decide) ?_
    refine pv_iconst (v := 3) C d_M_arrive_15 (by decide) ?_
    refine pv_callS (n := 3) (As := [.int d, .int 0, .int 3]) (rest := [.ref mo]) C (c_M_in hl0 G z d 0 3) cd_M_in ml_M_90 in_M sm_M_in (by decide +kernel) (by decide) rfl (Nat.le_of_ble_eq_true rfl) rfl d_M_arrive_16 (by decide) hN R0 (fun _ h => h.elim) (fun v9 LP9 f9 h9 => ?_)
    obtain ⟨rfl, rfl, rfl⟩ := h9
    refine pv_st (st2 := [.int (bN (inB d 0 3)), .ref mo]) (c2 := 0) (s2 := 0) rfl rfl rfl ?_
    refine pv_ifb_ne (tgt := 26) C d_M_arrive_19 (by decide) (fun h2 => ?_) (fun h2 => ?_)
    · refine pv_iconst (v := 0) C d_M_arrive_26 (by decide) ?_
      refine pm_put C G 0 (by decide) fl_M_83 rfl rfl rfl (by decide) rfl d_M_arrive_27 ?_
      refine pv_aload_n C d_M_arrive_30 rfl 0 rfl ?_
      refine pm_get (v := .int 0) C G 0 (by decide) fl_M_83 rfl rfl d_M_arrive_31 ?_
      refine pv_if_ne (tgt := 78) C d_M_arrive_34 (by decide) (fun q => absurd q (by decide)) (fun _ => ?_)
      refine pv_aload_n C d_M_arrive_37 rfl 0 rfl ?_
      refine pv_aload_n C d_M_arrive_38 rfl 0 rfl ?_
      refine pm_get (v := .ref (ad 7)) C G 7 (by decide) fl_M_23 rfl rfl d_M_arrive_39 ?_
      refine pv_iload_n C d_M_arrive_42 rfl 1 rfl ?_
      refine pm_ald C G 7 (by decide) rfl (j := (ix a)) hA.1 (show (ix a) < 17 by omega) d_M_arrive_43 ?_
      refine pv_top (y := (z 7 (ix a))) (zs_k _ _ (by decide)) ?_
      refine pv_if_ne (tgt := 70) C d_M_arrive_44 (by decide) (fun h3 => ?_) (fun h3 => ?_)
      · refine pv_iconst (v := 3) C d_M_arrive_70 (by decide) ?_
        refine pv_goto (tgt := 75) C d_M_arrive_71 (by decide) ?_
        refine pm_put C G 0 (by decide) fl_M_83 rfl rfl rfl (by decide) rfl d_M_arrive_75 ?_
        refine pv_aload_n C d_M_arrive_78 rfl 0 rfl ?_
        refine pm_get (v := .int 3) C G 0 (by decide) fl_M_83 rfl rfl d_M_arrive_79 ?_
        refine pv_if_le (tgt := 87) C d_M_arrive_82 (by decide) (fun q => absurd q (by decide)) (fun _ => ?_)
        refine pv_iconst (v := 0) C d_M_arrive_85 (by decide) ?_
        exact pv_iret C R0 d_M_arrive_86 (by decide) (by decide) (mP_i (by unfold m_arrive; rw [if_pos h1, if_pos h2, if_neg h3]))
      · refine pv_aload_n C d_M_arrive_47 rfl 0 rfl ?_
        refine pm_get (v := .ref (ad 6)) C G 6 (by decide) fl_M_20 rfl rfl d_M_arrive_48 ?_
        refine pv_iload_n C d_M_arrive_51 rfl 1 rfl ?_
        refine pm_ald C G 6 (by decide) rfl (j := (ix a)) hA.1 (show (ix a) < 17 by omega) d_M_arrive_52 ?_
        refine pv_top (y := (z 6 (ix a))) (zs_k _ _ (by decide)) ?_
        refine pv_aload_n C d_M_arrive_53 rfl 0 rfl ?_
        refine pm_get (v := .ref (ad 5)) C G 5 (by decide) fl_M_17 rfl rfl d_M_arrive_54 ?_
        refine pv_iload_n C d_M_arrive_57 rfl 1 rfl ?_
        refine pm_ald C G 5 (by decide) rfl (j := (ix a)) hA.1 (show (ix a) < 17 by omega) d_M_arrive_58 ?_
        refine pv_top (y := (z 5 (ix a))) (zs_k _ _ (by decide)) ?_
        refine pv_icmp_lt (tgt := 70) C d_M_arrive_59 (by decide) (fun h4 => ?_) (fun h4 => ?_)
        · refine pv_iconst (v := 3) C d_M_arrive_70 (by decide) ?_
          refine pv_goto (tgt := 75) C d_M_arrive_71 (by decide) ?_
          refine pm_put C G 0 (by decide) fl_M_83 rfl rfl rfl (by decide) rfl d_M_arrive_75 ?_
          refine pv_aload_n C d_M_arrive_78 rfl 0 rfl ?_
          refine pm_get (v := .int 3) C G 0 (by decide) fl_M_83 rfl rfl d_M_arrive_79 ?_
          refine pv_if_le (tgt := 87) C d_M_arrive_82 (by decide) (fun q => absurd q (by decide)) (fun _ => ?_)
          refine pv_iconst (v := 0) C d_M_arrive_85 (by decide) ?_
          exact pv_iret C R0 d_M_arrive_86 (by decide) (by decide) (mP_i (by unfold m_arrive; rw [if_pos h1, if_pos h2, if_pos h3, if_pos h4]))
        · refine pv_aload_n C d_M_arrive_62 rfl 0 rfl ?_
          refine pv_iload_n C d_M_arrive_63 rfl 2 rfl ?_
          refine pv_callV (n := 1) (As := [.int d]) (rest := [.ref mo]) C (c_M_isTaken hl0 G (zs z 0 0 0) d hz.1) cd_M_isTaken ml_M_101 in_M im_M_isTaken se_M_isTaken G.1 mm_obj rfl rfl (by decide +kernel) (by decide) rfl (Nat.le_of_ble_eq_true rfl) rfl d_M_arrive_64 (by decide) hN R0 (fun _ h => h.elim) (fun v9 LP9 f9 h9 => ?_)
          obtain ⟨rfl, rfl, rfl⟩ := h9
          refine pv_st (st2 := [.int (bN (lAny (tkP (z 8) (z 7) d) (zA z))), .ref mo]) (c2 := 0) (s2 := 0) rfl rfl rfl ?_
          refine pv_ifb_eq (tgt := 74) C d_M_arrive_67 (by decide) (fun h5 => ?_) (fun h5 => ?_)
          · refine pv_iconst (v := 0) C d_M_arrive_74 (by decide) ?_
            refine pm_put C G 0 (by decide) fl_M_83 rfl rfl rfl (by decide) rfl d_M_arrive_75 ?_
            refine pv_aload_n C d_M_arrive_78 rfl 0 rfl ?_
            refine pm_get (v := .int 0) C G 0 (by decide) fl_M_83 rfl rfl d_M_arrive_79 ?_
            refine pv_if_le (tgt := 87) C d_M_arrive_82 (by decide) (fun _ => ?_) (fun q => absurd q (by decide))
            refine pv_aload_n C d_M_arrive_87 rfl 0 rfl ?_
            refine pm_get (v := .ref (ad 8)) C G 8 (by decide) fl_M_26 rfl rfl d_M_arrive_88 ?_
            refine pv_iload_n C d_M_arrive_91 rfl 1 rfl ?_
            refine pv_iload_n C d_M_arrive_92 rfl 2 rfl ?_
            refine pm_ast C G 8 (by decide) rfl (j := (ix a)) hA.1 (show (ix a) < 17 by omega) d_M_arrive_93 ?_
            refine pv_aload_n C d_M_arrive_94 rfl 0 rfl ?_
            refine pm_get (v := .ref (ad 7)) C G 7 (by decide) fl_M_23 rfl rfl d_M_arrive_95 ?_
            refine pv_iload_n C d_M_arrive_98 rfl 1 rfl ?_
            refine pv_iload_n C d_M_arrive_99 rfl 3 rfl ?_
            refine pv_ifb_eq (tgt := 107) C d_M_arrive_100 (by decide) (fun h6 => ?_) (fun h6 => ?_)
            · refine pv_iconst (v := 2) C d_M_arrive_107 (by decide) ?_
              refine pm_ast C G 7 (by decide) rfl (j := (ix a)) hA.1 (show (ix a) < 17 by omega) d_M_arrive_108 ?_
              refine pv_aload_n C d_M_arrive_109 rfl 0 rfl ?_
              refine pm_get (v := .ref (ad 7)) C G 7 (by decide) fl_M_23 rfl rfl d_M_arrive_110 ?_
              refine pv_iload_n C d_M_arrive_113 rfl 1 rfl ?_
              refine pm_ald C G 7 (by decide) rfl (j := (ix a)) hA.1 (show (ix a) < 17 by omega) d_M_arrive_114 ?_
              refine pv_top (y := 2) (zs_eq _ _ _ _) ?_
              exact pv_iret C R0 d_M_arrive_115 (by decide) (by decide) (mP_i (by unfold m_arrive; rw [if_pos h1, if_pos h2, if_pos h3, if_neg h4, if_neg (nT h5), if_neg (nT h6)]))
            · refine pv_iconst (v := 1) C d_M_arrive_103 (by decide) ?_
              refine pv_goto (tgt := 108) C d_M_arrive_104 (by decide) ?_
              refine pm_ast C G 7 (by decide) rfl (j := (ix a)) hA.1 (show (ix a) < 17 by omega) d_M_arrive_108 ?_
              refine pv_aload_n C d_M_arrive_109 rfl 0 rfl ?_
              refine pm_get (v := .ref (ad 7)) C G 7 (by decide) fl_M_23 rfl rfl d_M_arrive_110 ?_
              refine pv_iload_n C d_M_arrive_113 rfl 1 rfl ?_
              refine pm_ald C G 7 (by decide) rfl (j := (ix a)) hA.1 (show (ix a) < 17 by omega) d_M_arrive_114 ?_
              refine pv_top (y := 1) (zs_eq _ _ _ _) ?_
              exact pv_iret C R0 d_M_arrive_115 (by decide) (by decide) (mP_i (by unfold m_arrive; rw [if_pos h1, if_pos h2, if_pos h3, if_neg h4, if_neg (nT h5), if_pos h6]))
          · refine pv_iconst (v := 3) C d_M_arrive_70 (by decide) ?_
            refine pv_goto (tgt := 75) C d_M_arrive_71 (by decide) ?_
            refine pm_put C G 0 (by decide) fl_M_83 rfl rfl rfl (by decide) rfl d_M_arrive_75 ?_
            refine pv_aload_n C d_M_arrive_78 rfl 0 rfl ?_
            refine pm_get (v := .int 3) C G 0 (by decide) fl_M_83 rfl rfl d_M_arrive_79 ?_
            refine pv_if_le (tgt := 87) C d_M_arrive_82 (by decide) (fun q => absurd q (by decide)) (fun _ => ?_)
            refine pv_iconst (v := 0) C d_M_arrive_85 (by decide) ?_
            exact pv_iret C R0 d_M_arrive_86 (by decide) (by decide) (mP_i (by unfold m_arrive; rw [if_pos h1, if_pos h2, if_pos h3, if_neg h4, if_pos h5]))
    · refine pv_iconst (v := 2) C d_M_arrive_22 (by decide) ?_
      refine pv_goto (tgt := 27) C d_M_arrive_23 (by decide) ?_
      refine pm_put C G 0 (by decide) fl_M_83 rfl rfl rfl (by decide) rfl d_M_arrive_27 ?_
      refine pv_aload_n C d_M_arrive_30 rfl 0 rfl ?_
      refine pm_get (v := .int 2) C G 0 (by decide) fl_M_83 rfl rfl d_M_arrive_31 ?_
      refine pv_if_ne (tgt := 78) C d_M_arrive_34 (by decide) (fun _ => ?_) (fun q => absurd q (by decide))
      refine pv_aload_n C d_M_arrive_78 rfl 0 rfl ?_
      refine pm_get (v := .int 2) C G 0 (by decide) fl_M_83 rfl rfl d_M_arrive_79 ?_
      refine pv_if_le (tgt := 87) C d_M_arrive_82 (by decide) (fun q => absurd q (by decide)) (fun _ => ?_)
      refine pv_iconst (v := 0) C d_M_arrive_85 (by decide) ?_
      exact pv_iret C R0 d_M_arrive_86 (by decide) (by decide) (mP_i (by unfold m_arrive; rw [if_pos h1, if_neg (nT h2)]))
  · refine pv_iconst (v := 1) C d_M_arrive_9 (by decide) ?_
    refine pv_goto (tgt := 27) C d_M_arrive_10 (by decide) ?_
    refine pm_put C G 0 (by decide) fl_M_83 rfl rfl rfl (by decide) rfl d_M_arrive_27 ?_
    refine pv_aload_n C d_M_arrive_30 rfl 0 rfl ?_
    refine pm_get (v := .int 1) C G 0 (by decide) fl_M_83 rfl rfl d_M_arrive_31 ?_
    refine pv_if_ne (tgt := 78) C d_M_arrive_34 (by decide) (fun _ => ?_) (fun q => absurd q (by decide))
    refine pv_aload_n C d_M_arrive_78 rfl 0 rfl ?_
    refine pm_get (v := .int 1) C G 0 (by decide) fl_M_83 rfl rfl d_M_arrive_79 ?_
    refine pv_if_le (tgt := 87) C d_M_arrive_82 (by decide) (fun q => absurd q (by decide)) (fun _ => ?_)
    refine pv_iconst (v := 0) C d_M_arrive_85 (by decide) ?_
    exact pv_iret C R0 d_M_arrive_86 (by decide) (by decide) (mP_i (by unfold m_arrive; rw [if_neg (nT h1)]))
abbrev rm_M_checked : Room := { frames := 0, cells := 0, slots := 0, locals := 0 }
def m_checked (z : zT) (x : Int32) : Int32 × zT :=
  (((10 * x) + ((10 - (((((((0 + (1 * (x - x / 10 * 10))) + (3 * ((x / 10) - (x / 10) / 10 * 10))) + (1 * (((x / 10) / 10) - ((x / 10) / 10) / 10 * 10))) + (3 * ((((x / 10) / 10) / 10) - (((x / 10) / 10) / 10) / 10 * 10))) + (1 * (((((x / 10) / 10) / 10) / 10) - ((((x / 10) / 10) / 10) / 10) / 10 * 10))) + (3 * ((((((x / 10) / 10) / 10) / 10) / 10) - (((((x / 10) / 10) / 10) / 10) / 10) / 10 * 10))) - ((((((0 + (1 * (x - x / 10 * 10))) + (3 * ((x / 10) - (x / 10) / 10 * 10))) + (1 * (((x / 10) / 10) - ((x / 10) / 10) / 10 * 10))) + (3 * ((((x / 10) / 10) / 10) - (((x / 10) / 10) / 10) / 10 * 10))) + (1 * (((((x / 10) / 10) / 10) / 10) - ((((x / 10) / 10) / 10) / 10) / 10 * 10))) + (3 * ((((((x / 10) / 10) / 10) / 10) / 10) - (((((x / 10) / 10) / 10) / 10) / 10) / 10 * 10))) / 10 * 10)) - (10 - (((((((0 + (1 * (x - x / 10 * 10))) + (3 * ((x / 10) - (x / 10) / 10 * 10))) + (1 * (((x / 10) / 10) - ((x / 10) / 10) / 10 * 10))) + (3 * ((((x / 10) / 10) / 10) - (((x / 10) / 10) / 10) / 10 * 10))) + (1 * (((((x / 10) / 10) / 10) / 10) - ((((x / 10) / 10) / 10) / 10) / 10 * 10))) + (3 * ((((((x / 10) / 10) / 10) / 10) / 10) - (((((x / 10) / 10) / 10) / 10) / 10) / 10 * 10))) - ((((((0 + (1 * (x - x / 10 * 10))) + (3 * ((x / 10) - (x / 10) / 10 * 10))) + (1 * (((x / 10) / 10) - ((x / 10) / 10) / 10 * 10))) + (3 * ((((x / 10) / 10) / 10) - (((x / 10) / 10) / 10) / 10 * 10))) + (1 * (((((x / 10) / 10) / 10) / 10) - ((((x / 10) / 10) / 10) / 10) / 10 * 10))) + (3 * ((((((x / 10) / 10) / 10) / 10) / 10) - (((((x / 10) / 10) / 10) / 10) / 10) / 10 * 10))) / 10 * 10)) / 10 * 10)), z)
set_option maxRecDepth 100000 in
set_option maxHeartbeats 4000000 in
theorem c_M_checked {l0 : Launch} {D : va_G} {γ : Nat → ClassId} (hl0 : l0.stackTraces = false) {LP : List Nat} {f0 : Nat → va_E} {mo : Nat} {ad : Nat → Nat} (G : mm_H mo ad LP) (z : zT) (x : Int32)  : mM l0 D γ y_M_checked (Cond.code y_M_checked b_M_checked 4 (Option.some FieldType.int)) rm_M_checked [.int x] LP f0 mo ad z (some (.int (m_checked z x).1)) (m_checked z x).2 := by
  refine pv_mk hl0 (by decide) (Nat.le_of_ble_eq_true rfl) (fun κ C R0 hN _ => ?_)
  show pv_V D κ 0 0 LP (mm_f γ f0 mo ad z) 0 [(0, .int x)] []
  refine pv_iconst (v := 0) C d_M_checked_0 (by decide) ?_
  refine pv_istore_n (lv' := [(1, .int 0), (0, .int x)]) C d_M_checked_1 rfl (by decide) rfl ?_
  refine pv_iload_n C d_M_checked_2 rfl 1 rfl ?_
  refine pv_istore_n (lv' := [(2, .int x), (1, .int 0), (0, .int x)]) C d_M_checked_3 rfl (by decide) rfl ?_
  refine pv_bipush (v := 6) C d_M_checked_4 (by decide) ?_
  refine pv_istore_n (lv' := [(3, .int 6), (2, .int x), (1, .int 0), (0, .int x)]) C d_M_checked_6 rfl (by decide) rfl ?_
  refine pv_iload_n C d_M_checked_7 rfl 0 rfl ?_
  refine pv_if_le (tgt := 42) C d_M_checked_8 (by decide) (fun q => absurd q (by decide)) (fun _ => ?_)
  refine pv_iload_n C d_M_checked_11 rfl 2 rfl ?_
  refine pv_iload_n C d_M_checked_12 rfl 0 rfl ?_
  refine pv_iconst (v := 2) C d_M_checked_13 (by decide) ?_
  refine pv_irem C d_M_checked_14 (by decide) ?_
  refine pv_top (y := 0) (by decide) ?_
  refine pv_iconst (v := 1) C d_M_checked_15 (by decide) ?_
  refine pv_icmp_ne (tgt := 23) C d_M_checked_16 (by decide) (fun _ => ?_) (fun q => absurd q (by decide))
  refine pv_iconst (v := 1) C d_M_checked_23 (by decide) ?_
  refine pv_iload_n C d_M_checked_24 rfl 1 rfl ?_
  refine pv_bipush (v := 10) C d_M_checked_25 (by decide) ?_
  refine pv_irem C d_M_checked_27 (by decide) ?_
  refine pv_imul C d_M_checked_28 ?_
  refine pv_iadd C d_M_checked_29 ?_
  refine pv_istore_n (lv' := [(1, .int (0 + (1 * (x - x / 10 * 10)))), (3, .int 6), (2, .int x), (0, .int x)]) C d_M_checked_30 rfl (by decide) rfl ?_
  refine pv_iload_n C d_M_checked_31 rfl 2 rfl ?_
  refine pv_bipush (v := 10) C d_M_checked_32 (by decide) ?_
  refine pv_idiv C d_M_checked_34 (by decide) ?_
  refine pv_istore_n (lv' := [(2, .int (x / 10)), (1, .int (0 + (1 * (x - x / 10 * 10)))), (3, .int 6), (0, .int x)]) C d_M_checked_35 rfl (by decide) rfl ?_
  refine pv_iinc (v := 5) (lv' := [(3, .int 5), (2, .int (x / 10)), (1, .int (0 + (1 * (x - x / 10 * 10)))), (0, .int x)]) C d_M_checked_36 2 rfl (by decide) (by decide) rfl ?_
  refine pv_goto (tgt := 7) C d_M_checked_39 (by decide) ?_
  refine pv_iload_n C d_M_checked_7 rfl 0 rfl ?_
  refine pv_if_le (tgt := 42) C d_M_checked_8 (by decide) (fun q => absurd q (by decide)) (fun _ => ?_)
  refine pv_iload_n C d_M_checked_11 rfl 2 rfl ?_
  refine pv_iload_n C d_M_checked_12 rfl 0 rfl ?_
  refine pv_iconst (v := 2) C d_M_checked_13 (by decide) ?_
  refine pv_irem C d_M_checked_14 (by decide) ?_
  refine pv_top (y := 1) (by decide) ?_
  refine pv_iconst (v := 1) C d_M_checked_15 (by decide) ?_
  refine pv_icmp_ne (tgt := 23) C d_M_checked_16 (by decide) (fun q => absurd q (by decide)) (fun _ => ?_)
  refine pv_iconst (v := 3) C d_M_checked_19 (by decide) ?_
  refine pv_goto (tgt := 24) C d_M_checked_20 (by decide) ?_
  refine pv_iload_n C d_M_checked_24 rfl 1 rfl ?_
  refine pv_bipush (v := 10) C d_M_checked_25 (by decide) ?_
  refine pv_irem C d_M_checked_27 (by decide) ?_
  refine pv_imul C d_M_checked_28 ?_
  refine pv_iadd C d_M_checked_29 ?_
  refine pv_istore_n (lv' := [(1, .int ((0 + (1 * (x - x / 10 * 10))) + (3 * ((x / 10) - (x / 10) / 10 * 10)))), (3, .int 5), (2, .int (x / 10)), (0, .int x)]) C d_M_checked_30 rfl (by decide) rfl ?_
  refine pv_iload_n C d_M_checked_31 rfl 2 rfl ?_
  refine pv_bipush (v := 10) C d_M_checked_32 (by decide) ?_
  refine pv_idiv C d_M_checked_34 (by decide) ?_
  refine pv_istore_n (lv' := [(2, .int ((x / 10) / 10)), (1, .int ((0 + (1 * (x - x / 10 * 10))) + (3 * ((x / 10) - (x / 10) / 10 * 10)))), (3, .int 5), (0, .int x)]) C d_M_checked_35 rfl (by decide) rfl ?_
  refine pv_iinc (v := 4) (lv' := [(3, .int 4), (2, .int ((x / 10) / 10)), (1, .int ((0 + (1 * (x - x / 10 * 10))) + (3 * ((x / 10) - (x / 10) / 10 * 10)))), (0, .int x)]) C d_M_checked_36 2 rfl (by decide) (by decide) rfl ?_
  refine pv_goto (tgt := 7) C d_M_checked_39 (by decide) ?_
  refine pv_iload_n C d_M_checked_7 rfl 0 rfl ?_
  refine pv_if_le (tgt := 42) C d_M_checked_8 (by decide) (fun q => absurd q (by decide)) (fun _ => ?_)
  refine pv_iload_n C d_M_checked_11 rfl 2 rfl ?_
  refine pv_iload_n C d_M_checked_12 rfl 0 rfl ?_
  refine pv_iconst (v := 2) C d_M_checked_13 (by decide) ?_
  refine pv_irem C d_M_checked_14 (by decide) ?_
  refine pv_top (y := 0) (by decide) ?_
  refine pv_iconst (v := 1) C d_M_checked_15 (by decide) ?_
  refine pv_icmp_ne (tgt := 23) C d_M_checked_16 (by decide) (fun _ => ?_) (fun q => absurd q (by decide))
  refine pv_iconst (v := 1) C d_M_checked_23 (by decide) ?_
  refine pv_iload_n C d_M_checked_24 rfl 1 rfl ?_
  refine pv_bipush (v := 10) C d_M_checked_25 (by decide) ?_
  refine pv_irem C d_M_checked_27 (by decide) ?_
  refine pv_imul C d_M_checked_28 ?_
  refine pv_iadd C d_M_checked_29 ?_
  refine pv_istore_n (lv' := [(1, .int (((0 + (1 * (x - x / 10 * 10))) + (3 * ((x / 10) - (x / 10) / 10 * 10))) + (1 * (((x / 10) / 10) - ((x / 10) / 10) / 10 * 10)))), (3, .int 4), (2, .int ((x / 10) / 10)), (0, .int x)]) C d_M_checked_30 rfl (by decide) rfl ?_
  refine pv_iload_n C d_M_checked_31 rfl 2 rfl ?_
  refine pv_bipush (v := 10) C d_M_checked_32 (by decide) ?_
  refine pv_idiv C d_M_checked_34 (by decide) ?_
  refine pv_istore_n (lv' := [(2, .int (((x / 10) / 10) / 10)), (1, .int (((0 + (1 * (x - x / 10 * 10))) + (3 * ((x / 10) - (x / 10) / 10 * 10))) + (1 * (((x / 10) / 10) - ((x / 10) / 10) / 10 * 10)))), (3, .int 4), (0, .int x)]) C d_M_checked_35 rfl (by decide) rfl ?_
  refine pv_iinc (v := 3) (lv' := [(3, .int 3), (2, .int (((x / 10) / 10) / 10)), (1, .int (((0 + (1 * (x - x / 10 * 10))) + (3 * ((x / 10) - (x / 10) / 10 * 10))) + (1 * (((x / 10) / 10) - ((x / 10) / 10) / 10 * 10)))), (0, .int x)]) C d_M_checked_36 2 rfl (by decide) (by decide) rfl ?_
  refine pv_goto (tgt := 7) C d_M_checked_39 (by decide) ?_
  refine pv_iload_n C d_M_checked_7 rfl 0 rfl ?_
  refine pv_if_le (tgt := 42) C d_M_checked_8 (by decide) (fun q => absurd q (by decide)) (fun _ => ?_)
  refine pv_iload_n C d_M_checked_11 rfl 2 rfl ?_
  refine pv_iload_n C d_M_checked_12 rfl 0 rfl ?_
  refine pv_iconst (v := 2) C d_M_checked_13 (by decide) ?_
  refine pv_irem C d_M_checked_14 (by decide) ?_
  refine pv_top (y := 1) (by decide) ?_
  refine pv_iconst (v := 1) C d_M_checked_15 (by decide) ?_
  refine pv_icmp_ne (tgt := 23) C d_M_checked_16 (by decide) (fun q => absurd q (by decide)) (fun _ => ?_)
  refine pv_iconst (v := 3) C d_M_checked_19 (by decide) ?_
  refine pv_goto (tgt := 24) C d_M_checked_20 (by decide) ?_
  refine pv_iload_n C d_M_checked_24 rfl 1 rfl ?_
  refine pv_bipush (v := 10) C d_M_checked_25 (by decide) ?_
  refine pv_irem C d_M_checked_27 (by decide) ?_
  refine pv_imul C d_M_checked_28 ?_
  refine pv_iadd C d_M_checked_29 ?_
  refine pv_istore_n (lv' := [(1, .int ((((0 + (1 * (x - x / 10 * 10))) + (3 * ((x / 10) - (x / 10) / 10 * 10))) + (1 * (((x / 10) / 10) - ((x / 10) / 10) / 10 * 10))) + (3 * ((((x / 10) / 10) / 10) - (((x / 10) / 10) / 10) / 10 * 10)))), (3, .int 3), (2, .int (((x / 10) / 10) / 10)), (0, .int x)]) C d_M_checked_30 rfl (by decide) rfl ?_
  refine pv_iload_n C d_M_checked_31 rfl 2 rfl ?_
  refine pv_bipush (v := 10) C d_M_checked_32 (by decide) ?_
  refine pv_idiv C d_M_checked_34 (by decide) ?_
  refine pv_istore_n (lv' := [(2, .int ((((x / 10) / 10) / 10) / 10)), (1, .int ((((0 + (1 * (x - x / 10 * 10))) + (3 * ((x / 10) - (x / 10) / 10 * 10))) + (1 * (((x / 10) / 10) - ((x / 10) / 10) / 10 * 10))) + (3 * ((((x / 10) / 10) / 10) - (((x / 10) / 10) / 10) / 10 * 10)))), (3, .int 3), (0, .int x)]) C d_M_checked_35 rfl (by decide) rfl ?_
  refine pv_iinc (v := 2) (lv' := [(3, .int 2), (2, .int ((((x / 10) / 10) / 10) / 10)), (1, .int ((((0 + (1 * (x - x / 10 * 10))) + (3 * ((x / 10) - (x / 10) / 10 * 10))) + (1 * (((x / 10) / 10) - ((x / 10) / 10) / 10 * 10))) + (3 * ((((x / 10) / 10) / 10) - (((x / 10) / 10) / 10) / 10 * 10)))), (0, .int x)]) C d_M_checked_36 2 rfl (by decide) (by decide) rfl ?_
  refine pv_goto (tgt := 7) C d_M_checked_39 (by decide) ?_
  refine pv_iload_n C d_M_checked_7 rfl 0 rfl ?_
  refine pv_if_le (tgt := 42) C d_M_checked_8 (by decide) (fun q => absurd q (by decide)) (fun _ => ?_)
  refine pv_iload_n C d_M_checked_11 rfl 2 rfl ?_
  refine pv_iload_n C d_M_checked_12 rfl 0 rfl ?_
  refine pv_iconst (v := 2) C d_M_checked_13 (by decide) ?_
  refine pv_irem C d_M_checked_14 (by decide) ?_
  refine pv_top (y := 0) (by decide) ?_
  refine pv_iconst (v := 1) C d_M_checked_15 (by decide) ?_
  refine pv_icmp_ne (tgt := 23) C d_M_checked_16 (by decide) (fun _ => ?_) (fun q => absurd q (by decide))
  refine pv_iconst (v := 1) C d_M_checked_23 (by decide) ?_
  refine pv_iload_n C d_M_checked_24 rfl 1 rfl ?_
  refine pv_bipush (v := 10) C d_M_checked_25 (by decide) ?_
  refine pv_irem C d_M_checked_27 (by decide) ?_
  refine pv_imul C d_M_checked_28 ?_
  refine pv_iadd C d_M_checked_29 ?_
  refine pv_istore_n (lv' := [(1, .int (((((0 + (1 * (x - x / 10 * 10))) + (3 * ((x / 10) - (x / 10) / 10 * 10))) + (1 * (((x / 10) / 10) - ((x / 10) / 10) / 10 * 10))) + (3 * ((((x / 10) / 10) / 10) - (((x / 10) / 10) / 10) / 10 * 10))) + (1 * (((((x / 10) / 10) / 10) / 10) - ((((x / 10) / 10) / 10) / 10) / 10 * 10)))), (3, .int 2), (2, .int ((((x / 10) / 10) / 10) / 10)), (0, .int x)]) C d_M_checked_30 rfl (by decide) rfl ?_
  refine pv_iload_n C d_M_checked_31 rfl 2 rfl ?_
  refine pv_bipush (v := 10) C d_M_checked_32 (by decide) ?_
  refine pv_idiv C d_M_checked_34 (by decide) ?_
  refine pv_istore_n (lv' := [(2, .int (((((x / 10) / 10) / 10) / 10) / 10)), (1, .int (((((0 + (1 * (x - x / 10 * 10))) + (3 * ((x / 10) - (x / 10) / 10 * 10))) + (1 * (((x / 10) / 10) - ((x / 10) / 10) / 10 * 10))) + (3 * ((((x / 10) / 10) / 10) - (((x / 10) / 10) / 10) / 10 * 10))) + (1 * (((((x / 10) / 10) / 10) / 10) - ((((x / 10) / 10) / 10) / 10) / 10 * 10)))), (3, .int 2), (0, .int x)]) C d_M_checked_35 rfl (by decide) rfl ?_
  refine pv_iinc (v := 1) (lv' := [(3, .int 1), (2, .int (((((x / 10) / 10) / 10) / 10) / 10)), (1, .int (((((0 + (1 * (x - x / 10 * 10))) + (3 * ((x / 10) - (x / 10) / 10 * 10))) + (1 * (((x / 10) / 10) - ((x / 10) / 10) / 10 * 10))) + (3 * ((((x / 10) / 10) / 10) - (((x / 10) / 10) / 10) / 10 * 10))) + (1 * (((((x / 10) / 10) / 10) / 10) - ((((x / 10) / 10) / 10) / 10) / 10 * 10)))), (0, .int x)]) C d_M_checked_36 2 rfl (by decide) (by decide) rfl ?_
  refine pv_goto (tgt := 7) C d_M_checked_39 (by decide) ?_
  refine pv_iload_n C d_M_checked_7 rfl 0 rfl ?_
  refine pv_if_le (tgt := 42) C d_M_checked_8 (by decide) (fun q => absurd q (by decide)) (fun _ => ?_)
  refine pv_iload_n C d_M_checked_11 rfl 2 rfl ?_
  refine pv_iload_n C d_M_checked_12 rfl 0 rfl ?_
  refine pv_iconst (v := 2) C d_M_checked_13 (by decide) ?_
  refine pv_irem C d_M_checked_14 (by decide) ?_
  refine pv_top (y := 1) (by decide) ?_
  refine pv_iconst (v := 1) C d_M_checked_15 (by decide) ?_
  refine pv_icmp_ne (tgt := 23) C d_M_checked_16 (by decide) (fun q => absurd q (by decide)) (fun _ => ?_)
  refine pv_iconst (v := 3) C d_M_checked_19 (by decide) ?_
  refine pv_goto (tgt := 24) C d_M_checked_20 (by decide) ?_
  refine pv_iload_n C d_M_checked_24 rfl 1 rfl ?_
  refine pv_bipush (v := 10) C d_M_checked_25 (by decide) ?_
  refine pv_irem C d_M_checked_27 (by decide) ?_
  refine pv_imul C d_M_checked_28 ?_
  refine pv_iadd C d_M_checked_29 ?_
  refine pv_istore_n (lv' := [(1, .int ((((((0 + (1 * (x - x / 10 * 10))) + (3 * ((x / 10) - (x / 10) / 10 * 10))) + (1 * (((x / 10) / 10) - ((x / 10) / 10) / 10 * 10))) + (3 * ((((x / 10) / 10) / 10) - (((x / 10) / 10) / 10) / 10 * 10))) + (1 * (((((x / 10) / 10) / 10) / 10) - ((((x / 10) / 10) / 10) / 10) / 10 * 10))) + (3 * ((((((x / 10) / 10) / 10) / 10) / 10) - (((((x / 10) / 10) / 10) / 10) / 10) / 10 * 10)))), (3, .int 1), (2, .int (((((x / 10) / 10) / 10) / 10) / 10)), (0, .int x)]) C d_M_checked_30 rfl (by decide) rfl ?_
  refine pv_iload_n C d_M_checked_31 rfl 2 rfl ?_
  refine pv_bipush (v := 10) C d_M_checked_32 (by decide) ?_
  refine pv_idiv C d_M_checked_34 (by decide) ?_
  refine pv_istore_n (lv' := [(2, .int ((((((x / 10) / 10) / 10) / 10) / 10) / 10)), (1, .int ((((((0 + (1 * (x - x / 10 * 10))) + (3 * ((x / 10) - (x / 10) / 10 * 10))) + (1 * (((x / 10) / 10) - ((x / 10) / 10) / 10 * 10))) + (3 * ((((x / 10) / 10) / 10) - (((x / 10) / 10) / 10) / 10 * 10))) + (1 * (((((x / 10) / 10) / 10) / 10) - ((((x / 10) / 10) / 10) / 10) / 10 * 10))) + (3 * ((((((x / 10) / 10) / 10) / 10) / 10) - (((((x / 10) / 10) / 10) / 10) / 10) / 10 * 10)))), (3, .int 1), (0, .int x)]) C d_M_checked_35 rfl (by decide) rfl ?_
  refine pv_iinc (v := 0) (lv' := [(3, .int 0), (2, .int ((((((x / 10) / 10) / 10) / 10) / 10) / 10)), (1, .int ((((((0 + (1 * (x - x / 10 * 10))) + (3 * ((x / 10) - (x / 10) / 10 * 10))) + (1 * (((x / 10) / 10) - ((x / 10) / 10) / 10 * 10))) + (3 * ((((x / 10) / 10) / 10) - (((x / 10) / 10) / 10) / 10 * 10))) + (1 * (((((x / 10) / 10) / 10) / 10) - ((((x / 10) / 10) / 10) / 10) / 10 * 10))) + (3 * ((((((x / 10) / 10) / 10) / 10) / 10) - (((((x / 10) / 10) / 10) / 10) / 10) / 10 * 10)))), (0, .int x)]) C d_M_checked_36 2 rfl (by decide) (by decide) rfl ?_
  refine pv_goto (tgt := 7) C d_M_checked_39 (by decide) ?_
  refine pv_iload_n C d_M_checked_7 rfl 0 rfl ?_
  refine pv_if_le (tgt := 42) C d_M_checked_8 (by decide) (fun _ => ?_) (fun q => absurd q (by decide))
  refine pv_bipush (v := 10) C d_M_checked_42 (by decide) ?_
  refine pv_iload_n C d_M_checked_44 rfl 3 rfl ?_
  refine pv_imul C d_M_checked_45 ?_
  refine pv_bipush (v := 10) C d_M_checked_46 (by decide) ?_
  refine pv_iload_n C d_M_checked_48 rfl 2 rfl ?_
  refine pv_bipush (v := 10) C d_M_checked_49 (by decide) ?_
  refine pv_irem C d_M_checked_51 (by decide) ?_
  refine pv_isub C d_M_checked_52 ?_
  refine pv_bipush (v := 10) C d_M_checked_53 (by decide) ?_
  refine pv_irem C d_M_checked_55 (by decide) ?_
  refine pv_iadd C d_M_checked_56 ?_
  exact pv_iret C R0 d_M_checked_57 (by decide) (by decide) (mP_i (rfl))
def m_chk (x : Int32) : Int32 := (m_checked (fun _ _ => 0) x).1
theorem c_M_chk {l0 : Launch} {D : va_G} {γ : Nat → ClassId} (hl0 : l0.stackTraces = false) {LP : List Nat} {f0 : Nat → va_E} {mo : Nat} {ad : Nat → Nat} (G : mm_H mo ad LP) (z : zT) (x : Int32) : mM l0 D γ y_M_checked (Cond.code y_M_checked b_M_checked 4 (Option.some FieldType.int)) rm_M_checked [.int x] LP f0 mo ad z (some (.int (m_chk x))) z := c_M_checked hl0 G z x
abbrev rm_M_label : Room := { frames := 2, cells := 0, slots := 0, locals := 43 }
def m_label (z : zT) (u : Int32) : Int32 × zT :=
  (if (isU z u) = true then (if (z 25 (ix u)) = 0 then ((m_chk ((100000 * (z 4 (zl z (ix u) / 4))) + ((z 27 0) + 1))), (zs (zs (zs (zs z 0 0 0) 27 0 ((z 27 0) + 1)) 25 (ix u) (m_chk ((100000 * (z 4 (zl z (ix u) / 4))) + ((z 27 0) + 1)))) 26 (ix u) ((z 26 (ix u)) + 1))) else ((z 25 (ix u)), (zs (zs z 0 0 0) 26 (ix u) ((z 26 (ix u)) + 1)))) else (0, (zs z 0 0 1)))
set_option maxRecDepth 100000 in
set_option maxHeartbeats 4000000 in
theorem c_M_label {l0 : Launch} {D : va_G} {γ : Nat → ClassId} (hl0 : l0.stackTraces = false) {LP : List Nat} {f0 : Nat → va_E} {mo : Nat} {ad : Nat → Nat} (G : mm_H mo ad LP) (z : zT) (u : Int32) (hz : zI z) : mM l0 D γ y_M_label (Cond.code y_M_label b_M_label 2 (Option.some FieldType.int)) rm_M_label [.ref mo, .int u] LP f0 mo ad z (some (.int (m_label z u).1)) (m_label z u).2 := by
  refine pv_mk hl0 (by decide) (Nat.le_of_ble_eq_true rfl) (fun κ C R0 hN _ => ?_)
  show pv_V D κ 0 0 LP (mm_f γ f0 mo ad z) 0 [(0, .ref mo), (1, .int u)] []
  refine pv_aload_n C d_M_label_0 rfl 0 rfl ?_
  refine pv_aload_n C d_M_label_1 rfl 0 rfl ?_
  refine pv_iload_n C d_M_label_2 rfl 1 rfl ?_
  refine pv_callV (n := 1) (As := [.int u]) (rest := [.ref mo]) C (c_M_isUnit hl0 G z u) cd_M_isUnit ml_M_115 in_M im_M_isUnit se_M_isUnit G.1 mm_obj rfl rfl (by decide +kernel) (by decide) rfl (Nat.le_of_ble_eq_true rfl) rfl d_M_label_3 (by decide) hN R0 (fun _ h => h.elim) (fun v9 LP9 f9 h9 => ?_)
  obtain ⟨rfl, rfl, rfl⟩ := h9
  refine pv_st (st2 := [.int (bN (isU z u)), .ref mo]) (c2 := 0) (s2 := 0) rfl rfl rfl ?_
  refine pv_ifb_eq (tgt := 13) C d_M_label_6 (by decide) (fun h1 => ?_) (fun h1 => ?_)
  · refine pv_iconst (v := 1) C d_M_label_13 (by decide) ?_
    refine pm_put C G 0 (by decide) fl_M_83 rfl rfl rfl (by decide) rfl d_M_label_14 ?_
    refine pv_aload_n C d_M_label_17 rfl 0 rfl ?_
    refine pm_get (v := .int 1) C G 0 (by decide) fl_M_83 rfl rfl d_M_label_18 ?_
    refine pv_if_le (tgt := 26) C d_M_label_21 (by decide) (fun q => absurd q (by decide)) (fun _ => ?_)
    refine pv_iconst (v := 0) C d_M_label_24 (by decide) ?_
    exact pv_iret C R0 d_M_label_25 (by decide) (by decide) (mP_i (by unfold m_label; rw [if_neg (nT h1)]))
  · have hU := isU_ix hz h1
    have hlu := hz.2.2.2.2.1 (ix u) hU.2.1 hU.2.2.1
    refine pv_iconst (v := 0) C d_M_label_9 (by decide) ?_
    refine pv_goto (tgt := 14) C d_M_label_10 (by decide) ?_
    refine pm_put C G 0 (by decide) fl_M_83 rfl rfl rfl (by decide) rfl d_M_label_14 ?_
    refine pv_aload_n C d_M_label_17 rfl 0 rfl ?_
    refine pm_get (v := .int 0) C G 0 (by decide) fl_M_83 rfl rfl d_M_label_18 ?_
    refine pv_if_le (tgt := 26) C d_M_label_21 (by decide) (fun _ => ?_) (fun q => absurd q (by decide))
    refine pv_aload_n C d_M_label_26 rfl 0 rfl ?_
    refine pm_get (v := .ref (ad 25)) C G 25 (by decide) fl_M_74 rfl rfl d_M_label_27 ?_
    refine pv_iload_n C d_M_label_30 rfl 1 rfl ?_
    refine pm_ald C G 25 (by decide) rfl (j := (ix u)) hU.1 (show (ix u) < 121 by omega) d_M_label_31 ?_
    refine pv_top (y := (z 25 (ix u))) (zs_k _ _ (by decide)) ?_
    refine pv_if_ne (tgt := 75) C d_M_label_32 (by decide) (fun h2 => ?_) (fun h2 => ?_)
    · refine pv_aload_n C d_M_label_75 rfl 0 rfl ?_
      refine pm_get (v := .ref (ad 26)) C G 26 (by decide) fl_M_77 rfl rfl d_M_label_76 ?_
      refine pv_iload_n C d_M_label_79 rfl 1 rfl ?_
      refine pv_dup2 C d_M_label_80 rfl rfl ?_
      refine pm_ald C G 26 (by decide) rfl (j := (ix u)) hU.1 (show (ix u) < 121 by omega) d_M_label_81 ?_
      refine pv_top (y := (z 26 (ix u))) (zs_k _ _ (by decide)) ?_
      refine pv_iconst (v := 1) C d_M_label_82 (by decide) ?_
      refine pv_iadd C d_M_label_83 ?_
      refine pm_ast C G 26 (by decide) rfl (j := (ix u)) hU.1 (show (ix u) < 121 by omega) d_M_label_84 ?_
      refine pv_aload_n C d_M_label_85 rfl 0 rfl ?_
      refine pm_get (v := .ref (ad 25)) C G 25 (by decide) fl_M_74 rfl rfl d_M_label_86 ?_
      refine pv_iload_n C d_M_label_89 rfl 1 rfl ?_
      refine pm_ald C G 25 (by decide) rfl (j := (ix u)) hU.1 (show (ix u) < 121 by omega) d_M_label_90 ?_
      refine pv_top (y := (z 25 (ix u))) ((zs_k _ _ (by decide)).trans (zs_k _ _ (by decide))) ?_
      exact pv_iret C R0 d_M_label_91 (by decide) (by decide) (mP_i (by unfold m_label; rw [if_pos h1, if_neg h2]))
    · refine pv_aload_n C d_M_label_35 rfl 0 rfl ?_
      refine pv_dup C d_M_label_36 rfl ?_
      refine pm_get (v := .int (z 27 0)) C G 27 (by decide) fl_M_127 rfl rfl d_M_label_37 ?_
      refine pv_iconst (v := 1) C d_M_label_40 (by decide) ?_
      refine pv_iadd C d_M_label_41 ?_
      refine pm_put C G 27 (by decide) fl_M_127 rfl rfl rfl (by decide) rfl d_M_label_42 ?_
      refine pv_aload_n C d_M_label_45 rfl 0 rfl ?_
      refine pm_get (v := .ref (ad 25)) C G 25 (by decide) fl_M_74 rfl rfl d_M_label_46 ?_
      refine pv_iload_n C d_M_label_49 rfl 1 rfl ?_
      refine pv_ldc C co_M_130 d_M_label_50 ?_
      refine pv_aload_n C d_M_label_52 rfl 0 rfl ?_
      refine pm_get (v := .ref (ad 4)) C G 4 (by decide) fl_M_13 rfl rfl d_M_label_53 ?_
      refine pv_aload_n C d_M_label_56 rfl 0 rfl ?_
      refine pm_get (v := .ref (ad 19)) C G 19 (by decide) fl_M_56 rfl rfl d_M_label_57 ?_
      refine pv_iload_n C d_M_label_60 rfl 1 rfl ?_
      refine pm_ald C G 19 (by decide) rfl (j := (ix u)) hU.1 (show (ix u) < 121 by omega) d_M_label_61 ?_
      refine pv_top (y := (z 19 (ix u))) ((zs_k _ _ (by decide)).trans (zs_k _ _ (by decide))) ?_
      refine pv_iconst (v := 4) C d_M_label_62 (by decide) ?_
      refine pv_idiv C d_M_label_63 (by decide) ?_
      refine pm_ald C G 4 (by decide) rfl (j := (zl z (ix u) / 4)) (dv_ix hlu.1 (by omega)) (show (zl z (ix u) / 4) < 17 by omega) d_M_label_64 ?_
      refine pv_top (y := (z 4 (zl z (ix u) / 4))) ((zs_k _ _ (by decide)).trans (zs_k _ _ (by decide))) ?_
      refine pv_imul C d_M_label_65 ?_
      refine pv_aload_n C d_M_label_66 rfl 0 rfl ?_
      refine pm_get (v := .int ((z 27 0) + 1)) C G 27 (by decide) fl_M_127 rfl rfl d_M_label_67 ?_
      refine pv_iadd C d_M_label_70 ?_
      refine pv_callS (n := 1) (As := [.int ((100000 * (z 4 (zl z (ix u) / 4))) + ((z 27 0) + 1))]) (rest := [.int u, .ref (ad 25)]) C (c_M_chk hl0 G (zs (zs z 0 0 0) 27 0 ((z 27 0) + 1)) ((100000 * (z 4 (zl z (ix u) / 4))) + ((z 27 0) + 1))) cd_M_checked ml_M_131 in_M sm_M_checked (by decide +kernel) (by decide) rfl (Nat.le_of_ble_eq_true rfl) rfl d_M_label_71 (by decide) hN R0 (fun _ h => h.elim) (fun v9 LP9 f9 h9 => ?_)
      obtain ⟨rfl, rfl, rfl⟩ := h9
      refine pv_st (st2 := [.int (m_chk ((100000 * (z 4 (zl z (ix u) / 4))) + ((z 27 0) + 1))), .int u, .ref (ad 25)]) (c2 := 0) (s2 := 0) rfl rfl rfl ?_
      refine pm_ast C G 25 (by decide) rfl (j := (ix u)) hU.1 (show (ix u) < 121 by omega) d_M_label_74 ?_
      refine pv_aload_n C d_M_label_75 rfl 0 rfl ?_
      refine pm_get (v := .ref (ad 26)) C G 26 (by decide) fl_M_77 rfl rfl d_M_label_76 ?_
      refine pv_iload_n C d_M_label_79 rfl 1 rfl ?_
      refine pv_dup2 C d_M_label_80 rfl rfl ?_
      refine pm_ald C G 26 (by decide) rfl (j := (ix u)) hU.1 (show (ix u) < 121 by omega) d_M_label_81 ?_
      refine pv_top (y := (z 26 (ix u))) ((zs_k _ _ (by decide)).trans ((zs_k _ _ (by decide)).trans (zs_k _ _ (by decide)))) ?_
      refine pv_iconst (v := 1) C d_M_label_82 (by decide) ?_
      refine pv_iadd C d_M_label_83 ?_
      refine pm_ast C G 26 (by decide) rfl (j := (ix u)) hU.1 (show (ix u) < 121 by omega) d_M_label_84 ?_
      refine pv_aload_n C d_M_label_85 rfl 0 rfl ?_
      refine pm_get (v := .ref (ad 25)) C G 25 (by decide) fl_M_74 rfl rfl d_M_label_86 ?_
      refine pv_iload_n C d_M_label_89 rfl 1 rfl ?_
      refine pm_ald C G 25 (by decide) rfl (j := (ix u)) hU.1 (show (ix u) < 121 by omega) d_M_label_90 ?_
      refine pv_top (y := (m_chk ((100000 * (z 4 (zl z (ix u) / 4))) + ((z 27 0) + 1)))) ((zs_k _ _ (by decide)).trans (zs_eq _ _ _ _)) ?_
      exact pv_iret C R0 d_M_label_91 (by decide) (by decide) (mP_i (by unfold m_label; rw [if_pos h1, if_pos h2]))
def hoP (lr us lb : Nat → Int32) (l : Int32) (b : Bool) (u : Nat) : Bool := decide (lr u = l) && (if b = true then decide (us u = 3) else decide (lb u = 0) && !decide (us u = 1))
abbrev rm_M_hasOne : Room := { frames := 0, cells := 0, slots := 0, locals := 0 }
set_option maxRecDepth 100000 in
set_option maxHeartbeats 4000000 in
theorem c_M_hasOne {l0 : Launch} {D : va_G} {γ : Nat → ClassId} (hl0 : l0.stackTraces = false) {LP : List Nat} {f0 : Nat → va_E} {mo : Nat} {ad : Nat → Nat} (G : mm_H mo ad LP) (z : zT) (l : Int32) (b : Bool) (hz : (z 18 0 = nI (zU z) ∧ zU z ≤ 120)) : mM l0 D γ y_M_hasOne (Cond.code y_M_hasOne b_M_hasOne 4 (Option.some FieldType.boolean)) rm_M_hasOne [.ref mo, .int l, .int (bN b)] LP f0 mo ad z (some (.int ((bN (lAny (hoP (z 19) (z 20) (z 25) l b) (zU z)), z)).1)) ((bN (lAny (hoP (z 19) (z 20) (z 25) l b) (zU z)), z)).2 := by
  refine pv_mk hl0 (by decide) (Nat.le_of_ble_eq_true rfl) (fun κ C R0 hN _ => ?_)
  show pv_V D κ 0 0 LP (mm_f γ f0 mo ad z) 0 [(0, .ref mo), (1, .int l), (2, .int (bN b))] []
  have loop : ∀ (n9 : Nat) (i : Nat) (h1 : 1 ≤ i) (h2 : i ≤ zU z + 1) (hn : ∀ a, 1 ≤ a → a < i → hoP (z 19) (z 20) (z 25) l b a = false), zU z + 1 - i < n9 → pv_V D κ 0 0 LP (mm_f γ f0 mo ad z) 2 [(3, .int (nI i)), (0, .ref mo), (1, .int l), (2, .int (bN b))] [] := by
    intro n9
    induction n9 with
    | zero => intro i h1 h2 hn hm; exact absurd hm (Nat.not_lt_zero _)
    | succ n9 ih =>
      intro i h1 h2 hn hm
      have hz1 := hz.2
      refine pv_iload_n C d_M_hasOne_2 rfl 0 rfl ?_
      refine pv_aload_n C d_M_hasOne_3 rfl 1 rfl ?_
      refine pm_get (v := .int (z 18 0)) C G 18 (by decide) fl_M_98 rfl rfl d_M_hasOne_4 ?_
      refine pv_icmp_gt (tgt := 67) C d_M_hasOne_7 (by decide) (fun h101 => ?_) (fun h101 => ?_)
      · refine pv_iconst (v := 0) C d_M_hasOne_67 (by decide) ?_
        exact pv_zret C rfl R0 d_M_hasOne_68 (by decide) (by decide) (mP_i (by rw [lAny_f (fun a q1 q2 => hn a q1 (by rw [hz.1] at h101; have := (nI_ltI (by omega) (by omega)).mp h101; omega))]; rfl))
      · have hle : i ≤ zU z := by rw [hz.1] at h101; exact Nat.not_lt.mp (fun q => h101 (nI_lt q (by omega)))
        refine pv_aload_n C d_M_hasOne_10 rfl 1 rfl ?_
        refine pm_get (v := .ref (ad 19)) C G 19 (by decide) fl_M_56 rfl rfl d_M_hasOne_11 ?_
        refine pv_iload_n C d_M_hasOne_14 rfl 0 rfl ?_
        refine pm_ald C G 19 (by decide) rfl (j := i) rfl (show i < 121 by omega) d_M_hasOne_15 ?_
        refine pv_top (y := (z 19 i)) rfl ?_
        refine pv_iload_n C d_M_hasOne_16 rfl 2 rfl ?_
        refine pv_icmp_eq (tgt := 23) C d_M_hasOne_17 (by decide) (fun h102 => ?_) (fun h102 => ?_)
        · refine pv_iload_n C d_M_hasOne_23 rfl 3 rfl ?_
          refine pv_ifb_eq (tgt := 40) C d_M_hasOne_24 (by decide) (fun h103 => ?_) (fun h103 => ?_)
          · refine pv_aload_n C d_M_hasOne_40 rfl 1 rfl ?_
            refine pm_get (v := .ref (ad 25)) C G 25 (by decide) fl_M_74 rfl rfl d_M_hasOne_41 ?_
            refine pv_iload_n C d_M_hasOne_44 rfl 0 rfl ?_
            refine pm_ald C G 25 (by decide) rfl (j := i) rfl (show i < 121 by omega) d_M_hasOne_45 ?_
            refine pv_top (y := (z 25 i)) rfl ?_
            refine pv_if_ne (tgt := 61) C d_M_hasOne_46 (by decide) (fun h104 => ?_) (fun h104 => ?_)
            · refine pv_iinc (v := ((nI i) + 1)) (lv' := [(3, .int ((nI i) + 1)), (0, .ref mo), (1, .int l), (2, .int (bN b))]) C d_M_hasOne_61 0 rfl rfl (by decide) rfl ?_
              refine pv_goto (tgt := 2) C d_M_hasOne_64 (by decide) ?_
              refine pv_lvs (lv2 := [(3, .int (nI (i + 1))), (0, .ref mo), (1, .int l), (2, .int (bN b))]) [0, 1, 2, 3] (by rw [← nI_next i]; rfl) ?_
              exact ih (i + 1) (by omega) (by omega) (lExt hn (by simp [hoP, h102, h103, h104])) (by omega)
            · refine pv_aload_n C d_M_hasOne_49 rfl 1 rfl ?_
              refine pm_get (v := .ref (ad 20)) C G 20 (by decide) fl_M_59 rfl rfl d_M_hasOne_50 ?_
              refine pv_iload_n C d_M_hasOne_53 rfl 0 rfl ?_
              refine pm_ald C G 20 (by decide) rfl (j := i) rfl (show i < 121 by omega) d_M_hasOne_54 ?_
              refine pv_top (y := (z 20 i)) rfl ?_
              refine pv_iconst (v := 1) C d_M_hasOne_55 (by decide) ?_
              refine pv_icmp_eq (tgt := 61) C d_M_hasOne_56 (by decide) (fun h105 => ?_) (fun h105 => ?_)
              · refine pv_iinc (v := ((nI i) + 1)) (lv' := [(3, .int ((nI i) + 1)), (0, .ref mo), (1, .int l), (2, .int (bN b))]) C d_M_hasOne_61 0 rfl rfl (by decide) rfl ?_
                refine pv_goto (tgt := 2) C d_M_hasOne_64 (by decide) ?_
                refine pv_lvs (lv2 := [(3, .int (nI (i + 1))), (0, .ref mo), (1, .int l), (2, .int (bN b))]) [0, 1, 2, 3] (by rw [← nI_next i]; rfl) ?_
                exact ih (i + 1) (by omega) (by omega) (lExt hn (by simp [hoP, h102, h103, h104, h105])) (by omega)
              · refine pv_iconst (v := 1) C d_M_hasOne_59 (by decide) ?_
                exact pv_zret C rfl R0 d_M_hasOne_60 (by decide) (by decide) (mP_i (by rw [lAny_t h1 hle (by simp [hoP, h102, h103, h104, h105])]; rfl))
          · refine pv_aload_n C d_M_hasOne_27 rfl 1 rfl ?_
            refine pm_get (v := .ref (ad 20)) C G 20 (by decide) fl_M_59 rfl rfl d_M_hasOne_28 ?_
            refine pv_iload_n C d_M_hasOne_31 rfl 0 rfl ?_
            refine pm_ald C G 20 (by decide) rfl (j := i) rfl (show i < 121 by omega) d_M_hasOne_32 ?_
            refine pv_top (y := (z 20 i)) rfl ?_
            refine pv_iconst (v := 3) C d_M_hasOne_33 (by decide) ?_
            refine pv_icmp_ne (tgt := 61) C d_M_hasOne_34 (by decide) (fun h106 => ?_) (fun h106 => ?_)
            · refine pv_iinc (v := ((nI i) + 1)) (lv' := [(3, .int ((nI i) + 1)), (0, .ref mo), (1, .int l), (2, .int (bN b))]) C d_M_hasOne_61 0 rfl rfl (by decide) rfl ?_
              refine pv_goto (tgt := 2) C d_M_hasOne_64 (by decide) ?_
              refine pv_lvs (lv2 := [(3, .int (nI (i + 1))), (0, .ref mo), (1, .int l), (2, .int (bN b))]) [0, 1, 2, 3] (by rw [← nI_next i]; rfl) ?_
              exact ih (i + 1) (by omega) (by omega) (lExt hn (by simp [hoP, h102, h103, h106])) (by omega)
            · refine pv_goto (tgt := 59) C d_M_hasOne_37 (by decide) ?_
              refine pv_iconst (v := 1) C d_M_hasOne_59 (by decide) ?_
              exact pv_zret C rfl R0 d_M_hasOne_60 (by decide) (by decide) (mP_i (by rw [lAny_t h1 hle (by simp [hoP, h102, h103, h106])]; rfl))
        · refine pv_goto (tgt := 61) C d_M_hasOne_20 (by decide) ?_
          refine pv_iinc (v := ((nI i) + 1)) (lv' := [(3, .int ((nI i) + 1)), (0, .ref mo), (1, .int l), (2, .int (bN b))]) C d_M_hasOne_61 0 rfl rfl (by decide) rfl ?_
          refine pv_goto (tgt := 2) C d_M_hasOne_64 (by decide) ?_
          refine pv_lvs (lv2 := [(3, .int (nI (i + 1))), (0, .ref mo), (1, .int l), (2, .int (bN b))]) [0, 1, 2, 3] (by rw [← nI_next i]; rfl) ?_
          exact ih (i + 1) (by omega) (by omega) (lExt hn (by simp [hoP, h102])) (by omega)
  refine pv_iconst (v := 1) C d_M_hasOne_0 (by decide) ?_
  refine pv_istore_n (lv' := [(3, .int 1), (0, .ref mo), (1, .int l), (2, .int (bN b))]) C d_M_hasOne_1 rfl (by decide) rfl ?_
  refine pv_lvs (lv2 := [(3, .int (nI 1)), (0, .ref mo), (1, .int l), (2, .int (bN b))]) [0, 1, 2, 3] rfl ?_
  exact loop (zU z + 2) 1 (by omega) (by omega) (fun a q1 q2 => absurd q1 (by omega)) (by omega)
def dmP (y : zT) (j x : Nat) : Bool := decide (y 19 x = y 19 j) && decide (y 20 x = 1)
abbrev rm_M_damaged : Room := { frames := 2, cells := 0, slots := 0, locals := 43 }
def m_damaged (z : zT) (u : Int32) (k : Int32) : Int32 × zT :=
  (if (isU z u) = true then (if (inB k 1 9) = true then (if (z 20 (ix u)) = 1 then (0, (zs (zs z 0 0 0) 0 0 3)) else (if (z 16 (zl z (ix u))) = 0 then (lCnt (dmP (zs (zs (zs (zs z 0 0 0) 0 0 0) 20 (ix u) 1) 24 (ix u) k) (ix u)) (zU z), (zs (zs (zs (zs z 0 0 0) 0 0 0) 20 (ix u) 1) 24 (ix u) k)) else (0, (zs (zs z 0 0 0) 0 0 3)))) else (0, (zs z 0 0 2))) else (0, (zs z 0 0 1)))
set_option maxRecDepth 100000 in
set_option maxHeartbeats 4000000 in
theorem c_M_damaged {l0 : Launch} {D : va_G} {γ : Nat → ClassId} (hl0 : l0.stackTraces = false) {LP : List Nat} {f0 : Nat → va_E} {mo : Nat} {ad : Nat → Nat} (G : mm_H mo ad LP) (z : zT) (u : Int32) (k : Int32) (hz : zI z) : mM l0 D γ y_M_damaged (Cond.code y_M_damaged b_M_damaged 5 (Option.some FieldType.int)) rm_M_damaged [.ref mo, .int u, .int k] LP f0 mo ad z (some (.int (m_damaged z u k).1)) (m_damaged z u k).2 := by
  refine pv_mk hl0 (by decide) (Nat.le_of_ble_eq_true rfl) (fun κ C R0 hN _ => ?_)
  show pv_V D κ 0 0 LP (mm_f γ f0 mo ad z) 0 [(0, .ref mo), (1, .int u), (2, .int k)] []
  have loop : ∀ (n9 : Nat) (t : Nat) (c : Int32) (h1 : t ≤ zU z) (hc : c = lCnt (dmP (zs (zs (zs (zs z 0 0 0) 0 0 0) 20 (ix u) 1) 24 (ix u) k) (ix u)) t) (hu : u = nI (ix u)) (hu2 : ix u ≤ 120) (hres : m_damaged z u k = (lCnt (dmP (zs (zs (zs (zs z 0 0 0) 0 0 0) 20 (ix u) 1) 24 (ix u) k) (ix u)) (zU z), (zs (zs (zs (zs z 0 0 0) 0 0 0) 20 (ix u) 1) 24 (ix u) k))), zU z - t < n9 → pv_V D κ 0 0 LP (mm_f γ f0 mo ad (zs (zs (zs (zs z 0 0 0) 0 0 0) 20 (ix u) 1) 24 (ix u) k)) 99 [(4, .int (nI (t + 1))), (3, .int c), (0, .ref mo), (1, .int u), (2, .int k)] [] := by
    intro n9
    induction n9 with
    | zero => intro t c h1 hc hu hu2 hres hm; exact absurd hm (Nat.not_lt_zero _)
    | succ n9 ih =>
      intro t c h1 hc hu hu2 hres hm
      have hz1 := hz.2.1.2
      obtain ⟨Y, hY⟩ : ∃ Y, Y = (zs (zs (zs (zs z 0 0 0) 0 0 0) 20 (ix u) 1) 24 (ix u) k) := ⟨_, rfl⟩
      rw [← hY] at hc hres ih ⊢
      have h18 : Y 18 0 = nI (zU z) := by rw [hY]; exact hz.2.1.1
      refine pv_iload C d_M_damaged_99 0 rfl ?_
      refine pv_aload_n C d_M_damaged_101 rfl 2 rfl ?_
      refine pm_get (v := .int (Y 18 0)) C G 18 (by decide) fl_M_98 rfl rfl d_M_damaged_102 ?_
      refine pv_icmp_gt (tgt := 149) C d_M_damaged_105 (by decide) (fun h101 => ?_) (fun h101 => ?_)
      · refine pv_iload_n C d_M_damaged_149 rfl 1 rfl ?_
        exact pv_iret C R0 d_M_damaged_150 (by decide) (by decide) (mP_i (by rw [hres, hc, show t = zU z by rw [h18] at h101; have := (nI_ltI (by omega) (by omega)).mp h101; omega]))
      · have hle : t + 1 ≤ zU z := by rw [h18] at h101; exact Nat.not_lt.mp (fun q => h101 (nI_lt q (by omega)))
        refine pv_iload_n C d_M_damaged_108 rfl 1 rfl ?_
        refine pv_aload_n C d_M_damaged_109 rfl 2 rfl ?_
        refine pm_get (v := .ref (ad 19)) C G 19 (by decide) fl_M_56 rfl rfl d_M_damaged_110 ?_
        refine pv_iload C d_M_damaged_113 0 rfl ?_
        refine pm_ald C G 19 (by decide) rfl (j := (t + 1)) rfl (show (t + 1) < 121 by omega) d_M_damaged_115 ?_
        refine pv_top (y := (Y 19 (t + 1))) rfl ?_
        refine pv_aload_n C d_M_damaged_116 rfl 2 rfl ?_
        refine pm_get (v := .ref (ad 19)) C G 19 (by decide) fl_M_56 rfl rfl d_M_damaged_117 ?_
        refine pv_iload_n C d_M_damaged_120 rfl 3 rfl ?_
        refine pm_ald C G 19 (by decide) rfl (j := (ix u)) hu (show (ix u) < 121 by omega) d_M_damaged_121 ?_
        refine pv_top (y := (Y 19 (ix u))) rfl ?_
        refine pv_icmp_ne (tgt := 140) C d_M_damaged_122 (by decide) (fun h102 => ?_) (fun h102 => ?_)
        · refine pv_iconst (v := 0) C d_M_damaged_140 (by decide) ?_
          refine pv_iadd C d_M_damaged_141 ?_
          refine pv_istore_n (lv' := [(3, .int (c + 0)), (4, .int (nI (t + 1))), (0, .ref mo), (1, .int u), (2, .int k)]) C d_M_damaged_142 rfl (by decide) rfl ?_
          refine pv_iinc (v := ((nI (t + 1)) + 1)) (lv' := [(4, .int ((nI (t + 1)) + 1)), (3, .int (c + 0)), (0, .ref mo), (1, .int u), (2, .int k)]) C d_M_damaged_143 1 rfl rfl (by decide) rfl ?_
          refine pv_goto (tgt := 99) C d_M_damaged_146 (by decide) ?_
          refine pv_lvs (lv2 := [(4, .int (nI (t + 1 + 1))), (3, .int (c + 0)), (0, .ref mo), (1, .int u), (2, .int k)]) [0, 1, 2, 3, 4] (by rw [← nI_next (t + 1)]; rfl) ?_
          exact ih (t + 1) (c + 0) (by omega) (by rw [lCnt, ← hc, show dmP Y (ix u) (t + 1) = false by simp [dmP, h102]]; rfl) hu hu2 hres (by omega)
        · refine pv_aload_n C d_M_damaged_125 rfl 2 rfl ?_
          refine pm_get (v := .ref (ad 20)) C G 20 (by decide) fl_M_59 rfl rfl d_M_damaged_126 ?_
          refine pv_iload C d_M_damaged_129 0 rfl ?_
          refine pm_ald C G 20 (by decide) rfl (j := (t + 1)) rfl (show (t + 1) < 121 by omega) d_M_damaged_131 ?_
          refine pv_top (y := (Y 20 (t + 1))) rfl ?_
          refine pv_iconst (v := 1) C d_M_damaged_132 (by decide) ?_
          refine pv_icmp_ne (tgt := 140) C d_M_damaged_133 (by decide) (fun h103 => ?_) (fun h103 => ?_)
          · refine pv_iconst (v := 0) C d_M_damaged_140 (by decide) ?_
            refine pv_iadd C d_M_damaged_141 ?_
            refine pv_istore_n (lv' := [(3, .int (c + 0)), (4, .int (nI (t + 1))), (0, .ref mo), (1, .int u), (2, .int k)]) C d_M_damaged_142 rfl (by decide) rfl ?_
            refine pv_iinc (v := ((nI (t + 1)) + 1)) (lv' := [(4, .int ((nI (t + 1)) + 1)), (3, .int (c + 0)), (0, .ref mo), (1, .int u), (2, .int k)]) C d_M_damaged_143 1 rfl rfl (by decide) rfl ?_
            refine pv_goto (tgt := 99) C d_M_damaged_146 (by decide) ?_
            refine pv_lvs (lv2 := [(4, .int (nI (t + 1 + 1))), (3, .int (c + 0)), (0, .ref mo), (1, .int u), (2, .int k)]) [0, 1, 2, 3, 4] (by rw [← nI_next (t + 1)]; rfl) ?_
            exact ih (t + 1) (c + 0) (by omega) (by rw [lCnt, ← hc, show dmP Y (ix u) (t + 1) = false by simp [dmP, h102, h103]]; rfl) hu hu2 hres (by omega)
          · refine pv_iconst (v := 1) C d_M_damaged_136 (by decide) ?_
            refine pv_goto (tgt := 141) C d_M_damaged_137 (by decide) ?_
            refine pv_iadd C d_M_damaged_141 ?_
            refine pv_istore_n (lv' := [(3, .int (c + 1)), (4, .int (nI (t + 1))), (0, .ref mo), (1, .int u), (2, .int k)]) C d_M_damaged_142 rfl (by decide) rfl ?_
            refine pv_iinc (v := ((nI (t + 1)) + 1)) (lv' := [(4, .int ((nI (t + 1)) + 1)), (3, .int (c + 1)), (0, .ref mo), (1, .int u), (2, .int k)]) C d_M_damaged_143 1 rfl rfl (by decide) rfl ?_
            refine pv_goto (tgt := 99) C d_M_damaged_146 (by decide) ?_
            refine pv_lvs (lv2 := [(4, .int (nI (t + 1 + 1))), (3, .int (c + 1)), (0, .ref mo), (1, .int u), (2, .int k)]) [0, 1, 2, 3, 4] (by rw [← nI_next (t + 1)]; rfl) ?_
            exact ih (t + 1) (c + 1) (by omega) (by rw [lCnt, ← hc, show dmP Y (ix u) (t + 1) = true by simp [dmP, h102, h103]]; rfl) hu hu2 hres (by omega)
  refine pv_aload_n C d_M_damaged_0 rfl 0 rfl ?_
  refine pv_aload_n C d_M_damaged_1 rfl 0 rfl ?_
  refine pv_iload_n C d_M_damaged_2 rfl 1 rfl ?_
  refine pv_callV (n := 1) (As := [.int u]) (rest := [.ref mo]) C (c_M_isUnit hl0 G z u) cd_M_isUnit ml_M_115 in_M im_M_isUnit se_M_isUnit G.1 mm_obj rfl rfl (by decide +kernel) (by decide) rfl (Nat.le_of_ble_eq_true rfl) rfl d_M_damaged_3 (by decide) hN R0 (fun _ h => h.elim) (fun v9 LP9 f9 h9 => ?_)
  obtain ⟨rfl, rfl, rfl⟩ := h9
  refine pv_st (st2 := [.int (bN (isU z u)), .ref mo]) (c2 := 0) (s2 := 0) rfl rfl rfl ?_
  refine pv_ifb_ne (tgt := 13) C d_M_damaged_6 (by decide) (fun h1 => ?_) (fun h1 => ?_)
  · have hU := isU_ix hz h1
    have hlu := hz.2.2.2.2.1 (ix u) hU.2.1 hU.2.2.1
    refine pv_iload_n C d_M_damaged_13 rfl 2 rfl ?_
    refine pv_iconst (v := 1) C d_M_damaged_14 (by decide) ?_
    refine pv_bipush (v := 9) C d_M_damaged_15 (by decide) ?_
    refine pv_callS (n := 3) (As := [.int k, .int 1, .int 9]) (rest := [.ref mo]) C (c_M_in hl0 G z k 1 9) cd_M_in ml_M_90 in_M sm_M_in (by decide +kernel) (by decide) rfl (Nat.le_of_ble_eq_true rfl) rfl d_M_damaged_17 (by decide) hN R0 (fun _ h => h.elim) (fun v9 LP9 f9 h9 => ?_)
    obtain ⟨rfl, rfl, rfl⟩ := h9
    refine pv_st (st2 := [.int (bN (inB k 1 9)), .ref mo]) (c2 := 0) (s2 := 0) rfl rfl rfl ?_
    refine pv_ifb_ne (tgt := 27) C d_M_damaged_20 (by decide) (fun h2 => ?_) (fun h2 => ?_)
    · refine pv_iconst (v := 0) C d_M_damaged_27 (by decide) ?_
      refine pm_put C G 0 (by decide) fl_M_83 rfl rfl rfl (by decide) rfl d_M_damaged_28 ?_
      refine pv_aload_n C d_M_damaged_31 rfl 0 rfl ?_
      refine pm_get (v := .int 0) C G 0 (by decide) fl_M_83 rfl rfl d_M_damaged_32 ?_
      refine pv_if_ne (tgt := 71) C d_M_damaged_35 (by decide) (fun q => absurd q (by decide)) (fun _ => ?_)
      refine pv_aload_n C d_M_damaged_38 rfl 0 rfl ?_
      refine pv_aload_n C d_M_damaged_39 rfl 0 rfl ?_
      refine pm_get (v := .ref (ad 20)) C G 20 (by decide) fl_M_59 rfl rfl d_M_damaged_40 ?_
      refine pv_iload_n C d_M_damaged_43 rfl 1 rfl ?_
      refine pm_ald C G 20 (by decide) rfl (j := (ix u)) hU.1 (show (ix u) < 121 by omega) d_M_damaged_44 ?_
      refine pv_top (y := (z 20 (ix u))) (zs_k _ _ (by decide)) ?_
      refine pv_iconst (v := 1) C d_M_damaged_45 (by decide) ?_
      refine pv_icmp_eq (tgt := 63) C d_M_damaged_46 (by decide) (fun h3 => ?_) (fun h3 => ?_)
      · refine pv_iconst (v := 3) C d_M_damaged_63 (by decide) ?_
        refine pv_goto (tgt := 68) C d_M_damaged_64 (by decide) ?_
        refine pm_put C G 0 (by decide) fl_M_83 rfl rfl rfl (by decide) rfl d_M_damaged_68 ?_
        refine pv_aload_n C d_M_damaged_71 rfl 0 rfl ?_
        refine pm_get (v := .int 3) C G 0 (by decide) fl_M_83 rfl rfl d_M_damaged_72 ?_
        refine pv_if_le (tgt := 80) C d_M_damaged_75 (by decide) (fun q => absurd q (by decide)) (fun _ => ?_)
        refine pv_iconst (v := 0) C d_M_damaged_78 (by decide) ?_
        exact pv_iret C R0 d_M_damaged_79 (by decide) (by decide) (mP_i (by unfold m_damaged; rw [if_pos h1, if_pos h2, if_pos h3]))
      · refine pv_aload_n C d_M_damaged_49 rfl 0 rfl ?_
        refine pm_get (v := .ref (ad 16)) C G 16 (by decide) fl_M_50 rfl rfl d_M_damaged_50 ?_
        refine pv_aload_n C d_M_damaged_53 rfl 0 rfl ?_
        refine pm_get (v := .ref (ad 19)) C G 19 (by decide) fl_M_56 rfl rfl d_M_damaged_54 ?_
        refine pv_iload_n C d_M_damaged_57 rfl 1 rfl ?_
        refine pm_ald C G 19 (by decide) rfl (j := (ix u)) hU.1 (show (ix u) < 121 by omega) d_M_damaged_58 ?_
        refine pv_top (y := (z 19 (ix u))) (zs_k _ _ (by decide)) ?_
        refine pm_zld C G 16 (by decide) rfl (j := (zl z (ix u))) hlu.1 (show (zl z (ix u)) < 68 by omega) d_M_damaged_59 ?_
        refine pv_top (y := (z 16 (zl z (ix u)))) (zs_k _ _ (by decide)) ?_
        refine pv_if_eq (tgt := 67) C d_M_damaged_60 (by decide) (fun h4 => ?_) (fun h4 => ?_)
        · refine pv_iconst (v := 0) C d_M_damaged_67 (by decide) ?_
          refine pm_put C G 0 (by decide) fl_M_83 rfl rfl rfl (by decide) rfl d_M_damaged_68 ?_
          refine pv_aload_n C d_M_damaged_71 rfl 0 rfl ?_
          refine pm_get (v := .int 0) C G 0 (by decide) fl_M_83 rfl rfl d_M_damaged_72 ?_
          refine pv_if_le (tgt := 80) C d_M_damaged_75 (by decide) (fun _ => ?_) (fun q => absurd q (by decide))
          refine pv_aload_n C d_M_damaged_80 rfl 0 rfl ?_
          refine pm_get (v := .ref (ad 20)) C G 20 (by decide) fl_M_59 rfl rfl d_M_damaged_81 ?_
          refine pv_iload_n C d_M_damaged_84 rfl 1 rfl ?_
          refine pv_iconst (v := 1) C d_M_damaged_85 (by decide) ?_
          refine pm_ast C G 20 (by decide) rfl (j := (ix u)) hU.1 (show (ix u) < 121 by omega) d_M_damaged_86 ?_
          refine pv_aload_n C d_M_damaged_87 rfl 0 rfl ?_
          refine pm_get (v := .ref (ad 24)) C G 24 (by decide) fl_M_71 rfl rfl d_M_damaged_88 ?_
          refine pv_iload_n C d_M_damaged_91 rfl 1 rfl ?_
          refine pv_iload_n C d_M_damaged_92 rfl 2 rfl ?_
          refine pm_ast C G 24 (by decide) rfl (j := (ix u)) hU.1 (show (ix u) < 121 by omega) d_M_damaged_93 ?_
          refine pv_iconst (v := 0) C d_M_damaged_94 (by decide) ?_
          refine pv_istore_n (lv' := [(3, .int 0), (0, .ref mo), (1, .int u), (2, .int k)]) C d_M_damaged_95 rfl (by decide) rfl ?_
          refine pv_iconst (v := 1) C d_M_damaged_96 (by decide) ?_
          refine pv_istore (lv' := [(4, .int 1), (3, .int 0), (0, .ref mo), (1, .int u), (2, .int k)]) C d_M_damaged_97 (by decide) rfl ?_
          refine pv_lvs (lv2 := [(4, .int (nI (0 + 1))), (3, .int 0), (0, .ref mo), (1, .int u), (2, .int k)]) [0, 1, 2, 3, 4] rfl ?_
          exact loop (zU z + 1) 0 0 (by omega) rfl hU.1 hU.2.2.2 (by unfold m_damaged; rw [if_pos h1, if_pos h2, if_neg h3, if_pos h4]) (by omega)
        · refine pv_iconst (v := 3) C d_M_damaged_63 (by decide) ?_
          refine pv_goto (tgt := 68) C d_M_damaged_64 (by decide) ?_
          refine pm_put C G 0 (by decide) fl_M_83 rfl rfl rfl (by decide) rfl d_M_damaged_68 ?_
          refine pv_aload_n C d_M_damaged_71 rfl 0 rfl ?_
          refine pm_get (v := .int 3) C G 0 (by decide) fl_M_83 rfl rfl d_M_damaged_72 ?_
          refine pv_if_le (tgt := 80) C d_M_damaged_75 (by decide) (fun q => absurd q (by decide)) (fun _ => ?_)
          refine pv_iconst (v := 0) C d_M_damaged_78 (by decide) ?_
          exact pv_iret C R0 d_M_damaged_79 (by decide) (by decide) (mP_i (by unfold m_damaged; rw [if_pos h1, if_pos h2, if_neg h3, if_neg h4]))
    · refine pv_iconst (v := 2) C d_M_damaged_23 (by decide) ?_
      refine pv_goto (tgt := 28) C d_M_damaged_24 (by decide) ?_
      refine pm_put C G 0 (by decide) fl_M_83 rfl rfl rfl (by decide) rfl d_M_damaged_28 ?_
      refine pv_aload_n C d_M_damaged_31 rfl 0 rfl ?_
      refine pm_get (v := .int 2) C G 0 (by decide) fl_M_83 rfl rfl d_M_damaged_32 ?_
      refine pv_if_ne (tgt := 71) C d_M_damaged_35 (by decide) (fun _ => ?_) (fun q => absurd q (by decide))
      refine pv_aload_n C d_M_damaged_71 rfl 0 rfl ?_
      refine pm_get (v := .int 2) C G 0 (by decide) fl_M_83 rfl rfl d_M_damaged_72 ?_
      refine pv_if_le (tgt := 80) C d_M_damaged_75 (by decide) (fun q => absurd q (by decide)) (fun _ => ?_)
      refine pv_iconst (v := 0) C d_M_damaged_78 (by decide) ?_
      exact pv_iret C R0 d_M_damaged_79 (by decide) (by decide) (mP_i (by unfold m_damaged; rw [if_pos h1, if_neg (nT h2)]))
  · refine pv_iconst (v := 1) C d_M_damaged_9 (by decide) ?_
    refine pv_goto (tgt := 28) C d_M_damaged_10 (by decide) ?_
    refine pm_put C G 0 (by decide) fl_M_83 rfl rfl rfl (by decide) rfl d_M_damaged_28 ?_
    refine pv_aload_n C d_M_damaged_31 rfl 0 rfl ?_
    refine pm_get (v := .int 1) C G 0 (by decide) fl_M_83 rfl rfl d_M_damaged_32 ?_
    refine pv_if_ne (tgt := 71) C d_M_damaged_35 (by decide) (fun _ => ?_) (fun q => absurd q (by decide))
    refine pv_aload_n C d_M_damaged_71 rfl 0 rfl ?_
    refine pm_get (v := .int 1) C G 0 (by decide) fl_M_83 rfl rfl d_M_damaged_72 ?_
    refine pv_if_le (tgt := 80) C d_M_damaged_75 (by decide) (fun q => absurd q (by decide)) (fun _ => ?_)
    refine pv_iconst (v := 0) C d_M_damaged_78 (by decide) ?_
    exact pv_iret C R0 d_M_damaged_79 (by decide) (by decide) (mP_i (by unfold m_damaged; rw [if_neg (nT h1)]))
def m_ca (z : zT) (a : Int32) : Nat → Nat → Int32 × zT
  | 0, _ => (1, zs (zs (zs z 0 0 0) 0 0 0) 7 (ix a) 3)
  | n + 1, t => if z 16 (4 * ix a + t) = 0 then (-1 - nI t, zs (zs z 0 0 0) 0 0 0) else m_ca z a n (t + 1)
abbrev rm_M_closeAll : Room := { frames := 2, cells := 0, slots := 0, locals := 43 }
def m_closeAll (z : zT) (a : Int32) : Int32 × zT :=
  (if (isA z a) = true then (if (z 7 (ix a)) = 1 then (m_ca z a (zt z (ix a)) 0) else (0, (zs (zs z 0 0 0) 0 0 2))) else (0, (zs z 0 0 1)))
set_option maxRecDepth 100000 in
set_option maxHeartbeats 4000000 in
theorem c_M_closeAll {l0 : Launch} {D : va_G} {γ : Nat → ClassId} (hl0 : l0.stackTraces = false) {LP : List Nat} {f0 : Nat → va_E} {mo : Nat} {ad : Nat → Nat} (G : mm_H mo ad LP) (z : zT) (a : Int32) (hz : zI z) : mM l0 D γ y_M_closeAll (Cond.code y_M_closeAll b_M_closeAll 3 (Option.some FieldType.int)) rm_M_closeAll [.ref mo, .int a] LP f0 mo ad z (some (.int (m_closeAll z a).1)) (m_closeAll z a).2 := by
  refine pv_mk hl0 (by decide) (Nat.le_of_ble_eq_true rfl) (fun κ C R0 hN _ => ?_)
  show pv_V D κ 0 0 LP (mm_f γ f0 mo ad z) 0 [(0, .ref mo), (1, .int a)] []
  have loop : ∀ (n9 : Nat) (t : Nat) (h1 : t ≤ zt z (ix a)) (hA : a = nI (ix a) ∧ 1 ≤ ix a ∧ ix a ≤ zA z ∧ ix a ≤ 16) (hres : m_closeAll z a = m_ca z a (zt z (ix a) - t) t), zt z (ix a) - t < n9 → pv_V D κ 0 0 LP (mm_f γ f0 mo ad (zs (zs z 0 0 0) 0 0 0)) 54 [(2, .int (nI t)), (0, .ref mo), (1, .int a)] [] := by
    intro n9
    induction n9 with
    | zero => intro t h1 hA hres hm; exact absurd hm (Nat.not_lt_zero _)
    | succ n9 ih =>
      intro t h1 hA hres hm
      have ht := hz.2.2.2.1 (ix a) hA.2.2.2
      refine pv_iload_n C d_M_closeAll_54 rfl 0 rfl ?_
      refine pv_aload_n C d_M_closeAll_55 rfl 1 rfl ?_
      refine pm_get (v := .ref (ad 6)) C G 6 (by decide) fl_M_20 rfl rfl d_M_closeAll_56 ?_
      refine pv_iload_n C d_M_closeAll_59 rfl 2 rfl ?_
      refine pm_ald C G 6 (by decide) rfl (j := (ix a)) hA.1 (show (ix a) < 17 by omega) d_M_closeAll_60 ?_
      refine pv_top (y := (z 6 (ix a))) ((zs_k _ _ (by decide)).trans (zs_k _ _ (by decide))) ?_
      refine pv_icmp_ge (tgt := 87) C d_M_closeAll_61 (by decide) (fun h101 => ?_) (fun h101 => ?_)
      · have hlt : zt z (ix a) - t = 0 := by rw [ht.1] at h101; have := (nI_leI (by omega) (by omega)).mp h101; omega
        refine pv_aload_n C d_M_closeAll_87 rfl 1 rfl ?_
        refine pm_get (v := .ref (ad 7)) C G 7 (by decide) fl_M_23 rfl rfl d_M_closeAll_88 ?_
        refine pv_iload_n C d_M_closeAll_91 rfl 2 rfl ?_
        refine pv_iconst (v := 3) C d_M_closeAll_92 (by decide) ?_
        refine pm_ast C G 7 (by decide) rfl (j := (ix a)) hA.1 (show (ix a) < 17 by omega) d_M_closeAll_93 ?_
        refine pv_iconst (v := 1) C d_M_closeAll_94 (by decide) ?_
        exact pv_iret C R0 d_M_closeAll_95 (by decide) (by decide) (mP_i (by rw [hres, hlt]; rfl))
      · have hlt : t < zt z (ix a) := by rw [ht.1] at h101; exact Nat.not_le.mp (fun q => h101 (nI_le q (by omega)))
        have hf : zt z (ix a) - t = (zt z (ix a) - (t + 1)) + 1 := by omega
        refine pv_aload_n C d_M_closeAll_64 rfl 1 rfl ?_
        refine pm_get (v := .ref (ad 16)) C G 16 (by decide) fl_M_50 rfl rfl d_M_closeAll_65 ?_
        refine pv_iconst (v := 4) C d_M_closeAll_68 (by decide) ?_
        refine pv_iload_n C d_M_closeAll_69 rfl 2 rfl ?_
        refine pv_imul C d_M_closeAll_70 ?_
        refine pv_iload_n C d_M_closeAll_71 rfl 0 rfl ?_
        refine pv_iadd C d_M_closeAll_72 ?_
        refine pm_zld C G 16 (by decide) rfl (j := (4 * ix a + t)) (ln_ix hA.1 rfl) (show (4 * ix a + t) < 68 by omega) d_M_closeAll_73 ?_
        refine pv_top (y := (z 16 (4 * ix a + t))) ((zs_k _ _ (by decide)).trans (zs_k _ _ (by decide))) ?_
        refine pv_if_ne (tgt := 81) C d_M_closeAll_74 (by decide) (fun h102 => ?_) (fun h102 => ?_)
        · refine pv_iinc (v := ((nI t) + 1)) (lv' := [(2, .int ((nI t) + 1)), (0, .ref mo), (1, .int a)]) C d_M_closeAll_81 0 rfl rfl (by decide) rfl ?_
          refine pv_goto (tgt := 54) C d_M_closeAll_84 (by decide) ?_
          refine pv_lvs (lv2 := [(2, .int (nI (t + 1))), (0, .ref mo), (1, .int a)]) [0, 1, 2] (by rw [← nI_next t]; rfl) ?_
          exact ih (t + 1) (by omega) hA (by rw [hres, hf, m_ca, if_neg h102]) (by omega)
        · refine pv_iconst (v := (-1)) C d_M_closeAll_77 (by decide) ?_
          refine pv_iload_n C d_M_closeAll_78 rfl 0 rfl ?_
          refine pv_isub C d_M_closeAll_79 ?_
          exact pv_iret C R0 d_M_closeAll_80 (by decide) (by decide) (mP_i (by rw [hres, hf, m_ca, if_pos h102]))
  refine pv_aload_n C d_M_closeAll_0 rfl 0 rfl ?_
  refine pv_aload_n C d_M_closeAll_1 rfl 0 rfl ?_
  refine pv_iload_n C d_M_closeAll_2 rfl 1 rfl ?_
  refine pv_callV (n := 1) (As := [.int a]) (rest := [.ref mo]) C (c_M_isAnnouncement hl0 G z a) cd_M_isAnnouncement ml_M_94 in_M im_M_isAnnouncement se_M_isAnnouncement G.1 mm_obj rfl rfl (by decide +kernel) (by decide) rfl (Nat.le_of_ble_eq_true rfl) rfl d_M_closeAll_3 (by decide) hN R0 (fun _ h => h.elim) (fun v9 LP9 f9 h9 => ?_)
  obtain ⟨rfl, rfl, rfl⟩ := h9
  refine pv_st (st2 := [.int (bN (isA z a)), .ref mo]) (c2 := 0) (s2 := 0) rfl rfl rfl ?_
  refine pv_ifb_ne (tgt := 13) C d_M_closeAll_6 (by decide) (fun h1 => ?_) (fun h1 => ?_)
  · have hA := isA_ix hz h1
    refine pv_iconst (v := 0) C d_M_closeAll_13 (by decide) ?_
    refine pm_put C G 0 (by decide) fl_M_83 rfl rfl rfl (by decide) rfl d_M_closeAll_14 ?_
    refine pv_aload_n C d_M_closeAll_17 rfl 0 rfl ?_
    refine pm_get (v := .int 0) C G 0 (by decide) fl_M_83 rfl rfl d_M_closeAll_18 ?_
    refine pv_if_ne (tgt := 43) C d_M_closeAll_21 (by decide) (fun q => absurd q (by decide)) (fun _ => ?_)
    refine pv_aload_n C d_M_closeAll_24 rfl 0 rfl ?_
    refine pv_aload_n C d_M_closeAll_25 rfl 0 rfl ?_
    refine pm_get (v := .ref (ad 7)) C G 7 (by decide) fl_M_23 rfl rfl d_M_closeAll_26 ?_
    refine pv_iload_n C d_M_closeAll_29 rfl 1 rfl ?_
    refine pm_ald C G 7 (by decide) rfl (j := (ix a)) hA.1 (show (ix a) < 17 by omega) d_M_closeAll_30 ?_
    refine pv_top (y := (z 7 (ix a))) (zs_k _ _ (by decide)) ?_
    refine pv_iconst (v := 1) C d_M_closeAll_31 (by decide) ?_
    refine pv_icmp_eq (tgt := 39) C d_M_closeAll_32 (by decide) (fun h2 => ?_) (fun h2 => ?_)
    · refine pv_iconst (v := 0) C d_M_closeAll_39 (by decide) ?_
      refine pm_put C G 0 (by decide) fl_M_83 rfl rfl rfl (by decide) rfl d_M_closeAll_40 ?_
      refine pv_aload_n C d_M_closeAll_43 rfl 0 rfl ?_
      refine pm_get (v := .int 0) C G 0 (by decide) fl_M_83 rfl rfl d_M_closeAll_44 ?_
      refine pv_if_le (tgt := 52) C d_M_closeAll_47 (by decide) (fun _ => ?_) (fun q => absurd q (by decide))
      refine pv_iconst (v := 0) C d_M_closeAll_52 (by decide) ?_
      refine pv_istore_n (lv' := [(2, .int 0), (0, .ref mo), (1, .int a)]) C d_M_closeAll_53 rfl (by decide) rfl ?_
      refine pv_lvs (lv2 := [(2, .int (nI 0)), (0, .ref mo), (1, .int a)]) [0, 1, 2] rfl ?_
      exact loop (zt z (ix a) + 1) 0 (by omega) hA (by unfold m_closeAll; rw [if_pos h1, if_pos h2]; rfl) (by omega)
    · refine pv_iconst (v := 2) C d_M_closeAll_35 (by decide) ?_
      refine pv_goto (tgt := 40) C d_M_closeAll_36 (by decide) ?_
      refine pm_put C G 0 (by decide) fl_M_83 rfl rfl rfl (by decide) rfl d_M_closeAll_40 ?_
      refine pv_aload_n C d_M_closeAll_43 rfl 0 rfl ?_
      refine pm_get (v := .int 2) C G 0 (by decide) fl_M_83 rfl rfl d_M_closeAll_44 ?_
      refine pv_if_le (tgt := 52) C d_M_closeAll_47 (by decide) (fun q => absurd q (by decide)) (fun _ => ?_)
      refine pv_iconst (v := 0) C d_M_closeAll_50 (by decide) ?_
      exact pv_iret C R0 d_M_closeAll_51 (by decide) (by decide) (mP_i (by unfold m_closeAll; rw [if_pos h1, if_neg h2]))
  · refine pv_iconst (v := 1) C d_M_closeAll_9 (by decide) ?_
    refine pv_goto (tgt := 14) C d_M_closeAll_10 (by decide) ?_
    refine pm_put C G 0 (by decide) fl_M_83 rfl rfl rfl (by decide) rfl d_M_closeAll_14 ?_
    refine pv_aload_n C d_M_closeAll_17 rfl 0 rfl ?_
    refine pm_get (v := .int 1) C G 0 (by decide) fl_M_83 rfl rfl d_M_closeAll_18 ?_
    refine pv_if_ne (tgt := 43) C d_M_closeAll_21 (by decide) (fun _ => ?_) (fun q => absurd q (by decide))
    refine pv_aload_n C d_M_closeAll_43 rfl 0 rfl ?_
    refine pm_get (v := .int 1) C G 0 (by decide) fl_M_83 rfl rfl d_M_closeAll_44 ?_
    refine pv_if_le (tgt := 52) C d_M_closeAll_47 (by decide) (fun q => absurd q (by decide)) (fun _ => ?_)
    refine pv_iconst (v := 0) C d_M_closeAll_50 (by decide) ?_
    exact pv_iret C R0 d_M_closeAll_51 (by decide) (by decide) (mP_i (by unfold m_closeAll; rw [if_neg (nT h1)]))
def m_cl (z : zT) (a : Int32) : Nat → Nat → Int32 → Int32
  | 0, _, _ => -1
  | n + 1, t, c => if z 19 (t + 1) / 4 = a then (if z 20 (t + 1) = 1 then (if c = 0 then nI (t + 1) else m_cl z a n (t + 1) (c + (-1))) else m_cl z a n (t + 1) c) else m_cl z a n (t + 1) c
abbrev rm_M_claim : Room := { frames := 2, cells := 0, slots := 0, locals := 43 }
def m_claim (z : zT) (a : Int32) (i : Int32) : Int32 × zT :=
  (if (isA z a) = true then (if 0 ≤ i then (m_cl z a (zU z) 0 i, zs z 0 0 0) else (0, (zs z 0 0 2))) else (0, (zs z 0 0 1)))
set_option maxRecDepth 100000 in
set_option maxHeartbeats 4000000 in
theorem c_M_claim {l0 : Launch} {D : va_G} {γ : Nat → ClassId} (hl0 : l0.stackTraces = false) {LP : List Nat} {f0 : Nat → va_E} {mo : Nat} {ad : Nat → Nat} (G : mm_H mo ad LP) (z : zT) (a : Int32) (i : Int32) (hz : zI z) : mM l0 D γ y_M_claim (Cond.code y_M_claim b_M_claim 5 (Option.some FieldType.int)) rm_M_claim [.ref mo, .int a, .int i] LP f0 mo ad z (some (.int (m_claim z a i).1)) (m_claim z a i).2 := by
  refine pv_mk hl0 (by decide) (Nat.le_of_ble_eq_true rfl) (fun κ C R0 hN _ => ?_)
  show pv_V D κ 0 0 LP (mm_f γ f0 mo ad z) 0 [(0, .ref mo), (1, .int a), (2, .int i)] []
  have loop : ∀ (n9 : Nat) (t : Nat) (c : Int32) (h1 : t ≤ zU z) (hres : m_claim z a i = (m_cl z a (zU z - t) t c, zs z 0 0 0)), zU z - t < n9 → pv_V D κ 0 0 LP (mm_f γ f0 mo ad (zs z 0 0 0)) 39 [(4, .int (nI (t + 1))), (3, .int c), (0, .ref mo), (1, .int a), (2, .int i)] [] := by
    intro n9
    induction n9 with
    | zero => intro t c h1 hres hm; exact absurd hm (Nat.not_lt_zero _)
    | succ n9 ih =>
      intro t c h1 hres hm
      have hz1 := hz.2.1.2
      refine pv_iload C d_M_claim_39 0 rfl ?_
      refine pv_aload_n C d_M_claim_41 rfl 2 rfl ?_
      refine pm_get (v := .int (z 18 0)) C G 18 (by decide) fl_M_98 rfl rfl d_M_claim_42 ?_
      refine pv_icmp_gt (tgt := 91) C d_M_claim_45 (by decide) (fun h101 => ?_) (fun h101 => ?_)
      · refine pv_iconst (v := (-1)) C d_M_claim_91 (by decide) ?_
        exact pv_iret C R0 d_M_claim_92 (by decide) (by decide) (mP_i (by rw [hres, show zU z - t = 0 by rw [hz.2.1.1] at h101; have := (nI_ltI (by omega) (by omega)).mp h101; omega]; rfl))
      · have hle : t + 1 ≤ zU z := by rw [hz.2.1.1] at h101; exact Nat.not_lt.mp (fun q => h101 (nI_lt q (by omega)))
        have hf : zU z - t = (zU z - (t + 1)) + 1 := by omega
        refine pv_aload_n C d_M_claim_48 rfl 2 rfl ?_
        refine pm_get (v := .ref (ad 19)) C G 19 (by decide) fl_M_56 rfl rfl d_M_claim_49 ?_
        refine pv_iload C d_M_claim_52 0 rfl ?_
        refine pm_ald C G 19 (by decide) rfl (j := (t + 1)) rfl (show (t + 1) < 121 by omega) d_M_claim_54 ?_
        refine pv_top (y := (z 19 (t + 1))) (zs_k _ _ (by decide)) ?_
        refine pv_iconst (v := 4) C d_M_claim_55 (by decide) ?_
        refine pv_idiv C d_M_claim_56 (by decide) ?_
        refine pv_iload_n C d_M_claim_57 rfl 3 rfl ?_
        refine pv_icmp_ne (tgt := 85) C d_M_claim_58 (by decide) (fun h102 => ?_) (fun h102 => ?_)
        · refine pv_iinc (v := ((nI (t + 1)) + 1)) (lv' := [(4, .int ((nI (t + 1)) + 1)), (3, .int c), (0, .ref mo), (1, .int a), (2, .int i)]) C d_M_claim_85 0 rfl rfl (by decide) rfl ?_
          refine pv_goto (tgt := 39) C d_M_claim_88 (by decide) ?_
          refine pv_lvs (lv2 := [(4, .int (nI (t + 1 + 1))), (3, .int c), (0, .ref mo), (1, .int a), (2, .int i)]) [0, 1, 2, 3, 4] (by rw [← nI_next (t + 1)]; rfl) ?_
          exact ih (t + 1) c (by omega) (by rw [hres, hf, m_cl, if_neg h102]) (by omega)
        · refine pv_aload_n C d_M_claim_61 rfl 2 rfl ?_
          refine pm_get (v := .ref (ad 20)) C G 20 (by decide) fl_M_59 rfl rfl d_M_claim_62 ?_
          refine pv_iload C d_M_claim_65 0 rfl ?_
          refine pm_ald C G 20 (by decide) rfl (j := (t + 1)) rfl (show (t + 1) < 121 by omega) d_M_claim_67 ?_
          refine pv_top (y := (z 20 (t + 1))) (zs_k _ _ (by decide)) ?_
          refine pv_iconst (v := 1) C d_M_claim_68 (by decide) ?_
          refine pv_icmp_eq (tgt := 75) C d_M_claim_69 (by decide) (fun h103 => ?_) (fun h103 => ?_)
          · refine pv_iload_n C d_M_claim_75 rfl 1 rfl ?_
            refine pv_if_ne (tgt := 82) C d_M_claim_76 (by decide) (fun h104 => ?_) (fun h104 => ?_)
            · refine pv_iinc (v := (c + (-1))) (lv' := [(3, .int (c + (-1))), (4, .int (nI (t + 1))), (0, .ref mo), (1, .int a), (2, .int i)]) C d_M_claim_82 1 rfl rfl (by decide) rfl ?_
              refine pv_iinc (v := ((nI (t + 1)) + 1)) (lv' := [(4, .int ((nI (t + 1)) + 1)), (3, .int (c + (-1))), (0, .ref mo), (1, .int a), (2, .int i)]) C d_M_claim_85 1 rfl rfl (by decide) rfl ?_
              refine pv_goto (tgt := 39) C d_M_claim_88 (by decide) ?_
              refine pv_lvs (lv2 := [(4, .int (nI (t + 1 + 1))), (3, .int (c + (-1))), (0, .ref mo), (1, .int a), (2, .int i)]) [0, 1, 2, 3, 4] (by rw [← nI_next (t + 1)]; rfl) ?_
              exact ih (t + 1) (c + (-1)) (by omega) (by rw [hres, hf, m_cl, if_pos h102, if_pos h103, if_neg h104]) (by omega)
            · refine pv_iload C d_M_claim_79 0 rfl ?_
              exact pv_iret C R0 d_M_claim_81 (by decide) (by decide) (mP_i (by rw [hres, hf, m_cl, if_pos h102, if_pos h103, if_pos h104]))
          · refine pv_goto (tgt := 85) C d_M_claim_72 (by decide) ?_
            refine pv_iinc (v := ((nI (t + 1)) + 1)) (lv' := [(4, .int ((nI (t + 1)) + 1)), (3, .int c), (0, .ref mo), (1, .int a), (2, .int i)]) C d_M_claim_85 0 rfl rfl (by decide) rfl ?_
            refine pv_goto (tgt := 39) C d_M_claim_88 (by decide) ?_
            refine pv_lvs (lv2 := [(4, .int (nI (t + 1 + 1))), (3, .int c), (0, .ref mo), (1, .int a), (2, .int i)]) [0, 1, 2, 3, 4] (by rw [← nI_next (t + 1)]; rfl) ?_
            exact ih (t + 1) c (by omega) (by rw [hres, hf, m_cl, if_pos h102, if_neg h103]) (by omega)
  refine pv_aload_n C d_M_claim_0 rfl 0 rfl ?_
  refine pv_aload_n C d_M_claim_1 rfl 0 rfl ?_
  refine pv_iload_n C d_M_claim_2 rfl 1 rfl ?_
  refine pv_callV (n := 1) (As := [.int a]) (rest := [.ref mo]) C (c_M_isAnnouncement hl0 G z a) cd_M_isAnnouncement ml_M_94 in_M im_M_isAnnouncement se_M_isAnnouncement G.1 mm_obj rfl rfl (by decide +kernel) (by decide) rfl (Nat.le_of_ble_eq_true rfl) rfl d_M_claim_3 (by decide) hN R0 (fun _ h => h.elim) (fun v9 LP9 f9 h9 => ?_)
  obtain ⟨rfl, rfl, rfl⟩ := h9
  refine pv_st (st2 := [.int (bN (isA z a)), .ref mo]) (c2 := 0) (s2 := 0) rfl rfl rfl ?_
  refine pv_ifb_ne (tgt := 13) C d_M_claim_6 (by decide) (fun h1 => ?_) (fun h1 => ?_)
  · have hA := isA_ix hz h1
    refine pv_iload_n C d_M_claim_13 rfl 2 rfl ?_
    refine pv_if_ge (tgt := 21) C d_M_claim_14 (by decide) (fun h2 => ?_) (fun h2 => ?_)
    · refine pv_iconst (v := 0) C d_M_claim_21 (by decide) ?_
      refine pm_put C G 0 (by decide) fl_M_83 rfl rfl rfl (by decide) rfl d_M_claim_22 ?_
      refine pv_aload_n C d_M_claim_25 rfl 0 rfl ?_
      refine pm_get (v := .int 0) C G 0 (by decide) fl_M_83 rfl rfl d_M_claim_26 ?_
      refine pv_if_le (tgt := 34) C d_M_claim_29 (by decide) (fun _ => ?_) (fun q => absurd q (by decide))
      refine pv_iload_n C d_M_claim_34 rfl 2 rfl ?_
      refine pv_istore_n (lv' := [(3, .int i), (0, .ref mo), (1, .int a), (2, .int i)]) C d_M_claim_35 rfl (by decide) rfl ?_
      refine pv_iconst (v := 1) C d_M_claim_36 (by decide) ?_
      refine pv_istore (lv' := [(4, .int 1), (3, .int i), (0, .ref mo), (1, .int a), (2, .int i)]) C d_M_claim_37 (by decide) rfl ?_
      refine pv_lvs (lv2 := [(4, .int (nI (0 + 1))), (3, .int i), (0, .ref mo), (1, .int a), (2, .int i)]) [0, 1, 2, 3, 4] rfl ?_
      exact loop (zU z + 1) 0 i (by omega) (by unfold m_claim; rw [if_pos h1, if_pos h2]; rfl) (by omega)
    · refine pv_iconst (v := 2) C d_M_claim_17 (by decide) ?_
      refine pv_goto (tgt := 22) C d_M_claim_18 (by decide) ?_
      refine pm_put C G 0 (by decide) fl_M_83 rfl rfl rfl (by decide) rfl d_M_claim_22 ?_
      refine pv_aload_n C d_M_claim_25 rfl 0 rfl ?_
      refine pm_get (v := .int 2) C G 0 (by decide) fl_M_83 rfl rfl d_M_claim_26 ?_
      refine pv_if_le (tgt := 34) C d_M_claim_29 (by decide) (fun q => absurd q (by decide)) (fun _ => ?_)
      refine pv_iconst (v := 0) C d_M_claim_32 (by decide) ?_
      exact pv_iret C R0 d_M_claim_33 (by decide) (by decide) (mP_i (by unfold m_claim; rw [if_pos h1, if_neg h2]))
  · refine pv_iconst (v := 1) C d_M_claim_9 (by decide) ?_
    refine pv_goto (tgt := 22) C d_M_claim_10 (by decide) ?_
    refine pm_put C G 0 (by decide) fl_M_83 rfl rfl rfl (by decide) rfl d_M_claim_22 ?_
    refine pv_aload_n C d_M_claim_25 rfl 0 rfl ?_
    refine pm_get (v := .int 1) C G 0 (by decide) fl_M_83 rfl rfl d_M_claim_26 ?_
    refine pv_if_le (tgt := 34) C d_M_claim_29 (by decide) (fun q => absurd q (by decide)) (fun _ => ?_)
    refine pv_iconst (v := 0) C d_M_claim_32 (by decide) ?_
    exact pv_iret C R0 d_M_claim_33 (by decide) (by decide) (mP_i (by unfold m_claim; rw [if_neg (nT h1)]))
end
section
/-! contracts of the reference: sample, close, count (by wip/whole/gen/m3.py) -/
def m_qn (ln : Int32) : Nat → Nat → zT → zT
  | 0, _, q => q
  | n + 1, t, q => if q 19 (t + 1) = ln then (if q 20 (t + 1) = 0 then m_qn ln n (t + 1) (zs q 20 (t + 1) 2) else m_qn ln n (t + 1) q) else m_qn ln n (t + 1) q
abbrev rm_M_sample : Room := { frames := 3, cells := 0, slots := 0, locals := 65 }
def m_sample (z : zT) (a : Int32) (n : Int32) (b : Bool) : Int32 × zT :=
  (if (isL z a n) = true then (if (z 7 (ix a)) = 1 then (if (z 16 (4 * ix a + ix n)) = 0 then (if (m_open z (4 * ix a + ix n)) = 0 then (0, (zs (zs z 0 0 0) 0 0 2)) else (if b = true then ((m_open (zs (zs (zs z 0 0 0) 0 0 0) 14 (4 * ix a + ix n) ((z 14 (4 * ix a + ix n)) + 1)) (4 * ix a + ix n)), (zs (zs (zs z 0 0 0) 0 0 0) 14 (4 * ix a + ix n) ((z 14 (4 * ix a + ix n)) + 1))) else (m_open (m_qn ((4 * a) + n) (zU z) 0 (zs (zs (zs (zs z 0 0 0) 0 0 0) 14 (4 * ix a + ix n) ((z 14 (4 * ix a + ix n)) + 1)) 15 (4 * ix a + ix n) 1)) (4 * ix a + ix n), m_qn ((4 * a) + n) (zU z) 0 (zs (zs (zs (zs z 0 0 0) 0 0 0) 14 (4 * ix a + ix n) ((z 14 (4 * ix a + ix n)) + 1)) 15 (4 * ix a + ix n) 1)))) else (0, (zs (zs z 0 0 0) 0 0 2))) else (0, (zs (zs z 0 0 0) 0 0 2))) else (0, (zs z 0 0 1)))
set_option maxRecDepth 100000 in
set_option maxHeartbeats 4000000 in
theorem c_M_sample {l0 : Launch} {D : va_G} {γ : Nat → ClassId} (hl0 : l0.stackTraces = false) {LP : List Nat} {f0 : Nat → va_E} {mo : Nat} {ad : Nat → Nat} (G : mm_H mo ad LP) (z : zT) (a : Int32) (n : Int32) (b : Bool) (hz : zI z) : mM l0 D γ y_M_sample (Cond.code y_M_sample b_M_sample 6 (Option.some FieldType.int)) rm_M_sample [.ref mo, .int a, .int n, .int (bN b)] LP f0 mo ad z (some (.int (m_sample z a n b).1)) (m_sample z a n b).2 := by
  refine pv_mk hl0 (by decide) (Nat.le_of_ble_eq_true rfl) (fun κ C R0 hN _ => ?_)
  show pv_V D κ 0 0 LP (mm_f γ f0 mo ad z) 0 [(0, .ref mo), (1, .int a), (2, .int n), (3, .int (bN b))] []
  have loop : ∀ (n9 : Nat) (t : Nat) (q : zT) (h1 : t ≤ zU z) (hL : (a = nI (ix a) ∧ 1 ≤ ix a ∧ ix a ≤ zA z ∧ ix a ≤ 16) ∧ n = nI (ix n) ∧ ix n < zt z (ix a) ∧ ix n < 4) (h18 : q 18 0 = nI (zU z)) (hres : m_sample z a n b = (m_open (m_qn ((4 * a) + n) (zU z - t) t q) (4 * ix a + ix n), m_qn ((4 * a) + n) (zU z - t) t q)), zU z - t < n9 → pv_V D κ 0 0 LP (mm_f γ f0 mo ad q) 107 [(5, .int (nI (t + 1))), (4, .int ((4 * a) + n)), (0, .ref mo), (1, .int a), (2, .int n), (3, .int (bN b))] [] := by
    intro n9
    induction n9 with
    | zero => intro t q h1 hL h18 hres hm; exact absurd hm (Nat.not_lt_zero _)
    | succ n9 ih =>
      intro t q h1 hL h18 hres hm
      have hz1 := hz.2.1.2
      refine pv_iload C d_M_sample_107 0 rfl ?_
      refine pv_aload_n C d_M_sample_109 rfl 2 rfl ?_
      refine pm_get (v := .int (q 18 0)) C G 18 (by decide) fl_M_98 rfl rfl d_M_sample_110 ?_
      refine pv_icmp_gt (tgt := 152) C d_M_sample_113 (by decide) (fun h101 => ?_) (fun h101 => ?_)
      · have he : zU z - t = 0 := by rw [h18] at h101; have := (nI_ltI (by omega) (by omega)).mp h101; omega
        refine pv_aload_n C d_M_sample_152 rfl 2 rfl ?_
        refine pv_iload C d_M_sample_153 1 rfl ?_
        refine pv_callV (n := 1) (As := [.int ((4 * a) + n)]) (rest := []) C (c_M_openSamples hl0 G q ((4 * a) + n) (4 * ix a + ix n) (by omega) (ln_ix hL.1.1 hL.2.1)) cd_M_openSamples ml_M_118 in_M im_M_openSamples se_M_openSamples G.1 mm_obj rfl rfl (by decide +kernel) (by decide) rfl (Nat.le_of_ble_eq_true rfl) rfl d_M_sample_155 (by decide) hN R0 (fun _ h => h.elim) (fun v9 LP9 f9 h9 => ?_)
        obtain ⟨rfl, rfl, rfl⟩ := h9
        refine pv_stf (f2 := mm_f γ f0 mo ad q) (st2 := [.int (m_open q (4 * ix a + ix n))]) (c2 := 0) (s2 := 0) rfl rfl rfl rfl ?_
        exact pv_iret C R0 d_M_sample_158 (by decide) (by decide) (mP_i (by rw [hres, he]; rfl))
      · have hle : t + 1 ≤ zU z := by rw [h18] at h101; exact Nat.not_lt.mp (fun q => h101 (nI_lt q (by omega)))
        have hf : zU z - t = (zU z - (t + 1)) + 1 := by omega
        refine pv_aload_n C d_M_sample_116 rfl 2 rfl ?_
        refine pm_get (v := .ref (ad 19)) C G 19 (by decide) fl_M_56 rfl rfl d_M_sample_117 ?_
        refine pv_iload C d_M_sample_120 0 rfl ?_
        refine pm_ald C G 19 (by decide) rfl (j := (t + 1)) rfl (show (t + 1) < 121 by omega) d_M_sample_122 ?_
        refine pv_top (y := (q 19 (t + 1))) rfl ?_
        refine pv_iload C d_M_sample_123 1 rfl ?_
        refine pv_icmp_ne (tgt := 146) C d_M_sample_125 (by decide) (fun h102 => ?_) (fun h102 => ?_)
        · refine pv_iinc (v := ((nI (t + 1)) + 1)) (lv' := [(5, .int ((nI (t + 1)) + 1)), (4, .int ((4 * a) + n)), (0, .ref mo), (1, .int a), (2, .int n), (3, .int (bN b))]) C d_M_sample_146 0 rfl rfl (by decide) rfl ?_
          refine pv_goto (tgt := 107) C d_M_sample_149 (by decide) ?_
          refine pv_lvs (lv2 := [(5, .int (nI (t + 1 + 1))), (4, .int ((4 * a) + n)), (0, .ref mo), (1, .int a), (2, .int n), (3, .int (bN b))]) [0, 1, 2, 3, 4, 5] (by rw [← nI_next (t + 1)]; rfl) ?_
          exact ih (t + 1) q (by omega) hL (h18) (by rw [hres, hf, m_qn, if_neg h102]) (by omega)
        · refine pv_aload_n C d_M_sample_128 rfl 2 rfl ?_
          refine pm_get (v := .ref (ad 20)) C G 20 (by decide) fl_M_59 rfl rfl d_M_sample_129 ?_
          refine pv_iload C d_M_sample_132 0 rfl ?_
          refine pm_ald C G 20 (by decide) rfl (j := (t + 1)) rfl (show (t + 1) < 121 by omega) d_M_sample_134 ?_
          refine pv_top (y := (q 20 (t + 1))) rfl ?_
          refine pv_if_ne (tgt := 146) C d_M_sample_135 (by decide) (fun h103 => ?_) (fun h103 => ?_)
          · refine pv_iinc (v := ((nI (t + 1)) + 1)) (lv' := [(5, .int ((nI (t + 1)) + 1)), (4, .int ((4 * a) + n)), (0, .ref mo), (1, .int a), (2, .int n), (3, .int (bN b))]) C d_M_sample_146 0 rfl rfl (by decide) rfl ?_
            refine pv_goto (tgt := 107) C d_M_sample_149 (by decide) ?_
            refine pv_lvs (lv2 := [(5, .int (nI (t + 1 + 1))), (4, .int ((4 * a) + n)), (0, .ref mo), (1, .int a), (2, .int n), (3, .int (bN b))]) [0, 1, 2, 3, 4, 5] (by rw [← nI_next (t + 1)]; rfl) ?_
            exact ih (t + 1) q (by omega) hL (h18) (by rw [hres, hf, m_qn, if_pos h102, if_neg h103]) (by omega)
          · refine pv_aload_n C d_M_sample_138 rfl 2 rfl ?_
            refine pm_get (v := .ref (ad 20)) C G 20 (by decide) fl_M_59 rfl rfl d_M_sample_139 ?_
            refine pv_iload C d_M_sample_142 0 rfl ?_
            refine pv_iconst (v := 2) C d_M_sample_144 (by decide) ?_
            refine pm_ast C G 20 (by decide) rfl (j := (t + 1)) rfl (show (t + 1) < 121 by omega) d_M_sample_145 ?_
            refine pv_iinc (v := ((nI (t + 1)) + 1)) (lv' := [(5, .int ((nI (t + 1)) + 1)), (4, .int ((4 * a) + n)), (0, .ref mo), (1, .int a), (2, .int n), (3, .int (bN b))]) C d_M_sample_146 0 rfl rfl (by decide) rfl ?_
            refine pv_goto (tgt := 107) C d_M_sample_149 (by decide) ?_
            refine pv_lvs (lv2 := [(5, .int (nI (t + 1 + 1))), (4, .int ((4 * a) + n)), (0, .ref mo), (1, .int a), (2, .int n), (3, .int (bN b))]) [0, 1, 2, 3, 4, 5] (by rw [← nI_next (t + 1)]; rfl) ?_
            exact ih (t + 1) (zs q 20 (t + 1) 2) (by omega) hL ((zs_k _ _ (by decide)).trans h18) (by rw [hres, hf, m_qn, if_pos h102, if_pos h103]) (by omega)
  refine pv_aload_n C d_M_sample_0 rfl 0 rfl ?_
  refine pv_aload_n C d_M_sample_1 rfl 0 rfl ?_
  refine pv_iload_n C d_M_sample_2 rfl 1 rfl ?_
  refine pv_iload_n C d_M_sample_3 rfl 2 rfl ?_
  refine pv_callV (n := 2) (As := [.int a, .int n]) (rest := [.ref mo]) C (c_M_isLine hl0 G z a n hz) cd_M_isLine ml_M_107 in_M im_M_isLine se_M_isLine G.1 mm_obj rfl rfl (by decide +kernel) (by decide) rfl (Nat.le_of_ble_eq_true rfl) rfl d_M_sample_4 (by decide) hN R0 (fun _ h => h.elim) (fun v9 LP9 f9 h9 => ?_)
  obtain ⟨rfl, rfl, rfl⟩ := h9
  refine pv_stf (f2 := mm_f γ f0 mo ad z) (st2 := [.int (bN (isL z a n)), .ref mo]) (c2 := 0) (s2 := 0) rfl rfl rfl rfl ?_
  refine pv_ifb_ne (tgt := 14) C d_M_sample_7 (by decide) (fun h1 => ?_) (fun h1 => ?_)
  · have hL := isL_ix hz h1
    refine pv_iconst (v := 0) C d_M_sample_14 (by decide) ?_
    refine pm_put C G 0 (by decide) fl_M_83 rfl rfl rfl (by decide) rfl d_M_sample_15 ?_
    refine pv_aload_n C d_M_sample_18 rfl 0 rfl ?_
    refine pm_get (v := .int 0) C G 0 (by decide) fl_M_83 rfl rfl d_M_sample_19 ?_
    refine pv_if_le (tgt := 27) C d_M_sample_22 (by decide) (fun _ => ?_) (fun q => absurd q (by decide))
    refine pv_iconst (v := 4) C d_M_sample_27 (by decide) ?_
    refine pv_iload_n C d_M_sample_28 rfl 1 rfl ?_
    refine pv_imul C d_M_sample_29 ?_
    refine pv_iload_n C d_M_sample_30 rfl 2 rfl ?_
    refine pv_iadd C d_M_sample_31 ?_
    refine pv_istore (lv' := [(4, .int ((4 * a) + n)), (0, .ref mo), (1, .int a), (2, .int n), (3, .int (bN b))]) C d_M_sample_32 (by decide) rfl ?_
    refine pv_aload_n C d_M_sample_34 rfl 1 rfl ?_
    refine pv_aload_n C d_M_sample_35 rfl 1 rfl ?_
    refine pm_get (v := .ref (ad 7)) C G 7 (by decide) fl_M_23 rfl rfl d_M_sample_36 ?_
    refine pv_iload_n C d_M_sample_39 rfl 2 rfl ?_
    refine pm_ald C G 7 (by decide) rfl (j := (ix a)) hL.1.1 (show (ix a) < 17 by omega) d_M_sample_40 ?_
    refine pv_top (y := (z 7 (ix a))) (zs_k _ _ (by decide)) ?_
    refine pv_iconst (v := 1) C d_M_sample_41 (by decide) ?_
    refine pv_icmp_ne (tgt := 64) C d_M_sample_42 (by decide) (fun h2 => ?_) (fun h2 => ?_)
    · refine pv_iconst (v := 2) C d_M_sample_64 (by decide) ?_
      refine pv_goto (tgt := 69) C d_M_sample_65 (by decide) ?_
      refine pm_put C G 0 (by decide) fl_M_83 rfl rfl rfl (by decide) rfl d_M_sample_69 ?_
      refine pv_aload_n C d_M_sample_72 rfl 1 rfl ?_
      refine pm_get (v := .int 2) C G 0 (by decide) fl_M_83 rfl rfl d_M_sample_73 ?_
      refine pv_if_le (tgt := 81) C d_M_sample_76 (by decide) (fun q => absurd q (by decide)) (fun _ => ?_)
      refine pv_iconst (v := 0) C d_M_sample_79 (by decide) ?_
      exact pv_iret C R0 d_M_sample_80 (by decide) (by decide) (mP_i (by unfold m_sample; rw [if_pos h1, if_neg h2]))
    · refine pv_aload_n C d_M_sample_45 rfl 1 rfl ?_
      refine pm_get (v := .ref (ad 16)) C G 16 (by decide) fl_M_50 rfl rfl d_M_sample_46 ?_
      refine pv_iload C d_M_sample_49 0 rfl ?_
      refine pm_zld C G 16 (by decide) rfl (j := (4 * ix a + ix n)) (ln_ix hL.1.1 hL.2.1) (show (4 * ix a + ix n) < 68 by omega) d_M_sample_51 ?_
      refine pv_top (y := (z 16 (4 * ix a + ix n))) (zs_k _ _ (by decide)) ?_
      refine pv_if_ne (tgt := 64) C d_M_sample_52 (by decide) (fun h3 => ?_) (fun h3 => ?_)
      · refine pv_iconst (v := 2) C d_M_sample_64 (by decide) ?_
        refine pv_goto (tgt := 69) C d_M_sample_65 (by decide) ?_
        refine pm_put C G 0 (by decide) fl_M_83 rfl rfl rfl (by decide) rfl d_M_sample_69 ?_
        refine pv_aload_n C d_M_sample_72 rfl 1 rfl ?_
        refine pm_get (v := .int 2) C G 0 (by decide) fl_M_83 rfl rfl d_M_sample_73 ?_
        refine pv_if_le (tgt := 81) C d_M_sample_76 (by decide) (fun q => absurd q (by decide)) (fun _ => ?_)
        refine pv_iconst (v := 0) C d_M_sample_79 (by decide) ?_
        exact pv_iret C R0 d_M_sample_80 (by decide) (by decide) (mP_i (by unfold m_sample; rw [if_pos h1, if_pos h2, if_neg h3]))
      · refine pv_aload_n C d_M_sample_55 rfl 1 rfl ?_
        refine pv_iload C d_M_sample_56 0 rfl ?_
        refine pv_callV (n := 1) (As := [.int ((4 * a) + n)]) (rest := [.ref mo]) C (c_M_openSamples hl0 G (zs z 0 0 0) ((4 * a) + n) (4 * ix a + ix n) (by omega) (ln_ix hL.1.1 hL.2.1)) cd_M_openSamples ml_M_118 in_M im_M_openSamples se_M_openSamples G.1 mm_obj rfl rfl (by decide +kernel) (by decide) rfl (Nat.le_of_ble_eq_true rfl) rfl d_M_sample_58 (by decide) hN R0 (fun _ h => h.elim) (fun v9 LP9 f9 h9 => ?_)
        obtain ⟨rfl, rfl, rfl⟩ := h9
        refine pv_stf (f2 := mm_f γ f0 mo ad (zs z 0 0 0)) (st2 := [.int (m_open z (4 * ix a + ix n)), .ref mo]) (c2 := 0) (s2 := 0) rfl rfl rfl rfl ?_
        refine pv_if_ne (tgt := 68) C d_M_sample_61 (by decide) (fun h4 => ?_) (fun h4 => ?_)
        · refine pv_iconst (v := 0) C d_M_sample_68 (by decide) ?_
          refine pm_put C G 0 (by decide) fl_M_83 rfl rfl rfl (by decide) rfl d_M_sample_69 ?_
          refine pv_aload_n C d_M_sample_72 rfl 1 rfl ?_
          refine pm_get (v := .int 0) C G 0 (by decide) fl_M_83 rfl rfl d_M_sample_73 ?_
          refine pv_if_le (tgt := 81) C d_M_sample_76 (by decide) (fun _ => ?_) (fun q => absurd q (by decide))
          refine pv_aload_n C d_M_sample_81 rfl 1 rfl ?_
          refine pm_get (v := .ref (ad 14)) C G 14 (by decide) fl_M_44 rfl rfl d_M_sample_82 ?_
          refine pv_iload C d_M_sample_85 0 rfl ?_
          refine pv_dup2 C d_M_sample_87 rfl rfl ?_
          refine pm_ald C G 14 (by decide) rfl (j := (4 * ix a + ix n)) (ln_ix hL.1.1 hL.2.1) (show (4 * ix a + ix n) < 68 by omega) d_M_sample_88 ?_
          refine pv_top (y := (z 14 (4 * ix a + ix n))) ((zs_k _ _ (by decide)).trans (zs_k _ _ (by decide))) ?_
          refine pv_iconst (v := 1) C d_M_sample_89 (by decide) ?_
          refine pv_iadd C d_M_sample_90 ?_
          refine pm_ast C G 14 (by decide) rfl (j := (4 * ix a + ix n)) (ln_ix hL.1.1 hL.2.1) (show (4 * ix a + ix n) < 68 by omega) d_M_sample_91 ?_
          refine pv_iload_n C d_M_sample_92 rfl 4 rfl ?_
          refine pv_ifb_ne (tgt := 152) C d_M_sample_93 (by decide) (fun h5 => ?_) (fun h5 => ?_)
          · refine pv_aload_n C d_M_sample_152 rfl 1 rfl ?_
            refine pv_iload C d_M_sample_153 0 rfl ?_
            refine pv_callV (n := 1) (As := [.int ((4 * a) + n)]) (rest := []) C (c_M_openSamples hl0 G (zs (zs (zs z 0 0 0) 0 0 0) 14 (4 * ix a + ix n) ((z 14 (4 * ix a + ix n)) + 1)) ((4 * a) + n) (4 * ix a + ix n) (by omega) (ln_ix hL.1.1 hL.2.1)) cd_M_openSamples ml_M_118 in_M im_M_openSamples se_M_openSamples G.1 mm_obj rfl rfl (by decide +kernel) (by decide) rfl (Nat.le_of_ble_eq_true rfl) rfl d_M_sample_155 (by decide) hN R0 (fun _ h => h.elim) (fun v9 LP9 f9 h9 => ?_)
            obtain ⟨rfl, rfl, rfl⟩ := h9
            refine pv_stf (f2 := mm_f γ f0 mo ad (zs (zs (zs z 0 0 0) 0 0 0) 14 (4 * ix a + ix n) ((z 14 (4 * ix a + ix n)) + 1))) (st2 := [.int (m_open (zs (zs (zs z 0 0 0) 0 0 0) 14 (4 * ix a + ix n) ((z 14 (4 * ix a + ix n)) + 1)) (4 * ix a + ix n))]) (c2 := 0) (s2 := 0) rfl rfl rfl rfl ?_
            exact pv_iret C R0 d_M_sample_158 (by decide) (by decide) (mP_i (by unfold m_sample; rw [if_pos h1, if_pos h2, if_pos h3, if_neg h4, if_pos h5]))
          · refine pv_aload_n C d_M_sample_96 rfl 1 rfl ?_
            refine pm_get (v := .ref (ad 15)) C G 15 (by decide) fl_M_47 rfl rfl d_M_sample_97 ?_
            refine pv_iload C d_M_sample_100 0 rfl ?_
            refine pv_iconst (v := 1) C d_M_sample_102 (by decide) ?_
            refine pm_zst C G 15 (by decide) rfl (j := (4 * ix a + ix n)) (ln_ix hL.1.1 hL.2.1) (show (4 * ix a + ix n) < 68 by omega) rfl d_M_sample_103 ?_
            refine pv_iconst (v := 1) C d_M_sample_104 (by decide) ?_
            refine pv_istore (lv' := [(5, .int 1), (4, .int ((4 * a) + n)), (0, .ref mo), (1, .int a), (2, .int n), (3, .int (bN b))]) C d_M_sample_105 (by decide) rfl ?_
            refine pv_lvs (lv2 := [(5, .int (nI (0 + 1))), (4, .int ((4 * a) + n)), (0, .ref mo), (1, .int a), (2, .int n), (3, .int (bN b))]) [0, 1, 2, 3, 4, 5] rfl ?_
            exact loop (zU z + 1) 0 (zs (zs (zs (zs z 0 0 0) 0 0 0) 14 (4 * ix a + ix n) ((z 14 (4 * ix a + ix n)) + 1)) 15 (4 * ix a + ix n) 1) (by omega) hL (by simpa [zs] using hz.2.1.1) (by unfold m_sample; rw [if_pos h1, if_pos h2, if_pos h3, if_neg h4, if_neg (nT h5)]; rfl) (by omega)
        · refine pv_iconst (v := 2) C d_M_sample_64 (by decide) ?_
          refine pv_goto (tgt := 69) C d_M_sample_65 (by decide) ?_
          refine pm_put C G 0 (by decide) fl_M_83 rfl rfl rfl (by decide) rfl d_M_sample_69 ?_
          refine pv_aload_n C d_M_sample_72 rfl 1 rfl ?_
          refine pm_get (v := .int 2) C G 0 (by decide) fl_M_83 rfl rfl d_M_sample_73 ?_
          refine pv_if_le (tgt := 81) C d_M_sample_76 (by decide) (fun q => absurd q (by decide)) (fun _ => ?_)
          refine pv_iconst (v := 0) C d_M_sample_79 (by decide) ?_
          exact pv_iret C R0 d_M_sample_80 (by decide) (by decide) (mP_i (by unfold m_sample; rw [if_pos h1, if_pos h2, if_pos h3, if_pos h4]))
  · refine pv_iconst (v := 1) C d_M_sample_10 (by decide) ?_
    refine pv_goto (tgt := 15) C d_M_sample_11 (by decide) ?_
    refine pm_put C G 0 (by decide) fl_M_83 rfl rfl rfl (by decide) rfl d_M_sample_15 ?_
    refine pv_aload_n C d_M_sample_18 rfl 0 rfl ?_
    refine pm_get (v := .int 1) C G 0 (by decide) fl_M_83 rfl rfl d_M_sample_19 ?_
    refine pv_if_le (tgt := 27) C d_M_sample_22 (by decide) (fun q => absurd q (by decide)) (fun _ => ?_)
    refine pv_iconst (v := 0) C d_M_sample_25 (by decide) ?_
    exact pv_iret C R0 d_M_sample_26 (by decide) (by decide) (mP_i (by unfold m_sample; rw [if_neg (nT h1)]))
abbrev rm_M_close : Room := { frames := 3, cells := 0, slots := 0, locals := 65 }
def m_close (z : zT) (a : Int32) (n : Int32) : Int32 × zT :=
  (if (isL z a n) = true then (if (z 7 (ix a)) = 1 then (if (z 16 (4 * ix a + ix n)) = 0 then (if (m_open z (4 * ix a + ix n)) ≤ 0 then (if (lAny (hoP (z 19) (z 20) (z 25) ((4 * a) + n) true) (zU z)) = true then (3, (zs (zs z 0 0 0) 0 0 0)) else (if (lAny (hoP (z 19) (z 20) (z 25) ((4 * a) + n) false) (zU z)) = true then (4, (zs (zs z 0 0 0) 0 0 0)) else (if (z 12 (4 * ix a + ix n)) = (z 10 (4 * ix a + ix n)) then (1, (zs (zs (zs (zs z 0 0 0) 0 0 0) 16 (4 * ix a + ix n) 1) 28 0 ((z 28 0) + 1))) else (1, (zs (zs (zs (zs (zs (zs z 0 0 0) 0 0 0) 16 (4 * ix a + ix n) 1) 28 0 ((z 28 0) + 1)) 30 (zD z) ((4 * a) + n)) 29 0 ((z 29 0) + 1)))))) else (2, (zs (zs z 0 0 0) 0 0 0))) else (0, (zs (zs z 0 0 0) 0 0 2))) else (0, (zs (zs z 0 0 0) 0 0 2))) else (0, (zs z 0 0 1)))
set_option maxRecDepth 100000 in
set_option maxHeartbeats 4000000 in
theorem c_M_close {l0 : Launch} {D : va_G} {γ : Nat → ClassId} (hl0 : l0.stackTraces = false) {LP : List Nat} {f0 : Nat → va_E} {mo : Nat} {ad : Nat → Nat} (G : mm_H mo ad LP) (z : zT) (a : Int32) (n : Int32) (hz : zI z) (hd : zD z < 64) : mM l0 D γ y_M_close (Cond.code y_M_close b_M_close 4 (Option.some FieldType.int)) rm_M_close [.ref mo, .int a, .int n] LP f0 mo ad z (some (.int (m_close z a n).1)) (m_close z a n).2 := by
  refine pv_mk hl0 (by decide) (Nat.le_of_ble_eq_true rfl) (fun κ C R0 hN _ => ?_)
  show pv_V D κ 0 0 LP (mm_f γ f0 mo ad z) 0 [(0, .ref mo), (1, .int a), (2, .int n)] []
  refine pv_aload_n C d_M_close_0 rfl 0 rfl ?_
  refine pv_aload_n C d_M_close_1 rfl 0 rfl ?_
  refine pv_iload_n C d_M_close_2 rfl 1 rfl ?_
  refine pv_iload_n C d_M_close_3 rfl 2 rfl ?_
  refine pv_callV (n := 2) (As := [.int a, .int n]) (rest := [.ref mo]) C (c_M_isLine hl0 G z a n hz) cd_M_isLine ml_M_107 in_M im_M_isLine se_M_isLine G.1 mm_obj rfl rfl (by decide +kernel) (by decide) rfl (Nat.le_of_ble_eq_true rfl) rfl d_M_close_4 (by decide) hN R0 (fun _ h => h.elim) (fun v9 LP9 f9 h9 => ?_)
  obtain ⟨rfl, rfl, rfl⟩ := h9
  refine pv_stf (f2 := mm_f γ f0 mo ad z) (st2 := [.int (bN (isL z a n)), .ref mo]) (c2 := 0) (s2 := 0) rfl rfl rfl rfl ?_
  refine pv_ifb_ne (tgt := 14) C d_M_close_7 (by decide) (fun h1 => ?_) (fun h1 => ?_)
  · have hL := isL_ix hz h1
    refine pv_iconst (v := 0) C d_M_close_14 (by decide) ?_
    refine pm_put C G 0 (by decide) fl_M_83 rfl rfl rfl (by decide) rfl d_M_close_15 ?_
    refine pv_aload_n C d_M_close_18 rfl 0 rfl ?_
    refine pm_get (v := .int 0) C G 0 (by decide) fl_M_83 rfl rfl d_M_close_19 ?_
    refine pv_if_le (tgt := 27) C d_M_close_22 (by decide) (fun _ => ?_) (fun q => absurd q (by decide))
    refine pv_iconst (v := 4) C d_M_close_27 (by decide) ?_
    refine pv_iload_n C d_M_close_28 rfl 1 rfl ?_
    refine pv_imul C d_M_close_29 ?_
    refine pv_iload_n C d_M_close_30 rfl 2 rfl ?_
    refine pv_iadd C d_M_close_31 ?_
    refine pv_istore_n (lv' := [(3, .int ((4 * a) + n)), (0, .ref mo), (1, .int a), (2, .int n)]) C d_M_close_32 rfl (by decide) rfl ?_
    refine pv_aload_n C d_M_close_33 rfl 1 rfl ?_
    refine pv_aload_n C d_M_close_34 rfl 1 rfl ?_
    refine pm_get (v := .ref (ad 7)) C G 7 (by decide) fl_M_23 rfl rfl d_M_close_35 ?_
    refine pv_iload_n C d_M_close_38 rfl 2 rfl ?_
    refine pm_ald C G 7 (by decide) rfl (j := (ix a)) hL.1.1 (show (ix a) < 17 by omega) d_M_close_39 ?_
    refine pv_top (y := (z 7 (ix a))) (zs_k _ _ (by decide)) ?_
    refine pv_iconst (v := 1) C d_M_close_40 (by decide) ?_
    refine pv_icmp_ne (tgt := 53) C d_M_close_41 (by decide) (fun h2 => ?_) (fun h2 => ?_)
    · refine pv_iconst (v := 2) C d_M_close_53 (by decide) ?_
      refine pv_goto (tgt := 58) C d_M_close_54 (by decide) ?_
      refine pm_put C G 0 (by decide) fl_M_83 rfl rfl rfl (by decide) rfl d_M_close_58 ?_
      refine pv_aload_n C d_M_close_61 rfl 1 rfl ?_
      refine pm_get (v := .int 2) C G 0 (by decide) fl_M_83 rfl rfl d_M_close_62 ?_
      refine pv_if_le (tgt := 70) C d_M_close_65 (by decide) (fun q => absurd q (by decide)) (fun _ => ?_)
      refine pv_iconst (v := 0) C d_M_close_68 (by decide) ?_
      exact pv_iret C R0 d_M_close_69 (by decide) (by decide) (mP_i (by unfold m_close; rw [if_pos h1, if_neg h2]))
    · refine pv_aload_n C d_M_close_44 rfl 1 rfl ?_
      refine pm_get (v := .ref (ad 16)) C G 16 (by decide) fl_M_50 rfl rfl d_M_close_45 ?_
      refine pv_iload_n C d_M_close_48 rfl 0 rfl ?_
      refine pm_zld C G 16 (by decide) rfl (j := (4 * ix a + ix n)) (ln_ix hL.1.1 hL.2.1) (show (4 * ix a + ix n) < 68 by omega) d_M_close_49 ?_
      refine pv_top (y := (z 16 (4 * ix a + ix n))) (zs_k _ _ (by decide)) ?_
      refine pv_if_eq (tgt := 57) C d_M_close_50 (by decide) (fun h3 => ?_) (fun h3 => ?_)
      · refine pv_iconst (v := 0) C d_M_close_57 (by decide) ?_
        refine pm_put C G 0 (by decide) fl_M_83 rfl rfl rfl (by decide) rfl d_M_close_58 ?_
        refine pv_aload_n C d_M_close_61 rfl 1 rfl ?_
        refine pm_get (v := .int 0) C G 0 (by decide) fl_M_83 rfl rfl d_M_close_62 ?_
        refine pv_if_le (tgt := 70) C d_M_close_65 (by decide) (fun _ => ?_) (fun q => absurd q (by decide))
        refine pv_aload_n C d_M_close_70 rfl 1 rfl ?_
        refine pv_iload_n C d_M_close_71 rfl 0 rfl ?_
        refine pv_callV (n := 1) (As := [.int ((4 * a) + n)]) (rest := []) C (c_M_openSamples hl0 G (zs (zs z 0 0 0) 0 0 0) ((4 * a) + n) (4 * ix a + ix n) (by omega) (ln_ix hL.1.1 hL.2.1)) cd_M_openSamples ml_M_118 in_M im_M_openSamples se_M_openSamples G.1 mm_obj rfl rfl (by decide +kernel) (by decide) rfl (Nat.le_of_ble_eq_true rfl) rfl d_M_close_72 (by decide) hN R0 (fun _ h => h.elim) (fun v9 LP9 f9 h9 => ?_)
        obtain ⟨rfl, rfl, rfl⟩ := h9
        refine pv_stf (f2 := mm_f γ f0 mo ad (zs (zs z 0 0 0) 0 0 0)) (st2 := [.int (m_open z (4 * ix a + ix n))]) (c2 := 0) (s2 := 0) rfl rfl rfl rfl ?_
        refine pv_if_le (tgt := 80) C d_M_close_75 (by decide) (fun h4 => ?_) (fun h4 => ?_)
        · refine pv_aload_n C d_M_close_80 rfl 1 rfl ?_
          refine pv_iload_n C d_M_close_81 rfl 0 rfl ?_
          refine pv_iconst (v := 1) C d_M_close_82 (by decide) ?_
          refine pv_callV (n := 2) (As := [.int ((4 * a) + n), .int 1]) (rest := []) C (c_M_hasOne hl0 G (zs (zs z 0 0 0) 0 0 0) ((4 * a) + n) true hz.2.1) cd_M_hasOne ml_M_134 in_M im_M_hasOne se_M_hasOne G.1 mm_obj rfl rfl (by decide +kernel) (by decide) rfl (Nat.le_of_ble_eq_true rfl) rfl d_M_close_83 (by decide) hN R0 (fun _ h => h.elim) (fun v9 LP9 f9 h9 => ?_)
          obtain ⟨rfl, rfl, rfl⟩ := h9
          refine pv_stf (f2 := mm_f γ f0 mo ad (zs (zs z 0 0 0) 0 0 0)) (st2 := [.int (bN (lAny (hoP (z 19) (z 20) (z 25) ((4 * a) + n) true) (zU z)))]) (c2 := 0) (s2 := 0) rfl rfl rfl rfl ?_
          refine pv_ifb_eq (tgt := 91) C d_M_close_86 (by decide) (fun h5 => ?_) (fun h5 => ?_)
          · refine pv_aload_n C d_M_close_91 rfl 1 rfl ?_
            refine pv_iload_n C d_M_close_92 rfl 0 rfl ?_
            refine pv_iconst (v := 0) C d_M_close_93 (by decide) ?_
            refine pv_callV (n := 2) (As := [.int ((4 * a) + n), .int 0]) (rest := []) C (c_M_hasOne hl0 G (zs (zs z 0 0 0) 0 0 0) ((4 * a) + n) false hz.2.1) cd_M_hasOne ml_M_134 in_M im_M_hasOne se_M_hasOne G.1 mm_obj rfl rfl (by decide +kernel) (by decide) rfl (Nat.le_of_ble_eq_true rfl) rfl d_M_close_94 (by decide) hN R0 (fun _ h => h.elim) (fun v9 LP9 f9 h9 => ?_)
            obtain ⟨rfl, rfl, rfl⟩ := h9
            refine pv_stf (f2 := mm_f γ f0 mo ad (zs (zs z 0 0 0) 0 0 0)) (st2 := [.int (bN (lAny (hoP (z 19) (z 20) (z 25) ((4 * a) + n) false) (zU z)))]) (c2 := 0) (s2 := 0) rfl rfl rfl rfl ?_
            refine pv_ifb_eq (tgt := 102) C d_M_close_97 (by decide) (fun h6 => ?_) (fun h6 => ?_)
            · refine pv_aload_n C d_M_close_102 rfl 1 rfl ?_
              refine pm_get (v := .ref (ad 16)) C G 16 (by decide) fl_M_50 rfl rfl d_M_close_103 ?_
              refine pv_iload_n C d_M_close_106 rfl 0 rfl ?_
              refine pv_iconst (v := 1) C d_M_close_107 (by decide) ?_
              refine pm_zst C G 16 (by decide) rfl (j := (4 * ix a + ix n)) (ln_ix hL.1.1 hL.2.1) (show (4 * ix a + ix n) < 68 by omega) rfl d_M_close_108 ?_
              refine pv_aload_n C d_M_close_109 rfl 1 rfl ?_
              refine pv_dup C d_M_close_110 rfl ?_
              refine pm_get (v := .int (z 28 0)) C G 28 (by decide) fl_M_138 rfl rfl d_M_close_111 ?_
              refine pv_iconst (v := 1) C d_M_close_114 (by decide) ?_
              refine pv_iadd C d_M_close_115 ?_
              refine pm_put C G 28 (by decide) fl_M_138 rfl rfl rfl (by decide) rfl d_M_close_116 ?_
              refine pv_aload_n C d_M_close_119 rfl 1 rfl ?_
              refine pm_get (v := .ref (ad 12)) C G 12 (by decide) fl_M_38 rfl rfl d_M_close_120 ?_
              refine pv_iload_n C d_M_close_123 rfl 0 rfl ?_
              refine pm_ald C G 12 (by decide) rfl (j := (4 * ix a + ix n)) (ln_ix hL.1.1 hL.2.1) (show (4 * ix a + ix n) < 68 by omega) d_M_close_124 ?_
              refine pv_top (y := (z 12 (4 * ix a + ix n))) ((zs_k _ _ (by decide)).trans ((zs_k _ _ (by decide)).trans ((zs_k _ _ (by decide)).trans (zs_k _ _ (by decide))))) ?_
              refine pv_aload_n C d_M_close_125 rfl 1 rfl ?_
              refine pm_get (v := .ref (ad 10)) C G 10 (by decide) fl_M_32 rfl rfl d_M_close_126 ?_
              refine pv_iload_n C d_M_close_129 rfl 0 rfl ?_
              refine pm_ald C G 10 (by decide) rfl (j := (4 * ix a + ix n)) (ln_ix hL.1.1 hL.2.1) (show (4 * ix a + ix n) < 68 by omega) d_M_close_130 ?_
              refine pv_top (y := (z 10 (4 * ix a + ix n))) ((zs_k _ _ (by decide)).trans ((zs_k _ _ (by decide)).trans ((zs_k _ _ (by decide)).trans (zs_k _ _ (by decide))))) ?_
              refine pv_icmp_eq (tgt := 154) C d_M_close_131 (by decide) (fun h7 => ?_) (fun h7 => ?_)
              · refine pv_iconst (v := 1) C d_M_close_154 (by decide) ?_
                exact pv_iret C R0 d_M_close_155 (by decide) (by decide) (mP_i (by unfold m_close; rw [if_pos h1, if_pos h2, if_pos h3, if_pos h4, if_neg (nT h5), if_neg (nT h6), if_pos h7]))
              · have hDD := hz.2.2.1.1
                refine pv_aload_n C d_M_close_134 rfl 1 rfl ?_
                refine pm_get (v := .ref (ad 30)) C G 30 (by decide) fl_M_80 rfl rfl d_M_close_135 ?_
                refine pv_aload_n C d_M_close_138 rfl 1 rfl ?_
                refine pm_get (v := .int (z 29 0)) C G 29 (by decide) fl_M_141 rfl rfl d_M_close_139 ?_
                refine pv_iload_n C d_M_close_142 rfl 0 rfl ?_
                refine pm_ast C G 30 (by decide) rfl (j := (zD z)) hz.2.2.1.1 (show (zD z) < 64 by omega) d_M_close_143 ?_
                refine pv_aload_n C d_M_close_144 rfl 1 rfl ?_
                refine pv_dup C d_M_close_145 rfl ?_
                refine pm_get (v := .int (z 29 0)) C G 29 (by decide) fl_M_141 rfl rfl d_M_close_146 ?_
                refine pv_iconst (v := 1) C d_M_close_149 (by decide) ?_
                refine pv_iadd C d_M_close_150 ?_
                refine pm_put C G 29 (by decide) fl_M_141 rfl rfl rfl (by decide) rfl d_M_close_151 ?_
                refine pv_iconst (v := 1) C d_M_close_154 (by decide) ?_
                exact pv_iret C R0 d_M_close_155 (by decide) (by decide) (mP_i (by unfold m_close; rw [if_pos h1, if_pos h2, if_pos h3, if_pos h4, if_neg (nT h5), if_neg (nT h6), if_neg h7]))
            · refine pv_iconst (v := 4) C d_M_close_100 (by decide) ?_
              exact pv_iret C R0 d_M_close_101 (by decide) (by decide) (mP_i (by unfold m_close; rw [if_pos h1, if_pos h2, if_pos h3, if_pos h4, if_neg (nT h5), if_pos h6]))
          · refine pv_iconst (v := 3) C d_M_close_89 (by decide) ?_
            exact pv_iret C R0 d_M_close_90 (by decide) (by decide) (mP_i (by unfold m_close; rw [if_pos h1, if_pos h2, if_pos h3, if_pos h4, if_pos h5]))
        · refine pv_iconst (v := 2) C d_M_close_78 (by decide) ?_
          exact pv_iret C R0 d_M_close_79 (by decide) (by decide) (mP_i (by unfold m_close; rw [if_pos h1, if_pos h2, if_pos h3, if_neg h4]))
      · refine pv_iconst (v := 2) C d_M_close_53 (by decide) ?_
        refine pv_goto (tgt := 58) C d_M_close_54 (by decide) ?_
        refine pm_put C G 0 (by decide) fl_M_83 rfl rfl rfl (by decide) rfl d_M_close_58 ?_
        refine pv_aload_n C d_M_close_61 rfl 1 rfl ?_
        refine pm_get (v := .int 2) C G 0 (by decide) fl_M_83 rfl rfl d_M_close_62 ?_
        refine pv_if_le (tgt := 70) C d_M_close_65 (by decide) (fun q => absurd q (by decide)) (fun _ => ?_)
        refine pv_iconst (v := 0) C d_M_close_68 (by decide) ?_
        exact pv_iret C R0 d_M_close_69 (by decide) (by decide) (mP_i (by unfold m_close; rw [if_pos h1, if_pos h2, if_neg h3]))
  · refine pv_iconst (v := 1) C d_M_close_10 (by decide) ?_
    refine pv_goto (tgt := 15) C d_M_close_11 (by decide) ?_
    refine pm_put C G 0 (by decide) fl_M_83 rfl rfl rfl (by decide) rfl d_M_close_15 ?_
    refine pv_aload_n C d_M_close_18 rfl 0 rfl ?_
    refine pm_get (v := .int 1) C G 0 (by decide) fl_M_83 rfl rfl d_M_close_19 ?_
    refine pv_if_le (tgt := 27) C d_M_close_22 (by decide) (fun q => absurd q (by decide)) (fun _ => ?_)
    refine pv_iconst (v := 0) C d_M_close_25 (by decide) ?_
    exact pv_iret C R0 d_M_close_26 (by decide) (by decide) (mP_i (by unfold m_close; rw [if_neg (nT h1)]))
end
section
/-! contracts of the reference: count, the constructor (by wip/whole/gen/m4.py) -/
def m_cs (q : zT) (w : Nat) (ln lot c : Int32) (j : Nat) : zT := zs (zs (zs (zs (zs (zs q 18 0 (q 18 0 + 1)) 19 (w + 1) ln) 20 (w + 1) (if q 15 j = 0 then 0 else 2)) 21 (w + 1) (if 50 ≤ c then 50 else c)) 22 (w + 1) lot) 23 (w + 1) (-1)
def m_cu (ln lot : Int32) (j : Nat) : Nat → Nat → Int32 → zT → zT
  | 0, _, _, q => q
  | n + 1, w, c, q => if c ≤ 0 then q else m_cu ln lot j n (w + 1) (c + (-50)) (m_cs q w ln lot c j)
theorem m_cu_0 {ln lot c : Int32} {j N w : Nat} {q : zT} (h : c ≤ 0) : m_cu ln lot j N w c q = q := by
  cases N with
  | zero => rfl
  | succ n => rw [m_cu, if_pos h]
theorem c50 {c : Int32} (h1 : ¬ c ≤ 0) (h2 : c.toInt ≤ 400) : 0 < c.toInt ∧ (c + (-50)).toInt = c.toInt - 50 := by
  have h3 : 0 < c.toInt := by
    have := Int32.le_iff_toInt_le (x := c) (y := 0)
    rw [Int32.toInt_zero] at this
    have h4 : ¬ c.toInt ≤ 0 := fun q => h1 (this.mpr q)
    omega
  refine ⟨h3, ?_⟩
  rw [Int32.toInt_add, show ((-50 : Int32)).toInt = -50 by decide]
  unfold Int.bmod
  dsimp only
  split <;> omega
theorem many_ix {x : Int32} (h : x = nI (ix x)) (h2 : ix x ≤ 400) : x + 50 - 1 = nI (ix x + 49) ∧ (x + 50 - 1) / 50 = nI ((ix x + 49) / 50) := by
  have e : x + 50 - 1 = nI (ix x + 49) := by
    obtain ⟨j, hj⟩ : ∃ j, j = ix x := ⟨_, rfl⟩
    rw [← hj] at h h2 ⊢
    subst h
    rw [show (50 : Int32) = nI 50 from rfl, nI_add, show j + 50 = (j + 49) + 1 by omega, nI_pred]
  refine ⟨e, ?_⟩
  rw [e]
  exact pk_div (by omega) (by decide) (by decide)
abbrev rm_M_count : Room := { frames := 3, cells := 0, slots := 0, locals := 65 }
def m_count (z : zT) (a : Int32) (n : Int32) (x : Int32) (e : Int32) (p : Int32) : Int32 × zT :=
  (if (isL z a n) = true then (if (inB x 1 400) = true then (if (inB e 0 99) = true then (if (isP p) = true then (if (z 7 (ix a)) = 1 then (if (z 16 (4 * ix a + ix n)) = 0 then (if (z 17 (8 * (4 * ix a + ix n) + ix p)) = 0 then (if ((z 12 (4 * ix a + ix n)) + x) ≤ (z 10 (4 * ix a + ix n) + z 10 (4 * ix a + ix n) * z 11 (4 * ix a + ix n) / 100) then (if ((z 18 0) + (((x + 50) - 1) / 50)) ≤ 120 then ((((x + 50) - 1) / 50), m_cu ((4 * a) + n) e (4 * ix a + ix n) ((ix x + 49) / 50) (zU z) x (zs (zs (zs (zs z 0 0 0) 0 0 0) 17 (8 * (4 * ix a + ix n) + ix p) 1) 12 (4 * ix a + ix n) ((z 12 (4 * ix a + ix n)) + x))) else (0, (zs (zs z 0 0 0) 0 0 3))) else ((-4), (zs z 0 0 0))) else ((-3), (zs z 0 0 0))) else ((-2), (zs z 0 0 0))) else ((-1), (zs z 0 0 0))) else (0, (zs z 0 0 2))) else (0, (zs z 0 0 2))) else (0, (zs z 0 0 2))) else (0, (zs z 0 0 1)))
set_option maxRecDepth 100000 in
set_option maxHeartbeats 4000000 in
theorem c_M_count {l0 : Launch} {D : va_G} {γ : Nat → ClassId} (hl0 : l0.stackTraces = false) {LP : List Nat} {f0 : Nat → va_E} {mo : Nat} {ad : Nat → Nat} (G : mm_H mo ad LP) (z : zT) (a : Int32) (n : Int32) (x : Int32) (e : Int32) (p : Int32) (hz : zI z) : mM l0 D γ y_M_count (Cond.code y_M_count b_M_count 9 (Option.some FieldType.int)) rm_M_count [.ref mo, .int a, .int n, .int x, .int e, .int p] LP f0 mo ad z (some (.int (m_count z a n x e p).1)) (m_count z a n x e p).2 := by
  refine pv_mk hl0 (by decide) (Nat.le_of_ble_eq_true rfl) (fun κ C R0 hN _ => ?_)
  show pv_V D κ 0 0 LP (mm_f γ f0 mo ad z) 0 [(0, .ref mo), (1, .int a), (2, .int n), (3, .int x), (4, .int e), (5, .int p)] []
  have loop : ∀ (n9 : Nat) (N w : Nat) (c : Int32) (q : zT) (hq : q 18 0 = nI w) (hb : w + N ≤ 120) (hc1 : c.toInt ≤ 50 * N) (hc2 : -50 < c.toInt) (hc3 : c.toInt ≤ 400) (hL : (a = nI (ix a) ∧ 1 ≤ ix a ∧ ix a ≤ zA z ∧ ix a ≤ 16) ∧ n = nI (ix n) ∧ ix n < zt z (ix a) ∧ ix n < 4) (hP : p = nI (ix p) ∧ ix p ≤ 7) (hres : m_count z a n x e p = ((((x + 50) - 1) / 50), m_cu ((4 * a) + n) e (4 * ix a + ix n) N w c q)), N < n9 → pv_V D κ 0 0 LP (mm_f γ f0 mo ad q) 202 [(8, .int c), (7, .int (((x + 50) - 1) / 50)), (6, .int ((4 * a) + n)), (0, .ref mo), (1, .int a), (2, .int n), (3, .int x), (4, .int e), (5, .int p)] [] := by
    intro n9
    induction n9 with
    | zero => intro N w c q hq hb hc1 hc2 hc3 hL hP hres hm; exact absurd hm (Nat.not_lt_zero _)
    | succ n9 ih =>
      intro N w c q hq hb hc1 hc2 hc3 hL hP hres hm
      refine pv_iload C d_M_count_202 0 rfl ?_
      refine pv_if_le (tgt := 302) C d_M_count_204 (by decide) (fun h101 => ?_) (fun h101 => ?_)
      · refine pv_iload C d_M_count_302 1 rfl ?_
        exact pv_iret C R0 d_M_count_304 (by decide) (by decide) (mP_i (by rw [hres, m_cu_0 h101]))
      · have hcc := c50 h101 hc3
        obtain ⟨N, rfl⟩ : ∃ M9, N = M9 + 1 := ⟨N - 1, by omega⟩
        have hI : q 18 0 + 1 = nI (w + 1) := by rw [hq, nI_next]
        refine pv_aload_n C d_M_count_207 rfl 3 rfl ?_
        refine pv_dup C d_M_count_208 rfl ?_
        refine pm_get (v := .int (q 18 0)) C G 18 (by decide) fl_M_98 rfl rfl d_M_count_209 ?_
        refine pv_iconst (v := 1) C d_M_count_212 (by decide) ?_
        refine pv_iadd C d_M_count_213 ?_
        refine pm_put C G 18 (by decide) fl_M_98 rfl rfl rfl (by decide) rfl d_M_count_214 ?_
        refine pv_aload_n C d_M_count_217 rfl 3 rfl ?_
        refine pm_get (v := .ref (ad 19)) C G 19 (by decide) fl_M_56 rfl rfl d_M_count_218 ?_
        refine pv_aload_n C d_M_count_221 rfl 3 rfl ?_
        refine pm_get (v := .int ((q 18 0) + 1)) C G 18 (by decide) fl_M_98 rfl rfl d_M_count_222 ?_
        refine pv_iload C d_M_count_225 2 rfl ?_
        refine pm_ast C G 19 (by decide) rfl (j := (w + 1)) hI (show (w + 1) < 121 by omega) d_M_count_227 ?_
        refine pv_aload_n C d_M_count_228 rfl 3 rfl ?_
        refine pm_get (v := .ref (ad 20)) C G 20 (by decide) fl_M_59 rfl rfl d_M_count_229 ?_
        refine pv_aload_n C d_M_count_232 rfl 3 rfl ?_
        refine pm_get (v := .int ((q 18 0) + 1)) C G 18 (by decide) fl_M_98 rfl rfl d_M_count_233 ?_
        refine pv_aload_n C d_M_count_236 rfl 3 rfl ?_
        refine pm_get (v := .ref (ad 15)) C G 15 (by decide) fl_M_47 rfl rfl d_M_count_237 ?_
        refine pv_iload C d_M_count_240 2 rfl ?_
        refine pm_zld C G 15 (by decide) rfl (j := (4 * ix a + ix n)) (ln_ix hL.1.1 hL.2.1) (show (4 * ix a + ix n) < 68 by omega) d_M_count_242 ?_
        refine pv_top (y := (q 15 (4 * ix a + ix n))) ((zs_k _ _ (by decide)).trans (zs_k _ _ (by decide))) ?_
        refine pv_if_eq (tgt := 250) C d_M_count_243 (by decide) (fun h102 => ?_) (fun h102 => ?_)
        · refine pv_iconst (v := 0) C d_M_count_250 (by decide) ?_
          refine pm_ast C G 20 (by decide) rfl (j := (w + 1)) hI (show (w + 1) < 121 by omega) d_M_count_251 ?_
          refine pv_aload_n C d_M_count_252 rfl 3 rfl ?_
          refine pm_get (v := .ref (ad 21)) C G 21 (by decide) fl_M_62 rfl rfl d_M_count_253 ?_
          refine pv_aload_n C d_M_count_256 rfl 3 rfl ?_
          refine pm_get (v := .int ((q 18 0) + 1)) C G 18 (by decide) fl_M_98 rfl rfl d_M_count_257 ?_
          refine pv_iload C d_M_count_260 0 rfl ?_
          refine pv_bipush (v := 50) C d_M_count_262 (by decide) ?_
          refine pv_icmp_ge (tgt := 272) C d_M_count_264 (by decide) (fun h103 => ?_) (fun h103 => ?_)
          · refine pv_bipush (v := 50) C d_M_count_272 (by decide) ?_
            refine pm_ast C G 21 (by decide) rfl (j := (w + 1)) hI (show (w + 1) < 121 by omega) d_M_count_274 ?_
            refine pv_aload_n C d_M_count_275 rfl 3 rfl ?_
            refine pm_get (v := .ref (ad 22)) C G 22 (by decide) fl_M_65 rfl rfl d_M_count_276 ?_
            refine pv_aload_n C d_M_count_279 rfl 3 rfl ?_
            refine pm_get (v := .int ((q 18 0) + 1)) C G 18 (by decide) fl_M_98 rfl rfl d_M_count_280 ?_
            refine pv_iload C d_M_count_283 7 rfl ?_
            refine pm_ast C G 22 (by decide) rfl (j := (w + 1)) hI (show (w + 1) < 121 by omega) d_M_count_285 ?_
            refine pv_aload_n C d_M_count_286 rfl 3 rfl ?_
            refine pm_get (v := .ref (ad 23)) C G 23 (by decide) fl_M_68 rfl rfl d_M_count_287 ?_
            refine pv_aload_n C d_M_count_290 rfl 3 rfl ?_
            refine pm_get (v := .int ((q 18 0) + 1)) C G 18 (by decide) fl_M_98 rfl rfl d_M_count_291 ?_
            refine pv_iconst (v := (-1)) C d_M_count_294 (by decide) ?_
            refine pm_ast C G 23 (by decide) rfl (j := (w + 1)) hI (show (w + 1) < 121 by omega) d_M_count_295 ?_
            refine pv_iinc (v := (c + (-50))) (lv' := [(8, .int (c + (-50))), (7, .int (((x + 50) - 1) / 50)), (6, .int ((4 * a) + n)), (0, .ref mo), (1, .int a), (2, .int n), (3, .int x), (4, .int e), (5, .int p)]) C d_M_count_296 0 rfl rfl (by decide) rfl ?_
            refine pv_goto (tgt := 202) C d_M_count_299 (by decide) ?_
            refine pv_lvs (lv2 := [(8, .int (c + (-50))), (7, .int (((x + 50) - 1) / 50)), (6, .int ((4 * a) + n)), (0, .ref mo), (1, .int a), (2, .int n), (3, .int x), (4, .int e), (5, .int p)]) [0, 1, 2, 3, 4, 5, 6, 7, 8] rfl ?_
            exact ih N (w + 1) (c + (-50)) (zs (zs (zs (zs (zs (zs q 18 0 ((q 18 0) + 1)) 19 (w + 1) ((4 * a) + n)) 20 (w + 1) 0) 21 (w + 1) 50) 22 (w + 1) e) 23 (w + 1) (-1)) (hI) (by omega) (by omega) (by omega) (by omega) hL hP (by rw [hres, m_cu, if_neg h101, m_cs, if_pos h102, if_pos h103]) (by omega)
          · refine pv_iload C d_M_count_267 0 rfl ?_
            refine pv_goto (tgt := 274) C d_M_count_269 (by decide) ?_
            refine pm_ast C G 21 (by decide) rfl (j := (w + 1)) hI (show (w + 1) < 121 by omega) d_M_count_274 ?_
            refine pv_aload_n C d_M_count_275 rfl 3 rfl ?_
            refine pm_get (v := .ref (ad 22)) C G 22 (by decide) fl_M_65 rfl rfl d_M_count_276 ?_
            refine pv_aload_n C d_M_count_279 rfl 3 rfl ?_
            refine pm_get (v := .int ((q 18 0) + 1)) C G 18 (by decide) fl_M_98 rfl rfl d_M_count_280 ?_
            refine pv_iload C d_M_count_283 7 rfl ?_
            refine pm_ast C G 22 (by decide) rfl (j := (w + 1)) hI (show (w + 1) < 121 by omega) d_M_count_285 ?_
            refine pv_aload_n C d_M_count_286 rfl 3 rfl ?_
            refine pm_get (v := .ref (ad 23)) C G 23 (by decide) fl_M_68 rfl rfl d_M_count_287 ?_
            refine pv_aload_n C d_M_count_290 rfl 3 rfl ?_
            refine pm_get (v := .int ((q 18 0) + 1)) C G 18 (by decide) fl_M_98 rfl rfl d_M_count_291 ?_
            refine pv_iconst (v := (-1)) C d_M_count_294 (by decide) ?_
            refine pm_ast C G 23 (by decide) rfl (j := (w + 1)) hI (show (w + 1) < 121 by omega) d_M_count_295 ?_
            refine pv_iinc (v := (c + (-50))) (lv' := [(8, .int (c + (-50))), (7, .int (((x + 50) - 1) / 50)), (6, .int ((4 * a) + n)), (0, .ref mo), (1, .int a), (2, .int n), (3, .int x), (4, .int e), (5, .int p)]) C d_M_count_296 0 rfl rfl (by decide) rfl ?_
            refine pv_goto (tgt := 202) C d_M_count_299 (by decide) ?_
            refine pv_lvs (lv2 := [(8, .int (c + (-50))), (7, .int (((x + 50) - 1) / 50)), (6, .int ((4 * a) + n)), (0, .ref mo), (1, .int a), (2, .int n), (3, .int x), (4, .int e), (5, .int p)]) [0, 1, 2, 3, 4, 5, 6, 7, 8] rfl ?_
            exact ih N (w + 1) (c + (-50)) (zs (zs (zs (zs (zs (zs q 18 0 ((q 18 0) + 1)) 19 (w + 1) ((4 * a) + n)) 20 (w + 1) 0) 21 (w + 1) c) 22 (w + 1) e) 23 (w + 1) (-1)) (hI) (by omega) (by omega) (by omega) (by omega) hL hP (by rw [hres, m_cu, if_neg h101, m_cs, if_pos h102, if_neg h103]) (by omega)
        · refine pv_iconst (v := 2) C d_M_count_246 (by decide) ?_
          refine pv_goto (tgt := 251) C d_M_count_247 (by decide) ?_
          refine pm_ast C G 20 (by decide) rfl (j := (w + 1)) hI (show (w + 1) < 121 by omega) d_M_count_251 ?_
          refine pv_aload_n C d_M_count_252 rfl 3 rfl ?_
          refine pm_get (v := .ref (ad 21)) C G 21 (by decide) fl_M_62 rfl rfl d_M_count_253 ?_
          refine pv_aload_n C d_M_count_256 rfl 3 rfl ?_
          refine pm_get (v := .int ((q 18 0) + 1)) C G 18 (by decide) fl_M_98 rfl rfl d_M_count_257 ?_
          refine pv_iload C d_M_count_260 0 rfl ?_
          refine pv_bipush (v := 50) C d_M_count_262 (by decide) ?_
          refine pv_icmp_ge (tgt := 272) C d_M_count_264 (by decide) (fun h104 => ?_) (fun h104 => ?_)
          · refine pv_bipush (v := 50) C d_M_count_272 (by decide) ?_
            refine pm_ast C G 21 (by decide) rfl (j := (w + 1)) hI (show (w + 1) < 121 by omega) d_M_count_274 ?_
            refine pv_aload_n C d_M_count_275 rfl 3 rfl ?_
            refine pm_get (v := .ref (ad 22)) C G 22 (by decide) fl_M_65 rfl rfl d_M_count_276 ?_
            refine pv_aload_n C d_M_count_279 rfl 3 rfl ?_
            refine pm_get (v := .int ((q 18 0) + 1)) C G 18 (by decide) fl_M_98 rfl rfl d_M_count_280 ?_
            refine pv_iload C d_M_count_283 7 rfl ?_
            refine pm_ast C G 22 (by decide) rfl (j := (w + 1)) hI (show (w + 1) < 121 by omega) d_M_count_285 ?_
            refine pv_aload_n C d_M_count_286 rfl 3 rfl ?_
            refine pm_get (v := .ref (ad 23)) C G 23 (by decide) fl_M_68 rfl rfl d_M_count_287 ?_
            refine pv_aload_n C d_M_count_290 rfl 3 rfl ?_
            refine pm_get (v := .int ((q 18 0) + 1)) C G 18 (by decide) fl_M_98 rfl rfl d_M_count_291 ?_
            refine pv_iconst (v := (-1)) C d_M_count_294 (by decide) ?_
            refine pm_ast C G 23 (by decide) rfl (j := (w + 1)) hI (show (w + 1) < 121 by omega) d_M_count_295 ?_
            refine pv_iinc (v := (c + (-50))) (lv' := [(8, .int (c + (-50))), (7, .int (((x + 50) - 1) / 50)), (6, .int ((4 * a) + n)), (0, .ref mo), (1, .int a), (2, .int n), (3, .int x), (4, .int e), (5, .int p)]) C d_M_count_296 0 rfl rfl (by decide) rfl ?_
            refine pv_goto (tgt := 202) C d_M_count_299 (by decide) ?_
            refine pv_lvs (lv2 := [(8, .int (c + (-50))), (7, .int (((x + 50) - 1) / 50)), (6, .int ((4 * a) + n)), (0, .ref mo), (1, .int a), (2, .int n), (3, .int x), (4, .int e), (5, .int p)]) [0, 1, 2, 3, 4, 5, 6, 7, 8] rfl ?_
            exact ih N (w + 1) (c + (-50)) (zs (zs (zs (zs (zs (zs q 18 0 ((q 18 0) + 1)) 19 (w + 1) ((4 * a) + n)) 20 (w + 1) 2) 21 (w + 1) 50) 22 (w + 1) e) 23 (w + 1) (-1)) (hI) (by omega) (by omega) (by omega) (by omega) hL hP (by rw [hres, m_cu, if_neg h101, m_cs, if_neg h102, if_pos h104]) (by omega)
          · refine pv_iload C d_M_count_267 0 rfl ?_
            refine pv_goto (tgt := 274) C d_M_count_269 (by decide) ?_
            refine pm_ast C G 21 (by decide) rfl (j := (w + 1)) hI (show (w + 1) < 121 by omega) d_M_count_274 ?_
            refine pv_aload_n C d_M_count_275 rfl 3 rfl ?_
            refine pm_get (v := .ref (ad 22)) C G 22 (by decide) fl_M_65 rfl rfl d_M_count_276 ?_
            refine pv_aload_n C d_M_count_279 rfl 3 rfl ?_
            refine pm_get (v := .int ((q 18 0) + 1)) C G 18 (by decide) fl_M_98 rfl rfl d_M_count_280 ?_
            refine pv_iload C d_M_count_283 7 rfl ?_
            refine pm_ast C G 22 (by decide) rfl (j := (w + 1)) hI (show (w + 1) < 121 by omega) d_M_count_285 ?_
            refine pv_aload_n C d_M_count_286 rfl 3 rfl ?_
            refine pm_get (v := .ref (ad 23)) C G 23 (by decide) fl_M_68 rfl rfl d_M_count_287 ?_
            refine pv_aload_n C d_M_count_290 rfl 3 rfl ?_
            refine pm_get (v := .int ((q 18 0) + 1)) C G 18 (by decide) fl_M_98 rfl rfl d_M_count_291 ?_
            refine pv_iconst (v := (-1)) C d_M_count_294 (by decide) ?_
            refine pm_ast C G 23 (by decide) rfl (j := (w + 1)) hI (show (w + 1) < 121 by omega) d_M_count_295 ?_
            refine pv_iinc (v := (c + (-50))) (lv' := [(8, .int (c + (-50))), (7, .int (((x + 50) - 1) / 50)), (6, .int ((4 * a) + n)), (0, .ref mo), (1, .int a), (2, .int n), (3, .int x), (4, .int e), (5, .int p)]) C d_M_count_296 0 rfl rfl (by decide) rfl ?_
            refine pv_goto (tgt := 202) C d_M_count_299 (by decide) ?_
            refine pv_lvs (lv2 := [(8, .int (c + (-50))), (7, .int (((x + 50) - 1) / 50)), (6, .int ((4 * a) + n)), (0, .ref mo), (1, .int a), (2, .int n), (3, .int x), (4, .int e), (5, .int p)]) [0, 1, 2, 3, 4, 5, 6, 7, 8] rfl ?_
            exact ih N (w + 1) (c + (-50)) (zs (zs (zs (zs (zs (zs q 18 0 ((q 18 0) + 1)) 19 (w + 1) ((4 * a) + n)) 20 (w + 1) 2) 21 (w + 1) c) 22 (w + 1) e) 23 (w + 1) (-1)) (hI) (by omega) (by omega) (by omega) (by omega) hL hP (by rw [hres, m_cu, if_neg h101, m_cs, if_neg h102, if_neg h104]) (by omega)
  refine pv_aload_n C d_M_count_0 rfl 0 rfl ?_
  refine pv_aload_n C d_M_count_1 rfl 0 rfl ?_
  refine pv_iload_n C d_M_count_2 rfl 1 rfl ?_
  refine pv_iload_n C d_M_count_3 rfl 2 rfl ?_
  refine pv_callV (n := 2) (As := [.int a, .int n]) (rest := [.ref mo]) C (c_M_isLine hl0 G z a n hz) cd_M_isLine ml_M_107 in_M im_M_isLine se_M_isLine G.1 mm_obj rfl rfl (by decide +kernel) (by decide) rfl (Nat.le_of_ble_eq_true rfl) rfl d_M_count_4 (by decide) hN R0 (fun _ h => h.elim) (fun v9 LP9 f9 h9 => ?_)
  obtain ⟨rfl, rfl, rfl⟩ := h9
  refine pv_stf (f2 := mm_f γ f0 mo ad z) (st2 := [.int (bN (isL z a n)), .ref mo]) (c2 := 0) (s2 := 0) rfl rfl rfl rfl ?_
  refine pv_ifb_ne (tgt := 14) C d_M_count_7 (by decide) (fun h1 => ?_) (fun h1 => ?_)
  · have hL := isL_ix hz h1
    refine pv_iload_n C d_M_count_14 rfl 3 rfl ?_
    refine pv_iconst (v := 1) C d_M_count_15 (by decide) ?_
    refine pv_sipush (v := 400) C d_M_count_16 (by decide) ?_
    refine pv_callS (n := 3) (As := [.int x, .int 1, .int 400]) (rest := [.ref mo]) C (c_M_in hl0 G z x 1 400) cd_M_in ml_M_90 in_M sm_M_in (by decide +kernel) (by decide) rfl (Nat.le_of_ble_eq_true rfl) rfl d_M_count_19 (by decide) hN R0 (fun _ h => h.elim) (fun v9 LP9 f9 h9 => ?_)
    obtain ⟨rfl, rfl, rfl⟩ := h9
    refine pv_stf (f2 := mm_f γ f0 mo ad z) (st2 := [.int (bN (inB x 1 400)), .ref mo]) (c2 := 0) (s2 := 0) rfl rfl rfl rfl ?_
    refine pv_ifb_eq (tgt := 44) C d_M_count_22 (by decide) (fun h2 => ?_) (fun h2 => ?_)
    · refine pv_iconst (v := 2) C d_M_count_44 (by decide) ?_
      refine pv_goto (tgt := 49) C d_M_count_45 (by decide) ?_
      refine pm_put C G 0 (by decide) fl_M_83 rfl rfl rfl (by decide) rfl d_M_count_49 ?_
      refine pv_aload_n C d_M_count_52 rfl 0 rfl ?_
      refine pm_get (v := .int 2) C G 0 (by decide) fl_M_83 rfl rfl d_M_count_53 ?_
      refine pv_if_le (tgt := 61) C d_M_count_56 (by decide) (fun q => absurd q (by decide)) (fun _ => ?_)
      refine pv_iconst (v := 0) C d_M_count_59 (by decide) ?_
      exact pv_iret C R0 d_M_count_60 (by decide) (by decide) (mP_i (by unfold m_count; rw [if_pos h1, if_neg (nT h2)]))
    · refine pv_iload C d_M_count_25 4 rfl ?_
      refine pv_iconst (v := 0) C d_M_count_27 (by decide) ?_
      refine pv_bipush (v := 99) C d_M_count_28 (by decide) ?_
      refine pv_callS (n := 3) (As := [.int e, .int 0, .int 99]) (rest := [.ref mo]) C (c_M_in hl0 G z e 0 99) cd_M_in ml_M_90 in_M sm_M_in (by decide +kernel) (by decide) rfl (Nat.le_of_ble_eq_true rfl) rfl d_M_count_30 (by decide) hN R0 (fun _ h => h.elim) (fun v9 LP9 f9 h9 => ?_)
      obtain ⟨rfl, rfl, rfl⟩ := h9
      refine pv_stf (f2 := mm_f γ f0 mo ad z) (st2 := [.int (bN (inB e 0 99)), .ref mo]) (c2 := 0) (s2 := 0) rfl rfl rfl rfl ?_
      refine pv_ifb_eq (tgt := 44) C d_M_count_33 (by decide) (fun h3 => ?_) (fun h3 => ?_)
      · refine pv_iconst (v := 2) C d_M_count_44 (by decide) ?_
        refine pv_goto (tgt := 49) C d_M_count_45 (by decide) ?_
        refine pm_put C G 0 (by decide) fl_M_83 rfl rfl rfl (by decide) rfl d_M_count_49 ?_
        refine pv_aload_n C d_M_count_52 rfl 0 rfl ?_
        refine pm_get (v := .int 2) C G 0 (by decide) fl_M_83 rfl rfl d_M_count_53 ?_
        refine pv_if_le (tgt := 61) C d_M_count_56 (by decide) (fun q => absurd q (by decide)) (fun _ => ?_)
        refine pv_iconst (v := 0) C d_M_count_59 (by decide) ?_
        exact pv_iret C R0 d_M_count_60 (by decide) (by decide) (mP_i (by unfold m_count; rw [if_pos h1, if_pos h2, if_neg (nT h3)]))
      · refine pv_iload C d_M_count_36 5 rfl ?_
        refine pv_callS (n := 1) (As := [.int p]) (rest := [.ref mo]) C (c_M_isPerson hl0 G z p) cd_M_isPerson ml_M_104 in_M sm_M_isPerson (by decide +kernel) (by decide) rfl (Nat.le_of_ble_eq_true rfl) rfl d_M_count_38 (by decide) hN R0 (fun _ h => h.elim) (fun v9 LP9 f9 h9 => ?_)
        obtain ⟨rfl, rfl, rfl⟩ := h9
        refine pv_stf (f2 := mm_f γ f0 mo ad z) (st2 := [.int (bN (isP p)), .ref mo]) (c2 := 0) (s2 := 0) rfl rfl rfl rfl ?_
        refine pv_ifb_ne (tgt := 48) C d_M_count_41 (by decide) (fun h4 => ?_) (fun h4 => ?_)
        · have hP := isP_ix h4
          refine pv_iconst (v := 0) C d_M_count_48 (by decide) ?_
          refine pm_put C G 0 (by decide) fl_M_83 rfl rfl rfl (by decide) rfl d_M_count_49 ?_
          refine pv_aload_n C d_M_count_52 rfl 0 rfl ?_
          refine pm_get (v := .int 0) C G 0 (by decide) fl_M_83 rfl rfl d_M_count_53 ?_
          refine pv_if_le (tgt := 61) C d_M_count_56 (by decide) (fun _ => ?_) (fun q => absurd q (by decide))
          refine pv_iconst (v := 4) C d_M_count_61 (by decide) ?_
          refine pv_iload_n C d_M_count_62 rfl 1 rfl ?_
          refine pv_imul C d_M_count_63 ?_
          refine pv_iload_n C d_M_count_64 rfl 2 rfl ?_
          refine pv_iadd C d_M_count_65 ?_
          refine pv_istore (lv' := [(6, .int ((4 * a) + n)), (0, .ref mo), (1, .int a), (2, .int n), (3, .int x), (4, .int e), (5, .int p)]) C d_M_count_66 (by decide) rfl ?_
          refine pv_aload_n C d_M_count_68 rfl 1 rfl ?_
          refine pm_get (v := .ref (ad 7)) C G 7 (by decide) fl_M_23 rfl rfl d_M_count_69 ?_
          refine pv_iload_n C d_M_count_72 rfl 2 rfl ?_
          refine pm_ald C G 7 (by decide) rfl (j := (ix a)) hL.1.1 (show (ix a) < 17 by omega) d_M_count_73 ?_
          refine pv_top (y := (z 7 (ix a))) (zs_k _ _ (by decide)) ?_
          refine pv_iconst (v := 1) C d_M_count_74 (by decide) ?_
          refine pv_icmp_eq (tgt := 80) C d_M_count_75 (by decide) (fun h5 => ?_) (fun h5 => ?_)
          · refine pv_aload_n C d_M_count_80 rfl 1 rfl ?_
            refine pm_get (v := .ref (ad 16)) C G 16 (by decide) fl_M_50 rfl rfl d_M_count_81 ?_
            refine pv_iload C d_M_count_84 0 rfl ?_
            refine pm_zld C G 16 (by decide) rfl (j := (4 * ix a + ix n)) (ln_ix hL.1.1 hL.2.1) (show (4 * ix a + ix n) < 68 by omega) d_M_count_86 ?_
            refine pv_top (y := (z 16 (4 * ix a + ix n))) (zs_k _ _ (by decide)) ?_
            refine pv_if_eq (tgt := 93) C d_M_count_87 (by decide) (fun h6 => ?_) (fun h6 => ?_)
            · refine pv_aload_n C d_M_count_93 rfl 1 rfl ?_
              refine pm_get (v := .ref (ad 17)) C G 17 (by decide) fl_M_53 rfl rfl d_M_count_94 ?_
              refine pv_bipush (v := 8) C d_M_count_97 (by decide) ?_
              refine pv_iload C d_M_count_99 0 rfl ?_
              refine pv_imul C d_M_count_101 ?_
              refine pv_iload C d_M_count_102 6 rfl ?_
              refine pv_iadd C d_M_count_104 ?_
              refine pm_zld C G 17 (by decide) rfl (j := (8 * (4 * ix a + ix n) + ix p)) (pn_ix (ln_ix hL.1.1 hL.2.1) hP.1) (show (8 * (4 * ix a + ix n) + ix p) < 544 by omega) d_M_count_105 ?_
              refine pv_top (y := (z 17 (8 * (4 * ix a + ix n) + ix p))) (zs_k _ _ (by decide)) ?_
              refine pv_if_eq (tgt := 112) C d_M_count_106 (by decide) (fun h7 => ?_) (fun h7 => ?_)
              · refine pv_aload_n C d_M_count_112 rfl 1 rfl ?_
                refine pm_get (v := .ref (ad 12)) C G 12 (by decide) fl_M_38 rfl rfl d_M_count_113 ?_
                refine pv_iload C d_M_count_116 0 rfl ?_
                refine pm_ald C G 12 (by decide) rfl (j := (4 * ix a + ix n)) (ln_ix hL.1.1 hL.2.1) (show (4 * ix a + ix n) < 68 by omega) d_M_count_118 ?_
                refine pv_top (y := (z 12 (4 * ix a + ix n))) (zs_k _ _ (by decide)) ?_
                refine pv_iload_n C d_M_count_119 rfl 4 rfl ?_
                refine pv_iadd C d_M_count_120 ?_
                refine pv_aload_n C d_M_count_121 rfl 1 rfl ?_
                refine pv_iload C d_M_count_122 0 rfl ?_
                refine pv_callV (n := 1) (As := [.int ((4 * a) + n)]) (rest := [.int ((z 12 (4 * ix a + ix n)) + x)]) C (c_M_takes hl0 G (zs z 0 0 0) ((4 * a) + n) (4 * ix a + ix n) (by omega) (ln_ix hL.1.1 hL.2.1)) cd_M_takes ml_M_111 in_M im_M_takes se_M_takes G.1 mm_obj rfl rfl (by decide +kernel) (by decide) rfl (Nat.le_of_ble_eq_true rfl) rfl d_M_count_124 (by decide) hN R0 (fun _ h => h.elim) (fun v9 LP9 f9 h9 => ?_)
                obtain ⟨rfl, rfl, rfl⟩ := h9
                refine pv_stf (f2 := mm_f γ f0 mo ad (zs z 0 0 0)) (st2 := [.int (z 10 (4 * ix a + ix n) + z 10 (4 * ix a + ix n) * z 11 (4 * ix a + ix n) / 100), .int ((z 12 (4 * ix a + ix n)) + x)]) (c2 := 0) (s2 := 0) rfl rfl rfl rfl ?_
                refine pv_icmp_le (tgt := 133) C d_M_count_127 (by decide) (fun h8 => ?_) (fun h8 => ?_)
                · refine pv_iload_n C d_M_count_133 rfl 4 rfl ?_
                  refine pv_bipush (v := 50) C d_M_count_134 (by decide) ?_
                  refine pv_iadd C d_M_count_136 ?_
                  refine pv_iconst (v := 1) C d_M_count_137 (by decide) ?_
                  refine pv_isub C d_M_count_138 ?_
                  refine pv_bipush (v := 50) C d_M_count_139 (by decide) ?_
                  refine pv_idiv C d_M_count_141 (by decide) ?_
                  refine pv_istore (lv' := [(7, .int (((x + 50) - 1) / 50)), (6, .int ((4 * a) + n)), (0, .ref mo), (1, .int a), (2, .int n), (3, .int x), (4, .int e), (5, .int p)]) C d_M_count_142 (by decide) rfl ?_
                  refine pv_aload_n C d_M_count_144 rfl 2 rfl ?_
                  refine pv_aload_n C d_M_count_145 rfl 2 rfl ?_
                  refine pm_get (v := .int (z 18 0)) C G 18 (by decide) fl_M_98 rfl rfl d_M_count_146 ?_
                  refine pv_iload C d_M_count_149 0 rfl ?_
                  refine pv_iadd C d_M_count_151 ?_
                  refine pv_bipush (v := 120) C d_M_count_152 (by decide) ?_
                  refine pv_icmp_le (tgt := 161) C d_M_count_154 (by decide) (fun h9 => ?_) (fun h9 => ?_)
                  · refine pv_iconst (v := 0) C d_M_count_161 (by decide) ?_
                    refine pm_put C G 0 (by decide) fl_M_83 rfl rfl rfl (by decide) rfl d_M_count_162 ?_
                    refine pv_aload_n C d_M_count_165 rfl 2 rfl ?_
                    refine pm_get (v := .int 0) C G 0 (by decide) fl_M_83 rfl rfl d_M_count_166 ?_
                    refine pv_if_le (tgt := 174) C d_M_count_169 (by decide) (fun _ => ?_) (fun q => absurd q (by decide))
                    have hx := inB_ix (a := 1) (b := 400) h2 rfl rfl (by decide) (by decide)
                    have hx400 : x.toInt = (ix x : Int) := by rw [hx.1, ix_nI (by omega)]; exact nI_toInt (by omega)
                    have hmany := many_ix hx.1 hx.2.2
                    have hzu := hz.2.1.2
                    have hfit : zU z + (ix x + 49) / 50 ≤ 120 := by have hq := h9; rw [hmany.2, hz.2.1.1, nI_add] at hq; exact (nI_leI (by omega) (by decide)).mp hq
                    refine pv_aload_n C d_M_count_174 rfl 2 rfl ?_
                    refine pm_get (v := .ref (ad 17)) C G 17 (by decide) fl_M_53 rfl rfl d_M_count_175 ?_
                    refine pv_bipush (v := 8) C d_M_count_178 (by decide) ?_
                    refine pv_iload C d_M_count_180 1 rfl ?_
                    refine pv_imul C d_M_count_182 ?_
                    refine pv_iload C d_M_count_183 7 rfl ?_
                    refine pv_iadd C d_M_count_185 ?_
                    refine pv_iconst (v := 1) C d_M_count_186 (by decide) ?_
                    refine pm_zst C G 17 (by decide) rfl (j := (8 * (4 * ix a + ix n) + ix p)) (pn_ix (ln_ix hL.1.1 hL.2.1) hP.1) (show (8 * (4 * ix a + ix n) + ix p) < 544 by omega) rfl d_M_count_187 ?_
                    refine pv_aload_n C d_M_count_188 rfl 2 rfl ?_
                    refine pm_get (v := .ref (ad 12)) C G 12 (by decide) fl_M_38 rfl rfl d_M_count_189 ?_
                    refine pv_iload C d_M_count_192 1 rfl ?_
                    refine pv_dup2 C d_M_count_194 rfl rfl ?_
                    refine pm_ald C G 12 (by decide) rfl (j := (4 * ix a + ix n)) (ln_ix hL.1.1 hL.2.1) (show (4 * ix a + ix n) < 68 by omega) d_M_count_195 ?_
                    refine pv_top (y := (z 12 (4 * ix a + ix n))) ((zs_k _ _ (by decide)).trans ((zs_k _ _ (by decide)).trans (zs_k _ _ (by decide)))) ?_
                    refine pv_iload_n C d_M_count_196 rfl 5 rfl ?_
                    refine pv_iadd C d_M_count_197 ?_
                    refine pm_ast C G 12 (by decide) rfl (j := (4 * ix a + ix n)) (ln_ix hL.1.1 hL.2.1) (show (4 * ix a + ix n) < 68 by omega) d_M_count_198 ?_
                    refine pv_iload_n C d_M_count_199 rfl 5 rfl ?_
                    refine pv_istore (lv' := [(8, .int x), (7, .int (((x + 50) - 1) / 50)), (6, .int ((4 * a) + n)), (0, .ref mo), (1, .int a), (2, .int n), (3, .int x), (4, .int e), (5, .int p)]) C d_M_count_200 (by decide) rfl ?_
                    refine pv_lvs (lv2 := [(8, .int x), (7, .int (((x + 50) - 1) / 50)), (6, .int ((4 * a) + n)), (0, .ref mo), (1, .int a), (2, .int n), (3, .int x), (4, .int e), (5, .int p)]) [0, 1, 2, 3, 4, 5, 6, 7, 8] rfl ?_
                    exact loop ((ix x + 49) / 50 + 1) ((ix x + 49) / 50) (zU z) x (zs (zs (zs (zs z 0 0 0) 0 0 0) 17 (8 * (4 * ix a + ix n) + ix p) 1) 12 (4 * ix a + ix n) ((z 12 (4 * ix a + ix n)) + x)) (by simpa [zs] using hz.2.1.1) hfit (by rw [hx400]; omega) (by rw [hx400]; omega) (by rw [hx400]; omega) hL hP (by unfold m_count; rw [if_pos h1, if_pos h2, if_pos h3, if_pos h4, if_pos h5, if_pos h6, if_pos h7, if_pos h8, if_pos h9]) (by omega)
                  · refine pv_iconst (v := 3) C d_M_count_157 (by decide) ?_
                    refine pv_goto (tgt := 162) C d_M_count_158 (by decide) ?_
                    refine pm_put C G 0 (by decide) fl_M_83 rfl rfl rfl (by decide) rfl d_M_count_162 ?_
                    refine pv_aload_n C d_M_count_165 rfl 2 rfl ?_
                    refine pm_get (v := .int 3) C G 0 (by decide) fl_M_83 rfl rfl d_M_count_166 ?_
                    refine pv_if_le (tgt := 174) C d_M_count_169 (by decide) (fun q => absurd q (by decide)) (fun _ => ?_)
                    refine pv_iconst (v := 0) C d_M_count_172 (by decide) ?_
                    exact pv_iret C R0 d_M_count_173 (by decide) (by decide) (mP_i (by unfold m_count; rw [if_pos h1, if_pos h2, if_pos h3, if_pos h4, if_pos h5, if_pos h6, if_pos h7, if_pos h8, if_neg h9]))
                · refine pv_bipush (v := (-4)) C d_M_count_130 (by decide) ?_
                  exact pv_iret C R0 d_M_count_132 (by decide) (by decide) (mP_i (by unfold m_count; rw [if_pos h1, if_pos h2, if_pos h3, if_pos h4, if_pos h5, if_pos h6, if_pos h7, if_neg h8]))
              · refine pv_bipush (v := (-3)) C d_M_count_109 (by decide) ?_
                exact pv_iret C R0 d_M_count_111 (by decide) (by decide) (mP_i (by unfold m_count; rw [if_pos h1, if_pos h2, if_pos h3, if_pos h4, if_pos h5, if_pos h6, if_neg h7]))
            · refine pv_bipush (v := (-2)) C d_M_count_90 (by decide) ?_
              exact pv_iret C R0 d_M_count_92 (by decide) (by decide) (mP_i (by unfold m_count; rw [if_pos h1, if_pos h2, if_pos h3, if_pos h4, if_pos h5, if_neg h6]))
          · refine pv_iconst (v := (-1)) C d_M_count_78 (by decide) ?_
            exact pv_iret C R0 d_M_count_79 (by decide) (by decide) (mP_i (by unfold m_count; rw [if_pos h1, if_pos h2, if_pos h3, if_pos h4, if_neg h5]))
        · refine pv_iconst (v := 2) C d_M_count_44 (by decide) ?_
          refine pv_goto (tgt := 49) C d_M_count_45 (by decide) ?_
          refine pm_put C G 0 (by decide) fl_M_83 rfl rfl rfl (by decide) rfl d_M_count_49 ?_
          refine pv_aload_n C d_M_count_52 rfl 0 rfl ?_
          refine pm_get (v := .int 2) C G 0 (by decide) fl_M_83 rfl rfl d_M_count_53 ?_
          refine pv_if_le (tgt := 61) C d_M_count_56 (by decide) (fun q => absurd q (by decide)) (fun _ => ?_)
          refine pv_iconst (v := 0) C d_M_count_59 (by decide) ?_
          exact pv_iret C R0 d_M_count_60 (by decide) (by decide) (mP_i (by unfold m_count; rw [if_pos h1, if_pos h2, if_pos h3, if_neg (nT h4)]))
  · refine pv_iconst (v := 1) C d_M_count_10 (by decide) ?_
    refine pv_goto (tgt := 49) C d_M_count_11 (by decide) ?_
    refine pm_put C G 0 (by decide) fl_M_83 rfl rfl rfl (by decide) rfl d_M_count_49 ?_
    refine pv_aload_n C d_M_count_52 rfl 0 rfl ?_
    refine pm_get (v := .int 1) C G 0 (by decide) fl_M_83 rfl rfl d_M_count_53 ?_
    refine pv_if_le (tgt := 61) C d_M_count_56 (by decide) (fun q => absurd q (by decide)) (fun _ => ?_)
    refine pv_iconst (v := 0) C d_M_count_59 (by decide) ?_
    exact pv_iret C R0 d_M_count_60 (by decide) (by decide) (mP_i (by unfold m_count; rw [if_neg (nT h1)]))
/-! the constructor: arrays one by one -/
def mi_o (ad : Nat → Nat) (ks : List Nat) : List Value := (List.range 31).map (fun k => if k ∈ ks then .ref (ad k) else if k ∈ mm_arrs then .null else .int 0)
def mi_f (γ : Nat → ClassId) (f : Nat → va_E) (mo : Nat) (ad : Nat → Nat) (ks : List Nat) : Nat → va_E := fun a => if a = mo then .inr (4, mi_o ad ks) else match ks.find? (fun k => ad k == a) with
  | some k => .inl (mm_c γ k, mm_len k, .inl (fun _ => 0))
  | none => f a
def mi_H (mo : Nat) (ad : Nat → Nat) (ks LP : List Nat) : Prop := mo ∈ LP ∧ (∀ k ∈ ks, ad k ∈ LP) ∧ (∀ k ∈ ks, ad k ≠ mo) ∧ ∀ i ∈ ks, ∀ j ∈ ks, ad i = ad j → i = j
theorem mi_H.push {mo : Nat} {ad : Nat → Nat} {ks LP : List Nat} (h : mi_H mo ad ks LP) {k q : Nat} (hq : q ∉ LP) (hk : k ∉ ks) : mi_H mo (va_up ad k q) (ks ++ [k]) (LP ++ [q]) := by
  have e : ∀ i ∈ ks, va_up ad k q i = ad i := fun i hi => va_up_ne _ _ (fun w => hk (w ▸ hi))
  have hm : mo ≠ q := fun w => hq (w ▸ h.1)
  refine ⟨List.mem_append_left _ h.1, fun i hi => ?_, fun i hi => ?_, fun i hi j hj w => ?_⟩
  · rcases List.mem_append.mp hi with g | g
    · rw [e i g]; exact List.mem_append_left _ (h.2.1 i g)
    · rw [List.mem_singleton.mp g, va_up_self]; exact List.mem_append_right _ (List.mem_singleton.mpr rfl)
  · rcases List.mem_append.mp hi with g | g
    · rw [e i g]; exact h.2.2.1 i g
    · rw [List.mem_singleton.mp g, va_up_self]; exact hm.symm
  · rcases List.mem_append.mp hi with g | g <;> rcases List.mem_append.mp hj with g' | g'
    · rw [e i g, e j g'] at w; exact h.2.2.2 i g j g' w
    · rw [List.mem_singleton.mp g', va_up_self, e i g] at w; exact absurd (w ▸ h.2.1 i g) hq
    · rw [List.mem_singleton.mp g, va_up_self, e j g'] at w; exact absurd (w ▸ h.2.1 j g') hq
    · rw [List.mem_singleton.mp g, List.mem_singleton.mp g']
theorem mi_up {γ : Nat → ClassId} {f : Nat → va_E} {mo : Nat} {ad : Nat → Nat} {ks LP : List Nat} (h : mi_H mo ad ks LP) {k q : Nat} (hq : q ∉ LP) (hk : k ∉ ks) (ho : (mi_o ad ks).set k (.ref q) = mi_o (va_up ad k q) (ks ++ [k])) : va_up (va_up (mi_f γ f mo ad ks) q (.inl (mm_c γ k, mm_len k, .inl (fun _ => 0)))) mo (.inr (4, (mi_o ad ks).set k (.ref q))) = mi_f γ f mo (va_up ad k q) (ks ++ [k]) := by
  funext a
  have e : ∀ i ∈ ks, va_up ad k q i = ad i := fun i hi => va_up_ne _ _ (fun w => hk (w ▸ hi))
  by_cases h1 : a = mo
  · subst h1
    rw [va_up_self, ho]
    unfold mi_f
    rw [if_pos rfl]
  · rw [va_up_ne _ _ h1]
    unfold mi_f
    rw [if_neg h1]
    have ef : (ks ++ [k]).find? (fun i => va_up ad k q i == a) = if a = q then some k else ks.find? (fun i => ad i == a) := by
      rw [List.find?_append]
      have e2 : ks.find? (fun i => va_up ad k q i == a) = ks.find? (fun i => ad i == a) := by
        have : ∀ l : List Nat, (∀ i ∈ l, i ∈ ks) → l.find? (fun i => va_up ad k q i == a) = l.find? (fun i => ad i == a) := by
          intro l
          induction l with
          | nil => intro _; rfl
          | cons x l ih =>
            intro hl
            simp only [List.find?_cons, e x (hl x List.mem_cons_self)]
            rw [ih (fun i hi => hl i (List.mem_cons_of_mem _ hi))]
        exact this ks (fun _ w => w)
      rw [e2]
      by_cases h2 : a = q
      · rw [if_pos h2]
        have h3 : ks.find? (fun i => ad i == a) = none := by
          apply List.find?_eq_none.mpr
          intro i hi w
          have w2 : ad i = a := by simpa using w
          exact hq (by rw [← h2, ← w2]; exact h.2.1 i hi)
        rw [h3, h2]
        simp [va_up_self]
      · rw [if_neg h2]
        cases ks.find? (fun i => ad i == a) with
        | some i => rfl
        | none =>
          have : (va_up ad k q k == a) = false := by rw [va_up_self]; simpa using fun w : q = a => h2 w.symm
          simp [List.find?_cons, this]
    rw [ef]
    by_cases h2 : a = q
    · rw [h2, va_up_self, if_pos rfl]
    · rw [va_up_ne _ _ h2, if_neg h2, if_neg h1]
section MI
variable {l0 : Launch} {D : va_G} {γ : Nat → ClassId} {κ : pv_K} {cc : ByteArray} {rm : Room} {nl : Nat} {cells slots : Nat} {LP : List Nat} {f : Nat → va_E} {mo : Nat} {ad : Nat → Nat} {ks : List Nat} {pc : Nat} {lv : List (Nat × Value)}
theorem mi_put (C : pv_C l0 D (tys_ γ) κ cc RM rm nl) (hI : pv_I κ) (h : mi_H mo ad ks LP) {k q index : Nat} (hq : q ∉ LP) (hk : k ∉ ks) (ho : (mi_o ad ks).set k (.ref q) = mi_o (va_up ad k q) (ks ++ [k])) (hk31 : k < 31) (hlk : Cond.fieldLink RM index RM (TM k).2.1 (TM k).2.2.1 ∈ Wg) (hr : (TM k).1 = RM) (hfin : (TM k).2.2.2 = true) (hn : narrow (tyM k) (.ref q) = .ref q) (hft : fits (tyM k) (.ref q) = true) (d : decode cc pc = .ok (.putfield index, 3))
    (kk : pv_V D κ cells slots (LP ++ [q]) (mi_f γ f mo (va_up ad k q) (ks ++ [k])) (pc + 3) lv []) : pv_V D κ cells slots (LP ++ [q]) (va_up (mi_f γ f mo ad ks) q (.inl (mm_c γ k, mm_len k, .inl (fun _ => 0)))) pc lv [.ref q, .ref mo] := by
  have hm : mo ≠ q := fun w => hq (w ▸ h.1)
  refine pv_putF C hI hin_M tyM tyM_ok nmM (ci := 4) (fs := mi_o ad ks) rfl (List.mem_append_left _ h.1) (by rw [va_up_ne _ _ hm]; exact if_pos rfl) k hk31 hlk hr hfin hr hn hft (by rw [mi_o, List.length_map, List.length_range]; exact hk31) d ?_
  rw [mi_up h hq hk ho]
  exact kk
end MI
theorem mi_end {γ : Nat → ClassId} {f : Nat → va_E} {mo : Nat} {ad : Nat → Nat} : mi_f γ f mo ad mm_arrs = mm_f γ f mo ad (fun _ _ => 0) := by
  funext a
  unfold mi_f mm_f
  by_cases h : a = mo
  · rw [if_pos h, if_pos h]; rfl
  · rw [if_neg h, if_neg h]; rfl
theorem mi_0 {γ : Nat → ClassId} {f : Nat → va_E} {mo : Nat} {ad : Nat → Nat} (h : f mo = .inr (4, mi_o ad [])) : f = mi_f γ f mo ad [] := by
  funext a
  unfold mi_f
  by_cases h2 : a = mo
  · rw [if_pos h2, h2, h]
  · rw [if_neg h2]; rfl
abbrev rm_M_init : Room := { frames := 1, cells := 24, slots := 2213, locals := 12 }
set_option maxRecDepth 100000 in
set_option maxHeartbeats 4000000 in
theorem c_M_init {l0 : Launch} {D : va_G} {γ : Nat → ClassId} (hl0 : l0.stackTraces = false) {LP : List Nat} {f : Nat → va_E} {mo : Nat} (hmo : mo ∈ LP) (hf : f mo = .inr (4, mi_o (fun _ => 0) [])) : pv_M l0 D (tys_ γ) y_M_init (Cond.code y_M_init b_M_init 1 none) rm_M_init [.ref mo] LP f (fun v LP1 f1 => v = none ∧ ∃ (ad : Nat → Nat) (qs : List Nat), LP1 = LP ++ qs ∧ f1 = mm_f γ f mo ad (fun _ _ => 0) ∧ mm_H mo ad LP1) (fun _ => False) := by
  refine pv_mk hl0 (by decide) (Nat.le_of_ble_eq_true rfl) (fun κ C R0 hN hI => ?_)
  have hI := hI rfl
  show pv_V D κ 0 0 LP f 0 [(0, .ref mo)] []
  have H : mi_H mo (fun _ => 0) [] LP := ⟨hmo, fun _ h => absurd h List.not_mem_nil, fun _ h => absurd h List.not_mem_nil, fun _ h => absurd h List.not_mem_nil⟩
  refine pv_aload_n C d_M_init_0 rfl 0 rfl ?_
  refine pv_objInit C ml_M_1 d_M_init_1 (by decide) (Nat.le_of_ble_eq_true rfl) ?_
  rw [mi_0 (γ := γ) hf]
  refine pv_aload_n C d_M_init_4 rfl 0 rfl ?_
  refine pv_bipush (v := 8) C d_M_init_5 (by decide) ?_
  refine pv_newaz C 4 rfl ac_boolean (N := 8) rfl (by decide) (by decide) (by decide) d_M_init_7 (fun q1 hq1 => ?_)
  refine mi_put C hI (k := 2) H hq1 (by decide) rfl (by decide) fl_M_7 rfl rfl rfl rfl d_M_init_9 ?_
  replace H := H.push (k := 2) hq1 (by decide)
  refine pv_aload_n C d_M_init_12 rfl 0 rfl ?_
  refine pv_bipush (v := 17) C d_M_init_13 (by decide) ?_
  refine pv_newai C 3 rfl ac_int (N := 17) rfl (by decide) (by decide) (by decide) d_M_init_15 (fun q2 hq2 => ?_)
  refine mi_put C hI (k := 4) H hq2 (by decide) rfl (by decide) fl_M_13 rfl rfl rfl rfl d_M_init_17 ?_
  replace H := H.push (k := 4) hq2 (by decide)
  refine pv_aload_n C d_M_init_20 rfl 0 rfl ?_
  refine pv_bipush (v := 17) C d_M_init_21 (by decide) ?_
  refine pv_newai C 3 rfl ac_int (N := 17) rfl (by decide) (by decide) (by decide) d_M_init_23 (fun q3 hq3 => ?_)
  refine mi_put C hI (k := 5) H hq3 (by decide) rfl (by decide) fl_M_17 rfl rfl rfl rfl d_M_init_25 ?_
  replace H := H.push (k := 5) hq3 (by decide)
  refine pv_aload_n C d_M_init_28 rfl 0 rfl ?_
  refine pv_bipush (v := 17) C d_M_init_29 (by decide) ?_
  refine pv_newai C 3 rfl ac_int (N := 17) rfl (by decide) (by decide) (by decide) d_M_init_31 (fun q4 hq4 => ?_)
  refine mi_put C hI (k := 6) H hq4 (by decide) rfl (by decide) fl_M_20 rfl rfl rfl rfl d_M_init_33 ?_
  replace H := H.push (k := 6) hq4 (by decide)
  refine pv_aload_n C d_M_init_36 rfl 0 rfl ?_
  refine pv_bipush (v := 17) C d_M_init_37 (by decide) ?_
  refine pv_newai C 3 rfl ac_int (N := 17) rfl (by decide) (by decide) (by decide) d_M_init_39 (fun q5 hq5 => ?_)
  refine mi_put C hI (k := 7) H hq5 (by decide) rfl (by decide) fl_M_23 rfl rfl rfl rfl d_M_init_41 ?_
  replace H := H.push (k := 7) hq5 (by decide)
  refine pv_aload_n C d_M_init_44 rfl 0 rfl ?_
  refine pv_bipush (v := 17) C d_M_init_45 (by decide) ?_
  refine pv_newai C 3 rfl ac_int (N := 17) rfl (by decide) (by decide) (by decide) d_M_init_47 (fun q6 hq6 => ?_)
  refine mi_put C hI (k := 8) H hq6 (by decide) rfl (by decide) fl_M_26 rfl rfl rfl rfl d_M_init_49 ?_
  replace H := H.push (k := 8) hq6 (by decide)
  refine pv_aload_n C d_M_init_52 rfl 0 rfl ?_
  refine pv_bipush (v := 68) C d_M_init_53 (by decide) ?_
  refine pv_newai C 3 rfl ac_int (N := 68) rfl (by decide) (by decide) (by decide) d_M_init_55 (fun q7 hq7 => ?_)
  refine mi_put C hI (k := 9) H hq7 (by decide) rfl (by decide) fl_M_29 rfl rfl rfl rfl d_M_init_57 ?_
  replace H := H.push (k := 9) hq7 (by decide)
  refine pv_aload_n C d_M_init_60 rfl 0 rfl ?_
  refine pv_bipush (v := 68) C d_M_init_61 (by decide) ?_
  refine pv_newai C 3 rfl ac_int (N := 68) rfl (by decide) (by decide) (by decide) d_M_init_63 (fun q8 hq8 => ?_)
  refine mi_put C hI (k := 10) H hq8 (by decide) rfl (by decide) fl_M_32 rfl rfl rfl rfl d_M_init_65 ?_
  replace H := H.push (k := 10) hq8 (by decide)
  refine pv_aload_n C d_M_init_68 rfl 0 rfl ?_
  refine pv_bipush (v := 68) C d_M_init_69 (by decide) ?_
  refine pv_newai C 3 rfl ac_int (N := 68) rfl (by decide) (by decide) (by decide) d_M_init_71 (fun q9 hq9 => ?_)
  refine mi_put C hI (k := 11) H hq9 (by decide) rfl (by decide) fl_M_35 rfl rfl rfl rfl d_M_init_73 ?_
  replace H := H.push (k := 11) hq9 (by decide)
  refine pv_aload_n C d_M_init_76 rfl 0 rfl ?_
  refine pv_bipush (v := 68) C d_M_init_77 (by decide) ?_
  refine pv_newai C 3 rfl ac_int (N := 68) rfl (by decide) (by decide) (by decide) d_M_init_79 (fun q10 hq10 => ?_)
  refine mi_put C hI (k := 12) H hq10 (by decide) rfl (by decide) fl_M_38 rfl rfl rfl rfl d_M_init_81 ?_
  replace H := H.push (k := 12) hq10 (by decide)
  refine pv_aload_n C d_M_init_84 rfl 0 rfl ?_
  refine pv_bipush (v := 68) C d_M_init_85 (by decide) ?_
  refine pv_newai C 3 rfl ac_int (N := 68) rfl (by decide) (by decide) (by decide) d_M_init_87 (fun q11 hq11 => ?_)
  refine mi_put C hI (k := 13) H hq11 (by decide) rfl (by decide) fl_M_41 rfl rfl rfl rfl d_M_init_89 ?_
  replace H := H.push (k := 13) hq11 (by decide)
  refine pv_aload_n C d_M_init_92 rfl 0 rfl ?_
  refine pv_bipush (v := 68) C d_M_init_93 (by decide) ?_
  refine pv_newai C 3 rfl ac_int (N := 68) rfl (by decide) (by decide) (by decide) d_M_init_95 (fun q12 hq12 => ?_)
  refine mi_put C hI (k := 14) H hq12 (by decide) rfl (by decide) fl_M_44 rfl rfl rfl rfl d_M_init_97 ?_
  replace H := H.push (k := 14) hq12 (by decide)
  refine pv_aload_n C d_M_init_100 rfl 0 rfl ?_
  refine pv_bipush (v := 68) C d_M_init_101 (by decide) ?_
  refine pv_newaz C 4 rfl ac_boolean (N := 68) rfl (by decide) (by decide) (by decide) d_M_init_103 (fun q13 hq13 => ?_)
  refine mi_put C hI (k := 15) H hq13 (by decide) rfl (by decide) fl_M_47 rfl rfl rfl rfl d_M_init_105 ?_
  replace H := H.push (k := 15) hq13 (by decide)
  refine pv_aload_n C d_M_init_108 rfl 0 rfl ?_
  refine pv_bipush (v := 68) C d_M_init_109 (by decide) ?_
  refine pv_newaz C 4 rfl ac_boolean (N := 68) rfl (by decide) (by decide) (by decide) d_M_init_111 (fun q14 hq14 => ?_)
  refine mi_put C hI (k := 16) H hq14 (by decide) rfl (by decide) fl_M_50 rfl rfl rfl rfl d_M_init_113 ?_
  replace H := H.push (k := 16) hq14 (by decide)
  refine pv_aload_n C d_M_init_116 rfl 0 rfl ?_
  refine pv_sipush (v := 544) C d_M_init_117 (by decide) ?_
  refine pv_newaz C 4 rfl ac_boolean (N := 544) rfl (by decide) (by decide) (by decide) d_M_init_120 (fun q15 hq15 => ?_)
  refine mi_put C hI (k := 17) H hq15 (by decide) rfl (by decide) fl_M_53 rfl rfl rfl rfl d_M_init_122 ?_
  replace H := H.push (k := 17) hq15 (by decide)
  refine pv_aload_n C d_M_init_125 rfl 0 rfl ?_
  refine pv_bipush (v := 121) C d_M_init_126 (by decide) ?_
  refine pv_newai C 3 rfl ac_int (N := 121) rfl (by decide) (by decide) (by decide) d_M_init_128 (fun q16 hq16 => ?_)
  refine mi_put C hI (k := 19) H hq16 (by decide) rfl (by decide) fl_M_56 rfl rfl rfl rfl d_M_init_130 ?_
  replace H := H.push (k := 19) hq16 (by decide)
  refine pv_aload_n C d_M_init_133 rfl 0 rfl ?_
  refine pv_bipush (v := 121) C d_M_init_134 (by decide) ?_
  refine pv_newai C 3 rfl ac_int (N := 121) rfl (by decide) (by decide) (by decide) d_M_init_136 (fun q17 hq17 => ?_)
  refine mi_put C hI (k := 20) H hq17 (by decide) rfl (by decide) fl_M_59 rfl rfl rfl rfl d_M_init_138 ?_
  replace H := H.push (k := 20) hq17 (by decide)
  refine pv_aload_n C d_M_init_141 rfl 0 rfl ?_
  refine pv_bipush (v := 121) C d_M_init_142 (by decide) ?_
  refine pv_newai C 3 rfl ac_int (N := 121) rfl (by decide) (by decide) (by decide) d_M_init_144 (fun q18 hq18 => ?_)
  refine mi_put C hI (k := 21) H hq18 (by decide) rfl (by decide) fl_M_62 rfl rfl rfl rfl d_M_init_146 ?_
  replace H := H.push (k := 21) hq18 (by decide)
  refine pv_aload_n C d_M_init_149 rfl 0 rfl ?_
  refine pv_bipush (v := 121) C d_M_init_150 (by decide) ?_
  refine pv_newai C 3 rfl ac_int (N := 121) rfl (by decide) (by decide) (by decide) d_M_init_152 (fun q19 hq19 => ?_)
  refine mi_put C hI (k := 22) H hq19 (by decide) rfl (by decide) fl_M_65 rfl rfl rfl rfl d_M_init_154 ?_
  replace H := H.push (k := 22) hq19 (by decide)
  refine pv_aload_n C d_M_init_157 rfl 0 rfl ?_
  refine pv_bipush (v := 121) C d_M_init_158 (by decide) ?_
  refine pv_newai C 3 rfl ac_int (N := 121) rfl (by decide) (by decide) (by decide) d_M_init_160 (fun q20 hq20 => ?_)
  refine mi_put C hI (k := 23) H hq20 (by decide) rfl (by decide) fl_M_68 rfl rfl rfl rfl d_M_init_162 ?_
  replace H := H.push (k := 23) hq20 (by decide)
  refine pv_aload_n C d_M_init_165 rfl 0 rfl ?_
  refine pv_bipush (v := 121) C d_M_init_166 (by decide) ?_
  refine pv_newai C 3 rfl ac_int (N := 121) rfl (by decide) (by decide) (by decide) d_M_init_168 (fun q21 hq21 => ?_)
  refine mi_put C hI (k := 24) H hq21 (by decide) rfl (by decide) fl_M_71 rfl rfl rfl rfl d_M_init_170 ?_
  replace H := H.push (k := 24) hq21 (by decide)
  refine pv_aload_n C d_M_init_173 rfl 0 rfl ?_
  refine pv_bipush (v := 121) C d_M_init_174 (by decide) ?_
  refine pv_newai C 3 rfl ac_int (N := 121) rfl (by decide) (by decide) (by decide) d_M_init_176 (fun q22 hq22 => ?_)
  refine mi_put C hI (k := 25) H hq22 (by decide) rfl (by decide) fl_M_74 rfl rfl rfl rfl d_M_init_178 ?_
  replace H := H.push (k := 25) hq22 (by decide)
  refine pv_aload_n C d_M_init_181 rfl 0 rfl ?_
  refine pv_bipush (v := 121) C d_M_init_182 (by decide) ?_
  refine pv_newai C 3 rfl ac_int (N := 121) rfl (by decide) (by decide) (by decide) d_M_init_184 (fun q23 hq23 => ?_)
  refine mi_put C hI (k := 26) H hq23 (by decide) rfl (by decide) fl_M_77 rfl rfl rfl rfl d_M_init_186 ?_
  replace H := H.push (k := 26) hq23 (by decide)
  refine pv_aload_n C d_M_init_189 rfl 0 rfl ?_
  refine pv_bipush (v := 64) C d_M_init_190 (by decide) ?_
  refine pv_newai C 3 rfl ac_int (N := 64) rfl (by decide) (by decide) (by decide) d_M_init_192 (fun q24 hq24 => ?_)
  refine mi_put C hI (k := 30) H hq24 (by decide) rfl (by decide) fl_M_80 rfl rfl rfl rfl d_M_init_194 ?_
  replace H := H.push (k := 30) hq24 (by decide)
  refine pv_vret C R0 d_M_init_197 (by decide) (by decide) ⟨rfl, _, [q1, q2, q3, q4, q5, q6, q7, q8, q9, q10, q11, q12, q13, q14, q15, q16, q17, q18, q19, q20, q21, q22, q23, q24], ?_, mi_end, H⟩
  simp only [List.append_assoc, List.cons_append, List.nil_append]
end
section
/-! the component's cells by keys (kind, index): 0 the object and its arrays, 1 announcements, 2 their arrays of lines, 3 lines, 4 units -/
abbrev kT : Type := Nat × Nat
def kf (ks : List kT) (ρ : kT → Nat) (c : kT → va_E) (f0 : Nat → va_E) : Nat → va_E := fun a => match ks.find? (fun k => ρ k == a) with
  | some k => c k
  | none => f0 a
def ku {β : Type} (c : kT → β) (k : kT) (e : β) : kT → β := fun i => if i = k then e else c i
theorem ku_eq {β : Type} (c : kT → β) (k : kT) (e : β) : ku c k e k = e := if_pos rfl
theorem ku_ne {β : Type} (c : kT → β) {k i : kT} (e : β) (h : i ≠ k) : ku c k e i = c i := if_neg h
def kH (ks : List kT) (ρ : kT → Nat) (LP : List Nat) : Prop := (∀ k ∈ ks, ρ k ∈ LP) ∧ ∀ i ∈ ks, ∀ j ∈ ks, ρ i = ρ j → i = j
section KF
variable {ks : List kT} {ρ : kT → Nat} {c c' : kT → va_E} {f0 : Nat → va_E} {LP : List Nat}
theorem kf_find (H : kH ks ρ LP) {k : kT} (hk : k ∈ ks) : ks.find? (fun i => ρ i == ρ k) = some k := by
  cases h : ks.find? (fun i => ρ i == ρ k) with
  | none => exact absurd (beq_self_eq_true (ρ k)) (by simpa using List.find?_eq_none.mp h k hk)
  | some i =>
    have h1 := List.find?_some h
    have h2 := List.mem_of_find?_eq_some h
    rw [H.2 i h2 k hk (by simpa using h1)]
theorem kf_at (H : kH ks ρ LP) {k : kT} (hk : k ∈ ks) : kf ks ρ c f0 (ρ k) = c k := by
  unfold kf
  rw [kf_find H hk]
theorem kf_eq (h : ∀ k ∈ ks, c k = c' k) : kf ks ρ c f0 = kf ks ρ c' f0 := by
  funext a
  unfold kf
  cases h3 : ks.find? (fun i => ρ i == a) with
  | none => rfl
  | some i => exact h i (List.mem_of_find?_eq_some h3)
theorem kf_up (H : kH ks ρ LP) {k : kT} (hk : k ∈ ks) (e : va_E) : va_up (kf ks ρ c f0) (ρ k) e = kf ks ρ (ku c k e) f0 := by
  funext a
  by_cases h : a = ρ k
  · subst h
    rw [va_up_self, kf_at H hk, ku_eq]
  · rw [va_up_ne _ _ h]
    unfold kf
    cases h3 : ks.find? (fun i => ρ i == a) with
    | none => rfl
    | some i =>
      have h4 : ρ i = a := by simpa using List.find?_some h3
      show c i = ku c k e i
      rw [ku_ne _ _ (fun q => h (by rw [← h4, q]))]
theorem kf_push (H : kH ks ρ LP) {k : kT} {q : Nat} (hk : k ∉ ks) (hq : q ∉ LP) (e : va_E) : va_up (kf ks ρ c f0) q e = kf (ks ++ [k]) (ku ρ k q) (ku c k e) f0 := by
  have e1 : ∀ i ∈ ks, ku ρ k q i = ρ i := fun i hi => ku_ne _ _ (fun w => hk (w ▸ hi))
  funext a
  have e2 : ∀ l : List kT, (∀ i ∈ l, i ∈ ks) → l.find? (fun i => ku ρ k q i == a) = l.find? (fun i => ρ i == a) := by
    intro l
    induction l with
    | nil => intro _; rfl
    | cons x l ih =>
      intro hl
      simp only [List.find?_cons, e1 x (hl x List.mem_cons_self)]
      rw [ih (fun i hi => hl i (List.mem_cons_of_mem _ hi))]
  unfold kf
  rw [List.find?_append, e2 ks (fun _ w => w)]
  by_cases h2 : a = q
  · have h3 : ks.find? (fun i => ρ i == a) = none := by
      apply List.find?_eq_none.mpr
      intro i hi w
      have w2 : ρ i = a := by simpa using w
      exact hq (by rw [← h2, ← w2]; exact H.1 i hi)
    rw [h3, h2, va_up_self]
    simp [ku_eq]
  · rw [va_up_ne _ _ h2]
    cases h3 : ks.find? (fun i => ρ i == a) with
    | some i =>
      have hi := List.mem_of_find?_eq_some h3
      show c i = ku c k e i
      rw [ku_ne _ _ (fun (w : i = k) => hk (w ▸ hi))]
    | none =>
      have : (ku ρ k q k == a) = false := by rw [ku_eq]; simpa using fun w : q = a => h2 w.symm
      simp [List.find?_cons, this]
theorem kH.push (H : kH ks ρ LP) {k : kT} {q : Nat} (hk : k ∉ ks) (hq : q ∉ LP) : kH (ks ++ [k]) (ku ρ k q) (LP ++ [q]) := by
  have e : ∀ i ∈ ks, ku ρ k q i = ρ i := fun i hi => ku_ne _ _ (fun w => hk (w ▸ hi))
  refine ⟨fun i hi => ?_, fun i hi j hj w => ?_⟩
  · rcases List.mem_append.mp hi with g | g
    · rw [e i g]; exact List.mem_append_left _ (H.1 i g)
    · rw [List.mem_singleton.mp g, ku_eq]; exact List.mem_append_right _ (List.mem_singleton.mpr rfl)
  · rcases List.mem_append.mp hi with g | g <;> rcases List.mem_append.mp hj with g' | g'
    · rw [e i g, e j g'] at w; exact H.2 i g j g' w
    · rw [List.mem_singleton.mp g', ku_eq, e i g] at w; exact absurd (w ▸ H.1 i g) hq
    · rw [List.mem_singleton.mp g, ku_eq, e j g'] at w; exact absurd (w ▸ H.1 j g') hq
    · rw [List.mem_singleton.mp g, List.mem_singleton.mp g']
end KF
abbrev xT : Type := Int32 × (Nat → Int32) × (Nat → Int32)
def cS (ρ : kT → Nat) (z : zT) (x : xT) : List Value := [.ref (ρ (0, 1)), .ref (ρ (0, 2)), .ref (ρ (0, 3)), .int (z 3 0), .int (z 18 0), .int (z 27 0), .int (z 29 0), .int (z 28 0), .int (z 1 0), .int x.1]
def cA (ρ : kT → Nat) (z : zT) (i : Nat) : List Value := [.int (nI i), .int (z 4 i), .int (z 5 i), .ref (ρ (2, i)), .int (z 6 i), .int (z 7 i), .int (z 8 i)]
def cN (ρ : kT → Nat) (z : zT) (x : xT) (i : Nat) : List Value := [.ref (ρ (1, i / 4)), .int (nI (i % 4)), .int (z 9 i), .int (z 10 i), .int (z 11 i), .int (z 13 i), .int (z 14 i), .int (z 12 i), .int (x.2.1 i), .int (z 15 i), .int (z 16 i)]
def cU (ρ : kT → Nat) (z : zT) (x : xT) (i : Nat) : List Value := [.ref (ρ (3, zl z i)), .int (z 21 i), .int (z 22 i), .int (z 23 i), .int (z 24 i), .int (z 25 i), .int (z 26 i), .int (x.2.2 i)]
def gA (ρ : kT → Nat) (z : zT) : Nat → Option Nat := fun i => if i < zA z then some (ρ (1, i + 1)) else none
def gU (ρ : kT → Nat) (z : zT) : Nat → Option Nat := fun i => if i < zU z then some (ρ (4, i + 1)) else none
def gD (ρ : kT → Nat) (z : zT) : Nat → Option Nat := fun i => if i < zD z then some (ρ (3, ix (z 30 i))) else none
def gL (ρ : kT → Nat) (z : zT) (i : Nat) : Nat → Option Nat := fun j => if j < zt z i then some (ρ (3, 4 * i + j)) else none
def cz (γ : Nat → ClassId) (ρ : kT → Nat) (z : zT) (x : xT) (k : kT) : va_E := match k.1, k.2 with
  | 0, 0 => .inr (3, cS ρ z x)
  | 0, 1 => .inl (γ 0, 16, .inr (.inr (.inr (.inr (gA ρ z)))))
  | 0, 2 => .inl (γ 2, 120, .inr (.inr (.inr (.inr (gU ρ z)))))
  | 0, _ => .inl (γ 1, 64, .inr (.inr (.inr (.inr (gD ρ z)))))
  | 1, i => .inr (0, cA ρ z i)
  | 2, i => .inl (γ 1, 4, .inr (.inr (.inr (.inr (gL ρ z i)))))
  | 3, i => .inr (1, cN ρ z x i)
  | _, i => .inr (2, cU ρ z x i)
def vK (z : zT) (k : kT) : Prop := match k.1 with
  | 0 => k.2 ≤ 3
  | 1 => 1 ≤ k.2 ∧ k.2 ≤ zA z
  | 2 => 1 ≤ k.2 ∧ k.2 ≤ zA z
  | 3 => 1 ≤ k.2 / 4 ∧ k.2 / 4 ≤ zA z ∧ k.2 % 4 < zt z (k.2 / 4)
  | 4 => 1 ≤ k.2 ∧ k.2 ≤ zU z
  | _ => False
theorem vK_line {z : zT} {i j : Nat} (h1 : 1 ≤ i) (h2 : i ≤ zA z) (h3 : j < zt z i) (h4 : j < 4) : vK z (3, 4 * i + j) := by
  show 1 ≤ (4 * i + j) / 4 ∧ (4 * i + j) / 4 ≤ zA z ∧ (4 * i + j) % 4 < zt z ((4 * i + j) / 4)
  rw [show (4 * i + j) / 4 = i by omega, show (4 * i + j) % 4 = j by omega]
  exact ⟨h1, h2, h3⟩
theorem vK_lt {z : zT} {i : Nat} (hz : zI z) (h : vK z (3, i)) : i < 68 := by
  have h1 : i / 4 ≤ zA z := h.2.1
  have h2 := hz.1.2
  omega
abbrev bitI (p : Int32) : Int32 := 1 <<< (p &&& 31)
/-- a unit's state of its damage, its waiting, its line's bad verdict -/
def uS (d w b : Int32) : Int32 := if d = 0 then (if w = 0 then (if b = 0 then 0 else 2) else 3) else 1
def zJ (z : zT) (x : xT) : Prop := (∀ u, 1 ≤ u → u ≤ zU z → vK z (3, zl z u)) ∧ (∀ i, i < zD z → vK z (3, ix (z 30 i))) ∧ (∀ p, p ≤ 7 → (x.1 &&& bitI (nI p) = 0 ↔ z 2 p = 0)) ∧ (∀ i p, i < 68 → p ≤ 7 → (x.2.1 i &&& bitI (nI p) = 0 ↔ z 17 (8 * i + p) = 0)) ∧ (∀ u, 1 ≤ u → u ≤ zU z → z 20 u = uS (z 24 u) (x.2.2 u) (z 15 (zl z u))) ∧ ∀ i, i < 68 → (z 13 i = nI (ix (z 13 i)) ∧ ix (z 13 i) ≤ 5) ∧ z 14 i = nI (ix (z 14 i)) ∧ ix (z 14 i) ≤ 5
def cI (LP : List Nat) (ks : List kT) (ρ : kT → Nat) (z : zT) (x : xT) : Prop := kH ks ρ LP ∧ (∀ k, k ∈ ks ↔ vK z k) ∧ zI z ∧ zJ z x
abbrev cF (γ : Nat → ClassId) (ks : List kT) (ρ : kT → Nat) (z : zT) (x : xT) (f0 : Nat → va_E) : Nat → va_E := kf ks ρ (cz γ ρ z x) f0
/-- a reading end: an answer, nothing changed -/
def rdP (LP : List Nat) (f : Nat → va_E) (v : Option Value) : Option Value → List Nat → (Nat → va_E) → Prop := fun w LP1 f1 => w = v ∧ LP1 = LP ∧ f1 = f
abbrev eIA : String := "java/lang/IllegalArgumentException"
abbrev eUO : String := "java/lang/UnsupportedOperationException"
abbrev eNS : String := "java/util/NoSuchElementException"
abbrev eIS : String := "java/lang/IllegalStateException"
theorem th1_IA : ∀ w ∈ (vx_atS RS 207 eIA ["java/lang/RuntimeException", "java/lang/Exception"]).filter goodWord, w ∈ Wg := by decide +kernel
theorem th1_UO : ∀ w ∈ (vx_atS RS 39 eUO ["java/lang/RuntimeException", "java/lang/Exception"]).filter goodWord, w ∈ Wg := by decide +kernel
theorem th1_IS : ∀ w ∈ (vx_atS RS 237 eIS ["java/lang/RuntimeException", "java/lang/Exception"]).filter goodWord, w ∈ Wg := by decide +kernel
theorem th2_IA : ∀ w ∈ (vx_atS RS 207 eIA ["java/lang/RuntimeException", "java/lang/Exception"]).filter (fun w => !goodWord w), w ∈ Cond.castable eIA eIA :: pv_sup.map (fun N => Cond.declares (Bundle.initS N)) := by decide +kernel
theorem th2_UO : ∀ w ∈ (vx_atS RS 39 eUO ["java/lang/RuntimeException", "java/lang/Exception"]).filter (fun w => !goodWord w), w ∈ Cond.castable eUO eUO :: pv_sup.map (fun N => Cond.declares (Bundle.initS N)) := by decide +kernel
theorem th2_IS : ∀ w ∈ (vx_atS RS 237 eIS ["java/lang/RuntimeException", "java/lang/Exception"]).filter (fun w => !goodWord w), w ∈ Cond.castable eIS eIS :: pv_sup.map (fun N => Cond.declares (Bundle.initS N)) := by decide +kernel
theorem th3_IA : (vx_atS RS 207 eIA ["java/lang/RuntimeException", "java/lang/Exception"]).all vx_ot = true := by decide +kernel
theorem th3_UO : (vx_atS RS 39 eUO ["java/lang/RuntimeException", "java/lang/Exception"]).all vx_ot = true := by decide +kernel
theorem th3_IS : (vx_atS RS 237 eIS ["java/lang/RuntimeException", "java/lang/Exception"]).all vx_ot = true := by decide +kernel
section PKR
variable {l0 : Launch} {D : va_G} {tys : List (ClassId × FieldType)} {κ : pv_K} {cc : ByteArray} {own : String} {rm : Room} {nl : Nat} {cells slots : Nat} {LP : List Nat} {ks : List kT} {ρ : kT → Nat} {c : kT → va_E} {f0 : Nat → va_E} {pc : Nat} {lv : List (Nat × Value)} {st : List Value}
theorem pk_put (C : pv_C l0 D tys κ cc own rm nl) (H : kH ks ρ LP) {ref Cn : String} {Tb : u_T} {N ci index : Nat} (hin : ∀ w ∈ u_ws Cn Tb N, w ∈ Wg) (ty0 : Nat → FieldType) (hty : ∀ k, k < N → parseFieldDescriptor (Tb k).2.2.1 = some (ty0 k)) (hnm : ∀ a, a < N → ∀ b, b < N → a ≠ b → (Tb a).2.1 ≠ (Tb b).2.1) {key : kT} {fs : List Value} (hc : cls_[ci]? = some (Cn, Tb, N)) (hk : key ∈ ks) (hf : c key = .inr (ci, fs)) (k : Nat) (hkN : k < N) (hlk : Cond.fieldLink own index ref (Tb k).2.1 (Tb k).2.2.1 ∈ Wg) (hr : (Tb k).1 = ref) (hfin : (Tb k).2.2.2 = false) {v : Value} (hn : narrow (ty0 k) v = v) (hfit : fits (ty0 k) v = true) (hlen : k < fs.length) (d : decode cc pc = .ok (.putfield index, 3))
    (kk : pv_V D κ cells slots LP (kf ks ρ (ku c key (.inr (ci, fs.set k v))) f0) (pc + 3) lv st) : pv_V D κ cells slots LP (kf ks ρ c f0) pc lv (v :: .ref (ρ key) :: st) :=
  pv_put C hin ty0 hty hnm hc (H.1 _ hk) ((kf_at H hk).trans hf) k hkN hlk hr hfin hn hfit hlen d (by rw [kf_up H hk]; exact kk)
theorem pk_aast (C : pv_C l0 D tys κ cc own rm nl) (H : kH ks ρ LP) (t0 ci : Nat) {cA : ClassId} {r : vw_C} {n : Nat} {key kv : kT} {vs : List Value} {g : Nat → Option Nat} (ht : tys[t0]? = some (cA, .object r.1)) (hk : key ∈ ks) (hf : c key = .inl (cA, n, .inr (.inr (.inr (.inr g))))) (hv : kv ∈ ks) (hfv : c kv = .inr (ci, vs)) (hc : cls_[ci]? = some r) {i : Int32} {j : Nat} (hi : i = nI j) (hj : j < n) (hn : n < 2 ^ 31) (d : decode cc pc = .ok (.aastore, 1))
    (kk : pv_V D κ cells slots LP (kf ks ρ (ku c key (.inl (cA, n, .inr (.inr (.inr (.inr (va_up g j (some (ρ kv)))))))) ) f0) (pc + 1) lv st) : pv_V D κ cells slots LP (kf ks ρ c f0) pc lv (.ref (ρ kv) :: .int i :: .ref (ρ key) :: st) :=
  pv_aast C t0 ci ht (H.1 _ hk) ((kf_at H hk).trans hf) (H.1 _ hv) ((kf_at H hv).trans hfv) hc hi hj hn d (by rw [kf_up H hk]; exact kk)
theorem pk_fz {f1 f2 : Nat → va_E} (h : f1 = f2) (kk : pv_V D κ cells slots LP f2 pc lv st) : pv_V D κ cells slots LP f1 pc lv st := by
  subst h
  exact kk
end PKR
end
section
/-! NoSuchElementException(String): its constructor links its super's by another entry (13), so the printed throw row does not serve it; here its own, out of the library's laws (PassC.ofS_atoms, Bundle.chainS, Stand.ctorMessageOffV, Stand.athrowLeaves) -/
abbrev nx_up : String := "java/lang/RuntimeException"
def nx_at (own : String) (ic : Nat) : List Cond := Bundle.throwableAtoms ++ (Bundle.throwableSAtoms ++ (Bundle.passSAtoms eNS nx_up 13 prog_15_method_4_code ++ (Bundle.chainSAtoms nx_up ["java/lang/Exception"] ++
  [.methodLink own ic (Bundle.initS eNS), .instantiable eNS 6, .castable eNS eNS, .selects eNS Bundle.tFill0 Bundle.tFill0, .selects eNS Bundle.tFill Bundle.tFill,
   .lays eNS Bundle.tN "cause" "Ljava/lang/Throwable;", .lays eNS Bundle.tN "stackTrace" Bundle.steD, .lays eNS Bundle.tN "suppressedExceptions" Bundle.listD, .lays eNS Bundle.tN "detailMessage" "Ljava/lang/String;",
   .isRef (.static Bundle.tN "UNASSIGNED_STACK" Bundle.steD), .isRef (.static Bundle.tN "SUPPRESSED_SENTINEL" Bundle.listD),
   .fieldLink Bundle.tN 198 Bundle.tN "backtrace" "Ljava/lang/Object;", .lays Bundle.tN Bundle.tN "backtrace" "Ljava/lang/Object;", .lays eNS Bundle.tN "backtrace" "Ljava/lang/Object;"])))
theorem nx_in1 {own : String} {ic : Nat} {x : Cond} (h : x ∈ Bundle.throwableAtoms) : x ∈ nx_at own ic := List.mem_append_left _ h
theorem nx_in2 {own : String} {ic : Nat} {x : Cond} (h : x ∈ Bundle.throwableSAtoms) : x ∈ nx_at own ic := List.mem_append_right _ (List.mem_append_left _ h)
theorem nx_in3 {own : String} {ic : Nat} {x : Cond} (h : x ∈ Bundle.passSAtoms eNS nx_up 13 prog_15_method_4_code) : x ∈ nx_at own ic := List.mem_append_right _ (List.mem_append_right _ (List.mem_append_left _ h))
theorem nx_in4 {own : String} {ic : Nat} {x : Cond} (h : x ∈ Bundle.chainSAtoms nx_up ["java/lang/Exception"]) : x ∈ nx_at own ic := List.mem_append_right _ (List.mem_append_right _ (List.mem_append_right _ (List.mem_append_left _ h)))
theorem nx_in5 {own : String} {ic : Nat} {x : Cond} (h : x ∈ ([.methodLink own ic (Bundle.initS eNS), .instantiable eNS 6, .castable eNS eNS, .selects eNS Bundle.tFill0 Bundle.tFill0, .selects eNS Bundle.tFill Bundle.tFill,
   .lays eNS Bundle.tN "cause" "Ljava/lang/Throwable;", .lays eNS Bundle.tN "stackTrace" Bundle.steD, .lays eNS Bundle.tN "suppressedExceptions" Bundle.listD, .lays eNS Bundle.tN "detailMessage" "Ljava/lang/String;",
   .isRef (.static Bundle.tN "UNASSIGNED_STACK" Bundle.steD), .isRef (.static Bundle.tN "SUPPRESSED_SENTINEL" Bundle.listD),
   .fieldLink Bundle.tN 198 Bundle.tN "backtrace" "Ljava/lang/Object;", .lays Bundle.tN Bundle.tN "backtrace" "Ljava/lang/Object;", .lays eNS Bundle.tN "backtrace" "Ljava/lang/Object;"] : List Cond)) : x ∈ nx_at own ic := List.mem_append_right _ (List.mem_append_right _ (List.mem_append_right _ (List.mem_append_right _ h)))
section NX
variable {p : Program} {l : Launch} {e : Env} {R : Room} {s : State} {m₀ : MethodId} {args : Array Value} {below : List Frame} {meth : Method} {c : Code} {W9 : State} {locs : List Loc} {cells slots : Nat}
set_option maxHeartbeats 2000000 in
theorem nx_ctor (X : Stand p l e R s m₀ args below meth c W9 locs cells slots) (hexec : p.tables.exec = Jvm.exec) (htr : e.platform.stackTraces = false) {own : String} {ic : Nat}
    (hown : s.vm.findClass own = some m₀.cls) (h : ∀ a ∈ nx_at own ic, a.before args s = true) (hlocs : ∀ x ∈ locs, ∀ cell, s.heap[x.base]? = some cell → cell.vm.isStatics = false)
    {a : Addr} {cX : ClassId} {kX : Class} (hfX : s.vm.findClass eNS = some cX) (hkX : s.vm.classes[cX]? = some kX) (hcell : W9.heap[a]? = some (freshCell cX kX)) (hnew : s.heap.size ≤ a)
    {msg : Value} (hmsg : msg.isRef = true) {g : JFrame} (hg : g.method = m₀) (hsize : g.locals.size = c.maxLocals) (hlk : g.locked = none) (hen : g.entered = []) {rest : List Value} (hstack : g.stack = msg :: .ref a :: .ref a :: rest)
    (hd6 : decode c.code g.pc = .ok (.invokespecial ic, 3)) (hd9 : decode c.code (g.pc + 3) = .ok (.athrow, 1)) (hout : ∀ x ∈ c.exceptionTable.toList, covers x (g.pc + 3) = false)
    (hRf : 5 < R.frames) (hRl : 2 * g.monitorRoom + ((Value.ref a :: rest).map fun v => v.category).sum + 81 ≤ R.locals) (hlocks : meth.locks = false) :
    ∃ U : State, Steps p.tables e below (W9.setTop g) U ∧ U.status = .running ∧ Ended U below (.threw a) ∧ s.WarmedH U.vm ∧ s.sameButNew ({ U with vm := s.vm } : State) locs cells slots ∧ ∃ ce, U.heap[a]? = some ce ∧ ce.vm = .none ∧ s.vm.findClass eNS = some ce.cls := by
  have hpl : e.platform.magicAccessors = ({} : Platform).magicAccessors := by rw [X.admits.platform]
  have w : ∀ x, x ∈ nx_at own ic → x.holds args s none s [] = true := fun x hx => h x hx
  obtain ⟨T, Z0, L, -, Y⟩ := ThrowableC.of_atoms (args := args) (by rw [X.admits.platform]) (by rw [X.admits.platform]) hpl (fun x hx => h x (nx_in1 hx))
  obtain ⟨Z, M, LZ, LM, hnZ⟩ := Init0T.ofS_atoms (args := args) hpl L Y (fun x hx => h x (nx_in2 hx))
  obtain ⟨P1, L1, hP1, hP1s⟩ := PassC.ofS_atoms (args := args) (s := s) hpl (X := eNS) (Y := nx_up) (index := 13) (bytes := prog_15_method_4_code) (by decide) (by decide) (by decide +kernel) (by decide +kernel) (by decide +kernel) (by decide +kernel) (fun x hx => h x (nx_in3 hx))
  obtain ⟨P2, Ps, hlen, L2, hL, hP2, hsup, hpass⟩ := Bundle.chainS (args := args) hpl hnZ ["java/lang/Exception"] nx_up (by decide) (by decide) (fun x hx => h x (nx_in4 hx))
  have hfound : s.vm.findClass eNS = some P1.m.cls := findClass_of_methodNamed hP1
  cases Option.some.inj (hfX.symm.trans hfound)
  obtain ⟨c1, kX', hc1, hk, hord, -, -, hn6⟩ := Cond.instantiable_spec (w (.instantiable eNS 6) (nx_in5 (by simp)))
  cases Option.some.inj (hc1.symm.trans hfound)
  cases Option.some.inj (hkX.symm.trans hk)
  have hsel0 : selectMethod e.platform s.vm P1.m.cls T.fill0 = .method T.fill0 := by
    obtain ⟨c2, r2, m2, q1, q2, q3, q4, -⟩ := Cond.selects_spec (w (.selects eNS Bundle.tFill0 Bundle.tFill0) (nx_in5 (by simp)))
    cases Option.some.inj (q1.symm.trans hfound)
    cases Option.some.inj (q2.symm.trans (State.methodFound?_of_named Y.fill0 (by decide)))
    cases Option.some.inj (q3.symm.trans Y.fill0)
    rw [Launch.admits_selectMethod X.admits]; exact q4
  have hselF : selectMethod e.platform s.vm P1.m.cls T.fill = .method T.fill := by
    obtain ⟨c2, r2, m2, q1, q2, q3, q4, -⟩ := Cond.selects_spec (w (.selects eNS Bundle.tFill Bundle.tFill) (nx_in5 (by simp)))
    cases Option.some.inj (q1.symm.trans hfound)
    cases Option.some.inj (q2.symm.trans (State.methodFound?_of_named Y.fill (by decide)))
    cases Option.some.inj (q3.symm.trans Y.fill)
    rw [Launch.admits_selectMethod X.admits]; exact q4
  obtain ⟨S0, hS0, hst⟩ := Y.statics
  obtain ⟨u0, hu0⟩ := Cond.staticRefV Y.unassigned L.unassignedStatic L.statics hS0 hst (w (.isRef (.static Bundle.tN "UNASSIGNED_STACK" Bundle.steD)) (nx_in5 (by simp)))
  obtain ⟨sen, hsen⟩ := Cond.staticRefV Y.sentinel L.sentinelStatic L.statics hS0 hst (w (.isRef (.static Bundle.tN "SUPPRESSED_SENTINEL" Bundle.listD)) (nx_in5 (by simp)))
  obtain ⟨cb, ib, fB, hkb, hgb, hab, hsB, -, hnB, htB, hffB⟩ := Cond.ownField (t := .object "java/lang/Object") Y.found L.cls (by decide +kernel) (w (.fieldLink Bundle.tN 198 Bundle.tN "backtrace" "Ljava/lang/Object;") (nx_in5 (by simp))) (w (.lays Bundle.tN Bundle.tN "backtrace" "Ljava/lang/Object;") (nx_in5 (by simp))) e.platform hpl
  obtain ⟨S1, hS1, heS, -, hkeep⟩ := X.same.2.2.2.2.2 T.aS S0 hS0
  have hS1' : W9.heap[T.aS]? = some S1 := hS1
  have hno : ∀ i, (⟨T.aS, i⟩ : Loc) ∉ locs := fun i hm => by
    have := hlocs _ hm S0 hS0
    rw [hst] at this; cases this
  have hkS : S1.vm ≠ .unknown := by
    rw [heS]; intro hu
    rw [show S0.vm = .unknown from hu] at hst
    cases hst
  have hne : T.aS ≠ a := Nat.ne_of_lt (Nat.lt_of_lt_of_le (Array.getElem?_eq_some_iff.mp hS0).1 hnew)
  obtain ⟨iM, hffM⟩ := Y.msg
  obtain ⟨tyC, dC, hdC, hdnC⟩ := Cond.laysAt hfound hk Y.cause (w (.lays eNS Bundle.tN "cause" "Ljava/lang/Throwable;") (nx_in5 (by simp)))
  obtain ⟨tyS, dS, hdS, hdnS⟩ := Cond.laysAt hfound hk Y.stack (w (.lays eNS Bundle.tN "stackTrace" Bundle.steD) (nx_in5 (by simp)))
  obtain ⟨tyP, dP, hdP, hdnP⟩ := Cond.laysAt hfound hk Y.supp (w (.lays eNS Bundle.tN "suppressedExceptions" Bundle.listD) (nx_in5 (by simp)))
  obtain ⟨tyM, dM, hdM, hdnM⟩ := Cond.laysAt hfound hk hffM (w (.lays eNS Bundle.tN "detailMessage" "Ljava/lang/String;") (nx_in5 (by simp)))
  obtain ⟨tyB, dB, hdB, hdnB⟩ := Cond.laysAt hfound hk hffB (w (.lays eNS Bundle.tN "backtrace" "Ljava/lang/Object;") (nx_in5 (by simp)))
  have bC := Cond.laysApart hdB hdC hdnB hdnC (by rw [hnB, Y.causeName]; decide)
  have bS := Cond.laysApart hdB hdS hdnB hdnS (by rw [hnB, Y.stackName]; decide)
  have bP := Cond.laysApart hdB hdP hdnB hdnP (by rw [hnB, Y.suppName]; decide)
  have hskip : SkipFacts T e.platform s (fun u => u) u0 ((preparedCellV T.toThrowableT (freshCell P1.m.cls kX) a u0 sen).withEntry W9.cur) :=
    ⟨{ ci198 := cb, i198 := ib, fBack := fB }, ⟨hkb, hgb, hab, hsB⟩, by
      have := fresh_default (c := P1.m.cls) tyB
      rw [htB] at this
      simpa [preparedCellV, Cell.setSlot, Cell.withEntry, Array.getElem?_setIfInBounds, bC, bS, bP, bC.symm, bS.symm, bP.symm, defaultValue] using this, fun _ _ => rfl⟩
  obtain ⟨tm, methC, cdC, kC, vm₁, hnC, -, -, -, -, -, -, -, hW₁, st1⟩ := Steps.initColdS (tb := p.tables) (e := e) (below := below) (s := s) (U := W9) X.here hexec X.warmed hpl hown (t := Bundle.initS eNS) rfl rfl (by decide)
    (w (.methodLink own ic (Bundle.initS eNS)) (nx_in5 (by simp))) (h (.instanceMethod (Bundle.initS eNS)) (nx_in3 (by simp [Bundle.passSAtoms]))) (bytes := prog_15_method_4_code) (maxL := 2) (h (.code (Bundle.initS eNS) prog_15_method_4_code 2 none) (nx_in3 (by simp [Bundle.passSAtoms])))
    (f := g) hg (a := a) (msg := msg) (rest := .ref a :: rest) hstack hd6
  cases Option.some.inj (hnC.symm.trans hP1)
  have X₁ := X.noted hW₁
  have hlink : PassesOn (Z.m T.toThrowableT) ((P1 :: P2 :: Ps).map (·.toPassT)) := ⟨Option.some.inj (hP1s.symm.trans hP2), hsup, hpass⟩
  obtain ⟨vm₂, X₂, st2⟩ := X₁.ctorMessageOffV hexec (g := { g with stack := .ref a :: rest }) hg hsize T L Z LZ M LM (P1 :: P2 :: Ps)
    (fun P hP => by
      rcases List.mem_cons.mp hP with rfl | hP
      · exact L1
      · rcases List.mem_cons.mp hP with rfl | hP
        · exact L2
        · exact hL P hP) hlink (u0 := u0) (sen := sen) (self := a) hmsg (cell := freshCell P1.m.cls kX) (cellS := S1)
    hcell (fun _ => by simp) (by simp) rfl rfl hsel0 hselF hS1' hne hkS (by rw [hkeep _ (hno _)]; exact hu0) (by rw [hkeep _ (hno _)]; exact hsen)
    (Takes.of_laid hk hord tyC (by rw [Y.causeType]; rfl)) (Takes.of_laid hk hord tyS (by rw [Y.stackType]; exact fits_refV_array _ u0)) (Takes.of_laid hk hord tyP (by rw [Y.suppType]; exact fits_refV_object _ sen))
    (Takes.of_laid hk hord tyM (by rw [Y.msgType]; exact fits_refV_object _ ⟨msg, hmsg⟩)) Y.objLocals hskip htr [] hd6
    (by simp only [List.length_cons, hlen, List.length_nil]; omega) (by simp only [List.length_cons, hlen, List.length_nil]; exact hRl)
  obtain ⟨hwalk, hrun, hended, hWU, hsame⟩ := X₂.athrowLeaves hexec (g := { g with stack := .ref a :: rest, pc := g.pc + 3 }) hg hlk hen hout (a := a) (rest := rest) rfl hd9 hlocks
  have hlt : a < ((W9.setVm vm₁).setVm vm₂).heap.size := (Array.getElem?_eq_some_iff.mp hcell).1
  have hU := heapAt_setCell_self (s := (W9.setVm vm₁).setVm vm₂) (plainBareV T.toThrowableT (freshCell P1.m.cls kX) a u0 sen msg) hlt
  refine ⟨_, st1 _ (fun acts => ?_), hrun, hended, hWU, hsame.weaken (fun y hy hlt' => ?_) (Nat.le_refl _) (Nat.le_refl _), _, hU, rfl, hfound⟩
  · rw [doInvoke_state]
    exact st2 _ hwalk
  · rcases List.mem_append.mp hy with h1 | h1
    · exact h1
    · exfalso
      have hb : y.base = a := by
        simp only [List.mem_cons, List.not_mem_nil, or_false] at h1
        rcases h1 with rfl | rfl | rfl | rfl | rfl <;> rfl
      rw [hb] at hlt'
      exact Nat.not_lt.mpr hnew hlt'
end NX
section NXT
variable {p : Program} {l : Launch} {e : Env} {R : Room} {s : State} {m : MethodId} {args : Array Value} {below : List Frame} {meth : Method} {c : Code} {H : Heap} {locs : List Loc} {cells slots : Nat} {Q : State → Prop}
variable {mc ms : Nat} {free : Addr → Prop} {A0 A1 : Nat → Prop} {H0 : Heap} {a : Array Value} {ls : Array Slot} {st0 rest : List Value}
variable {Qc : Array Value → State → Outcome → State → Prop} {XC : String → State → State → Prop}
/-- 'throw new NoSuchElementException("text")' (the printed row vx_throwS, turned to nx_ctor) -/
theorem nx_throw {cc : ByteArray} {pc : Nat} (hexec : p.tables.exec = Jvm.exec) (hb : c.code = cc) (hl : l.stackTraces = false) {own text : String} {ik is ic mc ms sa : Nat} {A : Nat → Prop}
    (hown : s.vm.findClass own = some m.cls)
    (hk : (Cond.classLink own ik eNS).before args s = true) (hini : (Cond.initialized eNS).before args s = true) (hstr : vk_R own is text sa s) (hat : ∀ w ∈ (nx_at own ic).filter vx_no, w.before args s = true)
    (hgood : ∀ w ∈ Cond.classLink own ik eNS :: Cond.initialized eNS :: (nx_at own ic).filter vx_no, vx_ot w = true)
    (hU : vx_Zq Bundle.tN "UNASSIGNED_STACK" Bundle.steD A s s.heap) (hN : vx_Zq Bundle.tN "SUPPRESSED_SENTINEL" Bundle.listD A s s.heap) (hS : va_S A s.heap H locs) (hsize : ls.size = c.maxLocals)
    (d0 : decode cc pc = .ok (.new ik, 3)) (d3 : decode cc (pc + 3) = .ok (.dup, 1)) (d4 : decode cc (pc + 4) = .ok (.ldc is, 2)) (d6 : decode cc (pc + 6) = .ok (.invokespecial ic, 3)) (d9 : decode cc (pc + 9) = .ok (.athrow, 1))
    (hout : ∀ x ∈ c.exceptionTable.toList, covers x (pc + 9) = false)
    (hRframes : 5 < R.frames) (hRlocals : (rest.map fun v => v.category).sum + 82 ≤ R.locals) (hRcells : cells + 1 ≤ R.cells) (hRslots : slots + 6 ≤ R.slots) (hlocks : meth.locks = false)
    (hx : ∀ t : State, s.vm.Alike t.vm → H.size ≤ t.heap.size → (∀ q : Nat, q < H.size → t.heap[q]? = H[q]?) → XC eNS s t)
    (hf : ∀ z ∈ locs, free z.base) (hc : cells + 1 ≤ mc) (hs : slots + 6 ≤ ms) :
    W p l e R s m args below meth c H locs cells slots (vx_MQ below Qc XC args s mc ms free) (F0 m pc ls rest) := by
  intro T hT X
  have htr : e.platform.stackTraces = false := (show e.platform.stackTraces = l.stackTraces by rw [X.admits.platform]).trans hl
  have Y := vx_rebase X (R' := { frames := R.frames, locals := R.locals, cells := 1, slots := 6 }) (Nat.le_refl _) (Nat.le_refl _) hRcells hRslots
  obtain ⟨s', hA⟩ : ∃ z, z = (T.setVm s.vm).setFrames (.invoking m args :: below) := ⟨_, rfl⟩
  rw [← hA] at Y
  have hvm : s'.vm = s.vm := by rw [hA]; rfl
  have hhp : s'.heap = H := by rw [hA]; exact hT
  have hW0 : s.WarmedH s'.vm := by rw [hvm]; exact State.WarmedH.refl s
  have hat' : ∀ w ∈ (nx_at own ic).filter vx_no, w.before args s' = true := fun w hw => vx_ot_at hW0 hvm.symm (hgood w (List.mem_cons_of_mem _ (List.mem_cons_of_mem _ hw))) (hat w hw)
  have hk' : (Cond.classLink own ik eNS).before args s' = true := vx_ot_at hW0 hvm.symm (hgood _ List.mem_cons_self) hk
  have hini' : (Cond.initialized eNS).before args s' = true := vx_ot_at hW0 hvm.symm (hgood _ (List.mem_cons_of_mem _ List.mem_cons_self)) hini
  have hU' : vx_Zq Bundle.tN "UNASSIGNED_STACK" Bundle.steD A s' s'.heap := by rw [hhp]; exact vx_Zq.moved hW0.alike (hU.kept hS.2.1)
  have hN' : vx_Zq Bundle.tN "SUPPRESSED_SENTINEL" Bundle.listD A s' s'.heap := by rw [hhp]; exact vx_Zq.moved hW0.alike (hN.kept hS.2.1)
  have h : ∀ w ∈ nx_at own ic, w.before args s' = true := vx_own hat' (vx_isRefq hU'.1) (vx_isRefq hN'.1) hU'.2.word hN'.2.word
  have hown' : s'.vm.findClass own = some m.cls := by rw [hvm]; exact hown
  have hins : (Cond.instantiable eNS 6).before args s' = true := h _ (nx_in5 (by simp))
  obtain ⟨vm₁, cX, kX, hfX, hkX, -, -, X₁, st1⟩ := Y.newCold hexec (own := own) (C := eNS) (index := ik) (n := 6) hown' hk' hins hini'
    (g := F0 m pc ls rest) rfl (by rw [hb]; exact d0) (Nat.le_refl _) (Nat.le_refl _)
  generalize hT1 : (T.setVm vm₁).pushCell { cls := cX, slots := kX.instanceTypes.map defaultValue, vm := .none } = T1 at X₁ st1
  have hcat : (Value.ref T.heap.size).category = 1 := rfl
  have hcellA : T1.heap[T.heap.size]? = some (freshCell cX kX) := by rw [← hT1]; exact State.heap_pushCell_size _ _
  have d3' : decode c.code (pc + 3) = .ok (.dup, 1) := by rw [hb]; exact d3
  have d4' : decode c.code (pc + 4) = .ok (.ldc is, 2) := by rw [hb]; exact d4
  have hstr' : vk_R own is text sa s' := vk_R.warm hW0 hstr
  obtain ⟨U, hsteps, hrun, hend, hW, hsame, ce, hce, hOv, hOc⟩ := nx_ctor X₁ hexec htr (own := own) (ic := ic) hown' h (fun x hx => nomatch hx) hfX hkX hcellA (by rw [hhp, hT]; exact Nat.le_refl _) (msg := .ref sa) rfl
    (g := { method := m, pc := pc + 6, locals := ls, stack := .ref sa :: .ref T.heap.size :: .ref T.heap.size :: rest, locked := none }) rfl hsize rfl rfl (rest := rest) rfl
    (by rw [hb]; exact d6) (by rw [hb]; exact d9) hout hRframes (by simp only [List.map_cons, List.sum_cons, hcat]; omega) hlocks
  obtain ⟨f1, f2⟩ := vx_frame hsame
  rw [hhp] at f1 f2
  have hWs : s.WarmedH U.vm := State.WarmedH.trans hW0 hW
  have hcl : s.vm.findClass eNS = some ce.cls := by
    have h9 := hOc
    rw [hvm] at h9
    exact h9
  have hall : s.sameButNew ({ U with vm := s.vm } : State) locs mc ms := by
    subst hA
    obtain ⟨e1, e2⟩ := hsame
    rw [State.setFrames_setFrames] at e1
    have h2 : (T.setVm s.vm).sameButNew ({ U with vm := s.vm } : State) [] (0 + 1) (0 + 6) := ⟨e1, e2⟩
    have h3 := X.same.trans h2
    rw [List.append_nil] at h3
    exact h3.mono hc hs
  refine ⟨U, ?_, .threw T.heap.size, hrun, hend, Or.inr ⟨T.heap.size, rfl, eNS, ce, locs, hx U hWs.alike f1 (fun q hq => f2 q hq (fun z hz => nomatch hz)), hce, hOv, hcl, hWs, hall, hf⟩⟩
  refine st1 _ ?_
  show Steps p.tables e below (T1.setTop { method := m, pc := pc + 3, locals := ls, stack := .ref T.heap.size :: rest, locked := none }) _
  jvm_step X₁.here [X₁.here.top, hexec, d3', Value.category]
  exact X₁.ldcString hexec (own := own) (text := text) (index := is) (a := sa) hown' hstr'.1 hstr'.2
    (g := { method := m, pc := pc + 4, locals := ls, stack := .ref T.heap.size :: .ref T.heap.size :: rest, locked := none }) rfl d4' _ hsteps
end NXT
theorem th1_NS : ∀ w ∈ ((nx_at RS 242).filter vx_no).filter goodWord, w ∈ Wg := by decide +kernel
theorem th2_NS : ∀ w ∈ ((nx_at RS 242).filter vx_no).filter (fun w => !goodWord w), w ∈ Cond.castable eNS eNS :: pv_sup.map (fun N => Cond.declares (Bundle.initS N)) := by decide +kernel
theorem th3_NS : ((nx_at RS 242).filter vx_no).all vx_ot = true := by decide +kernel
section PWN
variable {l0 : Launch} {D : va_G} {tys : List (ClassId × FieldType)} {κ : pv_K} {cc : ByteArray} {own : String} {rm : Room} {nl : Nat} {cells slots : Nat} {LP : List Nat} {f : Nat → va_E} {pc : Nat} {lv lv' : List (Nat × Value)} {st : List Value}
/-- throw new E("text") in a method that has changed nothing yet -/
theorem pv_throwN (C : pv_C l0 D tys κ cc own rm nl) {P0 : Option Value → List Nat → (Nat → va_E) → Prop} {X0 : String → Prop} {LP0 : List Nat} {f0 : Nat → va_E} {ret0 : Option FieldType} {text : String} {ik is ic : Nat} (hN : pv_N κ) (R0 : pv_R κ D LP f P0 X0 ret0) (hk : Cond.classLink own ik eNS ∈ Wg) (hini : Cond.initialized eNS ∈ Wg) (hown : own = RS) (htx : (is, text) ∈ pv_strs)
    (h1 : ∀ w ∈ ((nx_at own ic).filter vx_no).filter goodWord, w ∈ Wg) (h2 : ∀ w ∈ ((nx_at own ic).filter vx_no).filter (fun w => !goodWord w), w ∈ Cond.castable eNS eNS :: pv_sup.map (fun N => Cond.declares (Bundle.initS N))) (h3 : ((nx_at own ic).filter vx_no).all vx_ot = true)
    (d0 : decode cc pc = .ok (.new ik, 3)) (d3 : decode cc (pc + 3) = .ok (.dup, 1)) (d4 : decode cc (pc + 4) = .ok (.ldc is, 2)) (d6 : decode cc (pc + 6) = .ok (.invokespecial ic, 3)) (d9 : decode cc (pc + 9) = .ok (.athrow, 1))
    (hfr : 5 < rm.frames) (hlo : (st.map fun v => v.category).sum + 82 ≤ rm.locals) (hc : cells + 1 ≤ rm.cells) (hs : slots + 6 ≤ rm.slots) (hX : X0 eNS) : pv_V D κ cells slots LP f pc lv st := by
  obtain ⟨p, l, e, R, s, m, args, below, meth, c, A, nL, Q⟩ := κ
  obtain ⟨hx, hb, hml, hown9, hts, hK, hA, hRe, hnl, hlocks, hE, htr, hl0⟩ := C
  obtain ⟨hr0, hQ, hAe⟩ := R0
  subst hRe
  subst hQ
  subst hAe
  subst hown
  intro H locs ls hP hD hS hl
  obtain ⟨sa, hsa⟩ := hE.2.2.1 _ htx
  refine nx_throw (text := text) (sa := sa) hx hb htr hown9 (hts _ hk) (hts _ hini) hsa ?_ ?_ hE.1 hE.2.1 hS (by rw [hml]; exact hl.1) d0 d3 d4 d6 d9 (fun x hx => (hN x hx).elim) hfr hlo hc hs hlocks ?_ hS.2.2 hc hs
  · refine vx_hat (fun w hw => hts _ (h1 w hw)) (B := Cond.castable eNS eNS :: pv_sup.map (fun N => Cond.declares (Bundle.initS N))) h2 (pv_nw hE (by decide))
  · intro w hw
    rcases List.mem_cons.mp hw with q | hw
    · rw [q]; rfl
    · rcases List.mem_cons.mp hw with q | hw
      · rw [q]; rfl
      · exact List.all_eq_true.mp h3 w hw
  · intro t hW hz hk9
    refine ⟨hX, fun k q hq => (hP k q hq).kept (hk9 q.1 ((hP k q hq).lt)), Nat.le_trans hS.1 hz, fun q h1 h2 => ?_⟩
    rw [hk9 q (Nat.lt_of_lt_of_le h1 hS.1)]
    exact hS.2.1 q h1 h2
end PWN
end
section
/-! contracts of the component: helpers (by wip/whole/gen/c1.py, c2.py, cwalk.py) -/
theorem bN_fit (b : Bool) : fits .boolean (.int (bN b)) = true := by cases b <;> rfl
theorem gA_at {ρ : kT → Nat} {z : zT} {i : Nat} (h1 : 1 ≤ i) (h2 : i ≤ zA z) : gA ρ z (i - 1) = some (ρ (1, i)) := by
  unfold gA
  rw [if_pos (by omega), show i - 1 + 1 = i by omega]
theorem gU_at {ρ : kT → Nat} {z : zT} {i : Nat} (h1 : 1 ≤ i) (h2 : i ≤ zU z) : gU ρ z (i - 1) = some (ρ (4, i)) := by
  unfold gU
  rw [if_pos (by omega), show i - 1 + 1 = i by omega]
theorem gD_at {ρ : kT → Nat} {z : zT} {i : Nat} (h : i < zD z) : gD ρ z i = some (ρ (3, ix (z 30 i))) := if_pos h
theorem gL_at {ρ : kT → Nat} {z : zT} {i j : Nat} (h : j < zt z i) : gL ρ z i j = some (ρ (3, 4 * i + j)) := if_pos h
theorem pr_ix {a : Int32} (h : a = nI (ix a)) (h1 : 1 ≤ ix a) : a - 1 = nI (ix a - 1) := by
  obtain ⟨w, hw⟩ : ∃ w, ix a = w + 1 := ⟨ix a - 1, by omega⟩
  rw [hw] at h ⊢
  rw [h, nI_pred, Nat.add_sub_cancel]
abbrev rm_S_mustBeWithin : Room := { frames := 6, cells := 1, slots := 6, locals := 90 }
set_option maxRecDepth 100000 in
set_option maxHeartbeats 4000000 in
theorem c_S_mustBeWithin {l0 : Launch} {D : va_G} {γ : Nat → ClassId} (hl0 : l0.stackTraces = false) {LP : List Nat} {f : Nat → va_E} (n lo hi : Int32)  : pv_M l0 D (tys_ γ) y_S_mustBeWithin (Cond.code y_S_mustBeWithin b_S_mustBeWithin 3 (Option.none : Option FieldType)) rm_S_mustBeWithin [.int n, .int lo, .int hi] LP f (fun w LP1 f1 => rdP LP f none w LP1 f1 ∧ inB n lo hi = true) (fun E => E = eIA ∧ inB n lo hi = false) := by
  refine pv_mk hl0 (by decide) (Nat.le_of_ble_eq_true rfl) (fun κ C R0 hN _ => ?_)
  show pv_V D κ 0 0 LP f 0 [(0, .int n), (1, .int lo), (2, .int hi)] []
  refine pv_iload_n C d_S_mustBeWithin_0 rfl 0 rfl ?_
  refine pv_iload_n C d_S_mustBeWithin_1 rfl 1 rfl ?_
  refine pv_icmp_lt (tgt := 10) C d_S_mustBeWithin_2 (by decide) (fun h1 => ?_) (fun h1 => ?_)
  · exact pv_throw (LP0 := []) (f0 := fun _ => .inr (0, [])) (text := "a number outside its range") C hN R0 (by decide) (by decide) kl_S_203 in_IllegalArgumentException rfl (by decide) th1_IA th2_IA th3_IA d_S_mustBeWithin_10 d_S_mustBeWithin_13 d_S_mustBeWithin_14 d_S_mustBeWithin_16 d_S_mustBeWithin_19 (by decide) (Nat.le_of_ble_eq_true rfl) (by decide) (by decide) (⟨rfl, by simp [inB, ← Int32.not_lt, h1]⟩)
  · refine pv_iload_n C d_S_mustBeWithin_5 rfl 0 rfl ?_
    refine pv_iload_n C d_S_mustBeWithin_6 rfl 2 rfl ?_
    refine pv_icmp_le (tgt := 20) C d_S_mustBeWithin_7 (by decide) (fun h2 => ?_) (fun h2 => ?_)
    · exact pv_vret C R0 d_S_mustBeWithin_20 (by decide) (by decide) ⟨⟨rfl, rfl, rfl⟩, by simp [inB, ← Int32.not_lt, h1, h2]⟩
    · exact pv_throw (LP0 := []) (f0 := fun _ => .inr (0, [])) (text := "a number outside its range") C hN R0 (by decide) (by decide) kl_S_203 in_IllegalArgumentException rfl (by decide) th1_IA th2_IA th3_IA d_S_mustBeWithin_10 d_S_mustBeWithin_13 d_S_mustBeWithin_14 d_S_mustBeWithin_16 d_S_mustBeWithin_19 (by decide) (Nat.le_of_ble_eq_true rfl) (by decide) (by decide) (⟨rfl, by simp [inB, ← Int32.not_lt, h1, h2]⟩)
abbrev rm_S_mustHold : Room := { frames := 6, cells := 1, slots := 6, locals := 90 }
set_option maxRecDepth 100000 in
set_option maxHeartbeats 4000000 in
theorem c_S_mustHold {l0 : Launch} {D : va_G} {γ : Nat → ClassId} (hl0 : l0.stackTraces = false) {LP : List Nat} {f : Nat → va_E} (b : Bool)  : pv_M l0 D (tys_ γ) y_S_mustHold (Cond.code y_S_mustHold b_S_mustHold 1 (Option.none : Option FieldType)) rm_S_mustHold [.int (bN b)] LP f (fun w LP1 f1 => rdP LP f none w LP1 f1 ∧ b = true) (fun E => E = eIS ∧ b = false) := by
  refine pv_mk hl0 (by decide) (Nat.le_of_ble_eq_true rfl) (fun κ C R0 hN _ => ?_)
  show pv_V D κ 0 0 LP f 0 [(0, .int (bN b))] []
  refine pv_iload_n C d_S_mustHold_0 rfl 0 rfl ?_
  refine pv_ifb_ne (tgt := 14) C d_S_mustHold_1 (by decide) (fun h1 => ?_) (fun h1 => ?_)
  · exact pv_vret C R0 d_S_mustHold_14 (by decide) (by decide) ⟨⟨rfl, rfl, rfl⟩, by exact h1⟩
  · exact pv_throw (LP0 := []) (f0 := fun _ => .inr (0, [])) (text := "not as it is now") C hN R0 (by decide) (by decide) kl_S_233 in_IllegalStateException rfl (by decide) th1_IS th2_IS th3_IS d_S_mustHold_4 d_S_mustHold_7 d_S_mustHold_8 d_S_mustHold_10 d_S_mustHold_13 (by decide) (Nat.le_of_ble_eq_true rfl) (by decide) (by decide) (⟨rfl, h1⟩)
abbrev rm_S_bitOf : Room := { frames := 0, cells := 0, slots := 0, locals := 0 }
set_option maxRecDepth 100000 in
set_option maxHeartbeats 4000000 in
theorem c_S_bitOf {l0 : Launch} {D : va_G} {γ : Nat → ClassId} (hl0 : l0.stackTraces = false) {LP : List Nat} {f : Nat → va_E} (p : Int32)  : pv_M l0 D (tys_ γ) y_S_bitOf (Cond.code y_S_bitOf b_S_bitOf 1 (Option.some FieldType.int)) rm_S_bitOf [.int p] LP f (rdP LP f (some (.int (bitI p)))) (fun _ => False) := by
  refine pv_mk hl0 (by decide) (Nat.le_of_ble_eq_true rfl) (fun κ C R0 hN _ => ?_)
  show pv_V D κ 0 0 LP f 0 [(0, .int p)] []
  refine pv_iconst (v := 1) C d_S_bitOf_0 (by decide) ?_
  refine pv_iload_n C d_S_bitOf_1 rfl 0 rfl ?_
  refine pv_ishl C d_S_bitOf_2 ?_
  exact pv_iret C R0 d_S_bitOf_3 (by decide) (by decide) ⟨by rfl, rfl, rfl⟩
abbrev rm_A_hasArrived : Room := { frames := 0, cells := 0, slots := 0, locals := 0 }
set_option maxRecDepth 100000 in
set_option maxHeartbeats 4000000 in
theorem c_A_hasArrived {l0 : Launch} {D : va_G} {γ : Nat → ClassId} (hl0 : l0.stackTraces = false) {LP : List Nat} {ks : List kT} {ρ : kT → Nat} {z : zT} {x : xT} {f0 : Nat → va_E} (J : cI LP ks ρ z x) (i : Nat) (hi : 1 ≤ i ∧ i ≤ zA z) : pv_M l0 D (tys_ γ) y_A_hasArrived (Cond.code y_A_hasArrived b_A_hasArrived 1 (Option.some FieldType.boolean)) rm_A_hasArrived [.ref (ρ (1, i))] LP (cF γ ks ρ z x f0) (rdP LP (cF γ ks ρ z x f0) (some (.int (bN (decide (z 7 i = 1)))))) (fun _ => False) := by
  refine pv_mk hl0 (by decide) (Nat.le_of_ble_eq_true rfl) (fun κ C R0 hN _ => ?_)
  obtain ⟨H, hV, hz, hJ⟩ := id J
  have M0 : ((0, 0) : kT) ∈ ks := (hV _).mpr (Nat.zero_le _)
  have M1 : ((0, 1) : kT) ∈ ks := (hV _).mpr (by decide : 1 ≤ 3)
  have M2 : ((0, 2) : kT) ∈ ks := (hV _).mpr (by decide : 2 ≤ 3)
  have M3 : ((0, 3) : kT) ∈ ks := (hV _).mpr (by decide : 3 ≤ 3)
  show pv_V D κ 0 0 LP (cF γ ks ρ z x f0) 0 [(0, .ref (ρ (1, i)))] []
  have MA : ((1, i) : kT) ∈ ks := (hV _).mpr hi
  have ML : ((2, i) : kT) ∈ ks := (hV _).mpr hi
  refine pv_aload_n C d_A_hasArrived_0 rfl 0 rfl ?_
  refine pv_get (v := .int (z 7 i)) (ci := 0) C hin_A rfl (H.1 _ MA) ((kf_at H MA).trans rfl) 5 (by decide) fl_A_27 rfl rfl d_A_hasArrived_1 ?_
  refine pv_iconst (v := 1) C d_A_hasArrived_4 (by decide) ?_
  refine pv_icmp_ne (tgt := 12) C d_A_hasArrived_5 (by decide) (fun h1 => ?_) (fun h1 => ?_)
  · refine pv_iconst (v := 0) C d_A_hasArrived_12 (by decide) ?_
    exact pv_zret C rfl R0 d_A_hasArrived_13 (by decide) (by decide) ⟨by simp [bN, h1], rfl, rfl⟩
  · refine pv_iconst (v := 1) C d_A_hasArrived_8 (by decide) ?_
    refine pv_goto (tgt := 13) C d_A_hasArrived_9 (by decide) ?_
    exact pv_zret C rfl R0 d_A_hasArrived_13 (by decide) (by decide) ⟨by simp [bN, h1], rfl, rfl⟩
abbrev rm_A_hasAllLines : Room := { frames := 0, cells := 0, slots := 0, locals := 0 }
set_option maxRecDepth 100000 in
set_option maxHeartbeats 4000000 in
theorem c_A_hasAllLines {l0 : Launch} {D : va_G} {γ : Nat → ClassId} (hl0 : l0.stackTraces = false) {LP : List Nat} {ks : List kT} {ρ : kT → Nat} {z : zT} {x : xT} {f0 : Nat → va_E} (J : cI LP ks ρ z x) (i : Nat) (hi : 1 ≤ i ∧ i ≤ zA z) : pv_M l0 D (tys_ γ) y_A_hasAllLines (Cond.code y_A_hasAllLines b_A_hasAllLines 1 (Option.some FieldType.boolean)) rm_A_hasAllLines [.ref (ρ (1, i))] LP (cF γ ks ρ z x f0) (rdP LP (cF γ ks ρ z x f0) (some (.int (bN (decide (z 5 i ≤ z 6 i) || decide (4 ≤ z 6 i)))))) (fun _ => False) := by
  refine pv_mk hl0 (by decide) (Nat.le_of_ble_eq_true rfl) (fun κ C R0 hN _ => ?_)
  obtain ⟨H, hV, hz, hJ⟩ := id J
  have M0 : ((0, 0) : kT) ∈ ks := (hV _).mpr (Nat.zero_le _)
  have M1 : ((0, 1) : kT) ∈ ks := (hV _).mpr (by decide : 1 ≤ 3)
  have M2 : ((0, 2) : kT) ∈ ks := (hV _).mpr (by decide : 2 ≤ 3)
  have M3 : ((0, 3) : kT) ∈ ks := (hV _).mpr (by decide : 3 ≤ 3)
  show pv_V D κ 0 0 LP (cF γ ks ρ z x f0) 0 [(0, .ref (ρ (1, i)))] []
  have MA : ((1, i) : kT) ∈ ks := (hV _).mpr hi
  have ML : ((2, i) : kT) ∈ ks := (hV _).mpr hi
  refine pv_aload_n C d_A_hasAllLines_0 rfl 0 rfl ?_
  refine pv_get (v := .int (z 6 i)) (ci := 0) C hin_A rfl (H.1 _ MA) ((kf_at H MA).trans rfl) 4 (by decide) fl_A_33 rfl rfl d_A_hasAllLines_1 ?_
  refine pv_aload_n C d_A_hasAllLines_4 rfl 0 rfl ?_
  refine pv_get (v := .int (z 5 i)) (ci := 0) C hin_A rfl (H.1 _ MA) ((kf_at H MA).trans rfl) 2 (by decide) fl_A_18 rfl rfl d_A_hasAllLines_5 ?_
  refine pv_icmp_ge (tgt := 23) C d_A_hasAllLines_8 (by decide) (fun h1 => ?_) (fun h1 => ?_)
  · refine pv_iconst (v := 1) C d_A_hasAllLines_23 (by decide) ?_
    refine pv_goto (tgt := 28) C d_A_hasAllLines_24 (by decide) ?_
    exact pv_zret C rfl R0 d_A_hasAllLines_28 (by decide) (by decide) ⟨by simp [bN, ← Int32.not_lt, h1], rfl, rfl⟩
  · refine pv_aload_n C d_A_hasAllLines_11 rfl 0 rfl ?_
    refine pv_get (v := .int (z 6 i)) (ci := 0) C hin_A rfl (H.1 _ MA) ((kf_at H MA).trans rfl) 4 (by decide) fl_A_33 rfl rfl d_A_hasAllLines_12 ?_
    refine pv_aload_n C d_A_hasAllLines_15 rfl 0 rfl ?_
    refine pv_get (v := .ref (ρ (2, i))) (ci := 0) C hin_A rfl (H.1 _ MA) ((kf_at H MA).trans rfl) 3 (by decide) fl_A_23 rfl rfl d_A_hasAllLines_16 ?_
    refine pv_alen C 1 rfl (H.1 _ ML) ((kf_at H ML).trans rfl) (v := 4) rfl d_A_hasAllLines_19 ?_
    refine pv_icmp_lt (tgt := 27) C d_A_hasAllLines_20 (by decide) (fun h2 => ?_) (fun h2 => ?_)
    · refine pv_iconst (v := 0) C d_A_hasAllLines_27 (by decide) ?_
      exact pv_zret C rfl R0 d_A_hasAllLines_28 (by decide) (by decide) ⟨by simp [bN, ← Int32.not_lt, h1, h2], rfl, rfl⟩
    · refine pv_iconst (v := 1) C d_A_hasAllLines_23 (by decide) ?_
      refine pv_goto (tgt := 28) C d_A_hasAllLines_24 (by decide) ?_
      exact pv_zret C rfl R0 d_A_hasAllLines_28 (by decide) (by decide) ⟨by simp [bN, ← Int32.not_lt, h1, h2], rfl, rfl⟩
abbrev rm_A_standsAt : Room := { frames := 0, cells := 0, slots := 0, locals := 0 }
set_option maxRecDepth 100000 in
set_option maxHeartbeats 4000000 in
theorem c_A_standsAt {l0 : Launch} {D : va_G} {γ : Nat → ClassId} (hl0 : l0.stackTraces = false) {LP : List Nat} {ks : List kT} {ρ : kT → Nat} {z : zT} {x : xT} {f0 : Nat → va_E} (J : cI LP ks ρ z x) (i : Nat) (d : Int32) (hi : 1 ≤ i ∧ i ≤ zA z) : pv_M l0 D (tys_ γ) y_A_standsAt (Cond.code y_A_standsAt b_A_standsAt 2 (Option.some FieldType.boolean)) rm_A_standsAt [.ref (ρ (1, i)), .int d] LP (cF γ ks ρ z x f0) (rdP LP (cF γ ks ρ z x f0) (some (.int (bN (decide (z 8 i = d) && (!decide (z 7 i = 0) && !decide (z 7 i = 3))))))) (fun _ => False) := by
  refine pv_mk hl0 (by decide) (Nat.le_of_ble_eq_true rfl) (fun κ C R0 hN _ => ?_)
  obtain ⟨H, hV, hz, hJ⟩ := id J
  have M0 : ((0, 0) : kT) ∈ ks := (hV _).mpr (Nat.zero_le _)
  have M1 : ((0, 1) : kT) ∈ ks := (hV _).mpr (by decide : 1 ≤ 3)
  have M2 : ((0, 2) : kT) ∈ ks := (hV _).mpr (by decide : 2 ≤ 3)
  have M3 : ((0, 3) : kT) ∈ ks := (hV _).mpr (by decide : 3 ≤ 3)
  show pv_V D κ 0 0 LP (cF γ ks ρ z x f0) 0 [(0, .ref (ρ (1, i))), (1, .int d)] []
  have MA : ((1, i) : kT) ∈ ks := (hV _).mpr hi
  have ML : ((2, i) : kT) ∈ ks := (hV _).mpr hi
  refine pv_aload_n C d_A_standsAt_0 rfl 0 rfl ?_
  refine pv_get (v := .int (z 8 i)) (ci := 0) C hin_A rfl (H.1 _ MA) ((kf_at H MA).trans rfl) 6 (by decide) fl_A_30 rfl rfl d_A_standsAt_1 ?_
  refine pv_iload_n C d_A_standsAt_4 rfl 1 rfl ?_
  refine pv_icmp_ne (tgt := 27) C d_A_standsAt_5 (by decide) (fun h1 => ?_) (fun h1 => ?_)
  · refine pv_iconst (v := 0) C d_A_standsAt_27 (by decide) ?_
    exact pv_zret C rfl R0 d_A_standsAt_28 (by decide) (by decide) ⟨by simp [bN, h1], rfl, rfl⟩
  · refine pv_aload_n C d_A_standsAt_8 rfl 0 rfl ?_
    refine pv_get (v := .int (z 7 i)) (ci := 0) C hin_A rfl (H.1 _ MA) ((kf_at H MA).trans rfl) 5 (by decide) fl_A_27 rfl rfl d_A_standsAt_9 ?_
    refine pv_if_eq (tgt := 27) C d_A_standsAt_12 (by decide) (fun h2 => ?_) (fun h2 => ?_)
    · refine pv_iconst (v := 0) C d_A_standsAt_27 (by decide) ?_
      exact pv_zret C rfl R0 d_A_standsAt_28 (by decide) (by decide) ⟨by simp [bN, h1, h2], rfl, rfl⟩
    · refine pv_aload_n C d_A_standsAt_15 rfl 0 rfl ?_
      refine pv_get (v := .int (z 7 i)) (ci := 0) C hin_A rfl (H.1 _ MA) ((kf_at H MA).trans rfl) 5 (by decide) fl_A_27 rfl rfl d_A_standsAt_16 ?_
      refine pv_iconst (v := 3) C d_A_standsAt_19 (by decide) ?_
      refine pv_icmp_eq (tgt := 27) C d_A_standsAt_20 (by decide) (fun h3 => ?_) (fun h3 => ?_)
      · refine pv_iconst (v := 0) C d_A_standsAt_27 (by decide) ?_
        exact pv_zret C rfl R0 d_A_standsAt_28 (by decide) (by decide) ⟨by simp [bN, h1, h2, h3], rfl, rfl⟩
      · refine pv_iconst (v := 1) C d_A_standsAt_23 (by decide) ?_
        refine pv_goto (tgt := 28) C d_A_standsAt_24 (by decide) ?_
        exact pv_zret C rfl R0 d_A_standsAt_28 (by decide) (by decide) ⟨by simp [bN, h1, h2, h3], rfl, rfl⟩
abbrev rm_N_mostTaken : Room := { frames := 0, cells := 0, slots := 0, locals := 0 }
set_option maxRecDepth 100000 in
set_option maxHeartbeats 4000000 in
theorem c_N_mostTaken {l0 : Launch} {D : va_G} {γ : Nat → ClassId} (hl0 : l0.stackTraces = false) {LP : List Nat} {ks : List kT} {ρ : kT → Nat} {z : zT} {x : xT} {f0 : Nat → va_E} (J : cI LP ks ρ z x) (i : Nat) (hi : vK z (3, i)) : pv_M l0 D (tys_ γ) y_N_mostTaken (Cond.code y_N_mostTaken b_N_mostTaken 1 (Option.some FieldType.int)) rm_N_mostTaken [.ref (ρ (3, i))] LP (cF γ ks ρ z x f0) (rdP LP (cF γ ks ρ z x f0) (some (.int (z 10 i + z 10 i * z 11 i / 100)))) (fun _ => False) := by
  refine pv_mk hl0 (by decide) (Nat.le_of_ble_eq_true rfl) (fun κ C R0 hN _ => ?_)
  obtain ⟨H, hV, hz, hJ⟩ := id J
  have M0 : ((0, 0) : kT) ∈ ks := (hV _).mpr (Nat.zero_le _)
  have M1 : ((0, 1) : kT) ∈ ks := (hV _).mpr (by decide : 1 ≤ 3)
  have M2 : ((0, 2) : kT) ∈ ks := (hV _).mpr (by decide : 2 ≤ 3)
  have M3 : ((0, 3) : kT) ∈ ks := (hV _).mpr (by decide : 3 ≤ 3)
  show pv_V D κ 0 0 LP (cF γ ks ρ z x f0) 0 [(0, .ref (ρ (3, i)))] []
  have MN : ((3, i) : kT) ∈ ks := (hV _).mpr hi
  refine pv_aload_n C d_N_mostTaken_0 rfl 0 rfl ?_
  refine pv_get (v := .int (z 10 i)) (ci := 1) C hin_N rfl (H.1 _ MN) ((kf_at H MN).trans rfl) 3 (by decide) fl_N_20 rfl rfl d_N_mostTaken_1 ?_
  refine pv_aload_n C d_N_mostTaken_4 rfl 0 rfl ?_
  refine pv_get (v := .int (z 10 i)) (ci := 1) C hin_N rfl (H.1 _ MN) ((kf_at H MN).trans rfl) 3 (by decide) fl_N_20 rfl rfl d_N_mostTaken_5 ?_
  refine pv_aload_n C d_N_mostTaken_8 rfl 0 rfl ?_
  refine pv_get (v := .int (z 11 i)) (ci := 1) C hin_N rfl (H.1 _ MN) ((kf_at H MN).trans rfl) 4 (by decide) fl_N_23 rfl rfl d_N_mostTaken_9 ?_
  refine pv_imul C d_N_mostTaken_12 ?_
  refine pv_bipush (v := 100) C d_N_mostTaken_13 (by decide) ?_
  refine pv_idiv C d_N_mostTaken_15 (by decide) ?_
  refine pv_iadd C d_N_mostTaken_16 ?_
  exact pv_iret C R0 d_N_mostTaken_17 (by decide) (by decide) ⟨by rfl, rfl, rfl⟩
theorem open_eq {z : zT} {x : xT} {i : Nat} (hJ : zJ z x) (hi : i < 68) : (if z 13 i - z 14 i < 0 then 0 else z 13 i - z 14 i) = m_open z i := by
  obtain ⟨⟨a1, a2⟩, b1, b2⟩ := hJ.2.2.2.2.2 i hi
  unfold m_open
  rw [a1, b1]
  by_cases h : ix (z 13 i) ≤ ix (z 14 i)
  · rw [if_pos (nI_le h (by omega))]
    by_cases h2 : ix (z 13 i) = ix (z 14 i)
    · rw [h2, Int32.sub_self]; rfl
    · rw [if_pos (pk_sneg (by omega) (by omega))]
  · rw [if_neg (nI_ge (by omega) (by omega)), pk_sub (by omega), if_neg (nI_pos (by omega))]
abbrev rm_N_openSamples : Room := { frames := 1, cells := 0, slots := 0, locals := 16 }
set_option maxRecDepth 100000 in
set_option maxHeartbeats 4000000 in
theorem c_N_openSamples {l0 : Launch} {D : va_G} {γ : Nat → ClassId} (hl0 : l0.stackTraces = false) {LP : List Nat} {ks : List kT} {ρ : kT → Nat} {z : zT} {x : xT} {f0 : Nat → va_E} (J : cI LP ks ρ z x) (i : Nat) (hi : vK z (3, i)) : pv_M l0 D (tys_ γ) y_N_openSamples (Cond.code y_N_openSamples b_N_openSamples 1 (Option.some FieldType.int)) rm_N_openSamples [.ref (ρ (3, i))] LP (cF γ ks ρ z x f0) (rdP LP (cF γ ks ρ z x f0) (some (.int (m_open z i)))) (fun _ => False) := by
  refine pv_mk hl0 (by decide) (Nat.le_of_ble_eq_true rfl) (fun κ C R0 hN _ => ?_)
  obtain ⟨H, hV, hz, hJ⟩ := id J
  have M0 : ((0, 0) : kT) ∈ ks := (hV _).mpr (Nat.zero_le _)
  have M1 : ((0, 1) : kT) ∈ ks := (hV _).mpr (by decide : 1 ≤ 3)
  have M2 : ((0, 2) : kT) ∈ ks := (hV _).mpr (by decide : 2 ≤ 3)
  have M3 : ((0, 3) : kT) ∈ ks := (hV _).mpr (by decide : 3 ≤ 3)
  show pv_V D κ 0 0 LP (cF γ ks ρ z x f0) 0 [(0, .ref (ρ (3, i)))] []
  have MN : ((3, i) : kT) ∈ ks := (hV _).mpr hi
  refine pv_aload_n C d_N_openSamples_0 rfl 0 rfl ?_
  refine pv_get (v := .int (z 13 i)) (ci := 1) C hin_N rfl (H.1 _ MN) ((kf_at H MN).trans rfl) 5 (by decide) fl_N_26 rfl rfl d_N_openSamples_1 ?_
  refine pv_aload_n C d_N_openSamples_4 rfl 0 rfl ?_
  refine pv_get (v := .int (z 14 i)) (ci := 1) C hin_N rfl (H.1 _ MN) ((kf_at H MN).trans rfl) 6 (by decide) fl_N_29 rfl rfl d_N_openSamples_5 ?_
  refine pv_isub C d_N_openSamples_8 ?_
  refine pv_iconst (v := 0) C d_N_openSamples_9 (by decide) ?_
  refine pv_mmax C ml_N_32 (by decide) (Nat.le_of_ble_eq_true rfl) (by decide) (by decide) d_N_openSamples_10 ?_
  exact pv_iret C R0 d_N_openSamples_13 (by decide) (by decide) ⟨by rw [open_eq hJ (vK_lt hz hi)], rfl, rfl⟩
abbrev rm_U_isDamaged : Room := { frames := 0, cells := 0, slots := 0, locals := 0 }
set_option maxRecDepth 100000 in
set_option maxHeartbeats 4000000 in
theorem c_U_isDamaged {l0 : Launch} {D : va_G} {γ : Nat → ClassId} (hl0 : l0.stackTraces = false) {LP : List Nat} {ks : List kT} {ρ : kT → Nat} {z : zT} {x : xT} {f0 : Nat → va_E} (J : cI LP ks ρ z x) (u : Nat) (hu : 1 ≤ u ∧ u ≤ zU z) : pv_M l0 D (tys_ γ) y_U_isDamaged (Cond.code y_U_isDamaged b_U_isDamaged 1 (Option.some FieldType.boolean)) rm_U_isDamaged [.ref (ρ (4, u))] LP (cF γ ks ρ z x f0) (rdP LP (cF γ ks ρ z x f0) (some (.int (bN (!decide (z 24 u = 0)))))) (fun _ => False) := by
  refine pv_mk hl0 (by decide) (Nat.le_of_ble_eq_true rfl) (fun κ C R0 hN _ => ?_)
  obtain ⟨H, hV, hz, hJ⟩ := id J
  have M0 : ((0, 0) : kT) ∈ ks := (hV _).mpr (Nat.zero_le _)
  have M1 : ((0, 1) : kT) ∈ ks := (hV _).mpr (by decide : 1 ≤ 3)
  have M2 : ((0, 2) : kT) ∈ ks := (hV _).mpr (by decide : 2 ≤ 3)
  have M3 : ((0, 3) : kT) ∈ ks := (hV _).mpr (by decide : 3 ≤ 3)
  show pv_V D κ 0 0 LP (cF γ ks ρ z x f0) 0 [(0, .ref (ρ (4, u)))] []
  have MU : ((4, u) : kT) ∈ ks := (hV _).mpr hu
  have MN : ((3, zl z u) : kT) ∈ ks := (hV _).mpr (hJ.1 u hu.1 hu.2)
  refine pv_aload_n C d_U_isDamaged_0 rfl 0 rfl ?_
  refine pv_get (v := .int (z 24 u)) (ci := 2) C hin_U rfl (H.1 _ MU) ((kf_at H MU).trans rfl) 4 (by decide) fl_U_25 rfl rfl d_U_isDamaged_1 ?_
  refine pv_if_eq (tgt := 11) C d_U_isDamaged_4 (by decide) (fun h1 => ?_) (fun h1 => ?_)
  · refine pv_iconst (v := 0) C d_U_isDamaged_11 (by decide) ?_
    exact pv_zret C rfl R0 d_U_isDamaged_12 (by decide) (by decide) ⟨by simp [bN, h1], rfl, rfl⟩
  · refine pv_iconst (v := 1) C d_U_isDamaged_7 (by decide) ?_
    refine pv_goto (tgt := 12) C d_U_isDamaged_8 (by decide) ?_
    exact pv_zret C rfl R0 d_U_isDamaged_12 (by decide) (by decide) ⟨by simp [bN, h1], rfl, rfl⟩
abbrev rm_U_hasLabel : Room := { frames := 0, cells := 0, slots := 0, locals := 0 }
set_option maxRecDepth 100000 in
set_option maxHeartbeats 4000000 in
theorem c_U_hasLabel {l0 : Launch} {D : va_G} {γ : Nat → ClassId} (hl0 : l0.stackTraces = false) {LP : List Nat} {ks : List kT} {ρ : kT → Nat} {z : zT} {x : xT} {f0 : Nat → va_E} (J : cI LP ks ρ z x) (u : Nat) (hu : 1 ≤ u ∧ u ≤ zU z) : pv_M l0 D (tys_ γ) y_U_hasLabel (Cond.code y_U_hasLabel b_U_hasLabel 1 (Option.some FieldType.boolean)) rm_U_hasLabel [.ref (ρ (4, u))] LP (cF γ ks ρ z x f0) (rdP LP (cF γ ks ρ z x f0) (some (.int (bN (!decide (z 25 u = 0)))))) (fun _ => False) := by
  refine pv_mk hl0 (by decide) (Nat.le_of_ble_eq_true rfl) (fun κ C R0 hN _ => ?_)
  obtain ⟨H, hV, hz, hJ⟩ := id J
  have M0 : ((0, 0) : kT) ∈ ks := (hV _).mpr (Nat.zero_le _)
  have M1 : ((0, 1) : kT) ∈ ks := (hV _).mpr (by decide : 1 ≤ 3)
  have M2 : ((0, 2) : kT) ∈ ks := (hV _).mpr (by decide : 2 ≤ 3)
  have M3 : ((0, 3) : kT) ∈ ks := (hV _).mpr (by decide : 3 ≤ 3)
  show pv_V D κ 0 0 LP (cF γ ks ρ z x f0) 0 [(0, .ref (ρ (4, u)))] []
  have MU : ((4, u) : kT) ∈ ks := (hV _).mpr hu
  have MN : ((3, zl z u) : kT) ∈ ks := (hV _).mpr (hJ.1 u hu.1 hu.2)
  refine pv_aload_n C d_U_hasLabel_0 rfl 0 rfl ?_
  refine pv_get (v := .int (z 25 u)) (ci := 2) C hin_U rfl (H.1 _ MU) ((kf_at H MU).trans rfl) 5 (by decide) fl_U_28 rfl rfl d_U_hasLabel_1 ?_
  refine pv_if_eq (tgt := 11) C d_U_hasLabel_4 (by decide) (fun h1 => ?_) (fun h1 => ?_)
  · refine pv_iconst (v := 0) C d_U_hasLabel_11 (by decide) ?_
    exact pv_zret C rfl R0 d_U_hasLabel_12 (by decide) (by decide) ⟨by simp [bN, h1], rfl, rfl⟩
  · refine pv_iconst (v := 1) C d_U_hasLabel_7 (by decide) ?_
    refine pv_goto (tgt := 12) C d_U_hasLabel_8 (by decide) ?_
    exact pv_zret C rfl R0 d_U_hasLabel_12 (by decide) (by decide) ⟨by simp [bN, h1], rfl, rfl⟩
abbrev rm_U_stateNow : Room := { frames := 1, cells := 0, slots := 0, locals := 20 }
set_option maxRecDepth 100000 in
set_option maxHeartbeats 4000000 in
theorem c_U_stateNow {l0 : Launch} {D : va_G} {γ : Nat → ClassId} (hl0 : l0.stackTraces = false) {LP : List Nat} {ks : List kT} {ρ : kT → Nat} {z : zT} {x : xT} {f0 : Nat → va_E} (J : cI LP ks ρ z x) (u : Nat) (hu : 1 ≤ u ∧ u ≤ zU z) : pv_M l0 D (tys_ γ) y_U_stateNow (Cond.code y_U_stateNow b_U_stateNow 1 (Option.some FieldType.int)) rm_U_stateNow [.ref (ρ (4, u))] LP (cF γ ks ρ z x f0) (rdP LP (cF γ ks ρ z x f0) (some (.int (uS (z 24 u) (x.2.2 u) (z 15 (zl z u)))))) (fun _ => False) := by
  refine pv_mk hl0 (by decide) (Nat.le_of_ble_eq_true rfl) (fun κ C R0 hN _ => ?_)
  obtain ⟨H, hV, hz, hJ⟩ := id J
  have M0 : ((0, 0) : kT) ∈ ks := (hV _).mpr (Nat.zero_le _)
  have M1 : ((0, 1) : kT) ∈ ks := (hV _).mpr (by decide : 1 ≤ 3)
  have M2 : ((0, 2) : kT) ∈ ks := (hV _).mpr (by decide : 2 ≤ 3)
  have M3 : ((0, 3) : kT) ∈ ks := (hV _).mpr (by decide : 3 ≤ 3)
  show pv_V D κ 0 0 LP (cF γ ks ρ z x f0) 0 [(0, .ref (ρ (4, u)))] []
  have MU : ((4, u) : kT) ∈ ks := (hV _).mpr hu
  have MN : ((3, zl z u) : kT) ∈ ks := (hV _).mpr (hJ.1 u hu.1 hu.2)
  refine pv_aload_n C d_U_stateNow_0 rfl 0 rfl ?_
  refine pv_callV (n := 0) (As := []) (rest := []) C (c_U_isDamaged hl0 J u hu) cd_U_isDamaged ml_U_31 in_U im_U_isDamaged se_U_isDamaged (H.1 _ MU) ((kf_at H MU).trans rfl) rfl rfl (by decide +kernel) (by decide) rfl (Nat.le_of_ble_eq_true rfl) rfl d_U_stateNow_1 (by decide) hN R0 (fun _ h => h.elim) (fun v9 LP9 f9 h9 => ?_)
  obtain ⟨rfl, rfl, rfl⟩ := h9
  refine pv_stf (f2 := (kf ks ρ (cz γ ρ z x) f0)) (st2 := [.int (bN (!decide (z 24 u = 0)))]) (c2 := 0) (s2 := 0) rfl rfl rfl rfl ?_
  refine pv_ifb_eq (tgt := 9) C d_U_stateNow_4 (by decide) (fun h1 => ?_) (fun h1 => ?_)
  · refine pv_aload_n C d_U_stateNow_9 rfl 0 rfl ?_
    refine pv_get (v := .int (x.2.2 u)) (ci := 2) C hin_U rfl (H.1 _ MU) ((kf_at H MU).trans rfl) 7 (by decide) fl_U_35 rfl rfl d_U_stateNow_10 ?_
    refine pv_if_eq (tgt := 18) C d_U_stateNow_13 (by decide) (fun h2 => ?_) (fun h2 => ?_)
    · refine pv_aload_n C d_U_stateNow_18 rfl 0 rfl ?_
      refine pv_get (v := .ref (ρ (3, zl z u))) (ci := 2) C hin_U rfl (H.1 _ MU) ((kf_at H MU).trans rfl) 0 (by decide) fl_U_9 rfl rfl d_U_stateNow_19 ?_
      refine pv_get (v := .int (z 15 (zl z u))) (ci := 1) C hin_N rfl (H.1 _ MN) ((kf_at H MN).trans rfl) 9 (by decide) fl_U_39 rfl rfl d_U_stateNow_22 ?_
      refine pv_if_eq (tgt := 32) C d_U_stateNow_25 (by decide) (fun h3 => ?_) (fun h3 => ?_)
      · refine pv_iconst (v := 0) C d_U_stateNow_32 (by decide) ?_
        exact pv_iret C R0 d_U_stateNow_33 (by decide) (by decide) ⟨by simp [uS] at *; simp [uS, h1, h2, h3], rfl, rfl⟩
      · refine pv_iconst (v := 2) C d_U_stateNow_28 (by decide) ?_
        refine pv_goto (tgt := 33) C d_U_stateNow_29 (by decide) ?_
        exact pv_iret C R0 d_U_stateNow_33 (by decide) (by decide) ⟨by simp [uS] at *; simp [uS, h1, h2, h3], rfl, rfl⟩
    · refine pv_iconst (v := 3) C d_U_stateNow_16 (by decide) ?_
      exact pv_iret C R0 d_U_stateNow_17 (by decide) (by decide) ⟨by simp [uS] at *; simp [uS, h1, h2], rfl, rfl⟩
  · refine pv_iconst (v := 1) C d_U_stateNow_7 (by decide) ?_
    exact pv_iret C R0 d_U_stateNow_8 (by decide) (by decide) ⟨by simp [uS] at *; simp [uS, h1], rfl, rfl⟩
abbrev rm_S_announcementOf : Room := { frames := 6, cells := 1, slots := 6, locals := 90 }
set_option maxRecDepth 100000 in
set_option maxHeartbeats 4000000 in
theorem c_S_announcementOf {l0 : Launch} {D : va_G} {γ : Nat → ClassId} (hl0 : l0.stackTraces = false) {LP : List Nat} {ks : List kT} {ρ : kT → Nat} {z : zT} {x : xT} {f0 : Nat → va_E} (J : cI LP ks ρ z x) (a : Int32)  : pv_M l0 D (tys_ γ) y_S_announcementOf (Cond.code y_S_announcementOf b_S_announcementOf 3 (Option.some (FieldType.object "ReceiveSteps$Announcement"))) rm_S_announcementOf [.ref (ρ (0, 0)), .int a] LP (cF γ ks ρ z x f0) (fun w LP1 f1 => rdP LP (cF γ ks ρ z x f0) (some (.ref (ρ (1, ix a)))) w LP1 f1 ∧ isA z a = true) (fun E => E = eNS ∧ isA z a = false) := by
  refine pv_mk hl0 (by decide) (Nat.le_of_ble_eq_true rfl) (fun κ C R0 hN _ => ?_)
  obtain ⟨H, hV, hz, hJ⟩ := id J
  have M0 : ((0, 0) : kT) ∈ ks := (hV _).mpr (Nat.zero_le _)
  have M1 : ((0, 1) : kT) ∈ ks := (hV _).mpr (by decide : 1 ≤ 3)
  have M2 : ((0, 2) : kT) ∈ ks := (hV _).mpr (by decide : 2 ≤ 3)
  have M3 : ((0, 3) : kT) ∈ ks := (hV _).mpr (by decide : 3 ≤ 3)
  show pv_V D κ 0 0 LP (cF γ ks ρ z x f0) 0 [(0, .ref (ρ (0, 0))), (1, .int a)] []
  refine pv_iload_n C d_S_announcementOf_0 rfl 1 rfl ?_
  refine pv_iconst (v := 1) C d_S_announcementOf_1 (by decide) ?_
  refine pv_icmp_lt (tgt := 22) C d_S_announcementOf_2 (by decide) (fun h1 => ?_) (fun h1 => ?_)
  · exact pv_throwN (LP0 := []) (f0 := fun _ => .inr (0, [])) (text := "there is no such announcement") C hN R0 kl_S_238 in_NoSuchElementException rfl (by decide) th1_NS th2_NS th3_NS d_S_announcementOf_22 d_S_announcementOf_25 d_S_announcementOf_26 d_S_announcementOf_28 d_S_announcementOf_31 (by decide) (Nat.le_of_ble_eq_true rfl) (by decide) (by decide) (⟨rfl, by simp [isA, inB, ← Int32.not_lt, h1]⟩)
  · refine pv_iload_n C d_S_announcementOf_5 rfl 1 rfl ?_
    refine pv_aload_n C d_S_announcementOf_6 rfl 0 rfl ?_
    refine pv_get (v := .int (z 3 0)) (ci := 3) C hin_S rfl (H.1 _ M0) ((kf_at H M0).trans rfl) 3 (by decide) fl_S_31 rfl rfl d_S_announcementOf_7 ?_
    refine pv_icmp_gt (tgt := 22) C d_S_announcementOf_10 (by decide) (fun h2 => ?_) (fun h2 => ?_)
    · exact pv_throwN (LP0 := []) (f0 := fun _ => .inr (0, [])) (text := "there is no such announcement") C hN R0 kl_S_238 in_NoSuchElementException rfl (by decide) th1_NS th2_NS th3_NS d_S_announcementOf_22 d_S_announcementOf_25 d_S_announcementOf_26 d_S_announcementOf_28 d_S_announcementOf_31 (by decide) (Nat.le_of_ble_eq_true rfl) (by decide) (by decide) (⟨rfl, by simp [isA, inB, ← Int32.not_lt, h1, h2]⟩)
    · have hA0 : isA z a = true := by simp [isA, inB, ← Int32.not_lt, h1, h2]
      have hA := isA_ix hz hA0
      refine pv_iload_n C d_S_announcementOf_13 rfl 1 rfl ?_
      refine pv_aload_n C d_S_announcementOf_14 rfl 0 rfl ?_
      refine pv_get (v := .ref (ρ (0, 1))) (ci := 3) C hin_S rfl (H.1 _ M0) ((kf_at H M0).trans rfl) 0 (by decide) fl_S_11 rfl rfl d_S_announcementOf_15 ?_
      refine pv_alen C 0 rfl (H.1 _ M1) ((kf_at H M1).trans rfl) (v := 16) rfl d_S_announcementOf_18 ?_
      refine pv_icmp_le (tgt := 32) C d_S_announcementOf_19 (by decide) (fun h3 => ?_) (fun h3 => ?_)
      · have hA0 : isA z a = true := by simp [isA, inB, ← Int32.not_lt, h1, h2]
        have hA := isA_ix hz hA0
        have MA : ((1, ix a) : kT) ∈ ks := (hV _).mpr ⟨hA.2.1, hA.2.2.1⟩
        refine pv_aload_n C d_S_announcementOf_32 rfl 0 rfl ?_
        refine pv_get (v := .ref (ρ (0, 1))) (ci := 3) C hin_S rfl (H.1 _ M0) ((kf_at H M0).trans rfl) 0 (by decide) fl_S_11 rfl rfl d_S_announcementOf_33 ?_
        refine pv_iload_n C d_S_announcementOf_36 rfl 1 rfl ?_
        refine pv_iconst (v := 1) C d_S_announcementOf_37 (by decide) ?_
        refine pv_isub C d_S_announcementOf_38 ?_
        refine pv_aald C 0 rfl (H.1 _ M1) ((kf_at H M1).trans rfl) (j := (ix a - 1)) (b := (ρ (1, ix a))) (pr_ix hA.1 hA.2.1) (show (ix a - 1) < 16 by omega) (by decide) (gA_at hA.2.1 hA.2.2.1) d_S_announcementOf_39 ?_
        refine pv_astore_n (lv' := [(2, .ref (ρ (1, ix a))), (0, .ref (ρ (0, 0))), (1, .int a)]) C d_S_announcementOf_40 rfl (by decide) rfl ?_
        refine pv_aload_n C d_S_announcementOf_41 rfl 0 rfl ?_
        refine pv_ifnonnull (tgt := 55) C d_S_announcementOf_42 (by decide) ?_
        refine pv_aload_n C d_S_announcementOf_55 rfl 0 rfl ?_
        exact pv_aret C R0 d_S_announcementOf_56 (by decide) (by decide) ⟨⟨rfl, rfl, rfl⟩, hA0⟩
      · exact absurd (by rw [hA.1]; exact nI_le hA.2.2.2 (by decide)) h3
end
