/-! pool worlds: a walk over a pool LP of cells with contents f; a contract speaks of the whole pool -/
def pv_strs : List (Nat × String) := [(231, "a number outside its range"), (37, "no room for another announcement"), (240, "there is no such announcement"), (235, "not as it is now"), (246, "there is no such line"), (101, "no room for so many units more"), (248, "there is no such unit"), (253, "there are not so many differences"), (205, "there is no such thing to ask of a difference"), (208, "claims are counted from 0"), (216, "there is no such thing to ask of a unit"), (224, "there is no such thing to ask of a line"), (229, "there is no such thing to ask of an announcement")]
def pv_exc : List String := ["java/lang/IllegalArgumentException", "java/lang/UnsupportedOperationException", "java/util/NoSuchElementException", "java/lang/IllegalStateException"]
def pv_sup : List String := ["java/lang/RuntimeException", "java/lang/Exception", "java/lang/Throwable"]
/-- what is asked of the surroundings: Throwable's two statics, the texts, the exceptions among themselves, the array classes -/
def pv_E (A : Nat → Prop) (U : State) (H : Heap) : Prop :=
  vx_Zq Bundle.tN "UNASSIGNED_STACK" Bundle.steD A U H ∧ vx_Zq Bundle.tN "SUPPRESSED_SENTINEL" Bundle.listD A U H ∧ (∀ q ∈ pv_strs, ∃ sa, vk_R RS q.1 q.2 sa U) ∧ (∀ E ∈ pv_exc, va_Nw (.castable E E) U) ∧
  (∀ E ∈ pv_exc, ∀ E' ∈ pv_exc, E ≠ E' → va_Nc E E' U) ∧ va_AO RA U ∧ va_AO RU U ∧ va_AO RN U ∧ ∀ N ∈ pv_sup, va_Nw (.declares (Bundle.initS N)) U
theorem pv_E.mv {A B : Nat → Prop} {s U : State} {H0 H : Heap} (h : pv_E A s H0) (hW : s.WarmedH U.vm) (hk : ∀ a : Nat, a < H0.size → ¬ A a → H[a]? = H0[a]?) (hAB : ∀ q, B q → A q) : pv_E B U H :=
  ⟨((vx_Zq.kept h.1 hk).moved hW.alike).narrow hAB, ((vx_Zq.kept h.2.1 hk).moved hW.alike).narrow hAB, fun q hq => by obtain ⟨sa, h1⟩ := h.2.2.1 q hq; exact ⟨sa, vk_R.warm hW h1⟩, fun E hE => va_Nw.warmC hW (h.2.2.2.1 E hE),
    fun E hE E' hE' hn => (h.2.2.2.2.1 E hE E' hE' hn).moved hW.alike, h.2.2.2.2.2.1.moved hW.alike, h.2.2.2.2.2.2.1.moved hW.alike, h.2.2.2.2.2.2.2.1.moved hW.alike, fun N hN => va_Nw.warmD hW (h.2.2.2.2.2.2.2.2 N hN)⟩
theorem pv_E.same {A : Nat → Prop} {s U : State} {H : Heap} (h : pv_E A s H) (hv : s.vm = U.vm) : pv_E A U H :=
  h.mv (by rw [← hv]; exact State.WarmedH.refl s) (fun _ _ _ => rfl) (fun _ h => h)
abbrev pv_K := Program × Launch × Env × Room × State × MethodId × Array Value × List Frame × Method × Code × (Nat → Prop) × Nat × (State → Prop)
def pv_V (D : va_G) (κ : pv_K) (cells slots : Nat) (LP : List Nat) (f : Nat → va_E) (pc : Nat) (lv : List (Nat × Value)) (st : List Value) : Prop :=
  match κ with
  | (p, l, e, R, s, m, args, below, meth, c, A, nL, Q) =>
    ∀ (H : Heap) (locs : List Loc) (ls : Array Slot), va_P D cls_ (va_pl LP f) H → va_D A (va_pl LP f) → va_S A s.heap H locs → lv_has ls nL lv → W p l e R s m args below meth c H locs cells slots Q (F0 m pc ls st)
/-- the context of a walk: the machine, the code, the words, the classes, the room -/
def pv_C (l0 : Launch) (D : va_G) (tys : List (ClassId × FieldType)) (κ : pv_K) (cc : ByteArray) (own : String) (rm : Room) (nl : Nat) : Prop :=
  match κ with
  | (p, l, e, R, s, m, args, below, meth, c, A, nL, Q) =>
    p.tables.exec = Jvm.exec ∧ c.code = cc ∧ c.maxLocals = nL ∧ s.vm.findClass own = some m.cls ∧ (∀ w ∈ Wg, w.before args s = true) ∧ va_K D cls_ tys s ∧ (∀ q, s.heap.size ≤ q → A q) ∧ R = rm ∧ nL = nl ∧ meth.locks = false ∧ pv_E A s s.heap ∧ l.stackTraces = false ∧ l = l0
def pv_Pc (D : va_G) (tys : List (ClassId × FieldType)) (av : List Value) (LP : List Nat) (f : Nat → va_E) (sz : Nat) : Array Value → State → Prop := fun a U =>
  a = av.toArray ∧ U.heap.size = sz ∧ va_P D cls_ (va_pl LP f) U.heap ∧ va_K D cls_ tys U ∧ va_D (fun _ => True) (va_pl LP f) ∧ pv_E (va_A (va_pl LP f) sz) U U.heap
def pv_Qc (D : va_G) (LP : List Nat) (f : Nat → va_E) (sz : Nat) (P : Option Value → List Nat → (Nat → va_E) → Prop) : Array Value → State → Outcome → State → Prop := fun _ st oc t =>
  (∃ (v : Option Value) (LP' : List Nat) (f' : Nat → va_E), oc = .returned v ∧ P v LP' f' ∧ va_P D cls_ (va_pl LP' f') t.heap ∧ va_D (va_A (va_pl LP f) sz) (va_pl LP' f')) ∧ va_F (va_A (va_pl LP f) sz) st t
def pv_Xc (D : va_G) (LP : List Nat) (f : Nat → va_E) (sz : Nat) (X : String → Prop) : String → State → State → Prop := fun E st t =>
  X E ∧ va_P D cls_ (va_pl LP f) t.heap ∧ va_F (va_A (va_pl LP f) sz) st t
/-- a method's contract over a pool: it returns with P, or throws with X and has changed nothing -/
def pv_M (l : Launch) (D : va_G) (tys : List (ClassId × FieldType)) (y : MethodName) (w0 : Cond) (rm : Room) (av : List Value) (LP : List Nat) (f : Nat → va_E) (P : Option Value → List Nat → (Nat → va_E) → Prop) (X : String → Prop) : Prop :=
  ∀ sz : Nat, vx_Met l y (w0 :: Wg) rm (pv_Pc D tys av LP f sz) (pv_Qc D LP f sz P) (pv_Xc D LP f sz X) rm.cells rm.slots (va_A (va_pl LP f) sz)
theorem pv_Pc.blind {D : va_G} {tys : List (ClassId × FieldType)} {av : List Value} {LP : List Nat} {f : Nat → va_E} {sz : Nat} : FrameBlind (pv_Pc D tys av LP f sz) := by
  intro a U g mk h
  obtain ⟨h1, h2, h3, h4, h5, h6⟩ := h
  exact ⟨h1, h2, h3, va_K.moved (u := U) (U := U.calling g mk a) (Vm.Alike.refl U.vm) h4, h5, h6.same rfl⟩
/-- what the end of a walk owes -/
def pv_R (κ : pv_K) (D : va_G) (LP0 : List Nat) (f0 : Nat → va_E) (P : Option Value → List Nat → (Nat → va_E) → Prop) (X : String → Prop) (ret : Option FieldType) : Prop :=
  match κ with
  | (p, l, e, R, s, m, args, below, meth, c, A, nL, Q) =>
    meth.sig.returnType = ret ∧ Q = vx_MQ below (pv_Qc D LP0 f0 s.heap.size P) (pv_Xc D LP0 f0 s.heap.size X) args s R.cells R.slots (va_A (va_pl LP0 f0) s.heap.size) ∧ A = va_A (va_pl LP0 f0) s.heap.size
/-- no handlers in this method -/
def pv_N (κ : pv_K) : Prop :=
  match κ with
  | (p, l, e, R, s, m, args, below, meth, c, A, nL, Q) => ∀ x ∈ c.exceptionTable.toList, False
section PV
variable {l0 : Launch} {D : va_G} {tys : List (ClassId × FieldType)} {κ : pv_K} {cc : ByteArray} {own : String} {rm : Room} {nl : Nat} {cells slots : Nat} {LP : List Nat} {f : Nat → va_E} {pc : Nat} {lv lv' : List (Nat × Value)} {st : List Value}
theorem pv_iconst (C : pv_C l0 D tys κ cc own rm nl) {n : Int} {v : Int32} (d : decode cc pc = .ok (.iconst n, 1)) (hv : Int32.ofInt n = v) (kk : pv_V D κ cells slots LP f (pc + 1) lv (.int v :: st)) : pv_V D κ cells slots LP f pc lv st := by
  obtain ⟨p, l, e, R, s, m, args, below, meth, c, A, nL, Q⟩ := κ
  exact fun H locs ls hP hD hS hl => lv_iconst C.1 C.2.1 d hv (kk H locs ls hP hD hS hl)
theorem pv_bipush (C : pv_C l0 D tys κ cc own rm nl) {n : Int} {v : Int32} (d : decode cc pc = .ok (.bipush n, 2)) (hv : (Int8.ofInt n).toInt32 = v) (kk : pv_V D κ cells slots LP f (pc + 2) lv (.int v :: st)) : pv_V D κ cells slots LP f pc lv st := by
  obtain ⟨p, l, e, R, s, m, args, below, meth, c, A, nL, Q⟩ := κ
  exact fun H locs ls hP hD hS hl => lv_bipush C.1 C.2.1 d hv (kk H locs ls hP hD hS hl)
theorem pv_sipush (C : pv_C l0 D tys κ cc own rm nl) {n : Int} {v : Int32} (d : decode cc pc = .ok (.sipush n, 3)) (hv : (Int16.ofInt n).toInt32 = v) (kk : pv_V D κ cells slots LP f (pc + 3) lv (.int v :: st)) : pv_V D κ cells slots LP f pc lv st := by
  obtain ⟨p, l, e, R, s, m, args, below, meth, c, A, nL, Q⟩ := κ
  exact fun H locs ls hP hD hS hl => lv_sipush C.1 C.2.1 d hv (kk H locs ls hP hD hS hl)
theorem pv_ldc (C : pv_C l0 D tys κ cc own rm nl) {i : Nat} {v : Int32} (hw : Cond.constant own i v ∈ Wg) (d : decode cc pc = .ok (.ldc i, 2)) (kk : pv_V D κ cells slots LP f (pc + 2) lv (.int v :: st)) : pv_V D κ cells slots LP f pc lv st := by
  obtain ⟨p, l, e, R, s, m, args, below, meth, c, A, nL, Q⟩ := κ
  exact fun H locs ls hP hD hS hl => lv_ldc C.1 C.2.1 C.2.2.2.1 (C.2.2.2.2.1 _ hw) d (kk H locs ls hP hD hS hl)
theorem pv_ldcw (C : pv_C l0 D tys κ cc own rm nl) {i : Nat} {v : Int32} (hw : Cond.constant own i v ∈ Wg) (d : decode cc pc = .ok (.ldc_w i, 3)) (kk : pv_V D κ cells slots LP f (pc + 3) lv (.int v :: st)) : pv_V D κ cells slots LP f pc lv st := by
  obtain ⟨p, l, e, R, s, m, args, below, meth, c, A, nL, Q⟩ := κ
  exact fun H locs ls hP hD hS hl => lv_ldcw C.1 C.2.1 C.2.2.2.1 (C.2.2.2.2.1 _ hw) d (kk H locs ls hP hD hS hl)
theorem pv_iload_n (C : pv_C l0 D tys κ cc own rm nl) {k : Fin 4} {i : Nat} {x : Int32} (d : decode cc pc = .ok (.iload_n k, 1)) (hi : (k : Nat) = i) (j : Nat) (hj : lv[j]? = some (i, .int x)) (kk : pv_V D κ cells slots LP f (pc + 1) lv (.int x :: st)) : pv_V D κ cells slots LP f pc lv st := by
  obtain ⟨p, l, e, R, s, m, args, below, meth, c, A, nL, Q⟩ := κ
  exact fun H locs ls hP hD hS hl => lv_iload_n C.1 C.2.1 d hi (lv_at hl j hj) (kk H locs ls hP hD hS hl)
theorem pv_iload (C : pv_C l0 D tys κ cc own rm nl) {i : Nat} {x : Int32} (d : decode cc pc = .ok (.iload i, 2)) (j : Nat) (hj : lv[j]? = some (i, .int x)) (kk : pv_V D κ cells slots LP f (pc + 2) lv (.int x :: st)) : pv_V D κ cells slots LP f pc lv st := by
  obtain ⟨p, l, e, R, s, m, args, below, meth, c, A, nL, Q⟩ := κ
  exact fun H locs ls hP hD hS hl => lv_iload C.1 C.2.1 d (lv_at hl j hj) (kk H locs ls hP hD hS hl)
theorem pv_istore_n (C : pv_C l0 D tys κ cc own rm nl) {k : Fin 4} {i : Nat} {x : Int32} (d : decode cc pc = .ok (.istore_n k, 1)) (hi : (k : Nat) = i) (hn : i < nl) (hv : (i, Value.int x) :: lv.filter (fun q => !(q.1 == i) && !(q.1 + 1 == i && q.2.category == 2)) = lv') (kk : pv_V D κ cells slots LP f (pc + 1) lv' st) : pv_V D κ cells slots LP f pc lv (.int x :: st) := by
  obtain ⟨p, l, e, R, s, m, args, below, meth, c, A, nL, Q⟩ := κ
  exact fun H locs ls hP hD hS hl => lv_istore_n C.1 C.2.1 d hi hl (by rw [C.2.2.2.2.2.2.2.2.1]; exact hn) hv (fun ls9 hl9 => kk H locs ls9 hP hD hS hl9)
theorem pv_istore (C : pv_C l0 D tys κ cc own rm nl) {i : Nat} {x : Int32} (d : decode cc pc = .ok (.istore i, 2)) (hn : i < nl) (hv : (i, Value.int x) :: lv.filter (fun q => !(q.1 == i) && !(q.1 + 1 == i && q.2.category == 2)) = lv') (kk : pv_V D κ cells slots LP f (pc + 2) lv' st) : pv_V D κ cells slots LP f pc lv (.int x :: st) := by
  obtain ⟨p, l, e, R, s, m, args, below, meth, c, A, nL, Q⟩ := κ
  exact fun H locs ls hP hD hS hl => lv_istore C.1 C.2.1 d hl (by rw [C.2.2.2.2.2.2.2.2.1]; exact hn) hv (fun ls9 hl9 => kk H locs ls9 hP hD hS hl9)
theorem pv_aload_n (C : pv_C l0 D tys κ cc own rm nl) {k : Fin 4} {i : Nat} {x : Nat} (d : decode cc pc = .ok (.aload_n k, 1)) (hi : (k : Nat) = i) (j : Nat) (hj : lv[j]? = some (i, .ref x)) (kk : pv_V D κ cells slots LP f (pc + 1) lv (.ref x :: st)) : pv_V D κ cells slots LP f pc lv st := by
  obtain ⟨p, l, e, R, s, m, args, below, meth, c, A, nL, Q⟩ := κ
  exact fun H locs ls hP hD hS hl => lv_aload_n C.1 C.2.1 d hi (lv_at hl j hj) (kk H locs ls hP hD hS hl)
theorem pv_aload (C : pv_C l0 D tys κ cc own rm nl) {i : Nat} {x : Nat} (d : decode cc pc = .ok (.aload i, 2)) (j : Nat) (hj : lv[j]? = some (i, .ref x)) (kk : pv_V D κ cells slots LP f (pc + 2) lv (.ref x :: st)) : pv_V D κ cells slots LP f pc lv st := by
  obtain ⟨p, l, e, R, s, m, args, below, meth, c, A, nL, Q⟩ := κ
  exact fun H locs ls hP hD hS hl => lv_aload C.1 C.2.1 d (lv_at hl j hj) (kk H locs ls hP hD hS hl)
theorem pv_astore_n (C : pv_C l0 D tys κ cc own rm nl) {k : Fin 4} {i : Nat} {x : Nat} (d : decode cc pc = .ok (.astore_n k, 1)) (hi : (k : Nat) = i) (hn : i < nl) (hv : (i, Value.ref x) :: lv.filter (fun q => !(q.1 == i) && !(q.1 + 1 == i && q.2.category == 2)) = lv') (kk : pv_V D κ cells slots LP f (pc + 1) lv' st) : pv_V D κ cells slots LP f pc lv (.ref x :: st) := by
  obtain ⟨p, l, e, R, s, m, args, below, meth, c, A, nL, Q⟩ := κ
  exact fun H locs ls hP hD hS hl => lv_astore_n C.1 C.2.1 d hi hl (by rw [C.2.2.2.2.2.2.2.2.1]; exact hn) hv (fun ls9 hl9 => kk H locs ls9 hP hD hS hl9)
theorem pv_astore (C : pv_C l0 D tys κ cc own rm nl) {i : Nat} {x : Nat} (d : decode cc pc = .ok (.astore i, 2)) (hn : i < nl) (hv : (i, Value.ref x) :: lv.filter (fun q => !(q.1 == i) && !(q.1 + 1 == i && q.2.category == 2)) = lv') (kk : pv_V D κ cells slots LP f (pc + 2) lv' st) : pv_V D κ cells slots LP f pc lv (.ref x :: st) := by
  obtain ⟨p, l, e, R, s, m, args, below, meth, c, A, nL, Q⟩ := κ
  exact fun H locs ls hP hD hS hl => lv_astore C.1 C.2.1 d hl (by rw [C.2.2.2.2.2.2.2.2.1]; exact hn) hv (fun ls9 hl9 => kk H locs ls9 hP hD hS hl9)
theorem pv_iinc (C : pv_C l0 D tys κ cc own rm nl) {i : Nat} {n : Int} {x v : Int32} (d : decode cc pc = .ok (.iinc i n, 3)) (j : Nat) (hj : lv[j]? = some (i, .int x)) (he : x + Int32.ofInt n = v) (hn : i < nl) (hv : (i, Value.int v) :: lv.filter (fun q => !(q.1 == i) && !(q.1 + 1 == i && q.2.category == 2)) = lv') (kk : pv_V D κ cells slots LP f (pc + 3) lv' st) : pv_V D κ cells slots LP f pc lv st := by
  obtain ⟨p, l, e, R, s, m, args, below, meth, c, A, nL, Q⟩ := κ
  exact fun H locs ls hP hD hS hl => lv_iinc C.1 C.2.1 d hl hj he (by rw [C.2.2.2.2.2.2.2.2.1]; exact hn) hv (fun ls9 hl9 => kk H locs ls9 hP hD hS hl9)
theorem pv_iadd (C : pv_C l0 D tys κ cc own rm nl) {x y : Int32} (d : decode cc pc = .ok (.iadd, 1)) (kk : pv_V D κ cells slots LP f (pc + 1) lv (.int (x + y) :: st)) : pv_V D κ cells slots LP f pc lv (.int y :: .int x :: st) := by
  obtain ⟨p, l, e, R, s, m, args, below, meth, c, A, nL, Q⟩ := κ
  exact fun H locs ls hP hD hS hl => lv_iadd C.1 C.2.1 d (kk H locs ls hP hD hS hl)
theorem pv_isub (C : pv_C l0 D tys κ cc own rm nl) {x y : Int32} (d : decode cc pc = .ok (.isub, 1)) (kk : pv_V D κ cells slots LP f (pc + 1) lv (.int (x - y) :: st)) : pv_V D κ cells slots LP f pc lv (.int y :: .int x :: st) := by
  obtain ⟨p, l, e, R, s, m, args, below, meth, c, A, nL, Q⟩ := κ
  exact fun H locs ls hP hD hS hl => lv_isub C.1 C.2.1 d (kk H locs ls hP hD hS hl)
theorem pv_imul (C : pv_C l0 D tys κ cc own rm nl) {x y : Int32} (d : decode cc pc = .ok (.imul, 1)) (kk : pv_V D κ cells slots LP f (pc + 1) lv (.int (x * y) :: st)) : pv_V D κ cells slots LP f pc lv (.int y :: .int x :: st) := by
  obtain ⟨p, l, e, R, s, m, args, below, meth, c, A, nL, Q⟩ := κ
  exact fun H locs ls hP hD hS hl => lv_imul C.1 C.2.1 d (kk H locs ls hP hD hS hl)
theorem pv_iand (C : pv_C l0 D tys κ cc own rm nl) {x y : Int32} (d : decode cc pc = .ok (.iand, 1)) (kk : pv_V D κ cells slots LP f (pc + 1) lv (.int (x &&& y) :: st)) : pv_V D κ cells slots LP f pc lv (.int y :: .int x :: st) := by
  obtain ⟨p, l, e, R, s, m, args, below, meth, c, A, nL, Q⟩ := κ
  exact fun H locs ls hP hD hS hl => lv_iand C.1 C.2.1 d (kk H locs ls hP hD hS hl)
theorem pv_ior (C : pv_C l0 D tys κ cc own rm nl) {x y : Int32} (d : decode cc pc = .ok (.ior, 1)) (kk : pv_V D κ cells slots LP f (pc + 1) lv (.int (x ||| y) :: st)) : pv_V D κ cells slots LP f pc lv (.int y :: .int x :: st) := by
  obtain ⟨p, l, e, R, s, m, args, below, meth, c, A, nL, Q⟩ := κ
  exact fun H locs ls hP hD hS hl => lv_ior C.1 C.2.1 d (kk H locs ls hP hD hS hl)
theorem pv_ixor (C : pv_C l0 D tys κ cc own rm nl) {x y : Int32} (d : decode cc pc = .ok (.ixor, 1)) (kk : pv_V D κ cells slots LP f (pc + 1) lv (.int (x ^^^ y) :: st)) : pv_V D κ cells slots LP f pc lv (.int y :: .int x :: st) := by
  obtain ⟨p, l, e, R, s, m, args, below, meth, c, A, nL, Q⟩ := κ
  exact fun H locs ls hP hD hS hl => lv_ixor C.1 C.2.1 d (kk H locs ls hP hD hS hl)
theorem pv_ishl (C : pv_C l0 D tys κ cc own rm nl) {x y : Int32} (d : decode cc pc = .ok (.ishl, 1)) (kk : pv_V D κ cells slots LP f (pc + 1) lv (.int (x <<< (y &&& 31)) :: st)) : pv_V D κ cells slots LP f pc lv (.int y :: .int x :: st) := by
  obtain ⟨p, l, e, R, s, m, args, below, meth, c, A, nL, Q⟩ := κ
  exact fun H locs ls hP hD hS hl => lv_ishl C.1 C.2.1 d (kk H locs ls hP hD hS hl)
theorem pv_idiv (C : pv_C l0 D tys κ cc own rm nl) {x y : Int32} (d : decode cc pc = .ok (.idiv, 1)) (hne : ¬ y = 0) (kk : pv_V D κ cells slots LP f (pc + 1) lv (.int (x / y) :: st)) : pv_V D κ cells slots LP f pc lv (.int y :: .int x :: st) := by
  obtain ⟨p, l, e, R, s, m, args, below, meth, c, A, nL, Q⟩ := κ
  exact fun H locs ls hP hD hS hl => lv_idiv C.1 C.2.1 d hne (kk H locs ls hP hD hS hl)
theorem pv_irem (C : pv_C l0 D tys κ cc own rm nl) {x y : Int32} (d : decode cc pc = .ok (.irem, 1)) (hne : ¬ y = 0) (kk : pv_V D κ cells slots LP f (pc + 1) lv (.int (x - x / y * y) :: st)) : pv_V D κ cells slots LP f pc lv (.int y :: .int x :: st) := by
  obtain ⟨p, l, e, R, s, m, args, below, meth, c, A, nL, Q⟩ := κ
  exact fun H locs ls hP hD hS hl => lv_irem C.1 C.2.1 d hne (kk H locs ls hP hD hS hl)
theorem pv_ineg (C : pv_C l0 D tys κ cc own rm nl) {x : Int32} (d : decode cc pc = .ok (.ineg, 1)) (kk : pv_V D κ cells slots LP f (pc + 1) lv (.int (-x) :: st)) : pv_V D κ cells slots LP f pc lv (.int x :: st) := by
  obtain ⟨p, l, e, R, s, m, args, below, meth, c, A, nL, Q⟩ := κ
  exact fun H locs ls hP hD hS hl => lv_ineg C.1 C.2.1 d (kk H locs ls hP hD hS hl)
theorem pv_i2l (C : pv_C l0 D tys κ cc own rm nl) {x : Int32} (d : decode cc pc = .ok (.i2l, 1)) (kk : pv_V D κ cells slots LP f (pc + 1) lv (.long x.toInt64 :: st)) : pv_V D κ cells slots LP f pc lv (.int x :: st) := by
  obtain ⟨p, l, e, R, s, m, args, below, meth, c, A, nL, Q⟩ := κ
  exact fun H locs ls hP hD hS hl => lv_i2l C.1 C.2.1 d rfl (kk H locs ls hP hD hS hl)
theorem pv_lcmp (C : pv_C l0 D tys κ cc own rm nl) {x y : Int64} (d : decode cc pc = .ok (.lcmp, 1)) (kk : pv_V D κ cells slots LP f (pc + 1) lv (.int (lg_cmp x y) :: st)) : pv_V D κ cells slots LP f pc lv (.long y :: .long x :: st) := by
  obtain ⟨p, l, e, R, s, m, args, below, meth, c, A, nL, Q⟩ := κ
  exact fun H locs ls hP hD hS hl => W.lcmp C.1 C.2.1 d (kk H locs ls hP hD hS hl)
theorem pv_dup (C : pv_C l0 D tys κ cc own rm nl) {va : Value} (d : decode cc pc = .ok (.dup, 1)) (hva : va.category = 1) (kk : pv_V D κ cells slots LP f (pc + 1) lv (va :: va :: st)) : pv_V D κ cells slots LP f pc lv (va :: st) := by
  obtain ⟨p, l, e, R, s, m, args, below, meth, c, A, nL, Q⟩ := κ
  exact fun H locs ls hP hD hS hl => lv_dup C.1 C.2.1 d hva (kk H locs ls hP hD hS hl)
theorem pv_dup2 (C : pv_C l0 D tys κ cc own rm nl) {va vb : Value} (d : decode cc pc = .ok (.dup2, 1)) (hva : va.category = 1) (hvb : vb.category = 1) (kk : pv_V D κ cells slots LP f (pc + 1) lv (va :: vb :: va :: vb :: st)) : pv_V D κ cells slots LP f pc lv (va :: vb :: st) := by
  obtain ⟨p, l, e, R, s, m, args, below, meth, c, A, nL, Q⟩ := κ
  exact fun H locs ls hP hD hS hl => lv_dup2_11 C.1 C.2.1 d hva hvb (kk H locs ls hP hD hS hl)
theorem pv_goto (C : pv_C l0 D tys κ cc own rm nl) {off : Int} {tgt : Nat} (d : decode cc pc = .ok (.goto off, 3)) (ht : (pc : Int) + off = (tgt : Int)) (kk : pv_V D κ cells slots LP f tgt lv st) : pv_V D κ cells slots LP f pc lv st := by
  obtain ⟨p, l, e, R, s, m, args, below, meth, c, A, nL, Q⟩ := κ
  exact fun H locs ls hP hD hS hl => lv_goto C.1 C.2.1 d ht (kk H locs ls hP hD hS hl)
theorem pv_ifnull (C : pv_C l0 D tys κ cc own rm nl) {x : Nat} {off : Int} (d : decode cc pc = .ok (.ifnull off, 3)) (kk : pv_V D κ cells slots LP f (pc + 3) lv st) : pv_V D κ cells slots LP f pc lv (.ref x :: st) := by
  obtain ⟨p, l, e, R, s, m, args, below, meth, c, A, nL, Q⟩ := κ
  exact fun H locs ls hP hD hS hl => lv_ifnull C.1 C.2.1 d (kk H locs ls hP hD hS hl)
theorem pv_ifnonnull (C : pv_C l0 D tys κ cc own rm nl) {x : Nat} {off : Int} {tgt : Nat} (d : decode cc pc = .ok (.ifnonnull off, 3)) (ht : (pc : Int) + off = (tgt : Int)) (kk : pv_V D κ cells slots LP f tgt lv st) : pv_V D κ cells slots LP f pc lv (.ref x :: st) := by
  obtain ⟨p, l, e, R, s, m, args, below, meth, c, A, nL, Q⟩ := κ
  exact fun H locs ls hP hD hS hl => lv_ifnonnull C.1 C.2.1 d ht (kk H locs ls hP hD hS hl)
theorem pv_if_eq (C : pv_C l0 D tys κ cc own rm nl) {x : Int32} {off : Int} {tgt : Nat} (d : decode cc pc = .ok (.ifCond .eq off, 3)) (ht : (pc : Int) + off = (tgt : Int)) (kt : x = 0 → pv_V D κ cells slots LP f tgt lv st) (kf : ¬ x = 0 → pv_V D κ cells slots LP f (pc + 3) lv st) : pv_V D κ cells slots LP f pc lv (.int x :: st) := by
  obtain ⟨p, l, e, R, s, m, args, below, meth, c, A, nL, Q⟩ := κ
  exact fun H locs ls hP hD hS hl => lv_if_eq C.1 C.2.1 d ht (fun h => kt h H locs ls hP hD hS hl) (fun h => kf h H locs ls hP hD hS hl)
theorem pv_icmp_eq (C : pv_C l0 D tys κ cc own rm nl) {x y : Int32} {off : Int} {tgt : Nat} (d : decode cc pc = .ok (.if_icmp .eq off, 3)) (ht : (pc : Int) + off = (tgt : Int)) (kt : x = y → pv_V D κ cells slots LP f tgt lv st) (kf : ¬ x = y → pv_V D κ cells slots LP f (pc + 3) lv st) : pv_V D κ cells slots LP f pc lv (.int y :: .int x :: st) := by
  obtain ⟨p, l, e, R, s, m, args, below, meth, c, A, nL, Q⟩ := κ
  exact fun H locs ls hP hD hS hl => lv_icmp_eq C.1 C.2.1 d ht (fun h => kt h H locs ls hP hD hS hl) (fun h => kf h H locs ls hP hD hS hl)
theorem pv_if_ne (C : pv_C l0 D tys κ cc own rm nl) {x : Int32} {off : Int} {tgt : Nat} (d : decode cc pc = .ok (.ifCond .ne off, 3)) (ht : (pc : Int) + off = (tgt : Int)) (kt : ¬ x = 0 → pv_V D κ cells slots LP f tgt lv st) (kf : x = 0 → pv_V D κ cells slots LP f (pc + 3) lv st) : pv_V D κ cells slots LP f pc lv (.int x :: st) := by
  obtain ⟨p, l, e, R, s, m, args, below, meth, c, A, nL, Q⟩ := κ
  exact fun H locs ls hP hD hS hl => lv_if_ne C.1 C.2.1 d ht (fun h => kt h H locs ls hP hD hS hl) (fun h => kf h H locs ls hP hD hS hl)
theorem pv_icmp_ne (C : pv_C l0 D tys κ cc own rm nl) {x y : Int32} {off : Int} {tgt : Nat} (d : decode cc pc = .ok (.if_icmp .ne off, 3)) (ht : (pc : Int) + off = (tgt : Int)) (kt : ¬ x = y → pv_V D κ cells slots LP f tgt lv st) (kf : x = y → pv_V D κ cells slots LP f (pc + 3) lv st) : pv_V D κ cells slots LP f pc lv (.int y :: .int x :: st) := by
  obtain ⟨p, l, e, R, s, m, args, below, meth, c, A, nL, Q⟩ := κ
  exact fun H locs ls hP hD hS hl => lv_icmp_ne C.1 C.2.1 d ht (fun h => kt h H locs ls hP hD hS hl) (fun h => kf h H locs ls hP hD hS hl)
theorem pv_if_lt (C : pv_C l0 D tys κ cc own rm nl) {x : Int32} {off : Int} {tgt : Nat} (d : decode cc pc = .ok (.ifCond .lt off, 3)) (ht : (pc : Int) + off = (tgt : Int)) (kt : x < 0 → pv_V D κ cells slots LP f tgt lv st) (kf : ¬ x < 0 → pv_V D κ cells slots LP f (pc + 3) lv st) : pv_V D κ cells slots LP f pc lv (.int x :: st) := by
  obtain ⟨p, l, e, R, s, m, args, below, meth, c, A, nL, Q⟩ := κ
  exact fun H locs ls hP hD hS hl => lv_if_lt C.1 C.2.1 d ht (fun h => kt h H locs ls hP hD hS hl) (fun h => kf h H locs ls hP hD hS hl)
theorem pv_icmp_lt (C : pv_C l0 D tys κ cc own rm nl) {x y : Int32} {off : Int} {tgt : Nat} (d : decode cc pc = .ok (.if_icmp .lt off, 3)) (ht : (pc : Int) + off = (tgt : Int)) (kt : x < y → pv_V D κ cells slots LP f tgt lv st) (kf : ¬ x < y → pv_V D κ cells slots LP f (pc + 3) lv st) : pv_V D κ cells slots LP f pc lv (.int y :: .int x :: st) := by
  obtain ⟨p, l, e, R, s, m, args, below, meth, c, A, nL, Q⟩ := κ
  exact fun H locs ls hP hD hS hl => lv_icmp_lt C.1 C.2.1 d ht (fun h => kt h H locs ls hP hD hS hl) (fun h => kf h H locs ls hP hD hS hl)
theorem pv_if_ge (C : pv_C l0 D tys κ cc own rm nl) {x : Int32} {off : Int} {tgt : Nat} (d : decode cc pc = .ok (.ifCond .ge off, 3)) (ht : (pc : Int) + off = (tgt : Int)) (kt : 0 ≤ x → pv_V D κ cells slots LP f tgt lv st) (kf : ¬ 0 ≤ x → pv_V D κ cells slots LP f (pc + 3) lv st) : pv_V D κ cells slots LP f pc lv (.int x :: st) := by
  obtain ⟨p, l, e, R, s, m, args, below, meth, c, A, nL, Q⟩ := κ
  exact fun H locs ls hP hD hS hl => lv_if_ge C.1 C.2.1 d ht (fun h => kt h H locs ls hP hD hS hl) (fun h => kf h H locs ls hP hD hS hl)
theorem pv_icmp_ge (C : pv_C l0 D tys κ cc own rm nl) {x y : Int32} {off : Int} {tgt : Nat} (d : decode cc pc = .ok (.if_icmp .ge off, 3)) (ht : (pc : Int) + off = (tgt : Int)) (kt : y ≤ x → pv_V D κ cells slots LP f tgt lv st) (kf : ¬ y ≤ x → pv_V D κ cells slots LP f (pc + 3) lv st) : pv_V D κ cells slots LP f pc lv (.int y :: .int x :: st) := by
  obtain ⟨p, l, e, R, s, m, args, below, meth, c, A, nL, Q⟩ := κ
  exact fun H locs ls hP hD hS hl => lv_icmp_ge C.1 C.2.1 d ht (fun h => kt h H locs ls hP hD hS hl) (fun h => kf h H locs ls hP hD hS hl)
theorem pv_if_gt (C : pv_C l0 D tys κ cc own rm nl) {x : Int32} {off : Int} {tgt : Nat} (d : decode cc pc = .ok (.ifCond .gt off, 3)) (ht : (pc : Int) + off = (tgt : Int)) (kt : 0 < x → pv_V D κ cells slots LP f tgt lv st) (kf : ¬ 0 < x → pv_V D κ cells slots LP f (pc + 3) lv st) : pv_V D κ cells slots LP f pc lv (.int x :: st) := by
  obtain ⟨p, l, e, R, s, m, args, below, meth, c, A, nL, Q⟩ := κ
  exact fun H locs ls hP hD hS hl => lv_if_gt C.1 C.2.1 d ht (fun h => kt h H locs ls hP hD hS hl) (fun h => kf h H locs ls hP hD hS hl)
theorem pv_icmp_gt (C : pv_C l0 D tys κ cc own rm nl) {x y : Int32} {off : Int} {tgt : Nat} (d : decode cc pc = .ok (.if_icmp .gt off, 3)) (ht : (pc : Int) + off = (tgt : Int)) (kt : y < x → pv_V D κ cells slots LP f tgt lv st) (kf : ¬ y < x → pv_V D κ cells slots LP f (pc + 3) lv st) : pv_V D κ cells slots LP f pc lv (.int y :: .int x :: st) := by
  obtain ⟨p, l, e, R, s, m, args, below, meth, c, A, nL, Q⟩ := κ
  exact fun H locs ls hP hD hS hl => lv_icmp_gt C.1 C.2.1 d ht (fun h => kt h H locs ls hP hD hS hl) (fun h => kf h H locs ls hP hD hS hl)
theorem pv_if_le (C : pv_C l0 D tys κ cc own rm nl) {x : Int32} {off : Int} {tgt : Nat} (d : decode cc pc = .ok (.ifCond .le off, 3)) (ht : (pc : Int) + off = (tgt : Int)) (kt : x ≤ 0 → pv_V D κ cells slots LP f tgt lv st) (kf : ¬ x ≤ 0 → pv_V D κ cells slots LP f (pc + 3) lv st) : pv_V D κ cells slots LP f pc lv (.int x :: st) := by
  obtain ⟨p, l, e, R, s, m, args, below, meth, c, A, nL, Q⟩ := κ
  exact fun H locs ls hP hD hS hl => lv_if_le C.1 C.2.1 d ht (fun h => kt h H locs ls hP hD hS hl) (fun h => kf h H locs ls hP hD hS hl)
theorem pv_icmp_le (C : pv_C l0 D tys κ cc own rm nl) {x y : Int32} {off : Int} {tgt : Nat} (d : decode cc pc = .ok (.if_icmp .le off, 3)) (ht : (pc : Int) + off = (tgt : Int)) (kt : x ≤ y → pv_V D κ cells slots LP f tgt lv st) (kf : ¬ x ≤ y → pv_V D κ cells slots LP f (pc + 3) lv st) : pv_V D κ cells slots LP f pc lv (.int y :: .int x :: st) := by
  obtain ⟨p, l, e, R, s, m, args, below, meth, c, A, nL, Q⟩ := κ
  exact fun H locs ls hP hD hS hl => lv_icmp_le C.1 C.2.1 d ht (fun h => kt h H locs ls hP hD hS hl) (fun h => kf h H locs ls hP hD hS hl)
theorem pv_acmp_eq (C : pv_C l0 D tys κ cc own rm nl) {x y : Nat} {off : Int} {tgt : Nat} (d : decode cc pc = .ok (.if_acmp .eq off, 3)) (ht : (pc : Int) + off = (tgt : Int)) (kt : x = y → pv_V D κ cells slots LP f tgt lv st) (kf : ¬ x = y → pv_V D κ cells slots LP f (pc + 3) lv st) : pv_V D κ cells slots LP f pc lv (.ref y :: .ref x :: st) := by
  obtain ⟨p, l, e, R, s, m, args, below, meth, c, A, nL, Q⟩ := κ
  exact fun H locs ls hP hD hS hl => lv_acmp_eq (rx := some x) (ry := some y) C.1 C.2.1 d ht (fun h => kt (Option.some.inj h) H locs ls hP hD hS hl) (fun h => kf (fun q => h (congrArg some q)) H locs ls hP hD hS hl)
theorem pv_acmp_ne (C : pv_C l0 D tys κ cc own rm nl) {x y : Nat} {off : Int} {tgt : Nat} (d : decode cc pc = .ok (.if_acmp .ne off, 3)) (ht : (pc : Int) + off = (tgt : Int)) (kt : ¬ x = y → pv_V D κ cells slots LP f tgt lv st) (kf : x = y → pv_V D κ cells slots LP f (pc + 3) lv st) : pv_V D κ cells slots LP f pc lv (.ref y :: .ref x :: st) := by
  obtain ⟨p, l, e, R, s, m, args, below, meth, c, A, nL, Q⟩ := κ
  exact fun H locs ls hP hD hS hl => lv_acmp_ne (rx := some x) (ry := some y) C.1 C.2.1 d ht (fun h => kt (fun q => h (congrArg some q)) H locs ls hP hD hS hl) (fun h => kf (Option.some.inj h) H locs ls hP hD hS hl)
theorem nI_inj_toInt {x : Int32} {k : Nat} (hk : k < 2 ^ 31) (h : x.toInt = (k : Int)) : x = nI k := Int32.toInt_inj.mp (by rw [h, nI_toInt hk])
theorem pv_tsw (C : pv_C l0 D tys κ cc own rm nl) {dflt hi : Int} {offs : Array Int} {len n : Nat} {x : Int32} {td : Nat} (tg : Nat → Nat) (d : decode cc pc = .ok (.tableswitch dflt 0 hi offs, len)) (hhi : hi = (n : Int) - 1) (ho : ∀ k, k < n → ∃ off : Int, offs[k]? = some off ∧ (pc : Int) + off = (tg k : Int)) (hd : (pc : Int) + dflt = (td : Int)) (hn : n < 2 ^ 31)
    (kin : ∀ k, k < n → x = nI k → pv_V D κ cells slots LP f (tg k) lv st) (kout : (∀ k, k < n → ¬ x = nI k) → pv_V D κ cells slots LP f td lv st) : pv_V D κ cells slots LP f pc lv (.int x :: st) := by
  obtain ⟨p, l, e, R, s, m, args, below, meth, c, A, nL, Q⟩ := κ
  intro H locs ls hP hD hS hl
  by_cases h : x.toInt < 0 ∨ hi < x.toInt
  · refine lv_tableOut C.1 C.2.1 d h hd (kout ?_ H locs ls hP hD hS hl)
    intro k hk q
    subst q
    rw [nI_toInt (by omega)] at h
    omega
  · have h1 : ¬ x.toInt < 0 := fun q => h (Or.inl q)
    have h2 : ¬ hi < x.toInt := fun q => h (Or.inr q)
    have hk : x.toInt.toNat < n := by omega
    obtain ⟨off, e1, e2⟩ := ho _ hk
    exact lv_tableIn C.1 C.2.1 d h1 h2 (by rw [Int.sub_zero]; exact e1) e2 (kin _ hk (nI_inj_toInt (by omega) (by omega)) H locs ls hP hD hS hl)
theorem pv_get (C : pv_C l0 D tys κ cc own rm nl) {ref Cn : String} {Tb : u_T} {N ci index : Nat} (hin : ∀ w ∈ u_ws Cn Tb N, w ∈ Wg) {a : Nat} {fs : List Value} (hc : cls_[ci]? = some (Cn, Tb, N)) (ha : a ∈ LP) (hf : f a = .inr (ci, fs)) (k : Nat) (hk : k < N) (hlk : Cond.fieldLink own index ref (Tb k).2.1 (Tb k).2.2.1 ∈ Wg) (hr : (Tb k).1 = ref) {v : Value} (hv : fs[k]? = some v) (d : decode cc pc = .ok (.getfield index, 3)) (kk : pv_V D κ cells slots LP f (pc + 3) lv (v :: st)) : pv_V D κ cells slots LP f pc lv (.ref a :: st) := by
  obtain ⟨p, l, e, R, s, m, args, below, meth, c, A, nL, Q⟩ := κ
  intro H locs ls hP hD hS hl
  obtain ⟨k0, hk0⟩ := va_pl_get (X := []) (f := f) ha
  rw [hf] at hk0
  exact va_get C.1 C.2.1 C.2.2.2.2.1 hin C.2.2.2.1 C.2.2.2.2.2.1 hP k0 hk0 hc k hk (C.2.2.2.2.1 _ hlk) (fun x h => by rw [← hr]; exact h) hv d (kk H locs ls hP hD hS hl)
def pv_I (κ : pv_K) : Prop :=
  match κ with
  | (p, l, e, R, s, m, args, below, meth, c, A, nL, Q) => meth.name = "<init>"
theorem pv_put (C : pv_C l0 D tys κ cc own rm nl)  {ref Cn : String} {Tb : u_T} {N ci index : Nat} (hin : ∀ w ∈ u_ws Cn Tb N, w ∈ Wg) (ty0 : Nat → FieldType) (hty : ∀ k, k < N → parseFieldDescriptor (Tb k).2.2.1 = some (ty0 k)) (hnm : ∀ a, a < N → ∀ b, b < N → a ≠ b → (Tb a).2.1 ≠ (Tb b).2.1) {a : Nat} {fs : List Value} (hc : cls_[ci]? = some (Cn, Tb, N)) (ha : a ∈ LP) (hf : f a = .inr (ci, fs)) (k : Nat) (hk : k < N) (hlk : Cond.fieldLink own index ref (Tb k).2.1 (Tb k).2.2.1 ∈ Wg) (hr : (Tb k).1 = ref) (hfin : (Tb k).2.2.2 = false) {v : Value} (hn : narrow (ty0 k) v = v) (hfit : fits (ty0 k) v = true) (hlen : k < fs.length) (d : decode cc pc = .ok (.putfield index, 3)) (kk : pv_V D κ cells slots LP (va_up f a (.inr (ci, fs.set k v))) (pc + 3) lv st) : pv_V D κ cells slots LP f pc lv (v :: .ref a :: st) := by
  obtain ⟨p, l, e, R, s, m, args, below, meth, c, A, nL, Q⟩ := κ
  intro H locs ls hP hD hS hl
  obtain ⟨k0, hk0⟩ := va_pl_get (X := []) (f := f) ha
  have hk1 := hk0
  rw [hf] at hk0
  refine va_put C.1 C.2.1 C.2.2.2.2.1 hin ty0 hty hnm C.2.2.2.1 C.2.2.2.2.2.1 hP hD hS k0 hk0 hc k hk (C.2.2.2.2.1 _ hlk) (fun x h => by rw [← hr]; exact h) hfin (hty k hk) hn hfit hlen d (fun H1 locs1 hP1 hD1 hS1 => ?_)
  have e := va_pl_set (X := []) (e := .inr (ci, fs.set k v)) hD ha hk1
  exact kk H1 locs1 ls (by rw [show va_pl LP (va_up f a (.inr (ci, fs.set k v))) = _ from e.symm]; exact hP1) (by rw [show va_pl LP (va_up f a (.inr (ci, fs.set k v))) = _ from e.symm]; exact hD1) hS1 hl
theorem pv_putF (C : pv_C l0 D tys κ cc own rm nl) (hI : pv_I κ) {ref Cn : String} {Tb : u_T} {N ci index : Nat} (hin : ∀ w ∈ u_ws Cn Tb N, w ∈ Wg) (ty0 : Nat → FieldType) (hty : ∀ k, k < N → parseFieldDescriptor (Tb k).2.2.1 = some (ty0 k)) (hnm : ∀ a, a < N → ∀ b, b < N → a ≠ b → (Tb a).2.1 ≠ (Tb b).2.1) {a : Nat} {fs : List Value} (hc : cls_[ci]? = some (Cn, Tb, N)) (ha : a ∈ LP) (hf : f a = .inr (ci, fs)) (k : Nat) (hk : k < N) (hlk : Cond.fieldLink own index ref (Tb k).2.1 (Tb k).2.2.1 ∈ Wg) (hr : (Tb k).1 = ref) (hfin : (Tb k).2.2.2 = true) (hdecl : (Tb k).1 = own) {v : Value} (hn : narrow (ty0 k) v = v) (hfit : fits (ty0 k) v = true) (hlen : k < fs.length) (d : decode cc pc = .ok (.putfield index, 3)) (kk : pv_V D κ cells slots LP (va_up f a (.inr (ci, fs.set k v))) (pc + 3) lv st) : pv_V D κ cells slots LP f pc lv (v :: .ref a :: st) := by
  obtain ⟨p, l, e, R, s, m, args, below, meth, c, A, nL, Q⟩ := κ
  intro H locs ls hP hD hS hl
  obtain ⟨k0, hk0⟩ := va_pl_get (X := []) (f := f) ha
  have hk1 := hk0
  rw [hf] at hk0
  refine va_putF C.1 C.2.1 C.2.2.2.2.1 hin ty0 hty hnm C.2.2.2.1 C.2.2.2.2.2.1 hP hD hS k0 hk0 hc k hk (C.2.2.2.2.1 _ hlk) (fun x h => by rw [← hr]; exact h) hfin hI hdecl (hty k hk) hn hfit hlen d (fun H1 locs1 hP1 hD1 hS1 => ?_)
  have e := va_pl_set (X := []) (e := .inr (ci, fs.set k v)) hD ha hk1
  exact kk H1 locs1 ls (by rw [show va_pl LP (va_up f a (.inr (ci, fs.set k v))) = _ from e.symm]; exact hP1) (by rw [show va_pl LP (va_up f a (.inr (ci, fs.set k v))) = _ from e.symm]; exact hD1) hS1 hl
theorem pv_iald (C : pv_C l0 D tys κ cc own rm nl) (t0 : Nat) {cA : ClassId} {n a : Nat} {g : Nat → Int32} (ht : tys[t0]? = some (cA, .int)) (ha : a ∈ LP) (hf : f a = .inl (cA, n, .inl g)) {i : Int32} {j : Nat} (hi : i = nI j) (hj : j < n) (hn : n < 2 ^ 31) (d : decode cc pc = .ok (.iaload, 1)) (kk : pv_V D κ cells slots LP f (pc + 1) lv (.int (g j) :: st)) : pv_V D κ cells slots LP f pc lv (.int i :: .ref a :: st) := by
  obtain ⟨p, l, e, R, s, m, args, below, meth, c, A, nL, Q⟩ := κ
  intro H locs ls hP hD hS hl
  obtain ⟨k0, hk0⟩ := va_pl_get (X := []) (f := f) ha
  rw [hf] at hk0
  subst hi
  refine va_iald C.1 C.2.1 C.2.2.2.2.2.1 hP k0 t0 hk0 ht (vp_in_nI hj hn) d ?_
  rw [nI_clamp (by omega)]
  exact kk H locs ls hP hD hS hl
theorem pv_iast (C : pv_C l0 D tys κ cc own rm nl) (t0 : Nat) {cA : ClassId} {n a : Nat} {g : Nat → Int32} (ht : tys[t0]? = some (cA, .int)) (ha : a ∈ LP) (hf : f a = .inl (cA, n, .inl g)) {i : Int32} {x : Int32} {j : Nat} (hi : i = nI j) (hj : j < n) (hn : n < 2 ^ 31)  (d : decode cc pc = .ok (.iastore, 1)) (kk : pv_V D κ cells slots LP (va_up f a (.inl (cA, n, .inl (upd g j x)))) (pc + 1) lv st) : pv_V D κ cells slots LP f pc lv (.int x :: .int i :: .ref a :: st) := by
  obtain ⟨p, l, e, R, s, m, args, below, meth, c, A, nL, Q⟩ := κ
  intro H locs ls hP hD hS hl
  obtain ⟨k0, hk0⟩ := va_pl_get (X := []) (f := f) ha
  have hk1 := hk0
  rw [hf] at hk0
  subst hi
  refine va_iast C.1 C.2.1 C.2.2.2.2.2.1 hP hD hS k0 t0 hk0 ht (vp_in_nI hj hn) d (fun H1 locs1 hP1 hD1 hS1 => ?_)
  rw [nI_clamp (by omega)] at hP1 hD1
  have e := va_pl_set (X := []) (e := .inl (cA, n, .inl (upd g j x))) hD ha hk1
  exact kk H1 locs1 ls (by rw [show va_pl LP (va_up f a (.inl (cA, n, .inl (upd g j x)))) = _ from e.symm]; exact hP1) (by rw [show va_pl LP (va_up f a (.inl (cA, n, .inl (upd g j x)))) = _ from e.symm]; exact hD1) hS1 hl
theorem pv_zald (C : pv_C l0 D tys κ cc own rm nl) (t0 : Nat) {cA : ClassId} {n a : Nat} {g : Nat → Int32} (ht : tys[t0]? = some (cA, .boolean)) (ha : a ∈ LP) (hf : f a = .inl (cA, n, .inl g)) {i : Int32} {j : Nat} (hi : i = nI j) (hj : j < n) (hn : n < 2 ^ 31) (d : decode cc pc = .ok (.baload, 1)) (kk : pv_V D κ cells slots LP f (pc + 1) lv (.int (g j) :: st)) : pv_V D κ cells slots LP f pc lv (.int i :: .ref a :: st) := by
  obtain ⟨p, l, e, R, s, m, args, below, meth, c, A, nL, Q⟩ := κ
  intro H locs ls hP hD hS hl
  obtain ⟨k0, hk0⟩ := va_pl_get (X := []) (f := f) ha
  rw [hf] at hk0
  subst hi
  refine va_zald C.1 C.2.1 C.2.2.2.2.2.1 hP k0 t0 hk0 ht (vp_in_nI hj hn) d ?_
  rw [nI_clamp (by omega)]
  exact kk H locs ls hP hD hS hl
theorem pv_zast (C : pv_C l0 D tys κ cc own rm nl) (t0 : Nat) {cA : ClassId} {n a : Nat} {g : Nat → Int32} (ht : tys[t0]? = some (cA, .boolean)) (ha : a ∈ LP) (hf : f a = .inl (cA, n, .inl g)) {i : Int32} {x : Int32} {j : Nat} (hi : i = nI j) (hj : j < n) (hn : n < 2 ^ 31) (hx : vp_nar .boolean x = x) (d : decode cc pc = .ok (.bastore, 1)) (kk : pv_V D κ cells slots LP (va_up f a (.inl (cA, n, .inl (upd g j x)))) (pc + 1) lv st) : pv_V D κ cells slots LP f pc lv (.int x :: .int i :: .ref a :: st) := by
  obtain ⟨p, l, e, R, s, m, args, below, meth, c, A, nL, Q⟩ := κ
  intro H locs ls hP hD hS hl
  obtain ⟨k0, hk0⟩ := va_pl_get (X := []) (f := f) ha
  have hk1 := hk0
  rw [hf] at hk0
  subst hi
  refine va_zast C.1 C.2.1 C.2.2.2.2.2.1 hP hD hS k0 t0 hk0 ht (vp_in_nI hj hn) d (fun H1 locs1 hP1 hD1 hS1 => ?_)
  rw [nI_clamp (by omega), hx] at hP1 hD1
  have e := va_pl_set (X := []) (e := .inl (cA, n, .inl (upd g j x))) hD ha hk1
  exact kk H1 locs1 ls (by rw [show va_pl LP (va_up f a (.inl (cA, n, .inl (upd g j x)))) = _ from e.symm]; exact hP1) (by rw [show va_pl LP (va_up f a (.inl (cA, n, .inl (upd g j x)))) = _ from e.symm]; exact hD1) hS1 hl
theorem pv_lald (C : pv_C l0 D tys κ cc own rm nl) (t0 : Nat) {cA : ClassId} {n a : Nat} {g : Nat → Int64} (ht : tys[t0]? = some (cA, .long)) (ha : a ∈ LP) (hf : f a = .inl (cA, n, .inr (.inl g))) {i : Int32} {j : Nat} (hi : i = nI j) (hj : j < n) (hn : n < 2 ^ 31) (d : decode cc pc = .ok (.laload, 1)) (kk : pv_V D κ cells slots LP f (pc + 1) lv (.long (g j) :: st)) : pv_V D κ cells slots LP f pc lv (.int i :: .ref a :: st) := by
  obtain ⟨p, l, e, R, s, m, args, below, meth, c, A, nL, Q⟩ := κ
  intro H locs ls hP hD hS hl
  obtain ⟨k0, hk0⟩ := va_pl_get (X := []) (f := f) ha
  rw [hf] at hk0
  subst hi
  refine va_lald C.1 C.2.1 C.2.2.2.2.2.1 hP k0 t0 hk0 ht (vp_in_nI hj hn) d ?_
  rw [nI_clamp (by omega)]
  exact kk H locs ls hP hD hS hl
theorem pv_last (C : pv_C l0 D tys κ cc own rm nl) (t0 : Nat) {cA : ClassId} {n a : Nat} {g : Nat → Int64} (ht : tys[t0]? = some (cA, .long)) (ha : a ∈ LP) (hf : f a = .inl (cA, n, .inr (.inl g))) {i : Int32} {x : Int64} {j : Nat} (hi : i = nI j) (hj : j < n) (hn : n < 2 ^ 31)  (d : decode cc pc = .ok (.lastore, 1)) (kk : pv_V D κ cells slots LP (va_up f a (.inl (cA, n, .inr (.inl (vp_updL g j x))))) (pc + 1) lv st) : pv_V D κ cells slots LP f pc lv (.long x :: .int i :: .ref a :: st) := by
  obtain ⟨p, l, e, R, s, m, args, below, meth, c, A, nL, Q⟩ := κ
  intro H locs ls hP hD hS hl
  obtain ⟨k0, hk0⟩ := va_pl_get (X := []) (f := f) ha
  have hk1 := hk0
  rw [hf] at hk0
  subst hi
  refine va_last C.1 C.2.1 C.2.2.2.2.2.1 hP hD hS k0 t0 hk0 ht (vp_in_nI hj hn) d (fun H1 locs1 hP1 hD1 hS1 => ?_)
  rw [nI_clamp (by omega)] at hP1 hD1
  have e := va_pl_set (X := []) (e := .inl (cA, n, .inr (.inl (vp_updL g j x)))) hD ha hk1
  exact kk H1 locs1 ls (by rw [show va_pl LP (va_up f a (.inl (cA, n, .inr (.inl (vp_updL g j x))))) = _ from e.symm]; exact hP1) (by rw [show va_pl LP (va_up f a (.inl (cA, n, .inr (.inl (vp_updL g j x))))) = _ from e.symm]; exact hD1) hS1 hl
theorem pv_aald (C : pv_C l0 D tys κ cc own rm nl) (t0 : Nat) {cA : ClassId} {Cn : String} {n a : Nat} {g : Nat → Option Nat} (ht : tys[t0]? = some (cA, .object Cn)) (ha : a ∈ LP) (hf : f a = .inl (cA, n, .inr (.inr (.inr (.inr g))))) {i : Int32} {j b : Nat} (hi : i = nI j) (hj : j < n) (hn : n < 2 ^ 31) (hg : g j = some b) (d : decode cc pc = .ok (.aaload, 1)) (kk : pv_V D κ cells slots LP f (pc + 1) lv (.ref b :: st)) : pv_V D κ cells slots LP f pc lv (.int i :: .ref a :: st) := by
  obtain ⟨p, l, e, R, s, m, args, below, meth, c, A, nL, Q⟩ := κ
  intro H locs ls hP hD hS hl
  obtain ⟨k0, hk0⟩ := va_pl_get (X := []) (f := f) ha
  rw [hf] at hk0
  subst hi
  refine va_aldq C.1 C.2.1 C.2.2.2.2.2.1 hP k0 t0 hk0 ht (vp_in_nI hj hn) d ?_
  rw [nI_clamp (by omega), hg]
  exact kk H locs ls hP hD hS hl
theorem pv_aast (C : pv_C l0 D tys κ cc own rm nl) (t0 ci : Nat) {cA : ClassId} {r : vw_C} {n a v : Nat} {vs : List Value} {g : Nat → Option Nat} (ht : tys[t0]? = some (cA, .object r.1)) (ha : a ∈ LP) (hf : f a = .inl (cA, n, .inr (.inr (.inr (.inr g))))) (hv : v ∈ LP) (hfv : f v = .inr (ci, vs)) (hc : cls_[ci]? = some r) {i : Int32} {j : Nat} (hi : i = nI j) (hj : j < n) (hn : n < 2 ^ 31) (d : decode cc pc = .ok (.aastore, 1)) (kk : pv_V D κ cells slots LP (va_up f a (.inl (cA, n, .inr (.inr (.inr (.inr (va_up g j (some v)))))))) (pc + 1) lv st) : pv_V D κ cells slots LP f pc lv (.ref v :: .int i :: .ref a :: st) := by
  obtain ⟨p, l, e, R, s, m, args, below, meth, c, A, nL, Q⟩ := κ
  intro H locs ls hP hD hS hl
  obtain ⟨k0, hk0⟩ := va_pl_get (X := []) (f := f) ha
  obtain ⟨k9, hk9⟩ := va_pl_get (X := []) (f := f) hv
  have hk1 := hk0
  rw [hf] at hk0
  rw [hfv] at hk9
  subst hi
  refine va_astq C.1 C.2.1 C.2.2.2.2.2.1 hP hD hS k0 t0 k9 ci hk0 ht hk9 hc (vp_in_nI hj hn) d (fun H1 locs1 hP1 hD1 hS1 => ?_)
  rw [nI_clamp (by omega)] at hP1 hD1
  have e := va_pl_set (X := []) (e := .inl (cA, n, .inr (.inr (.inr (.inr (va_up g j (some v))))))) hD ha hk1
  exact kk H1 locs1 ls (by rw [show va_pl LP (va_up f a (.inl (cA, n, .inr (.inr (.inr (.inr (va_up g j (some v)))))))) = _ from e.symm]; exact hP1) (by rw [show va_pl LP (va_up f a (.inl (cA, n, .inr (.inr (.inr (.inr (va_up g j (some v)))))))) = _ from e.symm]; exact hD1) hS1 hl
theorem pv_alen (C : pv_C l0 D tys κ cc own rm nl) (t0 : Nat) {cA : ClassId} {a : Nat} {x : vp_A} {ty : FieldType} (ht : tys[t0]? = some (cA, ty)) (ha : a ∈ LP) (hf : f a = .inl (cA, x)) {v : Int32} (hv : Int32.ofNat x.1 = v) (d : decode cc pc = .ok (.arraylength, 1)) (kk : pv_V D κ cells slots LP f (pc + 1) lv (.int v :: st)) : pv_V D κ cells slots LP f pc lv (.ref a :: st) := by
  obtain ⟨p, l, e, R, s, m, args, below, meth, c, A, nL, Q⟩ := κ
  intro H locs ls hP hD hS hl
  obtain ⟨k0, hk0⟩ := va_pl_get (X := []) (f := f) ha
  rw [hf] at hk0
  exact va_alen C.1 C.2.1 C.2.2.2.2.2.1 hP k0 t0 hk0 ht hv d (kk H locs ls hP hD hS hl)
theorem pv_fresh {D : va_G} {cl : List vw_C} {LP : List Nat} {f : Nat → va_E} {A : Nat → Prop} {q : Nat} {e : va_E} {H : Heap} (hP : va_P D cl (va_pl LP f ++ [(q, e)]) H) (hD : va_D A (va_pl LP f ++ [(q, e)])) : q ∉ LP ∧ va_P D cl (va_pl (LP ++ [q]) (va_up f q e)) H ∧ va_D A (va_pl (LP ++ [q]) (va_up f q e)) := by
  have hq : q ∉ LP := va_pl_fresh2 (X := []) hD
  rw [← va_pl_push hq]
  exact ⟨hq, hP, hD⟩
theorem pv_new (C : pv_C l0 D tys κ cc own rm nl) {Cn : String} {Tb : u_T} {N ci index : Nat} (hin : ∀ w ∈ u_ws Cn Tb N, w ∈ Wg) (ty0 : Nat → FieldType) (hty : ∀ k, k < N → parseFieldDescriptor (Tb k).2.2.1 = some (ty0 k)) (hc : cls_[ci]? = some (Cn, Tb, N)) (hcl : Cond.classLink own index Cn ∈ Wg) (his : Cond.instantiable Cn N ∈ Wg) (hini : Cond.initialized Cn ∈ Wg) {fs : List Value} (hfs : ∀ j, j < N → defaultValue (ty0 j) = vp_V fs j) (hcells : cells + 1 ≤ rm.cells) (hslots : slots + N ≤ rm.slots) (d : decode cc pc = .ok (.new index, 3))
    (kk : ∀ q, q ∉ LP → pv_V D κ (cells + 1) (slots + N) (LP ++ [q]) (va_up f q (.inr (ci, fs))) (pc + 3) lv (.ref q :: st)) : pv_V D κ cells slots LP f pc lv st := by
  obtain ⟨p, l, e, R, s, m, args, below, meth, c, A, nL, Q⟩ := κ
  intro H locs ls hP hD hS hl
  have hR : R = rm := C.2.2.2.2.2.2.2.1
  subst hR
  refine va_new C.1 C.2.1 C.2.2.2.2.1 hin ty0 hty C.2.2.2.1 (C.2.2.2.2.1 _ hcl) (C.2.2.2.2.1 _ his) (C.2.2.2.2.1 _ hini) C.2.2.2.2.2.1 hP hD hS C.2.2.2.2.2.2.1 hc hfs hcells hslots d (fun q H1 hP1 hD1 hS1 => ?_)
  obtain ⟨h1, h2, h3⟩ := pv_fresh hP1 hD1
  exact kk q h1 H1 locs ls h2 h3 hS1 hl
theorem pv_K_same {D : va_G} {cl : List vw_C} {tys : List (ClassId × FieldType)} {s : State} {cA cB : ClassId} {ty : FieldType} {t0 : Nat} (h : va_K D cl (tys ++ [(cA, ty)]) s) (ht : tys[t0]? = some (cB, ty)) : cA = cB := by
  have h1 : (tys ++ [(cA, ty)])[tys.length]? = some (cA, ty) := by rw [List.getElem?_append_right (Nat.le_refl _), Nat.sub_self]; rfl
  have h2 : (tys ++ [(cA, ty)])[t0]? = some (cB, ty) := by rw [List.getElem?_append_left (List.getElem?_eq_some_iff.mp ht).1]; exact ht
  have a := (h.2 _ _ h1).2
  have b := (h.2 _ _ h2).2
  cases ty with
  | object C =>
    obtain ⟨_, _, _, _, _, a4⟩ := a
    obtain ⟨_, _, _, _, _, b4⟩ := b
    exact Option.some.inj (a4.symm.trans b4)
  | _ => exact Option.some.inj ((show s.vm.findClass _ = some cA from a).symm.trans b)
theorem pv_newq (C : pv_C l0 D tys κ cc own rm nl) (t0 : Nat) {Cn : String} {cA : ClassId} {index : Nat} (ht : tys[t0]? = some (cA, .object Cn)) (hcl : Cond.classLink own index Cn ∈ Wg) (hao : Cn = RA ∨ Cn = RU ∨ Cn = RN) {n : Int32} {N : Nat} (hn : n = nI N) (hN : N ≤ 1000) (hcells : cells + 1 ≤ rm.cells) (hslots : slots + N ≤ rm.slots) (d : decode cc pc = .ok (.anewarray index, 3))
    (kk : ∀ q, q ∉ LP → pv_V D κ (cells + 1) (slots + N) (LP ++ [q]) (va_up f q (.inl (cA, N, .inr (.inr (.inr (.inr (fun _ => none))))))) (pc + 3) lv (.ref q :: st)) : pv_V D κ cells slots LP f pc lv (.int n :: st) := by
  obtain ⟨p, l, e, R, s, m, args, below, meth, c, A, nL, Q⟩ := κ
  intro H locs ls hP hD hS hl
  have hR : R = rm := C.2.2.2.2.2.2.2.1
  subst hR
  subst hn
  have hE : pv_E A s s.heap := C.2.2.2.2.2.2.2.2.2.2.1
  have hao' : va_AO Cn s := by
    rcases hao with h | h | h
    · rw [h]; exact hE.2.2.2.2.2.1
    · rw [h]; exact hE.2.2.2.2.2.2.1
    · rw [h]; exact hE.2.2.2.2.2.2.2.1
  refine va_newq C.1 C.2.1 C.2.2.2.1 (C.2.2.2.2.1 _ hcl) hao' C.2.2.2.2.2.1 hP hD hS C.2.2.2.2.2.2.1 (nI_pos (by omega)) (nI_clamp (by omega)) (by omega) hcells hslots d (fun q cB H1 hK1 hP1 hD1 hS1 => ?_)
  cases pv_K_same hK1 ht
  obtain ⟨h1, h2, h3⟩ := pv_fresh hP1 hD1
  exact kk q h1 H1 locs ls h2 h3 hS1 hl
theorem pv_newai (C : pv_C l0 D tys κ cc own rm nl) (t0 : Nat) {cA : ClassId} (ht : tys[t0]? = some (cA, .int)) (hw : Cond.arrayClass .int ∈ Wg) {n : Int32} {N : Nat} (hn : n = nI N) (hN : N ≤ 1000) (hcells : cells + 1 ≤ rm.cells) (hslots : slots + N ≤ rm.slots) (d : decode cc pc = .ok (.newarray .int, 2))
    (kk : ∀ q, q ∉ LP → pv_V D κ (cells + 1) (slots + N) (LP ++ [q]) (va_up f q (.inl (cA, N, .inl (fun _ => 0)))) (pc + 2) lv (.ref q :: st)) : pv_V D κ cells slots LP f pc lv (.int n :: st) := by
  obtain ⟨p, l, e, R, s, m, args, below, meth, c, A, nL, Q⟩ := κ
  intro H locs ls hP hD hS hl
  have hR : R = rm := C.2.2.2.2.2.2.2.1
  subst hR
  subst hn
  refine va_newa (atype := .int) (ty := .int) (a0 := (N, .inl (fun _ => 0))) C.1 C.2.1 (C.2.2.2.2.1 _ hw) rfl C.2.2.2.2.2.1 hP hD hS C.2.2.2.2.2.2.1 (fun _ => rfl) (nI_pos (by omega)) (nI_clamp (by omega)) (by simp only [componentBytes]; omega) hcells hslots d (fun q cB H1 hK1 hP1 hD1 hS1 => ?_)
  cases pv_K_same hK1 ht
  obtain ⟨h1, h2, h3⟩ := pv_fresh hP1 hD1
  exact kk q h1 H1 locs ls h2 h3 hS1 hl
theorem pv_newaz (C : pv_C l0 D tys κ cc own rm nl) (t0 : Nat) {cA : ClassId} (ht : tys[t0]? = some (cA, .boolean)) (hw : Cond.arrayClass .boolean ∈ Wg) {n : Int32} {N : Nat} (hn : n = nI N) (hN : N ≤ 1000) (hcells : cells + 1 ≤ rm.cells) (hslots : slots + N ≤ rm.slots) (d : decode cc pc = .ok (.newarray .boolean, 2))
    (kk : ∀ q, q ∉ LP → pv_V D κ (cells + 1) (slots + N) (LP ++ [q]) (va_up f q (.inl (cA, N, .inl (fun _ => 0)))) (pc + 2) lv (.ref q :: st)) : pv_V D κ cells slots LP f pc lv (.int n :: st) := by
  obtain ⟨p, l, e, R, s, m, args, below, meth, c, A, nL, Q⟩ := κ
  intro H locs ls hP hD hS hl
  have hR : R = rm := C.2.2.2.2.2.2.2.1
  subst hR
  subst hn
  refine va_newa (atype := .boolean) (ty := .boolean) (a0 := (N, .inl (fun _ => 0))) C.1 C.2.1 (C.2.2.2.2.1 _ hw) rfl C.2.2.2.2.2.1 hP hD hS C.2.2.2.2.2.2.1 (fun _ => rfl) (nI_pos (by omega)) (nI_clamp (by omega)) (by simp only [componentBytes]; omega) hcells hslots d (fun q cB H1 hK1 hP1 hD1 hS1 => ?_)
  cases pv_K_same hK1 ht
  obtain ⟨h1, h2, h3⟩ := pv_fresh hP1 hD1
  exact kk q h1 H1 locs ls h2 h3 hS1 hl
theorem pv_newal (C : pv_C l0 D tys κ cc own rm nl) (t0 : Nat) {cA : ClassId} (ht : tys[t0]? = some (cA, .long)) (hw : Cond.arrayClass .long ∈ Wg) {n : Int32} {N : Nat} (hn : n = nI N) (hN : N ≤ 1000) (hcells : cells + 1 ≤ rm.cells) (hslots : slots + N ≤ rm.slots) (d : decode cc pc = .ok (.newarray .long, 2))
    (kk : ∀ q, q ∉ LP → pv_V D κ (cells + 1) (slots + N) (LP ++ [q]) (va_up f q (.inl (cA, N, .inr (.inl (fun _ => 0))))) (pc + 2) lv (.ref q :: st)) : pv_V D κ cells slots LP f pc lv (.int n :: st) := by
  obtain ⟨p, l, e, R, s, m, args, below, meth, c, A, nL, Q⟩ := κ
  intro H locs ls hP hD hS hl
  have hR : R = rm := C.2.2.2.2.2.2.2.1
  subst hR
  subst hn
  refine va_newa (atype := .long) (ty := .long) (a0 := (N, .inr (.inl (fun _ => 0)))) C.1 C.2.1 (C.2.2.2.2.1 _ hw) rfl C.2.2.2.2.2.1 hP hD hS C.2.2.2.2.2.2.1 (fun _ => rfl) (nI_pos (by omega)) (nI_clamp (by omega)) (by simp only [componentBytes]; omega) hcells hslots d (fun q cB H1 hK1 hP1 hD1 hS1 => ?_)
  cases pv_K_same hK1 ht
  obtain ⟨h1, h2, h3⟩ := pv_fresh hP1 hD1
  exact kk q h1 H1 locs ls h2 h3 hS1 hl
end PV
