/-! calls, ends and throws over pools -/
section PW
variable {l0 : Launch} {D : va_G} {tys : List (ClassId × FieldType)} {κ : pv_K} {cc : ByteArray} {own : String} {rm : Room} {nl : Nat} {cells slots : Nat} {LP : List Nat} {f : Nat → va_E} {pc : Nat} {lv lv' : List (Nat × Value)} {st : List Value}
theorem wg_in {y : MethodName} {bytes : ByteArray} {maxL : Nat} {ret : Option FieldType} (h : Cond.code y bytes maxL ret ∈ Wg) : GoodIn Wg (Cond.code y bytes maxL ret :: Wg) := fun w hw => by
  rcases List.mem_cons.mp hw with e | e
  · rw [e]; exact ⟨h, wg_good h⟩
  · exact ⟨e, wg_good e⟩
theorem pv_poolA {A : Nat → Prop} {s : State} {H : Heap} {locs : List Loc} {LP : List Nat} {f : Nat → va_E} (hD : va_D A (va_pl LP f)) (hS : va_S A s.heap H locs) (hA : ∀ q, s.heap.size ≤ q → A q) : ∀ q, va_A (va_pl LP f) H.size q → A q := by
  intro q h
  rcases h with ⟨k, e, h⟩ | h
  · exact hD.2 _ (q, e) h
  · exact hA q (Nat.le_trans hS.1 h)
/-- behind a call: it returned, or threw with nothing changed -/
theorem pv_back {p : Program} {l : Launch} {e : Env} {R : Room} {s : State} {m : MethodId} {args : Array Value} {below : List Frame} {meth : Method} {c : Code} {A : Nat → Prop} {Q : State → Prop} {H : Heap} {locs : List Loc} {mc ms : Nat} {ls : Array Slot} {st0 rest : List Value} {a : Array Value} {P : Option Value → List Nat → (Nat → va_E) → Prop} {X : String → Prop}
    (hD : va_D A (va_pl LP f)) (hS : va_S A s.heap H locs) (hA : ∀ q, s.heap.size ≤ q → A q)
    (hr : vx_Run p l e R s m args below meth c H locs cells slots mc ms (F0 m pc ls st0) rest (pv_Qc D LP f H.size P a) (pv_Xc D LP f H.size X) (va_A (va_pl LP f) H.size))
    (kx : ∀ (E : String) (ce : Cell) (q9 : Addr) (H1 : Heap) (locs1 : List Loc), X E → va_P D cls_ (va_pl LP f) H1 → va_S A s.heap H1 locs1 → H1[q9]? = some ce → ce.vm = .none → s.vm.findClass E = some ce.cls → vx_W p l e R s m args below meth c H1 locs1 (cells + mc) (slots + ms) Q (F0 m pc ls rest) q9)
    (kk : ∀ (v : Option Value) (LP1 : List Nat) (f1 : Nat → va_E) (H1 : Heap) (locs1 : List Loc), P v LP1 f1 → va_P D cls_ (va_pl LP1 f1) H1 → va_D A (va_pl LP1 f1) → va_S A s.heap H1 locs1 → W p l e R s m args below meth c H1 locs1 (cells + mc) (slots + ms) Q (F0 m (pc + 3) ls (v.toList ++ rest))) :
    W p l e R s m args below meth c H locs cells slots Q (F0 m pc ls st0) := by
  have hF := pv_poolA hD hS hA
  intro T hT X0
  rcases hr T hT X0 with ⟨v, st₀, t, T', L, h0, X', hL, e1, e2, ⟨⟨v', LP1, f1, hv, hp, hb, hd⟩, hFr⟩, stp⟩ | ⟨q, st₀, t, T', L, E, ce, h0, X', hL, e1, e2, ⟨hX, hb, hFr⟩, hce, hcv, hcl, stp⟩
  · cases hv
    obtain ⟨k1, k2, k3⟩ := vx_keep h0 e1 hS (fun q _ h => hF q h) hF hL hFr
    obtain ⟨t2, a1, b1⟩ := kk v LP1 f1 T'.heap (locs ++ L) hp (by rw [e1]; exact hb) (hd.weaken (fun _ q _ h => hF q.1 h)) k3 T' rfl X'
    exact ⟨t2, stp t2 a1, b1⟩
  · obtain ⟨k1, k2, k3⟩ := vx_keep h0 e1 hS (fun q _ h => hF q h) hF hL hFr
    obtain ⟨t2, a1, b1⟩ := kx E ce q T'.heap (locs ++ L) hX (by rw [e1]; exact hb) k3 (by rw [e1]; exact hce) hcv hcl T' rfl X'
    exact ⟨t2, stp.trans a1, b1⟩
/-- the start of a callee -/
theorem pv_pre {s : State} {args : Array Value} {A : Nat → Prop} {H : Heap} {locs : List Loc} {av : List Value} (hP : va_P D cls_ (va_pl LP f) H) (hD : va_D A (va_pl LP f)) (hS : va_S A s.heap H locs) (hA : ∀ q, s.heap.size ≤ q → A q) (hK : va_K D cls_ tys s) (hE : pv_E A s s.heap) : PreS s H (pv_Pc D tys av LP f H.size) av :=
  ⟨pv_Pc.blind, fun U hU hW => ⟨rfl, by rw [hU], by rw [hU]; exact hP, va_K.moved hW.alike hK, hD.weaken (fun _ _ _ _ => trivial), hE.mv hW (fun a h1 h2 => by rw [hU]; exact hS.2.1 a h1 h2) (pv_poolA hD hS hA)⟩⟩
/-- not caught in a method without handlers, the pool as at the start -/
theorem pv_thr {p : Program} {l : Launch} {e : Env} {R : Room} {s : State} {m : MethodId} {args : Array Value} {below : List Frame} {meth : Method} {c : Code} {H : Heap} {locs : List Loc} {ls : Array Slot} {st0 : List Value} {P : Option Value → List Nat → (Nat → va_E) → Prop} {X : String → Prop} {E : String} {ce : Cell} {q : Addr} {mc ms : Nat}
    (hN : ∀ x ∈ c.exceptionTable.toList, False) (hlocks : meth.locks = false) (hcell : H[q]? = some ce) (hv : ce.vm = .none) (hcl : s.vm.findClass E = some ce.cls) (hX : X E) (hP : va_P D cls_ (va_pl LP f) H) (hS : va_S (va_A (va_pl LP f) s.heap.size) s.heap H locs) (hc : cells ≤ mc) (hs : slots ≤ ms) :
    vx_W p l e R s m args below meth c H locs cells slots (vx_MQ below (pv_Qc D LP f s.heap.size P) (pv_Xc D LP f s.heap.size X) args s mc ms (va_A (va_pl LP f) s.heap.size)) (F0 m pc ls st0) q :=
  vx_out (fun x hx => (hN x hx).elim) hlocks hcell hv hcl (fun t ht _ => ⟨hX, by rw [ht]; exact hP, hS.F ht⟩) hS.2.2 hc hs
theorem pv_callV (C : pv_C l0 D tys κ cc own rm nl) {y : MethodName} {bytes : ByteArray} {maxL : Nat} {ret : Option FieldType} {rmy : Room} {index n : Nat} {As rest : List Value} {P P0 : Option Value → List Nat → (Nat → va_E) → Prop} {X X0 : String → Prop} {LP0 : List Nat} {f0 : Nat → va_E} {ret0 : Option FieldType} {b ci : Nat} {fs : List Value} {qc : vw_C} (hM : pv_M l0 D tys y (Cond.code y bytes maxL ret) rmy (.ref b :: As) LP f P X) (hcd : Cond.code y bytes maxL ret ∈ Wg) (hlk : Cond.methodLink own index y ∈ Wg) (hini : Cond.initialized y.cls ∈ Wg) (him : Cond.instanceMethod y ∈ Wg) (hse : Cond.selects y.cls y y ∈ Wg) (hbL : b ∈ LP) (hfb : f b = .inr (ci, fs)) (hc : cls_[ci]? = some qc) (hqc : qc.1 = y.cls)
    (hy : y.cls ≠ "java/lang/invoke/MethodHandle" ∧ y.cls ≠ "java/lang/invoke/VarHandle" ∧ (parseMethodDescriptor y.desc).map (fun d => d.parameters.length) = some n) (hR : rmy.frames + 1 ≤ rm.frames ∧ 8 + (maxL + 11) + rmy.locals ≤ rm.locals) (hn : As.length = n) (hsum : (rest.map fun v => v.category).sum ≤ 8) (hst : st = As.reverse ++ .ref b :: rest) (d : decode cc pc = .ok (.invokevirtual index, 3)) (hf : cells + rmy.cells ≤ rm.cells ∧ slots + rmy.slots ≤ rm.slots)
    (hN : pv_N κ) (R0 : pv_R κ D LP0 f0 P0 X0 ret0) (kx : ∀ E, X E → X0 E ∧ LP = LP0 ∧ f = f0) (kk : ∀ v LP1 f1, P v LP1 f1 → pv_V D κ (cells + rmy.cells) (slots + rmy.slots) LP1 f1 (pc + 3) lv (v.toList ++ rest)) : pv_V D κ cells slots LP f pc lv st := by
  obtain ⟨p, l, e, R, s, m, args, below, meth, c, A, nL, Q⟩ := κ
  obtain ⟨hx, hb, hml, hown, hts, hK, hA, hRe, hnl, hlocks, hE, htr, hl0⟩ := C
  obtain ⟨hr0, hQ, hAe⟩ := R0
  subst hRe
  subst hl0
  subst hst
  intro H locs ls hP hD hS hl
  obtain ⟨k0, hk0⟩ := va_pl_get (X := []) (f := f) hbL
  rw [hfb] at hk0
  have hpre := pv_pre (args := args) (tys := tys) (av := .ref b :: As) hP hD hS hA hK hE
  refine pv_back hD hS hA (vx_runV (Ts := Wg) ⟨hx, hb, hml, hown, hts⟩ (hM H.size) ⟨callB_of n hts (wg_in hcd) rfl rfl rfl (hts _ hini) (hts _ hlk) hy hR, hts _ him, hts _ hse⟩ ⟨hpre.1, by rw [← hqc]; exact va_recv hK hP hc hk0, hpre.2⟩ rfl hn hl.1 rfl (lv_room hsum) d hf) (fun E ce q9 H1 locs1 hX hP1 hS1 h1 h2 h3 => ?_) (fun v LP1 f1 H1 locs1 hp hP1 hD1 hS1 => kk v LP1 f1 hp H1 locs1 ls hP1 hD1 hS1 hl)
  obtain ⟨g1, g2, g3⟩ := kx E hX
  subst g2
  subst g3
  subst hQ
  subst hAe
  exact pv_thr hN hlocks h1 h2 h3 g1 hP1 hS1 hf.1 hf.2
theorem pv_callS (C : pv_C l0 D tys κ cc own rm nl) {y : MethodName} {bytes : ByteArray} {maxL : Nat} {ret : Option FieldType} {rmy : Room} {index n : Nat} {As rest : List Value} {P P0 : Option Value → List Nat → (Nat → va_E) → Prop} {X X0 : String → Prop} {LP0 : List Nat} {f0 : Nat → va_E} {ret0 : Option FieldType}  (hM : pv_M l0 D tys y (Cond.code y bytes maxL ret) rmy (As) LP f P X) (hcd : Cond.code y bytes maxL ret ∈ Wg) (hlk : Cond.methodLink own index y ∈ Wg) (hini : Cond.initialized y.cls ∈ Wg) (hsm : Cond.static y ∈ Wg)
    (hy : y.cls ≠ "java/lang/invoke/MethodHandle" ∧ y.cls ≠ "java/lang/invoke/VarHandle" ∧ (parseMethodDescriptor y.desc).map (fun d => d.parameters.length) = some n) (hR : rmy.frames + 1 ≤ rm.frames ∧ 8 + (maxL + 11) + rmy.locals ≤ rm.locals) (hn : As.length = n) (hsum : (rest.map fun v => v.category).sum ≤ 8) (hst : st = As.reverse ++ rest) (d : decode cc pc = .ok (.invokestatic index, 3)) (hf : cells + rmy.cells ≤ rm.cells ∧ slots + rmy.slots ≤ rm.slots)
    (hN : pv_N κ) (R0 : pv_R κ D LP0 f0 P0 X0 ret0) (kx : ∀ E, X E → X0 E ∧ LP = LP0 ∧ f = f0) (kk : ∀ v LP1 f1, P v LP1 f1 → pv_V D κ (cells + rmy.cells) (slots + rmy.slots) LP1 f1 (pc + 3) lv (v.toList ++ rest)) : pv_V D κ cells slots LP f pc lv st := by
  obtain ⟨p, l, e, R, s, m, args, below, meth, c, A, nL, Q⟩ := κ
  obtain ⟨hx, hb, hml, hown, hts, hK, hA, hRe, hnl, hlocks, hE, htr, hl0⟩ := C
  obtain ⟨hr0, hQ, hAe⟩ := R0
  subst hRe
  subst hl0
  subst hst
  intro H locs ls hP hD hS hl
  have hpre := pv_pre (args := args) (tys := tys) (av := As) hP hD hS hA hK hE
  refine pv_back hD hS hA (vx_runS (Ts := Wg) ⟨hx, hb, hml, hown, hts⟩ (hM H.size) ⟨callB_of n hts (wg_in hcd) rfl rfl rfl (hts _ hini) (hts _ hlk) hy hR, hts _ hsm⟩ hpre rfl hn hl.1 rfl (lv_room hsum) d hf) (fun E ce q9 H1 locs1 hX hP1 hS1 h1 h2 h3 => ?_) (fun v LP1 f1 H1 locs1 hp hP1 hD1 hS1 => kk v LP1 f1 hp H1 locs1 ls hP1 hD1 hS1 hl)
  obtain ⟨g1, g2, g3⟩ := kx E hX
  subst g2
  subst g3
  subst hQ
  subst hAe
  exact pv_thr hN hlocks h1 h2 h3 g1 hP1 hS1 hf.1 hf.2
theorem pv_M.met {l : Launch} {y : MethodName} {w0 : Cond} {av : List Value} {P : Option Value → List Nat → (Nat → va_E) → Prop} (h : pv_M l D tys y w0 rm av LP f P (fun _ => False)) (sz : Nat) : Met l y (w0 :: Wg) rm (pv_Pc D tys av LP f sz) (pv_Qc D LP f sz P) rm.cells rm.slots (va_A (va_pl LP f) sz) := by
  intro p e h1 h2 h3 s m args below h4 h5 h6 h7
  obtain ⟨n, o, g1, g2, g3, g4⟩ := h sz p e h1 h2 h3 s m args below h4 h5 h6 h7
  rcases g4 with g4 | ⟨q, -, E, ce, L, ⟨hx, -⟩, -⟩
  · exact ⟨n, o, g1, g2, g3, g4⟩
  · exact hx.elim
theorem pv_run {p : Program} {l : Launch} {e : Env} {R : Room} {s : State} {m : MethodId} {args : Array Value} {below : List Frame} {meth : Method} {c : Code} {H : Heap} {locs : List Loc} {mc ms : Nat} {g : JFrame} {rest : List Value} {Qa : State → Outcome → State → Prop} {XC : String → State → State → Prop} {free : Addr → Prop}
    (h : va_Run p l e R s m args below meth c H locs cells slots mc ms g rest Qa free) : vx_Run p l e R s m args below meth c H locs cells slots mc ms g rest Qa XC free := fun T hT X0 => Or.inl (h T hT X0)
theorem pv_callI (C : pv_C l0 D tys κ cc own rm nl) {y : MethodName} {bytes : ByteArray} {maxL : Nat} {ret : Option FieldType} {rmy : Room} {index n : Nat} {As rest : List Value} {P P0 : Option Value → List Nat → (Nat → va_E) → Prop} {X X0 : String → Prop} {LP0 : List Nat} {f0 : Nat → va_E} {ret0 : Option FieldType} {b : Nat} (hM : pv_M l0 D tys y (Cond.code y bytes maxL none) rmy (.ref b :: As) LP f P (fun _ => False)) (hcd : Cond.code y bytes maxL none ∈ Wg) (hlk : Cond.methodLink own index y ∈ Wg) (hini : Cond.initialized y.cls ∈ Wg) (him : Cond.instanceMethod y ∈ Wg) (hy1 : y.name = "<init>")
    (hy : y.cls ≠ "java/lang/invoke/MethodHandle" ∧ y.cls ≠ "java/lang/invoke/VarHandle" ∧ (parseMethodDescriptor y.desc).map (fun d => d.parameters.length) = some n) (hR : rmy.frames + 1 ≤ rm.frames ∧ 8 + (maxL + 11) + rmy.locals ≤ rm.locals) (hn : As.length = n) (hsum : (rest.map fun v => v.category).sum ≤ 8) (hst : st = As.reverse ++ .ref b :: rest) (d : decode cc pc = .ok (.invokespecial index, 3)) (hf : cells + rmy.cells ≤ rm.cells ∧ slots + rmy.slots ≤ rm.slots)
    (hN : pv_N κ) (R0 : pv_R κ D LP0 f0 P0 X0 ret0) (kx : ∀ E, False → X0 E ∧ LP = LP0 ∧ f = f0) (kk : ∀ v LP1 f1, P v LP1 f1 → pv_V D κ (cells + rmy.cells) (slots + rmy.slots) LP1 f1 (pc + 3) lv (v.toList ++ rest)) : pv_V D κ cells slots LP f pc lv st := by
  obtain ⟨p, l, e, R, s, m, args, below, meth, c, A, nL, Q⟩ := κ
  obtain ⟨hx, hb, hml, hown, hts, hK, hA, hRe, hnl, hlocks, hE, htr, hl0⟩ := C
  obtain ⟨hr0, hQ, hAe⟩ := R0
  subst hRe
  subst hl0
  subst hst
  intro H locs ls hP hD hS hl
  have hpre := pv_pre (args := args) (tys := tys) (av := .ref b :: As) hP hD hS hA hK hE
  refine pv_back (X := fun _ => False) hD hS hA (pv_run (va_runI (Ts := Wg) ⟨hx, hb, hml, hown, hts⟩ (hM.met H.size) ⟨callB_of n hts (wg_in hcd) rfl rfl rfl (hts _ hini) (hts _ hlk) hy hR, hy1, hts _ him⟩ hpre rfl hn hl.1 rfl (lv_room hsum) d hf)) (fun E ce q9 H1 locs1 hX hP1 hS1 h1 h2 h3 => ?_) (fun v LP1 f1 H1 locs1 hp hP1 hD1 hS1 => kk v LP1 f1 hp H1 locs1 ls hP1 hD1 hS1 hl)
  obtain ⟨g1, g2, g3⟩ := kx E hX
  subst g2
  subst g3
  subst hQ
  subst hAe
  exact pv_thr hN hlocks h1 h2 h3 g1 hP1 hS1 hf.1 hf.2
theorem pv_objInit (C : pv_C l0 D tys κ cc own rm nl) {index a : Nat} {rest : List Value} (hlk : Cond.methodLink own index objectInit ∈ Wg) (d : decode cc pc = .ok (.invokespecial index, 3)) (hf : 1 ≤ rm.frames) (hl9 : (rest.map fun v => v.category).sum + 12 ≤ rm.locals) (kk : pv_V D κ cells slots LP f (pc + 3) lv rest) : pv_V D κ cells slots LP f pc lv (.ref a :: rest) := by
  obtain ⟨p, l, e, R, s, m, args, below, meth, c, A, nL, Q⟩ := κ
  obtain ⟨hx, hb, hml, hown, hts, hK, hA, hRe, hnl, hlocks, hE, htr, hl0⟩ := C
  subst hRe
  intro H locs ls hP hD hS hl
  refine W.objInit hx hb hown (hts _ hlk) (hts _ oi_im) (hts _ oi_cd) rfl (by rw [hml]; exact hl.1) rfl d hf (by show 2 * 0 + _ + 12 ≤ _; omega) ?_
  exact kk H locs ls hP hD hS hl
theorem pv_mmax (C : pv_C l0 D tys κ cc own rm nl) {index : Nat} {x y : Int32} (hlk : Cond.methodLink own index Lib.Math.max.name ∈ Wg) (hf : 1 ≤ rm.frames) (hl9 : (st.map fun v => v.category).sum + 13 ≤ rm.locals) (hc : cells ≤ rm.cells) (hs : slots ≤ rm.slots) (d : decode cc pc = .ok (.invokestatic index, 3)) (kk : pv_V D κ cells slots LP f (pc + 3) lv (.int (if x < y then y else x) :: st)) : pv_V D κ cells slots LP f pc lv (.int y :: .int x :: st) := by
  obtain ⟨p, l, e, R, s, m, args, below, meth, c, A, nL, Q⟩ := κ
  obtain ⟨hx, hb, hml, hown, hts, hK, hA, hRe, hnl, hlocks, hE, htr, hl0⟩ := C
  subst hRe
  intro H locs ls hP hD hS hl
  exact va_mmax hx hb (by rw [hml]; exact hl.1.symm) hown (hts _ hlk) (hts _ sm_max) (hts _ in_Math) (hts _ cd_max) hf hl9 hc hs d (kk H locs ls hP hD hS hl)
theorem pv_mmin (C : pv_C l0 D tys κ cc own rm nl) {index : Nat} {x y : Int32} (hlk : Cond.methodLink own index Lib.Math.min.name ∈ Wg) (hf : 1 ≤ rm.frames) (hl9 : (st.map fun v => v.category).sum + 13 ≤ rm.locals) (hc : cells ≤ rm.cells) (hs : slots ≤ rm.slots) (d : decode cc pc = .ok (.invokestatic index, 3)) (kk : pv_V D κ cells slots LP f (pc + 3) lv (.int (if y < x then y else x) :: st)) : pv_V D κ cells slots LP f pc lv (.int y :: .int x :: st) := by
  obtain ⟨p, l, e, R, s, m, args, below, meth, c, A, nL, Q⟩ := κ
  obtain ⟨hx, hb, hml, hown, hts, hK, hA, hRe, hnl, hlocks, hE, htr, hl0⟩ := C
  subst hRe
  intro H locs ls hP hD hS hl
  exact va_mmin hx hb (by rw [hml]; exact hl.1.symm) hown (hts _ hlk) (hts _ sm_min) (hts _ in_Math) (hts _ cd_min) hf hl9 hc hs d (kk H locs ls hP hD hS hl)
theorem pv_iret (C : pv_C l0 D tys κ cc own rm nl) {P0 : Option Value → List Nat → (Nat → va_E) → Prop} {X0 : String → Prop} {LP0 : List Nat} {f0 : Nat → va_E} {v : Int32} (R0 : pv_R κ D LP0 f0 P0 X0 (some .int)) (d : decode cc pc = .ok (.ireturn, 1)) (hc : cells ≤ rm.cells) (hs : slots ≤ rm.slots) (hp : P0 (some (.int v)) LP f) : pv_V D κ cells slots LP f pc lv [.int v] := by
  obtain ⟨p, l, e, R, s, m, args, below, meth, c, A, nL, Q⟩ := κ
  obtain ⟨hx, hb, hml, hown, hts, hK, hA, hRe, hnl, hlocks, hE, htr, hl0⟩ := C
  obtain ⟨hr0, hQ, hAe⟩ := R0
  subst hRe
  subst hQ
  subst hAe
  intro H locs ls hP hD hS hl
  refine vx_ret (W.widen hc hs ?_)
  exact W.iret hx hb hr0 (fun t ht hW => ⟨⟨_, LP, f, rfl, hp, by rw [ht]; exact hP, hD⟩, hS.F ht⟩) hS.2.2 d hlocks
theorem pv_zret (C : pv_C l0 D tys κ cc own rm nl) {P0 : Option Value → List Nat → (Nat → va_E) → Prop} {X0 : String → Prop} {LP0 : List Nat} {f0 : Nat → va_E} {v : Int32} (hn : narrow .boolean (.int v) = .int v) (R0 : pv_R κ D LP0 f0 P0 X0 (some .boolean)) (d : decode cc pc = .ok (.ireturn, 1)) (hc : cells ≤ rm.cells) (hs : slots ≤ rm.slots) (hp : P0 (some (.int v)) LP f) : pv_V D κ cells slots LP f pc lv [.int v] := by
  obtain ⟨p, l, e, R, s, m, args, below, meth, c, A, nL, Q⟩ := κ
  obtain ⟨hx, hb, hml, hown, hts, hK, hA, hRe, hnl, hlocks, hE, htr, hl0⟩ := C
  obtain ⟨hr0, hQ, hAe⟩ := R0
  subst hRe
  subst hQ
  subst hAe
  intro H locs ls hP hD hS hl
  refine vx_ret (W.widen hc hs ?_)
  exact W.zret hx hb hr0 hn (fun t ht hW => ⟨⟨_, LP, f, rfl, hp, by rw [ht]; exact hP, hD⟩, hS.F ht⟩) hS.2.2 d hlocks
theorem pv_aret (C : pv_C l0 D tys κ cc own rm nl) {P0 : Option Value → List Nat → (Nat → va_E) → Prop} {X0 : String → Prop} {LP0 : List Nat} {f0 : Nat → va_E} {v : Nat} {Cn : String} (R0 : pv_R κ D LP0 f0 P0 X0 (some (.object Cn))) (d : decode cc pc = .ok (.areturn, 1)) (hc : cells ≤ rm.cells) (hs : slots ≤ rm.slots) (hp : P0 (some (.ref v)) LP f) : pv_V D κ cells slots LP f pc lv [.ref v] := by
  obtain ⟨p, l, e, R, s, m, args, below, meth, c, A, nL, Q⟩ := κ
  obtain ⟨hx, hb, hml, hown, hts, hK, hA, hRe, hnl, hlocks, hE, htr, hl0⟩ := C
  obtain ⟨hr0, hQ, hAe⟩ := R0
  subst hRe
  subst hQ
  subst hAe
  intro H locs ls hP hD hS hl
  refine vx_ret (W.widen hc hs ?_)
  exact W.aret (v := .ref v) hx hb hr0 (Or.inl ⟨_, rfl⟩) (Or.inr ⟨_, rfl⟩) (fun t ht hW => ⟨⟨_, LP, f, rfl, hp, by rw [ht]; exact hP, hD⟩, hS.F ht⟩) hS.2.2 d hlocks
theorem pv_vret (C : pv_C l0 D tys κ cc own rm nl) {P0 : Option Value → List Nat → (Nat → va_E) → Prop} {X0 : String → Prop} {LP0 : List Nat} {f0 : Nat → va_E}  (R0 : pv_R κ D LP0 f0 P0 X0 (none)) (d : decode cc pc = .ok (.return_, 1)) (hc : cells ≤ rm.cells) (hs : slots ≤ rm.slots) (hp : P0 none LP f) : pv_V D κ cells slots LP f pc lv [] := by
  obtain ⟨p, l, e, R, s, m, args, below, meth, c, A, nL, Q⟩ := κ
  obtain ⟨hx, hb, hml, hown, hts, hK, hA, hRe, hnl, hlocks, hE, htr, hl0⟩ := C
  obtain ⟨hr0, hQ, hAe⟩ := R0
  subst hRe
  subst hQ
  subst hAe
  intro H locs ls hP hD hS hl
  refine vx_ret (W.widen hc hs ?_)
  exact W.vret hx hb hr0 (fun t ht hW => ⟨⟨_, LP, f, rfl, hp, by rw [ht]; exact hP, hD⟩, hS.F ht⟩) hS.2.2 d hlocks
theorem pv_nw {A : Nat → Prop} {s : State} {H : Heap} {args : Array Value} {E : String} (hE : pv_E A s H) (hEx : E ∈ pv_exc) : ∀ w ∈ Cond.castable E E :: pv_sup.map (fun N => Cond.declares (Bundle.initS N)), w.before args s = true := by
  intro w hw
  rcases List.mem_cons.mp hw with q | q
  · rw [q]
    exact va_Nw.use rfl (hE.2.2.2.1 E hEx)
  · obtain ⟨N, hN, rfl⟩ := List.mem_map.mp q
    exact va_Nw.use rfl (hE.2.2.2.2.2.2.2.2 N hN)
/-- throw new E("text") in a method that has changed nothing yet -/
theorem pv_throw (C : pv_C l0 D tys κ cc own rm nl) {P0 : Option Value → List Nat → (Nat → va_E) → Prop} {X0 : String → Prop} {LP0 : List Nat} {f0 : Nat → va_E} {ret0 : Option FieldType} {E text : String} {ik is ic : Nat} (hN : pv_N κ) (R0 : pv_R κ D LP f P0 X0 ret0) (hEx : E ∈ pv_exc) (hcls : Bundle.fit E = true) (hk : Cond.classLink own ik E ∈ Wg) (hini : Cond.initialized E ∈ Wg) (hown : own = RS) (htx : (is, text) ∈ pv_strs)
    (h1 : ∀ w ∈ (vx_atS own ic E ["java/lang/RuntimeException", "java/lang/Exception"]).filter goodWord, w ∈ Wg) (h2 : ∀ w ∈ (vx_atS own ic E ["java/lang/RuntimeException", "java/lang/Exception"]).filter (fun w => !goodWord w), w ∈ Cond.castable E E :: pv_sup.map (fun N => Cond.declares (Bundle.initS N))) (h3 : (vx_atS own ic E ["java/lang/RuntimeException", "java/lang/Exception"]).all vx_ot = true)
    (d0 : decode cc pc = .ok (.new ik, 3)) (d3 : decode cc (pc + 3) = .ok (.dup, 1)) (d4 : decode cc (pc + 4) = .ok (.ldc is, 2)) (d6 : decode cc (pc + 6) = .ok (.invokespecial ic, 3)) (d9 : decode cc (pc + 9) = .ok (.athrow, 1))
    (hfr : 5 < rm.frames) (hlo : (st.map fun v => v.category).sum + 82 ≤ rm.locals) (hc : cells + 1 ≤ rm.cells) (hs : slots + 6 ≤ rm.slots) (hX : X0 E) : pv_V D κ cells slots LP f pc lv st := by
  obtain ⟨p, l, e, R, s, m, args, below, meth, c, A, nL, Q⟩ := κ
  obtain ⟨hx, hb, hml, hown9, hts, hK, hA, hRe, hnl, hlocks, hE, htr, hl0⟩ := C
  obtain ⟨hr0, hQ, hAe⟩ := R0
  subst hRe
  subst hQ
  subst hAe
  subst hown
  intro H locs ls hP hD hS hl
  obtain ⟨sa, hsa⟩ := hE.2.2.1 _ htx
  refine vx_throwS (text := text) (sa := sa) (names := ["java/lang/RuntimeException", "java/lang/Exception"]) hx hb htr hown9 hcls (by decide) (hts _ hk) (hts _ hini) hsa ?_ ?_ hE.1 hE.2.1 hS (by rw [hml]; exact hl.1) d0 d3 d4 d6 d9 (fun x hx => (hN x hx).elim) hfr hlo hc hs hlocks ?_ hS.2.2 hc hs
  · refine vx_hat (fun w hw => hts _ (h1 w hw)) (B := Cond.castable E E :: pv_sup.map (fun N => Cond.declares (Bundle.initS N))) h2 (pv_nw hE hEx)
  · intro w hw
    rcases List.mem_cons.mp hw with q | hw
    · rw [q]; rfl
    · rcases List.mem_cons.mp hw with q | hw
      · rw [q]; rfl
      · exact List.all_eq_true.mp h3 w hw
  · intro t hW hz hk9
    refine ⟨hX, fun k q hq => (hP k q hq).kept (hk9 q.1 ((hP k q hq).lt)), Nat.le_trans hS.1 hz, fun q h1 h2 => ?_⟩
    rw [hk9 q (Nat.lt_of_lt_of_le h1 hS.1)]
    exact hS.2.1 q h1 h2
/-- a method's contract out of its walk -/
theorem pv_mk {y : MethodName} {bytes : ByteArray} {maxL : Nat} {ret : Option FieldType} {av : List Value} {P : Option Value → List Nat → (Nat → va_E) → Prop} {X : String → Prop} (hl0 : l0.stackTraces = false) (hy : plainName y.cls = true) (hav : (lg_sl av).length ≤ maxL)
    (body : ∀ κ : pv_K, pv_C l0 D tys κ bytes y.cls rm maxL → pv_R κ D LP f P X ret → pv_N κ → (y.name = "<init>" → pv_I κ) → pv_V D κ 0 0 LP f 0 (lv_args 0 av) []) : pv_M l0 D tys y (Cond.code y bytes maxL ret) rm av LP f P X := by
  intro sz
  refine vx_ofW (cc := bytes) (maxL := maxL) (ret := ret) hy rfl ?_
  intro p e s m args below meth c s₁ B hml ht hv
  obtain ⟨h1, hsz, hP, hK, hD, hE⟩ := hv
  subst h1
  subst hsz
  have hts := atoms_spec (ws := Cond.code y bytes maxL ret :: Wg) B.pre
  have hl := lv_entry av (n := maxL) hav
  rw [lg_entry_eq]
  exact body (p, l0, e, rm, s, m, av.toArray, below, meth, c, va_A (va_pl LP f) s.heap.size, maxL, _)
    ⟨B.exec, B.bytes, hml, findClass_of_methodNamed B.named, fun w hw => hts w (List.mem_cons_of_mem _ hw), hK, fun q h => Or.inr h, rfl, rfl, B.notSynchronized, hE, hl0, rfl⟩ ⟨B.returns, rfl, rfl⟩ ht (fun h => (name_of_methodNamed B.named B.method).1.trans h)
    s.heap [] _ hP (hD.self) va_S.rf hl
end PW
