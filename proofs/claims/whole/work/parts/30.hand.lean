/-! methods with handlers; worlds that hold both sides -/
def pv_T (κ : pv_K) (hh : List (Nat × Nat × Nat × Nat)) : Prop :=
  match κ with
  | (p, l, e, R, s, m, args, below, meth, c, A, nL, Q) => c.exceptionTable.toList = tableOf hh
section PH
variable {l0 : Launch} {D : va_G} {tys : List (ClassId × FieldType)} {κ : pv_K} {cc : ByteArray} {own : String} {rm : Room} {nl : Nat} {cells slots : Nat} {LP : List Nat} {f : Nat → va_E} {pc : Nat} {lv lv' : List (Nat × Value)} {st : List Value} {hh : List (Nat × Nat × Nat × Nat)}
theorem pv_mkH {y : MethodName} {bytes : ByteArray} {maxL : Nat} {ret : Option FieldType} {av : List Value} {P : Option Value → List Nat → (Nat → va_E) → Prop} {X : String → Prop} (hl0 : l0.stackTraces = false) (hy : plainName y.cls = true) (hav : (lg_sl av).length ≤ maxL)
    (body : ∀ κ : pv_K, pv_C l0 D tys κ bytes y.cls rm maxL → pv_R κ D LP f P X ret → pv_T κ hh → pv_V D κ 0 0 LP f 0 (lv_args 0 av) []) : pv_M l0 D tys y (Cond.codeWith y bytes maxL ret hh) rm av LP f P X := by
  intro sz
  refine vx_ofWH (cc := bytes) (maxL := maxL) (ret := ret) (hh := hh) hy rfl ?_
  intro p e s m args below meth c s₁ B hml hv
  obtain ⟨h1, hsz, hP, hK, hD, hE⟩ := hv
  subst h1
  subst hsz
  have hts := atoms_spec (ws := Cond.codeWith y bytes maxL ret hh :: Wg) B.pre
  have ht := vx_table (x := y) B (hts _ List.mem_cons_self)
  have hl := lv_entry av (n := maxL) hav
  rw [lg_entry_eq]
  exact body (p, l0, e, rm, s, m, av.toArray, below, meth, c, va_A (va_pl LP f) s.heap.size, maxL, _)
    ⟨B.exec, B.bytes, hml, findClass_of_methodNamed B.named, fun w hw => hts w (List.mem_cons_of_mem _ hw), hK, fun q h => Or.inr h, rfl, rfl, B.notSynchronized, hE, hl0, rfl⟩ ⟨B.returns, rfl, rfl⟩ ht
    s.heap [] _ hP (hD.self) va_S.rf hl
/-- what is thrown here is caught by a row of the table -/
def pv_H (D : va_G) (κ : pv_K) (own : String) (hh : List (Nat × Nat × Nat × Nat)) (cells slots : Nat) (LP : List Nat) (f : Nat → va_E) (pc : Nat) (lv : List (Nat × Value)) (E : String) (q : Nat) : Prop :=
  ∃ (h1 : List (Nat × Nat × Nat × Nat)) (h : Nat × Nat × Nat × Nat) (h2 : List (Nat × Nat × Nat × Nat)), hh = h1 ++ h :: h2 ∧ (∀ z ∈ h1, z.2.2.2 ≠ 0 ∧ ∃ nm, Cond.classLink own z.2.2.2 nm ∈ Wg ∧ nm ∈ pv_exc ∧ E ≠ nm) ∧ h.1 ≤ pc ∧ pc < h.2.1 ∧ h.2.2.2 ≠ 0 ∧ Cond.classLink own h.2.2.2 E ∈ Wg ∧ E ∈ pv_exc ∧ pv_V D κ cells slots LP f h.2.2.1 lv [.ref q]
theorem pv_callVH (C : pv_C l0 D tys κ cc own rm nl) {y : MethodName} {bytes : ByteArray} {maxL : Nat} {ret : Option FieldType} {rmy : Room} {index n : Nat} {As rest : List Value} {P : Option Value → List Nat → (Nat → va_E) → Prop} {X : String → Prop} {b ci : Nat} {fs : List Value} {qc : vw_C} (hM : pv_M l0 D tys y (Cond.code y bytes maxL ret) rmy (.ref b :: As) LP f P X) (hcd : Cond.code y bytes maxL ret ∈ Wg) (hlk : Cond.methodLink own index y ∈ Wg) (hini : Cond.initialized y.cls ∈ Wg) (him : Cond.instanceMethod y ∈ Wg) (hse : Cond.selects y.cls y y ∈ Wg) (hbL : b ∈ LP) (hfb : f b = .inr (ci, fs)) (hc : cls_[ci]? = some qc) (hqc : qc.1 = y.cls)
    (hy : y.cls ≠ "java/lang/invoke/MethodHandle" ∧ y.cls ≠ "java/lang/invoke/VarHandle" ∧ (parseMethodDescriptor y.desc).map (fun d => d.parameters.length) = some n) (hR : rmy.frames + 1 ≤ rm.frames ∧ 8 + (maxL + 11) + rmy.locals ≤ rm.locals) (hn : As.length = n) (hsum : (rest.map fun v => v.category).sum ≤ 8) (hst : st = As.reverse ++ .ref b :: rest) (d : decode cc pc = .ok (.invokevirtual index, 3)) (hf : cells + rmy.cells ≤ rm.cells ∧ slots + rmy.slots ≤ rm.slots)
    (hT : pv_T κ hh) (kx : ∀ E q, X E → pv_H D κ own hh (cells + rmy.cells) (slots + rmy.slots) LP f pc lv E q) (kk : ∀ v LP1 f1, P v LP1 f1 → pv_V D κ (cells + rmy.cells) (slots + rmy.slots) LP1 f1 (pc + 3) lv (v.toList ++ rest)) : pv_V D κ cells slots LP f pc lv st := by
  obtain ⟨p, l, e, R, s, m, args, below, meth, c, A, nL, Q⟩ := κ
  obtain ⟨hx, hb, hml, hown, hts, hK, hA, hRe, hnl, hlocks, hE, htr, hl0⟩ := C
  subst hRe
  subst hl0
  subst hst
  intro H locs ls hP hD hS hl
  obtain ⟨k0, hk0⟩ := va_pl_get (X := []) (f := f) hbL
  rw [hfb] at hk0
  have hpre := pv_pre (args := args) (tys := tys) (av := .ref b :: As) hP hD hS hA hK hE
  refine pv_back hD hS hA (vx_runV (Ts := Wg) ⟨hx, hb, hml, hown, hts⟩ (hM H.size) ⟨callB_of n hts (wg_in hcd) rfl rfl rfl (hts _ hini) (hts _ hlk) hy hR, hts _ him, hts _ hse⟩ ⟨hpre.1, by rw [← hqc]; exact va_recv hK hP hc hk0, hpre.2⟩ rfl hn hl.1 rfl (lv_room hsum) d hf) (fun E ce q9 H1 locs1 hX hP1 hS1 h1 h2 h3 => ?_) (fun v LP1 f1 H1 locs1 hp hP1 hD1 hS1 => kk v LP1 f1 hp H1 locs1 ls hP1 hD1 hS1 hl)
  obtain ⟨t1, t, t2, ht, hpass, hlo, hhi, hct, hcl, hEx, hgo⟩ := kx E q9 hX
  have hT : c.exceptionTable.toList = tableOf hh := hT
  refine vx_catch (name := E) hown (tableOf t1) ⟨t.1, t.2.1, t.2.2.1, t.2.2.2⟩ (tableOf t2) (by rw [hT, ht]; simp [tableOf]) (fun w hw => Or.inr ?_) (by simp [hlo, hhi]) hct (hts _ hcl) (va_Nw.use rfl (hE.2.2.2.1 E hEx)) h1 h2 h3 (hgo H1 locs1 ls hP1 hD hS1 hl)
  obtain ⟨w0, hw0, rfl⟩ := List.mem_map.mp hw
  obtain ⟨g1, nm, g2, g3, g4⟩ := hpass w0 hw0
  exact ⟨g1, nm, hts _ g2, hE.2.2.2.2.1 E hEx nm g3 g4⟩
end PH
/-! calls out of the law: nothing is thrown -/
section P0
variable {l0 : Launch} {D : va_G} {tys : List (ClassId × FieldType)} {κ : pv_K} {cc : ByteArray} {own : String} {rm : Room} {nl : Nat} {cells slots : Nat} {LP : List Nat} {f : Nat → va_E} {pc : Nat} {lv lv' : List (Nat × Value)} {st : List Value} {hh : List (Nat × Nat × Nat × Nat)}
theorem pv_callV0 (C : pv_C l0 D tys κ cc own rm nl) {y : MethodName} {bytes : ByteArray} {maxL : Nat} {ret : Option FieldType} {rmy : Room} {index n : Nat} {As rest : List Value} {P : Option Value → List Nat → (Nat → va_E) → Prop} {b ci : Nat} {fs : List Value} {qc : vw_C} (hM : pv_M l0 D tys y (Cond.code y bytes maxL ret) rmy (.ref b :: As) LP f P (fun _ => False)) (hcd : Cond.code y bytes maxL ret ∈ Wg) (hlk : Cond.methodLink own index y ∈ Wg) (hini : Cond.initialized y.cls ∈ Wg) (him : Cond.instanceMethod y ∈ Wg) (hse : Cond.selects y.cls y y ∈ Wg) (hbL : b ∈ LP) (hfb : f b = .inr (ci, fs)) (hc : cls_[ci]? = some qc) (hqc : qc.1 = y.cls)
    (hy : y.cls ≠ "java/lang/invoke/MethodHandle" ∧ y.cls ≠ "java/lang/invoke/VarHandle" ∧ (parseMethodDescriptor y.desc).map (fun d => d.parameters.length) = some n) (hR : rmy.frames + 1 ≤ rm.frames ∧ 8 + (maxL + 11) + rmy.locals ≤ rm.locals) (hn : As.length = n) (hsum : (rest.map fun v => v.category).sum ≤ 8) (hst : st = As.reverse ++ .ref b :: rest) (d : decode cc pc = .ok (.invokevirtual index, 3)) (hf : cells + rmy.cells ≤ rm.cells ∧ slots + rmy.slots ≤ rm.slots)
    (kk : ∀ v LP1 f1, P v LP1 f1 → pv_V D κ (cells + rmy.cells) (slots + rmy.slots) LP1 f1 (pc + 3) lv (v.toList ++ rest)) : pv_V D κ cells slots LP f pc lv st := by
  obtain ⟨p, l, e, R, s, m, args, below, meth, c, A, nL, Q⟩ := κ
  obtain ⟨hx, hb, hml, hown, hts, hK, hA, hRe, hnl, hlocks, hE, htr, hl0⟩ := C
  subst hRe
  subst hl0
  subst hst
  intro H locs ls hP hD hS hl
  obtain ⟨k0, hk0⟩ := va_pl_get (X := []) (f := f) hbL
  rw [hfb] at hk0
  have hpre := pv_pre (args := args) (tys := tys) (av := .ref b :: As) hP hD hS hA hK hE
  exact pv_back hD hS hA (vx_runV (Ts := Wg) ⟨hx, hb, hml, hown, hts⟩ (hM H.size) ⟨callB_of n hts (wg_in hcd) rfl rfl rfl (hts _ hini) (hts _ hlk) hy hR, hts _ him, hts _ hse⟩ ⟨hpre.1, by rw [← hqc]; exact va_recv hK hP hc hk0, hpre.2⟩ rfl hn hl.1 rfl (lv_room hsum) d hf) (fun E ce q9 H1 locs1 hX => hX.elim) (fun v LP1 f1 H1 locs1 hp hP1 hD1 hS1 => kk v LP1 f1 hp H1 locs1 ls hP1 hD1 hS1 hl)
theorem wg_inW {y : MethodName} {bytes : ByteArray} {maxL : Nat} {ret : Option FieldType} (h : Cond.codeWith y bytes maxL ret hh ∈ Wg) : GoodIn Wg (Cond.codeWith y bytes maxL ret hh :: Wg) := fun w hw => by
  rcases List.mem_cons.mp hw with e | e
  · rw [e]; exact ⟨h, wg_good h⟩
  · exact ⟨e, wg_good e⟩
theorem pv_callSH (C : pv_C l0 D tys κ cc own rm nl) {y : MethodName} {bytes : ByteArray} {maxL : Nat} {ret : Option FieldType} {rmy : Room} {index n : Nat} {As rest : List Value} {P : Option Value → List Nat → (Nat → va_E) → Prop} (hM : pv_M l0 D tys y (Cond.codeWith y bytes maxL ret hh) rmy As LP f P (fun _ => False)) (hcd : Cond.codeWith y bytes maxL ret hh ∈ Wg) (hlk : Cond.methodLink own index y ∈ Wg) (hini : Cond.initialized y.cls ∈ Wg) (hsm : Cond.static y ∈ Wg)
    (hy : y.cls ≠ "java/lang/invoke/MethodHandle" ∧ y.cls ≠ "java/lang/invoke/VarHandle" ∧ (parseMethodDescriptor y.desc).map (fun d => d.parameters.length) = some n) (hR : rmy.frames + 1 ≤ rm.frames ∧ 8 + (maxL + 11) + rmy.locals ≤ rm.locals) (hn : As.length = n) (hsum : (rest.map fun v => v.category).sum ≤ 8) (hst : st = As.reverse ++ rest) (d : decode cc pc = .ok (.invokestatic index, 3)) (hf : cells + rmy.cells ≤ rm.cells ∧ slots + rmy.slots ≤ rm.slots)
    (kk : ∀ v LP1 f1, P v LP1 f1 → pv_V D κ (cells + rmy.cells) (slots + rmy.slots) LP1 f1 (pc + 3) lv (v.toList ++ rest)) : pv_V D κ cells slots LP f pc lv st := by
  obtain ⟨p, l, e, R, s, m, args, below, meth, c, A, nL, Q⟩ := κ
  obtain ⟨hx, hb, hml, hown, hts, hK, hA, hRe, hnl, hlocks, hE, htr, hl0⟩ := C
  subst hRe
  subst hl0
  subst hst
  intro H locs ls hP hD hS hl
  have hpre := pv_pre (args := args) (tys := tys) (av := As) hP hD hS hA hK hE
  have hlen : ∀ sig, parseMethodDescriptor y.desc = some sig → n = sig.parameters.length := fun sig h => by
    have h2 := hy.2.2
    rw [h] at h2
    exact (Option.some.inj h2).symm
  exact pv_back hD hS hA (vx_runSX (Ts := Wg) (hh := hh) ⟨hx, hb, hml, hown, hts⟩ (hM H.size) ⟨⟨rfl, rfl, hR.1, hR.2, pay_in hts (wg_inW hcd), List.mem_cons_self⟩, hts _ hcd, hts _ hini, ⟨hy.1, hy.2.1⟩, hlen, hts _ hlk, hts _ hsm⟩ hpre rfl hn hl.1 rfl (lv_room hsum) d hf) (fun E ce q9 H1 locs1 hX => hX.elim) (fun v LP1 f1 H1 locs1 hp hP1 hD1 hS1 => kk v LP1 f1 hp H1 locs1 ls hP1 hD1 hS1 hl)
theorem pv_wide {c2 s2 : Nat} (h1 : cells ≤ c2) (h2 : slots ≤ s2) (kk : pv_V D κ c2 s2 LP f pc lv st) : pv_V D κ cells slots LP f pc lv st := by
  obtain ⟨p, l, e, R, s, m, args, below, meth, c, A, nL, Q⟩ := κ
  exact fun H locs ls hP hD hS hl => W.widen h1 h2 (kk H locs ls hP hD hS hl)
end P0
/-! the array that takes an answer -/
abbrev lo (γ : Nat → ClassId) (ov : Nat → Int64) : va_E := .inl (γ 5, 1, .inr (.inl ov))
theorem kf_not {ks : List kT} {ρ : kT → Nat} {c : kT → va_E} {f0 : Nat → va_E} {a : Nat} (h : ∀ k ∈ ks, ρ k ≠ a) : kf ks ρ c f0 a = f0 a := by
  unfold kf
  rw [show ks.find? (fun k => ρ k == a) = none from List.find?_eq_none.mpr (fun k hk w => h k hk (by simpa using w))]
theorem kf_out {ks : List kT} {ρ : kT → Nat} {c : kT → va_E} {f0 : Nat → va_E} {a : Nat} {e : va_E} (h : ∀ k ∈ ks, ρ k ≠ a) : va_up (kf ks ρ c f0) a e = kf ks ρ c (va_up f0 a e) := by
  funext q
  by_cases w : q = a
  · rw [w, va_up_self, kf_not h, va_up_self]
  · rw [va_up_ne _ _ w]
    unfold kf
    cases ks.find? (fun k => ρ k == q) with
    | none => exact (va_up_ne _ _ w).symm
    | some k => rfl
theorem fr_ne {ks ks' : List kT} {ρ ρ' : kT → Nat} {LP : List Nat} {a : Nat} (ha : a ∈ LP) (h : ∀ k ∈ ks, ρ k ≠ a) (hfr : ∀ k ∈ ks', (∃ j ∈ ks, ρ' k = ρ j) ∨ ρ' k ∉ LP) : ∀ k ∈ ks', ρ' k ≠ a := by
  intro k hk
  rcases hfr k hk with ⟨j, hj, e⟩ | w
  · rw [e]; exact h j hj
  · exact fun q => w (q ▸ ha)
def lPost (γ : Nat → ClassId) (LP : List Nat) (ks : List kT) (ρ : kT → Nat) (f0 : Nat → va_E) (oa : Nat) (q : Int32 × zT) : Option Value → List Nat → (Nat → va_E) → Prop := fun w LP1 f1 => w = some (.int (q.2 0 0)) ∧ ∃ (ks' : List kT) (ρ' : kT → Nat) (x' : xT) (ov' : Nat → Int64), f1 = cF γ ks' ρ' q.2 x' (va_up f0 oa (lo γ ov')) ∧ (q.2 0 0 = 0 → ov' 0 = q.1.toInt64) ∧ cI LP1 ks' ρ' q.2 x' ∧ ρ' (0, 0) = ρ (0, 0) ∧ (∀ a ∈ LP, a ∈ LP1) ∧ ∀ k ∈ ks', (∃ j ∈ ks, ρ' k = ρ j) ∨ ρ' k ∉ LP
def lPostV (γ : Nat → ClassId) (LP : List Nat) (ks : List kT) (ρ : kT → Nat) (f0 : Nat → va_E) (q : zT) : Option Value → List Nat → (Nat → va_E) → Prop := fun w LP1 f1 => w = some (.int (q 0 0)) ∧ ∃ (ks' : List kT) (ρ' : kT → Nat) (x' : xT), f1 = cF γ ks' ρ' q x' f0 ∧ cI LP1 ks' ρ' q x' ∧ ρ' (0, 0) = ρ (0, 0) ∧ (∀ a ∈ LP, a ∈ LP1) ∧ ∀ k ∈ ks', (∃ j ∈ ks, ρ' k = ρ j) ∨ ρ' k ∉ LP
theorem nI_s0 {i : Nat} (hi : i < 8) : nI (i + 1) ≠ 0 := fun w => by
  have := nI_inj (j := 0) (by omega) (by decide) w
  omega
theorem lP_x {γ : Nat → ClassId} {LP : List Nat} {ks : List kT} {ρ : kT → Nat} {z : zT} {x : xT} {f0 : Nat → va_E} {oa : Nat} {ov : Nat → Int64} (J : cI LP ks ρ z x) (ho : f0 oa = lo γ ov) {q : Int32 × zT} {i : Nat} (hc : q.2 0 0 = nI (i + 1)) (hi : i < 8) (hz : zc z q.2) {v : Int32} (hv : v = nI (i + 1)) : lPost γ LP ks ρ f0 oa q (some (.int v)) LP (cF γ ks ρ z x f0) :=
  ⟨by rw [hc, hv], ks, ρ, x, ov, by rw [cF, cF, zc_cz hz, ← va_id ho], fun w => absurd (hc.symm.trans w) (nI_s0 hi), zc_cI hz J, rfl, fun _ h => h, fun k hk => Or.inl ⟨k, hk, rfl⟩⟩
theorem lP_xv {γ : Nat → ClassId} {LP : List Nat} {ks : List kT} {ρ : kT → Nat} {z : zT} {x : xT} {f0 : Nat → va_E} (J : cI LP ks ρ z x) {q : zT} {i : Nat} (hc : q 0 0 = nI (i + 1)) (hz : zc z q) {v : Int32} (hv : v = nI (i + 1)) : lPostV γ LP ks ρ f0 q (some (.int v)) LP (cF γ ks ρ z x f0) :=
  ⟨by rw [hc, hv], ks, ρ, x, by rw [cF, cF, zc_cz hz], zc_cI hz J, rfl, fun _ h => h, fun k hk => Or.inl ⟨k, hk, rfl⟩⟩
