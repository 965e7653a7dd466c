/-! the component's cells by keys (kind, index): 0 the object and its arrays, 1 announcements, 2 their arrays of lines, 3 lines, 4 units -/
abbrev kT : Type := Nat × Nat
def kf (ks : List kT) (ρ : kT → Nat) (c : kT → va_E) (f0 : Nat → va_E) : Nat → va_E := fun a => match ks.find? (fun k => ρ k == a) with
  | some k => c k
  | none => f0 a
def ku {β : Type} (c : kT → β) (k : kT) (e : β) : kT → β := fun i => if i = k then e else c i
theorem ku_eq {β : Type} (c : kT → β) (k : kT) (e : β) : ku c k e k = e := if_pos rfl
theorem ku_ne {β : Type} (c : kT → β) {k i : kT} (e : β) (h : i ≠ k) : ku c k e i = c i := if_neg h
def kH (ks : List kT) (ρ : kT → Nat) (LP : List Nat) : Prop := (∀ k ∈ ks, ρ k ∈ LP) ∧ ∀ i ∈ ks, ∀ j ∈ ks, ρ i = ρ j → i = j
section KF
variable {ks : List kT} {ρ : kT → Nat} {c c' : kT → va_E} {f0 : Nat → va_E} {LP : List Nat}
theorem kf_find (H : kH ks ρ LP) {k : kT} (hk : k ∈ ks) : ks.find? (fun i => ρ i == ρ k) = some k := by
  cases h : ks.find? (fun i => ρ i == ρ k) with
  | none => exact absurd (beq_self_eq_true (ρ k)) (by simpa using List.find?_eq_none.mp h k hk)
  | some i =>
    have h1 := List.find?_some h
    have h2 := List.mem_of_find?_eq_some h
    rw [H.2 i h2 k hk (by simpa using h1)]
theorem kf_at (H : kH ks ρ LP) {k : kT} (hk : k ∈ ks) : kf ks ρ c f0 (ρ k) = c k := by
  unfold kf
  rw [kf_find H hk]
theorem kf_eq (h : ∀ k ∈ ks, c k = c' k) : kf ks ρ c f0 = kf ks ρ c' f0 := by
  funext a
  unfold kf
  cases h3 : ks.find? (fun i => ρ i == a) with
  | none => rfl
  | some i => exact h i (List.mem_of_find?_eq_some h3)
theorem kf_up (H : kH ks ρ LP) {k : kT} (hk : k ∈ ks) (e : va_E) : va_up (kf ks ρ c f0) (ρ k) e = kf ks ρ (ku c k e) f0 := by
  funext a
  by_cases h : a = ρ k
  · subst h
    rw [va_up_self, kf_at H hk, ku_eq]
  · rw [va_up_ne _ _ h]
    unfold kf
    cases h3 : ks.find? (fun i => ρ i == a) with
    | none => rfl
    | some i =>
      have h4 : ρ i = a := by simpa using List.find?_some h3
      show c i = ku c k e i
      rw [ku_ne _ _ (fun q => h (by rw [← h4, q]))]
theorem kf_push (H : kH ks ρ LP) {k : kT} {q : Nat} (hk : k ∉ ks) (hq : q ∉ LP) (e : va_E) : va_up (kf ks ρ c f0) q e = kf (ks ++ [k]) (ku ρ k q) (ku c k e) f0 := by
  have e1 : ∀ i ∈ ks, ku ρ k q i = ρ i := fun i hi => ku_ne _ _ (fun w => hk (w ▸ hi))
  funext a
  have e2 : ∀ l : List kT, (∀ i ∈ l, i ∈ ks) → l.find? (fun i => ku ρ k q i == a) = l.find? (fun i => ρ i == a) := by
    intro l
    induction l with
    | nil => intro _; rfl
    | cons x l ih =>
      intro hl
      simp only [List.find?_cons, e1 x (hl x List.mem_cons_self)]
      rw [ih (fun i hi => hl i (List.mem_cons_of_mem _ hi))]
  unfold kf
  rw [List.find?_append, e2 ks (fun _ w => w)]
  by_cases h2 : a = q
  · have h3 : ks.find? (fun i => ρ i == a) = none := by
      apply List.find?_eq_none.mpr
      intro i hi w
      have w2 : ρ i = a := by simpa using w
      exact hq (by rw [← h2, ← w2]; exact H.1 i hi)
    rw [h3, h2, va_up_self]
    simp [ku_eq]
  · rw [va_up_ne _ _ h2]
    cases h3 : ks.find? (fun i => ρ i == a) with
    | some i =>
      have hi := List.mem_of_find?_eq_some h3
      show c i = ku c k e i
      rw [ku_ne _ _ (fun (w : i = k) => hk (w ▸ hi))]
    | none =>
      have : (ku ρ k q k == a) = false := by rw [ku_eq]; simpa using fun w : q = a => h2 w.symm
      simp [List.find?_cons, this]
theorem kH.push (H : kH ks ρ LP) {k : kT} {q : Nat} (hk : k ∉ ks) (hq : q ∉ LP) : kH (ks ++ [k]) (ku ρ k q) (LP ++ [q]) := by
  have e : ∀ i ∈ ks, ku ρ k q i = ρ i := fun i hi => ku_ne _ _ (fun w => hk (w ▸ hi))
  refine ⟨fun i hi => ?_, fun i hi j hj w => ?_⟩
  · rcases List.mem_append.mp hi with g | g
    · rw [e i g]; exact List.mem_append_left _ (H.1 i g)
    · rw [List.mem_singleton.mp g, ku_eq]; exact List.mem_append_right _ (List.mem_singleton.mpr rfl)
  · rcases List.mem_append.mp hi with g | g <;> rcases List.mem_append.mp hj with g' | g'
    · rw [e i g, e j g'] at w; exact H.2 i g j g' w
    · rw [List.mem_singleton.mp g', ku_eq, e i g] at w; exact absurd (w ▸ H.1 i g) hq
    · rw [List.mem_singleton.mp g, ku_eq, e j g'] at w; exact absurd (w ▸ H.1 j g') hq
    · rw [List.mem_singleton.mp g, List.mem_singleton.mp g']
end KF
abbrev xT : Type := Int32 × (Nat → Int32) × (Nat → Int32)
def cS (ρ : kT → Nat) (z : zT) (x : xT) : List Value := [.ref (ρ (0, 1)), .ref (ρ (0, 2)), .ref (ρ (0, 3)), .int (z 3 0), .int (z 18 0), .int (z 27 0), .int (z 29 0), .int (z 28 0), .int (z 1 0), .int x.1]
def cA (ρ : kT → Nat) (z : zT) (i : Nat) : List Value := [.int (nI i), .int (z 4 i), .int (z 5 i), .ref (ρ (2, i)), .int (z 6 i), .int (z 7 i), .int (z 8 i)]
def cN (ρ : kT → Nat) (z : zT) (x : xT) (i : Nat) : List Value := [.ref (ρ (1, i / 4)), .int (nI (i % 4)), .int (z 9 i), .int (z 10 i), .int (z 11 i), .int (z 13 i), .int (z 14 i), .int (z 12 i), .int (x.2.1 i), .int (z 15 i), .int (z 16 i)]
def cU (ρ : kT → Nat) (z : zT) (x : xT) (i : Nat) : List Value := [.ref (ρ (3, zl z i)), .int (z 21 i), .int (z 22 i), .int (z 23 i), .int (z 24 i), .int (z 25 i), .int (z 26 i), .int (x.2.2 i)]
def gA (ρ : kT → Nat) (z : zT) : Nat → Option Nat := fun i => if i < zA z then some (ρ (1, i + 1)) else none
def gU (ρ : kT → Nat) (z : zT) : Nat → Option Nat := fun i => if i < zU z then some (ρ (4, i + 1)) else none
def gD (ρ : kT → Nat) (z : zT) : Nat → Option Nat := fun i => if i < zD z then some (ρ (3, ix (z 30 i))) else none
def gL (ρ : kT → Nat) (z : zT) (i : Nat) : Nat → Option Nat := fun j => if j < zt z i then some (ρ (3, 4 * i + j)) else none
def cz (γ : Nat → ClassId) (ρ : kT → Nat) (z : zT) (x : xT) (k : kT) : va_E := match k.1, k.2 with
  | 0, 0 => .inr (3, cS ρ z x)
  | 0, 1 => .inl (γ 0, 16, .inr (.inr (.inr (.inr (gA ρ z)))))
  | 0, 2 => .inl (γ 2, 120, .inr (.inr (.inr (.inr (gU ρ z)))))
  | 0, _ => .inl (γ 1, 64, .inr (.inr (.inr (.inr (gD ρ z)))))
  | 1, i => .inr (0, cA ρ z i)
  | 2, i => .inl (γ 1, 4, .inr (.inr (.inr (.inr (gL ρ z i)))))
  | 3, i => .inr (1, cN ρ z x i)
  | _, i => .inr (2, cU ρ z x i)
def vK (z : zT) (k : kT) : Prop := match k.1 with
  | 0 => k.2 ≤ 3
  | 1 => 1 ≤ k.2 ∧ k.2 ≤ zA z
  | 2 => 1 ≤ k.2 ∧ k.2 ≤ zA z
  | 3 => 1 ≤ k.2 / 4 ∧ k.2 / 4 ≤ zA z ∧ k.2 % 4 < zt z (k.2 / 4)
  | 4 => 1 ≤ k.2 ∧ k.2 ≤ zU z
  | _ => False
theorem vK_line {z : zT} {i j : Nat} (h1 : 1 ≤ i) (h2 : i ≤ zA z) (h3 : j < zt z i) (h4 : j < 4) : vK z (3, 4 * i + j) := by
  show 1 ≤ (4 * i + j) / 4 ∧ (4 * i + j) / 4 ≤ zA z ∧ (4 * i + j) % 4 < zt z ((4 * i + j) / 4)
  rw [show (4 * i + j) / 4 = i by omega, show (4 * i + j) % 4 = j by omega]
  exact ⟨h1, h2, h3⟩
theorem vK_lt {z : zT} {i : Nat} (hz : zI z) (h : vK z (3, i)) : i < 68 := by
  have h1 : i / 4 ≤ zA z := h.2.1
  have h2 := hz.1.2
  omega
abbrev bitI (p : Int32) : Int32 := 1 <<< (p &&& 31)
/-- a unit's state of its damage, its waiting, its line's bad verdict -/
def uS (d w b : Int32) : Int32 := if d = 0 then (if w = 0 then (if b = 0 then 0 else 2) else 3) else 1
/-- what stands in places not yet in use, and an announcement's states -/
def zF (z : zT) : Prop := (∀ i, i ≤ 16 → z 7 i = 0 ∨ z 7 i = 1 ∨ z 7 i = 2 ∨ z 7 i = 3) ∧ (∀ i, zA z < i → i ≤ 16 → z 6 i = 0 ∧ z 7 i = 0) ∧ (∀ i, i < 68 → ¬ vK z (3, i) → z 11 i = 0 ∧ z 12 i = 0 ∧ z 13 i = 0 ∧ z 14 i = 0 ∧ z 15 i = 0 ∧ z 16 i = 0 ∧ ∀ p, p ≤ 7 → z 17 (8 * i + p) = 0) ∧ ∀ u, zU z < u → u ≤ 120 → z 24 u = 0 ∧ z 25 u = 0 ∧ z 26 u = 0
def zJ (z : zT) (x : xT) : Prop := (∀ u, 1 ≤ u → u ≤ zU z → vK z (3, zl z u)) ∧ (∀ i, i < zD z → vK z (3, ix (z 30 i))) ∧ (∀ p, p ≤ 7 → (x.1 &&& bitI (nI p) = 0 ↔ z 2 p = 0)) ∧ (∀ i p, i < 68 → p ≤ 7 → (x.2.1 i &&& bitI (nI p) = 0 ↔ z 17 (8 * i + p) = 0)) ∧ (∀ u, 1 ≤ u → u ≤ zU z → z 20 u = uS (z 24 u) (x.2.2 u) (z 15 (zl z u))) ∧ (∀ i, i < 68 → (z 13 i = nI (ix (z 13 i)) ∧ ix (z 13 i) ≤ 5) ∧ z 14 i = nI (ix (z 14 i)) ∧ ix (z 14 i) ≤ 5) ∧ zF z
def cI (LP : List Nat) (ks : List kT) (ρ : kT → Nat) (z : zT) (x : xT) : Prop := kH ks ρ LP ∧ (∀ k, k ∈ ks ↔ vK z k) ∧ zI z ∧ zJ z x
abbrev cF (γ : Nat → ClassId) (ks : List kT) (ρ : kT → Nat) (z : zT) (x : xT) (f0 : Nat → va_E) : Nat → va_E := kf ks ρ (cz γ ρ z x) f0
/-- a reading end: an answer, nothing changed -/
def rdP (LP : List Nat) (f : Nat → va_E) (v : Option Value) : Option Value → List Nat → (Nat → va_E) → Prop := fun w LP1 f1 => w = v ∧ LP1 = LP ∧ f1 = f
abbrev eIA : String := "java/lang/IllegalArgumentException"
abbrev eUO : String := "java/lang/UnsupportedOperationException"
abbrev eNS : String := "java/util/NoSuchElementException"
abbrev eIS : String := "java/lang/IllegalStateException"
theorem th1_IA : ∀ w ∈ (vx_atS RS 207 eIA ["java/lang/RuntimeException", "java/lang/Exception"]).filter goodWord, w ∈ Wg := by decide +kernel
theorem th1_UO : ∀ w ∈ (vx_atS RS 39 eUO ["java/lang/RuntimeException", "java/lang/Exception"]).filter goodWord, w ∈ Wg := by decide +kernel
theorem th1_IS : ∀ w ∈ (vx_atS RS 237 eIS ["java/lang/RuntimeException", "java/lang/Exception"]).filter goodWord, w ∈ Wg := by decide +kernel
theorem th2_IA : ∀ w ∈ (vx_atS RS 207 eIA ["java/lang/RuntimeException", "java/lang/Exception"]).filter (fun w => !goodWord w), w ∈ Cond.castable eIA eIA :: pv_sup.map (fun N => Cond.declares (Bundle.initS N)) := by decide +kernel
theorem th2_UO : ∀ w ∈ (vx_atS RS 39 eUO ["java/lang/RuntimeException", "java/lang/Exception"]).filter (fun w => !goodWord w), w ∈ Cond.castable eUO eUO :: pv_sup.map (fun N => Cond.declares (Bundle.initS N)) := by decide +kernel
theorem th2_IS : ∀ w ∈ (vx_atS RS 237 eIS ["java/lang/RuntimeException", "java/lang/Exception"]).filter (fun w => !goodWord w), w ∈ Cond.castable eIS eIS :: pv_sup.map (fun N => Cond.declares (Bundle.initS N)) := by decide +kernel
theorem th3_IA : (vx_atS RS 207 eIA ["java/lang/RuntimeException", "java/lang/Exception"]).all vx_ot = true := by decide +kernel
theorem th3_UO : (vx_atS RS 39 eUO ["java/lang/RuntimeException", "java/lang/Exception"]).all vx_ot = true := by decide +kernel
theorem th3_IS : (vx_atS RS 237 eIS ["java/lang/RuntimeException", "java/lang/Exception"]).all vx_ot = true := by decide +kernel
section PKR
variable {l0 : Launch} {D : va_G} {tys : List (ClassId × FieldType)} {κ : pv_K} {cc : ByteArray} {own : String} {rm : Room} {nl : Nat} {cells slots : Nat} {LP : List Nat} {ks : List kT} {ρ : kT → Nat} {c : kT → va_E} {f0 : Nat → va_E} {pc : Nat} {lv : List (Nat × Value)} {st : List Value}
theorem pk_put (C : pv_C l0 D tys κ cc own rm nl) (H : kH ks ρ LP) {ref Cn : String} {Tb : u_T} {N ci index : Nat} (hin : ∀ w ∈ u_ws Cn Tb N, w ∈ Wg) (ty0 : Nat → FieldType) (hty : ∀ k, k < N → parseFieldDescriptor (Tb k).2.2.1 = some (ty0 k)) (hnm : ∀ a, a < N → ∀ b, b < N → a ≠ b → (Tb a).2.1 ≠ (Tb b).2.1) {key : kT} {fs : List Value} (hc : cls_[ci]? = some (Cn, Tb, N)) (hk : key ∈ ks) (hf : c key = .inr (ci, fs)) (k : Nat) (hkN : k < N) (hlk : Cond.fieldLink own index ref (Tb k).2.1 (Tb k).2.2.1 ∈ Wg) (hr : (Tb k).1 = ref) (hfin : (Tb k).2.2.2 = false) {v : Value} (hn : narrow (ty0 k) v = v) (hfit : fits (ty0 k) v = true) (hlen : k < fs.length) (d : decode cc pc = .ok (.putfield index, 3))
    (kk : pv_V D κ cells slots LP (kf ks ρ (ku c key (.inr (ci, fs.set k v))) f0) (pc + 3) lv st) : pv_V D κ cells slots LP (kf ks ρ c f0) pc lv (v :: .ref (ρ key) :: st) :=
  pv_put C hin ty0 hty hnm hc (H.1 _ hk) ((kf_at H hk).trans hf) k hkN hlk hr hfin hn hfit hlen d (by rw [kf_up H hk]; exact kk)
theorem pk_aast (C : pv_C l0 D tys κ cc own rm nl) (H : kH ks ρ LP) (t0 ci : Nat) {cA : ClassId} {r : vw_C} {n : Nat} {key kv : kT} {vs : List Value} {g : Nat → Option Nat} (ht : tys[t0]? = some (cA, .object r.1)) (hk : key ∈ ks) (hf : c key = .inl (cA, n, .inr (.inr (.inr (.inr g))))) (hv : kv ∈ ks) (hfv : c kv = .inr (ci, vs)) (hc : cls_[ci]? = some r) {i : Int32} {j : Nat} (hi : i = nI j) (hj : j < n) (hn : n < 2 ^ 31) (d : decode cc pc = .ok (.aastore, 1))
    (kk : pv_V D κ cells slots LP (kf ks ρ (ku c key (.inl (cA, n, .inr (.inr (.inr (.inr (va_up g j (some (ρ kv)))))))) ) f0) (pc + 1) lv st) : pv_V D κ cells slots LP (kf ks ρ c f0) pc lv (.ref (ρ kv) :: .int i :: .ref (ρ key) :: st) :=
  pv_aast C t0 ci ht (H.1 _ hk) ((kf_at H hk).trans hf) (H.1 _ hv) ((kf_at H hv).trans hfv) hc hi hj hn d (by rw [kf_up H hk]; exact kk)
theorem pk_fz {f1 f2 : Nat → va_E} (h : f1 = f2) (kk : pv_V D κ cells slots LP f2 pc lv st) : pv_V D κ cells slots LP f1 pc lv st := by
  subst h
  exact kk
end PKR
