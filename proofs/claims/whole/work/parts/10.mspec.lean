/-! the reference as functions over its state -/
def bN (b : Bool) : Int32 := if b = true then 1 else 0
theorem bN_t : bN true = 1 := rfl
theorem bN_f : bN false = 0 := rfl
theorem bN_0 {b : Bool} (h : bN b = 0) : b = false := by cases b; rfl; exact absurd h (by decide)
theorem bN_1 {b : Bool} (h : ¬ bN b = 0) : b = true := by cases b; exact absurd rfl h; rfl
theorem bN_nar (b : Bool) : vp_nar .boolean (bN b) = bN b := by cases b <;> rfl
theorem bN_n (b : Bool) : narrow .boolean (.int (bN b)) = .int (bN b) := by cases b <;> rfl
abbrev ix (x : Int32) : Nat := x.toNatClampNeg
theorem ix_nI {n : Nat} (h : n < 2 ^ 31) : ix (nI n) = n := nI_clamp h
theorem nI_ix {x : Int32} (h : ¬ x < 0) : x = nI (ix x) := by
  obtain ⟨j, h1, rfl⟩ := nI_of h
  rw [ix_nI h1]
def inB (v lo hi : Int32) : Bool := decide (lo ≤ v) && decide (v ≤ hi)
theorem inB_t {v lo hi : Int32} (h : inB v lo hi = true) : lo ≤ v ∧ v ≤ hi := by simpa [inB] using h
theorem inB_f {v lo hi : Int32} (h : inB v lo hi = false) : ¬ (lo ≤ v ∧ v ≤ hi) := fun q => by simp [inB, q.1, q.2] at h
/-- an argument within 0 .. n is a number -/
theorem inB_ix {v lo hi : Int32} {a b : Nat} (h : inB v lo hi = true) (hlo : lo = nI a) (hhi : hi = nI b) (ha : a < 2 ^ 31) (hb : b < 2 ^ 31) : v = nI (ix v) ∧ a ≤ ix v ∧ ix v ≤ b := by
  obtain ⟨h1, h2⟩ := inB_t h
  subst hlo
  subst hhi
  have h0 : ¬ v < 0 := fun q => by
    have := Int32.lt_iff_toInt_lt.mp q
    have h3 := Int32.le_iff_toInt_le.mp h1
    rw [nI_toInt ha] at h3
    rw [Int32.toInt_zero] at this
    omega
  obtain ⟨j, hj, rfl⟩ := nI_of h0
  rw [ix_nI hj]
  exact ⟨rfl, (nI_leI ha hj).mp h1, (nI_leI hj hb).mp h2⟩
abbrev zA (z : zT) : Nat := ix (z 3 0)
abbrev zU (z : zT) : Nat := ix (z 18 0)
abbrev zD (z : zT) : Nat := ix (z 29 0)
abbrev zt (z : zT) (i : Nat) : Nat := ix (z 6 i)
abbrev zl (z : zT) (u : Nat) : Nat := ix (z 19 u)
/-- what keeps the reference within its arrays -/
def zI (z : zT) : Prop := (z 3 0 = nI (zA z) ∧ zA z ≤ 16) ∧ (z 18 0 = nI (zU z) ∧ zU z ≤ 120) ∧ (z 29 0 = nI (zD z) ∧ zD z ≤ 64) ∧ (∀ i, i ≤ 16 → z 6 i = nI (zt z i) ∧ zt z i ≤ 4 ∧ z 5 i = nI (ix (z 5 i)) ∧ zt z i ≤ ix (z 5 i) ∧ ix (z 5 i) ≤ 4) ∧ (∀ u, 1 ≤ u → u ≤ zU z → z 19 u = nI (zl z u) ∧ 4 ≤ zl z u ∧ zl z u < 68) ∧ ∀ i, i < zD z → z 30 i = nI (ix (z 30 i)) ∧ ix (z 30 i) < 68
def isA (z : zT) (a : Int32) : Bool := inB a 1 (z 3 0)
def isL (z : zT) (a n : Int32) : Bool := isA z a && inB n 0 (z 6 (ix a) - 1)
def isU (z : zT) (u : Int32) : Bool := inB u 1 (z 18 0)
def isP (p : Int32) : Bool := inB p 0 7
theorem isA_ix {z : zT} {a : Int32} (hz : zI z) (h : isA z a = true) : a = nI (ix a) ∧ 1 ≤ ix a ∧ ix a ≤ zA z ∧ ix a ≤ 16 := by
  obtain ⟨h1, h2, h3⟩ := inB_ix (a := 1) (b := zA z) h rfl hz.1.1 (by decide) (by have := hz.1.2; omega)
  exact ⟨h1, h2, h3, Nat.le_trans h3 hz.1.2⟩
theorem isU_ix {z : zT} {u : Int32} (hz : zI z) (h : isU z u = true) : u = nI (ix u) ∧ 1 ≤ ix u ∧ ix u ≤ zU z ∧ ix u ≤ 120 := by
  obtain ⟨h1, h2, h3⟩ := inB_ix (a := 1) (b := zU z) h rfl hz.2.1.1 (by decide) (by have := hz.2.1.2; omega)
  exact ⟨h1, h2, h3, Nat.le_trans h3 hz.2.1.2⟩
theorem isP_ix {p : Int32} (h : isP p = true) : p = nI (ix p) ∧ ix p ≤ 7 := by
  obtain ⟨h1, -, h3⟩ := inB_ix (a := 0) (b := 7) h rfl rfl (by decide) (by decide)
  exact ⟨h1, h3⟩
theorem isL_ix {z : zT} {a n : Int32} (hz : zI z) (h : isL z a n = true) : (a = nI (ix a) ∧ 1 ≤ ix a ∧ ix a ≤ zA z ∧ ix a ≤ 16) ∧ n = nI (ix n) ∧ ix n < zt z (ix a) ∧ ix n < 4 := by
  have h1 : isA z a = true := by simp [isL] at h; exact h.1
  have h2 : inB n 0 (z 6 (ix a) - 1) = true := by simp [isL] at h; exact h.2
  have ha := isA_ix hz h1
  obtain ⟨e1, e2, -⟩ := hz.2.2.2.1 (ix a) ha.2.2.2
  rw [e1] at h2
  rcases Nat.eq_zero_or_pos (zt z (ix a)) with q | q
  · rw [q] at h2
    obtain ⟨q1, q2⟩ := inB_t h2
    have q3 := Int32.le_iff_toInt_le.mp q1
    have q4 := Int32.le_iff_toInt_le.mp q2
    rw [Int32.toInt_zero] at q3
    rw [show (nI 0 - 1).toInt = -1 by decide] at q4
    omega
  · have e3 : nI (zt z (ix a)) - 1 = nI (zt z (ix a) - 1) := by
      obtain ⟨w, hw⟩ : ∃ w, zt z (ix a) = w + 1 := ⟨zt z (ix a) - 1, by omega⟩
      rw [hw, nI_pred, Nat.add_sub_cancel]
    rw [e3] at h2
    obtain ⟨g1, -, g3⟩ := inB_ix (a := 0) (b := zt z (ix a) - 1) h2 rfl rfl (by decide) (by omega)
    exact ⟨ha, g1, by omega, by omega⟩
/-- a method of the reference: it answers r, and its state is z' then -/
def mP (γ : Nat → ClassId) (LP : List Nat) (f0 : Nat → va_E) (mo : Nat) (ad : Nat → Nat) (v : Option Value) (z' : zT) : Option Value → List Nat → (Nat → va_E) → Prop := fun w LP1 f1 => w = v ∧ LP1 = LP ∧ f1 = mm_f γ f0 mo ad z'
abbrev mM (l : Launch) (D : va_G) (γ : Nat → ClassId) (y : MethodName) (w0 : Cond) (rm : Room) (as : List Value) (LP : List Nat) (f0 : Nat → va_E) (mo : Nat) (ad : Nat → Nat) (z : zT) (v : Option Value) (z' : zT) : Prop := pv_M l D (tys_ γ) y w0 rm as LP (mm_f γ f0 mo ad z) (mP γ LP f0 mo ad v z') (fun _ => False)
theorem mP_i {γ : Nat → ClassId} {LP : List Nat} {f0 : Nat → va_E} {mo : Nat} {ad : Nat → Nat} {r : Int32} {z1 : zT} {q : Int32 × zT} (h : (r, z1) = q) : mP γ LP f0 mo ad (some (.int q.1)) q.2 (some (.int r)) LP (mm_f γ f0 mo ad z1) := by
  subst h
  exact ⟨rfl, rfl, rfl⟩
theorem mP_v {γ : Nat → ClassId} {LP : List Nat} {f0 : Nat → va_E} {mo : Nat} {ad : Nat → Nat} {z1 z2 : zT} (h : z1 = z2) : mP γ LP f0 mo ad none z2 none LP (mm_f γ f0 mo ad z1) := by
  subst h
  exact ⟨rfl, rfl, rfl⟩
section PB
variable {l0 : Launch} {D : va_G} {tys : List (ClassId × FieldType)} {κ : pv_K} {cc : ByteArray} {own : String} {rm : Room} {nl : Nat} {cells slots : Nat} {LP : List Nat} {f : Nat → va_E} {pc : Nat} {lv lv' : List (Nat × Value)} {st : List Value}
theorem pv_ifb_eq (C : pv_C l0 D tys κ cc own rm nl) {b : Bool} {off : Int} {tgt : Nat} (d : decode cc pc = .ok (.ifCond .eq off, 3)) (ht : (pc : Int) + off = (tgt : Int)) (kt : b = false → pv_V D κ cells slots LP f tgt lv st) (kf : b = true → pv_V D κ cells slots LP f (pc + 3) lv st) : pv_V D κ cells slots LP f pc lv (.int (bN b) :: st) :=
  pv_if_eq C d ht (fun h => kt (bN_0 h)) (fun h => kf (bN_1 h))
theorem pv_ifb_ne (C : pv_C l0 D tys κ cc own rm nl) {b : Bool} {off : Int} {tgt : Nat} (d : decode cc pc = .ok (.ifCond .ne off, 3)) (ht : (pc : Int) + off = (tgt : Int)) (kt : b = true → pv_V D κ cells slots LP f tgt lv st) (kf : b = false → pv_V D κ cells slots LP f (pc + 3) lv st) : pv_V D κ cells slots LP f pc lv (.int (bN b) :: st) :=
  pv_if_ne C d ht (fun h => kt (bN_1 h)) (fun h => kf (bN_0 h))
theorem pv_st {st2 : List Value} {c2 s2 : Nat} (h : st = st2) (hc : cells = c2) (hs : slots = s2) (kk : pv_V D κ c2 s2 LP f pc lv st2) : pv_V D κ cells slots LP f pc lv st := by
  subst h
  subst hc
  subst hs
  exact kk
theorem pv_top {x y : Int32} (h : x = y) (kk : pv_V D κ cells slots LP f pc lv (.int y :: st)) : pv_V D κ cells slots LP f pc lv (.int x :: st) := by
  subst h
  exact kk
end PB
