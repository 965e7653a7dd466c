/-! the reference's state: z k j is what its field k holds at place j (a number alone: place 0) -/
abbrev tys_ (γ : Nat → ClassId) : List (ClassId × FieldType) := [(γ 0, .object RA), (γ 1, .object RN), (γ 2, .object RU), (γ 3, .int), (γ 4, .boolean), (γ 5, .long)]
abbrev zT : Type := Nat → Nat → Int32
def zs (z : zT) (k j : Nat) (x : Int32) : zT := fun a b => if a = k ∧ b = j then x else z a b
theorem zs_eq (z : zT) (k j : Nat) (x : Int32) : zs z k j x k j = x := if_pos ⟨rfl, rfl⟩
theorem zs_k (z : zT) {k j a b : Nat} (x : Int32) (h : a ≠ k) : zs z k j x a b = z a b := if_neg (fun q => h q.1)
theorem zs_j (z : zT) {k j a b : Nat} (x : Int32) (h : b ≠ j) : zs z k j x a b = z a b := if_neg (fun q => h q.2)
theorem zs_row (z : zT) {k j a : Nat} (x : Int32) (h : a ≠ k) : zs z k j x a = z a := funext fun _ => zs_k z x h
theorem zs_upd (z : zT) (k j : Nat) (x : Int32) : zs z k j x k = upd (z k) j x := funext fun b => by
  by_cases h : b = j
  · subst h; rw [zs_eq, pk_us]
  · rw [zs_j z x h, pk_un h]
def mm_arrs : List Nat := [2, 4, 5, 6, 7, 8, 9, 10, 11, 12, 13, 14, 15, 16, 17, 19, 20, 21, 22, 23, 24, 25, 26, 30]
def mm_c (γ : Nat → ClassId) (k : Nat) : ClassId := if k = 2 ∨ k = 15 ∨ k = 16 ∨ k = 17 then γ 4 else γ 3
def mm_len (k : Nat) : Nat := if k = 2 then 8 else if k < 9 then 17 else if k < 17 then 68 else if k = 17 then 544 else if k = 30 then 64 else 121
theorem mm_len_lt (k : Nat) : mm_len k < 2 ^ 31 := by
  unfold mm_len
  (repeat' split) <;> omega
def mm_o (ad : Nat → Nat) (z : zT) : List Value := [.int (z 0 0), .int (z 1 0), .ref (ad 2), .int (z 3 0), .ref (ad 4), .ref (ad 5), .ref (ad 6), .ref (ad 7), .ref (ad 8), .ref (ad 9), .ref (ad 10), .ref (ad 11), .ref (ad 12), .ref (ad 13), .ref (ad 14), .ref (ad 15), .ref (ad 16), .ref (ad 17), .int (z 18 0), .ref (ad 19), .ref (ad 20), .ref (ad 21), .ref (ad 22), .ref (ad 23), .ref (ad 24), .ref (ad 25), .ref (ad 26), .int (z 27 0), .int (z 28 0), .int (z 29 0), .ref (ad 30)]
def mm_f (γ : Nat → ClassId) (f0 : Nat → va_E) (mo : Nat) (ad : Nat → Nat) (z : zT) : Nat → va_E := fun a => if a = mo then .inr (4, mm_o ad z) else match mm_arrs.find? (fun k => ad k == a) with
  | some k => .inl (mm_c γ k, mm_len k, .inl (z k))
  | none => f0 a
def mm_H (mo : Nat) (ad : Nat → Nat) (LP : List Nat) : Prop := mo ∈ LP ∧ (∀ k ∈ mm_arrs, ad k ∈ LP) ∧ (∀ k ∈ mm_arrs, ad k ≠ mo) ∧ ∀ i ∈ mm_arrs, ∀ j ∈ mm_arrs, ad i = ad j → i = j
section MM
variable {γ : Nat → ClassId} {f0 : Nat → va_E} {mo : Nat} {ad : Nat → Nat} {z : zT} {LP : List Nat}
theorem mm_find (G : mm_H mo ad LP) {k : Nat} (hk : k ∈ mm_arrs) : mm_arrs.find? (fun i => ad i == ad k) = some k := by
  cases h : mm_arrs.find? (fun i => ad i == ad k) with
  | none => exact absurd (beq_self_eq_true (ad k)) (by simpa using List.find?_eq_none.mp h k hk)
  | some i =>
    have h1 := List.find?_some h
    have h2 := List.mem_of_find?_eq_some h
    rw [G.2.2.2 i h2 k hk (by simpa using h1)]
theorem mm_obj : mm_f γ f0 mo ad z mo = .inr (4, mm_o ad z) := if_pos rfl
theorem mm_at (G : mm_H mo ad LP) {k : Nat} (hk : k ∈ mm_arrs) : mm_f γ f0 mo ad z (ad k) = .inl (mm_c γ k, mm_len k, .inl (z k)) := by
  unfold mm_f
  rw [if_neg (G.2.2.1 k hk), mm_find G hk]
theorem mm_up_arr (G : mm_H mo ad LP) {k : Nat} (hk : k ∈ mm_arrs) (j : Nat) (x : Int32) (h0 : ∀ z' : zT, (∀ i, i ∉ mm_arrs → z' i = z i) → mm_o ad z' = mm_o ad z) : va_up (mm_f γ f0 mo ad z) (ad k) (.inl (mm_c γ k, mm_len k, .inl (upd (z k) j x))) = mm_f γ f0 mo ad (zs z k j x) := by
  funext a
  have ho : mm_o ad (zs z k j x) = mm_o ad z := h0 _ (fun i hi => zs_row z x (fun q => hi (q ▸ hk)))
  by_cases h : a = ad k
  · subst h
    rw [va_up_self, mm_at G hk, zs_upd]
  · rw [va_up_ne _ _ h]
    unfold mm_f
    rw [ho]
    by_cases h2 : a = mo
    · rw [if_pos h2, if_pos h2]
    · rw [if_neg h2, if_neg h2]
      cases h3 : mm_arrs.find? (fun i => ad i == a) with
      | none => rfl
      | some i =>
        have h4 : ad i = a := by simpa using List.find?_some h3
        have h5 : i ≠ k := fun q => h (by rw [← h4, q])
        show Sum.inl (mm_c γ i, mm_len i, Sum.inl (z i)) = Sum.inl (mm_c γ i, mm_len i, Sum.inl (zs z k j x i))
        rw [zs_row z x h5]
theorem mm_o_arr {z' : zT} (h : ∀ i, i ∉ mm_arrs → z' i = z i) : mm_o ad z' = mm_o ad z := by
  unfold mm_o
  rw [h 0 (by decide), h 1 (by decide), h 3 (by decide), h 18 (by decide), h 27 (by decide), h 28 (by decide), h 29 (by decide)]
theorem mm_up_obj {k : Nat} (hk : k ∉ mm_arrs) (x : Int32) (ho : (mm_o ad z).set k (.int x) = mm_o ad (zs z k 0 x)) : va_up (mm_f γ f0 mo ad z) mo (.inr (4, (mm_o ad z).set k (.int x))) = mm_f γ f0 mo ad (zs z k 0 x) := by
  funext a
  by_cases h : a = mo
  · subst h
    rw [va_up_self, mm_obj, ho]
  · rw [va_up_ne _ _ h]
    unfold mm_f
    rw [if_neg h, if_neg h]
    cases h3 : mm_arrs.find? (fun i => ad i == a) with
    | none => rfl
    | some i =>
      have h5 : i ≠ k := fun q => hk (q ▸ List.mem_of_find?_eq_some h3)
      show Sum.inl (mm_c γ i, mm_len i, Sum.inl (z i)) = Sum.inl (mm_c γ i, mm_len i, Sum.inl (zs z k 0 x i))
      rw [zs_row z x h5]
end MM
section PM
variable {l0 : Launch} {D : va_G} {γ : Nat → ClassId} {κ : pv_K} {cc : ByteArray} {rm : Room} {nl : Nat} {cells slots : Nat} {LP : List Nat} {f0 : Nat → va_E} {mo : Nat} {ad : Nat → Nat} {z : zT} {pc : Nat} {lv : List (Nat × Value)} {st : List Value}
/-- a walk over the reference's state -/
abbrev pm_V (D : va_G) (γ : Nat → ClassId) (κ : pv_K) (cells slots : Nat) (LP : List Nat) (f0 : Nat → va_E) (mo : Nat) (ad : Nat → Nat) (z : zT) (pc : Nat) (lv : List (Nat × Value)) (st : List Value) : Prop := pv_V D κ cells slots LP (mm_f γ f0 mo ad z) pc lv st
theorem pm_get (C : pv_C l0 D (tys_ γ) κ cc RM rm nl) (G : mm_H mo ad LP) {index : Nat} (k : Nat) (hk : k < 31) (hlk : Cond.fieldLink RM index RM (TM k).2.1 (TM k).2.2.1 ∈ Wg) (hr : (TM k).1 = RM) {v : Value} (hv : (mm_o ad z)[k]? = some v) (d : decode cc pc = .ok (.getfield index, 3)) (kk : pm_V D γ κ cells slots LP f0 mo ad z (pc + 3) lv (v :: st)) : pm_V D γ κ cells slots LP f0 mo ad z pc lv (.ref mo :: st) :=
  pv_get C hin_M rfl G.1 mm_obj k hk hlk hr hv d kk
theorem pm_put (C : pv_C l0 D (tys_ γ) κ cc RM rm nl) (G : mm_H mo ad LP) {index : Nat} (k : Nat) (hk : k < 31) (hlk : Cond.fieldLink RM index RM (TM k).2.1 (TM k).2.2.1 ∈ Wg) (hr : (TM k).1 = RM) (hfin : (TM k).2.2.2 = false) {x : Int32} (hty : tyM k = .int) (hka : k ∉ mm_arrs) (ho : (mm_o ad z).set k (.int x) = mm_o ad (zs z k 0 x)) (d : decode cc pc = .ok (.putfield index, 3)) (kk : pm_V D γ κ cells slots LP f0 mo ad (zs z k 0 x) (pc + 3) lv st) : pm_V D γ κ cells slots LP f0 mo ad z pc lv (.int x :: .ref mo :: st) :=
  pv_put C hin_M tyM tyM_ok nmM rfl G.1 mm_obj k hk hlk hr hfin (by rw [hty]; rfl) (by rw [hty]; rfl) hk d (by rw [mm_up_obj hka x ho]; exact kk)
theorem pm_ald (C : pv_C l0 D (tys_ γ) κ cc RM rm nl) (G : mm_H mo ad LP) (k : Nat) (hk : k ∈ mm_arrs) (hc : mm_c γ k = γ 3) {i : Int32} {j : Nat} (hi : i = nI j) (hj : j < mm_len k) (d : decode cc pc = .ok (.iaload, 1)) (kk : pm_V D γ κ cells slots LP f0 mo ad z (pc + 1) lv (.int (z k j) :: st)) : pm_V D γ κ cells slots LP f0 mo ad z pc lv (.int i :: .ref (ad k) :: st) :=
  pv_iald C 3 (cA := mm_c γ k) (by rw [hc]; rfl) (G.2.1 k hk) (mm_at G hk) hi hj (mm_len_lt k) d kk
theorem pm_zld (C : pv_C l0 D (tys_ γ) κ cc RM rm nl) (G : mm_H mo ad LP) (k : Nat) (hk : k ∈ mm_arrs) (hc : mm_c γ k = γ 4) {i : Int32} {j : Nat} (hi : i = nI j) (hj : j < mm_len k) (d : decode cc pc = .ok (.baload, 1)) (kk : pm_V D γ κ cells slots LP f0 mo ad z (pc + 1) lv (.int (z k j) :: st)) : pm_V D γ κ cells slots LP f0 mo ad z pc lv (.int i :: .ref (ad k) :: st) :=
  pv_zald C 4 (cA := mm_c γ k) (by rw [hc]; rfl) (G.2.1 k hk) (mm_at G hk) hi hj (mm_len_lt k) d kk
theorem pm_ast (C : pv_C l0 D (tys_ γ) κ cc RM rm nl) (G : mm_H mo ad LP) (k : Nat) (hk : k ∈ mm_arrs) (hc : mm_c γ k = γ 3) {i x : Int32} {j : Nat} (hi : i = nI j) (hj : j < mm_len k) (d : decode cc pc = .ok (.iastore, 1)) (kk : pm_V D γ κ cells slots LP f0 mo ad (zs z k j x) (pc + 1) lv st) : pm_V D γ κ cells slots LP f0 mo ad z pc lv (.int x :: .int i :: .ref (ad k) :: st) :=
  pv_iast C 3 (cA := mm_c γ k) (by rw [hc]; rfl) (G.2.1 k hk) (mm_at G hk) hi hj (mm_len_lt k) d (by rw [mm_up_arr G hk j x (fun _ h => mm_o_arr h)]; exact kk)
theorem pm_zst (C : pv_C l0 D (tys_ γ) κ cc RM rm nl) (G : mm_H mo ad LP) (k : Nat) (hk : k ∈ mm_arrs) (hc : mm_c γ k = γ 4) {i x : Int32} {j : Nat} (hi : i = nI j) (hj : j < mm_len k) (hx : vp_nar .boolean x = x) (d : decode cc pc = .ok (.bastore, 1)) (kk : pm_V D γ κ cells slots LP f0 mo ad (zs z k j x) (pc + 1) lv st) : pm_V D γ κ cells slots LP f0 mo ad z pc lv (.int x :: .int i :: .ref (ad k) :: st) :=
  pv_zast C 4 (cA := mm_c γ k) (by rw [hc]; rfl) (G.2.1 k hk) (mm_at G hk) hi hj (mm_len_lt k) hx d (by rw [mm_up_arr G hk j x (fun _ h => mm_o_arr h)]; exact kk)
end PM
