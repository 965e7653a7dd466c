/-! differences are no more than closed lines -/
def cC (z : zT) : Nat → Nat
  | 0 => 0
  | n + 1 => cC z n + (if z 16 (n + 4) = 0 then 0 else 1)
def zE (z : zT) : Prop := zD z ≤ cC z 64
theorem cC_row {z z' : zT} (h : z' 16 = z 16) : ∀ n, cC z' n = cC z n
  | 0 => rfl
  | n + 1 => by rw [cC, cC, cC_row h n, h]
theorem cC_le (z : zT) : ∀ n, cC z n ≤ n
  | 0 => Nat.le_refl _
  | n + 1 => by
    have := cC_le z n
    rw [cC]
    split <;> omega
theorem cC_lt {z : zT} {j : Nat} (h : z 16 (j + 4) = 0) : ∀ n, j < n → cC z n < n
  | 0, hj => absurd hj (Nat.not_lt_zero _)
  | n + 1, hj => by
    by_cases q : j = n
    · have := cC_le z n
      rw [cC, ← q, if_pos h, q]
      omega
    · have := cC_lt h n (by omega)
      rw [cC]
      split <;> omega
theorem cC_set {z z' : zT} {j : Nat} (h0 : z 16 (j + 4) = 0) (h1 : z' 16 (j + 4) = 1) (hn : ∀ i, i ≠ j + 4 → z' 16 i = z 16 i) : ∀ n, j < n → cC z' n = cC z n + 1
  | 0, hj => absurd hj (Nat.not_lt_zero _)
  | n + 1, hj => by
    by_cases q : j = n
    · subst q
      have e : ∀ m, m ≤ j → cC z' m = cC z m := fun m => by
        induction m with
        | zero => intro _; rfl
        | succ m ih => intro hm; rw [cC, cC, ih (by omega), hn (m + 4) (by omega)]
      rw [cC, cC, e j (Nat.le_refl _), if_pos h0, h1, if_neg (by decide)]
    · rw [cC, cC, cC_set h0 h1 hn n (by omega), hn (n + 4) (by omega)]
      omega
theorem zE_64 {z : zT} (h : zE z) {a n : Int32} (hz : zI z) : isL z a n = true → z 16 (4 * ix a + ix n) = 0 → zD z < 64 := by
  intro hl h0
  obtain ⟨hA, hn, h4, h5⟩ := isL_ix hz hl
  have e : 4 * ix a + ix n = (4 * ix a + ix n - 4) + 4 := by omega
  have := cC_lt (z := z) (j := 4 * ix a + ix n - 4) (by rw [← e]; exact h0) 64 (by omega)
  unfold zE at h
  omega
theorem zE_of {z z' : zT} (h : zE z) (h1 : z' 16 = z 16) (h2 : z' 29 = z 29) : zE z' := by
  unfold zE at h ⊢
  rw [cC_row h1, zD, h2]
  exact h
/-- the pool of the law: the component's cells, the reference's, the array for answers -/
abbrev wf (γ : Nat → ClassId) (ks : List kT) (ρ : kT → Nat) (x : xT) (g0 : Nat → va_E) (mo : Nat) (ad : Nat → Nat) (oa : Nat) (ov : Nat → Int64) (zc zm : zT) : Nat → va_E := cF γ ks ρ zc x (va_up (mm_f γ g0 mo ad zm) oa (lo γ ov))
def wI (LP : List Nat) (ks : List kT) (ρ : kT → Nat) (z : zT) (x : xT) (mo : Nat) (ad : Nat → Nat) (oa : Nat) : Prop := cI LP ks ρ z x ∧ mm_H mo ad LP ∧ oa ∈ LP ∧ (∀ k ∈ ks, ρ k ≠ oa) ∧ ((∀ k ∈ ks, ρ k ≠ mo) ∧ ∀ k ∈ ks, ∀ i ∈ mm_arrs, ρ k ≠ ad i) ∧ (oa ≠ mo ∧ ∀ i ∈ mm_arrs, oa ≠ ad i) ∧ zE z
theorem mm_out {γ : Nat → ClassId} {g0 : Nat → va_E} {mo : Nat} {ad : Nat → Nat} {z : zT} {a : Nat} {e : va_E} (h1 : a ≠ mo) (h2 : ∀ i ∈ mm_arrs, a ≠ ad i) : va_up (mm_f γ g0 mo ad z) a e = mm_f γ (va_up g0 a e) mo ad z := by
  funext q
  have hn : mm_arrs.find? (fun k => ad k == a) = none := List.find?_eq_none.mpr (fun k hk w => h2 k hk (by simpa using (beq_iff_eq.mp w).symm))
  by_cases w : q = a
  · rw [w, va_up_self]
    unfold mm_f
    rw [if_neg h1, hn]
    exact (va_up_self _ _ _).symm
  · rw [va_up_ne _ _ w]
    unfold mm_f
    by_cases w2 : q = mo
    · rw [if_pos w2, if_pos w2]
    · rw [if_neg w2, if_neg w2]
      cases mm_arrs.find? (fun k => ad k == q) with
      | none => exact (va_up_ne _ _ w).symm
      | some k => rfl
theorem kf_mm {γ : Nat → ClassId} {ks : List kT} {ρ : kT → Nat} {c : kT → va_E} {g0 : Nat → va_E} {mo : Nat} {ad : Nat → Nat} {z : zT} (h1 : ∀ k ∈ ks, ρ k ≠ mo) (h2 : ∀ k ∈ ks, ∀ i ∈ mm_arrs, ρ k ≠ ad i) : kf ks ρ c (mm_f γ g0 mo ad z) = mm_f γ (kf ks ρ c g0) mo ad z := by
  funext q
  unfold mm_f
  by_cases w : q = mo
  · rw [if_pos w, w, kf_not h1, if_pos rfl]
  · rw [if_neg w]
    cases hm : mm_arrs.find? (fun k => ad k == q) with
    | some i =>
      have e1 : ad i = q := by simpa using List.find?_some hm
      have e2 := List.mem_of_find?_eq_some hm
      rw [← e1] at w hm ⊢
      rw [kf_not (fun k hk => h2 k hk i e2), if_neg w, hm]
    | none =>
      unfold kf
      cases ks.find? (fun k => ρ k == q) with
      | some k => rfl
      | none =>
        show (if q = mo then _ else _) = g0 q
        rw [if_neg w, hm]
/-- the same pool, seen from the reference -/
theorem wf_m {γ : Nat → ClassId} {LP : List Nat} {ks : List kT} {ρ : kT → Nat} {z : zT} {x : xT} {mo : Nat} {ad : Nat → Nat} {oa : Nat} {ov : Nat → Int64} {g0 : Nat → va_E} {zc zm : zT} (h : wI LP ks ρ z x mo ad oa) : wf γ ks ρ x g0 mo ad oa ov zc zm = mm_f γ (kf ks ρ (cz γ ρ zc x) (va_up g0 oa (lo γ ov))) mo ad zm := by
  obtain ⟨-, -, -, -, ⟨h1, h2⟩, ⟨h3, h4⟩, -⟩ := h
  rw [wf, mm_out h3 h4, cF, kf_mm h1 h2]
/-- behind a call of the component -/
theorem wI_c {LP LP1 : List Nat} {ks ks' : List kT} {ρ ρ' : kT → Nat} {z z' : zT} {x x' : xT} {mo : Nat} {ad : Nat → Nat} {oa : Nat} (h : wI LP ks ρ z x mo ad oa) (J : cI LP1 ks' ρ' z' x') (hL : ∀ a ∈ LP, a ∈ LP1) (hfr : ∀ k ∈ ks', (∃ j ∈ ks, ρ' k = ρ j) ∨ ρ' k ∉ LP) (hE : zE z') : wI LP1 ks' ρ' z' x' mo ad oa := by
  obtain ⟨h0, hG, h2, h3, ⟨h4, h5⟩, h6, -⟩ := h
  exact ⟨J, ⟨hL _ hG.1, fun k hk => hL _ (hG.2.1 k hk), hG.2.2⟩, hL _ h2, fr_ne h2 h3 hfr, ⟨fr_ne hG.1 h4 hfr, fun k hk i hi => fr_ne (hG.2.1 i hi) (fun j hj => h5 j hj i hi) hfr k hk⟩, h6, hE⟩
/-! what the law has besides: the script, its own end -/
def pv_Y (κ : pv_K) (b L : Nat) (xs : Nat → Int32) : Prop :=
  match κ with
  | (p, l, e, R, s, m, args, below, meth, c, A, nL, Q) => va_X b L xs s s.heap ∧ b < s.heap.size ∧ A = (fun q : Nat => s.heap.size ≤ q) ∧ Q = lw_Z below #[Value.ref b] s ∧ args = #[Value.ref b] ∧ meth.sig.returnType = Option.some FieldType.boolean ∧ L ≤ 3072
section PY
variable {l0 : Launch} {D : va_G} {tys : List (ClassId × FieldType)} {κ : pv_K} {cc : ByteArray} {own : String} {rm : Room} {nl : Nat} {cells slots : Nat} {LP : List Nat} {f : Nat → va_E} {pc : Nat} {lv lv' : List (Nat × Value)} {st : List Value} {b L : Nat} {xs : Nat → Int32}
theorem pv_slen (C : pv_C l0 D tys κ cc own rm nl) (Y : pv_Y κ b L xs) (d : decode cc pc = .ok (.arraylength, 1)) (kk : pv_V D κ cells slots LP f (pc + 1) lv (.int (nI L) :: st)) : pv_V D κ cells slots LP f pc lv (.ref b :: st) := by
  obtain ⟨p, l, e, R, s, m, args, below, meth, c, A, nL, Q⟩ := κ
  obtain ⟨hX, hbl, hA, -⟩ := Y
  exact fun H locs ls hP hD hS hl => va_slen C.1 C.2.1 hX hbl (by rw [hA]; exact Nat.not_le.mpr hbl) hS d (kk H locs ls hP hD hS hl)
theorem pv_sld (C : pv_C l0 D tys κ cc own rm nl) (Y : pv_Y κ b L xs) {i : Int32} {j : Nat} (hi : i = nI j) (hj : j < L) (d : decode cc pc = .ok (.iaload, 1)) (kk : pv_V D κ cells slots LP f (pc + 1) lv (.int (xs j) :: st)) : pv_V D κ cells slots LP f pc lv (.int i :: .ref b :: st) := by
  obtain ⟨p, l, e, R, s, m, args, below, meth, c, A, nL, Q⟩ := κ
  obtain ⟨hX, hbl, hA, -, -, -, hL⟩ := Y
  subst hi
  intro H locs ls hP hD hS hl
  refine va_sld C.1 C.2.1 hX hbl (by rw [hA]; exact Nat.not_le.mpr hbl) hS (vp_in_nI hj (by omega)) d ?_
  rw [nI_clamp (by omega)]
  exact kk H locs ls hP hD hS hl
theorem pv_lend (C : pv_C l0 D tys κ code own room_1 nl) (Y : pv_Y κ b L xs) (hc : cells ≤ 601024) (hs : slots ≤ 7293034) (d : decode code pc = .ok (.ireturn, 1)) : pv_V D κ cells slots LP f pc lv [.int 1] := by
  obtain ⟨p, l, e, R, s, m, args, below, meth, c, A, nL, Q⟩ := κ
  obtain ⟨hX, hbl, hA, hQ, ha, hr, hL⟩ := Y
  obtain ⟨hx, hb, hml, hown, hts, hK, hA2, hRe, hnl, hlocks, hE, htr, hl0⟩ := C
  subst hQ
  subst ha
  subst hRe
  intro H locs ls hP hD hS hl
  refine va_forget (fun q hq => by have := hS.2.2 q hq; rw [hA] at this; exact this) ?_
  refine W.widen hc hs ?_
  exact lw_ret hx hb hr hlocks d
/-- v != 0 as a boolean -/
theorem pv_nz (C : pv_C l0 D tys κ cc own rm nl) {v : Int32} (d1 : decode cc pc = .ok (.ifCond .eq 7, 3)) (d2 : decode cc (pc + 3) = .ok (.iconst 1, 1)) (d3 : decode cc (pc + 4) = .ok (.goto 4, 3)) (d4 : decode cc (pc + 7) = .ok (.iconst 0, 1)) (kk : pv_V D κ cells slots LP f (pc + 8) lv (.int (bN (!decide (v = 0))) :: st)) : pv_V D κ cells slots LP f pc lv (.int v :: st) := by
  refine pv_if_eq (tgt := pc + 7) C d1 (by omega) (fun h => ?_) (fun h => ?_)
  · refine pv_iconst (v := 0) C d4 (by decide) ?_
    rw [decide_eq_true h] at kk
    exact kk
  · refine pv_iconst (v := 1) C d2 (by decide) ?_
    refine pv_goto (tgt := pc + 8) C d3 (by omega) ?_
    rw [decide_eq_false h] at kk
    exact kk
end PY
