/-! contracts of the component: line (by wip/whole/gen/c11.py) -/
def lnz (z : zT) (i : Nat) (g n : Int32) : zT := zs (zs (zs z 9 (4 * i + zt z i) g) 10 (4 * i + zt z i) n) 6 i ((z 6 i) + 1)
section LNZ
variable {z : zT} {i : Nat} {g n : Int32}
theorem lnz_row {a : Nat} (h : a ≠ 6 ∧ a ≠ 9 ∧ a ≠ 10) : lnz z i g n a = z a := by
  unfold lnz
  rw [zs_row _ _ h.1, zs_row _ _ h.2.2, zs_row _ _ h.2.1]
theorem lnz_6 (hz : zI z) (hi : i ≤ 16) (h4 : zt z i < 4) : lnz z i g n 6 i = nI (zt z i + 1) ∧ zt (lnz z i g n) i = zt z i + 1 := by
  have e : lnz z i g n 6 i = nI (zt z i + 1) := by
    unfold lnz
    rw [zs_eq, (hz.2.2.2.1 i hi).1, nI_next]
  exact ⟨e, by rw [zt, e, ix_nI (by omega)]⟩
theorem lnz_6n {j : Nat} (h : j ≠ i) : lnz z i g n 6 j = z 6 j := by
  unfold lnz
  rw [zs_j _ _ h, zs_k _ _ (by decide), zs_k _ _ (by decide)]
theorem lnz_9 : lnz z i g n 9 (4 * i + zt z i) = g := by
  unfold lnz
  rw [zs_k _ _ (by decide), zs_k _ _ (by decide), zs_eq]
theorem lnz_10 : lnz z i g n 10 (4 * i + zt z i) = n := by
  unfold lnz
  rw [zs_k _ _ (by decide), zs_eq]
theorem lnz_n {a j : Nat} (ha : a = 9 ∨ a = 10) (h : j ≠ 4 * i + zt z i) : lnz z i g n a j = z a j := by
  unfold lnz
  rcases ha with w | w <;> subst w
  · rw [zs_k _ _ (by decide), zs_k _ _ (by decide), zs_j _ _ h]
  · rw [zs_k _ _ (by decide), zs_j _ _ h, zs_k _ _ (by decide)]
theorem ln_vK (hz : zI z) (hi : 1 ≤ i ∧ i ≤ zA z) (h4 : zt z i < 4) (k : kT) : vK (lnz z i g n) k ↔ vK z k ∨ k = (3, 4 * i + zt z i) := by
  have hz1 := hz.1.2
  have e := (lnz_6 (g := g) (n := n) hz (by omega) h4).2
  have r3 : zA (lnz z i g n) = zA z := by rw [zA, lnz_row (by decide)]
  have r18 : zU (lnz z i g n) = zU z := by rw [zU, lnz_row (by decide)]
  obtain ⟨p, m⟩ := k
  match p with
  | 0 =>
    show m ≤ 3 ↔ m ≤ 3 ∨ _
    exact ⟨Or.inl, fun w => w.elim id (fun w => absurd (congrArg Prod.fst w) (show ¬ (0 : Nat) = 3 by decide))⟩
  | 1 =>
    show 1 ≤ m ∧ m ≤ zA (lnz z i g n) ↔ (1 ≤ m ∧ m ≤ zA z) ∨ _
    rw [r3]
    exact ⟨Or.inl, fun w => w.elim id (fun w => absurd (congrArg Prod.fst w) (show ¬ (1 : Nat) = 3 by decide))⟩
  | 2 =>
    show 1 ≤ m ∧ m ≤ zA (lnz z i g n) ↔ (1 ≤ m ∧ m ≤ zA z) ∨ _
    rw [r3]
    exact ⟨Or.inl, fun w => w.elim id (fun w => absurd (congrArg Prod.fst w) (show ¬ (2 : Nat) = 3 by decide))⟩
  | 3 =>
    show (1 ≤ m / 4 ∧ m / 4 ≤ zA (lnz z i g n) ∧ m % 4 < zt (lnz z i g n) (m / 4)) ↔ (1 ≤ m / 4 ∧ m / 4 ≤ zA z ∧ m % 4 < zt z (m / 4)) ∨ _
    rw [r3]
    by_cases q : m / 4 = i
    · rw [q, e]
      constructor
      · intro w
        by_cases q2 : m % 4 = zt z i
        · exact Or.inr (by rw [show m = 4 * i + zt z i by omega])
        · exact Or.inl ⟨w.1, w.2.1, by omega⟩
      · rintro (w | w)
        · exact ⟨w.1, w.2.1, by omega⟩
        · have w2 : m = 4 * i + zt z i := congrArg Prod.snd w
          exact ⟨hi.1, hi.2, by omega⟩
    · rw [show zt (lnz z i g n) (m / 4) = zt z (m / 4) by rw [zt, lnz_6n q]]
      exact ⟨Or.inl, fun w => w.elim id (fun w => by have w2 : m = 4 * i + zt z i := congrArg Prod.snd w; omega)⟩
  | 4 =>
    show 1 ≤ m ∧ m ≤ zU (lnz z i g n) ↔ (1 ≤ m ∧ m ≤ zU z) ∨ _
    rw [r18]
    exact ⟨Or.inl, fun w => w.elim id (fun w => absurd (congrArg Prod.fst w) (show ¬ (4 : Nat) = 3 by decide))⟩
  | p + 5 => exact ⟨fun w => False.elim w, fun w => w.elim (fun w => False.elim w) (fun w => absurd (congrArg Prod.fst w) (show ¬ p + 5 = 3 by omega))⟩
theorem ln_new (h4 : zt z i < 4) : ¬ vK z (3, 4 * i + zt z i) := by
  intro w
  have w2 := w.2.2
  have e1 : (4 * i + zt z i) / 4 = i := by omega
  have w3 : (4 * i + zt z i) % 4 < zt z ((4 * i + zt z i) / 4) := w2
  rw [e1] at w3
  omega
theorem ln_cI {LP LP' : List Nat} {ks : List kT} {ρ ρ' : kT → Nat} {x : xT} (J : cI LP ks ρ z x) (hi : 1 ≤ i ∧ i ≤ zA z) (h4 : zt z i < 4) (h5 : zt z i < ix (z 5 i)) (H' : kH (ks ++ [(3, 4 * i + zt z i)]) ρ' LP') : cI LP' (ks ++ [(3, 4 * i + zt z i)]) ρ' (lnz z i g n) (x.1, upd x.2.1 (4 * i + zt z i) 0, x.2.2) := by
  obtain ⟨H, hV, hz, hJ⟩ := J
  have hz1 := hz.1.2
  have hF := hJ.2.2.2.2.2.2
  have r : ∀ a, (a ≠ 6 ∧ a ≠ 9 ∧ a ≠ 10) → lnz z i g n a = z a := fun a q => lnz_row q
  have ev := ln_vK (g := g) (n := n) hz hi h4
  obtain ⟨e0, e⟩ := lnz_6 (g := g) (n := n) hz (show i ≤ 16 by omega) h4
  have hnew := ln_new (z := z) (i := i) h4
  refine ⟨H', fun k => ?_, ⟨?_, ?_, ?_, ?_, ?_, ?_⟩, ?_⟩
  · rw [ev, List.mem_append, List.mem_singleton, hV]
  · simp only [zA, r 3 (by decide)]; exact hz.1
  · simp only [zU, r 18 (by decide)]; exact hz.2.1
  · simp only [zD, r 29 (by decide)]; exact hz.2.2.1
  · intro j hj
    have h6 := hz.2.2.2.1 j hj
    rw [r 5 (by decide)]
    by_cases q : j = i
    · rw [q] at h6 ⊢
      rw [e]
      exact ⟨e0, by omega, h6.2.2.1, by omega, h6.2.2.2.2⟩
    · rw [zt, lnz_6n q]
      exact h6
  · simp only [zU, zl, r 18 (by decide), r 19 (by decide)]; exact hz.2.2.2.2.1
  · simp only [zD, r 29 (by decide), r 30 (by decide)]; exact hz.2.2.2.2.2
  · refine ⟨fun u h1 h2 => (ev _).mpr (Or.inl ?_), fun j h1 => (ev _).mpr (Or.inl ?_), ?_, ?_, ?_, ?_, ?_, ?_, ?_, ?_⟩
    · simp only [zU, zl, r 18 (by decide), r 19 (by decide)] at h2 ⊢
      exact hJ.1 u h1 h2
    · simp only [zD, r 29 (by decide), r 30 (by decide)] at h1 ⊢
      exact hJ.2.1 j h1
    · rw [r 2 (by decide)]; exact hJ.2.2.1
    · rw [r 17 (by decide)]
      intro j p h1 h2
      by_cases q : j = 4 * i + zt z i
      · have h7 := (hF.2.2.1 j h1 (by rw [q]; exact hnew)).2.2.2.2.2.2 p h2
        show upd x.2.1 (4 * i + zt z i) 0 j &&& bitI (nI p) = 0 ↔ _
        rw [q, pk_us, ← q, h7]
        exact ⟨fun _ => rfl, fun _ => Int32.zero_and⟩
      · show upd x.2.1 (4 * i + zt z i) 0 j &&& bitI (nI p) = 0 ↔ _
        rw [pk_un q]
        exact hJ.2.2.2.1 j p h1 h2
    · simp only [zU, zl, r 18 (by decide), r 19 (by decide), r 20 (by decide), r 24 (by decide), r 15 (by decide)]
      exact hJ.2.2.2.2.1
    · simp only [r 13 (by decide), r 14 (by decide)]
      exact hJ.2.2.2.2.2.1
    · rw [r 7 (by decide)]; exact hF.1
    · intro j h1 h2
      simp only [zA, r 3 (by decide)] at h1
      rw [lnz_6n (show j ≠ i by have : zA z < j := h1; omega), r 7 (by decide)]
      exact hF.2.1 j h1 h2
    · intro j hj q
      simp only [r 11 (by decide), r 12 (by decide), r 13 (by decide), r 14 (by decide), r 15 (by decide), r 16 (by decide), r 17 (by decide)]
      exact hF.2.2.1 j hj (fun w => q ((ev _).mpr (Or.inl w)))
    · simp only [zU, r 18 (by decide), r 24 (by decide), r 25 (by decide), r 26 (by decide)]
      exact hF.2.2.2
theorem ln_cz {γ : Nat → ClassId} {LP : List Nat} {ks : List kT} {ρ ρ' : kT → Nat} {x : xT} (J : cI LP ks ρ z x) (hi : 1 ≤ i ∧ i ≤ zA z) (h4 : zt z i < 4) (a1 : ∀ i ∈ ks, ρ' i = ρ i) {k : kT} (hk : k ∈ ks ++ [(3, 4 * i + zt z i)]) : ku (ku (ku (cz γ ρ z x) (3, 4 * i + zt z i) (.inr (1, [.ref (ρ (1, i)), .int (z 6 i), .int g, .int n, .int 0, .int 0, .int 0, .int 0, .int 0, .int 0, .int 0]))) (2, i) (.inl (γ 1, 4, .inr (.inr (.inr (.inr (va_up (gL ρ z i) (zt z i) (some (ρ' (3, 4 * i + zt z i)))))))))) (1, i) (.inr (0, [.int (nI i), .int (z 4 i), .int (z 5 i), .ref (ρ (2, i)), .int (z 6 i + 1), .int (z 7 i), .int (z 8 i)])) k = cz γ ρ' (lnz z i g n) (x.1, upd x.2.1 (4 * i + zt z i) 0, x.2.2) k := by
  obtain ⟨H, hV, hz, hJ⟩ := id J
  have hz1 := hz.1.2
  have hF := hJ.2.2.2.2.2.2
  have r : ∀ a, (a ≠ 6 ∧ a ≠ 9 ∧ a ≠ 10) → lnz z i g n a = z a := fun a q => lnz_row q
  obtain ⟨e0, e⟩ := lnz_6 (g := g) (n := n) hz (show i ≤ 16 by omega) h4
  have gv : ∀ i, vK z i → ρ i = ρ' i := fun i hi => (a1 i ((hV i).mpr hi)).symm
  have hL68 : 4 * i + zt z i < 68 := by omega
  have f0 := hF.2.2.1 _ hL68 (ln_new h4)
  by_cases q0 : k = (1, i)
  · subst q0
    rw [ku_eq]
    show _ = Sum.inr (0, cA ρ' _ i)
    simp only [cA, gv (2, i) (vK_b hi.1 hi.2), e0, r 4 (by decide), r 5 (by decide), r 7 (by decide), r 8 (by decide)]
    rw [(hz.2.2.2.1 i (by omega)).1, nI_next]
  rw [ku_ne _ _ q0]
  by_cases q1 : k = (2, i)
  · subst q1
    rw [ku_eq]
    show _ = Sum.inl (γ 1, 4, _)
    rw [show va_up (gL ρ z i) (zt z i) (some (ρ' (3, 4 * i + zt z i))) = gL ρ' (lnz z i g n) i by
      funext j
      unfold gL
      rw [e]
      by_cases w : j = zt z i
      · rw [w, va_up_self, if_pos (by omega)]
      · rw [va_up_ne _ _ w]
        by_cases w2 : j < zt z i
        · rw [if_pos w2, if_pos (by omega), gv (3, 4 * i + j) (vK_line hi.1 hi.2 w2 (by omega))]
        · rw [if_neg w2, if_neg (by omega)]]
  rw [ku_ne _ _ q1]
  by_cases q3 : k = (3, 4 * i + zt z i)
  · subst q3
    rw [ku_eq]
    show _ = Sum.inr (1, cN ρ' _ _ (4 * i + zt z i))
    have e4 : (4 * i + zt z i) / 4 = i := by omega
    have e5 : (4 * i + zt z i) % 4 = zt z i := by omega
    simp only [cN, lnz_9, lnz_10, r 11 (by decide), r 12 (by decide), r 13 (by decide), r 14 (by decide), r 15 (by decide), r 16 (by decide), f0.1, f0.2.1, f0.2.2.1, f0.2.2.2.1, f0.2.2.2.2.1, f0.2.2.2.2.2.1, e4, e5, gv (1, i) (vK_a hi.1 hi.2), pk_us]
    rw [← (hz.2.2.2.1 i (by omega)).1]
  rw [ku_ne _ _ q3]
  have hk' : k ∈ ks := by
    simp only [List.mem_append, List.mem_singleton] at hk
    rcases hk with w | w
    · exact w
    · exact absurd w q3
  rw [cz_rho J a1 hk', cz_x2 q3]
  have hv := (hV k).mp hk'
  obtain ⟨p, m⟩ := k
  match p, m, hv with
  | 0, 0, _ =>
    show Sum.inr (3, cS ρ' z x) = Sum.inr (3, cS ρ' _ x)
    simp only [cS, r 3 (by decide), r 18 (by decide), r 27 (by decide), r 29 (by decide), r 28 (by decide), r 1 (by decide)]
  | 0, 1, _ =>
    show Sum.inl (γ 0, 16, _) = Sum.inl (γ 0, 16, _)
    rw [show gA ρ' (lnz z i g n) = gA ρ' z by funext i; simp only [gA, zA, r 3 (by decide)]]
  | 0, 2, _ =>
    show Sum.inl (γ 2, 120, _) = Sum.inl (γ 2, 120, _)
    rw [show gU ρ' (lnz z i g n) = gU ρ' z by funext i; simp only [gU, zU, r 18 (by decide)]]
  | 0, m + 3, _ =>
    show Sum.inl (γ 1, 64, _) = Sum.inl (γ 1, 64, _)
    rw [show gD ρ' (lnz z i g n) = gD ρ' z by funext i; simp only [gD, zD, r 29 (by decide), r 30 (by decide)]]
  | 1, m, _ =>
    have w : m ≠ i := fun w => q0 (by rw [w])
    show Sum.inr (0, cA ρ' z m) = Sum.inr (0, cA ρ' _ m)
    simp only [cA, lnz_6n w, r 4 (by decide), r 5 (by decide), r 7 (by decide), r 8 (by decide)]
  | 2, m, _ =>
    have w : m ≠ i := fun w => q1 (by rw [w])
    show Sum.inl (γ 1, 4, _) = Sum.inl (γ 1, 4, _)
    rw [show gL ρ' (lnz z i g n) m = gL ρ' z m by funext q; simp only [gL, zt, lnz_6n w]]
  | 3, m, _ =>
    have w : m ≠ 4 * i + zt z i := fun w => q3 (by rw [w])
    show Sum.inr (1, cN ρ' z x m) = Sum.inr (1, cN ρ' _ x m)
    simp only [cN, lnz_n (g := g) (n := n) (show 9 = 9 ∨ 9 = 10 by decide) w, lnz_n (g := g) (n := n) (show 10 = 9 ∨ 10 = 10 by decide) w, r 11 (by decide), r 12 (by decide), r 13 (by decide), r 14 (by decide), r 15 (by decide), r 16 (by decide)]
  | 4, m, _ =>
    show Sum.inr (2, cU ρ' z x m) = Sum.inr (2, cU ρ' _ x m)
    simp only [cU, zl, r 19 (by decide), r 21 (by decide), r 22 (by decide), r 23 (by decide), r 24 (by decide), r 25 (by decide), r 26 (by decide)]
  | m + 5, _, hv => exact False.elim hv
end LNZ
theorem al_e {z : zT} {i : Nat} (hz : zI z) (hi : i ≤ 16) (h : (decide (z 5 i ≤ z 6 i) || decide (4 ≤ z 6 i)) = true) : z 6 i = z 5 i := by
  obtain ⟨e1, e2, e3, e4, e5⟩ := hz.2.2.2.1 i hi
  have q := al_t hz hi h
  rw [e1, e3] at q ⊢
  have : ¬ zt z i < ix (z 5 i) := fun w => q (nI_lt w (by omega))
  rw [show zt z i = ix (z 5 i) by omega]
theorem al_ne {z : zT} {i : Nat} (h : (decide (z 5 i ≤ z 6 i) || decide (4 ≤ z 6 i)) = false) : ¬ z 6 i = z 5 i := fun q => by
  have := al_f h
  rw [q] at this
  exact Int32.lt_irrefl this
theorem al_lt {z : zT} {i : Nat} (hz : zI z) (hi : i ≤ 16) (h : (decide (z 5 i ≤ z 6 i) || decide (4 ≤ z 6 i)) = false) : zt z i < ix (z 5 i) ∧ zt z i < 4 := by
  obtain ⟨e1, e2, e3, e4, e5⟩ := hz.2.2.2.1 i hi
  have q := al_f h
  rw [e1, e3] at q
  have := (nI_ltI (by omega) (by omega)).mp q
  exact ⟨this, by omega⟩
theorem ite_2 {α : Type} {p q : Prop} [Decidable p] [Decidable q] {x y : α} (h : q) : (if p then x else if q then x else y) = x := by
  rw [if_pos h]
  split <;> rfl
abbrev rm_A_addLine : Room := { frames := 2, cells := 1, slots := 11, locals := 36 }
set_option maxRecDepth 100000 in
set_option maxHeartbeats 4000000 in
theorem c_A_addLine {l0 : Launch} {D : va_G} {γ : Nat → ClassId} (hl0 : l0.stackTraces = false) {LP : List Nat} {ks : List kT} {ρ : kT → Nat} {z : zT} {x : xT} {f0 : Nat → va_E} (J : cI LP ks ρ z x) (i : Nat) (g n : Int32) (hi : 1 ≤ i ∧ i ≤ zA z) (h4 : zt z i < 4) (h5 : zt z i < ix (z 5 i)) (h0 : z 0 0 = 0) : pv_M l0 D (tys_ γ) y_A_addLine (Cond.code y_A_addLine b_A_addLine 4 (Option.some FieldType.int)) rm_A_addLine [.ref (ρ (1, i)), .int g, .int n] LP (cF γ ks ρ z x f0) (cPost γ LP ks ρ f0 (some (.int (z 6 i))) (lnz z i g n)) (fun _ => False) := by
  refine pv_mk hl0 (by decide) (Nat.le_of_ble_eq_true rfl) (fun κ C R0 hN _ => ?_)
  obtain ⟨H, hV, hz, hJ⟩ := id J
  have M0 : ((0, 0) : kT) ∈ ks := (hV _).mpr (Nat.zero_le _)
  have M1 : ((0, 1) : kT) ∈ ks := (hV _).mpr (by decide : 1 ≤ 3)
  have M2 : ((0, 2) : kT) ∈ ks := (hV _).mpr (by decide : 2 ≤ 3)
  have M3 : ((0, 3) : kT) ∈ ks := (hV _).mpr (by decide : 3 ≤ 3)
  show pv_V D κ 0 0 LP (cF γ ks ρ z x f0) 0 [(0, .ref (ρ (1, i))), (1, .int g), (2, .int n)] []
  have MA : ((1, i) : kT) ∈ ks := (hV _).mpr hi
  have ML : ((2, i) : kT) ∈ ks := (hV _).mpr hi
  have hz3 := hz.1.2
  have hz4 := hz.2.2.2.1 i (by omega)
  refine pv_aload_n C d_A_addLine_0 rfl 0 rfl ?_
  refine pv_get (v := .int (z 6 i)) (ci := 0) C hin_A rfl (H.1 _ MA) ((kf_at H MA).trans rfl) 4 (by decide) fl_A_33 rfl rfl d_A_addLine_1 ?_
  refine pv_istore_n (lv' := [(3, .int (z 6 i)), (0, .ref (ρ (1, i))), (1, .int g), (2, .int n)]) C d_A_addLine_4 rfl (by decide) rfl ?_
  refine pv_iload_n C d_A_addLine_5 rfl 0 rfl ?_
  refine pv_if_lt (tgt := 45) C d_A_addLine_6 (by decide) (fun h1 => ?_) (fun h1 => ?_)
  · exact absurd h1 (by rw [hz4.1]; exact nI_pos (by omega))
  · refine pv_iload_n C d_A_addLine_9 rfl 0 rfl ?_
    refine pv_aload_n C d_A_addLine_10 rfl 1 rfl ?_
    refine pv_get (v := .ref (ρ (2, i))) (ci := 0) C hin_A rfl (H.1 _ MA) ((kf_at H MA).trans rfl) 3 (by decide) fl_A_23 rfl rfl d_A_addLine_11 ?_
    refine pv_alen C 1 rfl (H.1 _ ML) ((kf_at H ML).trans rfl) (v := 4) rfl d_A_addLine_14 ?_
    refine pv_icmp_ge (tgt := 45) C d_A_addLine_15 (by decide) (fun h2 => ?_) (fun h2 => ?_)
    · exact absurd h2 (by rw [hz4.1]; exact fun q => absurd ((nI_leI (a := 4) (by decide) (by omega)).mp q) (by omega))
    · refine pv_aload_n C d_A_addLine_18 rfl 1 rfl ?_
      refine pv_get (v := .ref (ρ (2, i))) (ci := 0) C hin_A rfl (H.1 _ MA) ((kf_at H MA).trans rfl) 3 (by decide) fl_A_23 rfl rfl d_A_addLine_19 ?_
      refine pv_iload_n C d_A_addLine_22 rfl 0 rfl ?_
      refine pv_new (ci := 1) (fs := n0N) C hin_N tyN tyN_ok rfl kl_A_21 is_N in_N (by decide) (by decide) (by decide) d_A_addLine_23 (fun q0 hq0 => ?_)
      refine pv_dup C d_A_addLine_26 rfl ?_
      refine pv_aload_n C d_A_addLine_27 rfl 1 rfl ?_
      refine pv_iload_n C d_A_addLine_28 rfl 0 rfl ?_
      refine pv_iload_n C d_A_addLine_29 rfl 2 rfl ?_
      refine pv_iload_n C d_A_addLine_30 rfl 3 rfl ?_
      refine pv_callI (X := fun _ => False) (ret := none) (n := 4) (As := [.ref (ρ (1, i)), .int (z 6 i), .int g, .int n]) (rest := [.ref q0, .int (z 6 i), .ref (ρ (2, i))]) C (c_N_init hl0 (List.mem_append_right _ (List.mem_singleton.mpr rfl)) (va_up_self _ _ _) (ρ (1, i)) (z 6 i) g n) cd_N_init ml_A_36 in_N im_N_init rfl (by decide +kernel) (by decide) rfl (Nat.le_of_ble_eq_true rfl) rfl d_A_addLine_31 (by decide) hN R0 (fun _ h => h.elim) (fun v9 LP9 f9 h9 => ?_)
      obtain ⟨rfl, w9, w8⟩ := h9
      subst w9
      subst w8
      have k1 : ((3, 4 * i + zt z i) : kT) ∉ ks := fun w => ln_new h4 ((hV _).mp w)
      obtain ⟨ρ', a1, a2, H', a4⟩ := kf_new1 (c := cz γ ρ z x) (f0 := f0) H (.inr (1, n0N)) (.inr (1, [.ref (ρ (1, i)), .int (z 6 i), .int g, .int n, .int 0, .int 0, .int 0, .int 0, .int 0, .int 0, .int 0])) k1 hq0
      have m0 : ∀ k ∈ ks, k ∈ (ks ++ [(3, 4 * i + zt z i)]) := fun k w => List.mem_append_left _ w
      have m1 : ((3, 4 * i + zt z i) : kT) ∈ (ks ++ [(3, 4 * i + zt z i)]) := List.mem_append_right _ (List.mem_singleton.mpr rfl)
      refine pv_stf (f2 := kf (ks ++ [(3, 4 * i + zt z i)]) ρ' (ku (cz γ ρ z x) (3, 4 * i + zt z i) (.inr (1, [.ref (ρ (1, i)), .int (z 6 i), .int g, .int n, .int 0, .int 0, .int 0, .int 0, .int 0, .int 0, .int 0]))) f0) (st2 := [.ref (ρ' (3, 4 * i + zt z i)), .int (z 6 i), .ref (ρ' (2, i))]) (c2 := 1) (s2 := 11) a4 (by rw [a1 _ ML, a2]; rfl) rfl rfl ?_
      refine pv_lvs (lv2 := [(0, .ref (ρ' (1, i))), (3, .int (z 6 i))]) [1, 0] (by rw [a1 _ MA]; rfl) ?_
      refine pk_aast (r := (RN, TN, 11)) C H' 1 1 rfl (m0 _ ML) ((ku_ne _ _ (fun q => absurd (congrArg Prod.fst q) (show ¬ (2 : Nat) = 3 by decide))).trans rfl) m1 (ku_eq _ _ _) rfl (j := zt z i) hz4.1 (show zt z i < 4 from h4) (by decide) d_A_addLine_34 ?_
      refine pv_aload_n C d_A_addLine_35 rfl 0 rfl ?_
      refine pv_dup C d_A_addLine_36 rfl ?_
      refine pv_get (v := .int (z 6 i)) (ci := 0) C hin_A rfl (H'.1 _ (m0 _ MA)) ((kf_at H' (m0 _ MA)).trans ((ku_ne _ _ (fun q => absurd (congrArg Prod.fst q) (show ¬ (1 : Nat) = 2 by decide))).trans ((ku_ne _ _ (fun q => absurd (congrArg Prod.fst q) (show ¬ (1 : Nat) = 3 by decide))).trans rfl))) 4 (by decide) fl_A_33 rfl rfl d_A_addLine_37 ?_
      refine pv_iconst (v := 1) C d_A_addLine_40 (by decide) ?_
      refine pv_iadd C d_A_addLine_41 ?_
      refine pk_put (ci := 0) (fs := [.int (nI i), .int (z 4 i), .int (z 5 i), .ref (ρ (2, i)), .int (z 6 i), .int (z 7 i), .int (z 8 i)]) C H' hin_A tyA tyA_ok nmA rfl (m0 _ MA) ((ku_ne _ _ (fun q => absurd (congrArg Prod.fst q) (show ¬ (1 : Nat) = 2 by decide))).trans ((ku_ne _ _ (fun q => absurd (congrArg Prod.fst q) (show ¬ (1 : Nat) = 3 by decide))).trans rfl)) 4 (by decide) fl_A_33 rfl rfl rfl rfl (Nat.le_of_ble_eq_true rfl) d_A_addLine_42 ?_
      refine pk_fz (f2 := cF γ (ks ++ [(3, 4 * i + zt z i)]) ρ' (lnz z i g n) (x.1, upd x.2.1 (4 * i + zt z i) 0, x.2.2) f0) (kf_eq (fun k hk => ln_cz J hi h4 a1 hk)) ?_
      have J1 := ln_cI (g := g) (n := n) J hi h4 h5 H'
      refine pv_iload_n C d_A_addLine_45 rfl 1 rfl ?_
      refine pv_iret C R0 d_A_addLine_46 (by decide) (by decide) (cP_re (q := (z 6 i, lnz z i g n)) J1 ?_ (a1 _ M0) (fun _ q => List.mem_append_left _ q) (fr_new (fun _ q => q) (fun k hk => Or.inl ⟨k, hk, rfl⟩) a1 ?_) rfl)
      · rw [lnz_row (by decide)]; exact h0
      · intro k hk
        rcases List.mem_append.mp hk with w | w
        · exact Or.inl w
        · refine Or.inr ?_
          rw [List.mem_singleton.mp w, a2]
          exact hq0
abbrev rm_S_line : Room := { frames := 7, cells := 5, slots := 35, locals := 112 }
set_option maxRecDepth 100000 in
set_option maxHeartbeats 4000000 in
theorem c_S_line {l0 : Launch} {D : va_G} {γ : Nat → ClassId} (hl0 : l0.stackTraces = false) {LP : List Nat} {ks : List kT} {ρ : kT → Nat} {z : zT} {x : xT} {f0 : Nat → va_E} (J : cI LP ks ρ z x) (a : Int32) (g : Int32) (n : Int32)  : pv_M l0 D (tys_ γ) y_S_line (Cond.code y_S_line b_S_line 5 (Option.some FieldType.int)) rm_S_line [.ref (ρ (0, 0)), .int a, .int g, .int n] LP (cF γ ks ρ z x f0) (cPost γ LP ks ρ f0 (some (.int (m_line z a g n).1)) (m_line z a g n).2) (cThr [eNS, eIA, eIS] z ((m_line z a g n).2)) := by
  refine pv_mk hl0 (by decide) (Nat.le_of_ble_eq_true rfl) (fun κ C R0 hN _ => ?_)
  obtain ⟨H, hV, hz, hJ⟩ := id J
  have M0 : ((0, 0) : kT) ∈ ks := (hV _).mpr (Nat.zero_le _)
  have M1 : ((0, 1) : kT) ∈ ks := (hV _).mpr (by decide : 1 ≤ 3)
  have M2 : ((0, 2) : kT) ∈ ks := (hV _).mpr (by decide : 2 ≤ 3)
  have M3 : ((0, 3) : kT) ∈ ks := (hV _).mpr (by decide : 3 ≤ 3)
  show pv_V D κ 0 0 LP (cF γ ks ρ z x f0) 0 [(0, .ref (ρ (0, 0))), (1, .int a), (2, .int g), (3, .int n)] []
  refine pv_aload_n C d_S_line_0 rfl 0 rfl ?_
  refine pv_iload_n C d_S_line_1 rfl 1 rfl ?_
  refine pv_callV (n := 1) (As := [.int a]) (rest := []) C (c_S_announcementOf hl0 J a) cd_S_announcementOf ml_S_44 in_S im_S_announcementOf se_S_announcementOf (H.1 _ M0) ((kf_at H M0).trans rfl) rfl rfl (by decide +kernel) (by decide) rfl (Nat.le_of_ble_eq_true rfl) rfl d_S_line_2 (by decide) hN R0 (fun E h => ⟨by rw [h.1]; exact cT_any 0 1 rfl rfl (by unfold m_line; rw [if_neg (nT h.2)]; first | exact Or.inl rfl | exact Or.inr rfl), rfl, rfl⟩) (fun v9 LP9 f9 h9 => ?_)
  obtain ⟨⟨rfl, w9, w8⟩, h1⟩ := h9
  have w9 := w9.symm
  have w8 := w8.symm
  subst w9
  subst w8
  have hA := isA_ix hz h1
  have MA : ((1, ix a) : kT) ∈ ks := (hV _).mpr ⟨hA.2.1, hA.2.2.1⟩
  have ML : ((2, ix a) : kT) ∈ ks := (hV _).mpr ⟨hA.2.1, hA.2.2.1⟩
  refine pv_stf (f2 := (kf ks ρ (cz γ ρ z x) f0)) (st2 := [.ref (ρ (1, ix a))]) (c2 := 1) (s2 := 6) rfl rfl rfl rfl ?_
  refine pv_astore (lv' := [(4, .ref (ρ (1, ix a))), (0, .ref (ρ (0, 0))), (1, .int a), (2, .int g), (3, .int n)]) C d_S_line_5 (by decide) rfl ?_
  refine pv_iload_n C d_S_line_7 rfl 3 rfl ?_
  refine pv_iconst (v := 0) C d_S_line_8 (by decide) ?_
  refine pv_bipush (v := 9) C d_S_line_9 (by decide) ?_
  refine pv_callS (n := 3) (As := [.int g, .int 0, .int 9]) (rest := []) C (c_S_mustBeWithin hl0 g 0 9) cd_S_mustBeWithin ml_S_27 in_S sm_S_mustBeWithin (by decide +kernel) (by decide) rfl (Nat.le_of_ble_eq_true rfl) rfl d_S_line_11 (by decide) hN R0 (fun E h => ⟨by rw [h.1]; exact cT_any 1 2 rfl rfl (by unfold m_line; rw [if_pos h1, if_neg (nT h.2)]; first | exact Or.inl rfl | exact Or.inr rfl), rfl, rfl⟩) (fun v9 LP9 f9 h9 => ?_)
  obtain ⟨⟨rfl, w9, w8⟩, h2⟩ := h9
  have w9 := w9.symm
  have w8 := w8.symm
  subst w9
  subst w8
  refine pv_stf (f2 := (kf ks ρ (cz γ ρ z x) f0)) (st2 := []) (c2 := 2) (s2 := 12) rfl rfl rfl rfl ?_
  refine pv_iload_n C d_S_line_14 rfl 4 rfl ?_
  refine pv_iconst (v := 0) C d_S_line_15 (by decide) ?_
  refine pv_sipush (v := 400) C d_S_line_16 (by decide) ?_
  refine pv_callS (n := 3) (As := [.int n, .int 0, .int 400]) (rest := []) C (c_S_mustBeWithin hl0 n 0 400) cd_S_mustBeWithin ml_S_27 in_S sm_S_mustBeWithin (by decide +kernel) (by decide) rfl (Nat.le_of_ble_eq_true rfl) rfl d_S_line_19 (by decide) hN R0 (fun E h => ⟨by rw [h.1]; exact cT_any 1 2 rfl rfl (by unfold m_line; rw [if_pos h1, if_pos h2, if_neg (nT h.2)]; first | exact Or.inl rfl | exact Or.inr rfl), rfl, rfl⟩) (fun v9 LP9 f9 h9 => ?_)
  obtain ⟨⟨rfl, w9, w8⟩, h3⟩ := h9
  have w9 := w9.symm
  have w8 := w8.symm
  subst w9
  subst w8
  refine pv_stf (f2 := (kf ks ρ (cz γ ρ z x) f0)) (st2 := []) (c2 := 3) (s2 := 18) rfl rfl rfl rfl ?_
  refine pv_aload C d_S_line_22 0 rfl ?_
  refine pv_get (v := .int (z 7 (ix a))) (ci := 0) C hin_A rfl (H.1 _ MA) ((kf_at H MA).trans rfl) 5 (by decide) fl_S_48 rfl rfl d_S_line_24 ?_
  refine pv_iconst (v := 3) C d_S_line_27 (by decide) ?_
  refine pv_icmp_eq (tgt := 43) C d_S_line_28 (by decide) (fun h4 => ?_) (fun h4 => ?_)
  · refine pv_iconst (v := 0) C d_S_line_43 (by decide) ?_
    refine pv_callS (n := 1) (As := [.int 0]) (rest := []) C (c_S_mustHold hl0 false) cd_S_mustHold ml_S_55 in_S sm_S_mustHold (by decide +kernel) (by decide) rfl (Nat.le_of_ble_eq_true rfl) rfl d_S_line_44 (by decide) hN R0 (fun E h => ⟨by rw [h.1]; exact cT_any 2 3 rfl rfl (by unfold m_line; rw [if_pos h1, if_pos h2, if_pos h3, ite_2 h4]; first | exact Or.inl rfl | exact Or.inr rfl), rfl, rfl⟩) (fun v9 LP9 f9 h9 => ?_)
    obtain ⟨⟨rfl, w9, w8⟩, h5⟩ := h9
    have w9 := w9.symm
    have w8 := w8.symm
    subst w9
    subst w8
    exact absurd h5 (by decide)
  · refine pv_aload C d_S_line_31 0 rfl ?_
    refine pv_callV (n := 0) (As := []) (rest := []) C (c_A_hasAllLines hl0 J (ix a) ⟨hA.2.1, hA.2.2.1⟩) cd_A_hasAllLines ml_S_51 in_A im_A_hasAllLines se_A_hasAllLines (H.1 _ MA) ((kf_at H MA).trans rfl) rfl rfl (by decide +kernel) (by decide) rfl (Nat.le_of_ble_eq_true rfl) rfl d_S_line_33 (by decide) hN R0 (fun _ h => h.elim) (fun v9 LP9 f9 h9 => ?_)
    obtain ⟨rfl, w9, w8⟩ := h9
    have w9 := w9.symm
    have w8 := w8.symm
    subst w9
    subst w8
    refine pv_stf (f2 := (kf ks ρ (cz γ ρ z x) f0)) (st2 := [.int (bN (decide (z 5 (ix a) ≤ z 6 (ix a)) || decide (4 ≤ z 6 (ix a))))]) (c2 := 3) (s2 := 18) rfl rfl rfl rfl ?_
    refine pv_ifb_ne (tgt := 43) C d_S_line_36 (by decide) (fun h6 => ?_) (fun h6 => ?_)
    · refine pv_iconst (v := 0) C d_S_line_43 (by decide) ?_
      refine pv_callS (n := 1) (As := [.int 0]) (rest := []) C (c_S_mustHold hl0 false) cd_S_mustHold ml_S_55 in_S sm_S_mustHold (by decide +kernel) (by decide) rfl (Nat.le_of_ble_eq_true rfl) rfl d_S_line_44 (by decide) hN R0 (fun E h => ⟨by rw [h.1]; exact cT_any 2 3 rfl rfl (by unfold m_line; rw [if_pos h1, if_pos h2, if_pos h3, if_pos (al_e hz hA.2.2.2 h6)]; first | exact Or.inl rfl | exact Or.inr rfl), rfl, rfl⟩) (fun v9 LP9 f9 h9 => ?_)
      obtain ⟨⟨rfl, w9, w8⟩, h7⟩ := h9
      have w9 := w9.symm
      have w8 := w8.symm
      subst w9
      subst w8
      exact absurd h7 (by decide)
    · refine pv_iconst (v := 1) C d_S_line_39 (by decide) ?_
      refine pv_goto (tgt := 44) C d_S_line_40 (by decide) ?_
      refine pv_callS (n := 1) (As := [.int 1]) (rest := []) C (c_S_mustHold hl0 true) cd_S_mustHold ml_S_55 in_S sm_S_mustHold (by decide +kernel) (by decide) rfl (Nat.le_of_ble_eq_true rfl) rfl d_S_line_44 (by decide) hN R0 (fun E h => absurd h.2 (by decide)) (fun v9 LP9 f9 h9 => ?_)
      obtain ⟨⟨rfl, w9, w8⟩, h8⟩ := h9
      have w9 := w9.symm
      have w8 := w8.symm
      subst w9
      subst w8
      refine pv_stf (f2 := (kf ks ρ (cz γ ρ z x) f0)) (st2 := []) (c2 := 4) (s2 := 24) rfl rfl rfl rfl ?_
      refine pv_aload C d_S_line_47 0 rfl ?_
      refine pv_iload_n C d_S_line_49 rfl 3 rfl ?_
      refine pv_iload_n C d_S_line_50 rfl 4 rfl ?_
      have hlt := al_lt hz hA.2.2.2 h6
      obtain ⟨z1, e1⟩ : ∃ q : zT, q = zs (zs z 0 0 0) 0 0 0 := ⟨_, rfl⟩
      have J1 : cI LP ks ρ z1 x := by rw [e1]; exact zc_cI (zc_2 z 0 0) J
      refine pk_fz (f2 := cF γ ks ρ z1 x f0) (by rw [e1, cF, zc_cz (zc_2 z 0 0)]) ?_
      have b1 : 1 ≤ ix a ∧ ix a ≤ zA z1 := by rw [e1]; exact ⟨hA.2.1, hA.2.2.1⟩
      have b2 : zt z1 (ix a) < 4 := by rw [e1]; exact hlt.2
      have b3 : zt z1 (ix a) < ix (z1 5 (ix a)) := by rw [e1]; exact hlt.1
      have b4 : z1 0 0 = 0 := by rw [e1]; rfl
      refine pv_callV (n := 2) (As := [.int g, .int n]) (rest := []) C (c_A_addLine hl0 J1 (ix a) g n b1 b2 b3 b4) cd_A_addLine ml_S_59 in_A im_A_addLine se_A_addLine (H.1 _ MA) ((kf_at H MA).trans rfl) rfl rfl (by decide +kernel) (by decide) rfl (Nat.le_of_ble_eq_true rfl) rfl d_S_line_51 (by decide) hN R0 (fun _ h => h.elim) (fun v9 LP9 f9 h9 => ?_)
      have em : m_line z a g n = (z1 6 (ix a), lnz z1 (ix a) g n) := by
        rw [e1]
        unfold m_line
        rw [if_pos h1, if_pos h2, if_pos h3, if_neg (al_ne h6), if_neg h4, Int32.add_sub_cancel]
        rfl
      have e9 := h9.1
      subst e9
      refine pv_stf (f2 := f9) (st2 := [.int (z1 6 (ix a))]) (c2 := 5) (s2 := 35) rfl rfl rfl rfl ?_
      exact pv_iret C R0 d_S_line_54 (by decide) (by decide) (by rw [em]; exact h9)
