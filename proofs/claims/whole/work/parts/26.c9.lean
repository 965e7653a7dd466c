/-! contracts of the component: announce (by wip/whole/gen/c10.py) -/
def anz (z : zT) (o n : Int32) : zT := zs (zs (zs (zs (zs z 0 0 0) 3 0 ((z 3 0) + 1)) 4 (zA z + 1) o) 5 (zA z + 1) n) 8 (zA z + 1) (-1)
section AN
variable {z : zT} {o n : Int32}
theorem anz_row {a : Nat} (h : a ≠ 0 ∧ a ≠ 3 ∧ a ≠ 4 ∧ a ≠ 5 ∧ a ≠ 8) : anz z o n a = z a := by
  unfold anz
  rw [zs_row _ _ h.2.2.2.2, zs_row _ _ h.2.2.2.1, zs_row _ _ h.2.2.1, zs_row _ _ h.2.1, zs_row _ _ h.1]
theorem anz_A (hz : zI z) (h : zA z < 16) : anz z o n 3 0 = nI (zA z + 1) ∧ zA (anz z o n) = zA z + 1 := by
  have e : anz z o n 3 0 = nI (zA z + 1) := by
    show z 3 0 + 1 = _
    rw [hz.1.1, nI_next]
  exact ⟨e, by rw [zA, e, ix_nI (by omega)]⟩
theorem anz_n {a j : Nat} (ha : a = 4 ∨ a = 5 ∨ a = 8) (h : j ≠ zA z + 1) : anz z o n a j = z a j := by
  unfold anz
  rcases ha with w | w | w <;> subst w
  · rw [zs_k _ _ (by decide), zs_k _ _ (by decide), zs_j _ _ h, zs_k _ _ (by decide), zs_k _ _ (by decide)]
  · rw [zs_k _ _ (by decide), zs_j _ _ h, zs_k _ _ (by decide), zs_k _ _ (by decide), zs_k _ _ (by decide)]
  · rw [zs_j _ _ h, zs_k _ _ (by decide), zs_k _ _ (by decide), zs_k _ _ (by decide), zs_k _ _ (by decide)]
theorem anz_4 : anz z o n 4 (zA z + 1) = o := by
  unfold anz
  rw [zs_k _ _ (by decide), zs_k _ _ (by decide), zs_eq]
theorem anz_5 : anz z o n 5 (zA z + 1) = n := by
  unfold anz
  rw [zs_k _ _ (by decide), zs_eq]
theorem anz_8 : anz z o n 8 (zA z + 1) = -1 := by
  unfold anz
  rw [zs_eq]
theorem an_vK (hz : zI z) (hF : zF z) (h : zA z < 16) (k : kT) : vK (anz z o n) k ↔ vK z k ∨ k = (2, zA z + 1) ∨ k = (1, zA z + 1) := by
  have e := (anz_A (o := o) (n := n) hz h).2
  obtain ⟨p, i⟩ := k
  have r6 : ∀ j, zt (anz z o n) j = zt z j := fun j => by rw [zt, anz_row (by decide)]
  have r18 : zU (anz z o n) = zU z := by rw [zU, anz_row (by decide)]
  match p with
  | 0 =>
    show i ≤ 3 ↔ i ≤ 3 ∨ _
    constructor
    · exact Or.inl
    · rintro (w | w | w)
      · exact w
      · exact absurd (congrArg Prod.fst w) (show ¬ (0 : Nat) = 2 by decide)
      · exact absurd (congrArg Prod.fst w) (show ¬ (0 : Nat) = 1 by decide)
  | 1 =>
    show 1 ≤ i ∧ i ≤ zA (anz z o n) ↔ (1 ≤ i ∧ i ≤ zA z) ∨ _
    rw [e]
    constructor
    · intro w
      by_cases q : i = zA z + 1
      · exact Or.inr (Or.inr (by rw [q]))
      · exact Or.inl ⟨w.1, by omega⟩
    · rintro (w | w | w)
      · exact ⟨w.1, by omega⟩
      · exact absurd (congrArg Prod.fst w) (show ¬ (1 : Nat) = 2 by decide)
      · have := congrArg Prod.snd w
        have : i = zA z + 1 := this
        omega
  | 2 =>
    show 1 ≤ i ∧ i ≤ zA (anz z o n) ↔ (1 ≤ i ∧ i ≤ zA z) ∨ _
    rw [e]
    constructor
    · intro w
      by_cases q : i = zA z + 1
      · exact Or.inr (Or.inl (by rw [q]))
      · exact Or.inl ⟨w.1, by omega⟩
    · rintro (w | w | w)
      · exact ⟨w.1, by omega⟩
      · have := congrArg Prod.snd w
        have : i = zA z + 1 := this
        omega
      · exact absurd (congrArg Prod.fst w) (show ¬ (2 : Nat) = 1 by decide)
  | 3 =>
    show (1 ≤ i / 4 ∧ i / 4 ≤ zA (anz z o n) ∧ i % 4 < zt (anz z o n) (i / 4)) ↔ (1 ≤ i / 4 ∧ i / 4 ≤ zA z ∧ i % 4 < zt z (i / 4)) ∨ _
    rw [e, r6]
    constructor
    · intro w
      by_cases q : i / 4 = zA z + 1
      · have h6 := (hF.2.1 (i / 4) (by omega) (by omega)).1
        have h7 : zt z (i / 4) = 0 := by rw [zt, h6]; rfl
        omega
      · exact Or.inl ⟨w.1, by omega, w.2.2⟩
    · rintro (w | w | w)
      · exact ⟨w.1, by omega, w.2.2⟩
      · exact absurd (congrArg Prod.fst w) (show ¬ (3 : Nat) = 2 by decide)
      · exact absurd (congrArg Prod.fst w) (show ¬ (3 : Nat) = 1 by decide)
  | 4 =>
    show (1 ≤ i ∧ i ≤ zU (anz z o n)) ↔ (1 ≤ i ∧ i ≤ zU z) ∨ _
    rw [r18]
    constructor
    · exact Or.inl
    · rintro (w | w | w)
      · exact w
      · exact absurd (congrArg Prod.fst w) (show ¬ (4 : Nat) = 2 by decide)
      · exact absurd (congrArg Prod.fst w) (show ¬ (4 : Nat) = 1 by decide)
  | m + 5 =>
    constructor
    · intro w; exact False.elim w
    · rintro (w | w | w)
      · exact False.elim w
      · exact absurd (congrArg Prod.fst w) (show ¬ m + 5 = 2 by omega)
      · exact absurd (congrArg Prod.fst w) (show ¬ m + 5 = 1 by omega)
theorem an_zI (hz : zI z) (hF : zF z) (h : zA z < 16) (hn : inB n 1 4 = true) : zI (anz z o n) := by
  obtain ⟨e0, e⟩ := anz_A (o := o) (n := n) hz h
  have r : ∀ a, (a ≠ 0 ∧ a ≠ 3 ∧ a ≠ 4 ∧ a ≠ 5 ∧ a ≠ 8) → anz z o n a = z a := fun a q => anz_row q
  obtain ⟨n1, n2, n3⟩ := inB_ix (a := 1) (b := 4) hn rfl rfl (by decide) (by decide)
  refine ⟨⟨by rw [e]; exact e0, by omega⟩, ?_, ?_, ?_, ?_, ?_⟩
  · simp only [zU, r 18 (by decide)]; exact hz.2.1
  · simp only [zD, r 29 (by decide)]; exact hz.2.2.1
  · intro i hi
    simp only [zt, r 6 (by decide)]
    by_cases q : i = zA z + 1
    · have h6 := (hF.2.1 i (by omega) hi).1
      rw [q, anz_5, ← q, h6]
      exact ⟨rfl, by decide, n1, by show (0 : Nat) ≤ _; omega, n3⟩
    · rw [anz_n (by decide) q]
      exact hz.2.2.2.1 i hi
  · simp only [zU, zl, r 18 (by decide), r 19 (by decide)]; exact hz.2.2.2.2.1
  · simp only [zD, r 29 (by decide), r 30 (by decide)]; exact hz.2.2.2.2.2
theorem an_cI {LP LP' : List Nat} {ks : List kT} {ρ ρ' : kT → Nat} {x : xT} (J : cI LP ks ρ z x) (h : zA z < 16) (hn : inB n 1 4 = true) (H' : kH (ks ++ [(2, zA z + 1)] ++ [(1, zA z + 1)]) ρ' LP') : cI LP' (ks ++ [(2, zA z + 1)] ++ [(1, zA z + 1)]) ρ' (anz z o n) x := by
  obtain ⟨H, hV, hz, hJ⟩ := J
  have hF := hJ.2.2.2.2.2.2
  have r : ∀ a, (a ≠ 0 ∧ a ≠ 3 ∧ a ≠ 4 ∧ a ≠ 5 ∧ a ≠ 8) → anz z o n a = z a := fun a q => anz_row q
  have ev := an_vK (o := o) (n := n) hz hF h
  have e := (anz_A (o := o) (n := n) hz h).2
  refine ⟨H', fun k => ?_, an_zI hz hF h hn, ?_⟩
  · rw [ev, List.mem_append, List.mem_append, List.mem_singleton, List.mem_singleton, hV, or_assoc]
  · refine ⟨fun u h1 h2 => (ev _).mpr (Or.inl ?_), fun i h1 => (ev _).mpr (Or.inl ?_), ?_, ?_, ?_, ?_, ?_, ?_, ?_, ?_⟩
    · simp only [zU, zl, r 18 (by decide), r 19 (by decide)] at h2 ⊢
      exact hJ.1 u h1 h2
    · simp only [zD, r 29 (by decide), r 30 (by decide)] at h1 ⊢
      exact hJ.2.1 i h1
    · rw [r 2 (by decide)]; exact hJ.2.2.1
    · rw [r 17 (by decide)]; exact hJ.2.2.2.1
    · simp only [zU, zl, r 18 (by decide), r 19 (by decide), r 20 (by decide), r 24 (by decide), r 15 (by decide)]
      exact hJ.2.2.2.2.1
    · simp only [r 13 (by decide), r 14 (by decide)]
      exact hJ.2.2.2.2.2.1
    · rw [r 7 (by decide)]; exact hF.1
    · intro i h1 h2
      rw [e] at h1
      rw [r 6 (by decide), r 7 (by decide)]
      exact hF.2.1 i (by omega) h2
    · intro i hi q
      simp only [r 11 (by decide), r 12 (by decide), r 13 (by decide), r 14 (by decide), r 15 (by decide), r 16 (by decide), r 17 (by decide)]
      exact hF.2.2.1 i hi (fun w => q ((ev _).mpr (Or.inl w)))
    · simp only [zU, r 18 (by decide), r 24 (by decide), r 25 (by decide), r 26 (by decide)]
      exact hF.2.2.2
theorem an_cz {γ : Nat → ClassId} {LP : List Nat} {ks : List kT} {ρ ρ' : kT → Nat} {x : xT} (J : cI LP ks ρ z x) (h : zA z < 16) (a1 : ∀ i ∈ ks, ρ' i = ρ i) {q2 : Nat} (a3 : ρ' (2, zA z + 1) = q2) {k : kT} (hk : k ∈ ks ++ [(2, zA z + 1)] ++ [(1, zA z + 1)]) : ku (ku (ku (ku (cz γ ρ z x) (2, zA z + 1) (.inl (γ 1, 4, .inr (.inr (.inr (.inr (fun _ => none))))))) (1, zA z + 1) (.inr (0, [.int (z 3 0 + 1), .int o, .int n, .ref q2, .int 0, .int 0, .int (-1)]))) (0, 1) (.inl (γ 0, 16, .inr (.inr (.inr (.inr (va_up (gA ρ z) (zA z) (some (ρ' (1, zA z + 1)))))))))) (0, 0) (.inr (3, [.ref (ρ (0, 1)), .ref (ρ (0, 2)), .ref (ρ (0, 3)), .int (z 3 0 + 1), .int (z 18 0), .int (z 27 0), .int (z 29 0), .int (z 28 0), .int (z 1 0), .int x.1])) k = cz γ ρ' (anz z o n) x k := by
  obtain ⟨H, hV, hz, hJ⟩ := id J
  have hF := hJ.2.2.2.2.2.2
  have r : ∀ a, (a ≠ 0 ∧ a ≠ 3 ∧ a ≠ 4 ∧ a ≠ 5 ∧ a ≠ 8) → anz z o n a = z a := fun a q => anz_row q
  obtain ⟨e0, e⟩ := anz_A (o := o) (n := n) hz h
  have g : ∀ i, vK z i → ρ i = ρ' i := fun i hi => (a1 i ((hV i).mpr hi)).symm
  have f6 := (hF.2.1 (zA z + 1) (by omega) (by omega))
  by_cases q0 : k = (0, 0)
  · subst q0
    rw [ku_eq]
    show _ = Sum.inr (3, cS ρ' _ x)
    have e3 : z 3 0 + 1 = anz z o n 3 0 := rfl
    simp only [cS, g (0, 1) (by decide : 1 ≤ 3), g (0, 2) (by decide : 2 ≤ 3), g (0, 3) (by decide : 3 ≤ 3), e3, r 18 (by decide), r 27 (by decide), r 29 (by decide), r 28 (by decide), r 1 (by decide)]
  rw [ku_ne _ _ q0]
  by_cases q1 : k = (0, 1)
  · subst q1
    rw [ku_eq]
    show _ = Sum.inl (γ 0, 16, _)
    rw [show va_up (gA ρ z) (zA z) (some (ρ' (1, zA z + 1))) = gA ρ' (anz z o n) by
      funext i
      unfold gA
      rw [e]
      by_cases w : i = zA z
      · rw [w, va_up_self, if_pos (by omega)]
      · rw [va_up_ne _ _ w]
        by_cases w2 : i < zA z
        · rw [if_pos w2, if_pos (by omega), g (1, i + 1) (vK_a (by omega) (by omega))]
        · rw [if_neg w2, if_neg (by omega)]]
  rw [ku_ne _ _ q1]
  by_cases q3 : k = (1, zA z + 1)
  · subst q3
    rw [ku_eq]
    show _ = Sum.inr (0, cA ρ' _ (zA z + 1))
    simp only [cA, anz_4, anz_5, anz_8, r 6 (by decide), r 7 (by decide), f6.1, f6.2, a3]
    rw [hz.1.1, nI_next]
  rw [ku_ne _ _ q3]
  by_cases q4 : k = (2, zA z + 1)
  · subst q4
    rw [ku_eq]
    show _ = Sum.inl (γ 1, 4, _)
    rw [show gL ρ' (anz z o n) (zA z + 1) = fun _ => none by
      funext i
      unfold gL
      rw [zt, r 6 (by decide), f6.1, if_neg (show ¬ i < ix 0 from Nat.not_lt_zero i)]]
  rw [ku_ne _ _ q4]
  have hk' : k ∈ ks := by
    simp only [List.mem_append, List.mem_singleton] at hk
    rcases hk with (w | w) | w
    · exact w
    · exact absurd w q4
    · exact absurd w q3
  rw [cz_rho J a1 hk']
  have hv := (hV k).mp hk'
  obtain ⟨p, i⟩ := k
  match p, i, hv with
  | 0, 0, _ => exact absurd rfl q0
  | 0, 1, _ => exact absurd rfl q1
  | 0, 2, _ =>
    show Sum.inl (γ 2, 120, _) = Sum.inl (γ 2, 120, _)
    rw [show gU ρ' (anz z o n) = gU ρ' z by funext i; simp only [gU, zU, r 18 (by decide)]]
  | 0, m + 3, _ =>
    show Sum.inl (γ 1, 64, _) = Sum.inl (γ 1, 64, _)
    rw [show gD ρ' (anz z o n) = gD ρ' z by funext i; simp only [gD, zD, r 29 (by decide), r 30 (by decide)]]
  | 1, i, hv =>
    have hv : 1 ≤ i ∧ i ≤ zA z := hv
    have w : i ≠ zA z + 1 := by omega
    show Sum.inr (0, cA ρ' z i) = Sum.inr (0, cA ρ' _ i)
    simp only [cA, anz_n (o := o) (n := n) (show 4 = 4 ∨ 4 = 5 ∨ 4 = 8 by decide) w, anz_n (o := o) (n := n) (show 5 = 4 ∨ 5 = 5 ∨ 5 = 8 by decide) w, anz_n (o := o) (n := n) (show 8 = 4 ∨ 8 = 5 ∨ 8 = 8 by decide) w, r 6 (by decide), r 7 (by decide)]
  | 2, i, _ =>
    show Sum.inl (γ 1, 4, _) = Sum.inl (γ 1, 4, _)
    rw [show gL ρ' (anz z o n) i = gL ρ' z i by funext q; simp only [gL, zt, r 6 (by decide)]]
  | 3, i, _ =>
    show Sum.inr (1, cN ρ' z x i) = Sum.inr (1, cN ρ' _ x i)
    simp only [cN, r 9 (by decide), r 10 (by decide), r 11 (by decide), r 12 (by decide), r 13 (by decide), r 14 (by decide), r 15 (by decide), r 16 (by decide)]
  | 4, i, _ =>
    show Sum.inr (2, cU ρ' z x i) = Sum.inr (2, cU ρ' _ x i)
    simp only [cU, zl, r 19 (by decide), r 21 (by decide), r 22 (by decide), r 23 (by decide), r 24 (by decide), r 25 (by decide), r 26 (by decide)]
  | m + 5, i, hv => exact False.elim hv
end AN
theorem an_16 {z : zT} (hz : zI z) (h : ¬ z 3 0 < 16) : z 3 0 = 16 := by
  rw [hz.1.1] at h ⊢
  have h2 := hz.1.2
  have h3 : ¬ zA z < 16 := fun w => h (nI_lt (b := 16) w (by decide))
  rw [show zA z = 16 by omega]
  rfl
abbrev rm_S_announce : Room := { frames := 7, cells := 4, slots := 23, locals := 112 }
set_option maxRecDepth 100000 in
set_option maxHeartbeats 4000000 in
theorem c_S_announce {l0 : Launch} {D : va_G} {γ : Nat → ClassId} (hl0 : l0.stackTraces = false) {LP : List Nat} {ks : List kT} {ρ : kT → Nat} {z : zT} {x : xT} {f0 : Nat → va_E} (J : cI LP ks ρ z x) (o : Int32) (n : Int32)  : pv_M l0 D (tys_ γ) y_S_announce (Cond.code y_S_announce b_S_announce 3 (Option.some FieldType.int)) rm_S_announce [.ref (ρ (0, 0)), .int o, .int n] LP (cF γ ks ρ z x f0) (cPost γ LP ks ρ f0 (some (.int (m_announce z o n).1)) (m_announce z o n).2) (cThr [eIA, eUO] z ((m_announce z o n).2)) := by
  refine pv_mk hl0 (by decide) (Nat.le_of_ble_eq_true rfl) (fun κ C R0 hN _ => ?_)
  obtain ⟨H, hV, hz, hJ⟩ := id J
  have M0 : ((0, 0) : kT) ∈ ks := (hV _).mpr (Nat.zero_le _)
  have M1 : ((0, 1) : kT) ∈ ks := (hV _).mpr (by decide : 1 ≤ 3)
  have M2 : ((0, 2) : kT) ∈ ks := (hV _).mpr (by decide : 2 ≤ 3)
  have M3 : ((0, 3) : kT) ∈ ks := (hV _).mpr (by decide : 3 ≤ 3)
  show pv_V D κ 0 0 LP (cF γ ks ρ z x f0) 0 [(0, .ref (ρ (0, 0))), (1, .int o), (2, .int n)] []
  refine pv_iload_n C d_S_announce_0 rfl 1 rfl ?_
  refine pv_iconst (v := 0) C d_S_announce_1 (by decide) ?_
  refine pv_bipush (v := 7) C d_S_announce_2 (by decide) ?_
  refine pv_callS (n := 3) (As := [.int o, .int 0, .int 7]) (rest := []) C (c_S_mustBeWithin hl0 o 0 7) cd_S_mustBeWithin ml_S_27 in_S sm_S_mustBeWithin (by decide +kernel) (by decide) rfl (Nat.le_of_ble_eq_true rfl) rfl d_S_announce_4 (by decide) hN R0 (fun E h => ⟨by rw [h.1]; exact cT_any 0 1 rfl rfl (by unfold m_announce; rw [if_neg (nT h.2)]; first | exact Or.inl rfl | exact Or.inr rfl), rfl, rfl⟩) (fun v9 LP9 f9 h9 => ?_)
  obtain ⟨⟨rfl, w9, w8⟩, h1⟩ := h9
  have w9 := w9.symm
  have w8 := w8.symm
  subst w9
  subst w8
  refine pv_stf (f2 := (kf ks ρ (cz γ ρ z x) f0)) (st2 := []) (c2 := 1) (s2 := 6) rfl rfl rfl rfl ?_
  refine pv_iload_n C d_S_announce_7 rfl 2 rfl ?_
  refine pv_iconst (v := 1) C d_S_announce_8 (by decide) ?_
  refine pv_iconst (v := 4) C d_S_announce_9 (by decide) ?_
  refine pv_callS (n := 3) (As := [.int n, .int 1, .int 4]) (rest := []) C (c_S_mustBeWithin hl0 n 1 4) cd_S_mustBeWithin ml_S_27 in_S sm_S_mustBeWithin (by decide +kernel) (by decide) rfl (Nat.le_of_ble_eq_true rfl) rfl d_S_announce_10 (by decide) hN R0 (fun E h => ⟨by rw [h.1]; exact cT_any 0 1 rfl rfl (by unfold m_announce; rw [if_pos h1, if_neg (nT h.2)]; first | exact Or.inl rfl | exact Or.inr rfl), rfl, rfl⟩) (fun v9 LP9 f9 h9 => ?_)
  obtain ⟨⟨rfl, w9, w8⟩, h2⟩ := h9
  have w9 := w9.symm
  have w8 := w8.symm
  subst w9
  subst w8
  refine pv_stf (f2 := (kf ks ρ (cz γ ρ z x) f0)) (st2 := []) (c2 := 2) (s2 := 12) rfl rfl rfl rfl ?_
  refine pv_aload_n C d_S_announce_13 rfl 0 rfl ?_
  refine pv_get (v := .int (z 3 0)) (ci := 3) C hin_S rfl (H.1 _ M0) ((kf_at H M0).trans rfl) 3 (by decide) fl_S_31 rfl rfl d_S_announce_14 ?_
  refine pv_aload_n C d_S_announce_17 rfl 0 rfl ?_
  refine pv_get (v := .ref (ρ (0, 1))) (ci := 3) C hin_S rfl (H.1 _ M0) ((kf_at H M0).trans rfl) 0 (by decide) fl_S_11 rfl rfl d_S_announce_18 ?_
  refine pv_alen C 0 rfl (H.1 _ M1) ((kf_at H M1).trans rfl) (v := 16) rfl d_S_announce_21 ?_
  refine pv_icmp_lt (tgt := 35) C d_S_announce_22 (by decide) (fun h3 => ?_) (fun h3 => ?_)
  · refine pv_aload_n C d_S_announce_35 rfl 0 rfl ?_
    refine pv_get (v := .ref (ρ (0, 1))) (ci := 3) C hin_S rfl (H.1 _ M0) ((kf_at H M0).trans rfl) 0 (by decide) fl_S_11 rfl rfl d_S_announce_36 ?_
    refine pv_aload_n C d_S_announce_39 rfl 0 rfl ?_
    refine pv_get (v := .int (z 3 0)) (ci := 3) C hin_S rfl (H.1 _ M0) ((kf_at H M0).trans rfl) 3 (by decide) fl_S_31 rfl rfl d_S_announce_40 ?_
    have hA16 : zA z < 16 := by rw [hz.1.1] at h3; exact (nI_ltI (b := 16) (by have := hz.1.2; omega) (by decide)).mp h3
    refine pv_new (ci := 0) (fs := n0A) C hin_A tyA tyA_ok rfl kl_S_9 is_A in_A (by decide) (by decide) (by decide) d_S_announce_43 (fun q0 hq0 => ?_)
    have n00 : ρ (0, 0) ≠ q0 := fun w => hq0 (w ▸ H.1 _ M0)
    refine pv_dup C d_S_announce_46 rfl ?_
    refine pv_aload_n C d_S_announce_47 rfl 0 rfl ?_
    refine pv_get (v := .int (z 3 0)) (ci := 3) C hin_S rfl (List.mem_append_left _ (H.1 _ M0)) ((va_up_ne _ _ n00).trans ((kf_at H M0).trans rfl)) 3 (by decide) fl_S_31 rfl rfl d_S_announce_48 ?_
    refine pv_iconst (v := 1) C d_S_announce_51 (by decide) ?_
    refine pv_iadd C d_S_announce_52 ?_
    refine pv_iload_n C d_S_announce_53 rfl 1 rfl ?_
    refine pv_iload_n C d_S_announce_54 rfl 2 rfl ?_
    refine pv_callI (X := fun _ => False) (ret := none) (n := 3) (As := [.int (z 3 0 + 1), .int o, .int n]) (rest := [.ref q0, .int (z 3 0), .ref (ρ (0, 1))]) C (c_A_init hl0 (List.mem_append_right _ (List.mem_singleton.mpr rfl)) (va_up_self _ _ _) (z 3 0 + 1) o n) cd_A_init ml_S_42 in_A im_A_init rfl (by decide +kernel) (by decide) rfl (Nat.le_of_ble_eq_true rfl) rfl d_S_announce_55 (by decide) hN R0 (fun _ h => h.elim) (fun v9 LP9 f9 h9 => ?_)
    obtain ⟨rfl, q2, hq2, rfl, rfl⟩ := h9
    have k1 : ((1, zA z + 1) : kT) ∉ ks := fun w => by have w2 : 1 ≤ zA z + 1 ∧ zA z + 1 ≤ zA z := (hV _).mp w; omega
    have k2 : ((2, zA z + 1) : kT) ∉ ks := fun w => by have w2 : 1 ≤ zA z + 1 ∧ zA z + 1 ≤ zA z := (hV _).mp w; omega
    obtain ⟨ρ', a1, a2, a3, H', a4⟩ := kf_new2 (c := cz γ ρ z x) (f0 := f0) H (.inr (0, n0A)) (.inr (0, [.int (z 3 0 + 1), .int o, .int n, .ref q2, .int 0, .int 0, .int (-1)])) (.inl (γ 1, 4, .inr (.inr (.inr (.inr (fun _ => none)))))) k1 k2 (fun w => absurd (congrArg Prod.fst w) (show ¬ (1 : Nat) = 2 by decide)) hq0 hq2
    have m0 : ∀ k ∈ ks, k ∈ (ks ++ [(2, zA z + 1)] ++ [(1, zA z + 1)]) := fun k w => List.mem_append_left _ (List.mem_append_left _ w)
    have m1 : ((1, zA z + 1) : kT) ∈ (ks ++ [(2, zA z + 1)] ++ [(1, zA z + 1)]) := List.mem_append_right _ (List.mem_singleton.mpr rfl)
    refine pv_stf (f2 := kf (ks ++ [(2, zA z + 1)] ++ [(1, zA z + 1)]) ρ' (ku (ku (cz γ ρ z x) (2, zA z + 1) (.inl (γ 1, 4, .inr (.inr (.inr (.inr (fun _ => none))))))) (1, zA z + 1) (.inr (0, [.int (z 3 0 + 1), .int o, .int n, .ref q2, .int 0, .int 0, .int (-1)]))) f0) (st2 := [.ref (ρ' (1, zA z + 1)), .int (z 3 0), .ref (ρ' (0, 1))]) (c2 := 4) (s2 := 23) a4 (by rw [a1 _ M1, a2]; rfl) rfl rfl ?_
    refine pv_lvs (lv2 := [(0, .ref (ρ' (0, 0))), (1, .int o), (2, .int n)]) [0, 1, 2] (by rw [a1 _ M0]; rfl) ?_
    refine pk_aast (r := (RA, TA, 7)) C H' 0 0 rfl (m0 _ M1) ((ku_ne _ _ (fun q => absurd (congrArg Prod.fst q) (show ¬ (0 : Nat) = 1 by decide))).trans ((ku_ne _ _ (fun q => absurd (congrArg Prod.fst q) (show ¬ (0 : Nat) = 2 by decide))).trans rfl)) m1 (ku_eq _ _ _) rfl (j := zA z) hz.1.1 (show zA z < 16 from hA16) (by decide) d_S_announce_58 ?_
    refine pv_aload_n C d_S_announce_59 rfl 0 rfl ?_
    refine pv_dup C d_S_announce_60 rfl ?_
    refine pv_get (v := .int (z 3 0)) (ci := 3) C hin_S rfl (H'.1 _ (m0 _ M0)) ((kf_at H' (m0 _ M0)).trans ((ku_ne _ _ (by decide)).trans ((ku_ne _ _ (fun q => absurd (congrArg Prod.fst q) (show ¬ (0 : Nat) = 1 by decide))).trans ((ku_ne _ _ (fun q => absurd (congrArg Prod.fst q) (show ¬ (0 : Nat) = 2 by decide))).trans rfl)))) 3 (by decide) fl_S_31 rfl rfl d_S_announce_61 ?_
    refine pv_iconst (v := 1) C d_S_announce_64 (by decide) ?_
    refine pv_iadd C d_S_announce_65 ?_
    refine pk_put (ci := 3) (fs := [.ref (ρ (0, 1)), .ref (ρ (0, 2)), .ref (ρ (0, 3)), .int (z 3 0), .int (z 18 0), .int (z 27 0), .int (z 29 0), .int (z 28 0), .int (z 1 0), .int x.1]) C H' hin_S tyS tyS_ok nmS rfl (m0 _ M0) ((ku_ne _ _ (by decide)).trans ((ku_ne _ _ (fun q => absurd (congrArg Prod.fst q) (show ¬ (0 : Nat) = 1 by decide))).trans ((ku_ne _ _ (fun q => absurd (congrArg Prod.fst q) (show ¬ (0 : Nat) = 2 by decide))).trans rfl))) 3 (by decide) fl_S_31 rfl rfl rfl rfl (Nat.le_of_ble_eq_true rfl) d_S_announce_66 ?_
    refine pk_fz (f2 := cF γ (ks ++ [(2, zA z + 1)] ++ [(1, zA z + 1)]) ρ' (anz z o n) x f0) (kf_eq (fun k hk => an_cz J hA16 a1 a3 hk)) ?_
    have J1 := an_cI (o := o) J hA16 h2 H'
    refine pv_aload_n C d_S_announce_69 rfl 0 rfl ?_
    refine pv_get (v := .int (z 3 0 + 1)) (ci := 3) C hin_S rfl (H'.1 _ (m0 _ M0)) ((kf_at H' (m0 _ M0)).trans rfl) 3 (by decide) fl_S_31 rfl rfl d_S_announce_70 ?_
    refine pv_iret C R0 d_S_announce_73 (by decide) (by decide) (cP_re J1 rfl (a1 _ M0) (fun _ q => List.mem_append_left _ (List.mem_append_left _ q)) (fr_new (fun _ q => q) (fun k hk => Or.inl ⟨k, hk, rfl⟩) a1 ?_) (by unfold m_announce; rw [if_pos h1, if_pos h2, if_neg (fun q => absurd (q ▸ h3) (by decide))]; rfl))
    intro k hk
    simp only [List.mem_append, List.mem_singleton] at hk
    rcases hk with (w | w) | w
    · exact Or.inl w
    · refine Or.inr ?_
      rw [w, a3]
      exact fun q => hq2 (List.mem_append_left _ q)
    · refine Or.inr ?_
      rw [w, a2]
      exact hq0
  · exact pv_throw (LP0 := []) (f0 := fun _ => .inr (0, [])) (text := "no room for another announcement") C hN R0 (by decide) (by decide) kl_S_35 in_UnsupportedOperationException rfl (by decide) th1_UO th2_UO th3_UO d_S_announce_25 d_S_announce_28 d_S_announce_29 d_S_announce_31 d_S_announce_34 (by decide) (Nat.le_of_ble_eq_true rfl) (by decide) (by decide) (cT_any 1 2 rfl rfl (by unfold m_announce; rw [if_pos h1, if_pos h2, if_pos (an_16 hz h3)]; exact Or.inl rfl))
