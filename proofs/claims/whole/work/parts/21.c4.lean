/-! contracts of the component: the face, what writes (by wip/whole/gen/c5.py) -/
theorem nd_t {p : Prop} [Decidable p] (h : (!decide p) = true) : ¬ p := by simpa using h
theorem nd_f {p : Prop} [Decidable p] (h : (!decide p) = false) : p := by simpa using h
theorem cT_any {es : List String} {z z' : zT} {E : String} (i : Nat) (c : Int32) (hi : es[i]? = some E) (hc : c = nI (i + 1)) (h : z' = zs z 0 0 c ∨ z' = zs (zs z 0 0 0) 0 0 c) : cThr es z z' E :=
  h.elim (cT_of i c hi hc) (cT_of2 i c hi hc)
/-- the end of a call that wrote: the pool is the new state's -/
theorem cP_re {γ : Nat → ClassId} {LP LP0 : List Nat} {ks ks0 : List kT} {ρ ρ0 : kT → Nat} {z' : zT} {x' : xT} {f0 : Nat → va_E} (J : cI LP ks ρ z' x') (h0 : z' 0 0 = 0) (hρ : ρ (0, 0) = ρ0 (0, 0)) (hL : ∀ a ∈ LP0, a ∈ LP) (hK : ∀ k ∈ ks, (∃ j ∈ ks0, ρ k = ρ0 j) ∨ ρ k ∉ LP0) {q : Int32 × zT} {r : Int32} (h : q = (r, z')) : cPost γ LP0 ks0 ρ0 f0 (some (.int q.1)) q.2 (some (.int r)) LP (cF γ ks ρ z' x' f0) := by
  subst h
  exact ⟨rfl, h0, ks, ρ, x', rfl, J, hρ, hL, hK⟩
theorem cP_rv {γ : Nat → ClassId} {LP LP0 : List Nat} {ks ks0 : List kT} {ρ ρ0 : kT → Nat} {z' : zT} {x' : xT} {f0 : Nat → va_E} (J : cI LP ks ρ z' x') (h0 : z' 0 0 = 0) (hρ : ρ (0, 0) = ρ0 (0, 0)) (hL : ∀ a ∈ LP0, a ∈ LP) (hK : ∀ k ∈ ks, (∃ j ∈ ks0, ρ k = ρ0 j) ∨ ρ k ∉ LP0) {q : zT} (h : q = z') : cPost γ LP0 ks0 ρ0 f0 none q none LP (cF γ ks ρ z' x' f0) := by
  subst h
  exact ⟨rfl, h0, ks, ρ, x', rfl, J, hρ, hL, hK⟩
theorem zF_line {z : zT} {r j : Nat} {v : Int32} (h1 : 11 ≤ r) (h2 : r ≤ 16) (hv : vK z (3, j)) (h : zF z) : zF (zs z r j v) := by
  have e : ∀ a, (a < 11 ∨ 16 < a) → zs z r j v a = z a := fun a q => zs_row z v (by omega)
  have ev : ∀ k, vK (zs z r j v) k ↔ vK z k := fun k => by simp only [vK, zA, zU, zt, e 3 (by decide), e 6 (by decide), e 18 (by decide)]
  refine ⟨by rw [e 7 (by decide)]; exact h.1, by simp only [zA, e 3 (by decide), e 6 (by decide), e 7 (by decide)]; exact h.2.1, fun i hi q => ?_, by simp only [zU, e 18 (by decide), e 24 (by decide), e 25 (by decide), e 26 (by decide)]; exact h.2.2.2⟩
  have q2 : ¬ vK z (3, i) := fun w => q ((ev _).mpr w)
  have hij : i ≠ j := fun w => q2 (w ▸ hv)
  simp only [zs_j z v hij, e 17 (by decide)]
  exact h.2.2.1 i hi q2
theorem zF_17 {z : zT} {j p : Nat} {v : Int32} (hv : vK z (3, j)) (hp : p ≤ 7) (h : zF z) : zF (zs z 17 (8 * j + p) v) := by
  have e : ∀ a, a ≠ 17 → zs z 17 (8 * j + p) v a = z a := fun a q => zs_row z v q
  have ev : ∀ k, vK (zs z 17 (8 * j + p) v) k ↔ vK z k := fun k => by simp only [vK, zA, zU, zt, e 3 (by decide), e 6 (by decide), e 18 (by decide)]
  refine ⟨by rw [e 7 (by decide)]; exact h.1, by simp only [zA, e 3 (by decide), e 6 (by decide), e 7 (by decide)]; exact h.2.1, fun i hi q => ?_, by simp only [zU, e 18 (by decide), e 24 (by decide), e 25 (by decide), e 26 (by decide)]; exact h.2.2.2⟩
  have q2 : ¬ vK z (3, i) := fun w => q ((ev _).mpr w)
  have hij : i ≠ j := fun w => q2 (w ▸ hv)
  obtain ⟨g1, g2, g3, g4, g5, g6, g7⟩ := h.2.2.1 i hi q2
  simp only [e 11 (by decide), e 12 (by decide), e 13 (by decide), e 14 (by decide), e 15 (by decide), e 16 (by decide)]
  exact ⟨g1, g2, g3, g4, g5, g6, fun s hs => by rw [zs_j z v (by omega)]; exact g7 s hs⟩
theorem zF_unit {z : zT} {r j : Nat} {v : Int32} (h1 : 24 ≤ r) (h2 : r ≤ 26) (hv : 1 ≤ j ∧ j ≤ zU z) (h : zF z) : zF (zs z r j v) := by
  have e : ∀ a, (a < 24 ∨ 26 < a) → zs z r j v a = z a := fun a q => zs_row z v (by omega)
  have ev : ∀ k, vK (zs z r j v) k ↔ vK z k := fun k => by simp only [vK, zA, zU, zt, e 3 (by decide), e 6 (by decide), e 18 (by decide)]
  refine ⟨by rw [e 7 (by decide)]; exact h.1, by simp only [zA, e 3 (by decide), e 6 (by decide), e 7 (by decide)]; exact h.2.1, fun i hi q => ?_, fun u q1 q2 => ?_⟩
  · have q2 : ¬ vK z (3, i) := fun w => q ((ev _).mpr w)
    simp only [e 11 (by decide), e 12 (by decide), e 13 (by decide), e 14 (by decide), e 15 (by decide), e 16 (by decide), e 17 (by decide)]
    exact h.2.2.1 i hi q2
  · have q3 : zU z < u := by simpa only [zU, e 18 (by decide)] using q1
    have hij : u ≠ j := by omega
    simp only [zs_j z v hij]
    exact h.2.2.2 u q3 q2
theorem zF_st {z : zT} {j : Nat} {v : Int32} (hv : j ≤ zA z) (hs : v = 0 ∨ v = 1 ∨ v = 2 ∨ v = 3) (h : zF z) : zF (zs z 7 j v) := by
  have e : ∀ a, a ≠ 7 → zs z 7 j v a = z a := fun a q => zs_row z v q
  have ev : ∀ k, vK (zs z 7 j v) k ↔ vK z k := fun k => by simp only [vK, zA, zU, zt, e 3 (by decide), e 6 (by decide), e 18 (by decide)]
  refine ⟨fun i hi => ?_, fun i q1 q2 => ?_, fun i hi q => ?_, by simp only [zU, e 18 (by decide), e 24 (by decide), e 25 (by decide), e 26 (by decide)]; exact h.2.2.2⟩
  · by_cases w : i = j
    · rw [w, zs_eq]; exact hs
    · rw [zs_j z v w]; exact h.1 i hi
  · have q3 : zA z < i := by simpa only [zA, e 3 (by decide)] using q1
    rw [e 6 (by decide), zs_j z v (by omega)]
    exact h.2.1 i q3 q2
  · have q2 : ¬ vK z (3, i) := fun w => q ((ev _).mpr w)
    simp only [e 11 (by decide), e 12 (by decide), e 13 (by decide), e 14 (by decide), e 15 (by decide), e 16 (by decide), e 17 (by decide)]
    exact h.2.2.1 i hi q2
theorem uS_1 {d w b : Int32} : uS d w b = 1 ↔ d ≠ 0 := by
  unfold uS
  (repeat' split) <;> simp_all
theorem uS_3 {d w b : Int32} : uS d w b = 3 ↔ d = 0 ∧ w ≠ 0 := by
  unfold uS
  (repeat' split) <;> simp_all
theorem rt_set {y : Int32} {z : zT} {p : Int32} (hP : p = nI (ix p) ∧ ix p ≤ 7) (h : ∀ q, q ≤ 7 → (y &&& bitI (nI q) = 0 ↔ z 2 q = 0)) : ∀ q, q ≤ 7 → ((y ||| bitI p) &&& bitI (nI q) = 0 ↔ zs z 2 (ix p) (bN true) 2 q = 0) := by
  intro q hq
  obtain ⟨p1, p2⟩ := hP
  rw [gb_and (by omega), show bitI p = bitI (nI (ix p)) by rw [← p1], gb_or (by omega)]
  by_cases e : q = ix p
  · rw [e, zs_eq]
    simp
    decide
  · rw [zs_j z _ e, ← h q hq, gb_and (by omega)]
    simp [Ne.symm e]
theorem rt_clr {y : Int32} {z : zT} {p : Int32} (hP : p = nI (ix p) ∧ ix p ≤ 7) (h : ∀ q, q ≤ 7 → (y &&& bitI (nI q) = 0 ↔ z 2 q = 0)) : ∀ q, q ≤ 7 → ((y &&& (bitI p ^^^ (-1))) &&& bitI (nI q) = 0 ↔ zs z 2 (ix p) (bN false) 2 q = 0) := by
  intro q hq
  obtain ⟨p1, p2⟩ := hP
  rw [gb_and (by omega), show bitI p = bitI (nI (ix p)) by rw [← p1], gb_clr (by omega) (by omega)]
  by_cases e : q = ix p
  · rw [e, zs_eq]
    simp
    decide
  · rw [zs_j z _ e, ← h q hq, gb_and (by omega)]
    simp [Ne.symm e]
theorem us_set {z : zT} {x : xT} {u0 : Nat} {w v : Int32} (h : ∀ u, 1 ≤ u → u ≤ zU z → z 20 u = uS (z 24 u) (x.2.2 u) (z 15 (zl z u))) (hv : v = uS (z 24 u0) w (z 15 (zl z u0))) : ∀ u, 1 ≤ u → u ≤ zU z → zs z 20 u0 v 20 u = uS (z 24 u) (upd x.2.2 u0 w u) (z 15 (zl z u)) := by
  intro u h1 h2
  by_cases e : u = u0
  · subst e
    rw [zs_eq, pk_us, hv]
  · rw [zs_j z _ e, pk_un e, h u h1 h2]
theorem uS_p {d b : Int32} (h : d = 0) : (if b = 0 then (0 : Int32) else 2) = uS d 0 b := by
  unfold uS
  rw [if_pos h, if_pos rfl]
theorem wn_set {z : zT} {j : Nat} {d : Int32} (hd : inB d 0 5 = true) (h : ∀ i, i < 68 → (z 13 i = nI (ix (z 13 i)) ∧ ix (z 13 i) ≤ 5) ∧ z 14 i = nI (ix (z 14 i)) ∧ ix (z 14 i) ≤ 5) : ∀ i, i < 68 → (zs z 13 j d 13 i = nI (ix (zs z 13 j d 13 i)) ∧ ix (zs z 13 j d 13 i) ≤ 5) ∧ z 14 i = nI (ix (z 14 i)) ∧ ix (z 14 i) ≤ 5 := by
  intro i hi
  refine ⟨?_, (h i hi).2⟩
  by_cases e : i = j
  · rw [e, zs_eq]
    obtain ⟨q1, -, q3⟩ := inB_ix (a := 0) (b := 5) hd rfl rfl (by decide) (by decide)
    exact ⟨q1, q3⟩
  · rw [zs_j z _ e]
    exact (h i hi).1
abbrev rm_S_day : Room := { frames := 7, cells := 2, slots := 12, locals := 112 }
set_option maxRecDepth 100000 in
set_option maxHeartbeats 4000000 in
theorem c_S_day {l0 : Launch} {D : va_G} {γ : Nat → ClassId} (hl0 : l0.stackTraces = false) {LP : List Nat} {ks : List kT} {ρ : kT → Nat} {z : zT} {x : xT} {f0 : Nat → va_E} (J : cI LP ks ρ z x) (d : Int32)  : pv_M l0 D (tys_ γ) y_S_day (Cond.code y_S_day b_S_day 2 (Option.none : Option FieldType)) rm_S_day [.ref (ρ (0, 0)), .int d] LP (cF γ ks ρ z x f0) (cPost γ LP ks ρ f0 none (m_day z d)) (cThr [eIA, eIS] z (m_day z d)) := by
  refine pv_mk hl0 (by decide) (Nat.le_of_ble_eq_true rfl) (fun κ C R0 hN _ => ?_)
  obtain ⟨H, hV, hz, hJ⟩ := id J
  have M0 : ((0, 0) : kT) ∈ ks := (hV _).mpr (Nat.zero_le _)
  have M1 : ((0, 1) : kT) ∈ ks := (hV _).mpr (by decide : 1 ≤ 3)
  have M2 : ((0, 2) : kT) ∈ ks := (hV _).mpr (by decide : 2 ≤ 3)
  have M3 : ((0, 3) : kT) ∈ ks := (hV _).mpr (by decide : 3 ≤ 3)
  show pv_V D κ 0 0 LP (cF γ ks ρ z x f0) 0 [(0, .ref (ρ (0, 0))), (1, .int d)] []
  refine pv_iload_n C d_S_day_0 rfl 1 rfl ?_
  refine pv_iconst (v := 0) C d_S_day_1 (by decide) ?_
  refine pv_sipush (v := 10000) C d_S_day_2 (by decide) ?_
  refine pv_callS (n := 3) (As := [.int d, .int 0, .int 10000]) (rest := []) C (c_S_mustBeWithin hl0 d 0 10000) cd_S_mustBeWithin ml_S_27 in_S sm_S_mustBeWithin (by decide +kernel) (by decide) rfl (Nat.le_of_ble_eq_true rfl) rfl d_S_day_5 (by decide) hN R0 (fun E h => ⟨by rw [h.1]; exact cT_any 0 1 rfl rfl (by unfold m_day; rw [if_neg (nT h.2)]; first | exact Or.inl rfl | exact Or.inr rfl), rfl, rfl⟩) (fun v9 LP9 f9 h9 => ?_)
  obtain ⟨⟨rfl, w9, w8⟩, h1⟩ := h9
  have w9 := w9.symm
  have w8 := w8.symm
  subst w9
  subst w8
  refine pv_stf (f2 := (kf ks ρ (cz γ ρ z x) f0)) (st2 := []) (c2 := 1) (s2 := 6) rfl rfl rfl rfl ?_
  refine pv_iload_n C d_S_day_8 rfl 1 rfl ?_
  refine pv_aload_n C d_S_day_9 rfl 0 rfl ?_
  refine pv_get (v := .int (z 1 0)) (ci := 3) C hin_S rfl (H.1 _ M0) ((kf_at H M0).trans rfl) 8 (by decide) fl_S_151 rfl rfl d_S_day_10 ?_
  refine pv_icmp_lt (tgt := 20) C d_S_day_13 (by decide) (fun h2 => ?_) (fun h2 => ?_)
  · refine pv_iconst (v := 0) C d_S_day_20 (by decide) ?_
    refine pv_callS (n := 1) (As := [.int 0]) (rest := []) C (c_S_mustHold hl0 false) cd_S_mustHold ml_S_55 in_S sm_S_mustHold (by decide +kernel) (by decide) rfl (Nat.le_of_ble_eq_true rfl) rfl d_S_day_21 (by decide) hN R0 (fun E h => ⟨by rw [h.1]; exact cT_any 1 2 rfl rfl (by unfold m_day; rw [if_pos h1, if_neg (Int32.not_le.mpr h2)]; first | exact Or.inl rfl | exact Or.inr rfl), rfl, rfl⟩) (fun v9 LP9 f9 h9 => ?_)
    obtain ⟨⟨rfl, w9, w8⟩, h3⟩ := h9
    have w9 := w9.symm
    have w8 := w8.symm
    subst w9
    subst w8
    exact absurd h3 (by decide)
  · refine pv_iconst (v := 1) C d_S_day_16 (by decide) ?_
    refine pv_goto (tgt := 21) C d_S_day_17 (by decide) ?_
    refine pv_callS (n := 1) (As := [.int 1]) (rest := []) C (c_S_mustHold hl0 true) cd_S_mustHold ml_S_55 in_S sm_S_mustHold (by decide +kernel) (by decide) rfl (Nat.le_of_ble_eq_true rfl) rfl d_S_day_21 (by decide) hN R0 (fun E h => absurd h.2 (by decide)) (fun v9 LP9 f9 h9 => ?_)
    obtain ⟨⟨rfl, w9, w8⟩, h4⟩ := h9
    have w9 := w9.symm
    have w8 := w8.symm
    subst w9
    subst w8
    refine pv_stf (f2 := (kf ks ρ (cz γ ρ z x) f0)) (st2 := []) (c2 := 2) (s2 := 12) rfl rfl rfl rfl ?_
    refine pv_aload_n C d_S_day_24 rfl 0 rfl ?_
    refine pv_iload_n C d_S_day_25 rfl 1 rfl ?_
    refine pk_put (ci := 3) C H hin_S tyS tyS_ok nmS rfl M0 rfl 8 (by decide) fl_S_151 rfl rfl rfl rfl (Nat.le_of_ble_eq_true rfl) d_S_day_26 ?_
    refine pk_fz (f2 := kf ks ρ (ku (cz γ ρ z x) (0, 0) (.inr (3, [.ref (ρ (0, 1)), .ref (ρ (0, 2)), .ref (ρ (0, 3)), .int (z 3 0), .int (z 18 0), .int (z 27 0), .int (z 29 0), .int (z 28 0), .int d, .int x.1]))) f0) rfl ?_
    obtain ⟨z1, e1⟩ : ∃ q : zT, q = (zs (zs z 0 0 0) 1 0 d) := ⟨_, rfl⟩
    obtain ⟨x1, y1⟩ : ∃ q : xT, q = x := ⟨_, rfl⟩
    have J1 : cI LP ks ρ z1 x1 := by
      rw [e1, y1]
      exact ⟨H, hV, hz, hJ.1, hJ.2.1, hJ.2.2.1, hJ.2.2.2.1, hJ.2.2.2.2.1, hJ.2.2.2.2.2.1, hJ.2.2.2.2.2.2⟩
    have g1 : ∀ k7 ∈ ks, (ku (cz γ ρ z x) (0, 0) (.inr (3, [.ref (ρ (0, 1)), .ref (ρ (0, 2)), .ref (ρ (0, 3)), .int (z 3 0), .int (z 18 0), .int (z 27 0), .int (z 29 0), .int (z 28 0), .int d, .int x.1]))) k7 = cz γ ρ z1 x1 k7 := by
      intro k7 hk
      rw [e1, y1]
      by_cases q0 : k7 = ((0, 0) : kT)
      · subst q0
        simp [ku, cz, cS, zs, zl, upd]
      rw [ku_ne _ _ q0]
      exact (((cz_obj (by decide) q0).trans (cz_non (by decide)))).symm
    refine pk_fz (f2 := cF γ ks ρ z1 x1 f0) (kf_eq g1) ?_
    exact pv_vret C R0 d_S_day_29 (by decide) (by decide) (cP_rv J1 (by subst e1; rfl) rfl (fun _ q => q) (fun k hk => Or.inl ⟨k, hk, rfl⟩) (by rw [e1]; unfold m_day; rw [if_pos h1, if_pos (Int32.not_lt.mp h2)]))
abbrev rm_S_right : Room := { frames := 7, cells := 1, slots := 6, locals := 112 }
set_option maxRecDepth 100000 in
set_option maxHeartbeats 4000000 in
theorem c_S_right {l0 : Launch} {D : va_G} {γ : Nat → ClassId} (hl0 : l0.stackTraces = false) {LP : List Nat} {ks : List kT} {ρ : kT → Nat} {z : zT} {x : xT} {f0 : Nat → va_E} (J : cI LP ks ρ z x) (p : Int32) (b : Bool)  : pv_M l0 D (tys_ γ) y_S_right (Cond.code y_S_right b_S_right 3 (Option.none : Option FieldType)) rm_S_right [.ref (ρ (0, 0)), .int p, .int (bN b)] LP (cF γ ks ρ z x f0) (cPost γ LP ks ρ f0 none (m_right z p b)) (cThr [eIA] z (m_right z p b)) := by
  refine pv_mk hl0 (by decide) (Nat.le_of_ble_eq_true rfl) (fun κ C R0 hN _ => ?_)
  obtain ⟨H, hV, hz, hJ⟩ := id J
  have M0 : ((0, 0) : kT) ∈ ks := (hV _).mpr (Nat.zero_le _)
  have M1 : ((0, 1) : kT) ∈ ks := (hV _).mpr (by decide : 1 ≤ 3)
  have M2 : ((0, 2) : kT) ∈ ks := (hV _).mpr (by decide : 2 ≤ 3)
  have M3 : ((0, 3) : kT) ∈ ks := (hV _).mpr (by decide : 3 ≤ 3)
  show pv_V D κ 0 0 LP (cF γ ks ρ z x f0) 0 [(0, .ref (ρ (0, 0))), (1, .int p), (2, .int (bN b))] []
  refine pv_iload_n C d_S_right_0 rfl 1 rfl ?_
  refine pv_iconst (v := 0) C d_S_right_1 (by decide) ?_
  refine pv_bipush (v := 7) C d_S_right_2 (by decide) ?_
  refine pv_callS (n := 3) (As := [.int p, .int 0, .int 7]) (rest := []) C (c_S_mustBeWithin hl0 p 0 7) cd_S_mustBeWithin ml_S_27 in_S sm_S_mustBeWithin (by decide +kernel) (by decide) rfl (Nat.le_of_ble_eq_true rfl) rfl d_S_right_4 (by decide) hN R0 (fun E h => ⟨by rw [h.1]; exact cT_any 0 1 rfl rfl (by unfold m_right; rw [if_neg (nT (show isP p = false from h.2))]; first | exact Or.inl rfl | exact Or.inr rfl), rfl, rfl⟩) (fun v9 LP9 f9 h9 => ?_)
  obtain ⟨⟨rfl, w9, w8⟩, h1⟩ := h9
  have w9 := w9.symm
  have w8 := w8.symm
  subst w9
  subst w8
  have hP0 : isP p = true := h1
  have hP := isP_ix hP0
  refine pv_stf (f2 := (kf ks ρ (cz γ ρ z x) f0)) (st2 := []) (c2 := 1) (s2 := 6) rfl rfl rfl rfl ?_
  refine pv_aload_n C d_S_right_7 rfl 0 rfl ?_
  refine pv_iload_n C d_S_right_8 rfl 2 rfl ?_
  refine pv_ifb_eq (tgt := 24) C d_S_right_9 (by decide) (fun h2 => ?_) (fun h2 => ?_)
  · refine pv_aload_n C d_S_right_24 rfl 0 rfl ?_
    refine pv_get (v := .int x.1) (ci := 3) C hin_S rfl (H.1 _ M0) ((kf_at H M0).trans rfl) 9 (by decide) fl_S_73 rfl rfl d_S_right_25 ?_
    refine pv_iload_n C d_S_right_28 rfl 1 rfl ?_
    refine pv_callS (n := 1) (As := [.int p]) (rest := [.int x.1, .ref (ρ (0, 0))]) C (c_S_bitOf hl0 p) cd_S_bitOf ml_S_76 in_S sm_S_bitOf (by decide +kernel) (by decide) rfl (Nat.le_of_ble_eq_true rfl) rfl d_S_right_29 (by decide) hN R0 (fun _ h => h.elim) (fun v9 LP9 f9 h9 => ?_)
    obtain ⟨rfl, w9, w8⟩ := h9
    have w9 := w9.symm
    have w8 := w8.symm
    subst w9
    subst w8
    refine pv_stf (f2 := (kf ks ρ (cz γ ρ z x) f0)) (st2 := [.int (bitI p), .int x.1, .ref (ρ (0, 0))]) (c2 := 1) (s2 := 6) rfl rfl rfl rfl ?_
    refine pv_iconst (v := (-1)) C d_S_right_32 (by decide) ?_
    refine pv_ixor C d_S_right_33 ?_
    refine pv_iand C d_S_right_34 ?_
    refine pk_put (ci := 3) C H hin_S tyS tyS_ok nmS rfl M0 rfl 9 (by decide) fl_S_73 rfl rfl rfl rfl (Nat.le_of_ble_eq_true rfl) d_S_right_35 ?_
    refine pk_fz (f2 := kf ks ρ (ku (cz γ ρ z x) (0, 0) (.inr (3, [.ref (ρ (0, 1)), .ref (ρ (0, 2)), .ref (ρ (0, 3)), .int (z 3 0), .int (z 18 0), .int (z 27 0), .int (z 29 0), .int (z 28 0), .int (z 1 0), .int (x.1 &&& ((bitI p) ^^^ (-1)))]))) f0) rfl ?_
    obtain ⟨z1, e1⟩ : ∃ q : zT, q = (zs (zs z 0 0 0) 2 (ix p) (bN b)) := ⟨_, rfl⟩
    obtain ⟨x1, y1⟩ : ∃ q : xT, q = (x.1 &&& (bitI p ^^^ (-1)), x.2) := ⟨_, rfl⟩
    have J1 : cI LP ks ρ z1 x1 := by
      rw [e1, y1]
      exact ⟨H, hV, hz, hJ.1, hJ.2.1, (by rw [h2]; exact rt_clr hP hJ.2.2.1), hJ.2.2.2.1, hJ.2.2.2.2.1, hJ.2.2.2.2.2.1, hJ.2.2.2.2.2.2⟩
    have g1 : ∀ k7 ∈ ks, (ku (cz γ ρ z x) (0, 0) (.inr (3, [.ref (ρ (0, 1)), .ref (ρ (0, 2)), .ref (ρ (0, 3)), .int (z 3 0), .int (z 18 0), .int (z 27 0), .int (z 29 0), .int (z 28 0), .int (z 1 0), .int (x.1 &&& ((bitI p) ^^^ (-1)))]))) k7 = cz γ ρ z1 x1 k7 := by
      intro k7 hk
      rw [e1, y1]
      by_cases q0 : k7 = ((0, 0) : kT)
      · subst q0
        simp [ku, cz, cS, zs, zl, upd]
      rw [ku_ne _ _ q0]
      exact (((cz_x1 q0).trans ((cz_non (by decide)).trans (cz_non (by decide))))).symm
    refine pk_fz (f2 := cF γ ks ρ z1 x1 f0) (kf_eq g1) ?_
    exact pv_vret C R0 d_S_right_38 (by decide) (by decide) (cP_rv J1 (by subst e1; rfl) rfl (fun _ q => q) (fun k hk => Or.inl ⟨k, hk, rfl⟩) (by rw [e1]; unfold m_right; rw [if_pos (show isP p = true from h1)]))
  · refine pv_aload_n C d_S_right_12 rfl 0 rfl ?_
    refine pv_get (v := .int x.1) (ci := 3) C hin_S rfl (H.1 _ M0) ((kf_at H M0).trans rfl) 9 (by decide) fl_S_73 rfl rfl d_S_right_13 ?_
    refine pv_iload_n C d_S_right_16 rfl 1 rfl ?_
    refine pv_callS (n := 1) (As := [.int p]) (rest := [.int x.1, .ref (ρ (0, 0))]) C (c_S_bitOf hl0 p) cd_S_bitOf ml_S_76 in_S sm_S_bitOf (by decide +kernel) (by decide) rfl (Nat.le_of_ble_eq_true rfl) rfl d_S_right_17 (by decide) hN R0 (fun _ h => h.elim) (fun v9 LP9 f9 h9 => ?_)
    obtain ⟨rfl, w9, w8⟩ := h9
    have w9 := w9.symm
    have w8 := w8.symm
    subst w9
    subst w8
    refine pv_stf (f2 := (kf ks ρ (cz γ ρ z x) f0)) (st2 := [.int (bitI p), .int x.1, .ref (ρ (0, 0))]) (c2 := 1) (s2 := 6) rfl rfl rfl rfl ?_
    refine pv_ior C d_S_right_20 ?_
    refine pv_goto (tgt := 35) C d_S_right_21 (by decide) ?_
    refine pk_put (ci := 3) C H hin_S tyS tyS_ok nmS rfl M0 rfl 9 (by decide) fl_S_73 rfl rfl rfl rfl (Nat.le_of_ble_eq_true rfl) d_S_right_35 ?_
    refine pk_fz (f2 := kf ks ρ (ku (cz γ ρ z x) (0, 0) (.inr (3, [.ref (ρ (0, 1)), .ref (ρ (0, 2)), .ref (ρ (0, 3)), .int (z 3 0), .int (z 18 0), .int (z 27 0), .int (z 29 0), .int (z 28 0), .int (z 1 0), .int (x.1 ||| (bitI p))]))) f0) rfl ?_
    obtain ⟨z1, e1⟩ : ∃ q : zT, q = (zs (zs z 0 0 0) 2 (ix p) (bN b)) := ⟨_, rfl⟩
    obtain ⟨x1, y1⟩ : ∃ q : xT, q = (x.1 ||| bitI p, x.2) := ⟨_, rfl⟩
    have J1 : cI LP ks ρ z1 x1 := by
      rw [e1, y1]
      exact ⟨H, hV, hz, hJ.1, hJ.2.1, (by rw [h2]; exact rt_set hP hJ.2.2.1), hJ.2.2.2.1, hJ.2.2.2.2.1, hJ.2.2.2.2.2.1, hJ.2.2.2.2.2.2⟩
    have g1 : ∀ k7 ∈ ks, (ku (cz γ ρ z x) (0, 0) (.inr (3, [.ref (ρ (0, 1)), .ref (ρ (0, 2)), .ref (ρ (0, 3)), .int (z 3 0), .int (z 18 0), .int (z 27 0), .int (z 29 0), .int (z 28 0), .int (z 1 0), .int (x.1 ||| (bitI p))]))) k7 = cz γ ρ z1 x1 k7 := by
      intro k7 hk
      rw [e1, y1]
      by_cases q0 : k7 = ((0, 0) : kT)
      · subst q0
        simp [ku, cz, cS, zs, zl, upd]
      rw [ku_ne _ _ q0]
      exact (((cz_x1 q0).trans ((cz_non (by decide)).trans (cz_non (by decide))))).symm
    refine pk_fz (f2 := cF γ ks ρ z1 x1 f0) (kf_eq g1) ?_
    exact pv_vret C R0 d_S_right_38 (by decide) (by decide) (cP_rv J1 (by subst e1; rfl) rfl (fun _ q => q) (fun k hk => Or.inl ⟨k, hk, rfl⟩) (by rw [e1]; unfold m_right; rw [if_pos (show isP p = true from h1)]))
abbrev rm_S_accept : Room := { frames := 7, cells := 3, slots := 18, locals := 112 }
set_option maxRecDepth 100000 in
set_option maxHeartbeats 4000000 in
theorem c_S_accept {l0 : Launch} {D : va_G} {γ : Nat → ClassId} (hl0 : l0.stackTraces = false) {LP : List Nat} {ks : List kT} {ρ : kT → Nat} {z : zT} {x : xT} {f0 : Nat → va_E} (J : cI LP ks ρ z x) (a : Int32) (p : Int32)  : pv_M l0 D (tys_ γ) y_S_accept (Cond.code y_S_accept b_S_accept 4 (Option.none : Option FieldType)) rm_S_accept [.ref (ρ (0, 0)), .int a, .int p] LP (cF γ ks ρ z x f0) (cPost γ LP ks ρ f0 none (m_accept z a p)) (cThr [eNS, eIA, eIS] z (m_accept z a p)) := by
  refine pv_mk hl0 (by decide) (Nat.le_of_ble_eq_true rfl) (fun κ C R0 hN _ => ?_)
  obtain ⟨H, hV, hz, hJ⟩ := id J
  have M0 : ((0, 0) : kT) ∈ ks := (hV _).mpr (Nat.zero_le _)
  have M1 : ((0, 1) : kT) ∈ ks := (hV _).mpr (by decide : 1 ≤ 3)
  have M2 : ((0, 2) : kT) ∈ ks := (hV _).mpr (by decide : 2 ≤ 3)
  have M3 : ((0, 3) : kT) ∈ ks := (hV _).mpr (by decide : 3 ≤ 3)
  show pv_V D κ 0 0 LP (cF γ ks ρ z x f0) 0 [(0, .ref (ρ (0, 0))), (1, .int a), (2, .int p)] []
  refine pv_aload_n C d_S_accept_0 rfl 0 rfl ?_
  refine pv_iload_n C d_S_accept_1 rfl 1 rfl ?_
  refine pv_callV (n := 1) (As := [.int a]) (rest := []) C (c_S_announcementOf hl0 J a) cd_S_announcementOf ml_S_44 in_S im_S_announcementOf se_S_announcementOf (H.1 _ M0) ((kf_at H M0).trans rfl) rfl rfl (by decide +kernel) (by decide) rfl (Nat.le_of_ble_eq_true rfl) rfl d_S_accept_2 (by decide) hN R0 (fun E h => ⟨by rw [h.1]; exact cT_any 0 1 rfl rfl (by unfold m_accept; rw [if_neg (nT h.2)]; first | exact Or.inl rfl | exact Or.inr rfl), rfl, rfl⟩) (fun v9 LP9 f9 h9 => ?_)
  obtain ⟨⟨rfl, w9, w8⟩, h1⟩ := h9
  have w9 := w9.symm
  have w8 := w8.symm
  subst w9
  subst w8
  have hA := isA_ix hz h1
  have MA : ((1, ix a) : kT) ∈ ks := (hV _).mpr ⟨hA.2.1, hA.2.2.1⟩
  have ML : ((2, ix a) : kT) ∈ ks := (hV _).mpr ⟨hA.2.1, hA.2.2.1⟩
  refine pv_stf (f2 := (kf ks ρ (cz γ ρ z x) f0)) (st2 := [.ref (ρ (1, ix a))]) (c2 := 1) (s2 := 6) rfl rfl rfl rfl ?_
  refine pv_astore_n (lv' := [(3, .ref (ρ (1, ix a))), (0, .ref (ρ (0, 0))), (1, .int a), (2, .int p)]) C d_S_accept_5 rfl (by decide) rfl ?_
  refine pv_iload_n C d_S_accept_6 rfl 3 rfl ?_
  refine pv_iconst (v := 0) C d_S_accept_7 (by decide) ?_
  refine pv_bipush (v := 7) C d_S_accept_8 (by decide) ?_
  refine pv_callS (n := 3) (As := [.int p, .int 0, .int 7]) (rest := []) C (c_S_mustBeWithin hl0 p 0 7) cd_S_mustBeWithin ml_S_27 in_S sm_S_mustBeWithin (by decide +kernel) (by decide) rfl (Nat.le_of_ble_eq_true rfl) rfl d_S_accept_10 (by decide) hN R0 (fun E h => ⟨by rw [h.1]; exact cT_any 1 2 rfl rfl (by unfold m_accept; rw [if_pos h1, if_neg (nT (show isP p = false from h.2))]; first | exact Or.inl rfl | exact Or.inr rfl), rfl, rfl⟩) (fun v9 LP9 f9 h9 => ?_)
  obtain ⟨⟨rfl, w9, w8⟩, h2⟩ := h9
  have w9 := w9.symm
  have w8 := w8.symm
  subst w9
  subst w8
  have hP0 : isP p = true := h2
  have hP := isP_ix hP0
  refine pv_stf (f2 := (kf ks ρ (cz γ ρ z x) f0)) (st2 := []) (c2 := 2) (s2 := 12) rfl rfl rfl rfl ?_
  refine pv_aload_n C d_S_accept_13 rfl 0 rfl ?_
  refine pv_get (v := .int (z 7 (ix a))) (ci := 0) C hin_A rfl (H.1 _ MA) ((kf_at H MA).trans rfl) 5 (by decide) fl_S_48 rfl rfl d_S_accept_14 ?_
  refine pv_iconst (v := 2) C d_S_accept_17 (by decide) ?_
  refine pv_icmp_ne (tgt := 33) C d_S_accept_18 (by decide) (fun h3 => ?_) (fun h3 => ?_)
  · refine pv_iconst (v := 0) C d_S_accept_33 (by decide) ?_
    refine pv_callS (n := 1) (As := [.int 0]) (rest := []) C (c_S_mustHold hl0 false) cd_S_mustHold ml_S_55 in_S sm_S_mustHold (by decide +kernel) (by decide) rfl (Nat.le_of_ble_eq_true rfl) rfl d_S_accept_34 (by decide) hN R0 (fun E h => ⟨by rw [h.1]; exact cT_any 2 3 rfl rfl (by unfold m_accept; rw [if_pos h1, if_pos (show isP p = true from h2), if_neg h3]; first | exact Or.inl rfl | exact Or.inr rfl), rfl, rfl⟩) (fun v9 LP9 f9 h9 => ?_)
    obtain ⟨⟨rfl, w9, w8⟩, h4⟩ := h9
    have w9 := w9.symm
    have w8 := w8.symm
    subst w9
    subst w8
    exact absurd h4 (by decide)
  · refine pv_aload_n C d_S_accept_21 rfl 1 rfl ?_
    refine pv_iload_n C d_S_accept_22 rfl 3 rfl ?_
    refine pv_callV (n := 1) (As := [.int p]) (rest := []) C (c_S_hasRight hl0 J p hP0) cd_S_hasRight ml_S_70 in_S im_S_hasRight se_S_hasRight (H.1 _ M0) ((kf_at H M0).trans rfl) rfl rfl (by decide +kernel) (by decide) rfl (Nat.le_of_ble_eq_true rfl) rfl d_S_accept_23 (by decide) hN R0 (fun _ h => h.elim) (fun v9 LP9 f9 h9 => ?_)
    obtain ⟨rfl, w9, w8⟩ := h9
    have w9 := w9.symm
    have w8 := w8.symm
    subst w9
    subst w8
    refine pv_stf (f2 := (kf ks ρ (cz γ ρ z x) f0)) (st2 := [.int (bN (!decide (z 2 (ix p) = 0)))]) (c2 := 2) (s2 := 12) rfl rfl rfl rfl ?_
    refine pv_ifb_eq (tgt := 33) C d_S_accept_26 (by decide) (fun h5 => ?_) (fun h5 => ?_)
    · refine pv_iconst (v := 0) C d_S_accept_33 (by decide) ?_
      refine pv_callS (n := 1) (As := [.int 0]) (rest := []) C (c_S_mustHold hl0 false) cd_S_mustHold ml_S_55 in_S sm_S_mustHold (by decide +kernel) (by decide) rfl (Nat.le_of_ble_eq_true rfl) rfl d_S_accept_34 (by decide) hN R0 (fun E h => ⟨by rw [h.1]; exact cT_any 2 3 rfl rfl (by unfold m_accept; rw [if_pos h1, if_pos (show isP p = true from h2), if_pos h3, if_pos (nd_f h5)]; first | exact Or.inl rfl | exact Or.inr rfl), rfl, rfl⟩) (fun v9 LP9 f9 h9 => ?_)
      obtain ⟨⟨rfl, w9, w8⟩, h6⟩ := h9
      have w9 := w9.symm
      have w8 := w8.symm
      subst w9
      subst w8
      exact absurd h6 (by decide)
    · refine pv_iconst (v := 1) C d_S_accept_29 (by decide) ?_
      refine pv_goto (tgt := 34) C d_S_accept_30 (by decide) ?_
      refine pv_callS (n := 1) (As := [.int 1]) (rest := []) C (c_S_mustHold hl0 true) cd_S_mustHold ml_S_55 in_S sm_S_mustHold (by decide +kernel) (by decide) rfl (Nat.le_of_ble_eq_true rfl) rfl d_S_accept_34 (by decide) hN R0 (fun E h => absurd h.2 (by decide)) (fun v9 LP9 f9 h9 => ?_)
      obtain ⟨⟨rfl, w9, w8⟩, h7⟩ := h9
      have w9 := w9.symm
      have w8 := w8.symm
      subst w9
      subst w8
      refine pv_stf (f2 := (kf ks ρ (cz γ ρ z x) f0)) (st2 := []) (c2 := 3) (s2 := 18) rfl rfl rfl rfl ?_
      refine pv_aload_n C d_S_accept_37 rfl 0 rfl ?_
      refine pv_iconst (v := 1) C d_S_accept_38 (by decide) ?_
      refine pk_put (ci := 0) C H hin_A tyA tyA_ok nmA rfl MA rfl 5 (by decide) fl_S_48 rfl rfl rfl rfl (Nat.le_of_ble_eq_true rfl) d_S_accept_39 ?_
      refine pk_fz (f2 := kf ks ρ (ku (cz γ ρ z x) (1, ix a) (.inr (0, [.int (nI (ix a)), .int (z 4 (ix a)), .int (z 5 (ix a)), .ref (ρ (2, ix a)), .int (z 6 (ix a)), .int 1, .int (z 8 (ix a))]))) f0) rfl ?_
      obtain ⟨z1, e1⟩ : ∃ q : zT, q = (zs (zs (zs z 0 0 0) 0 0 0) 7 (ix a) 1) := ⟨_, rfl⟩
      obtain ⟨x1, y1⟩ : ∃ q : xT, q = x := ⟨_, rfl⟩
      have J1 : cI LP ks ρ z1 x1 := by
        rw [e1, y1]
        exact ⟨H, hV, hz, hJ.1, hJ.2.1, hJ.2.2.1, hJ.2.2.2.1, hJ.2.2.2.2.1, hJ.2.2.2.2.2.1, (show zF (zs (zs (zs z 0 0 0) 0 0 0) 7 (ix a) 1) from zF_st hA.2.2.1 (by decide) hJ.2.2.2.2.2.2)⟩
      have g1 : ∀ k7 ∈ ks, (ku (cz γ ρ z x) (1, ix a) (.inr (0, [.int (nI (ix a)), .int (z 4 (ix a)), .int (z 5 (ix a)), .ref (ρ (2, ix a)), .int (z 6 (ix a)), .int 1, .int (z 8 (ix a))]))) k7 = cz γ ρ z1 x1 k7 := by
        intro k7 hk
        rw [e1, y1]
        by_cases q0 : k7 = ((1, ix a) : kT)
        · subst q0
          simp [ku, cz, cA, zs, zl, upd]
        rw [ku_ne _ _ q0]
        exact (((cz_ann (by decide) q0).trans ((cz_non (by decide)).trans (cz_non (by decide))))).symm
      refine pk_fz (f2 := cF γ ks ρ z1 x1 f0) (kf_eq g1) ?_
      exact pv_vret C R0 d_S_accept_42 (by decide) (by decide) (cP_rv J1 (by subst e1; rfl) rfl (fun _ q => q) (fun k hk => Or.inl ⟨k, hk, rfl⟩) (by rw [e1]; unfold m_accept; rw [if_pos h1, if_pos (show isP p = true from h2), if_pos h3, if_neg (nd_t h5)]))
abbrev rm_S_tolerance : Room := { frames := 8, cells := 4, slots := 24, locals := 136 }
set_option maxRecDepth 100000 in
set_option maxHeartbeats 4000000 in
theorem c_S_tolerance {l0 : Launch} {D : va_G} {γ : Nat → ClassId} (hl0 : l0.stackTraces = false) {LP : List Nat} {ks : List kT} {ρ : kT → Nat} {z : zT} {x : xT} {f0 : Nat → va_E} (J : cI LP ks ρ z x) (a : Int32) (n : Int32) (d : Int32)  : pv_M l0 D (tys_ γ) y_S_tolerance (Cond.code y_S_tolerance b_S_tolerance 5 (Option.none : Option FieldType)) rm_S_tolerance [.ref (ρ (0, 0)), .int a, .int n, .int d] LP (cF γ ks ρ z x f0) (cPost γ LP ks ρ f0 none (m_tolerance z a n d)) (cThr [eNS, eIA, eIS] z (m_tolerance z a n d)) := by
  refine pv_mk hl0 (by decide) (Nat.le_of_ble_eq_true rfl) (fun κ C R0 hN _ => ?_)
  obtain ⟨H, hV, hz, hJ⟩ := id J
  have M0 : ((0, 0) : kT) ∈ ks := (hV _).mpr (Nat.zero_le _)
  have M1 : ((0, 1) : kT) ∈ ks := (hV _).mpr (by decide : 1 ≤ 3)
  have M2 : ((0, 2) : kT) ∈ ks := (hV _).mpr (by decide : 2 ≤ 3)
  have M3 : ((0, 3) : kT) ∈ ks := (hV _).mpr (by decide : 3 ≤ 3)
  show pv_V D κ 0 0 LP (cF γ ks ρ z x f0) 0 [(0, .ref (ρ (0, 0))), (1, .int a), (2, .int n), (3, .int d)] []
  refine pv_aload_n C d_S_tolerance_0 rfl 0 rfl ?_
  refine pv_iload_n C d_S_tolerance_1 rfl 1 rfl ?_
  refine pv_iload_n C d_S_tolerance_2 rfl 2 rfl ?_
  refine pv_callV (n := 2) (As := [.int a, .int n]) (rest := []) C (c_S_lineOf hl0 J a n) cd_S_lineOf ml_S_80 in_S im_S_lineOf se_S_lineOf (H.1 _ M0) ((kf_at H M0).trans rfl) rfl rfl (by decide +kernel) (by decide) rfl (Nat.le_of_ble_eq_true rfl) rfl d_S_tolerance_3 (by decide) hN R0 (fun E h => ⟨by rw [h.1]; exact cT_any 0 1 rfl rfl (by unfold m_tolerance; rw [if_neg (nT h.2)]; first | exact Or.inl rfl | exact Or.inr rfl), rfl, rfl⟩) (fun v9 LP9 f9 h9 => ?_)
  obtain ⟨⟨rfl, w9, w8⟩, h1⟩ := h9
  have w9 := w9.symm
  have w8 := w8.symm
  subst w9
  subst w8
  have hL := isL_ix hz h1
  have hvN : vK z (3, 4 * ix a + ix n) := vK_line hL.1.2.1 hL.1.2.2.1 hL.2.2.1 hL.2.2.2
  have MN : ((3, 4 * ix a + ix n) : kT) ∈ ks := (hV _).mpr hvN
  refine pv_stf (f2 := (kf ks ρ (cz γ ρ z x) f0)) (st2 := [.ref (ρ (3, 4 * ix a + ix n))]) (c2 := 2) (s2 := 12) rfl rfl rfl rfl ?_
  refine pv_astore (lv' := [(4, .ref (ρ (3, 4 * ix a + ix n))), (0, .ref (ρ (0, 0))), (1, .int a), (2, .int n), (3, .int d)]) C d_S_tolerance_6 (by decide) rfl ?_
  refine pv_iload_n C d_S_tolerance_8 rfl 4 rfl ?_
  refine pv_iconst (v := 0) C d_S_tolerance_9 (by decide) ?_
  refine pv_bipush (v := 50) C d_S_tolerance_10 (by decide) ?_
  refine pv_callS (n := 3) (As := [.int d, .int 0, .int 50]) (rest := []) C (c_S_mustBeWithin hl0 d 0 50) cd_S_mustBeWithin ml_S_27 in_S sm_S_mustBeWithin (by decide +kernel) (by decide) rfl (Nat.le_of_ble_eq_true rfl) rfl d_S_tolerance_12 (by decide) hN R0 (fun E h => ⟨by rw [h.1]; exact cT_any 1 2 rfl rfl (by unfold m_tolerance; rw [if_pos h1, if_neg (nT h.2)]; first | exact Or.inl rfl | exact Or.inr rfl), rfl, rfl⟩) (fun v9 LP9 f9 h9 => ?_)
  obtain ⟨⟨rfl, w9, w8⟩, h2⟩ := h9
  have w9 := w9.symm
  have w8 := w8.symm
  subst w9
  subst w8
  refine pv_stf (f2 := (kf ks ρ (cz γ ρ z x) f0)) (st2 := []) (c2 := 3) (s2 := 18) rfl rfl rfl rfl ?_
  refine pv_aload C d_S_tolerance_15 0 rfl ?_
  refine pv_get (v := .int (z 16 (4 * ix a + ix n))) (ci := 1) C hin_N rfl (H.1 _ MN) ((kf_at H MN).trans rfl) 10 (by decide) fl_S_84 rfl rfl d_S_tolerance_17 ?_
  refine pv_if_ne (tgt := 27) C d_S_tolerance_20 (by decide) (fun h3 => ?_) (fun h3 => ?_)
  · refine pv_iconst (v := 0) C d_S_tolerance_27 (by decide) ?_
    refine pv_callS (n := 1) (As := [.int 0]) (rest := []) C (c_S_mustHold hl0 false) cd_S_mustHold ml_S_55 in_S sm_S_mustHold (by decide +kernel) (by decide) rfl (Nat.le_of_ble_eq_true rfl) rfl d_S_tolerance_28 (by decide) hN R0 (fun E h => ⟨by rw [h.1]; exact cT_any 2 3 rfl rfl (by unfold m_tolerance; rw [if_pos h1, if_pos h2, if_neg h3]; first | exact Or.inl rfl | exact Or.inr rfl), rfl, rfl⟩) (fun v9 LP9 f9 h9 => ?_)
    obtain ⟨⟨rfl, w9, w8⟩, h4⟩ := h9
    have w9 := w9.symm
    have w8 := w8.symm
    subst w9
    subst w8
    exact absurd h4 (by decide)
  · refine pv_iconst (v := 1) C d_S_tolerance_23 (by decide) ?_
    refine pv_goto (tgt := 28) C d_S_tolerance_24 (by decide) ?_
    refine pv_callS (n := 1) (As := [.int 1]) (rest := []) C (c_S_mustHold hl0 true) cd_S_mustHold ml_S_55 in_S sm_S_mustHold (by decide +kernel) (by decide) rfl (Nat.le_of_ble_eq_true rfl) rfl d_S_tolerance_28 (by decide) hN R0 (fun E h => absurd h.2 (by decide)) (fun v9 LP9 f9 h9 => ?_)
    obtain ⟨⟨rfl, w9, w8⟩, h5⟩ := h9
    have w9 := w9.symm
    have w8 := w8.symm
    subst w9
    subst w8
    refine pv_stf (f2 := (kf ks ρ (cz γ ρ z x) f0)) (st2 := []) (c2 := 4) (s2 := 24) rfl rfl rfl rfl ?_
    refine pv_aload C d_S_tolerance_31 0 rfl ?_
    refine pv_iload_n C d_S_tolerance_33 rfl 4 rfl ?_
    refine pk_put (ci := 1) C H hin_N tyN tyN_ok nmN rfl MN rfl 4 (by decide) fl_S_88 rfl rfl rfl rfl (Nat.le_of_ble_eq_true rfl) d_S_tolerance_34 ?_
    refine pk_fz (f2 := kf ks ρ (ku (cz γ ρ z x) (3, 4 * ix a + ix n) (.inr (1, [.ref (ρ (1, (4 * ix a + ix n) / 4)), .int (nI ((4 * ix a + ix n) % 4)), .int (z 9 (4 * ix a + ix n)), .int (z 10 (4 * ix a + ix n)), .int d, .int (z 13 (4 * ix a + ix n)), .int (z 14 (4 * ix a + ix n)), .int (z 12 (4 * ix a + ix n)), .int (x.2.1 (4 * ix a + ix n)), .int (z 15 (4 * ix a + ix n)), .int (z 16 (4 * ix a + ix n))]))) f0) rfl ?_
    obtain ⟨z1, e1⟩ : ∃ q : zT, q = (zs (zs (zs z 0 0 0) 0 0 0) 11 (4 * ix a + ix n) d) := ⟨_, rfl⟩
    obtain ⟨x1, y1⟩ : ∃ q : xT, q = x := ⟨_, rfl⟩
    have J1 : cI LP ks ρ z1 x1 := by
      rw [e1, y1]
      exact ⟨H, hV, hz, hJ.1, hJ.2.1, hJ.2.2.1, hJ.2.2.2.1, hJ.2.2.2.2.1, hJ.2.2.2.2.2.1, (show zF (zs (zs (zs z 0 0 0) 0 0 0) 11 (4 * ix a + ix n) d) from zF_line (by decide) (by decide) hvN hJ.2.2.2.2.2.2)⟩
    have g1 : ∀ k7 ∈ ks, (ku (cz γ ρ z x) (3, 4 * ix a + ix n) (.inr (1, [.ref (ρ (1, (4 * ix a + ix n) / 4)), .int (nI ((4 * ix a + ix n) % 4)), .int (z 9 (4 * ix a + ix n)), .int (z 10 (4 * ix a + ix n)), .int d, .int (z 13 (4 * ix a + ix n)), .int (z 14 (4 * ix a + ix n)), .int (z 12 (4 * ix a + ix n)), .int (x.2.1 (4 * ix a + ix n)), .int (z 15 (4 * ix a + ix n)), .int (z 16 (4 * ix a + ix n))]))) k7 = cz γ ρ z1 x1 k7 := by
      intro k7 hk
      rw [e1, y1]
      by_cases q0 : k7 = ((3, 4 * ix a + ix n) : kT)
      · subst q0
        simp [ku, cz, cN, zs, zl, upd]
      rw [ku_ne _ _ q0]
      exact (((cz_line (by decide) (by decide) q0).trans ((cz_non (by decide)).trans (cz_non (by decide))))).symm
    refine pk_fz (f2 := cF γ ks ρ z1 x1 f0) (kf_eq g1) ?_
    exact pv_vret C R0 d_S_tolerance_37 (by decide) (by decide) (cP_rv J1 (by subst e1; rfl) rfl (fun _ q => q) (fun k hk => Or.inl ⟨k, hk, rfl⟩) (by rw [e1]; unfold m_tolerance; rw [if_pos h1, if_pos h2, if_pos h3]))
abbrev rm_S_wanted : Room := { frames := 8, cells := 4, slots := 24, locals := 136 }
set_option maxRecDepth 100000 in
set_option maxHeartbeats 4000000 in
theorem c_S_wanted {l0 : Launch} {D : va_G} {γ : Nat → ClassId} (hl0 : l0.stackTraces = false) {LP : List Nat} {ks : List kT} {ρ : kT → Nat} {z : zT} {x : xT} {f0 : Nat → va_E} (J : cI LP ks ρ z x) (a : Int32) (n : Int32) (d : Int32)  : pv_M l0 D (tys_ γ) y_S_wanted (Cond.code y_S_wanted b_S_wanted 5 (Option.none : Option FieldType)) rm_S_wanted [.ref (ρ (0, 0)), .int a, .int n, .int d] LP (cF γ ks ρ z x f0) (cPost γ LP ks ρ f0 none (m_wanted z a n d)) (cThr [eNS, eIA, eIS] z (m_wanted z a n d)) := by
  refine pv_mk hl0 (by decide) (Nat.le_of_ble_eq_true rfl) (fun κ C R0 hN _ => ?_)
  obtain ⟨H, hV, hz, hJ⟩ := id J
  have M0 : ((0, 0) : kT) ∈ ks := (hV _).mpr (Nat.zero_le _)
  have M1 : ((0, 1) : kT) ∈ ks := (hV _).mpr (by decide : 1 ≤ 3)
  have M2 : ((0, 2) : kT) ∈ ks := (hV _).mpr (by decide : 2 ≤ 3)
  have M3 : ((0, 3) : kT) ∈ ks := (hV _).mpr (by decide : 3 ≤ 3)
  show pv_V D κ 0 0 LP (cF γ ks ρ z x f0) 0 [(0, .ref (ρ (0, 0))), (1, .int a), (2, .int n), (3, .int d)] []
  refine pv_aload_n C d_S_wanted_0 rfl 0 rfl ?_
  refine pv_iload_n C d_S_wanted_1 rfl 1 rfl ?_
  refine pv_iload_n C d_S_wanted_2 rfl 2 rfl ?_
  refine pv_callV (n := 2) (As := [.int a, .int n]) (rest := []) C (c_S_lineOf hl0 J a n) cd_S_lineOf ml_S_80 in_S im_S_lineOf se_S_lineOf (H.1 _ M0) ((kf_at H M0).trans rfl) rfl rfl (by decide +kernel) (by decide) rfl (Nat.le_of_ble_eq_true rfl) rfl d_S_wanted_3 (by decide) hN R0 (fun E h => ⟨by rw [h.1]; exact cT_any 0 1 rfl rfl (by unfold m_wanted; rw [if_neg (nT h.2)]; first | exact Or.inl rfl | exact Or.inr rfl), rfl, rfl⟩) (fun v9 LP9 f9 h9 => ?_)
  obtain ⟨⟨rfl, w9, w8⟩, h1⟩ := h9
  have w9 := w9.symm
  have w8 := w8.symm
  subst w9
  subst w8
  have hL := isL_ix hz h1
  have hvN : vK z (3, 4 * ix a + ix n) := vK_line hL.1.2.1 hL.1.2.2.1 hL.2.2.1 hL.2.2.2
  have MN : ((3, 4 * ix a + ix n) : kT) ∈ ks := (hV _).mpr hvN
  refine pv_stf (f2 := (kf ks ρ (cz γ ρ z x) f0)) (st2 := [.ref (ρ (3, 4 * ix a + ix n))]) (c2 := 2) (s2 := 12) rfl rfl rfl rfl ?_
  refine pv_astore (lv' := [(4, .ref (ρ (3, 4 * ix a + ix n))), (0, .ref (ρ (0, 0))), (1, .int a), (2, .int n), (3, .int d)]) C d_S_wanted_6 (by decide) rfl ?_
  refine pv_iload_n C d_S_wanted_8 rfl 4 rfl ?_
  refine pv_iconst (v := 0) C d_S_wanted_9 (by decide) ?_
  refine pv_iconst (v := 5) C d_S_wanted_10 (by decide) ?_
  refine pv_callS (n := 3) (As := [.int d, .int 0, .int 5]) (rest := []) C (c_S_mustBeWithin hl0 d 0 5) cd_S_mustBeWithin ml_S_27 in_S sm_S_mustBeWithin (by decide +kernel) (by decide) rfl (Nat.le_of_ble_eq_true rfl) rfl d_S_wanted_11 (by decide) hN R0 (fun E h => ⟨by rw [h.1]; exact cT_any 1 2 rfl rfl (by unfold m_wanted; rw [if_pos h1, if_neg (nT h.2)]; first | exact Or.inl rfl | exact Or.inr rfl), rfl, rfl⟩) (fun v9 LP9 f9 h9 => ?_)
  obtain ⟨⟨rfl, w9, w8⟩, h2⟩ := h9
  have w9 := w9.symm
  have w8 := w8.symm
  subst w9
  subst w8
  refine pv_stf (f2 := (kf ks ρ (cz γ ρ z x) f0)) (st2 := []) (c2 := 3) (s2 := 18) rfl rfl rfl rfl ?_
  refine pv_aload C d_S_wanted_14 0 rfl ?_
  refine pv_get (v := .int (z 16 (4 * ix a + ix n))) (ci := 1) C hin_N rfl (H.1 _ MN) ((kf_at H MN).trans rfl) 10 (by decide) fl_S_84 rfl rfl d_S_wanted_16 ?_
  refine pv_if_ne (tgt := 26) C d_S_wanted_19 (by decide) (fun h3 => ?_) (fun h3 => ?_)
  · refine pv_iconst (v := 0) C d_S_wanted_26 (by decide) ?_
    refine pv_callS (n := 1) (As := [.int 0]) (rest := []) C (c_S_mustHold hl0 false) cd_S_mustHold ml_S_55 in_S sm_S_mustHold (by decide +kernel) (by decide) rfl (Nat.le_of_ble_eq_true rfl) rfl d_S_wanted_27 (by decide) hN R0 (fun E h => ⟨by rw [h.1]; exact cT_any 2 3 rfl rfl (by unfold m_wanted; rw [if_pos h1, if_pos h2, if_neg h3]; first | exact Or.inl rfl | exact Or.inr rfl), rfl, rfl⟩) (fun v9 LP9 f9 h9 => ?_)
    obtain ⟨⟨rfl, w9, w8⟩, h4⟩ := h9
    have w9 := w9.symm
    have w8 := w8.symm
    subst w9
    subst w8
    exact absurd h4 (by decide)
  · refine pv_iconst (v := 1) C d_S_wanted_22 (by decide) ?_
    refine pv_goto (tgt := 27) C d_S_wanted_23 (by decide) ?_
    refine pv_callS (n := 1) (As := [.int 1]) (rest := []) C (c_S_mustHold hl0 true) cd_S_mustHold ml_S_55 in_S sm_S_mustHold (by decide +kernel) (by decide) rfl (Nat.le_of_ble_eq_true rfl) rfl d_S_wanted_27 (by decide) hN R0 (fun E h => absurd h.2 (by decide)) (fun v9 LP9 f9 h9 => ?_)
    obtain ⟨⟨rfl, w9, w8⟩, h5⟩ := h9
    have w9 := w9.symm
    have w8 := w8.symm
    subst w9
    subst w8
    refine pv_stf (f2 := (kf ks ρ (cz γ ρ z x) f0)) (st2 := []) (c2 := 4) (s2 := 24) rfl rfl rfl rfl ?_
    refine pv_aload C d_S_wanted_30 0 rfl ?_
    refine pv_iload_n C d_S_wanted_32 rfl 4 rfl ?_
    refine pk_put (ci := 1) C H hin_N tyN tyN_ok nmN rfl MN rfl 5 (by decide) fl_S_91 rfl rfl rfl rfl (Nat.le_of_ble_eq_true rfl) d_S_wanted_33 ?_
    refine pk_fz (f2 := kf ks ρ (ku (cz γ ρ z x) (3, 4 * ix a + ix n) (.inr (1, [.ref (ρ (1, (4 * ix a + ix n) / 4)), .int (nI ((4 * ix a + ix n) % 4)), .int (z 9 (4 * ix a + ix n)), .int (z 10 (4 * ix a + ix n)), .int (z 11 (4 * ix a + ix n)), .int d, .int (z 14 (4 * ix a + ix n)), .int (z 12 (4 * ix a + ix n)), .int (x.2.1 (4 * ix a + ix n)), .int (z 15 (4 * ix a + ix n)), .int (z 16 (4 * ix a + ix n))]))) f0) rfl ?_
    obtain ⟨z1, e1⟩ : ∃ q : zT, q = (zs (zs (zs z 0 0 0) 0 0 0) 13 (4 * ix a + ix n) d) := ⟨_, rfl⟩
    obtain ⟨x1, y1⟩ : ∃ q : xT, q = x := ⟨_, rfl⟩
    have J1 : cI LP ks ρ z1 x1 := by
      rw [e1, y1]
      exact ⟨H, hV, hz, hJ.1, hJ.2.1, hJ.2.2.1, hJ.2.2.2.1, hJ.2.2.2.2.1, wn_set h2 hJ.2.2.2.2.2.1, (show zF (zs (zs (zs z 0 0 0) 0 0 0) 13 (4 * ix a + ix n) d) from zF_line (by decide) (by decide) hvN hJ.2.2.2.2.2.2)⟩
    have g1 : ∀ k7 ∈ ks, (ku (cz γ ρ z x) (3, 4 * ix a + ix n) (.inr (1, [.ref (ρ (1, (4 * ix a + ix n) / 4)), .int (nI ((4 * ix a + ix n) % 4)), .int (z 9 (4 * ix a + ix n)), .int (z 10 (4 * ix a + ix n)), .int (z 11 (4 * ix a + ix n)), .int d, .int (z 14 (4 * ix a + ix n)), .int (z 12 (4 * ix a + ix n)), .int (x.2.1 (4 * ix a + ix n)), .int (z 15 (4 * ix a + ix n)), .int (z 16 (4 * ix a + ix n))]))) k7 = cz γ ρ z1 x1 k7 := by
      intro k7 hk
      rw [e1, y1]
      by_cases q0 : k7 = ((3, 4 * ix a + ix n) : kT)
      · subst q0
        simp [ku, cz, cN, zs, zl, upd]
      rw [ku_ne _ _ q0]
      exact (((cz_line (by decide) (by decide) q0).trans ((cz_non (by decide)).trans (cz_non (by decide))))).symm
    refine pk_fz (f2 := cF γ ks ρ z1 x1 f0) (kf_eq g1) ?_
    exact pv_vret C R0 d_S_wanted_36 (by decide) (by decide) (cP_rv J1 (by subst e1; rfl) rfl (fun _ q => q) (fun k hk => Or.inl ⟨k, hk, rfl⟩) (by rw [e1]; unfold m_wanted; rw [if_pos h1, if_pos h2, if_pos h3]))
abbrev rm_S_again : Room := { frames := 7, cells := 2, slots := 12, locals := 112 }
set_option maxRecDepth 100000 in
set_option maxHeartbeats 4000000 in
theorem c_S_again {l0 : Launch} {D : va_G} {γ : Nat → ClassId} (hl0 : l0.stackTraces = false) {LP : List Nat} {ks : List kT} {ρ : kT → Nat} {z : zT} {x : xT} {f0 : Nat → va_E} (J : cI LP ks ρ z x) (u : Int32)  : pv_M l0 D (tys_ γ) y_S_again (Cond.code y_S_again b_S_again 3 (Option.some FieldType.int)) rm_S_again [.ref (ρ (0, 0)), .int u] LP (cF γ ks ρ z x f0) (cPost γ LP ks ρ f0 (some (.int (m_again z u).1)) (m_again z u).2) (cThr [eNS, eIS] z ((m_again z u).2)) := by
  refine pv_mk hl0 (by decide) (Nat.le_of_ble_eq_true rfl) (fun κ C R0 hN _ => ?_)
  obtain ⟨H, hV, hz, hJ⟩ := id J
  have M0 : ((0, 0) : kT) ∈ ks := (hV _).mpr (Nat.zero_le _)
  have M1 : ((0, 1) : kT) ∈ ks := (hV _).mpr (by decide : 1 ≤ 3)
  have M2 : ((0, 2) : kT) ∈ ks := (hV _).mpr (by decide : 2 ≤ 3)
  have M3 : ((0, 3) : kT) ∈ ks := (hV _).mpr (by decide : 3 ≤ 3)
  show pv_V D κ 0 0 LP (cF γ ks ρ z x f0) 0 [(0, .ref (ρ (0, 0))), (1, .int u)] []
  refine pv_aload_n C d_S_again_0 rfl 0 rfl ?_
  refine pv_iload_n C d_S_again_1 rfl 1 rfl ?_
  refine pv_callV (n := 1) (As := [.int u]) (rest := []) C (c_S_unitOf hl0 J u) cd_S_unitOf ml_S_113 in_S im_S_unitOf se_S_unitOf (H.1 _ M0) ((kf_at H M0).trans rfl) rfl rfl (by decide +kernel) (by decide) rfl (Nat.le_of_ble_eq_true rfl) rfl d_S_again_2 (by decide) hN R0 (fun E h => ⟨by rw [h.1]; exact cT_any 0 1 rfl rfl (by unfold m_again; rw [if_neg (nT h.2)]; first | exact Or.inl rfl | exact Or.inr rfl), rfl, rfl⟩) (fun v9 LP9 f9 h9 => ?_)
  obtain ⟨⟨rfl, w9, w8⟩, h1⟩ := h9
  have w9 := w9.symm
  have w8 := w8.symm
  subst w9
  subst w8
  have hU := isU_ix hz h1
  have hu2 : 1 ≤ ix u ∧ ix u ≤ zU z := ⟨hU.2.1, hU.2.2.1⟩
  have hlu := hz.2.2.2.2.1 (ix u) hU.2.1 hU.2.2.1
  have hvl := hJ.1 (ix u) hU.2.1 hU.2.2.1
  have MU : ((4, ix u) : kT) ∈ ks := (hV _).mpr hu2
  have MN : ((3, zl z (ix u)) : kT) ∈ ks := (hV _).mpr hvl
  have MA : ((1, zl z (ix u) / 4) : kT) ∈ ks := (hV _).mpr ⟨hvl.1, hvl.2.1⟩
  have hs := hJ.2.2.2.2.1 (ix u) hU.2.1 hU.2.2.1
  refine pv_stf (f2 := (kf ks ρ (cz γ ρ z x) f0)) (st2 := [.ref (ρ (4, ix u))]) (c2 := 1) (s2 := 6) rfl rfl rfl rfl ?_
  refine pv_astore_n (lv' := [(2, .ref (ρ (4, ix u))), (0, .ref (ρ (0, 0))), (1, .int u)]) C d_S_again_5 rfl (by decide) rfl ?_
  refine pv_aload_n C d_S_again_6 rfl 0 rfl ?_
  refine pv_callV (n := 0) (As := []) (rest := []) C (c_U_hasLabel hl0 J (ix u) hu2) cd_U_hasLabel ml_S_160 in_U im_U_hasLabel se_U_hasLabel (H.1 _ MU) ((kf_at H MU).trans rfl) rfl rfl (by decide +kernel) (by decide) rfl (Nat.le_of_ble_eq_true rfl) rfl d_S_again_7 (by decide) hN R0 (fun _ h => h.elim) (fun v9 LP9 f9 h9 => ?_)
  obtain ⟨rfl, w9, w8⟩ := h9
  have w9 := w9.symm
  have w8 := w8.symm
  subst w9
  subst w8
  refine pv_stf (f2 := (kf ks ρ (cz γ ρ z x) f0)) (st2 := [.int (bN (!decide (z 25 (ix u) = 0)))]) (c2 := 1) (s2 := 6) rfl rfl rfl rfl ?_
  refine pv_callS (n := 1) (As := [.int (bN (!decide (z 25 (ix u) = 0)))]) (rest := []) C (c_S_mustHold hl0 (!decide (z 25 (ix u) = 0))) cd_S_mustHold ml_S_55 in_S sm_S_mustHold (by decide +kernel) (by decide) rfl (Nat.le_of_ble_eq_true rfl) rfl d_S_again_10 (by decide) hN R0 (fun E h => ⟨by rw [h.1]; exact cT_any 1 2 rfl rfl (by unfold m_again; rw [if_pos h1, if_pos (nd_f h.2)]; first | exact Or.inl rfl | exact Or.inr rfl), rfl, rfl⟩) (fun v9 LP9 f9 h9 => ?_)
  obtain ⟨⟨rfl, w9, w8⟩, h2⟩ := h9
  have w9 := w9.symm
  have w8 := w8.symm
  subst w9
  subst w8
  refine pv_stf (f2 := (kf ks ρ (cz γ ρ z x) f0)) (st2 := []) (c2 := 2) (s2 := 12) rfl rfl rfl rfl ?_
  refine pv_aload_n C d_S_again_13 rfl 0 rfl ?_
  refine pv_dup C d_S_again_14 rfl ?_
  refine pv_get (v := .int (z 26 (ix u))) (ci := 2) C hin_U rfl (H.1 _ MU) ((kf_at H MU).trans rfl) 6 (by decide) fl_S_175 rfl rfl d_S_again_15 ?_
  refine pv_iconst (v := 1) C d_S_again_18 (by decide) ?_
  refine pv_iadd C d_S_again_19 ?_
  refine pk_put (ci := 2) C H hin_U tyU tyU_ok nmU rfl MU rfl 6 (by decide) fl_S_175 rfl rfl rfl rfl (Nat.le_of_ble_eq_true rfl) d_S_again_20 ?_
  refine pk_fz (f2 := kf ks ρ (ku (cz γ ρ z x) (4, ix u) (.inr (2, [.ref (ρ (3, zl z (ix u))), .int (z 21 (ix u)), .int (z 22 (ix u)), .int (z 23 (ix u)), .int (z 24 (ix u)), .int (z 25 (ix u)), .int ((z 26 (ix u)) + 1), .int (x.2.2 (ix u))]))) f0) rfl ?_
  refine pv_aload_n C d_S_again_23 rfl 0 rfl ?_
  refine pv_get (v := .int ((z 26 (ix u)) + 1)) (ci := 2) C hin_U rfl (H.1 _ MU) ((kf_at H MU).trans (ku_eq _ _ _)) 6 (by decide) fl_S_175 rfl rfl d_S_again_24 ?_
  obtain ⟨z1, e1⟩ : ∃ q : zT, q = (zs (zs (zs z 0 0 0) 0 0 0) 26 (ix u) ((z 26 (ix u)) + 1)) := ⟨_, rfl⟩
  obtain ⟨x1, y1⟩ : ∃ q : xT, q = x := ⟨_, rfl⟩
  have J1 : cI LP ks ρ z1 x1 := by
    rw [e1, y1]
    exact ⟨H, hV, hz, hJ.1, hJ.2.1, hJ.2.2.1, hJ.2.2.2.1, hJ.2.2.2.2.1, hJ.2.2.2.2.2.1, (show zF (zs (zs (zs z 0 0 0) 0 0 0) 26 (ix u) ((z 26 (ix u)) + 1)) from zF_unit (by decide) (by decide) hu2 hJ.2.2.2.2.2.2)⟩
  have g1 : ∀ k7 ∈ ks, (ku (cz γ ρ z x) (4, ix u) (.inr (2, [.ref (ρ (3, zl z (ix u))), .int (z 21 (ix u)), .int (z 22 (ix u)), .int (z 23 (ix u)), .int (z 24 (ix u)), .int (z 25 (ix u)), .int ((z 26 (ix u)) + 1), .int (x.2.2 (ix u))]))) k7 = cz γ ρ z1 x1 k7 := by
    intro k7 hk
    rw [e1, y1]
    by_cases q0 : k7 = ((4, ix u) : kT)
    · subst q0
      simp [ku, cz, cU, zs, zl, upd]
    rw [ku_ne _ _ q0]
    exact (((cz_unit (by decide) (by decide) q0 (vK_4 ((hV _).mp hk))).trans ((cz_non (by decide)).trans (cz_non (by decide))))).symm
  refine pk_fz (f2 := cF γ ks ρ z1 x1 f0) (kf_eq g1) ?_
  exact pv_iret C R0 d_S_again_27 (by decide) (by decide) (cP_re J1 (by subst e1; rfl) rfl (fun _ q => q) (fun k hk => Or.inl ⟨k, hk, rfl⟩) (by rw [e1]; unfold m_again; rw [if_pos h1, if_neg (nd_t h2)]))
def m_dig (x : Int32) : Int32 := ((10 - (((((((0 + (1 * (x - x / 10 * 10))) + (3 * ((x / 10) - (x / 10) / 10 * 10))) + (1 * (((x / 10) / 10) - ((x / 10) / 10) / 10 * 10))) + (3 * ((((x / 10) / 10) / 10) - (((x / 10) / 10) / 10) / 10 * 10))) + (1 * (((((x / 10) / 10) / 10) / 10) - ((((x / 10) / 10) / 10) / 10) / 10 * 10))) + (3 * ((((((x / 10) / 10) / 10) / 10) / 10) - (((((x / 10) / 10) / 10) / 10) / 10) / 10 * 10))) - ((((((0 + (1 * (x - x / 10 * 10))) + (3 * ((x / 10) - (x / 10) / 10 * 10))) + (1 * (((x / 10) / 10) - ((x / 10) / 10) / 10 * 10))) + (3 * ((((x / 10) / 10) / 10) - (((x / 10) / 10) / 10) / 10 * 10))) + (1 * (((((x / 10) / 10) / 10) / 10) - ((((x / 10) / 10) / 10) / 10) / 10 * 10))) + (3 * ((((((x / 10) / 10) / 10) / 10) / 10) - (((((x / 10) / 10) / 10) / 10) / 10) / 10 * 10))) / 10 * 10)) - (10 - (((((((0 + (1 * (x - x / 10 * 10))) + (3 * ((x / 10) - (x / 10) / 10 * 10))) + (1 * (((x / 10) / 10) - ((x / 10) / 10) / 10 * 10))) + (3 * ((((x / 10) / 10) / 10) - (((x / 10) / 10) / 10) / 10 * 10))) + (1 * (((((x / 10) / 10) / 10) / 10) - ((((x / 10) / 10) / 10) / 10) / 10 * 10))) + (3 * ((((((x / 10) / 10) / 10) / 10) / 10) - (((((x / 10) / 10) / 10) / 10) / 10) / 10 * 10))) - ((((((0 + (1 * (x - x / 10 * 10))) + (3 * ((x / 10) - (x / 10) / 10 * 10))) + (1 * (((x / 10) / 10) - ((x / 10) / 10) / 10 * 10))) + (3 * ((((x / 10) / 10) / 10) - (((x / 10) / 10) / 10) / 10 * 10))) + (1 * (((((x / 10) / 10) / 10) / 10) - ((((x / 10) / 10) / 10) / 10) / 10 * 10))) + (3 * ((((((x / 10) / 10) / 10) / 10) / 10) - (((((x / 10) / 10) / 10) / 10) / 10) / 10 * 10))) / 10 * 10)) / 10 * 10)
abbrev rm_S_checkDigit : Room := { frames := 0, cells := 0, slots := 0, locals := 0 }
set_option maxRecDepth 100000 in
set_option maxHeartbeats 4000000 in
theorem c_S_checkDigit {l0 : Launch} {D : va_G} {γ : Nat → ClassId} (hl0 : l0.stackTraces = false) {LP : List Nat} {f : Nat → va_E} (x : Int32)  : pv_M l0 D (tys_ γ) y_S_checkDigit (Cond.code y_S_checkDigit b_S_checkDigit 5 (Option.some FieldType.int)) rm_S_checkDigit [.int x] LP f (rdP LP f (some (.int (m_dig x)))) (fun _ => False) := by
  refine pv_mk hl0 (by decide) (Nat.le_of_ble_eq_true rfl) (fun κ C R0 hN _ => ?_)
  show pv_V D κ 0 0 LP f 0 [(0, .int x)] []
  refine pv_iconst (v := 0) C d_S_checkDigit_0 (by decide) ?_
  refine pv_istore_n (lv' := [(1, .int 0), (0, .int x)]) C d_S_checkDigit_1 rfl (by decide) rfl ?_
  refine pv_iconst (v := 1) C d_S_checkDigit_2 (by decide) ?_
  refine pv_istore_n (lv' := [(2, .int 1), (1, .int 0), (0, .int x)]) C d_S_checkDigit_3 rfl (by decide) rfl ?_
  refine pv_iload_n C d_S_checkDigit_4 rfl 2 rfl ?_
  refine pv_istore_n (lv' := [(3, .int x), (2, .int 1), (1, .int 0), (0, .int x)]) C d_S_checkDigit_5 rfl (by decide) rfl ?_
  refine pv_iconst (v := 0) C d_S_checkDigit_6 (by decide) ?_
  refine pv_istore (lv' := [(4, .int 0), (3, .int x), (2, .int 1), (1, .int 0), (0, .int x)]) C d_S_checkDigit_7 (by decide) rfl ?_
  refine pv_iload C d_S_checkDigit_9 0 rfl ?_
  refine pv_bipush (v := 6) C d_S_checkDigit_11 (by decide) ?_
  refine pv_icmp_ge (tgt := 40) C d_S_checkDigit_13 (by decide) (fun q => absurd q (by decide)) (fun _ => ?_)
  refine pv_iload_n C d_S_checkDigit_16 rfl 3 rfl ?_
  refine pv_iload_n C d_S_checkDigit_17 rfl 2 rfl ?_
  refine pv_iload_n C d_S_checkDigit_18 rfl 1 rfl ?_
  refine pv_bipush (v := 10) C d_S_checkDigit_19 (by decide) ?_
  refine pv_irem C d_S_checkDigit_21 (by decide) ?_
  refine pv_imul C d_S_checkDigit_22 ?_
  refine pv_iadd C d_S_checkDigit_23 ?_
  refine pv_istore_n (lv' := [(1, .int (0 + (1 * (x - x / 10 * 10)))), (4, .int 0), (3, .int x), (2, .int 1), (0, .int x)]) C d_S_checkDigit_24 rfl (by decide) rfl ?_
  refine pv_iload_n C d_S_checkDigit_25 rfl 2 rfl ?_
  refine pv_bipush (v := 10) C d_S_checkDigit_26 (by decide) ?_
  refine pv_idiv C d_S_checkDigit_28 (by decide) ?_
  refine pv_istore_n (lv' := [(3, .int (x / 10)), (1, .int (0 + (1 * (x - x / 10 * 10)))), (4, .int 0), (2, .int 1), (0, .int x)]) C d_S_checkDigit_29 rfl (by decide) rfl ?_
  refine pv_iconst (v := 4) C d_S_checkDigit_30 (by decide) ?_
  refine pv_iload_n C d_S_checkDigit_31 rfl 3 rfl ?_
  refine pv_isub C d_S_checkDigit_32 ?_
  refine pv_top (y := 3) (by decide) ?_
  refine pv_istore_n (lv' := [(2, .int 3), (3, .int (x / 10)), (1, .int (0 + (1 * (x - x / 10 * 10)))), (4, .int 0), (0, .int x)]) C d_S_checkDigit_33 rfl (by decide) rfl ?_
  refine pv_iinc (v := 1) (lv' := [(4, .int 1), (2, .int 3), (3, .int (x / 10)), (1, .int (0 + (1 * (x - x / 10 * 10)))), (0, .int x)]) C d_S_checkDigit_34 3 rfl (by decide) (by decide) rfl ?_
  refine pv_goto (tgt := 9) C d_S_checkDigit_37 (by decide) ?_
  refine pv_iload C d_S_checkDigit_9 0 rfl ?_
  refine pv_bipush (v := 6) C d_S_checkDigit_11 (by decide) ?_
  refine pv_icmp_ge (tgt := 40) C d_S_checkDigit_13 (by decide) (fun q => absurd q (by decide)) (fun _ => ?_)
  refine pv_iload_n C d_S_checkDigit_16 rfl 3 rfl ?_
  refine pv_iload_n C d_S_checkDigit_17 rfl 1 rfl ?_
  refine pv_iload_n C d_S_checkDigit_18 rfl 2 rfl ?_
  refine pv_bipush (v := 10) C d_S_checkDigit_19 (by decide) ?_
  refine pv_irem C d_S_checkDigit_21 (by decide) ?_
  refine pv_imul C d_S_checkDigit_22 ?_
  refine pv_iadd C d_S_checkDigit_23 ?_
  refine pv_istore_n (lv' := [(1, .int ((0 + (1 * (x - x / 10 * 10))) + (3 * ((x / 10) - (x / 10) / 10 * 10)))), (4, .int 1), (2, .int 3), (3, .int (x / 10)), (0, .int x)]) C d_S_checkDigit_24 rfl (by decide) rfl ?_
  refine pv_iload_n C d_S_checkDigit_25 rfl 3 rfl ?_
  refine pv_bipush (v := 10) C d_S_checkDigit_26 (by decide) ?_
  refine pv_idiv C d_S_checkDigit_28 (by decide) ?_
  refine pv_istore_n (lv' := [(3, .int ((x / 10) / 10)), (1, .int ((0 + (1 * (x - x / 10 * 10))) + (3 * ((x / 10) - (x / 10) / 10 * 10)))), (4, .int 1), (2, .int 3), (0, .int x)]) C d_S_checkDigit_29 rfl (by decide) rfl ?_
  refine pv_iconst (v := 4) C d_S_checkDigit_30 (by decide) ?_
  refine pv_iload_n C d_S_checkDigit_31 rfl 3 rfl ?_
  refine pv_isub C d_S_checkDigit_32 ?_
  refine pv_top (y := 1) (by decide) ?_
  refine pv_istore_n (lv' := [(2, .int 1), (3, .int ((x / 10) / 10)), (1, .int ((0 + (1 * (x - x / 10 * 10))) + (3 * ((x / 10) - (x / 10) / 10 * 10)))), (4, .int 1), (0, .int x)]) C d_S_checkDigit_33 rfl (by decide) rfl ?_
  refine pv_iinc (v := 2) (lv' := [(4, .int 2), (2, .int 1), (3, .int ((x / 10) / 10)), (1, .int ((0 + (1 * (x - x / 10 * 10))) + (3 * ((x / 10) - (x / 10) / 10 * 10)))), (0, .int x)]) C d_S_checkDigit_34 3 rfl (by decide) (by decide) rfl ?_
  refine pv_goto (tgt := 9) C d_S_checkDigit_37 (by decide) ?_
  refine pv_iload C d_S_checkDigit_9 0 rfl ?_
  refine pv_bipush (v := 6) C d_S_checkDigit_11 (by decide) ?_
  refine pv_icmp_ge (tgt := 40) C d_S_checkDigit_13 (by decide) (fun q => absurd q (by decide)) (fun _ => ?_)
  refine pv_iload_n C d_S_checkDigit_16 rfl 3 rfl ?_
  refine pv_iload_n C d_S_checkDigit_17 rfl 1 rfl ?_
  refine pv_iload_n C d_S_checkDigit_18 rfl 2 rfl ?_
  refine pv_bipush (v := 10) C d_S_checkDigit_19 (by decide) ?_
  refine pv_irem C d_S_checkDigit_21 (by decide) ?_
  refine pv_imul C d_S_checkDigit_22 ?_
  refine pv_iadd C d_S_checkDigit_23 ?_
  refine pv_istore_n (lv' := [(1, .int (((0 + (1 * (x - x / 10 * 10))) + (3 * ((x / 10) - (x / 10) / 10 * 10))) + (1 * (((x / 10) / 10) - ((x / 10) / 10) / 10 * 10)))), (4, .int 2), (2, .int 1), (3, .int ((x / 10) / 10)), (0, .int x)]) C d_S_checkDigit_24 rfl (by decide) rfl ?_
  refine pv_iload_n C d_S_checkDigit_25 rfl 3 rfl ?_
  refine pv_bipush (v := 10) C d_S_checkDigit_26 (by decide) ?_
  refine pv_idiv C d_S_checkDigit_28 (by decide) ?_
  refine pv_istore_n (lv' := [(3, .int (((x / 10) / 10) / 10)), (1, .int (((0 + (1 * (x - x / 10 * 10))) + (3 * ((x / 10) - (x / 10) / 10 * 10))) + (1 * (((x / 10) / 10) - ((x / 10) / 10) / 10 * 10)))), (4, .int 2), (2, .int 1), (0, .int x)]) C d_S_checkDigit_29 rfl (by decide) rfl ?_
  refine pv_iconst (v := 4) C d_S_checkDigit_30 (by decide) ?_
  refine pv_iload_n C d_S_checkDigit_31 rfl 3 rfl ?_
  refine pv_isub C d_S_checkDigit_32 ?_
  refine pv_top (y := 3) (by decide) ?_
  refine pv_istore_n (lv' := [(2, .int 3), (3, .int (((x / 10) / 10) / 10)), (1, .int (((0 + (1 * (x - x / 10 * 10))) + (3 * ((x / 10) - (x / 10) / 10 * 10))) + (1 * (((x / 10) / 10) - ((x / 10) / 10) / 10 * 10)))), (4, .int 2), (0, .int x)]) C d_S_checkDigit_33 rfl (by decide) rfl ?_
  refine pv_iinc (v := 3) (lv' := [(4, .int 3), (2, .int 3), (3, .int (((x / 10) / 10) / 10)), (1, .int (((0 + (1 * (x - x / 10 * 10))) + (3 * ((x / 10) - (x / 10) / 10 * 10))) + (1 * (((x / 10) / 10) - ((x / 10) / 10) / 10 * 10)))), (0, .int x)]) C d_S_checkDigit_34 3 rfl (by decide) (by decide) rfl ?_
  refine pv_goto (tgt := 9) C d_S_checkDigit_37 (by decide) ?_
  refine pv_iload C d_S_checkDigit_9 0 rfl ?_
  refine pv_bipush (v := 6) C d_S_checkDigit_11 (by decide) ?_
  refine pv_icmp_ge (tgt := 40) C d_S_checkDigit_13 (by decide) (fun q => absurd q (by decide)) (fun _ => ?_)
  refine pv_iload_n C d_S_checkDigit_16 rfl 3 rfl ?_
  refine pv_iload_n C d_S_checkDigit_17 rfl 1 rfl ?_
  refine pv_iload_n C d_S_checkDigit_18 rfl 2 rfl ?_
  refine pv_bipush (v := 10) C d_S_checkDigit_19 (by decide) ?_
  refine pv_irem C d_S_checkDigit_21 (by decide) ?_
  refine pv_imul C d_S_checkDigit_22 ?_
  refine pv_iadd C d_S_checkDigit_23 ?_
  refine pv_istore_n (lv' := [(1, .int ((((0 + (1 * (x - x / 10 * 10))) + (3 * ((x / 10) - (x / 10) / 10 * 10))) + (1 * (((x / 10) / 10) - ((x / 10) / 10) / 10 * 10))) + (3 * ((((x / 10) / 10) / 10) - (((x / 10) / 10) / 10) / 10 * 10)))), (4, .int 3), (2, .int 3), (3, .int (((x / 10) / 10) / 10)), (0, .int x)]) C d_S_checkDigit_24 rfl (by decide) rfl ?_
  refine pv_iload_n C d_S_checkDigit_25 rfl 3 rfl ?_
  refine pv_bipush (v := 10) C d_S_checkDigit_26 (by decide) ?_
  refine pv_idiv C d_S_checkDigit_28 (by decide) ?_
  refine pv_istore_n (lv' := [(3, .int ((((x / 10) / 10) / 10) / 10)), (1, .int ((((0 + (1 * (x - x / 10 * 10))) + (3 * ((x / 10) - (x / 10) / 10 * 10))) + (1 * (((x / 10) / 10) - ((x / 10) / 10) / 10 * 10))) + (3 * ((((x / 10) / 10) / 10) - (((x / 10) / 10) / 10) / 10 * 10)))), (4, .int 3), (2, .int 3), (0, .int x)]) C d_S_checkDigit_29 rfl (by decide) rfl ?_
  refine pv_iconst (v := 4) C d_S_checkDigit_30 (by decide) ?_
  refine pv_iload_n C d_S_checkDigit_31 rfl 3 rfl ?_
  refine pv_isub C d_S_checkDigit_32 ?_
  refine pv_top (y := 1) (by decide) ?_
  refine pv_istore_n (lv' := [(2, .int 1), (3, .int ((((x / 10) / 10) / 10) / 10)), (1, .int ((((0 + (1 * (x - x / 10 * 10))) + (3 * ((x / 10) - (x / 10) / 10 * 10))) + (1 * (((x / 10) / 10) - ((x / 10) / 10) / 10 * 10))) + (3 * ((((x / 10) / 10) / 10) - (((x / 10) / 10) / 10) / 10 * 10)))), (4, .int 3), (0, .int x)]) C d_S_checkDigit_33 rfl (by decide) rfl ?_
  refine pv_iinc (v := 4) (lv' := [(4, .int 4), (2, .int 1), (3, .int ((((x / 10) / 10) / 10) / 10)), (1, .int ((((0 + (1 * (x - x / 10 * 10))) + (3 * ((x / 10) - (x / 10) / 10 * 10))) + (1 * (((x / 10) / 10) - ((x / 10) / 10) / 10 * 10))) + (3 * ((((x / 10) / 10) / 10) - (((x / 10) / 10) / 10) / 10 * 10)))), (0, .int x)]) C d_S_checkDigit_34 3 rfl (by decide) (by decide) rfl ?_
  refine pv_goto (tgt := 9) C d_S_checkDigit_37 (by decide) ?_
  refine pv_iload C d_S_checkDigit_9 0 rfl ?_
  refine pv_bipush (v := 6) C d_S_checkDigit_11 (by decide) ?_
  refine pv_icmp_ge (tgt := 40) C d_S_checkDigit_13 (by decide) (fun q => absurd q (by decide)) (fun _ => ?_)
  refine pv_iload_n C d_S_checkDigit_16 rfl 3 rfl ?_
  refine pv_iload_n C d_S_checkDigit_17 rfl 1 rfl ?_
  refine pv_iload_n C d_S_checkDigit_18 rfl 2 rfl ?_
  refine pv_bipush (v := 10) C d_S_checkDigit_19 (by decide) ?_
  refine pv_irem C d_S_checkDigit_21 (by decide) ?_
  refine pv_imul C d_S_checkDigit_22 ?_
  refine pv_iadd C d_S_checkDigit_23 ?_
  refine pv_istore_n (lv' := [(1, .int (((((0 + (1 * (x - x / 10 * 10))) + (3 * ((x / 10) - (x / 10) / 10 * 10))) + (1 * (((x / 10) / 10) - ((x / 10) / 10) / 10 * 10))) + (3 * ((((x / 10) / 10) / 10) - (((x / 10) / 10) / 10) / 10 * 10))) + (1 * (((((x / 10) / 10) / 10) / 10) - ((((x / 10) / 10) / 10) / 10) / 10 * 10)))), (4, .int 4), (2, .int 1), (3, .int ((((x / 10) / 10) / 10) / 10)), (0, .int x)]) C d_S_checkDigit_24 rfl (by decide) rfl ?_
  refine pv_iload_n C d_S_checkDigit_25 rfl 3 rfl ?_
  refine pv_bipush (v := 10) C d_S_checkDigit_26 (by decide) ?_
  refine pv_idiv C d_S_checkDigit_28 (by decide) ?_
  refine pv_istore_n (lv' := [(3, .int (((((x / 10) / 10) / 10) / 10) / 10)), (1, .int (((((0 + (1 * (x - x / 10 * 10))) + (3 * ((x / 10) - (x / 10) / 10 * 10))) + (1 * (((x / 10) / 10) - ((x / 10) / 10) / 10 * 10))) + (3 * ((((x / 10) / 10) / 10) - (((x / 10) / 10) / 10) / 10 * 10))) + (1 * (((((x / 10) / 10) / 10) / 10) - ((((x / 10) / 10) / 10) / 10) / 10 * 10)))), (4, .int 4), (2, .int 1), (0, .int x)]) C d_S_checkDigit_29 rfl (by decide) rfl ?_
  refine pv_iconst (v := 4) C d_S_checkDigit_30 (by decide) ?_
  refine pv_iload_n C d_S_checkDigit_31 rfl 3 rfl ?_
  refine pv_isub C d_S_checkDigit_32 ?_
  refine pv_top (y := 3) (by decide) ?_
  refine pv_istore_n (lv' := [(2, .int 3), (3, .int (((((x / 10) / 10) / 10) / 10) / 10)), (1, .int (((((0 + (1 * (x - x / 10 * 10))) + (3 * ((x / 10) - (x / 10) / 10 * 10))) + (1 * (((x / 10) / 10) - ((x / 10) / 10) / 10 * 10))) + (3 * ((((x / 10) / 10) / 10) - (((x / 10) / 10) / 10) / 10 * 10))) + (1 * (((((x / 10) / 10) / 10) / 10) - ((((x / 10) / 10) / 10) / 10) / 10 * 10)))), (4, .int 4), (0, .int x)]) C d_S_checkDigit_33 rfl (by decide) rfl ?_
  refine pv_iinc (v := 5) (lv' := [(4, .int 5), (2, .int 3), (3, .int (((((x / 10) / 10) / 10) / 10) / 10)), (1, .int (((((0 + (1 * (x - x / 10 * 10))) + (3 * ((x / 10) - (x / 10) / 10 * 10))) + (1 * (((x / 10) / 10) - ((x / 10) / 10) / 10 * 10))) + (3 * ((((x / 10) / 10) / 10) - (((x / 10) / 10) / 10) / 10 * 10))) + (1 * (((((x / 10) / 10) / 10) / 10) - ((((x / 10) / 10) / 10) / 10) / 10 * 10)))), (0, .int x)]) C d_S_checkDigit_34 3 rfl (by decide) (by decide) rfl ?_
  refine pv_goto (tgt := 9) C d_S_checkDigit_37 (by decide) ?_
  refine pv_iload C d_S_checkDigit_9 0 rfl ?_
  refine pv_bipush (v := 6) C d_S_checkDigit_11 (by decide) ?_
  refine pv_icmp_ge (tgt := 40) C d_S_checkDigit_13 (by decide) (fun q => absurd q (by decide)) (fun _ => ?_)
  refine pv_iload_n C d_S_checkDigit_16 rfl 3 rfl ?_
  refine pv_iload_n C d_S_checkDigit_17 rfl 1 rfl ?_
  refine pv_iload_n C d_S_checkDigit_18 rfl 2 rfl ?_
  refine pv_bipush (v := 10) C d_S_checkDigit_19 (by decide) ?_
  refine pv_irem C d_S_checkDigit_21 (by decide) ?_
  refine pv_imul C d_S_checkDigit_22 ?_
  refine pv_iadd C d_S_checkDigit_23 ?_
  refine pv_istore_n (lv' := [(1, .int ((((((0 + (1 * (x - x / 10 * 10))) + (3 * ((x / 10) - (x / 10) / 10 * 10))) + (1 * (((x / 10) / 10) - ((x / 10) / 10) / 10 * 10))) + (3 * ((((x / 10) / 10) / 10) - (((x / 10) / 10) / 10) / 10 * 10))) + (1 * (((((x / 10) / 10) / 10) / 10) - ((((x / 10) / 10) / 10) / 10) / 10 * 10))) + (3 * ((((((x / 10) / 10) / 10) / 10) / 10) - (((((x / 10) / 10) / 10) / 10) / 10) / 10 * 10)))), (4, .int 5), (2, .int 3), (3, .int (((((x / 10) / 10) / 10) / 10) / 10)), (0, .int x)]) C d_S_checkDigit_24 rfl (by decide) rfl ?_
  refine pv_iload_n C d_S_checkDigit_25 rfl 3 rfl ?_
  refine pv_bipush (v := 10) C d_S_checkDigit_26 (by decide) ?_
  refine pv_idiv C d_S_checkDigit_28 (by decide) ?_
  refine pv_istore_n (lv' := [(3, .int ((((((x / 10) / 10) / 10) / 10) / 10) / 10)), (1, .int ((((((0 + (1 * (x - x / 10 * 10))) + (3 * ((x / 10) - (x / 10) / 10 * 10))) + (1 * (((x / 10) / 10) - ((x / 10) / 10) / 10 * 10))) + (3 * ((((x / 10) / 10) / 10) - (((x / 10) / 10) / 10) / 10 * 10))) + (1 * (((((x / 10) / 10) / 10) / 10) - ((((x / 10) / 10) / 10) / 10) / 10 * 10))) + (3 * ((((((x / 10) / 10) / 10) / 10) / 10) - (((((x / 10) / 10) / 10) / 10) / 10) / 10 * 10)))), (4, .int 5), (2, .int 3), (0, .int x)]) C d_S_checkDigit_29 rfl (by decide) rfl ?_
  refine pv_iconst (v := 4) C d_S_checkDigit_30 (by decide) ?_
  refine pv_iload_n C d_S_checkDigit_31 rfl 3 rfl ?_
  refine pv_isub C d_S_checkDigit_32 ?_
  refine pv_top (y := 1) (by decide) ?_
  refine pv_istore_n (lv' := [(2, .int 1), (3, .int ((((((x / 10) / 10) / 10) / 10) / 10) / 10)), (1, .int ((((((0 + (1 * (x - x / 10 * 10))) + (3 * ((x / 10) - (x / 10) / 10 * 10))) + (1 * (((x / 10) / 10) - ((x / 10) / 10) / 10 * 10))) + (3 * ((((x / 10) / 10) / 10) - (((x / 10) / 10) / 10) / 10 * 10))) + (1 * (((((x / 10) / 10) / 10) / 10) - ((((x / 10) / 10) / 10) / 10) / 10 * 10))) + (3 * ((((((x / 10) / 10) / 10) / 10) / 10) - (((((x / 10) / 10) / 10) / 10) / 10) / 10 * 10)))), (4, .int 5), (0, .int x)]) C d_S_checkDigit_33 rfl (by decide) rfl ?_
  refine pv_iinc (v := 6) (lv' := [(4, .int 6), (2, .int 1), (3, .int ((((((x / 10) / 10) / 10) / 10) / 10) / 10)), (1, .int ((((((0 + (1 * (x - x / 10 * 10))) + (3 * ((x / 10) - (x / 10) / 10 * 10))) + (1 * (((x / 10) / 10) - ((x / 10) / 10) / 10 * 10))) + (3 * ((((x / 10) / 10) / 10) - (((x / 10) / 10) / 10) / 10 * 10))) + (1 * (((((x / 10) / 10) / 10) / 10) - ((((x / 10) / 10) / 10) / 10) / 10 * 10))) + (3 * ((((((x / 10) / 10) / 10) / 10) / 10) - (((((x / 10) / 10) / 10) / 10) / 10) / 10 * 10)))), (0, .int x)]) C d_S_checkDigit_34 3 rfl (by decide) (by decide) rfl ?_
  refine pv_goto (tgt := 9) C d_S_checkDigit_37 (by decide) ?_
  refine pv_iload C d_S_checkDigit_9 0 rfl ?_
  refine pv_bipush (v := 6) C d_S_checkDigit_11 (by decide) ?_
  refine pv_icmp_ge (tgt := 40) C d_S_checkDigit_13 (by decide) (fun _ => ?_) (fun q => absurd q (by decide))
  refine pv_bipush (v := 10) C d_S_checkDigit_40 (by decide) ?_
  refine pv_iload_n C d_S_checkDigit_42 rfl 3 rfl ?_
  refine pv_bipush (v := 10) C d_S_checkDigit_43 (by decide) ?_
  refine pv_irem C d_S_checkDigit_45 (by decide) ?_
  refine pv_isub C d_S_checkDigit_46 ?_
  refine pv_bipush (v := 10) C d_S_checkDigit_47 (by decide) ?_
  refine pv_irem C d_S_checkDigit_49 (by decide) ?_
  exact pv_iret C R0 d_S_checkDigit_50 (by decide) (by decide) ⟨rfl, rfl, rfl⟩
theorem m_chk_eq (x : Int32) : m_chk x = 10 * x + m_dig x := rfl
abbrev rm_S_labelFor : Room := { frames := 1, cells := 0, slots := 0, locals := 24 }
set_option maxRecDepth 100000 in
set_option maxHeartbeats 4000000 in
theorem c_S_labelFor {l0 : Launch} {D : va_G} {γ : Nat → ClassId} (hl0 : l0.stackTraces = false) {LP : List Nat} {f : Nat → va_E} (o n : Int32)  : pv_M l0 D (tys_ γ) y_S_labelFor (Cond.code y_S_labelFor b_S_labelFor 3 (Option.some FieldType.int)) rm_S_labelFor [.int o, .int n] LP f (rdP LP f (some (.int (m_chk (100000 * o + n))))) (fun _ => False) := by
  refine pv_mk hl0 (by decide) (Nat.le_of_ble_eq_true rfl) (fun κ C R0 hN _ => ?_)
  show pv_V D κ 0 0 LP f 0 [(0, .int o), (1, .int n)] []
  refine pv_iload_n C d_S_labelFor_0 rfl 0 rfl ?_
  refine pv_ldcw C co_S_265 d_S_labelFor_1 ?_
  refine pv_imul C d_S_labelFor_4 ?_
  refine pv_iload_n C d_S_labelFor_5 rfl 1 rfl ?_
  refine pv_iadd C d_S_labelFor_6 ?_
  refine pv_istore_n (lv' := [(2, .int ((o * 100000) + n)), (0, .int o), (1, .int n)]) C d_S_labelFor_7 rfl (by decide) rfl ?_
  refine pv_iload_n C d_S_labelFor_8 rfl 0 rfl ?_
  refine pv_bipush (v := 10) C d_S_labelFor_9 (by decide) ?_
  refine pv_imul C d_S_labelFor_11 ?_
  refine pv_iload_n C d_S_labelFor_12 rfl 0 rfl ?_
  refine pv_callS (n := 1) (As := [.int ((o * 100000) + n)]) (rest := [.int (((o * 100000) + n) * 10)]) C (c_S_checkDigit hl0 ((o * 100000) + n)) cd_S_checkDigit ml_S_266 in_S sm_S_checkDigit (by decide +kernel) (by decide) rfl (Nat.le_of_ble_eq_true rfl) rfl d_S_labelFor_13 (by decide) hN R0 (fun _ h => h.elim) (fun v9 LP9 f9 h9 => ?_)
  obtain ⟨rfl, w9, w8⟩ := h9
  have w9 := w9.symm
  have w8 := w8.symm
  subst w9
  subst w8
  refine pv_stf (f2 := f) (st2 := [.int (m_dig ((o * 100000) + n)), .int (((o * 100000) + n) * 10)]) (c2 := 0) (s2 := 0) rfl rfl rfl rfl ?_
  refine pv_iadd C d_S_labelFor_16 ?_
  exact pv_iret C R0 d_S_labelFor_17 (by decide) (by decide) ⟨by rw [m_chk_eq, Int32.mul_comm 100000 o, Int32.mul_comm 10 _], rfl, rfl⟩
abbrev rm_S_label : Room := { frames := 7, cells := 1, slots := 6, locals := 112 }
set_option maxRecDepth 100000 in
set_option maxHeartbeats 4000000 in
theorem c_S_label {l0 : Launch} {D : va_G} {γ : Nat → ClassId} (hl0 : l0.stackTraces = false) {LP : List Nat} {ks : List kT} {ρ : kT → Nat} {z : zT} {x : xT} {f0 : Nat → va_E} (J : cI LP ks ρ z x) (u : Int32)  : pv_M l0 D (tys_ γ) y_S_label (Cond.code y_S_label b_S_label 3 (Option.some FieldType.int)) rm_S_label [.ref (ρ (0, 0)), .int u] LP (cF γ ks ρ z x f0) (cPost γ LP ks ρ f0 (some (.int (m_label z u).1)) (m_label z u).2) (cThr [eNS] z ((m_label z u).2)) := by
  refine pv_mk hl0 (by decide) (Nat.le_of_ble_eq_true rfl) (fun κ C R0 hN _ => ?_)
  obtain ⟨H, hV, hz, hJ⟩ := id J
  have M0 : ((0, 0) : kT) ∈ ks := (hV _).mpr (Nat.zero_le _)
  have M1 : ((0, 1) : kT) ∈ ks := (hV _).mpr (by decide : 1 ≤ 3)
  have M2 : ((0, 2) : kT) ∈ ks := (hV _).mpr (by decide : 2 ≤ 3)
  have M3 : ((0, 3) : kT) ∈ ks := (hV _).mpr (by decide : 3 ≤ 3)
  show pv_V D κ 0 0 LP (cF γ ks ρ z x f0) 0 [(0, .ref (ρ (0, 0))), (1, .int u)] []
  refine pv_aload_n C d_S_label_0 rfl 0 rfl ?_
  refine pv_iload_n C d_S_label_1 rfl 1 rfl ?_
  refine pv_callV (n := 1) (As := [.int u]) (rest := []) C (c_S_unitOf hl0 J u) cd_S_unitOf ml_S_113 in_S im_S_unitOf se_S_unitOf (H.1 _ M0) ((kf_at H M0).trans rfl) rfl rfl (by decide +kernel) (by decide) rfl (Nat.le_of_ble_eq_true rfl) rfl d_S_label_2 (by decide) hN R0 (fun E h => ⟨by rw [h.1]; exact cT_any 0 1 rfl rfl (by unfold m_label; rw [if_neg (nT h.2)]; first | exact Or.inl rfl | exact Or.inr rfl), rfl, rfl⟩) (fun v9 LP9 f9 h9 => ?_)
  obtain ⟨⟨rfl, w9, w8⟩, h1⟩ := h9
  have w9 := w9.symm
  have w8 := w8.symm
  subst w9
  subst w8
  have hU := isU_ix hz h1
  have hu2 : 1 ≤ ix u ∧ ix u ≤ zU z := ⟨hU.2.1, hU.2.2.1⟩
  have hlu := hz.2.2.2.2.1 (ix u) hU.2.1 hU.2.2.1
  have hvl := hJ.1 (ix u) hU.2.1 hU.2.2.1
  have MU : ((4, ix u) : kT) ∈ ks := (hV _).mpr hu2
  have MN : ((3, zl z (ix u)) : kT) ∈ ks := (hV _).mpr hvl
  have MA : ((1, zl z (ix u) / 4) : kT) ∈ ks := (hV _).mpr ⟨hvl.1, hvl.2.1⟩
  have hs := hJ.2.2.2.2.1 (ix u) hU.2.1 hU.2.2.1
  refine pv_stf (f2 := (kf ks ρ (cz γ ρ z x) f0)) (st2 := [.ref (ρ (4, ix u))]) (c2 := 1) (s2 := 6) rfl rfl rfl rfl ?_
  refine pv_astore_n (lv' := [(2, .ref (ρ (4, ix u))), (0, .ref (ρ (0, 0))), (1, .int u)]) C d_S_label_5 rfl (by decide) rfl ?_
  refine pv_aload_n C d_S_label_6 rfl 0 rfl ?_
  refine pv_callV (n := 0) (As := []) (rest := []) C (c_U_hasLabel hl0 J (ix u) hu2) cd_U_hasLabel ml_S_160 in_U im_U_hasLabel se_U_hasLabel (H.1 _ MU) ((kf_at H MU).trans rfl) rfl rfl (by decide +kernel) (by decide) rfl (Nat.le_of_ble_eq_true rfl) rfl d_S_label_7 (by decide) hN R0 (fun _ h => h.elim) (fun v9 LP9 f9 h9 => ?_)
  obtain ⟨rfl, w9, w8⟩ := h9
  have w9 := w9.symm
  have w8 := w8.symm
  subst w9
  subst w8
  refine pv_stf (f2 := (kf ks ρ (cz γ ρ z x) f0)) (st2 := [.int (bN (!decide (z 25 (ix u) = 0)))]) (c2 := 1) (s2 := 6) rfl rfl rfl rfl ?_
  refine pv_ifb_ne (tgt := 44) C d_S_label_10 (by decide) (fun h2 => ?_) (fun h2 => ?_)
  · refine pv_aload_n C d_S_label_44 rfl 0 rfl ?_
    refine pv_dup C d_S_label_45 rfl ?_
    refine pv_get (v := .int (z 26 (ix u))) (ci := 2) C hin_U rfl (H.1 _ MU) ((kf_at H MU).trans rfl) 6 (by decide) fl_S_175 rfl rfl d_S_label_46 ?_
    refine pv_iconst (v := 1) C d_S_label_49 (by decide) ?_
    refine pv_iadd C d_S_label_50 ?_
    refine pk_put (ci := 2) C H hin_U tyU tyU_ok nmU rfl MU rfl 6 (by decide) fl_S_175 rfl rfl rfl rfl (Nat.le_of_ble_eq_true rfl) d_S_label_51 ?_
    refine pk_fz (f2 := kf ks ρ (ku (cz γ ρ z x) (4, ix u) (.inr (2, [.ref (ρ (3, zl z (ix u))), .int (z 21 (ix u)), .int (z 22 (ix u)), .int (z 23 (ix u)), .int (z 24 (ix u)), .int (z 25 (ix u)), .int ((z 26 (ix u)) + 1), .int (x.2.2 (ix u))]))) f0) rfl ?_
    refine pv_aload_n C d_S_label_54 rfl 0 rfl ?_
    refine pv_get (v := .int (z 25 (ix u))) (ci := 2) C hin_U rfl (H.1 _ MU) ((kf_at H MU).trans (ku_eq _ _ _)) 5 (by decide) fl_S_172 rfl rfl d_S_label_55 ?_
    obtain ⟨z1, e1⟩ : ∃ q : zT, q = (zs (zs z 0 0 0) 26 (ix u) ((z 26 (ix u)) + 1)) := ⟨_, rfl⟩
    obtain ⟨x1, y1⟩ : ∃ q : xT, q = x := ⟨_, rfl⟩
    have J1 : cI LP ks ρ z1 x1 := by
      rw [e1, y1]
      exact ⟨H, hV, hz, hJ.1, hJ.2.1, hJ.2.2.1, hJ.2.2.2.1, hJ.2.2.2.2.1, hJ.2.2.2.2.2.1, (show zF (zs (zs z 0 0 0) 26 (ix u) ((z 26 (ix u)) + 1)) from zF_unit (by decide) (by decide) hu2 hJ.2.2.2.2.2.2)⟩
    have g1 : ∀ k7 ∈ ks, (ku (cz γ ρ z x) (4, ix u) (.inr (2, [.ref (ρ (3, zl z (ix u))), .int (z 21 (ix u)), .int (z 22 (ix u)), .int (z 23 (ix u)), .int (z 24 (ix u)), .int (z 25 (ix u)), .int ((z 26 (ix u)) + 1), .int (x.2.2 (ix u))]))) k7 = cz γ ρ z1 x1 k7 := by
      intro k7 hk
      rw [e1, y1]
      by_cases q0 : k7 = ((4, ix u) : kT)
      · subst q0
        simp [ku, cz, cU, zs, zl, upd]
      rw [ku_ne _ _ q0]
      exact (((cz_unit (by decide) (by decide) q0 (vK_4 ((hV _).mp hk))).trans (cz_non (by decide)))).symm
    refine pk_fz (f2 := cF γ ks ρ z1 x1 f0) (kf_eq g1) ?_
    exact pv_iret C R0 d_S_label_58 (by decide) (by decide) (cP_re J1 (by subst e1; rfl) rfl (fun _ q => q) (fun k hk => Or.inl ⟨k, hk, rfl⟩) (by rw [e1]; unfold m_label; rw [if_pos h1, if_neg (nd_t h2)]))
  · refine pv_aload_n C d_S_label_13 rfl 1 rfl ?_
    refine pv_dup C d_S_label_14 rfl ?_
    refine pv_get (v := .int (z 27 0)) (ci := 3) C hin_S rfl (H.1 _ M0) ((kf_at H M0).trans rfl) 5 (by decide) fl_S_163 rfl rfl d_S_label_15 ?_
    refine pv_iconst (v := 1) C d_S_label_18 (by decide) ?_
    refine pv_iadd C d_S_label_19 ?_
    refine pk_put (ci := 3) C H hin_S tyS tyS_ok nmS rfl M0 rfl 5 (by decide) fl_S_163 rfl rfl rfl rfl (Nat.le_of_ble_eq_true rfl) d_S_label_20 ?_
    refine pk_fz (f2 := kf ks ρ (ku (cz γ ρ z x) (0, 0) (.inr (3, [.ref (ρ (0, 1)), .ref (ρ (0, 2)), .ref (ρ (0, 3)), .int (z 3 0), .int (z 18 0), .int ((z 27 0) + 1), .int (z 29 0), .int (z 28 0), .int (z 1 0), .int x.1]))) f0) rfl ?_
    refine pv_aload_n C d_S_label_23 rfl 0 rfl ?_
    refine pv_aload_n C d_S_label_24 rfl 0 rfl ?_
    refine pv_get (v := .ref (ρ (3, zl z (ix u)))) (ci := 2) C hin_U rfl (H.1 _ MU) ((kf_at H MU).trans (ku_ne _ _ (fun q => absurd (congrArg Prod.fst q) (show ¬ (4 : Nat) = 0 by decide)))) 0 (by decide) fl_S_120 rfl rfl d_S_label_25 ?_
    refine pv_get (v := .ref (ρ (1, (zl z (ix u)) / 4))) (ci := 1) C hin_N rfl (H.1 _ MN) ((kf_at H MN).trans (ku_ne _ _ (fun q => absurd (congrArg Prod.fst q) (show ¬ (3 : Nat) = 0 by decide)))) 0 (by decide) fl_S_131 rfl rfl d_S_label_28 ?_
    refine pv_get (v := .int (z 4 ((zl z (ix u)) / 4))) (ci := 0) C hin_A rfl (H.1 _ MA) ((kf_at H MA).trans (ku_ne _ _ (fun q => absurd (congrArg Prod.fst q) (show ¬ (1 : Nat) = 0 by decide)))) 1 (by decide) fl_S_166 rfl rfl d_S_label_31 ?_
    refine pv_aload_n C d_S_label_34 rfl 1 rfl ?_
    refine pv_get (v := .int ((z 27 0) + 1)) (ci := 3) C hin_S rfl (H.1 _ M0) ((kf_at H M0).trans (ku_eq _ _ _)) 5 (by decide) fl_S_163 rfl rfl d_S_label_35 ?_
    refine pv_callS (n := 2) (As := [.int (z 4 ((zl z (ix u)) / 4)), .int ((z 27 0) + 1)]) (rest := [.ref (ρ (4, ix u))]) C (c_S_labelFor hl0 (z 4 ((zl z (ix u)) / 4)) ((z 27 0) + 1)) cd_S_labelFor ml_S_169 in_S sm_S_labelFor (by decide +kernel) (by decide) rfl (Nat.le_of_ble_eq_true rfl) rfl d_S_label_38 (by decide) hN R0 (fun _ h => h.elim) (fun v9 LP9 f9 h9 => ?_)
    obtain ⟨rfl, w9, w8⟩ := h9
    have w9 := w9.symm
    have w8 := w8.symm
    subst w9
    subst w8
    refine pv_stf (f2 := (kf ks ρ (ku (cz γ ρ z x) (0, 0) (.inr (3, [.ref (ρ (0, 1)), .ref (ρ (0, 2)), .ref (ρ (0, 3)), .int (z 3 0), .int (z 18 0), .int ((z 27 0) + 1), .int (z 29 0), .int (z 28 0), .int (z 1 0), .int x.1]))) f0)) (st2 := [.int (m_chk ((100000 * (z 4 (zl z (ix u) / 4))) + ((z 27 0) + 1))), .ref (ρ (4, ix u))]) (c2 := 1) (s2 := 6) rfl rfl rfl rfl ?_
    refine pk_put (ci := 2) C H hin_U tyU tyU_ok nmU rfl MU (ku_ne _ _ (fun q => absurd (congrArg Prod.fst q) (show ¬ (4 : Nat) = 0 by decide))) 5 (by decide) fl_S_172 rfl rfl rfl rfl (Nat.le_of_ble_eq_true rfl) d_S_label_41 ?_
    refine pk_fz (f2 := kf ks ρ (ku (ku (cz γ ρ z x) (0, 0) (.inr (3, [.ref (ρ (0, 1)), .ref (ρ (0, 2)), .ref (ρ (0, 3)), .int (z 3 0), .int (z 18 0), .int ((z 27 0) + 1), .int (z 29 0), .int (z 28 0), .int (z 1 0), .int x.1]))) (4, ix u) (.inr (2, [.ref (ρ (3, zl z (ix u))), .int (z 21 (ix u)), .int (z 22 (ix u)), .int (z 23 (ix u)), .int (z 24 (ix u)), .int (m_chk ((100000 * (z 4 (zl z (ix u) / 4))) + ((z 27 0) + 1))), .int (z 26 (ix u)), .int (x.2.2 (ix u))]))) f0) rfl ?_
    refine pv_aload_n C d_S_label_44 rfl 0 rfl ?_
    refine pv_dup C d_S_label_45 rfl ?_
    refine pv_get (v := .int (z 26 (ix u))) (ci := 2) C hin_U rfl (H.1 _ MU) ((kf_at H MU).trans (ku_eq _ _ _)) 6 (by decide) fl_S_175 rfl rfl d_S_label_46 ?_
    refine pv_iconst (v := 1) C d_S_label_49 (by decide) ?_
    refine pv_iadd C d_S_label_50 ?_
    refine pk_put (ci := 2) C H hin_U tyU tyU_ok nmU rfl MU (ku_eq _ _ _) 6 (by decide) fl_S_175 rfl rfl rfl rfl (Nat.le_of_ble_eq_true rfl) d_S_label_51 ?_
    refine pk_fz (f2 := kf ks ρ (ku (ku (ku (cz γ ρ z x) (0, 0) (.inr (3, [.ref (ρ (0, 1)), .ref (ρ (0, 2)), .ref (ρ (0, 3)), .int (z 3 0), .int (z 18 0), .int ((z 27 0) + 1), .int (z 29 0), .int (z 28 0), .int (z 1 0), .int x.1]))) (4, ix u) (.inr (2, [.ref (ρ (3, zl z (ix u))), .int (z 21 (ix u)), .int (z 22 (ix u)), .int (z 23 (ix u)), .int (z 24 (ix u)), .int (m_chk ((100000 * (z 4 (zl z (ix u) / 4))) + ((z 27 0) + 1))), .int (z 26 (ix u)), .int (x.2.2 (ix u))]))) (4, ix u) (.inr (2, [.ref (ρ (3, zl z (ix u))), .int (z 21 (ix u)), .int (z 22 (ix u)), .int (z 23 (ix u)), .int (z 24 (ix u)), .int (m_chk ((100000 * (z 4 (zl z (ix u) / 4))) + ((z 27 0) + 1))), .int ((z 26 (ix u)) + 1), .int (x.2.2 (ix u))]))) f0) rfl ?_
    refine pv_aload_n C d_S_label_54 rfl 0 rfl ?_
    refine pv_get (v := .int (m_chk ((100000 * (z 4 (zl z (ix u) / 4))) + ((z 27 0) + 1)))) (ci := 2) C hin_U rfl (H.1 _ MU) ((kf_at H MU).trans (ku_eq _ _ _)) 5 (by decide) fl_S_172 rfl rfl d_S_label_55 ?_
    obtain ⟨z1, e1⟩ : ∃ q : zT, q = (zs (zs (zs (zs z 0 0 0) 27 0 ((z 27 0) + 1)) 25 (ix u) (m_chk ((100000 * (z 4 (zl z (ix u) / 4))) + ((z 27 0) + 1)))) 26 (ix u) ((z 26 (ix u)) + 1)) := ⟨_, rfl⟩
    obtain ⟨x1, y1⟩ : ∃ q : xT, q = x := ⟨_, rfl⟩
    have J1 : cI LP ks ρ z1 x1 := by
      rw [e1, y1]
      exact ⟨H, hV, hz, hJ.1, hJ.2.1, hJ.2.2.1, hJ.2.2.2.1, hJ.2.2.2.2.1, hJ.2.2.2.2.2.1, (show zF (zs (zs (zs (zs z 0 0 0) 27 0 ((z 27 0) + 1)) 25 (ix u) (m_chk ((100000 * (z 4 (zl z (ix u) / 4))) + ((z 27 0) + 1)))) 26 (ix u) ((z 26 (ix u)) + 1)) from zF_unit (by decide) (by decide) hu2 (show zF (zs (zs (zs z 0 0 0) 27 0 ((z 27 0) + 1)) 25 (ix u) (m_chk ((100000 * (z 4 (zl z (ix u) / 4))) + ((z 27 0) + 1)))) from zF_unit (by decide) (by decide) hu2 hJ.2.2.2.2.2.2))⟩
    have g1 : ∀ k7 ∈ ks, (ku (ku (ku (cz γ ρ z x) (0, 0) (.inr (3, [.ref (ρ (0, 1)), .ref (ρ (0, 2)), .ref (ρ (0, 3)), .int (z 3 0), .int (z 18 0), .int ((z 27 0) + 1), .int (z 29 0), .int (z 28 0), .int (z 1 0), .int x.1]))) (4, ix u) (.inr (2, [.ref (ρ (3, zl z (ix u))), .int (z 21 (ix u)), .int (z 22 (ix u)), .int (z 23 (ix u)), .int (z 24 (ix u)), .int (m_chk ((100000 * (z 4 (zl z (ix u) / 4))) + ((z 27 0) + 1))), .int (z 26 (ix u)), .int (x.2.2 (ix u))]))) (4, ix u) (.inr (2, [.ref (ρ (3, zl z (ix u))), .int (z 21 (ix u)), .int (z 22 (ix u)), .int (z 23 (ix u)), .int (z 24 (ix u)), .int (m_chk ((100000 * (z 4 (zl z (ix u) / 4))) + ((z 27 0) + 1))), .int ((z 26 (ix u)) + 1), .int (x.2.2 (ix u))]))) k7 = cz γ ρ z1 x1 k7 := by
      intro k7 hk
      rw [e1, y1]
      by_cases q0 : k7 = ((0, 0) : kT)
      · subst q0
        simp [ku, cz, cS, zs, zl, upd]
      by_cases q1 : k7 = ((4, ix u) : kT)
      · subst q1
        simp [ku, cz, cU, zs, zl, upd]
      rw [ku_ne _ _ q1, ku_ne _ _ q1, ku_ne _ _ q0]
      exact (((cz_unit (by decide) (by decide) q1 (vK_4 ((hV _).mp hk))).trans ((cz_unit (by decide) (by decide) q1 (vK_4 ((hV _).mp hk))).trans ((cz_obj (by decide) q0).trans (cz_non (by decide)))))).symm
    refine pk_fz (f2 := cF γ ks ρ z1 x1 f0) (kf_eq g1) ?_
    exact pv_iret C R0 d_S_label_58 (by decide) (by decide) (cP_re J1 (by subst e1; rfl) rfl (fun _ q => q) (fun k hk => Or.inl ⟨k, hk, rfl⟩) (by rw [e1]; unfold m_label; rw [if_pos h1, if_pos (nd_f h2)]))
abbrev rm_S_date : Room := { frames := 7, cells := 3, slots := 18, locals := 112 }
set_option maxRecDepth 100000 in
set_option maxHeartbeats 4000000 in
theorem c_S_date {l0 : Launch} {D : va_G} {γ : Nat → ClassId} (hl0 : l0.stackTraces = false) {LP : List Nat} {ks : List kT} {ρ : kT → Nat} {z : zT} {x : xT} {f0 : Nat → va_E} (J : cI LP ks ρ z x) (u : Int32) (d : Int32)  : pv_M l0 D (tys_ γ) y_S_date (Cond.code y_S_date b_S_date 4 (Option.some FieldType.int)) rm_S_date [.ref (ρ (0, 0)), .int u, .int d] LP (cF γ ks ρ z x f0) (cPost γ LP ks ρ f0 (some (.int (m_date z u d).1)) (m_date z u d).2) (cThr [eNS, eIA, eIS] z ((m_date z u d).2)) := by
  refine pv_mk hl0 (by decide) (Nat.le_of_ble_eq_true rfl) (fun κ C R0 hN _ => ?_)
  obtain ⟨H, hV, hz, hJ⟩ := id J
  have M0 : ((0, 0) : kT) ∈ ks := (hV _).mpr (Nat.zero_le _)
  have M1 : ((0, 1) : kT) ∈ ks := (hV _).mpr (by decide : 1 ≤ 3)
  have M2 : ((0, 2) : kT) ∈ ks := (hV _).mpr (by decide : 2 ≤ 3)
  have M3 : ((0, 3) : kT) ∈ ks := (hV _).mpr (by decide : 3 ≤ 3)
  show pv_V D κ 0 0 LP (cF γ ks ρ z x f0) 0 [(0, .ref (ρ (0, 0))), (1, .int u), (2, .int d)] []
  refine pv_aload_n C d_S_date_0 rfl 0 rfl ?_
  refine pv_iload_n C d_S_date_1 rfl 1 rfl ?_
  refine pv_callV (n := 1) (As := [.int u]) (rest := []) C (c_S_unitOf hl0 J u) cd_S_unitOf ml_S_113 in_S im_S_unitOf se_S_unitOf (H.1 _ M0) ((kf_at H M0).trans rfl) rfl rfl (by decide +kernel) (by decide) rfl (Nat.le_of_ble_eq_true rfl) rfl d_S_date_2 (by decide) hN R0 (fun E h => ⟨by rw [h.1]; exact cT_any 0 1 rfl rfl (by unfold m_date; rw [if_neg (nT h.2)]; first | exact Or.inl rfl | exact Or.inr rfl), rfl, rfl⟩) (fun v9 LP9 f9 h9 => ?_)
  obtain ⟨⟨rfl, w9, w8⟩, h1⟩ := h9
  have w9 := w9.symm
  have w8 := w8.symm
  subst w9
  subst w8
  have hU := isU_ix hz h1
  have hu2 : 1 ≤ ix u ∧ ix u ≤ zU z := ⟨hU.2.1, hU.2.2.1⟩
  have hlu := hz.2.2.2.2.1 (ix u) hU.2.1 hU.2.2.1
  have hvl := hJ.1 (ix u) hU.2.1 hU.2.2.1
  have MU : ((4, ix u) : kT) ∈ ks := (hV _).mpr hu2
  have MN : ((3, zl z (ix u)) : kT) ∈ ks := (hV _).mpr hvl
  have MA : ((1, zl z (ix u) / 4) : kT) ∈ ks := (hV _).mpr ⟨hvl.1, hvl.2.1⟩
  have hs := hJ.2.2.2.2.1 (ix u) hU.2.1 hU.2.2.1
  refine pv_stf (f2 := (kf ks ρ (cz γ ρ z x) f0)) (st2 := [.ref (ρ (4, ix u))]) (c2 := 1) (s2 := 6) rfl rfl rfl rfl ?_
  refine pv_astore_n (lv' := [(3, .ref (ρ (4, ix u))), (0, .ref (ρ (0, 0))), (1, .int u), (2, .int d)]) C d_S_date_5 rfl (by decide) rfl ?_
  refine pv_iload_n C d_S_date_6 rfl 3 rfl ?_
  refine pv_iconst (v := 0) C d_S_date_7 (by decide) ?_
  refine pv_sipush (v := 10000) C d_S_date_8 (by decide) ?_
  refine pv_callS (n := 3) (As := [.int d, .int 0, .int 10000]) (rest := []) C (c_S_mustBeWithin hl0 d 0 10000) cd_S_mustBeWithin ml_S_27 in_S sm_S_mustBeWithin (by decide +kernel) (by decide) rfl (Nat.le_of_ble_eq_true rfl) rfl d_S_date_11 (by decide) hN R0 (fun E h => ⟨by rw [h.1]; exact cT_any 1 2 rfl rfl (by unfold m_date; rw [if_pos h1, if_neg (nT h.2)]; first | exact Or.inl rfl | exact Or.inr rfl), rfl, rfl⟩) (fun v9 LP9 f9 h9 => ?_)
  obtain ⟨⟨rfl, w9, w8⟩, h2⟩ := h9
  have w9 := w9.symm
  have w8 := w8.symm
  subst w9
  subst w8
  refine pv_stf (f2 := (kf ks ρ (cz γ ρ z x) f0)) (st2 := []) (c2 := 2) (s2 := 12) rfl rfl rfl rfl ?_
  refine pv_aload_n C d_S_date_14 rfl 0 rfl ?_
  refine pv_callV (n := 0) (As := []) (rest := []) C (c_U_isDamaged hl0 J (ix u) hu2) cd_U_isDamaged ml_S_117 in_U im_U_isDamaged se_U_isDamaged (H.1 _ MU) ((kf_at H MU).trans rfl) rfl rfl (by decide +kernel) (by decide) rfl (Nat.le_of_ble_eq_true rfl) rfl d_S_date_15 (by decide) hN R0 (fun _ h => h.elim) (fun v9 LP9 f9 h9 => ?_)
  obtain ⟨rfl, w9, w8⟩ := h9
  have w9 := w9.symm
  have w8 := w8.symm
  subst w9
  subst w8
  refine pv_stf (f2 := (kf ks ρ (cz γ ρ z x) f0)) (st2 := [.int (bN (!decide (z 24 (ix u) = 0)))]) (c2 := 2) (s2 := 12) rfl rfl rfl rfl ?_
  refine pv_ifb_ne (tgt := 35) C d_S_date_18 (by decide) (fun h3 => ?_) (fun h3 => ?_)
  · refine pv_iconst (v := 0) C d_S_date_35 (by decide) ?_
    refine pv_callS (n := 1) (As := [.int 0]) (rest := []) C (c_S_mustHold hl0 false) cd_S_mustHold ml_S_55 in_S sm_S_mustHold (by decide +kernel) (by decide) rfl (Nat.le_of_ble_eq_true rfl) rfl d_S_date_36 (by decide) hN R0 (fun E h => ⟨by rw [h.1]; exact cT_any 2 3 rfl rfl (by unfold m_date; rw [if_pos h1, if_pos h2, if_pos (hs.trans (uS_1.mpr (nd_t h3)))]; first | exact Or.inl rfl | exact Or.inr rfl), rfl, rfl⟩) (fun v9 LP9 f9 h9 => ?_)
    obtain ⟨⟨rfl, w9, w8⟩, h4⟩ := h9
    have w9 := w9.symm
    have w8 := w8.symm
    subst w9
    subst w8
    exact absurd h4 (by decide)
  · refine pv_aload_n C d_S_date_21 rfl 0 rfl ?_
    refine pv_get (v := .ref (ρ (3, zl z (ix u)))) (ci := 2) C hin_U rfl (H.1 _ MU) ((kf_at H MU).trans rfl) 0 (by decide) fl_S_120 rfl rfl d_S_date_22 ?_
    refine pv_get (v := .int (z 16 (zl z (ix u)))) (ci := 1) C hin_N rfl (H.1 _ MN) ((kf_at H MN).trans rfl) 10 (by decide) fl_S_84 rfl rfl d_S_date_25 ?_
    refine pv_if_ne (tgt := 35) C d_S_date_28 (by decide) (fun h5 => ?_) (fun h5 => ?_)
    · refine pv_iconst (v := 0) C d_S_date_35 (by decide) ?_
      refine pv_callS (n := 1) (As := [.int 0]) (rest := []) C (c_S_mustHold hl0 false) cd_S_mustHold ml_S_55 in_S sm_S_mustHold (by decide +kernel) (by decide) rfl (Nat.le_of_ble_eq_true rfl) rfl d_S_date_36 (by decide) hN R0 (fun E h => ⟨by rw [h.1]; exact cT_any 2 3 rfl rfl (by unfold m_date; rw [if_pos h1, if_pos h2, if_neg (fun q => uS_1.mp (hs.symm.trans q) (nd_f h3)), if_neg h5]; first | exact Or.inl rfl | exact Or.inr rfl), rfl, rfl⟩) (fun v9 LP9 f9 h9 => ?_)
      obtain ⟨⟨rfl, w9, w8⟩, h6⟩ := h9
      have w9 := w9.symm
      have w8 := w8.symm
      subst w9
      subst w8
      exact absurd h6 (by decide)
    · refine pv_iconst (v := 1) C d_S_date_31 (by decide) ?_
      refine pv_goto (tgt := 36) C d_S_date_32 (by decide) ?_
      refine pv_callS (n := 1) (As := [.int 1]) (rest := []) C (c_S_mustHold hl0 true) cd_S_mustHold ml_S_55 in_S sm_S_mustHold (by decide +kernel) (by decide) rfl (Nat.le_of_ble_eq_true rfl) rfl d_S_date_36 (by decide) hN R0 (fun E h => absurd h.2 (by decide)) (fun v9 LP9 f9 h9 => ?_)
      obtain ⟨⟨rfl, w9, w8⟩, h7⟩ := h9
      have w9 := w9.symm
      have w8 := w8.symm
      subst w9
      subst w8
      refine pv_stf (f2 := (kf ks ρ (cz γ ρ z x) f0)) (st2 := []) (c2 := 3) (s2 := 18) rfl rfl rfl rfl ?_
      refine pv_aload_n C d_S_date_39 rfl 0 rfl ?_
      refine pv_iload_n C d_S_date_40 rfl 3 rfl ?_
      refine pk_put (ci := 2) C H hin_U tyU tyU_ok nmU rfl MU rfl 3 (by decide) fl_S_148 rfl rfl rfl rfl (Nat.le_of_ble_eq_true rfl) d_S_date_41 ?_
      refine pk_fz (f2 := kf ks ρ (ku (cz γ ρ z x) (4, ix u) (.inr (2, [.ref (ρ (3, zl z (ix u))), .int (z 21 (ix u)), .int (z 22 (ix u)), .int d, .int (z 24 (ix u)), .int (z 25 (ix u)), .int (z 26 (ix u)), .int (x.2.2 (ix u))]))) f0) rfl ?_
      refine pv_aload_n C d_S_date_44 rfl 0 rfl ?_
      refine pv_iload_n C d_S_date_45 rfl 3 rfl ?_
      refine pv_aload_n C d_S_date_46 rfl 1 rfl ?_
      refine pv_get (v := .int (z 1 0)) (ci := 3) C hin_S rfl (H.1 _ M0) ((kf_at H M0).trans (ku_ne _ _ (fun q => absurd (congrArg Prod.fst q) (show ¬ (0 : Nat) = 4 by decide)))) 8 (by decide) fl_S_151 rfl rfl d_S_date_47 ?_
      refine pv_icmp_ge (tgt := 57) C d_S_date_50 (by decide) (fun h8 => ?_) (fun h8 => ?_)
      · refine pv_iconst (v := 0) C d_S_date_57 (by decide) ?_
        refine pk_put (ci := 2) C H hin_U tyU tyU_ok nmU rfl MU (ku_eq _ _ _) 7 (by decide) fl_S_154 rfl rfl rfl rfl (Nat.le_of_ble_eq_true rfl) d_S_date_58 ?_
        refine pk_fz (f2 := kf ks ρ (ku (ku (cz γ ρ z x) (4, ix u) (.inr (2, [.ref (ρ (3, zl z (ix u))), .int (z 21 (ix u)), .int (z 22 (ix u)), .int d, .int (z 24 (ix u)), .int (z 25 (ix u)), .int (z 26 (ix u)), .int (x.2.2 (ix u))]))) (4, ix u) (.inr (2, [.ref (ρ (3, zl z (ix u))), .int (z 21 (ix u)), .int (z 22 (ix u)), .int d, .int (z 24 (ix u)), .int (z 25 (ix u)), .int (z 26 (ix u)), .int 0]))) f0) rfl ?_
        refine pv_aload_n C d_S_date_61 rfl 0 rfl ?_
        refine pv_get (v := .int 0) (ci := 2) C hin_U rfl (H.1 _ MU) ((kf_at H MU).trans (ku_eq _ _ _)) 7 (by decide) fl_S_154 rfl rfl d_S_date_62 ?_
        refine pv_if_eq (tgt := 72) C d_S_date_65 (by decide) (fun _ => ?_) (fun q => absurd q (by decide))
        refine pv_iconst (v := 1) C d_S_date_72 (by decide) ?_
        obtain ⟨z1, e1⟩ : ∃ q : zT, q = (zs (zs (zs (zs z 0 0 0) 0 0 0) 23 (ix u) d) 20 (ix u) (m_plain z (ix u))) := ⟨_, rfl⟩
        obtain ⟨x1, y1⟩ : ∃ q : xT, q = (x.1, x.2.1, upd x.2.2 (ix u) 0) := ⟨_, rfl⟩
        have J1 : cI LP ks ρ z1 x1 := by
          rw [e1, y1]
          exact ⟨H, hV, hz, hJ.1, hJ.2.1, hJ.2.2.1, hJ.2.2.2.1, us_set hJ.2.2.2.2.1 (uS_p (nd_f h3)), hJ.2.2.2.2.2.1, hJ.2.2.2.2.2.2⟩
        have g1 : ∀ k7 ∈ ks, (ku (ku (cz γ ρ z x) (4, ix u) (.inr (2, [.ref (ρ (3, zl z (ix u))), .int (z 21 (ix u)), .int (z 22 (ix u)), .int d, .int (z 24 (ix u)), .int (z 25 (ix u)), .int (z 26 (ix u)), .int (x.2.2 (ix u))]))) (4, ix u) (.inr (2, [.ref (ρ (3, zl z (ix u))), .int (z 21 (ix u)), .int (z 22 (ix u)), .int d, .int (z 24 (ix u)), .int (z 25 (ix u)), .int (z 26 (ix u)), .int 0]))) k7 = cz γ ρ z1 x1 k7 := by
          intro k7 hk
          rw [e1, y1]
          by_cases q0 : k7 = ((4, ix u) : kT)
          · subst q0
            simp [ku, cz, cU, zs, zl, upd]
          rw [ku_ne _ _ q0, ku_ne _ _ q0]
          exact (((cz_x3 q0 (vK_4 ((hV _).mp hk))).trans ((cz_non (by decide)).trans ((cz_unit (by decide) (by decide) q0 (vK_4 ((hV _).mp hk))).trans ((cz_non (by decide)).trans (cz_non (by decide))))))).symm
        refine pk_fz (f2 := cF γ ks ρ z1 x1 f0) (kf_eq g1) ?_
        exact pv_iret C R0 d_S_date_73 (by decide) (by decide) (cP_re J1 (by subst e1; rfl) rfl (fun _ q => q) (fun k hk => Or.inl ⟨k, hk, rfl⟩) (by rw [e1]; unfold m_date; rw [if_pos h1, if_pos h2, if_neg (fun q => uS_1.mp (hs.symm.trans q) (nd_f h3)), if_pos h5, if_pos h8, if_pos h8]))
      · refine pv_iconst (v := 1) C d_S_date_53 (by decide) ?_
        refine pv_goto (tgt := 58) C d_S_date_54 (by decide) ?_
        refine pk_put (ci := 2) C H hin_U tyU tyU_ok nmU rfl MU (ku_eq _ _ _) 7 (by decide) fl_S_154 rfl rfl rfl rfl (Nat.le_of_ble_eq_true rfl) d_S_date_58 ?_
        refine pk_fz (f2 := kf ks ρ (ku (ku (cz γ ρ z x) (4, ix u) (.inr (2, [.ref (ρ (3, zl z (ix u))), .int (z 21 (ix u)), .int (z 22 (ix u)), .int d, .int (z 24 (ix u)), .int (z 25 (ix u)), .int (z 26 (ix u)), .int (x.2.2 (ix u))]))) (4, ix u) (.inr (2, [.ref (ρ (3, zl z (ix u))), .int (z 21 (ix u)), .int (z 22 (ix u)), .int d, .int (z 24 (ix u)), .int (z 25 (ix u)), .int (z 26 (ix u)), .int 1]))) f0) rfl ?_
        refine pv_aload_n C d_S_date_61 rfl 0 rfl ?_
        refine pv_get (v := .int 1) (ci := 2) C hin_U rfl (H.1 _ MU) ((kf_at H MU).trans (ku_eq _ _ _)) 7 (by decide) fl_S_154 rfl rfl d_S_date_62 ?_
        refine pv_if_eq (tgt := 72) C d_S_date_65 (by decide) (fun q => absurd q (by decide)) (fun _ => ?_)
        refine pv_iconst (v := 2) C d_S_date_68 (by decide) ?_
        refine pv_goto (tgt := 73) C d_S_date_69 (by decide) ?_
        obtain ⟨z1, e1⟩ : ∃ q : zT, q = (zs (zs (zs (zs z 0 0 0) 0 0 0) 23 (ix u) d) 20 (ix u) 3) := ⟨_, rfl⟩
        obtain ⟨x1, y1⟩ : ∃ q : xT, q = (x.1, x.2.1, upd x.2.2 (ix u) 1) := ⟨_, rfl⟩
        have J1 : cI LP ks ρ z1 x1 := by
          rw [e1, y1]
          exact ⟨H, hV, hz, hJ.1, hJ.2.1, hJ.2.2.1, hJ.2.2.2.1, us_set hJ.2.2.2.2.1 (uS_3.mpr ⟨nd_f h3, by decide⟩).symm, hJ.2.2.2.2.2.1, hJ.2.2.2.2.2.2⟩
        have g1 : ∀ k7 ∈ ks, (ku (ku (cz γ ρ z x) (4, ix u) (.inr (2, [.ref (ρ (3, zl z (ix u))), .int (z 21 (ix u)), .int (z 22 (ix u)), .int d, .int (z 24 (ix u)), .int (z 25 (ix u)), .int (z 26 (ix u)), .int (x.2.2 (ix u))]))) (4, ix u) (.inr (2, [.ref (ρ (3, zl z (ix u))), .int (z 21 (ix u)), .int (z 22 (ix u)), .int d, .int (z 24 (ix u)), .int (z 25 (ix u)), .int (z 26 (ix u)), .int 1]))) k7 = cz γ ρ z1 x1 k7 := by
          intro k7 hk
          rw [e1, y1]
          by_cases q0 : k7 = ((4, ix u) : kT)
          · subst q0
            simp [ku, cz, cU, zs, zl, upd]
          rw [ku_ne _ _ q0, ku_ne _ _ q0]
          exact (((cz_x3 q0 (vK_4 ((hV _).mp hk))).trans ((cz_non (by decide)).trans ((cz_unit (by decide) (by decide) q0 (vK_4 ((hV _).mp hk))).trans ((cz_non (by decide)).trans (cz_non (by decide))))))).symm
        refine pk_fz (f2 := cF γ ks ρ z1 x1 f0) (kf_eq g1) ?_
        exact pv_iret C R0 d_S_date_73 (by decide) (by decide) (cP_re J1 (by subst e1; rfl) rfl (fun _ q => q) (fun k hk => Or.inl ⟨k, hk, rfl⟩) (by rw [e1]; unfold m_date; rw [if_pos h1, if_pos h2, if_neg (fun q => uS_1.mp (hs.symm.trans q) (nd_f h3)), if_pos h5, if_neg h8, if_neg h8]))
abbrev rm_S_take : Room := { frames := 7, cells := 3, slots := 18, locals := 112 }
set_option maxRecDepth 100000 in
set_option maxHeartbeats 4000000 in
theorem c_S_take {l0 : Launch} {D : va_G} {γ : Nat → ClassId} (hl0 : l0.stackTraces = false) {LP : List Nat} {ks : List kT} {ρ : kT → Nat} {z : zT} {x : xT} {f0 : Nat → va_E} (J : cI LP ks ρ z x) (u : Int32) (p : Int32)  : pv_M l0 D (tys_ γ) y_S_take (Cond.code y_S_take b_S_take 4 (Option.some FieldType.int)) rm_S_take [.ref (ρ (0, 0)), .int u, .int p] LP (cF γ ks ρ z x f0) (cPost γ LP ks ρ f0 (some (.int (m_take z u p).1)) (m_take z u p).2) (cThr [eNS, eIA, eIS] z ((m_take z u p).2)) := by
  refine pv_mk hl0 (by decide) (Nat.le_of_ble_eq_true rfl) (fun κ C R0 hN _ => ?_)
  obtain ⟨H, hV, hz, hJ⟩ := id J
  have M0 : ((0, 0) : kT) ∈ ks := (hV _).mpr (Nat.zero_le _)
  have M1 : ((0, 1) : kT) ∈ ks := (hV _).mpr (by decide : 1 ≤ 3)
  have M2 : ((0, 2) : kT) ∈ ks := (hV _).mpr (by decide : 2 ≤ 3)
  have M3 : ((0, 3) : kT) ∈ ks := (hV _).mpr (by decide : 3 ≤ 3)
  show pv_V D κ 0 0 LP (cF γ ks ρ z x f0) 0 [(0, .ref (ρ (0, 0))), (1, .int u), (2, .int p)] []
  refine pv_aload_n C d_S_take_0 rfl 0 rfl ?_
  refine pv_iload_n C d_S_take_1 rfl 1 rfl ?_
  refine pv_callV (n := 1) (As := [.int u]) (rest := []) C (c_S_unitOf hl0 J u) cd_S_unitOf ml_S_113 in_S im_S_unitOf se_S_unitOf (H.1 _ M0) ((kf_at H M0).trans rfl) rfl rfl (by decide +kernel) (by decide) rfl (Nat.le_of_ble_eq_true rfl) rfl d_S_take_2 (by decide) hN R0 (fun E h => ⟨by rw [h.1]; exact cT_any 0 1 rfl rfl (by unfold m_take; rw [if_neg (nT h.2)]; first | exact Or.inl rfl | exact Or.inr rfl), rfl, rfl⟩) (fun v9 LP9 f9 h9 => ?_)
  obtain ⟨⟨rfl, w9, w8⟩, h1⟩ := h9
  have w9 := w9.symm
  have w8 := w8.symm
  subst w9
  subst w8
  have hU := isU_ix hz h1
  have hu2 : 1 ≤ ix u ∧ ix u ≤ zU z := ⟨hU.2.1, hU.2.2.1⟩
  have hlu := hz.2.2.2.2.1 (ix u) hU.2.1 hU.2.2.1
  have hvl := hJ.1 (ix u) hU.2.1 hU.2.2.1
  have MU : ((4, ix u) : kT) ∈ ks := (hV _).mpr hu2
  have MN : ((3, zl z (ix u)) : kT) ∈ ks := (hV _).mpr hvl
  have MA : ((1, zl z (ix u) / 4) : kT) ∈ ks := (hV _).mpr ⟨hvl.1, hvl.2.1⟩
  have hs := hJ.2.2.2.2.1 (ix u) hU.2.1 hU.2.2.1
  refine pv_stf (f2 := (kf ks ρ (cz γ ρ z x) f0)) (st2 := [.ref (ρ (4, ix u))]) (c2 := 1) (s2 := 6) rfl rfl rfl rfl ?_
  refine pv_astore_n (lv' := [(3, .ref (ρ (4, ix u))), (0, .ref (ρ (0, 0))), (1, .int u), (2, .int p)]) C d_S_take_5 rfl (by decide) rfl ?_
  refine pv_iload_n C d_S_take_6 rfl 3 rfl ?_
  refine pv_iconst (v := 0) C d_S_take_7 (by decide) ?_
  refine pv_bipush (v := 7) C d_S_take_8 (by decide) ?_
  refine pv_callS (n := 3) (As := [.int p, .int 0, .int 7]) (rest := []) C (c_S_mustBeWithin hl0 p 0 7) cd_S_mustBeWithin ml_S_27 in_S sm_S_mustBeWithin (by decide +kernel) (by decide) rfl (Nat.le_of_ble_eq_true rfl) rfl d_S_take_10 (by decide) hN R0 (fun E h => ⟨by rw [h.1]; exact cT_any 1 2 rfl rfl (by unfold m_take; rw [if_pos h1, if_neg (nT (show isP p = false from h.2))]; first | exact Or.inl rfl | exact Or.inr rfl), rfl, rfl⟩) (fun v9 LP9 f9 h9 => ?_)
  obtain ⟨⟨rfl, w9, w8⟩, h2⟩ := h9
  have w9 := w9.symm
  have w8 := w8.symm
  subst w9
  subst w8
  have hP0 : isP p = true := h2
  have hP := isP_ix hP0
  refine pv_stf (f2 := (kf ks ρ (cz γ ρ z x) f0)) (st2 := []) (c2 := 2) (s2 := 12) rfl rfl rfl rfl ?_
  refine pv_aload_n C d_S_take_13 rfl 0 rfl ?_
  refine pv_callV (n := 0) (As := []) (rest := []) C (c_U_stateNow hl0 J (ix u) hu2) cd_U_stateNow ml_S_157 in_U im_U_stateNow se_U_stateNow (H.1 _ MU) ((kf_at H MU).trans rfl) rfl rfl (by decide +kernel) (by decide) rfl (Nat.le_of_ble_eq_true rfl) rfl d_S_take_14 (by decide) hN R0 (fun _ h => h.elim) (fun v9 LP9 f9 h9 => ?_)
  obtain ⟨rfl, w9, w8⟩ := h9
  have w9 := w9.symm
  have w8 := w8.symm
  subst w9
  subst w8
  refine pv_stf (f2 := (kf ks ρ (cz γ ρ z x) f0)) (st2 := [.int (uS (z 24 (ix u)) (x.2.2 (ix u)) (z 15 (zl z (ix u))))]) (c2 := 2) (s2 := 12) rfl rfl rfl rfl ?_
  refine pv_iconst (v := 3) C d_S_take_17 (by decide) ?_
  refine pv_icmp_ne (tgt := 33) C d_S_take_18 (by decide) (fun h3 => ?_) (fun h3 => ?_)
  · refine pv_iconst (v := 0) C d_S_take_33 (by decide) ?_
    refine pv_callS (n := 1) (As := [.int 0]) (rest := []) C (c_S_mustHold hl0 false) cd_S_mustHold ml_S_55 in_S sm_S_mustHold (by decide +kernel) (by decide) rfl (Nat.le_of_ble_eq_true rfl) rfl d_S_take_34 (by decide) hN R0 (fun E h => ⟨by rw [h.1]; exact cT_any 2 3 rfl rfl (by unfold m_take; rw [if_pos h1, if_pos (show isP p = true from h2), if_neg (fun q => h3 (hs.symm.trans q))]; first | exact Or.inl rfl | exact Or.inr rfl), rfl, rfl⟩) (fun v9 LP9 f9 h9 => ?_)
    obtain ⟨⟨rfl, w9, w8⟩, h4⟩ := h9
    have w9 := w9.symm
    have w8 := w8.symm
    subst w9
    subst w8
    exact absurd h4 (by decide)
  · refine pv_aload_n C d_S_take_21 rfl 1 rfl ?_
    refine pv_iload_n C d_S_take_22 rfl 3 rfl ?_
    refine pv_callV (n := 1) (As := [.int p]) (rest := []) C (c_S_hasRight hl0 J p hP0) cd_S_hasRight ml_S_70 in_S im_S_hasRight se_S_hasRight (H.1 _ M0) ((kf_at H M0).trans rfl) rfl rfl (by decide +kernel) (by decide) rfl (Nat.le_of_ble_eq_true rfl) rfl d_S_take_23 (by decide) hN R0 (fun _ h => h.elim) (fun v9 LP9 f9 h9 => ?_)
    obtain ⟨rfl, w9, w8⟩ := h9
    have w9 := w9.symm
    have w8 := w8.symm
    subst w9
    subst w8
    refine pv_stf (f2 := (kf ks ρ (cz γ ρ z x) f0)) (st2 := [.int (bN (!decide (z 2 (ix p) = 0)))]) (c2 := 2) (s2 := 12) rfl rfl rfl rfl ?_
    refine pv_ifb_eq (tgt := 33) C d_S_take_26 (by decide) (fun h5 => ?_) (fun h5 => ?_)
    · refine pv_iconst (v := 0) C d_S_take_33 (by decide) ?_
      refine pv_callS (n := 1) (As := [.int 0]) (rest := []) C (c_S_mustHold hl0 false) cd_S_mustHold ml_S_55 in_S sm_S_mustHold (by decide +kernel) (by decide) rfl (Nat.le_of_ble_eq_true rfl) rfl d_S_take_34 (by decide) hN R0 (fun E h => ⟨by rw [h.1]; exact cT_any 2 3 rfl rfl (by unfold m_take; rw [if_pos h1, if_pos (show isP p = true from h2), if_pos (hs.trans h3), if_pos (nd_f h5)]; first | exact Or.inl rfl | exact Or.inr rfl), rfl, rfl⟩) (fun v9 LP9 f9 h9 => ?_)
      obtain ⟨⟨rfl, w9, w8⟩, h6⟩ := h9
      have w9 := w9.symm
      have w8 := w8.symm
      subst w9
      subst w8
      exact absurd h6 (by decide)
    · refine pv_iconst (v := 1) C d_S_take_29 (by decide) ?_
      refine pv_goto (tgt := 34) C d_S_take_30 (by decide) ?_
      refine pv_callS (n := 1) (As := [.int 1]) (rest := []) C (c_S_mustHold hl0 true) cd_S_mustHold ml_S_55 in_S sm_S_mustHold (by decide +kernel) (by decide) rfl (Nat.le_of_ble_eq_true rfl) rfl d_S_take_34 (by decide) hN R0 (fun E h => absurd h.2 (by decide)) (fun v9 LP9 f9 h9 => ?_)
      obtain ⟨⟨rfl, w9, w8⟩, h7⟩ := h9
      have w9 := w9.symm
      have w8 := w8.symm
      subst w9
      subst w8
      refine pv_stf (f2 := (kf ks ρ (cz γ ρ z x) f0)) (st2 := []) (c2 := 3) (s2 := 18) rfl rfl rfl rfl ?_
      refine pv_aload_n C d_S_take_37 rfl 0 rfl ?_
      refine pv_iconst (v := 0) C d_S_take_38 (by decide) ?_
      refine pk_put (ci := 2) C H hin_U tyU tyU_ok nmU rfl MU rfl 7 (by decide) fl_S_154 rfl rfl rfl rfl (Nat.le_of_ble_eq_true rfl) d_S_take_39 ?_
      refine pk_fz (f2 := kf ks ρ (ku (cz γ ρ z x) (4, ix u) (.inr (2, [.ref (ρ (3, zl z (ix u))), .int (z 21 (ix u)), .int (z 22 (ix u)), .int (z 23 (ix u)), .int (z 24 (ix u)), .int (z 25 (ix u)), .int (z 26 (ix u)), .int 0]))) f0) rfl ?_
      obtain ⟨z1, e1⟩ : ∃ q : zT, q = (zs (zs (zs z 0 0 0) 0 0 0) 20 (ix u) (m_plain z (ix u))) := ⟨_, rfl⟩
      obtain ⟨x1, y1⟩ : ∃ q : xT, q = (x.1, x.2.1, upd x.2.2 (ix u) 0) := ⟨_, rfl⟩
      have J1 : cI LP ks ρ z1 x1 := by
        rw [e1, y1]
        exact ⟨H, hV, hz, hJ.1, hJ.2.1, hJ.2.2.1, hJ.2.2.2.1, us_set hJ.2.2.2.2.1 (uS_p (uS_3.mp h3).1), hJ.2.2.2.2.2.1, hJ.2.2.2.2.2.2⟩
      have g1 : ∀ k7 ∈ ks, (ku (cz γ ρ z x) (4, ix u) (.inr (2, [.ref (ρ (3, zl z (ix u))), .int (z 21 (ix u)), .int (z 22 (ix u)), .int (z 23 (ix u)), .int (z 24 (ix u)), .int (z 25 (ix u)), .int (z 26 (ix u)), .int 0]))) k7 = cz γ ρ z1 x1 k7 := by
        intro k7 hk
        rw [e1, y1]
        by_cases q0 : k7 = ((4, ix u) : kT)
        · subst q0
          simp [ku, cz, cU, zs, zl, upd]
        rw [ku_ne _ _ q0]
        exact (((cz_x3 q0 (vK_4 ((hV _).mp hk))).trans ((cz_non (by decide)).trans ((cz_non (by decide)).trans (cz_non (by decide)))))).symm
      refine pk_fz (f2 := cF γ ks ρ z1 x1 f0) (kf_eq g1) ?_
      have hu2 : 1 ≤ ix u ∧ ix u ≤ zU z1 := by rw [e1]; exact hu2
      refine pv_aload_n C d_S_take_42 rfl 0 rfl ?_
      refine pv_callV (n := 0) (As := []) (rest := []) C (c_U_stateNow hl0 J1 (ix u) hu2) cd_U_stateNow ml_S_157 in_U im_U_stateNow se_U_stateNow (H.1 _ MU) ((kf_at H MU).trans rfl) rfl rfl (by decide +kernel) (by decide) rfl (Nat.le_of_ble_eq_true rfl) rfl d_S_take_43 (by decide) hN R0 (fun _ h => h.elim) (fun v9 LP9 f9 h9 => ?_)
      obtain ⟨rfl, w9, w8⟩ := h9
      have w9 := w9.symm
      have w8 := w8.symm
      subst w9
      subst w8
      refine pv_stf (f2 := (kf ks ρ (cz γ ρ z1 x1) f0)) (st2 := [.int (uS (z1 24 (ix u)) (x1.2.2 (ix u)) (z1 15 (zl z1 (ix u))))]) (c2 := 3) (s2 := 18) rfl rfl rfl rfl ?_
      have ev := J1.2.2.2.2.2.2.2.1 (ix u) hu2.1 hu2.2
      exact pv_iret C R0 d_S_take_46 (by decide) (by decide) (cP_re J1 (by subst e1; rfl) rfl (fun _ q => q) (fun k hk => Or.inl ⟨k, hk, rfl⟩) (by rw [← ev, e1]; unfold m_take; rw [if_pos h1, if_pos (show isP p = true from h2), if_pos (hs.trans h3), if_neg (nd_t h5), zs_eq]))
