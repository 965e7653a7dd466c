/-! contracts of the component: sample, close (by wip/whole/gen/c8.py) -/
theorem vd_set {z : zT} {j : Nat} {d : Int32} (hd : d = nI (ix d) ∧ ix d ≤ 5) (h : ∀ i, i < 68 → (z 13 i = nI (ix (z 13 i)) ∧ ix (z 13 i) ≤ 5) ∧ z 14 i = nI (ix (z 14 i)) ∧ ix (z 14 i) ≤ 5) : ∀ i, i < 68 → (z 13 i = nI (ix (z 13 i)) ∧ ix (z 13 i) ≤ 5) ∧ zs z 14 j d 14 i = nI (ix (zs z 14 j d 14 i)) ∧ ix (zs z 14 j d 14 i) ≤ 5 := by
  intro i hi
  refine ⟨(h i hi).1, ?_⟩
  by_cases e : i = j
  · rw [e, zs_eq]
    exact hd
  · rw [zs_j z _ e]
    exact (h i hi).2
theorem sm_v {z : zT} {x : xT} {j : Nat} (hJ : zJ z x) (hj : j < 68) (h : ¬ m_open z j ≤ 0) : z 14 j + 1 = nI (ix (z 14 j + 1)) ∧ ix (z 14 j + 1) ≤ 5 := by
  obtain ⟨⟨a1, a2⟩, b1, b2⟩ := hJ.2.2.2.2.2.1 j hj
  have q : ¬ z 13 j ≤ z 14 j := fun w => h (by unfold m_open; rw [if_pos w]; decide)
  rw [a1, b1] at q
  have q2 : ix (z 14 j) < ix (z 13 j) := Nat.not_le.mp (fun w => q (nI_le w (by omega)))
  rw [b1, nI_next, ix_nI (by omega)]
  exact ⟨rfl, by omega⟩
theorem op_0 {z : zT} {x : xT} {j : Nat} (hJ : zJ z x) (hj : j < 68) (h : m_open z j ≤ 0) : m_open z j = 0 := by
  obtain ⟨⟨a1, a2⟩, b1, b2⟩ := hJ.2.2.2.2.2.1 j hj
  unfold m_open at h ⊢
  by_cases q : z 13 j ≤ z 14 j
  · rw [if_pos q]
  · rw [if_neg q] at h
    rw [a1, b1] at q h
    have q2 : ix (z 14 j) < ix (z 13 j) := Nat.not_le.mp (fun w => q (nI_le w (by omega)))
    rw [pk_sub (by omega)] at h
    have := (nI_leI (b := 0) (by omega) (by omega)).mp h
    omega
theorem qn_row {ln : Int32} : ∀ (n t : Nat) (q : zT) (a : Nat), a ≠ 20 → m_qn ln n t q a = q a
  | 0, _, _, _, _ => rfl
  | n + 1, t, q, a, ha => by
    rw [m_qn]
    (repeat' split)
    · rw [qn_row n (t + 1) _ a ha, zs_row q _ ha]
    · exact qn_row n (t + 1) q a ha
    · exact qn_row n (t + 1) q a ha
theorem qn_20 {ln : Int32} : ∀ (n t : Nat) (q : zT) (u : Nat), m_qn ln n t q 20 u = if (t < u ∧ u ≤ t + n) ∧ q 19 u = ln ∧ q 20 u = 0 then 2 else q 20 u
  | 0, t, q, u => by rw [m_qn, if_neg (fun w => absurd w.1 (by omega))]
  | n + 1, t, q, u => by
    rw [m_qn]
    by_cases hu : u = t + 1
    · subst hu
      by_cases h1 : q 19 (t + 1) = ln
      · by_cases h2 : q 20 (t + 1) = 0
        · rw [if_pos h1, if_pos h2, qn_20 n (t + 1), if_neg (fun w => absurd w.1 (by omega)), zs_eq, if_pos ⟨⟨by omega, by omega⟩, h1, h2⟩]
        · rw [if_pos h1, if_neg h2, qn_20 n (t + 1), if_neg (fun w => absurd w.1 (by omega)), if_neg (fun w => h2 w.2.2)]
      · rw [if_neg h1, qn_20 n (t + 1), if_neg (fun w => absurd w.1 (by omega)), if_neg (fun w => h1 w.2.1)]
    · have key : ∀ q' : zT, q' 19 u = q 19 u → q' 20 u = q 20 u → m_qn ln n (t + 1) q' 20 u = if (t < u ∧ u ≤ t + (n + 1)) ∧ q 19 u = ln ∧ q 20 u = 0 then 2 else q 20 u := by
        intro q' e1 e2
        rw [qn_20 n (t + 1), e1, e2]
        by_cases hr : (t < u ∧ u ≤ t + (n + 1)) ∧ q 19 u = ln ∧ q 20 u = 0
        · rw [if_pos hr, if_pos ⟨by have := hr.1; omega, hr.2⟩]
        · rw [if_neg hr, if_neg (fun w => hr ⟨by have := w.1; omega, w.2⟩)]
      by_cases h1 : q 19 (t + 1) = ln
      · by_cases h2 : q 20 (t + 1) = 0
        · rw [if_pos h1, if_pos h2]
          exact key (zs q 20 (t + 1) 2) (zs_k _ _ (by decide)) (zs_j _ _ hu)
        · rw [if_pos h1, if_neg h2]
          exact key q rfl rfl
      · rw [if_neg h1]
        exact key q rfl rfl
theorem cz_20 {γ : Nat → ClassId} {ρ : kT → Nat} {z z' : zT} {x : xT} (h : ∀ a, a ≠ 20 → z' a = z a) : cz γ ρ z' x = cz γ ρ z x := by
  have r := fun k (hk : k ≠ 20) => h k hk
  have hS : cS ρ z' x = cS ρ z x := by simp only [cS, r 3 (by decide), r 18 (by decide), r 27 (by decide), r 29 (by decide), r 28 (by decide), r 1 (by decide)]
  have hA : ∀ i, cA ρ z' i = cA ρ z i := fun i => by simp only [cA, r 4 (by decide), r 5 (by decide), r 6 (by decide), r 7 (by decide), r 8 (by decide)]
  have hN : ∀ i, cN ρ z' x i = cN ρ z x i := fun i => by simp only [cN, r 9 (by decide), r 10 (by decide), r 11 (by decide), r 12 (by decide), r 13 (by decide), r 14 (by decide), r 15 (by decide), r 16 (by decide)]
  have hU : ∀ i, cU ρ z' x i = cU ρ z x i := fun i => by simp only [cU, zl, r 19 (by decide), r 21 (by decide), r 22 (by decide), r 23 (by decide), r 24 (by decide), r 25 (by decide), r 26 (by decide)]
  have h1 : gA ρ z' = gA ρ z := by funext i; simp only [gA, zA, r 3 (by decide)]
  have h2 : gU ρ z' = gU ρ z := by funext i; simp only [gU, zU, r 18 (by decide)]
  have h3 : gD ρ z' = gD ρ z := by funext i; simp only [gD, zD, r 29 (by decide), r 30 (by decide)]
  have h4 : ∀ i, gL ρ z' i = gL ρ z i := fun i => by funext j; simp only [gL, zt, r 6 (by decide)]
  funext k
  simp only [cz, hS, hA, hN, hU, h1, h2, h3, h4]
theorem cI_20 {LP : List Nat} {ks : List kT} {ρ : kT → Nat} {z z' : zT} {x : xT} (h : ∀ a, a ≠ 20 → z' a = z a) (H : kH ks ρ LP) (hV : ∀ k, k ∈ ks ↔ vK z k) (hz : zI z) (j1 : ∀ u, 1 ≤ u → u ≤ zU z → vK z (3, zl z u)) (j2 : ∀ i, i < zD z → vK z (3, ix (z 30 i))) (j3 : ∀ p, p ≤ 7 → (x.1 &&& bitI (nI p) = 0 ↔ z 2 p = 0)) (j4 : ∀ i p, i < 68 → p ≤ 7 → (x.2.1 i &&& bitI (nI p) = 0 ↔ z 17 (8 * i + p) = 0)) (j5 : ∀ u, 1 ≤ u → u ≤ zU z → z' 20 u = uS (z 24 u) (x.2.2 u) (z 15 (zl z u))) (j6 : ∀ i, i < 68 → (z 13 i = nI (ix (z 13 i)) ∧ ix (z 13 i) ≤ 5) ∧ z 14 i = nI (ix (z 14 i)) ∧ ix (z 14 i) ≤ 5) (j7 : zF z) : cI LP ks ρ z' x := by
  have r := fun k (hk : k ≠ 20) => h k hk
  have ev : ∀ k, vK z' k ↔ vK z k := fun k => by simp only [vK, zA, zU, zt, r 3 (by decide), r 6 (by decide), r 18 (by decide)]
  refine ⟨H, fun k => (hV k).trans (ev k).symm, ?_, ?_⟩
  · simp only [zI, zA, zU, zD, zt, zl, r 3 (by decide), r 18 (by decide), r 29 (by decide), r 6 (by decide), r 5 (by decide), r 19 (by decide), r 30 (by decide)]
    exact hz
  · refine ⟨fun u h1 h2 => (ev _).mpr ?_, fun i h1 => (ev _).mpr ?_, ?_, ?_, ?_, ?_, ?_⟩
    · simp only [zU, zl, r 18 (by decide), r 19 (by decide)] at h2 ⊢
      exact j1 u h1 h2
    · simp only [zD, r 29 (by decide), r 30 (by decide)] at h1 ⊢
      exact j2 i h1
    · rw [r 2 (by decide)]; exact j3
    · rw [r 17 (by decide)]; exact j4
    · simp only [zU, zl, r 18 (by decide), r 19 (by decide), r 24 (by decide), r 15 (by decide)]
      exact j5
    · simp only [r 13 (by decide), r 14 (by decide)]
      exact j6
    · simp only [zF, ev, zA, zU, r 3 (by decide), r 6 (by decide), r 7 (by decide), r 11 (by decide), r 12 (by decide), r 13 (by decide), r 14 (by decide), r 15 (by decide), r 16 (by decide), r 17 (by decide), r 18 (by decide), r 24 (by decide), r 25 (by decide), r 26 (by decide)]
      exact j7
theorem sm_bad {LP : List Nat} {ks : List kT} {ρ : kT → Nat} {z : zT} {x : xT} (J : cI LP ks ρ z x) {j : Nat} {ln v : Int32} (hv : vK z (3, j)) (hl : ln = nI j) (hw : v = nI (ix v) ∧ ix v ≤ 5) : cI LP ks ρ (m_qn ln (zU z) 0 (zs (zs (zs (zs z 0 0 0) 0 0 0) 14 j v) 15 j 1)) x := by
  obtain ⟨H, hV, hz, hJ⟩ := J
  have hj := vK_lt hz hv
  refine cI_20 (z := zs (zs (zs (zs z 0 0 0) 0 0 0) 14 j v) 15 j 1) (fun a ha => qn_row _ _ _ _ ha) H hV hz hJ.1 hJ.2.1 hJ.2.2.1 hJ.2.2.2.1 (fun u h1 h2 => ?_) (vd_set hw hJ.2.2.2.2.2.1) (zF_line (by decide) (by decide) hv (zF_line (by decide) (by decide) hv hJ.2.2.2.2.2.2))
  have h2 : u ≤ zU z := h2
  have e1 := hz.2.2.2.2.1 u h1 h2
  have e2 := hJ.2.2.2.2.1 u h1 h2
  rw [qn_20]
  show (if (0 < u ∧ u ≤ 0 + zU z) ∧ z 19 u = ln ∧ z 20 u = 0 then (2 : Int32) else z 20 u) = uS (z 24 u) (x.2.2 u) (zs (zs (zs (zs z 0 0 0) 0 0 0) 14 j v) 15 j 1 15 (zl z u))
  by_cases q : zl z u = j
  · rw [q, zs_eq]
    have e3 : z 19 u = ln := by rw [e1.1, q, hl]
    rw [e2, e3]
    unfold uS
    by_cases w1 : z 24 u = 0
    · by_cases w2 : x.2.2 u = 0
      · by_cases w3 : z 15 (zl z u) = 0
        · rw [if_pos w1, if_pos w2, if_pos w3, if_pos ⟨⟨h1, by omega⟩, rfl, rfl⟩]
          rw [if_pos w1, if_pos w2, if_neg (by decide)]
        · simp [w1, w2, w3]
      · simp [w1, w2]
    · simp [w1]
  · rw [zs_j _ _ q, if_neg (fun w => q (nI_inj (by omega) (by omega) (by rw [← e1.1, w.2.1, hl])))]
    exact e2
abbrev rm_S_sample : Room := { frames := 8, cells := 3, slots := 18, locals := 136 }
set_option maxRecDepth 100000 in
set_option maxHeartbeats 4000000 in
theorem c_S_sample {l0 : Launch} {D : va_G} {γ : Nat → ClassId} (hl0 : l0.stackTraces = false) {LP : List Nat} {ks : List kT} {ρ : kT → Nat} {z : zT} {x : xT} {f0 : Nat → va_E} (J : cI LP ks ρ z x) (a : Int32) (n : Int32) (b : Bool)  : pv_M l0 D (tys_ γ) y_S_sample (Cond.code y_S_sample b_S_sample 5 (Option.some FieldType.int)) rm_S_sample [.ref (ρ (0, 0)), .int a, .int n, .int (bN b)] LP (cF γ ks ρ z x f0) (cPost γ LP ks ρ f0 (some (.int (m_sample z a n b).1)) (m_sample z a n b).2) (cThr [eNS, eIS] z ((m_sample z a n b).2)) := by
  refine pv_mk hl0 (by decide) (Nat.le_of_ble_eq_true rfl) (fun κ C R0 hN _ => ?_)
  obtain ⟨H, hV, hz, hJ⟩ := id J
  have M0 : ((0, 0) : kT) ∈ ks := (hV _).mpr (Nat.zero_le _)
  have M1 : ((0, 1) : kT) ∈ ks := (hV _).mpr (by decide : 1 ≤ 3)
  have M2 : ((0, 2) : kT) ∈ ks := (hV _).mpr (by decide : 2 ≤ 3)
  have M3 : ((0, 3) : kT) ∈ ks := (hV _).mpr (by decide : 3 ≤ 3)
  show pv_V D κ 0 0 LP (cF γ ks ρ z x f0) 0 [(0, .ref (ρ (0, 0))), (1, .int a), (2, .int n), (3, .int (bN b))] []
  refine pv_aload_n C d_S_sample_0 rfl 0 rfl ?_
  refine pv_iload_n C d_S_sample_1 rfl 1 rfl ?_
  refine pv_iload_n C d_S_sample_2 rfl 2 rfl ?_
  refine pv_callV (n := 2) (As := [.int a, .int n]) (rest := []) C (c_S_lineOf hl0 J a n) cd_S_lineOf ml_S_80 in_S im_S_lineOf se_S_lineOf (H.1 _ M0) ((kf_at H M0).trans rfl) rfl rfl (by decide +kernel) (by decide) rfl (Nat.le_of_ble_eq_true rfl) rfl d_S_sample_3 (by decide) hN R0 (fun E h => ⟨by rw [h.1]; exact cT_any 0 1 rfl rfl (by unfold m_sample; rw [if_neg (nT h.2)]; first | exact Or.inl rfl | exact Or.inr rfl), rfl, rfl⟩) (fun v9 LP9 f9 h9 => ?_)
  obtain ⟨⟨rfl, w9, w8⟩, h1⟩ := h9
  have w9 := w9.symm
  have w8 := w8.symm
  subst w9
  subst w8
  have hL := isL_ix hz h1
  have hvN : vK z (3, 4 * ix a + ix n) := vK_line hL.1.2.1 hL.1.2.2.1 hL.2.2.1 hL.2.2.2
  have MN : ((3, 4 * ix a + ix n) : kT) ∈ ks := (hV _).mpr hvN
  have hA := hL.1
  have h68 := vK_lt hz hvN
  have h4 : (4 * ix a + ix n) / 4 = ix a := by omega
  have MA : ((1, ix a) : kT) ∈ ks := (hV _).mpr ⟨hA.2.1, hA.2.2.1⟩
  have hln : 4 * a + n = nI (4 * ix a + ix n) := ln_ix hL.1.1 hL.2.1
  refine pv_stf (f2 := (kf ks ρ (cz γ ρ z x) f0)) (st2 := [.ref (ρ (3, 4 * ix a + ix n))]) (c2 := 2) (s2 := 12) rfl rfl rfl rfl ?_
  refine pv_astore (lv' := [(4, .ref (ρ (3, 4 * ix a + ix n))), (0, .ref (ρ (0, 0))), (1, .int a), (2, .int n), (3, .int (bN b))]) C d_S_sample_6 (by decide) rfl ?_
  refine pv_aload C d_S_sample_8 0 rfl ?_
  refine pv_get (v := .ref (ρ (1, (4 * ix a + ix n) / 4))) (ci := 1) C hin_N rfl (H.1 _ MN) ((kf_at H MN).trans rfl) 0 (by decide) fl_S_131 rfl rfl d_S_sample_10 ?_
  refine pv_stf (f2 := (kf ks ρ (cz γ ρ z x) f0)) (st2 := [.ref (ρ (1, ix a))]) rfl (by rw [h4]) rfl rfl ?_
  refine pv_callV (n := 0) (As := []) (rest := []) C (c_A_hasArrived hl0 J (ix a) ⟨hA.2.1, hA.2.2.1⟩) cd_A_hasArrived ml_S_135 in_A im_A_hasArrived se_A_hasArrived (H.1 _ MA) ((kf_at H MA).trans rfl) rfl rfl (by decide +kernel) (by decide) rfl (Nat.le_of_ble_eq_true rfl) rfl d_S_sample_13 (by decide) hN R0 (fun _ h => h.elim) (fun v9 LP9 f9 h9 => ?_)
  obtain ⟨rfl, w9, w8⟩ := h9
  have w9 := w9.symm
  have w8 := w8.symm
  subst w9
  subst w8
  refine pv_stf (f2 := (kf ks ρ (cz γ ρ z x) f0)) (st2 := [.int (bN (decide (z 7 (ix a) = 1)))]) (c2 := 2) (s2 := 12) rfl rfl rfl rfl ?_
  refine pv_ifb_eq (tgt := 39) C d_S_sample_16 (by decide) (fun h2 => ?_) (fun h2 => ?_)
  · refine pv_iconst (v := 0) C d_S_sample_39 (by decide) ?_
    refine pv_callS (n := 1) (As := [.int 0]) (rest := []) C (c_S_mustHold hl0 false) cd_S_mustHold ml_S_55 in_S sm_S_mustHold (by decide +kernel) (by decide) rfl (Nat.le_of_ble_eq_true rfl) rfl d_S_sample_40 (by decide) hN R0 (fun E h => ⟨by rw [h.1]; exact cT_any 1 2 rfl rfl (by unfold m_sample; rw [if_pos h1, if_neg (of_decide_eq_false h2)]; first | exact Or.inl rfl | exact Or.inr rfl), rfl, rfl⟩) (fun v9 LP9 f9 h9 => ?_)
    obtain ⟨⟨rfl, w9, w8⟩, h3⟩ := h9
    have w9 := w9.symm
    have w8 := w8.symm
    subst w9
    subst w8
    exact absurd h3 (by decide)
  · refine pv_aload C d_S_sample_19 0 rfl ?_
    refine pv_get (v := .int (z 16 (4 * ix a + ix n))) (ci := 1) C hin_N rfl (H.1 _ MN) ((kf_at H MN).trans rfl) 10 (by decide) fl_S_84 rfl rfl d_S_sample_21 ?_
    refine pv_if_ne (tgt := 39) C d_S_sample_24 (by decide) (fun h4 => ?_) (fun h4 => ?_)
    · refine pv_iconst (v := 0) C d_S_sample_39 (by decide) ?_
      refine pv_callS (n := 1) (As := [.int 0]) (rest := []) C (c_S_mustHold hl0 false) cd_S_mustHold ml_S_55 in_S sm_S_mustHold (by decide +kernel) (by decide) rfl (Nat.le_of_ble_eq_true rfl) rfl d_S_sample_40 (by decide) hN R0 (fun E h => ⟨by rw [h.1]; exact cT_any 1 2 rfl rfl (by unfold m_sample; rw [if_pos h1, if_pos (of_decide_eq_true h2), if_neg h4]; first | exact Or.inl rfl | exact Or.inr rfl), rfl, rfl⟩) (fun v9 LP9 f9 h9 => ?_)
      obtain ⟨⟨rfl, w9, w8⟩, h5⟩ := h9
      have w9 := w9.symm
      have w8 := w8.symm
      subst w9
      subst w8
      exact absurd h5 (by decide)
    · refine pv_aload C d_S_sample_27 0 rfl ?_
      refine pv_callV (n := 0) (As := []) (rest := []) C (c_N_openSamples hl0 J (4 * ix a + ix n) hvN) cd_N_openSamples ml_S_138 in_N im_N_openSamples se_N_openSamples (H.1 _ MN) ((kf_at H MN).trans rfl) rfl rfl (by decide +kernel) (by decide) rfl (Nat.le_of_ble_eq_true rfl) rfl d_S_sample_29 (by decide) hN R0 (fun _ h => h.elim) (fun v9 LP9 f9 h9 => ?_)
      obtain ⟨rfl, w9, w8⟩ := h9
      have w9 := w9.symm
      have w8 := w8.symm
      subst w9
      subst w8
      refine pv_stf (f2 := (kf ks ρ (cz γ ρ z x) f0)) (st2 := [.int (m_open z (4 * ix a + ix n))]) (c2 := 2) (s2 := 12) rfl rfl rfl rfl ?_
      refine pv_if_le (tgt := 39) C d_S_sample_32 (by decide) (fun h6 => ?_) (fun h6 => ?_)
      · refine pv_iconst (v := 0) C d_S_sample_39 (by decide) ?_
        refine pv_callS (n := 1) (As := [.int 0]) (rest := []) C (c_S_mustHold hl0 false) cd_S_mustHold ml_S_55 in_S sm_S_mustHold (by decide +kernel) (by decide) rfl (Nat.le_of_ble_eq_true rfl) rfl d_S_sample_40 (by decide) hN R0 (fun E h => ⟨by rw [h.1]; exact cT_any 1 2 rfl rfl (by unfold m_sample; rw [if_pos h1, if_pos (of_decide_eq_true h2), if_pos h4, if_pos (op_0 hJ h68 h6)]; first | exact Or.inl rfl | exact Or.inr rfl), rfl, rfl⟩) (fun v9 LP9 f9 h9 => ?_)
        obtain ⟨⟨rfl, w9, w8⟩, h7⟩ := h9
        have w9 := w9.symm
        have w8 := w8.symm
        subst w9
        subst w8
        exact absurd h7 (by decide)
      · refine pv_iconst (v := 1) C d_S_sample_35 (by decide) ?_
        refine pv_goto (tgt := 40) C d_S_sample_36 (by decide) ?_
        refine pv_callS (n := 1) (As := [.int 1]) (rest := []) C (c_S_mustHold hl0 true) cd_S_mustHold ml_S_55 in_S sm_S_mustHold (by decide +kernel) (by decide) rfl (Nat.le_of_ble_eq_true rfl) rfl d_S_sample_40 (by decide) hN R0 (fun E h => absurd h.2 (by decide)) (fun v9 LP9 f9 h9 => ?_)
        obtain ⟨⟨rfl, w9, w8⟩, h8⟩ := h9
        have w9 := w9.symm
        have w8 := w8.symm
        subst w9
        subst w8
        refine pv_stf (f2 := (kf ks ρ (cz γ ρ z x) f0)) (st2 := []) (c2 := 3) (s2 := 18) rfl rfl rfl rfl ?_
        refine pv_aload C d_S_sample_43 0 rfl ?_
        refine pv_dup C d_S_sample_45 rfl ?_
        refine pv_get (v := .int (z 14 (4 * ix a + ix n))) (ci := 1) C hin_N rfl (H.1 _ MN) ((kf_at H MN).trans rfl) 6 (by decide) fl_S_142 rfl rfl d_S_sample_46 ?_
        refine pv_iconst (v := 1) C d_S_sample_49 (by decide) ?_
        refine pv_iadd C d_S_sample_50 ?_
        refine pk_put (ci := 1) C H hin_N tyN tyN_ok nmN rfl MN rfl 6 (by decide) fl_S_142 rfl rfl rfl rfl (Nat.le_of_ble_eq_true rfl) d_S_sample_51 ?_
        refine pk_fz (f2 := kf ks ρ (ku (cz γ ρ z x) (3, 4 * ix a + ix n) (.inr (1, [.ref (ρ (1, (4 * ix a + ix n) / 4)), .int (nI ((4 * ix a + ix n) % 4)), .int (z 9 (4 * ix a + ix n)), .int (z 10 (4 * ix a + ix n)), .int (z 11 (4 * ix a + ix n)), .int (z 13 (4 * ix a + ix n)), .int ((z 14 (4 * ix a + ix n)) + 1), .int (z 12 (4 * ix a + ix n)), .int (x.2.1 (4 * ix a + ix n)), .int (z 15 (4 * ix a + ix n)), .int (z 16 (4 * ix a + ix n))]))) f0) rfl ?_
        refine pv_iload_n C d_S_sample_54 rfl 4 rfl ?_
        refine pv_ifb_ne (tgt := 64) C d_S_sample_55 (by decide) (fun h9 => ?_) (fun h9 => ?_)
        · obtain ⟨z1, e1⟩ : ∃ q : zT, q = (zs (zs (zs z 0 0 0) 0 0 0) 14 (4 * ix a + ix n) ((z 14 (4 * ix a + ix n)) + 1)) := ⟨_, rfl⟩
          obtain ⟨x1, y1⟩ : ∃ q : xT, q = x := ⟨_, rfl⟩
          have J1 : cI LP ks ρ z1 x1 := by
            rw [e1, y1]
            exact ⟨H, hV, hz, hJ.1, hJ.2.1, hJ.2.2.1, hJ.2.2.2.1, hJ.2.2.2.2.1, vd_set (sm_v hJ h68 h6) hJ.2.2.2.2.2.1, (show zF (zs (zs (zs z 0 0 0) 0 0 0) 14 (4 * ix a + ix n) ((z 14 (4 * ix a + ix n)) + 1)) from zF_line (by decide) (by decide) hvN hJ.2.2.2.2.2.2)⟩
          have g1 : ∀ k7 ∈ ks, (ku (cz γ ρ z x) (3, 4 * ix a + ix n) (.inr (1, [.ref (ρ (1, (4 * ix a + ix n) / 4)), .int (nI ((4 * ix a + ix n) % 4)), .int (z 9 (4 * ix a + ix n)), .int (z 10 (4 * ix a + ix n)), .int (z 11 (4 * ix a + ix n)), .int (z 13 (4 * ix a + ix n)), .int ((z 14 (4 * ix a + ix n)) + 1), .int (z 12 (4 * ix a + ix n)), .int (x.2.1 (4 * ix a + ix n)), .int (z 15 (4 * ix a + ix n)), .int (z 16 (4 * ix a + ix n))]))) k7 = cz γ ρ z1 x1 k7 := by
            intro k7 hk
            rw [e1, y1]
            by_cases q0 : k7 = ((3, 4 * ix a + ix n) : kT)
            · subst q0
              simp [ku, cz, cN, zs, zl, upd]
            rw [ku_ne _ _ q0]
            exact (((cz_line (by decide) (by decide) q0).trans ((cz_non (by decide)).trans (cz_non (by decide))))).symm
          refine pk_fz (f2 := cF γ ks ρ z1 x1 f0) (kf_eq g1) ?_
          have hvN1 : vK z1 (3, 4 * ix a + ix n) := ((J1.2.1 _).mp MN)
          refine pv_aload C d_S_sample_64 0 rfl ?_
          refine pv_callV (n := 0) (As := []) (rest := []) C (c_N_openSamples hl0 J1 (4 * ix a + ix n) hvN1) cd_N_openSamples ml_S_138 in_N im_N_openSamples se_N_openSamples (H.1 _ MN) ((kf_at H MN).trans rfl) rfl rfl (by decide +kernel) (by decide) rfl (Nat.le_of_ble_eq_true rfl) rfl d_S_sample_66 (by decide) hN R0 (fun _ h => h.elim) (fun v9 LP9 f9 h9 => ?_)
          obtain ⟨rfl, w9, w8⟩ := h9
          have w9 := w9.symm
          have w8 := w8.symm
          subst w9
          subst w8
          refine pv_stf (f2 := (kf ks ρ (cz γ ρ z1 x1) f0)) (st2 := [.int (m_open z1 (4 * ix a + ix n))]) (c2 := 3) (s2 := 18) rfl rfl rfl rfl ?_
          exact pv_iret C R0 d_S_sample_69 (by decide) (by decide) (cP_re J1 (by subst e1; rfl) rfl (fun _ q => q) (fun k hk => Or.inl ⟨k, hk, rfl⟩) (by rw [e1]; unfold m_sample; rw [if_pos h1, if_pos (of_decide_eq_true h2), if_pos h4, if_neg (fun q => h6 (by rw [q]; decide)), if_pos h9]))
        · refine pv_aload C d_S_sample_58 0 rfl ?_
          refine pv_iconst (v := 1) C d_S_sample_60 (by decide) ?_
          refine pk_put (ci := 1) C H hin_N tyN tyN_ok nmN rfl MN (ku_eq _ _ _) 9 (by decide) fl_S_145 rfl rfl rfl rfl (Nat.le_of_ble_eq_true rfl) d_S_sample_61 ?_
          refine pk_fz (f2 := kf ks ρ (ku (ku (cz γ ρ z x) (3, 4 * ix a + ix n) (.inr (1, [.ref (ρ (1, (4 * ix a + ix n) / 4)), .int (nI ((4 * ix a + ix n) % 4)), .int (z 9 (4 * ix a + ix n)), .int (z 10 (4 * ix a + ix n)), .int (z 11 (4 * ix a + ix n)), .int (z 13 (4 * ix a + ix n)), .int ((z 14 (4 * ix a + ix n)) + 1), .int (z 12 (4 * ix a + ix n)), .int (x.2.1 (4 * ix a + ix n)), .int (z 15 (4 * ix a + ix n)), .int (z 16 (4 * ix a + ix n))]))) (3, 4 * ix a + ix n) (.inr (1, [.ref (ρ (1, (4 * ix a + ix n) / 4)), .int (nI ((4 * ix a + ix n) % 4)), .int (z 9 (4 * ix a + ix n)), .int (z 10 (4 * ix a + ix n)), .int (z 11 (4 * ix a + ix n)), .int (z 13 (4 * ix a + ix n)), .int ((z 14 (4 * ix a + ix n)) + 1), .int (z 12 (4 * ix a + ix n)), .int (x.2.1 (4 * ix a + ix n)), .int 1, .int (z 16 (4 * ix a + ix n))]))) f0) rfl ?_
          obtain ⟨z1, e1⟩ : ∃ q : zT, q = m_qn ((4 * a) + n) (zU z) 0 (zs (zs (zs (zs z 0 0 0) 0 0 0) 14 (4 * ix a + ix n) ((z 14 (4 * ix a + ix n)) + 1)) 15 (4 * ix a + ix n) 1) := ⟨_, rfl⟩
          obtain ⟨x1, y1⟩ : ∃ q : xT, q = x := ⟨_, rfl⟩
          have J1 : cI LP ks ρ z1 x1 := by
            rw [e1, y1]
            exact sm_bad J hvN hln (sm_v hJ h68 h6)
          have g1 : ∀ k7 ∈ ks, (ku (ku (cz γ ρ z x) (3, 4 * ix a + ix n) (.inr (1, [.ref (ρ (1, (4 * ix a + ix n) / 4)), .int (nI ((4 * ix a + ix n) % 4)), .int (z 9 (4 * ix a + ix n)), .int (z 10 (4 * ix a + ix n)), .int (z 11 (4 * ix a + ix n)), .int (z 13 (4 * ix a + ix n)), .int ((z 14 (4 * ix a + ix n)) + 1), .int (z 12 (4 * ix a + ix n)), .int (x.2.1 (4 * ix a + ix n)), .int (z 15 (4 * ix a + ix n)), .int (z 16 (4 * ix a + ix n))]))) (3, 4 * ix a + ix n) (.inr (1, [.ref (ρ (1, (4 * ix a + ix n) / 4)), .int (nI ((4 * ix a + ix n) % 4)), .int (z 9 (4 * ix a + ix n)), .int (z 10 (4 * ix a + ix n)), .int (z 11 (4 * ix a + ix n)), .int (z 13 (4 * ix a + ix n)), .int ((z 14 (4 * ix a + ix n)) + 1), .int (z 12 (4 * ix a + ix n)), .int (x.2.1 (4 * ix a + ix n)), .int 1, .int (z 16 (4 * ix a + ix n))]))) k7 = cz γ ρ z1 x1 k7 := by
            intro k7 hk
            rw [e1, y1]
            rw [cz_20 (fun a ha => qn_row _ _ _ _ ha)]
            by_cases q0 : k7 = ((3, 4 * ix a + ix n) : kT)
            · subst q0
              simp [ku, cz, cN, zs, zl, upd]
            rw [ku_ne _ _ q0, ku_ne _ _ q0]
            exact (((cz_line (by decide) (by decide) q0).trans ((cz_line (by decide) (by decide) q0).trans ((cz_non (by decide)).trans (cz_non (by decide)))))).symm
          refine pk_fz (f2 := cF γ ks ρ z1 x1 f0) (kf_eq g1) ?_
          have hvN1 : vK z1 (3, 4 * ix a + ix n) := ((J1.2.1 _).mp MN)
          refine pv_aload C d_S_sample_64 0 rfl ?_
          refine pv_callV (n := 0) (As := []) (rest := []) C (c_N_openSamples hl0 J1 (4 * ix a + ix n) hvN1) cd_N_openSamples ml_S_138 in_N im_N_openSamples se_N_openSamples (H.1 _ MN) ((kf_at H MN).trans rfl) rfl rfl (by decide +kernel) (by decide) rfl (Nat.le_of_ble_eq_true rfl) rfl d_S_sample_66 (by decide) hN R0 (fun _ h => h.elim) (fun v9 LP9 f9 h9 => ?_)
          obtain ⟨rfl, w9, w8⟩ := h9
          have w9 := w9.symm
          have w8 := w8.symm
          subst w9
          subst w8
          refine pv_stf (f2 := (kf ks ρ (cz γ ρ z1 x1) f0)) (st2 := [.int (m_open z1 (4 * ix a + ix n))]) (c2 := 3) (s2 := 18) rfl rfl rfl rfl ?_
          exact pv_iret C R0 d_S_sample_69 (by decide) (by decide) (cP_re J1 (by subst e1; rw [qn_row _ _ _ _ (by decide)]; rfl) rfl (fun _ q => q) (fun k hk => Or.inl ⟨k, hk, rfl⟩) (by rw [e1]; unfold m_sample; rw [if_pos h1, if_pos (of_decide_eq_true h2), if_pos h4, if_neg (fun q => h6 (by rw [q]; decide)), if_neg (nT h9)]))
/-- the state with a difference noted -/
def ndz (z : zT) (j : Nat) : zT := zs (zs z 30 (zD z) (nI j)) 29 0 (z 29 0 + 1)
def nd (z : zT) (j : Nat) : zT := if z 12 j = z 10 j then z else ndz z j
theorem ndz_D {z : zT} {j : Nat} (hz : zI z) (hd : zD z < 64) : ndz z j 29 0 = nI (zD z + 1) ∧ zD (ndz z j) = zD z + 1 := by
  have e : ndz z j 29 0 = nI (zD z + 1) := by
    unfold ndz
    rw [zs_eq, hz.2.2.1.1, nI_next]
  exact ⟨e, by rw [zD, e, ix_nI (by omega)]⟩
theorem ndz_30 {z : zT} {j i : Nat} : ndz z j 30 i = if i = zD z then nI j else z 30 i := by
  unfold ndz
  rw [zs_k _ _ (by decide)]
  by_cases h : i = zD z
  · rw [h, zs_eq, if_pos rfl]
  · rw [zs_j _ _ h, if_neg h]
theorem ndz_row {z : zT} {j a : Nat} (h1 : a ≠ 29) (h2 : a ≠ 30) : ndz z j a = z a := by
  unfold ndz
  rw [zs_row _ _ h1, zs_row _ _ h2]
theorem gD_nd {ρ : kT → Nat} {z : zT} {j : Nat} (hz : zI z) (hd : zD z < 64) (hj : j < 68) : va_up (gD ρ z) (zD z) (some (ρ (3, j))) = gD ρ (ndz z j) := by
  funext i
  unfold gD
  rw [(ndz_D hz hd).2, ndz_30]
  by_cases h : i = zD z
  · subst h
    rw [va_up_self, if_pos (by omega), if_pos rfl, ix_nI (by omega)]
  · rw [va_up_ne _ _ h, if_neg h]
    by_cases h2 : i < zD z
    · rw [if_pos h2, if_pos (by omega)]
    · rw [if_neg h2, if_neg (by omega)]
theorem nd_cz {γ : Nat → ClassId} {ρ : kT → Nat} {z : zT} {x : xT} {j : Nat} (hz : zI z) (hd : zD z < 64) (hj : j < 68) {k : kT} (hk : vK z k) : (ku (ku (cz γ ρ z x) (0, 3) (.inl (γ 1, 64, .inr (.inr (.inr (.inr (va_up (gD ρ z) (zD z) (some (ρ (3, j)))))))))) (0, 0) (.inr (3, [.ref (ρ (0, 1)), .ref (ρ (0, 2)), .ref (ρ (0, 3)), .int (z 3 0), .int (z 18 0), .int (z 27 0), .int (z 29 0 + 1), .int (z 28 0), .int (z 1 0), .int x.1]))) k = cz γ ρ (ndz z j) x k := by
  have r : ∀ a, (a ≠ 29 ∧ a ≠ 30) → ndz z j a = z a := fun a h => ndz_row h.1 h.2
  rw [gD_nd hz hd hj]
  obtain ⟨p, i⟩ := k
  match p, i, hk with
  | 0, 0, _ =>
    rw [ku_eq]
    show _ = Sum.inr (3, cS ρ _ x)
    simp only [cS, r 3 (by decide), r 18 (by decide), r 27 (by decide), r 28 (by decide), r 1 (by decide), (ndz_D hz hd).1, hz.2.2.1.1, nI_next]
  | 0, 1, _ =>
    rw [ku_ne _ _ (by decide), ku_ne _ _ (by decide)]
    show Sum.inl (γ 0, 16, _) = Sum.inl (γ 0, 16, _)
    rw [show gA ρ (ndz z j) = gA ρ z by funext i; simp only [gA, zA, r 3 (by decide)]]
  | 0, 2, _ =>
    rw [ku_ne _ _ (by decide), ku_ne _ _ (by decide)]
    show Sum.inl (γ 2, 120, _) = Sum.inl (γ 2, 120, _)
    rw [show gU ρ (ndz z j) = gU ρ z by funext i; simp only [gU, zU, r 18 (by decide)]]
  | 0, 3, _ =>
    rw [ku_ne _ _ (by decide), ku_eq]
    rfl
  | 0, n + 4, h => exact absurd (show n + 4 ≤ 3 from h) (by omega)
  | 1, i, _ =>
    rw [ku_ne _ _ (fun q => absurd (congrArg Prod.fst q) (show ¬ (1 : Nat) = 0 by decide)), ku_ne _ _ (fun q => absurd (congrArg Prod.fst q) (show ¬ (1 : Nat) = 0 by decide))]
    show Sum.inr (0, cA ρ z i) = Sum.inr (0, cA ρ _ i)
    simp only [cA, r 4 (by decide), r 5 (by decide), r 6 (by decide), r 7 (by decide), r 8 (by decide)]
  | 2, i, _ =>
    rw [ku_ne _ _ (fun q => absurd (congrArg Prod.fst q) (show ¬ (2 : Nat) = 0 by decide)), ku_ne _ _ (fun q => absurd (congrArg Prod.fst q) (show ¬ (2 : Nat) = 0 by decide))]
    show Sum.inl (γ 1, 4, _) = Sum.inl (γ 1, 4, _)
    rw [show gL ρ (ndz z j) i = gL ρ z i by funext q; simp only [gL, zt, r 6 (by decide)]]
  | 3, i, _ =>
    rw [ku_ne _ _ (fun q => absurd (congrArg Prod.fst q) (show ¬ (3 : Nat) = 0 by decide)), ku_ne _ _ (fun q => absurd (congrArg Prod.fst q) (show ¬ (3 : Nat) = 0 by decide))]
    show Sum.inr (1, cN ρ z x i) = Sum.inr (1, cN ρ _ x i)
    simp only [cN, r 9 (by decide), r 10 (by decide), r 11 (by decide), r 12 (by decide), r 13 (by decide), r 14 (by decide), r 15 (by decide), r 16 (by decide)]
  | n + 4, i, _ =>
    rw [ku_ne _ _ (fun q => absurd (congrArg Prod.fst q) (show ¬ (n + 4 : Nat) = 0 by omega)), ku_ne _ _ (fun q => absurd (congrArg Prod.fst q) (show ¬ (n + 4 : Nat) = 0 by omega))]
    show Sum.inr (2, cU ρ z x i) = Sum.inr (2, cU ρ _ x i)
    simp only [cU, zl, r 19 (by decide), r 21 (by decide), r 22 (by decide), r 23 (by decide), r 24 (by decide), r 25 (by decide), r 26 (by decide)]
theorem nd_cI {LP : List Nat} {ks : List kT} {ρ : kT → Nat} {z : zT} {x : xT} {j : Nat} (J : cI LP ks ρ z x) (hd : zD z < 64) (hv : vK z (3, j)) : cI LP ks ρ (ndz z j) x := by
  obtain ⟨H, hV, hz, hJ⟩ := J
  have hj := vK_lt hz hv
  have r : ∀ a, (a ≠ 29 ∧ a ≠ 30) → ndz z j a = z a := fun a h => ndz_row h.1 h.2
  have ev : ∀ k, vK (ndz z j) k ↔ vK z k := fun k => by simp only [vK, zA, zU, zt, r 3 (by decide), r 6 (by decide), r 18 (by decide)]
  obtain ⟨d1, d2⟩ := ndz_D (j := j) hz hd
  have hb : ∀ i, i < zD z + 1 → (ndz z j 30 i = nI (ix (ndz z j 30 i)) ∧ ix (ndz z j 30 i) < 68) ∧ vK z (3, ix (ndz z j 30 i)) := by
    intro i hi
    rw [ndz_30]
    by_cases h : i = zD z
    · rw [if_pos h, ix_nI (by omega)]
      exact ⟨⟨rfl, hj⟩, hv⟩
    · rw [if_neg h]
      exact ⟨hz.2.2.2.2.2 i (by omega), hJ.2.1 i (by omega)⟩
  refine ⟨H, fun k => (hV k).trans (ev k).symm, ?_, ?_⟩
  · refine ⟨?_, ?_, ?_, ?_, ?_, ?_⟩
    · simp only [zA, r 3 (by decide)]; exact hz.1
    · simp only [zU, r 18 (by decide)]; exact hz.2.1
    · rw [d2]; exact ⟨d1, by omega⟩
    · simp only [zt, r 6 (by decide), r 5 (by decide)]; exact hz.2.2.2.1
    · simp only [zU, zl, r 18 (by decide), r 19 (by decide)]; exact hz.2.2.2.2.1
    · rw [d2]; exact fun i hi => (hb i hi).1
  · refine ⟨fun u h1 h2 => (ev _).mpr ?_, fun i h1 => (ev _).mpr ?_, ?_, ?_, ?_, ?_, ?_⟩
    · simp only [zU, zl, r 18 (by decide), r 19 (by decide)] at h2 ⊢
      exact hJ.1 u h1 h2
    · rw [d2] at h1
      exact (hb i h1).2
    · rw [r 2 (by decide)]; exact hJ.2.2.1
    · rw [r 17 (by decide)]; exact hJ.2.2.2.1
    · simp only [zU, zl, r 18 (by decide), r 19 (by decide), r 20 (by decide), r 24 (by decide), r 15 (by decide)]
      exact hJ.2.2.2.2.1
    · simp only [r 13 (by decide), r 14 (by decide)]
      exact hJ.2.2.2.2.2.1
    · simp only [zF, ev, zA, zU, r 3 (by decide), r 6 (by decide), r 7 (by decide), r 11 (by decide), r 12 (by decide), r 13 (by decide), r 14 (by decide), r 15 (by decide), r 16 (by decide), r 17 (by decide), r 18 (by decide), r 24 (by decide), r 25 (by decide), r 26 (by decide)]
      exact hJ.2.2.2.2.2.2
abbrev rm_S_noteDifference : Room := { frames := 0, cells := 0, slots := 0, locals := 0 }
set_option maxRecDepth 100000 in
set_option maxHeartbeats 4000000 in
theorem c_S_noteDifference {l0 : Launch} {D : va_G} {γ : Nat → ClassId} (hl0 : l0.stackTraces = false) {LP : List Nat} {ks : List kT} {ρ : kT → Nat} {z : zT} {x : xT} {f0 : Nat → va_E} (J : cI LP ks ρ z x) (j : Nat) (hj : vK z (3, j)) (hd : zD z < 64) : pv_M l0 D (tys_ γ) y_S_noteDifference (Cond.code y_S_noteDifference b_S_noteDifference 2 (Option.none : Option FieldType)) rm_S_noteDifference [.ref (ρ (0, 0)), .ref (ρ (3, j))] LP (cF γ ks ρ z x f0) (fun w LP1 f1 => rdP LP (cF γ ks ρ (nd z j) x f0) none w LP1 f1 ∧ cI LP ks ρ (nd z j) x) (fun _ => False) := by
  refine pv_mk hl0 (by decide) (Nat.le_of_ble_eq_true rfl) (fun κ C R0 hN _ => ?_)
  obtain ⟨H, hV, hz, hJ⟩ := id J
  have M0 : ((0, 0) : kT) ∈ ks := (hV _).mpr (Nat.zero_le _)
  have M1 : ((0, 1) : kT) ∈ ks := (hV _).mpr (by decide : 1 ≤ 3)
  have M2 : ((0, 2) : kT) ∈ ks := (hV _).mpr (by decide : 2 ≤ 3)
  have M3 : ((0, 3) : kT) ∈ ks := (hV _).mpr (by decide : 3 ≤ 3)
  show pv_V D κ 0 0 LP (cF γ ks ρ z x f0) 0 [(0, .ref (ρ (0, 0))), (1, .ref (ρ (3, j)))] []
  have MJ : ((3, j) : kT) ∈ ks := (hV _).mpr hj
  refine pv_aload_n C d_S_noteDifference_0 rfl 1 rfl ?_
  refine pv_get (v := .int (z 12 j)) (ci := 1) C hin_N rfl (H.1 _ MJ) ((kf_at H MJ).trans rfl) 7 (by decide) fl_S_107 rfl rfl d_S_noteDifference_1 ?_
  refine pv_aload_n C d_S_noteDifference_4 rfl 1 rfl ?_
  refine pv_get (v := .int (z 10 j)) (ci := 1) C hin_N rfl (H.1 _ MJ) ((kf_at H MJ).trans rfl) 3 (by decide) fl_S_200 rfl rfl d_S_noteDifference_5 ?_
  refine pv_icmp_eq (tgt := 43) C d_S_noteDifference_8 (by decide) (fun h1 => ?_) (fun h1 => ?_)
  · exact pv_vret C R0 d_S_noteDifference_43 (by decide) (by decide) (show rdP _ _ _ _ _ _ ∧ _ by unfold nd; rw [if_pos h1]; exact ⟨⟨rfl, rfl, rfl⟩, J⟩)
  · refine pv_aload_n C d_S_noteDifference_11 rfl 0 rfl ?_
    refine pv_get (v := .int (z 29 0)) (ci := 3) C hin_S rfl (H.1 _ M0) ((kf_at H M0).trans rfl) 6 (by decide) fl_S_250 rfl rfl d_S_noteDifference_12 ?_
    refine pv_aload_n C d_S_noteDifference_15 rfl 0 rfl ?_
    refine pv_get (v := .ref (ρ (0, 3))) (ci := 3) C hin_S rfl (H.1 _ M0) ((kf_at H M0).trans rfl) 2 (by decide) fl_S_23 rfl rfl d_S_noteDifference_16 ?_
    refine pv_alen C 1 rfl (H.1 _ M3) ((kf_at H M3).trans rfl) (v := 64) rfl d_S_noteDifference_19 ?_
    refine pv_icmp_ge (tgt := 43) C d_S_noteDifference_20 (by decide) (fun h2 => ?_) (fun h2 => ?_)
    · exact absurd ((nI_leI (a := 64) (by decide) (by omega)).mp (hz.2.2.1.1 ▸ h2)) (by omega)
    · refine pv_aload_n C d_S_noteDifference_23 rfl 0 rfl ?_
      refine pv_get (v := .ref (ρ (0, 3))) (ci := 3) C hin_S rfl (H.1 _ M0) ((kf_at H M0).trans rfl) 2 (by decide) fl_S_23 rfl rfl d_S_noteDifference_24 ?_
      refine pv_aload_n C d_S_noteDifference_27 rfl 0 rfl ?_
      refine pv_get (v := .int (z 29 0)) (ci := 3) C hin_S rfl (H.1 _ M0) ((kf_at H M0).trans rfl) 6 (by decide) fl_S_250 rfl rfl d_S_noteDifference_28 ?_
      refine pv_aload_n C d_S_noteDifference_31 rfl 1 rfl ?_
      refine pk_aast (r := (RN, TN, 11)) C H 1 1 rfl M3 rfl MJ rfl rfl (j := (zD z)) hz.2.2.1.1 (show (zD z) < 64 by omega) (by decide) d_S_noteDifference_32 ?_
      refine pk_fz (f2 := kf ks ρ (ku (cz γ ρ z x) (0, 3) (.inl (γ 1, 64, .inr (.inr (.inr (.inr (va_up (gD ρ z) (zD z) (some (ρ (3, j)))))))))) f0) rfl ?_
      refine pv_aload_n C d_S_noteDifference_33 rfl 0 rfl ?_
      refine pv_dup C d_S_noteDifference_34 rfl ?_
      refine pv_get (v := .int (z 29 0)) (ci := 3) C hin_S rfl (H.1 _ M0) ((kf_at H M0).trans (ku_ne _ _ (by decide))) 6 (by decide) fl_S_250 rfl rfl d_S_noteDifference_35 ?_
      refine pv_iconst (v := 1) C d_S_noteDifference_38 (by decide) ?_
      refine pv_iadd C d_S_noteDifference_39 ?_
      refine pk_put (ci := 3) C H hin_S tyS tyS_ok nmS rfl M0 (ku_ne _ _ (by decide)) 6 (by decide) fl_S_250 rfl rfl rfl rfl (Nat.le_of_ble_eq_true rfl) d_S_noteDifference_40 ?_
      refine pk_fz (f2 := kf ks ρ (ku (ku (cz γ ρ z x) (0, 3) (.inl (γ 1, 64, .inr (.inr (.inr (.inr (va_up (gD ρ z) (zD z) (some (ρ (3, j)))))))))) (0, 0) (.inr (3, [.ref (ρ (0, 1)), .ref (ρ (0, 2)), .ref (ρ (0, 3)), .int (z 3 0), .int (z 18 0), .int (z 27 0), .int ((z 29 0) + 1), .int (z 28 0), .int (z 1 0), .int x.1]))) f0) rfl ?_
      refine pk_fz (f2 := cF γ ks ρ (ndz z j) x f0) (kf_eq (fun k hk => nd_cz hz hd (vK_lt hz hj) ((hV k).mp hk))) ?_
      exact pv_vret C R0 d_S_noteDifference_43 (by decide) (by decide) (show rdP _ _ _ _ _ _ ∧ _ by unfold nd; rw [if_neg h1]; exact ⟨⟨rfl, rfl, rfl⟩, nd_cI J hd hj⟩)
abbrev rm_S_close : Room := { frames := 8, cells := 3, slots := 18, locals := 136 }
set_option maxRecDepth 100000 in
set_option maxHeartbeats 4000000 in
theorem c_S_close {l0 : Launch} {D : va_G} {γ : Nat → ClassId} (hl0 : l0.stackTraces = false) {LP : List Nat} {ks : List kT} {ρ : kT → Nat} {z : zT} {x : xT} {f0 : Nat → va_E} (J : cI LP ks ρ z x) (a : Int32) (n : Int32) (hd : isL z a n = true → z 16 (4 * ix a + ix n) = 0 → zD z < 64) : pv_M l0 D (tys_ γ) y_S_close (Cond.code y_S_close b_S_close 4 (Option.some FieldType.int)) rm_S_close [.ref (ρ (0, 0)), .int a, .int n] LP (cF γ ks ρ z x f0) (cPost γ LP ks ρ f0 (some (.int (m_close z a n).1)) (m_close z a n).2) (cThr [eNS, eIS] z ((m_close z a n).2)) := by
  refine pv_mk hl0 (by decide) (Nat.le_of_ble_eq_true rfl) (fun κ C R0 hN _ => ?_)
  obtain ⟨H, hV, hz, hJ⟩ := id J
  have M0 : ((0, 0) : kT) ∈ ks := (hV _).mpr (Nat.zero_le _)
  have M1 : ((0, 1) : kT) ∈ ks := (hV _).mpr (by decide : 1 ≤ 3)
  have M2 : ((0, 2) : kT) ∈ ks := (hV _).mpr (by decide : 2 ≤ 3)
  have M3 : ((0, 3) : kT) ∈ ks := (hV _).mpr (by decide : 3 ≤ 3)
  show pv_V D κ 0 0 LP (cF γ ks ρ z x f0) 0 [(0, .ref (ρ (0, 0))), (1, .int a), (2, .int n)] []
  refine pv_aload_n C d_S_close_0 rfl 0 rfl ?_
  refine pv_iload_n C d_S_close_1 rfl 1 rfl ?_
  refine pv_iload_n C d_S_close_2 rfl 2 rfl ?_
  refine pv_callV (n := 2) (As := [.int a, .int n]) (rest := []) C (c_S_lineOf hl0 J a n) cd_S_lineOf ml_S_80 in_S im_S_lineOf se_S_lineOf (H.1 _ M0) ((kf_at H M0).trans rfl) rfl rfl (by decide +kernel) (by decide) rfl (Nat.le_of_ble_eq_true rfl) rfl d_S_close_3 (by decide) hN R0 (fun E h => ⟨by rw [h.1]; exact cT_any 0 1 rfl rfl (by unfold m_close; rw [if_neg (nT h.2)]; first | exact Or.inl rfl | exact Or.inr rfl), rfl, rfl⟩) (fun v9 LP9 f9 h9 => ?_)
  obtain ⟨⟨rfl, w9, w8⟩, h1⟩ := h9
  have w9 := w9.symm
  have w8 := w8.symm
  subst w9
  subst w8
  have hL := isL_ix hz h1
  have hvN : vK z (3, 4 * ix a + ix n) := vK_line hL.1.2.1 hL.1.2.2.1 hL.2.2.1 hL.2.2.2
  have MN : ((3, 4 * ix a + ix n) : kT) ∈ ks := (hV _).mpr hvN
  have hA := hL.1
  have h68 := vK_lt hz hvN
  have h4 : (4 * ix a + ix n) / 4 = ix a := by omega
  have MA : ((1, ix a) : kT) ∈ ks := (hV _).mpr ⟨hA.2.1, hA.2.2.1⟩
  have hln : 4 * a + n = nI (4 * ix a + ix n) := ln_ix hL.1.1 hL.2.1
  refine pv_stf (f2 := (kf ks ρ (cz γ ρ z x) f0)) (st2 := [.ref (ρ (3, 4 * ix a + ix n))]) (c2 := 2) (s2 := 12) rfl rfl rfl rfl ?_
  refine pv_astore_n (lv' := [(3, .ref (ρ (3, 4 * ix a + ix n))), (0, .ref (ρ (0, 0))), (1, .int a), (2, .int n)]) C d_S_close_6 rfl (by decide) rfl ?_
  refine pv_aload_n C d_S_close_7 rfl 0 rfl ?_
  refine pv_get (v := .ref (ρ (1, (4 * ix a + ix n) / 4))) (ci := 1) C hin_N rfl (H.1 _ MN) ((kf_at H MN).trans rfl) 0 (by decide) fl_S_131 rfl rfl d_S_close_8 ?_
  refine pv_stf (f2 := (kf ks ρ (cz γ ρ z x) f0)) (st2 := [.ref (ρ (1, ix a))]) rfl (by rw [h4]) rfl rfl ?_
  refine pv_callV (n := 0) (As := []) (rest := []) C (c_A_hasArrived hl0 J (ix a) ⟨hA.2.1, hA.2.2.1⟩) cd_A_hasArrived ml_S_135 in_A im_A_hasArrived se_A_hasArrived (H.1 _ MA) ((kf_at H MA).trans rfl) rfl rfl (by decide +kernel) (by decide) rfl (Nat.le_of_ble_eq_true rfl) rfl d_S_close_11 (by decide) hN R0 (fun _ h => h.elim) (fun v9 LP9 f9 h9 => ?_)
  obtain ⟨rfl, w9, w8⟩ := h9
  have w9 := w9.symm
  have w8 := w8.symm
  subst w9
  subst w8
  refine pv_stf (f2 := (kf ks ρ (cz γ ρ z x) f0)) (st2 := [.int (bN (decide (z 7 (ix a) = 1)))]) (c2 := 2) (s2 := 12) rfl rfl rfl rfl ?_
  refine pv_ifb_eq (tgt := 28) C d_S_close_14 (by decide) (fun h2 => ?_) (fun h2 => ?_)
  · refine pv_iconst (v := 0) C d_S_close_28 (by decide) ?_
    refine pv_callS (n := 1) (As := [.int 0]) (rest := []) C (c_S_mustHold hl0 false) cd_S_mustHold ml_S_55 in_S sm_S_mustHold (by decide +kernel) (by decide) rfl (Nat.le_of_ble_eq_true rfl) rfl d_S_close_29 (by decide) hN R0 (fun E h => ⟨by rw [h.1]; exact cT_any 1 2 rfl rfl (by unfold m_close; rw [if_pos h1, if_neg (of_decide_eq_false h2)]; first | exact Or.inl rfl | exact Or.inr rfl), rfl, rfl⟩) (fun v9 LP9 f9 h9 => ?_)
    obtain ⟨⟨rfl, w9, w8⟩, h3⟩ := h9
    have w9 := w9.symm
    have w8 := w8.symm
    subst w9
    subst w8
    exact absurd h3 (by decide)
  · refine pv_aload_n C d_S_close_17 rfl 0 rfl ?_
    refine pv_get (v := .int (z 16 (4 * ix a + ix n))) (ci := 1) C hin_N rfl (H.1 _ MN) ((kf_at H MN).trans rfl) 10 (by decide) fl_S_84 rfl rfl d_S_close_18 ?_
    refine pv_if_ne (tgt := 28) C d_S_close_21 (by decide) (fun h4 => ?_) (fun h4 => ?_)
    · refine pv_iconst (v := 0) C d_S_close_28 (by decide) ?_
      refine pv_callS (n := 1) (As := [.int 0]) (rest := []) C (c_S_mustHold hl0 false) cd_S_mustHold ml_S_55 in_S sm_S_mustHold (by decide +kernel) (by decide) rfl (Nat.le_of_ble_eq_true rfl) rfl d_S_close_29 (by decide) hN R0 (fun E h => ⟨by rw [h.1]; exact cT_any 1 2 rfl rfl (by unfold m_close; rw [if_pos h1, if_pos (of_decide_eq_true h2), if_neg h4]; first | exact Or.inl rfl | exact Or.inr rfl), rfl, rfl⟩) (fun v9 LP9 f9 h9 => ?_)
      obtain ⟨⟨rfl, w9, w8⟩, h5⟩ := h9
      have w9 := w9.symm
      have w8 := w8.symm
      subst w9
      subst w8
      exact absurd h5 (by decide)
    · refine pv_iconst (v := 1) C d_S_close_24 (by decide) ?_
      refine pv_goto (tgt := 29) C d_S_close_25 (by decide) ?_
      refine pv_callS (n := 1) (As := [.int 1]) (rest := []) C (c_S_mustHold hl0 true) cd_S_mustHold ml_S_55 in_S sm_S_mustHold (by decide +kernel) (by decide) rfl (Nat.le_of_ble_eq_true rfl) rfl d_S_close_29 (by decide) hN R0 (fun E h => absurd h.2 (by decide)) (fun v9 LP9 f9 h9 => ?_)
      obtain ⟨⟨rfl, w9, w8⟩, h6⟩ := h9
      have w9 := w9.symm
      have w8 := w8.symm
      subst w9
      subst w8
      refine pv_stf (f2 := (kf ks ρ (cz γ ρ z x) f0)) (st2 := []) (c2 := 3) (s2 := 18) rfl rfl rfl rfl ?_
      refine pv_aload_n C d_S_close_32 rfl 0 rfl ?_
      refine pv_callV (n := 0) (As := []) (rest := []) C (c_N_openSamples hl0 J (4 * ix a + ix n) hvN) cd_N_openSamples ml_S_138 in_N im_N_openSamples se_N_openSamples (H.1 _ MN) ((kf_at H MN).trans rfl) rfl rfl (by decide +kernel) (by decide) rfl (Nat.le_of_ble_eq_true rfl) rfl d_S_close_33 (by decide) hN R0 (fun _ h => h.elim) (fun v9 LP9 f9 h9 => ?_)
      obtain ⟨rfl, w9, w8⟩ := h9
      have w9 := w9.symm
      have w8 := w8.symm
      subst w9
      subst w8
      refine pv_stf (f2 := (kf ks ρ (cz γ ρ z x) f0)) (st2 := [.int (m_open z (4 * ix a + ix n))]) (c2 := 3) (s2 := 18) rfl rfl rfl rfl ?_
      refine pv_if_le (tgt := 41) C d_S_close_36 (by decide) (fun h7 => ?_) (fun h7 => ?_)
      · refine pv_aload_n C d_S_close_41 rfl 1 rfl ?_
        refine pv_aload_n C d_S_close_42 rfl 0 rfl ?_
        refine pv_iconst (v := 3) C d_S_close_43 (by decide) ?_
        refine pv_callV (n := 2) (As := [.ref (ρ (3, 4 * ix a + ix n)), .int 3]) (rest := []) C (c_S_unitsInState hl0 J (4 * ix a + ix n) 3 hvN) cd_S_unitsInState ml_S_127 in_S im_S_unitsInState se_S_unitsInState (H.1 _ M0) ((kf_at H M0).trans rfl) rfl rfl (by decide +kernel) (by decide) rfl (Nat.le_of_ble_eq_true rfl) rfl d_S_close_44 (by decide) hN R0 (fun _ h => h.elim) (fun v9 LP9 f9 h9 => ?_)
        obtain ⟨rfl, w9, w8⟩ := h9
        have w9 := w9.symm
        have w8 := w8.symm
        subst w9
        subst w8
        refine pv_stf (f2 := (kf ks ρ (cz γ ρ z x) f0)) (st2 := [.int (lCnt (usP z x (4 * ix a + ix n) 3) (zU z))]) (c2 := 3) (s2 := 18) rfl rfl rfl rfl ?_
        refine pv_if_le (tgt := 52) C d_S_close_47 (by decide) (fun h8 => ?_) (fun h8 => ?_)
        · refine pv_aload_n C d_S_close_52 rfl 1 rfl ?_
          refine pv_aload_n C d_S_close_53 rfl 0 rfl ?_
          refine pv_callV (n := 1) (As := [.ref (ρ (3, 4 * ix a + ix n))]) (rest := []) C (c_S_lacksLabel hl0 J (4 * ix a + ix n) hvN) cd_S_lacksLabel ml_S_178 in_S im_S_lacksLabel se_S_lacksLabel (H.1 _ M0) ((kf_at H M0).trans rfl) rfl rfl (by decide +kernel) (by decide) rfl (Nat.le_of_ble_eq_true rfl) rfl d_S_close_54 (by decide) hN R0 (fun _ h => h.elim) (fun v9 LP9 f9 h9 => ?_)
          obtain ⟨rfl, w9, w8⟩ := h9
          have w9 := w9.symm
          have w8 := w8.symm
          subst w9
          subst w8
          refine pv_stf (f2 := (kf ks ρ (cz γ ρ z x) f0)) (st2 := [.int (bN (lAny (llP z (4 * ix a + ix n)) (zU z)))]) (c2 := 3) (s2 := 18) rfl rfl rfl rfl ?_
          refine pv_ifb_eq (tgt := 62) C d_S_close_57 (by decide) (fun h9 => ?_) (fun h9 => ?_)
          · refine pv_aload_n C d_S_close_62 rfl 0 rfl ?_
            refine pv_iconst (v := 1) C d_S_close_63 (by decide) ?_
            refine pk_put (ci := 1) C H hin_N tyN tyN_ok nmN rfl MN rfl 10 (by decide) fl_S_84 rfl rfl rfl rfl (Nat.le_of_ble_eq_true rfl) d_S_close_64 ?_
            refine pk_fz (f2 := kf ks ρ (ku (cz γ ρ z x) (3, 4 * ix a + ix n) (.inr (1, [.ref (ρ (1, (4 * ix a + ix n) / 4)), .int (nI ((4 * ix a + ix n) % 4)), .int (z 9 (4 * ix a + ix n)), .int (z 10 (4 * ix a + ix n)), .int (z 11 (4 * ix a + ix n)), .int (z 13 (4 * ix a + ix n)), .int (z 14 (4 * ix a + ix n)), .int (z 12 (4 * ix a + ix n)), .int (x.2.1 (4 * ix a + ix n)), .int (z 15 (4 * ix a + ix n)), .int 1]))) f0) rfl ?_
            refine pv_aload_n C d_S_close_67 rfl 1 rfl ?_
            refine pv_dup C d_S_close_68 rfl ?_
            refine pv_get (v := .int (z 28 0)) (ci := 3) C hin_S rfl (H.1 _ M0) ((kf_at H M0).trans (ku_ne _ _ (fun q => absurd (congrArg Prod.fst q) (show ¬ (0 : Nat) = 3 by decide)))) 7 (by decide) fl_S_182 rfl rfl d_S_close_69 ?_
            refine pv_iconst (v := 1) C d_S_close_72 (by decide) ?_
            refine pv_iadd C d_S_close_73 ?_
            refine pk_put (ci := 3) C H hin_S tyS tyS_ok nmS rfl M0 (ku_ne _ _ (fun q => absurd (congrArg Prod.fst q) (show ¬ (0 : Nat) = 3 by decide))) 7 (by decide) fl_S_182 rfl rfl rfl rfl (Nat.le_of_ble_eq_true rfl) d_S_close_74 ?_
            refine pk_fz (f2 := kf ks ρ (ku (ku (cz γ ρ z x) (3, 4 * ix a + ix n) (.inr (1, [.ref (ρ (1, (4 * ix a + ix n) / 4)), .int (nI ((4 * ix a + ix n) % 4)), .int (z 9 (4 * ix a + ix n)), .int (z 10 (4 * ix a + ix n)), .int (z 11 (4 * ix a + ix n)), .int (z 13 (4 * ix a + ix n)), .int (z 14 (4 * ix a + ix n)), .int (z 12 (4 * ix a + ix n)), .int (x.2.1 (4 * ix a + ix n)), .int (z 15 (4 * ix a + ix n)), .int 1]))) (0, 0) (.inr (3, [.ref (ρ (0, 1)), .ref (ρ (0, 2)), .ref (ρ (0, 3)), .int (z 3 0), .int (z 18 0), .int (z 27 0), .int (z 29 0), .int ((z 28 0) + 1), .int (z 1 0), .int x.1]))) f0) rfl ?_
            obtain ⟨z1, e1⟩ : ∃ q : zT, q = (zs (zs (zs (zs z 0 0 0) 0 0 0) 16 (4 * ix a + ix n) 1) 28 0 ((z 28 0) + 1)) := ⟨_, rfl⟩
            obtain ⟨x1, y1⟩ : ∃ q : xT, q = x := ⟨_, rfl⟩
            have J1 : cI LP ks ρ z1 x1 := by
              rw [e1, y1]
              exact ⟨H, hV, hz, hJ.1, hJ.2.1, hJ.2.2.1, hJ.2.2.2.1, hJ.2.2.2.2.1, hJ.2.2.2.2.2.1, (show zF (zs (zs (zs z 0 0 0) 0 0 0) 16 (4 * ix a + ix n) 1) from zF_line (by decide) (by decide) hvN hJ.2.2.2.2.2.2)⟩
            have g1 : ∀ k7 ∈ ks, (ku (ku (cz γ ρ z x) (3, 4 * ix a + ix n) (.inr (1, [.ref (ρ (1, (4 * ix a + ix n) / 4)), .int (nI ((4 * ix a + ix n) % 4)), .int (z 9 (4 * ix a + ix n)), .int (z 10 (4 * ix a + ix n)), .int (z 11 (4 * ix a + ix n)), .int (z 13 (4 * ix a + ix n)), .int (z 14 (4 * ix a + ix n)), .int (z 12 (4 * ix a + ix n)), .int (x.2.1 (4 * ix a + ix n)), .int (z 15 (4 * ix a + ix n)), .int 1]))) (0, 0) (.inr (3, [.ref (ρ (0, 1)), .ref (ρ (0, 2)), .ref (ρ (0, 3)), .int (z 3 0), .int (z 18 0), .int (z 27 0), .int (z 29 0), .int ((z 28 0) + 1), .int (z 1 0), .int x.1]))) k7 = cz γ ρ z1 x1 k7 := by
              intro k7 hk
              rw [e1, y1]
              by_cases q0 : k7 = ((3, 4 * ix a + ix n) : kT)
              · subst q0
                simp [ku, cz, cN, zs, zl, upd]
              by_cases q1 : k7 = ((0, 0) : kT)
              · subst q1
                simp [ku, cz, cS, zs, zl, upd]
              rw [ku_ne _ _ q1, ku_ne _ _ q0]
              exact (((cz_obj (by decide) q1).trans ((cz_line (by decide) (by decide) q0).trans ((cz_non (by decide)).trans (cz_non (by decide)))))).symm
            refine pk_fz (f2 := cF γ ks ρ z1 x1 f0) (kf_eq g1) ?_
            have hvN1 : vK z1 (3, 4 * ix a + ix n) := ((J1.2.1 _).mp MN)
            have hd1 : zD z1 < 64 := by rw [e1]; exact hd h1 h4
            refine pv_aload_n C d_S_close_77 rfl 1 rfl ?_
            refine pv_aload_n C d_S_close_78 rfl 0 rfl ?_
            refine pv_callV (n := 1) (As := [.ref (ρ (3, 4 * ix a + ix n))]) (rest := []) C (c_S_noteDifference hl0 J1 (4 * ix a + ix n) hvN1 hd1) cd_S_noteDifference ml_S_185 in_S im_S_noteDifference se_S_noteDifference (H.1 _ M0) ((kf_at H M0).trans rfl) rfl rfl (by decide +kernel) (by decide) rfl (Nat.le_of_ble_eq_true rfl) rfl d_S_close_79 (by decide) hN R0 (fun _ h => h.elim) (fun v9 LP9 f9 h9 => ?_)
            obtain ⟨⟨rfl, w9, w8⟩, h10⟩ := h9
            have w9 := w9.symm
            have w8 := w8.symm
            subst w9
            subst w8
            have J2 := h10
            refine pv_stf (f2 := (kf ks ρ (cz γ ρ (nd z1 (4 * ix a + ix n)) x1) f0)) (st2 := []) (c2 := 3) (s2 := 18) rfl rfl rfl rfl ?_
            refine pv_iconst (v := 1) C d_S_close_82 (by decide) ?_
            refine pv_iret C R0 d_S_close_83 (by decide) (by decide) (cP_re J2 ?_ rfl (fun _ q => q) (fun k hk => Or.inl ⟨k, hk, rfl⟩) ?_)
            · unfold nd ndz
              split <;> subst e1 <;> rfl
            · unfold m_close nd ndz
              rw [if_pos h1, if_pos (of_decide_eq_true h2), if_pos h4, if_pos h7, if_neg (nT ((ho_3 J hln h68).trans ((lCnt_le hz.2.1.2).mp h8))), if_neg (nT ((ho_4 J hln h68).trans h9))]
              rw [hln, e1]
              by_cases q : z 12 (4 * ix a + ix n) = z 10 (4 * ix a + ix n)
              · rw [if_pos q]
                refine congrArg (Prod.mk 1) (Eq.symm (if_pos ?_))
                exact q
              · rw [if_neg q]
                refine congrArg (Prod.mk 1) (Eq.symm (if_neg ?_))
                exact q
          · refine pv_iconst (v := 4) C d_S_close_60 (by decide) ?_
            exact pv_iret C R0 d_S_close_61 (by decide) (by decide) (cP_rd3 J (zc_2 z 0 0) rfl (by unfold m_close; rw [if_pos h1, if_pos (of_decide_eq_true h2), if_pos h4, if_pos h7, if_neg (nT ((ho_3 J hln h68).trans ((lCnt_le hz.2.1.2).mp h8))), if_pos ((ho_4 J hln h68).trans h9)]))
        · refine pv_iconst (v := 3) C d_S_close_50 (by decide) ?_
          exact pv_iret C R0 d_S_close_51 (by decide) (by decide) (cP_rd3 J (zc_2 z 0 0) rfl (by unfold m_close; rw [if_pos h1, if_pos (of_decide_eq_true h2), if_pos h4, if_pos h7, if_pos ((ho_3 J hln h68).trans (by cases q : lAny (usP z x (4 * ix a + ix n) 3) (zU z) with | true => rfl | false => exact absurd ((lCnt_le hz.2.1.2).mpr q) h8))]))
      · refine pv_iconst (v := 2) C d_S_close_39 (by decide) ?_
        exact pv_iret C R0 d_S_close_40 (by decide) (by decide) (cP_rd3 J (zc_2 z 0 0) rfl (by unfold m_close; rw [if_pos h1, if_pos (of_decide_eq_true h2), if_pos h4, if_neg h7]))
