/-! contracts of the component: the face, what loops (by wip/whole/gen/c7.py) -/
theorem cP_rd3 {γ : Nat → ClassId} {LP : List Nat} {ks : List kT} {ρ : kT → Nat} {z z' : zT} {x : xT} {f0 : Nat → va_E} (J : cI LP ks ρ z x) (hc : zc z z') (h0 : z' 0 0 = 0) {q : Int32 × zT} {r : Int32} (h : q = (r, z')) : cPost γ LP ks ρ f0 (some (.int q.1)) q.2 (some (.int r)) LP (cF γ ks ρ z x f0) := by
  subst h
  exact ⟨rfl, h0, ks, ρ, x, by rw [cF, cF, zc_cz hc], zc_cI hc J, rfl, fun _ h => h, fun k hk => Or.inl ⟨k, hk, rfl⟩⟩
theorem nI_inj {i j : Nat} (hi : i < 2 ^ 31) (hj : j < 2 ^ 31) (h : nI i = nI j) : i = j := by
  have := congrArg ix h
  rwa [ix_nI hi, ix_nI hj] at this
theorem us_dm {z : zT} {x : xT} {u0 : Nat} {k : Int32} (hk : k ≠ 0) (h : ∀ u, 1 ≤ u → u ≤ zU z → z 20 u = uS (z 24 u) (x.2.2 u) (z 15 (zl z u))) : ∀ u, 1 ≤ u → u ≤ zU z → zs z 20 u0 1 20 u = uS (zs (zs z 20 u0 1) 24 u0 k 24 u) (x.2.2 u) (z 15 (zl z u)) := by
  intro u h1 h2
  by_cases e : u = u0
  · subst e
    rw [zs_eq, zs_eq, uS_1.mpr hk]
  · rw [zs_j z _ e, zs_j _ _ e, h u h1 h2]
    rfl
theorem dm_eq {LP : List Nat} {ks : List kT} {ρ : kT → Nat} {z : zT} {x : xT} (J : cI LP ks ρ z x) {u : Nat} (hu : 1 ≤ u ∧ u ≤ zU z) : lCnt (usP z x (zl z u) 1) (zU z) = lCnt (dmP z u) (zU z) := by
  refine lCnt_c (fun a h1 h2 => ?_)
  obtain ⟨-, -, hz, hJ⟩ := J
  have e1 := hz.2.2.2.2.1 a h1 h2
  have e2 := hz.2.2.2.2.1 u hu.1 hu.2
  unfold usP dmP
  rw [← hJ.2.2.2.2.1 a h1 h2]
  congr 1
  rw [decide_eq_decide]
  constructor
  · intro w; rw [e1.1, e2.1, w]
  · intro w; rw [e1.1, e2.1] at w; exact nI_inj (by omega) (by omega) w
theorem ho_3 {LP : List Nat} {ks : List kT} {ρ : kT → Nat} {z : zT} {x : xT} (J : cI LP ks ρ z x) {l : Int32} {j : Nat} (hl : l = nI j) (hj : j < 68) : lAny (hoP (z 19) (z 20) (z 25) l true) (zU z) = lAny (usP z x j 3) (zU z) := by
  refine lAny_c (fun a h1 h2 => ?_)
  obtain ⟨-, -, hz, hJ⟩ := J
  have e1 := hz.2.2.2.2.1 a h1 h2
  unfold usP hoP
  rw [← hJ.2.2.2.2.1 a h1 h2, if_pos rfl]
  congr 1
  rw [decide_eq_decide, hl, e1.1]
  constructor
  · intro w; exact nI_inj (by omega) (by omega) w
  · intro w; rw [← w]
theorem ho_4 {LP : List Nat} {ks : List kT} {ρ : kT → Nat} {z : zT} {x : xT} (J : cI LP ks ρ z x) {l : Int32} {j : Nat} (hl : l = nI j) (hj : j < 68) : lAny (hoP (z 19) (z 20) (z 25) l false) (zU z) = lAny (llP z j) (zU z) := by
  refine lAny_c (fun a h1 h2 => ?_)
  obtain ⟨-, -, hz, hJ⟩ := J
  have e1 := hz.2.2.2.2.1 a h1 h2
  unfold llP hoP
  rw [if_neg (by decide), show (!decide (z 20 a = 1)) = decide (z 24 a = 0) by
    rw [hJ.2.2.2.2.1 a h1 h2]
    by_cases w : z 24 a = 0
    · rw [decide_eq_true w, decide_eq_false (fun q => uS_1.mp q w)]; rfl
    · rw [decide_eq_false w, decide_eq_true (uS_1.mpr w)]; rfl]
  congr 1
  rw [decide_eq_decide, hl]
  constructor
  · intro w; exact nI_inj (by omega) (by omega) (e1.1 ▸ w)
  · intro w; rw [e1.1, w]
abbrev rm_S_damaged : Room := { frames := 7, cells := 3, slots := 18, locals := 112 }
set_option maxRecDepth 100000 in
set_option maxHeartbeats 4000000 in
theorem c_S_damaged {l0 : Launch} {D : va_G} {γ : Nat → ClassId} (hl0 : l0.stackTraces = false) {LP : List Nat} {ks : List kT} {ρ : kT → Nat} {z : zT} {x : xT} {f0 : Nat → va_E} (J : cI LP ks ρ z x) (u : Int32) (v : Int32)  : pv_M l0 D (tys_ γ) y_S_damaged (Cond.code y_S_damaged b_S_damaged 4 (Option.some FieldType.int)) rm_S_damaged [.ref (ρ (0, 0)), .int u, .int v] LP (cF γ ks ρ z x f0) (cPost γ LP ks ρ f0 (some (.int (m_damaged z u v).1)) (m_damaged z u v).2) (cThr [eNS, eIA, eIS] z ((m_damaged z u v).2)) := by
  refine pv_mk hl0 (by decide) (Nat.le_of_ble_eq_true rfl) (fun κ C R0 hN _ => ?_)
  obtain ⟨H, hV, hz, hJ⟩ := id J
  have M0 : ((0, 0) : kT) ∈ ks := (hV _).mpr (Nat.zero_le _)
  have M1 : ((0, 1) : kT) ∈ ks := (hV _).mpr (by decide : 1 ≤ 3)
  have M2 : ((0, 2) : kT) ∈ ks := (hV _).mpr (by decide : 2 ≤ 3)
  have M3 : ((0, 3) : kT) ∈ ks := (hV _).mpr (by decide : 3 ≤ 3)
  show pv_V D κ 0 0 LP (cF γ ks ρ z x f0) 0 [(0, .ref (ρ (0, 0))), (1, .int u), (2, .int v)] []
  refine pv_aload_n C d_S_damaged_0 rfl 0 rfl ?_
  refine pv_iload_n C d_S_damaged_1 rfl 1 rfl ?_
  refine pv_callV (n := 1) (As := [.int u]) (rest := []) C (c_S_unitOf hl0 J u) cd_S_unitOf ml_S_113 in_S im_S_unitOf se_S_unitOf (H.1 _ M0) ((kf_at H M0).trans rfl) rfl rfl (by decide +kernel) (by decide) rfl (Nat.le_of_ble_eq_true rfl) rfl d_S_damaged_2 (by decide) hN R0 (fun E h => ⟨by rw [h.1]; exact cT_any 0 1 rfl rfl (by unfold m_damaged; rw [if_neg (nT h.2)]; first | exact Or.inl rfl | exact Or.inr rfl), rfl, rfl⟩) (fun v9 LP9 f9 h9 => ?_)
  obtain ⟨⟨rfl, w9, w8⟩, h1⟩ := h9
  have w9 := w9.symm
  have w8 := w8.symm
  subst w9
  subst w8
  have hU := isU_ix hz h1
  have hu2 : 1 ≤ ix u ∧ ix u ≤ zU z := ⟨hU.2.1, hU.2.2.1⟩
  have hlu := hz.2.2.2.2.1 (ix u) hU.2.1 hU.2.2.1
  have hvl := hJ.1 (ix u) hU.2.1 hU.2.2.1
  have MU : ((4, ix u) : kT) ∈ ks := (hV _).mpr hu2
  have MN : ((3, zl z (ix u)) : kT) ∈ ks := (hV _).mpr hvl
  have MA : ((1, zl z (ix u) / 4) : kT) ∈ ks := (hV _).mpr ⟨hvl.1, hvl.2.1⟩
  have hs := hJ.2.2.2.2.1 (ix u) hU.2.1 hU.2.2.1
  refine pv_stf (f2 := (kf ks ρ (cz γ ρ z x) f0)) (st2 := [.ref (ρ (4, ix u))]) (c2 := 1) (s2 := 6) rfl rfl rfl rfl ?_
  refine pv_astore_n (lv' := [(3, .ref (ρ (4, ix u))), (0, .ref (ρ (0, 0))), (1, .int u), (2, .int v)]) C d_S_damaged_5 rfl (by decide) rfl ?_
  refine pv_iload_n C d_S_damaged_6 rfl 3 rfl ?_
  refine pv_iconst (v := 1) C d_S_damaged_7 (by decide) ?_
  refine pv_bipush (v := 9) C d_S_damaged_8 (by decide) ?_
  refine pv_callS (n := 3) (As := [.int v, .int 1, .int 9]) (rest := []) C (c_S_mustBeWithin hl0 v 1 9) cd_S_mustBeWithin ml_S_27 in_S sm_S_mustBeWithin (by decide +kernel) (by decide) rfl (Nat.le_of_ble_eq_true rfl) rfl d_S_damaged_10 (by decide) hN R0 (fun E h => ⟨by rw [h.1]; exact cT_any 1 2 rfl rfl (by unfold m_damaged; rw [if_pos h1, if_neg (nT h.2)]; first | exact Or.inl rfl | exact Or.inr rfl), rfl, rfl⟩) (fun v9 LP9 f9 h9 => ?_)
  obtain ⟨⟨rfl, w9, w8⟩, h2⟩ := h9
  have w9 := w9.symm
  have w8 := w8.symm
  subst w9
  subst w8
  have hk0 : v ≠ 0 := fun q => by rw [q] at h2; exact absurd h2 (by decide)
  refine pv_stf (f2 := (kf ks ρ (cz γ ρ z x) f0)) (st2 := []) (c2 := 2) (s2 := 12) rfl rfl rfl rfl ?_
  refine pv_aload_n C d_S_damaged_13 rfl 0 rfl ?_
  refine pv_callV (n := 0) (As := []) (rest := []) C (c_U_isDamaged hl0 J (ix u) hu2) cd_U_isDamaged ml_S_117 in_U im_U_isDamaged se_U_isDamaged (H.1 _ MU) ((kf_at H MU).trans rfl) rfl rfl (by decide +kernel) (by decide) rfl (Nat.le_of_ble_eq_true rfl) rfl d_S_damaged_14 (by decide) hN R0 (fun _ h => h.elim) (fun v9 LP9 f9 h9 => ?_)
  obtain ⟨rfl, w9, w8⟩ := h9
  have w9 := w9.symm
  have w8 := w8.symm
  subst w9
  subst w8
  refine pv_stf (f2 := (kf ks ρ (cz γ ρ z x) f0)) (st2 := [.int (bN (!decide (z 24 (ix u) = 0)))]) (c2 := 2) (s2 := 12) rfl rfl rfl rfl ?_
  refine pv_ifb_ne (tgt := 34) C d_S_damaged_17 (by decide) (fun h3 => ?_) (fun h3 => ?_)
  · refine pv_iconst (v := 0) C d_S_damaged_34 (by decide) ?_
    refine pv_callS (n := 1) (As := [.int 0]) (rest := []) C (c_S_mustHold hl0 false) cd_S_mustHold ml_S_55 in_S sm_S_mustHold (by decide +kernel) (by decide) rfl (Nat.le_of_ble_eq_true rfl) rfl d_S_damaged_35 (by decide) hN R0 (fun E h => ⟨by rw [h.1]; exact cT_any 2 3 rfl rfl (by unfold m_damaged; rw [if_pos h1, if_pos h2, if_pos (hs.trans (uS_1.mpr (nd_t h3)))]; first | exact Or.inl rfl | exact Or.inr rfl), rfl, rfl⟩) (fun v9 LP9 f9 h9 => ?_)
    obtain ⟨⟨rfl, w9, w8⟩, h4⟩ := h9
    have w9 := w9.symm
    have w8 := w8.symm
    subst w9
    subst w8
    exact absurd h4 (by decide)
  · refine pv_aload_n C d_S_damaged_20 rfl 0 rfl ?_
    refine pv_get (v := .ref (ρ (3, zl z (ix u)))) (ci := 2) C hin_U rfl (H.1 _ MU) ((kf_at H MU).trans rfl) 0 (by decide) fl_S_120 rfl rfl d_S_damaged_21 ?_
    refine pv_get (v := .int (z 16 (zl z (ix u)))) (ci := 1) C hin_N rfl (H.1 _ MN) ((kf_at H MN).trans rfl) 10 (by decide) fl_S_84 rfl rfl d_S_damaged_24 ?_
    refine pv_if_ne (tgt := 34) C d_S_damaged_27 (by decide) (fun h5 => ?_) (fun h5 => ?_)
    · refine pv_iconst (v := 0) C d_S_damaged_34 (by decide) ?_
      refine pv_callS (n := 1) (As := [.int 0]) (rest := []) C (c_S_mustHold hl0 false) cd_S_mustHold ml_S_55 in_S sm_S_mustHold (by decide +kernel) (by decide) rfl (Nat.le_of_ble_eq_true rfl) rfl d_S_damaged_35 (by decide) hN R0 (fun E h => ⟨by rw [h.1]; exact cT_any 2 3 rfl rfl (by unfold m_damaged; rw [if_pos h1, if_pos h2, if_neg (fun q => uS_1.mp (hs.symm.trans q) (nd_f h3)), if_neg h5]; first | exact Or.inl rfl | exact Or.inr rfl), rfl, rfl⟩) (fun v9 LP9 f9 h9 => ?_)
      obtain ⟨⟨rfl, w9, w8⟩, h6⟩ := h9
      have w9 := w9.symm
      have w8 := w8.symm
      subst w9
      subst w8
      exact absurd h6 (by decide)
    · refine pv_iconst (v := 1) C d_S_damaged_30 (by decide) ?_
      refine pv_goto (tgt := 35) C d_S_damaged_31 (by decide) ?_
      refine pv_callS (n := 1) (As := [.int 1]) (rest := []) C (c_S_mustHold hl0 true) cd_S_mustHold ml_S_55 in_S sm_S_mustHold (by decide +kernel) (by decide) rfl (Nat.le_of_ble_eq_true rfl) rfl d_S_damaged_35 (by decide) hN R0 (fun E h => absurd h.2 (by decide)) (fun v9 LP9 f9 h9 => ?_)
      obtain ⟨⟨rfl, w9, w8⟩, h7⟩ := h9
      have w9 := w9.symm
      have w8 := w8.symm
      subst w9
      subst w8
      refine pv_stf (f2 := (kf ks ρ (cz γ ρ z x) f0)) (st2 := []) (c2 := 3) (s2 := 18) rfl rfl rfl rfl ?_
      refine pv_aload_n C d_S_damaged_38 rfl 0 rfl ?_
      refine pv_iload_n C d_S_damaged_39 rfl 3 rfl ?_
      refine pk_put (ci := 2) C H hin_U tyU tyU_ok nmU rfl MU rfl 4 (by decide) fl_S_124 rfl rfl rfl rfl (Nat.le_of_ble_eq_true rfl) d_S_damaged_40 ?_
      refine pk_fz (f2 := kf ks ρ (ku (cz γ ρ z x) (4, ix u) (.inr (2, [.ref (ρ (3, zl z (ix u))), .int (z 21 (ix u)), .int (z 22 (ix u)), .int (z 23 (ix u)), .int v, .int (z 25 (ix u)), .int (z 26 (ix u)), .int (x.2.2 (ix u))]))) f0) rfl ?_
      obtain ⟨z1, e1⟩ : ∃ q : zT, q = (zs (zs (zs (zs z 0 0 0) 0 0 0) 20 (ix u) 1) 24 (ix u) v) := ⟨_, rfl⟩
      obtain ⟨x1, y1⟩ : ∃ q : xT, q = x := ⟨_, rfl⟩
      have J1 : cI LP ks ρ z1 x1 := by
        rw [e1, y1]
        exact ⟨H, hV, hz, hJ.1, hJ.2.1, hJ.2.2.1, hJ.2.2.2.1, us_dm hk0 hJ.2.2.2.2.1, hJ.2.2.2.2.2.1, (show zF (zs (zs (zs (zs z 0 0 0) 0 0 0) 20 (ix u) 1) 24 (ix u) v) from zF_unit (by decide) (by decide) hu2 hJ.2.2.2.2.2.2)⟩
      have g1 : ∀ k7 ∈ ks, (ku (cz γ ρ z x) (4, ix u) (.inr (2, [.ref (ρ (3, zl z (ix u))), .int (z 21 (ix u)), .int (z 22 (ix u)), .int (z 23 (ix u)), .int v, .int (z 25 (ix u)), .int (z 26 (ix u)), .int (x.2.2 (ix u))]))) k7 = cz γ ρ z1 x1 k7 := by
        intro k7 hk
        rw [e1, y1]
        by_cases q0 : k7 = ((4, ix u) : kT)
        · subst q0
          simp [ku, cz, cU, zs, zl, upd]
        rw [ku_ne _ _ q0]
        exact (((cz_unit (by decide) (by decide) q0 (vK_4 ((hV _).mp hk))).trans ((cz_non (by decide)).trans ((cz_non (by decide)).trans (cz_non (by decide)))))).symm
      refine pk_fz (f2 := cF γ ks ρ z1 x1 f0) (kf_eq g1) ?_
      have hu2 : 1 ≤ ix u ∧ ix u ≤ zU z1 := by rw [e1]; exact hu2
      have hv1 : vK z1 (3, zl z1 (ix u)) := by rw [e1]; exact hvl
      have MN1 : ((3, zl z1 (ix u)) : kT) ∈ ks := by rw [e1]; exact MN
      refine pv_aload_n C d_S_damaged_43 rfl 1 rfl ?_
      refine pv_aload_n C d_S_damaged_44 rfl 0 rfl ?_
      refine pv_get (v := .ref (ρ (3, zl z1 (ix u)))) (ci := 2) C hin_U rfl (H.1 _ MU) ((kf_at H MU).trans rfl) 0 (by decide) fl_S_120 rfl rfl d_S_damaged_45 ?_
      refine pv_iconst (v := 1) C d_S_damaged_48 (by decide) ?_
      refine pv_callV (n := 2) (As := [.ref (ρ (3, zl z1 (ix u))), .int 1]) (rest := []) C (c_S_unitsInState hl0 J1 (zl z1 (ix u)) 1 hv1) cd_S_unitsInState ml_S_127 in_S im_S_unitsInState se_S_unitsInState (H.1 _ M0) ((kf_at H M0).trans rfl) rfl rfl (by decide +kernel) (by decide) rfl (Nat.le_of_ble_eq_true rfl) rfl d_S_damaged_49 (by decide) hN R0 (fun _ h => h.elim) (fun v9 LP9 f9 h9 => ?_)
      obtain ⟨rfl, w9, w8⟩ := h9
      have w9 := w9.symm
      have w8 := w8.symm
      subst w9
      subst w8
      refine pv_stf (f2 := (kf ks ρ (cz γ ρ z1 x1) f0)) (st2 := [.int (lCnt (usP z1 x1 (zl z1 (ix u)) 1) (zU z1))]) (c2 := 3) (s2 := 18) rfl rfl rfl rfl ?_
      exact pv_iret C R0 d_S_damaged_52 (by decide) (by decide) (cP_re J1 (by subst e1; rfl) rfl (fun _ q => q) (fun k hk => Or.inl ⟨k, hk, rfl⟩) (by rw [dm_eq J1 hu2, e1]; unfold m_damaged; rw [if_pos h1, if_pos h2, if_neg (fun q => uS_1.mp (hs.symm.trans q) (nd_f h3)), if_pos h5] <;> rfl))
theorem i32_sub0 {i b : Int32} (h : i - b = 0) : i = b := by
  have := congrArg (· + b) h
  simpa using this
theorem cl_n1 {z : zT} {a : Int32} {m t : Nat} {c : Int32} (h : ¬ z 19 (t + 1) / 4 = a) : m_cl z a (m + 1) t c = m_cl z a m (t + 1) c := by rw [m_cl, if_neg h]
theorem cl_n2 {z : zT} {a : Int32} {m t : Nat} {c : Int32} (h : z 19 (t + 1) / 4 = a) (h2 : ¬ z 20 (t + 1) = 1) : m_cl z a (m + 1) t c = m_cl z a m (t + 1) c := by rw [m_cl, if_pos h, if_neg h2]
theorem cl_y {z : zT} {a : Int32} {m t : Nat} {c : Int32} (h : z 19 (t + 1) / 4 = a) (h2 : z 20 (t + 1) = 1) (h3 : c = 0) : m_cl z a (m + 1) t c = nI (t + 1) := by rw [m_cl, if_pos h, if_pos h2, if_pos h3]
theorem cl_n3 {z : zT} {a : Int32} {m t : Nat} {i b : Int32} (h : z 19 (t + 1) / 4 = a) (h2 : z 20 (t + 1) = 1) (h3 : ¬ b = i) : m_cl z a (m + 1) t (i - b) = m_cl z a m (t + 1) (i - (b + 1)) := by
  rw [m_cl, if_pos h, if_pos h2, if_neg (fun q => h3 (i32_sub0 q).symm)]
  have e : i - b + (-1) = i - (b + 1) := by rw [Int32.sub_eq_add_neg i (b + 1), Int32.neg_add, Int32.sub_eq_add_neg (-b) 1, Int32.sub_eq_add_neg i b, Int32.add_assoc]
  rw [e]
abbrev rm_S_claim : Room := { frames := 7, cells := 2, slots := 12, locals := 112 }
set_option maxRecDepth 100000 in
set_option maxHeartbeats 4000000 in
theorem c_S_claim {l0 : Launch} {D : va_G} {γ : Nat → ClassId} (hl0 : l0.stackTraces = false) {LP : List Nat} {ks : List kT} {ρ : kT → Nat} {z : zT} {x : xT} {f0 : Nat → va_E} (J : cI LP ks ρ z x) (a : Int32) (i : Int32)  : pv_M l0 D (tys_ γ) y_S_claim (Cond.code y_S_claim b_S_claim 7 (Option.some FieldType.int)) rm_S_claim [.ref (ρ (0, 0)), .int a, .int i] LP (cF γ ks ρ z x f0) (cPost γ LP ks ρ f0 (some (.int (m_claim z a i).1)) (m_claim z a i).2) (cThr [eNS, eIA] z ((m_claim z a i).2)) := by
  refine pv_mk hl0 (by decide) (Nat.le_of_ble_eq_true rfl) (fun κ C R0 hN _ => ?_)
  obtain ⟨H, hV, hz, hJ⟩ := id J
  have M0 : ((0, 0) : kT) ∈ ks := (hV _).mpr (Nat.zero_le _)
  have M1 : ((0, 1) : kT) ∈ ks := (hV _).mpr (by decide : 1 ≤ 3)
  have M2 : ((0, 2) : kT) ∈ ks := (hV _).mpr (by decide : 2 ≤ 3)
  have M3 : ((0, 3) : kT) ∈ ks := (hV _).mpr (by decide : 3 ≤ 3)
  show pv_V D κ 0 0 LP (cF γ ks ρ z x f0) 0 [(0, .ref (ρ (0, 0))), (1, .int a), (2, .int i)] []
  refine pv_aload_n C d_S_claim_0 rfl 0 rfl ?_
  refine pv_iload_n C d_S_claim_1 rfl 1 rfl ?_
  refine pv_callV (n := 1) (As := [.int a]) (rest := []) C (c_S_announcementOf hl0 J a) cd_S_announcementOf ml_S_44 in_S im_S_announcementOf se_S_announcementOf (H.1 _ M0) ((kf_at H M0).trans rfl) rfl rfl (by decide +kernel) (by decide) rfl (Nat.le_of_ble_eq_true rfl) rfl d_S_claim_2 (by decide) hN R0 (fun E h => ⟨by rw [h.1]; exact cT_any 0 1 rfl rfl (by unfold m_claim; rw [if_neg (nT h.2)]; first | exact Or.inl rfl | exact Or.inr rfl), rfl, rfl⟩) (fun v9 LP9 f9 h9 => ?_)
  obtain ⟨⟨rfl, w9, w8⟩, h1⟩ := h9
  have w9 := w9.symm
  have w8 := w8.symm
  subst w9
  subst w8
  have hA := isA_ix hz h1
  have MA : ((1, ix a) : kT) ∈ ks := (hV _).mpr ⟨hA.2.1, hA.2.2.1⟩
  have ML : ((2, ix a) : kT) ∈ ks := (hV _).mpr ⟨hA.2.1, hA.2.2.1⟩
  refine pv_stf (f2 := (kf ks ρ (cz γ ρ z x) f0)) (st2 := [.ref (ρ (1, ix a))]) (c2 := 1) (s2 := 6) rfl rfl rfl rfl ?_
  refine pv_astore_n (lv' := [(3, .ref (ρ (1, ix a))), (0, .ref (ρ (0, 0))), (1, .int a), (2, .int i)]) C d_S_claim_5 rfl (by decide) rfl ?_
  refine pv_iload_n C d_S_claim_6 rfl 3 rfl ?_
  refine pv_if_ge (tgt := 20) C d_S_claim_7 (by decide) (fun h2 => ?_) (fun h2 => ?_)
  · refine pv_iconst (v := 0) C d_S_claim_20 (by decide) ?_
    refine pv_istore (lv' := [(4, .int 0), (3, .ref (ρ (1, ix a))), (0, .ref (ρ (0, 0))), (1, .int a), (2, .int i)]) C d_S_claim_21 (by decide) rfl ?_
    refine pv_iconst (v := 0) C d_S_claim_23 (by decide) ?_
    refine pv_istore (lv' := [(5, .int 0), (4, .int 0), (3, .ref (ρ (1, ix a))), (0, .ref (ρ (0, 0))), (1, .int a), (2, .int i)]) C d_S_claim_24 (by decide) rfl ?_
    have hi0 : ¬ i < 0 := Int32.not_lt.mpr h2
    have loop : ∀ (n9 : Nat) (n t : Nat) (b : Int32) (h2 : t + n = zU z) (hr : m_cl z a (zU z) 0 i = m_cl z a n t (i - b)), n < n9 → pv_V D κ 1 6 LP (cF γ ks ρ z x f0) 26 [(5, .int (nI t)), (4, .int b), (0, .ref (ρ (0, 0))), (2, .int i), (3, .ref (ρ (1, ix a)))] [] := by
      intro n9
      induction n9 with
      | zero => intro n t b h2 hr hm; exact absurd hm (Nat.not_lt_zero _)
      | succ n9 ih =>
        intro n t b h2 hr hm
        have hz1 := hz.2.1.2
        refine pv_iload C d_S_claim_26 0 rfl ?_
        refine pv_aload_n C d_S_claim_28 rfl 2 rfl ?_
        refine pv_get (v := .int (z 18 0)) (ci := 3) C hin_S rfl (H.1 _ M0) ((kf_at H M0).trans rfl) 4 (by decide) fl_S_98 rfl rfl d_S_claim_29 ?_
        refine pv_icmp_ge (tgt := 99) C d_S_claim_32 (by decide) (fun h101 => ?_) (fun h101 => ?_)
        · refine pv_iconst (v := (-1)) C d_S_claim_99 (by decide) ?_
          have hr2 : m_cl z a (zU z) 0 i = -1 := hr.trans (by rw [show n = 0 by rw [hz.2.1.1] at h101; have := (nI_leI (by omega) (by omega)).mp h101; omega]; rfl)
          exact pv_iret C R0 d_S_claim_100 (by decide) (by decide) (cP_rd J (by unfold m_claim; rw [if_pos h1, if_pos (Int32.not_lt.mp hi0), hr2] <;> rfl))
        · have hle : t + 1 ≤ zU z := by rw [hz.2.1.1] at h101; exact Nat.not_le.mp (fun q => h101 (nI_le q (by omega)))
          have hv1 : 1 ≤ t + 1 ∧ t + 1 ≤ zU z := ⟨by omega, hle⟩
          have hvl := hJ.1 (t + 1) hv1.1 hv1.2
          have hlu := hz.2.2.2.2.1 (t + 1) hv1.1 hv1.2
          have hs := hJ.2.2.2.2.1 (t + 1) hv1.1 hv1.2
          have MU : ((4, t + 1) : kT) ∈ ks := (hV _).mpr hv1
          have MN : ((3, zl z (t + 1)) : kT) ∈ ks := (hV _).mpr hvl
          have MB : ((1, zl z (t + 1) / 4) : kT) ∈ ks := (hV _).mpr ⟨hvl.1, hvl.2.1⟩
          have hdv : z 19 (t + 1) / 4 = nI (zl z (t + 1) / 4) := dv_ix hlu.1 (by omega)
          obtain ⟨m, rfl⟩ : ∃ m, n = m + 1 := ⟨n - 1, by omega⟩
          refine pv_iload C d_S_claim_35 0 rfl ?_
          refine pv_aload_n C d_S_claim_37 rfl 2 rfl ?_
          refine pv_get (v := .ref (ρ (0, 2))) (ci := 3) C hin_S rfl (H.1 _ M0) ((kf_at H M0).trans rfl) 1 (by decide) fl_S_17 rfl rfl d_S_claim_38 ?_
          refine pv_alen C 2 rfl (H.1 _ M2) ((kf_at H M2).trans rfl) (v := 120) rfl d_S_claim_41 ?_
          refine pv_icmp_ge (tgt := 99) C d_S_claim_42 (by decide) (fun h102 => ?_) (fun h102 => ?_)
          · exact absurd ((nI_leI (a := 120) (by decide) (by omega)).mp h102) (by omega)
          · refine pv_aload_n C d_S_claim_45 rfl 2 rfl ?_
            refine pv_get (v := .ref (ρ (0, 2))) (ci := 3) C hin_S rfl (H.1 _ M0) ((kf_at H M0).trans rfl) 1 (by decide) fl_S_17 rfl rfl d_S_claim_46 ?_
            refine pv_iload C d_S_claim_49 0 rfl ?_
            refine pv_aald C 2 rfl (H.1 _ M2) ((kf_at H M2).trans rfl) (j := t) (b := (ρ (4, t + 1))) rfl (show t < 120 by omega) (by decide) (if_pos hle) d_S_claim_51 ?_
            refine pv_astore (lv' := [(6, .ref (ρ (4, t + 1))), (5, .int (nI t)), (4, .int b), (0, .ref (ρ (0, 0))), (2, .int i), (3, .ref (ρ (1, ix a)))]) C d_S_claim_52 (by decide) rfl ?_
            refine pv_aload C d_S_claim_54 0 rfl ?_
            refine pv_ifnull C d_S_claim_56 ?_
            refine pv_aload C d_S_claim_59 0 rfl ?_
            refine pv_get (v := .ref (ρ (3, zl z (t + 1)))) (ci := 2) C hin_U rfl (H.1 _ MU) ((kf_at H MU).trans rfl) 0 (by decide) fl_S_120 rfl rfl d_S_claim_61 ?_
            refine pv_get (v := .ref (ρ (1, (zl z (t + 1)) / 4))) (ci := 1) C hin_N rfl (H.1 _ MN) ((kf_at H MN).trans rfl) 0 (by decide) fl_S_131 rfl rfl d_S_claim_64 ?_
            refine pv_aload_n C d_S_claim_67 rfl 5 rfl ?_
            refine pv_acmp_ne (tgt := 93) C d_S_claim_68 (by decide) (fun h103 => ?_) (fun h103 => ?_)
            · refine pv_iinc (v := ((nI t) + 1)) (lv' := [(5, .int ((nI t) + 1)), (6, .ref (ρ (4, t + 1))), (4, .int b), (0, .ref (ρ (0, 0))), (2, .int i), (3, .ref (ρ (1, ix a)))]) C d_S_claim_93 1 rfl rfl (by decide) rfl ?_
              refine pv_goto (tgt := 26) C d_S_claim_96 (by decide) ?_
              refine pv_lvs (lv2 := [(5, .int (nI (t + 1))), (4, .int b), (0, .ref (ρ (0, 0))), (2, .int i), (3, .ref (ρ (1, ix a)))]) [0, 2, 3, 4, 5] (by rw [← nI_next]; rfl) ?_
              exact ih m (t + 1) b (by omega) (hr.trans (cl_n1 (fun q => h103 (by rw [hdv, hA.1] at q; rw [nI_inj (by omega) (by omega) q])))) (by omega)
            · refine pv_aload C d_S_claim_71 0 rfl ?_
              refine pv_callV (n := 0) (As := []) (rest := []) C (c_U_isDamaged hl0 J (t + 1) hv1) cd_U_isDamaged ml_S_117 in_U im_U_isDamaged se_U_isDamaged (H.1 _ MU) ((kf_at H MU).trans rfl) rfl rfl (by decide +kernel) (by decide) rfl (Nat.le_of_ble_eq_true rfl) rfl d_S_claim_73 (by decide) hN R0 (fun _ h => h.elim) (fun v9 LP9 f9 h9 => ?_)
              obtain ⟨rfl, w9, w8⟩ := h9
              have w9 := w9.symm
              have w8 := w8.symm
              subst w9
              subst w8
              refine pv_stf (f2 := (kf ks ρ (cz γ ρ z x) f0)) (st2 := [.int (bN (!decide (z 24 (t + 1) = 0)))]) (c2 := 1) (s2 := 6) rfl rfl rfl rfl ?_
              refine pv_ifb_eq (tgt := 93) C d_S_claim_76 (by decide) (fun h104 => ?_) (fun h104 => ?_)
              · refine pv_iinc (v := ((nI t) + 1)) (lv' := [(5, .int ((nI t) + 1)), (6, .ref (ρ (4, t + 1))), (4, .int b), (0, .ref (ρ (0, 0))), (2, .int i), (3, .ref (ρ (1, ix a)))]) C d_S_claim_93 1 rfl rfl (by decide) rfl ?_
                refine pv_goto (tgt := 26) C d_S_claim_96 (by decide) ?_
                refine pv_lvs (lv2 := [(5, .int (nI (t + 1))), (4, .int b), (0, .ref (ρ (0, 0))), (2, .int i), (3, .ref (ρ (1, ix a)))]) [0, 2, 3, 4, 5] (by rw [← nI_next]; rfl) ?_
                exact ih m (t + 1) b (by omega) (hr.trans (cl_n2 (by rw [hdv, hA.1]; exact congrArg nI (congrArg Prod.snd (H.2 _ MB _ MA h103))) (fun q => uS_1.mp (hs.symm.trans q) (nd_f h104)))) (by omega)
              · refine pv_iload C d_S_claim_79 2 rfl ?_
                refine pv_iload_n C d_S_claim_81 rfl 4 rfl ?_
                refine pv_icmp_ne (tgt := 90) C d_S_claim_82 (by decide) (fun h105 => ?_) (fun h105 => ?_)
                · refine pv_iinc (v := (b + 1)) (lv' := [(4, .int (b + 1)), (6, .ref (ρ (4, t + 1))), (5, .int (nI t)), (0, .ref (ρ (0, 0))), (2, .int i), (3, .ref (ρ (1, ix a)))]) C d_S_claim_90 2 rfl rfl (by decide) rfl ?_
                  refine pv_iinc (v := ((nI t) + 1)) (lv' := [(5, .int ((nI t) + 1)), (4, .int (b + 1)), (6, .ref (ρ (4, t + 1))), (0, .ref (ρ (0, 0))), (2, .int i), (3, .ref (ρ (1, ix a)))]) C d_S_claim_93 2 rfl rfl (by decide) rfl ?_
                  refine pv_goto (tgt := 26) C d_S_claim_96 (by decide) ?_
                  refine pv_lvs (lv2 := [(5, .int (nI (t + 1))), (4, .int (b + 1)), (0, .ref (ρ (0, 0))), (2, .int i), (3, .ref (ρ (1, ix a)))]) [0, 1, 3, 4, 5] (by rw [← nI_next]; rfl) ?_
                  exact ih m (t + 1) (b + 1) (by omega) (hr.trans (cl_n3 (by rw [hdv, hA.1]; exact congrArg nI (congrArg Prod.snd (H.2 _ MB _ MA h103))) (hs.trans (uS_1.mpr (nd_t h104))) h105)) (by omega)
                · refine pv_iload C d_S_claim_85 1 rfl ?_
                  refine pv_iconst (v := 1) C d_S_claim_87 (by decide) ?_
                  refine pv_iadd C d_S_claim_88 ?_
                  have hr2 := hr.trans ((cl_y (by rw [hdv, hA.1]; exact congrArg nI (congrArg Prod.snd (H.2 _ MB _ MA h103))) (hs.trans (uS_1.mpr (nd_t h104))) (by rw [h105, Int32.sub_self])).trans (nI_next t).symm)
                  exact pv_iret C R0 d_S_claim_89 (by decide) (by decide) (cP_rd J (by unfold m_claim; rw [if_pos h1, if_pos (Int32.not_lt.mp hi0), hr2] <;> rfl))
    refine pv_lvs (lv2 := [(5, .int (nI 0)), (4, .int 0), (0, .ref (ρ (0, 0))), (2, .int i), (3, .ref (ρ (1, ix a)))]) [0, 1, 3, 5, 2] rfl ?_
    exact loop (zU z + 1) (zU z) 0 0 (by omega) (by rw [Int32.sub_zero]) (by omega)
  · exact pv_throw (LP0 := []) (f0 := fun _ => .inr (0, [])) (text := "claims are counted from 0") C hN R0 (by decide) (by decide) kl_S_203 in_IllegalArgumentException rfl (by decide) th1_IA th2_IA th3_IA d_S_claim_10 d_S_claim_13 d_S_claim_14 d_S_claim_16 d_S_claim_19 (by decide) (Nat.le_of_ble_eq_true rfl) (by decide) (by decide) (cT_any 1 2 rfl rfl (by unfold m_claim; rw [if_pos h1, if_neg (Int32.not_le.mpr (Int32.not_le.mp h2))]; exact Or.inl rfl))
/-- the first open line of an announcement, or -1 -/
def fo (z : zT) (i : Nat) : Nat → Nat → Int32
  | 0, _ => -1
  | n + 1, t => if z 16 (4 * i + t) = 0 then nI t else fo z i n (t + 1)
theorem ca_fo {z : zT} {a : Int32} : ∀ n t, t + n ≤ 4 → m_ca z a n t = if fo z (ix a) n t = -1 then (1, zs (zs (zs z 0 0 0) 0 0 0) 7 (ix a) 3) else (-fo z (ix a) n t - 1, zs (zs z 0 0 0) 0 0 0)
  | 0, t, _ => by rw [fo, if_pos rfl, m_ca]
  | n + 1, t, h => by
    rw [m_ca, fo]
    by_cases q : z 16 (4 * ix a + t) = 0
    · rw [if_pos q, if_pos q, if_neg (fun w => absurd (show nI t < 0 by rw [w]; decide) (nI_pos (by omega)))]
      rw [Int32.sub_eq_add_neg, Int32.sub_eq_add_neg, Int32.add_comm]
    · rw [if_neg q, if_neg q]
      exact ca_fo n (t + 1) (by omega)
abbrev rm_A_firstOpenLine : Room := { frames := 0, cells := 0, slots := 0, locals := 0 }
set_option maxRecDepth 100000 in
set_option maxHeartbeats 4000000 in
theorem c_A_firstOpenLine {l0 : Launch} {D : va_G} {γ : Nat → ClassId} (hl0 : l0.stackTraces = false) {LP : List Nat} {ks : List kT} {ρ : kT → Nat} {z : zT} {x : xT} {f0 : Nat → va_E} (J : cI LP ks ρ z x) (i : Nat) (hi : 1 ≤ i ∧ i ≤ zA z) : pv_M l0 D (tys_ γ) y_A_firstOpenLine (Cond.code y_A_firstOpenLine b_A_firstOpenLine 3 (Option.some FieldType.int)) rm_A_firstOpenLine [.ref (ρ (1, i))] LP (cF γ ks ρ z x f0) (rdP LP (cF γ ks ρ z x f0) (some (.int (fo z i (zt z i) 0)))) (fun _ => False) := by
  refine pv_mk hl0 (by decide) (Nat.le_of_ble_eq_true rfl) (fun κ C R0 hN _ => ?_)
  obtain ⟨H, hV, hz, hJ⟩ := id J
  have M0 : ((0, 0) : kT) ∈ ks := (hV _).mpr (Nat.zero_le _)
  have M1 : ((0, 1) : kT) ∈ ks := (hV _).mpr (by decide : 1 ≤ 3)
  have M2 : ((0, 2) : kT) ∈ ks := (hV _).mpr (by decide : 2 ≤ 3)
  have M3 : ((0, 3) : kT) ∈ ks := (hV _).mpr (by decide : 3 ≤ 3)
  show pv_V D κ 0 0 LP (cF γ ks ρ z x f0) 0 [(0, .ref (ρ (1, i)))] []
  have MA : ((1, i) : kT) ∈ ks := (hV _).mpr hi
  have ML : ((2, i) : kT) ∈ ks := (hV _).mpr hi
  have hz3 := hz.1.2
  have hz4 := hz.2.2.2.1 i (by omega)
  have loop : ∀ (n9 : Nat) (n t : Nat) (h2 : t + n = zt z i) (hr : fo z i (zt z i) 0 = fo z i n t), n < n9 → pv_V D κ 0 0 LP (cF γ ks ρ z x f0) 2 [(1, .int (nI t)), (0, .ref (ρ (1, i)))] [] := by
    intro n9
    induction n9 with
    | zero => intro n t h2 hr hm; exact absurd hm (Nat.not_lt_zero _)
    | succ n9 ih =>
      intro n t h2 hr hm
      refine pv_iload_n C d_A_firstOpenLine_2 rfl 0 rfl ?_
      refine pv_aload_n C d_A_firstOpenLine_3 rfl 1 rfl ?_
      refine pv_get (v := .int (z 6 i)) (ci := 0) C hin_A rfl (H.1 _ MA) ((kf_at H MA).trans rfl) 4 (by decide) fl_A_33 rfl rfl d_A_firstOpenLine_4 ?_
      refine pv_icmp_ge (tgt := 45) C d_A_firstOpenLine_7 (by decide) (fun h101 => ?_) (fun h101 => ?_)
      · refine pv_iconst (v := (-1)) C d_A_firstOpenLine_45 (by decide) ?_
        exact pv_iret C R0 d_A_firstOpenLine_46 (by decide) (by decide) ⟨by rw [hr.trans (show fo z i n t = -1 by rw [show n = 0 by rw [hz4.1] at h101; have := (nI_leI (by omega) (by omega)).mp h101; omega] <;> rfl)], rfl, rfl⟩
      · have hle : t < zt z i := by rw [hz4.1] at h101; exact Nat.not_le.mp (fun q => h101 (nI_le q (by omega)))
        have hvl : vK z (3, 4 * i + t) := vK_line hi.1 hi.2 hle (by omega)
        have MN : ((3, 4 * i + t) : kT) ∈ ks := (hV _).mpr hvl
        obtain ⟨m, rfl⟩ : ∃ m, n = m + 1 := ⟨n - 1, by omega⟩
        refine pv_iload_n C d_A_firstOpenLine_10 rfl 0 rfl ?_
        refine pv_aload_n C d_A_firstOpenLine_11 rfl 1 rfl ?_
        refine pv_get (v := .ref (ρ (2, i))) (ci := 0) C hin_A rfl (H.1 _ MA) ((kf_at H MA).trans rfl) 3 (by decide) fl_A_23 rfl rfl d_A_firstOpenLine_12 ?_
        refine pv_alen C 1 rfl (H.1 _ ML) ((kf_at H ML).trans rfl) (v := 4) rfl d_A_firstOpenLine_15 ?_
        refine pv_icmp_ge (tgt := 45) C d_A_firstOpenLine_16 (by decide) (fun h102 => ?_) (fun h102 => ?_)
        · exact absurd ((nI_leI (a := 4) (by decide) (by omega)).mp h102) (by omega)
        · refine pv_aload_n C d_A_firstOpenLine_19 rfl 1 rfl ?_
          refine pv_get (v := .ref (ρ (2, i))) (ci := 0) C hin_A rfl (H.1 _ MA) ((kf_at H MA).trans rfl) 3 (by decide) fl_A_23 rfl rfl d_A_firstOpenLine_20 ?_
          refine pv_iload_n C d_A_firstOpenLine_23 rfl 0 rfl ?_
          refine pv_aald C 1 rfl (H.1 _ ML) ((kf_at H ML).trans rfl) (j := t) (b := (ρ (3, 4 * i + t))) rfl (show t < 4 by omega) (by decide) (if_pos hle) d_A_firstOpenLine_24 ?_
          refine pv_astore_n (lv' := [(2, .ref (ρ (3, 4 * i + t))), (1, .int (nI t)), (0, .ref (ρ (1, i)))]) C d_A_firstOpenLine_25 rfl (by decide) rfl ?_
          refine pv_aload_n C d_A_firstOpenLine_26 rfl 0 rfl ?_
          refine pv_ifnull C d_A_firstOpenLine_27 ?_
          refine pv_aload_n C d_A_firstOpenLine_30 rfl 0 rfl ?_
          refine pv_get (v := .int (z 16 (4 * i + t))) (ci := 1) C hin_N rfl (H.1 _ MN) ((kf_at H MN).trans rfl) 10 (by decide) fl_A_39 rfl rfl d_A_firstOpenLine_31 ?_
          refine pv_if_ne (tgt := 39) C d_A_firstOpenLine_34 (by decide) (fun h103 => ?_) (fun h103 => ?_)
          · refine pv_iinc (v := ((nI t) + 1)) (lv' := [(1, .int ((nI t) + 1)), (2, .ref (ρ (3, 4 * i + t))), (0, .ref (ρ (1, i)))]) C d_A_firstOpenLine_39 1 rfl rfl (by decide) rfl ?_
            refine pv_goto (tgt := 2) C d_A_firstOpenLine_42 (by decide) ?_
            refine pv_lvs (lv2 := [(1, .int (nI (t + 1))), (0, .ref (ρ (1, i)))]) [0, 2] (by rw [← nI_next]; rfl) ?_
            exact ih m (t + 1) (by omega) (hr.trans (by rw [fo, if_neg h103])) (by omega)
          · refine pv_iload_n C d_A_firstOpenLine_37 rfl 1 rfl ?_
            exact pv_iret C R0 d_A_firstOpenLine_38 (by decide) (by decide) ⟨by rw [hr.trans (by rw [fo, if_pos h103])], rfl, rfl⟩
  refine pv_iconst (v := 0) C d_A_firstOpenLine_0 (by decide) ?_
  refine pv_istore_n (lv' := [(1, .int 0), (0, .ref (ρ (1, i)))]) C d_A_firstOpenLine_1 rfl (by decide) rfl ?_
  refine pv_lvs (lv2 := [(1, .int (nI 0)), (0, .ref (ρ (1, i)))]) [0, 1] rfl ?_
  exact loop (zt z i + 1) (zt z i) 0 (by omega) rfl (by omega)
theorem zc_2 (z : zT) (b c : Int32) : zc z (zs (zs z 0 0 b) 0 0 c) := zc_1 z b c
abbrev rm_S_closeAll : Room := { frames := 7, cells := 2, slots := 12, locals := 112 }
set_option maxRecDepth 100000 in
set_option maxHeartbeats 4000000 in
theorem c_S_closeAll {l0 : Launch} {D : va_G} {γ : Nat → ClassId} (hl0 : l0.stackTraces = false) {LP : List Nat} {ks : List kT} {ρ : kT → Nat} {z : zT} {x : xT} {f0 : Nat → va_E} (J : cI LP ks ρ z x) (a : Int32)  : pv_M l0 D (tys_ γ) y_S_closeAll (Cond.code y_S_closeAll b_S_closeAll 4 (Option.some FieldType.int)) rm_S_closeAll [.ref (ρ (0, 0)), .int a] LP (cF γ ks ρ z x f0) (cPost γ LP ks ρ f0 (some (.int (m_closeAll z a).1)) (m_closeAll z a).2) (cThr [eNS, eIS] z ((m_closeAll z a).2)) := by
  refine pv_mk hl0 (by decide) (Nat.le_of_ble_eq_true rfl) (fun κ C R0 hN _ => ?_)
  obtain ⟨H, hV, hz, hJ⟩ := id J
  have M0 : ((0, 0) : kT) ∈ ks := (hV _).mpr (Nat.zero_le _)
  have M1 : ((0, 1) : kT) ∈ ks := (hV _).mpr (by decide : 1 ≤ 3)
  have M2 : ((0, 2) : kT) ∈ ks := (hV _).mpr (by decide : 2 ≤ 3)
  have M3 : ((0, 3) : kT) ∈ ks := (hV _).mpr (by decide : 3 ≤ 3)
  show pv_V D κ 0 0 LP (cF γ ks ρ z x f0) 0 [(0, .ref (ρ (0, 0))), (1, .int a)] []
  refine pv_aload_n C d_S_closeAll_0 rfl 0 rfl ?_
  refine pv_iload_n C d_S_closeAll_1 rfl 1 rfl ?_
  refine pv_callV (n := 1) (As := [.int a]) (rest := []) C (c_S_announcementOf hl0 J a) cd_S_announcementOf ml_S_44 in_S im_S_announcementOf se_S_announcementOf (H.1 _ M0) ((kf_at H M0).trans rfl) rfl rfl (by decide +kernel) (by decide) rfl (Nat.le_of_ble_eq_true rfl) rfl d_S_closeAll_2 (by decide) hN R0 (fun E h => ⟨by rw [h.1]; exact cT_any 0 1 rfl rfl (by unfold m_closeAll; rw [if_neg (nT h.2)]; first | exact Or.inl rfl | exact Or.inr rfl), rfl, rfl⟩) (fun v9 LP9 f9 h9 => ?_)
  obtain ⟨⟨rfl, w9, w8⟩, h1⟩ := h9
  have w9 := w9.symm
  have w8 := w8.symm
  subst w9
  subst w8
  have hA := isA_ix hz h1
  have MA : ((1, ix a) : kT) ∈ ks := (hV _).mpr ⟨hA.2.1, hA.2.2.1⟩
  have ML : ((2, ix a) : kT) ∈ ks := (hV _).mpr ⟨hA.2.1, hA.2.2.1⟩
  refine pv_stf (f2 := (kf ks ρ (cz γ ρ z x) f0)) (st2 := [.ref (ρ (1, ix a))]) (c2 := 1) (s2 := 6) rfl rfl rfl rfl ?_
  refine pv_astore_n (lv' := [(2, .ref (ρ (1, ix a))), (0, .ref (ρ (0, 0))), (1, .int a)]) C d_S_closeAll_5 rfl (by decide) rfl ?_
  refine pv_aload_n C d_S_closeAll_6 rfl 0 rfl ?_
  refine pv_callV (n := 0) (As := []) (rest := []) C (c_A_hasArrived hl0 J (ix a) ⟨hA.2.1, hA.2.2.1⟩) cd_A_hasArrived ml_S_135 in_A im_A_hasArrived se_A_hasArrived (H.1 _ MA) ((kf_at H MA).trans rfl) rfl rfl (by decide +kernel) (by decide) rfl (Nat.le_of_ble_eq_true rfl) rfl d_S_closeAll_7 (by decide) hN R0 (fun _ h => h.elim) (fun v9 LP9 f9 h9 => ?_)
  obtain ⟨rfl, w9, w8⟩ := h9
  have w9 := w9.symm
  have w8 := w8.symm
  subst w9
  subst w8
  refine pv_stf (f2 := (kf ks ρ (cz γ ρ z x) f0)) (st2 := [.int (bN (decide (z 7 (ix a) = 1)))]) (c2 := 1) (s2 := 6) rfl rfl rfl rfl ?_
  refine pv_callS (n := 1) (As := [.int (bN (decide (z 7 (ix a) = 1)))]) (rest := []) C (c_S_mustHold hl0 (decide (z 7 (ix a) = 1))) cd_S_mustHold ml_S_55 in_S sm_S_mustHold (by decide +kernel) (by decide) rfl (Nat.le_of_ble_eq_true rfl) rfl d_S_closeAll_10 (by decide) hN R0 (fun E h => ⟨by rw [h.1]; exact cT_any 1 2 rfl rfl (by unfold m_closeAll; rw [if_pos h1, if_neg (of_decide_eq_false h.2)]; first | exact Or.inl rfl | exact Or.inr rfl), rfl, rfl⟩) (fun v9 LP9 f9 h9 => ?_)
  obtain ⟨⟨rfl, w9, w8⟩, h2⟩ := h9
  have w9 := w9.symm
  have w8 := w8.symm
  subst w9
  subst w8
  refine pv_stf (f2 := (kf ks ρ (cz γ ρ z x) f0)) (st2 := []) (c2 := 2) (s2 := 12) rfl rfl rfl rfl ?_
  refine pv_aload_n C d_S_closeAll_13 rfl 0 rfl ?_
  refine pv_callV (n := 0) (As := []) (rest := []) C (c_A_firstOpenLine hl0 J (ix a) ⟨hA.2.1, hA.2.2.1⟩) cd_A_firstOpenLine ml_S_189 in_A im_A_firstOpenLine se_A_firstOpenLine (H.1 _ MA) ((kf_at H MA).trans rfl) rfl rfl (by decide +kernel) (by decide) rfl (Nat.le_of_ble_eq_true rfl) rfl d_S_closeAll_14 (by decide) hN R0 (fun _ h => h.elim) (fun v9 LP9 f9 h9 => ?_)
  obtain ⟨rfl, w9, w8⟩ := h9
  have w9 := w9.symm
  have w8 := w8.symm
  subst w9
  subst w8
  refine pv_stf (f2 := (kf ks ρ (cz γ ρ z x) f0)) (st2 := [.int (fo z (ix a) (zt z (ix a)) 0)]) (c2 := 2) (s2 := 12) rfl rfl rfl rfl ?_
  refine pv_istore_n (lv' := [(3, .int (fo z (ix a) (zt z (ix a)) 0)), (2, .ref (ρ (1, ix a))), (0, .ref (ρ (0, 0))), (1, .int a)]) C d_S_closeAll_17 rfl (by decide) rfl ?_
  refine pv_iload_n C d_S_closeAll_18 rfl 0 rfl ?_
  refine pv_iconst (v := (-1)) C d_S_closeAll_19 (by decide) ?_
  refine pv_icmp_eq (tgt := 28) C d_S_closeAll_20 (by decide) (fun h3 => ?_) (fun h3 => ?_)
  · refine pv_aload_n C d_S_closeAll_28 rfl 1 rfl ?_
    refine pv_iconst (v := 3) C d_S_closeAll_29 (by decide) ?_
    refine pk_put (ci := 0) C H hin_A tyA tyA_ok nmA rfl MA rfl 5 (by decide) fl_S_48 rfl rfl rfl rfl (Nat.le_of_ble_eq_true rfl) d_S_closeAll_30 ?_
    refine pk_fz (f2 := kf ks ρ (ku (cz γ ρ z x) (1, ix a) (.inr (0, [.int (nI (ix a)), .int (z 4 (ix a)), .int (z 5 (ix a)), .ref (ρ (2, ix a)), .int (z 6 (ix a)), .int 3, .int (z 8 (ix a))]))) f0) rfl ?_
    refine pv_iconst (v := 1) C d_S_closeAll_33 (by decide) ?_
    obtain ⟨z1, e1⟩ : ∃ q : zT, q = (zs (zs (zs z 0 0 0) 0 0 0) 7 (ix a) 3) := ⟨_, rfl⟩
    obtain ⟨x1, y1⟩ : ∃ q : xT, q = x := ⟨_, rfl⟩
    have J1 : cI LP ks ρ z1 x1 := by
      rw [e1, y1]
      exact ⟨H, hV, hz, hJ.1, hJ.2.1, hJ.2.2.1, hJ.2.2.2.1, hJ.2.2.2.2.1, hJ.2.2.2.2.2.1, (show zF (zs (zs (zs z 0 0 0) 0 0 0) 7 (ix a) 3) from zF_st hA.2.2.1 (by decide) hJ.2.2.2.2.2.2)⟩
    have g1 : ∀ k7 ∈ ks, (ku (cz γ ρ z x) (1, ix a) (.inr (0, [.int (nI (ix a)), .int (z 4 (ix a)), .int (z 5 (ix a)), .ref (ρ (2, ix a)), .int (z 6 (ix a)), .int 3, .int (z 8 (ix a))]))) k7 = cz γ ρ z1 x1 k7 := by
      intro k7 hk
      rw [e1, y1]
      by_cases q0 : k7 = ((1, ix a) : kT)
      · subst q0
        simp [ku, cz, cA, zs, zl, upd]
      rw [ku_ne _ _ q0]
      exact (((cz_ann (by decide) q0).trans ((cz_non (by decide)).trans (cz_non (by decide))))).symm
    refine pk_fz (f2 := cF γ ks ρ z1 x1 f0) (kf_eq g1) ?_
    exact pv_iret C R0 d_S_closeAll_34 (by decide) (by decide) (cP_re J1 (by subst e1; rfl) rfl (fun _ q => q) (fun k hk => Or.inl ⟨k, hk, rfl⟩) (by rw [e1]; unfold m_closeAll; rw [if_pos h1, if_pos (of_decide_eq_true h2), ca_fo _ _ (by have := (hz.2.2.2.1 (ix a) hA.2.2.2).2.1; omega), if_pos h3]))
  · refine pv_iload_n C d_S_closeAll_23 rfl 0 rfl ?_
    refine pv_ineg C d_S_closeAll_24 ?_
    refine pv_iconst (v := 1) C d_S_closeAll_25 (by decide) ?_
    refine pv_isub C d_S_closeAll_26 ?_
    exact pv_iret C R0 d_S_closeAll_27 (by decide) (by decide) (cP_rd3 J (zc_2 z 0 0) rfl (by unfold m_closeAll; rw [if_pos h1, if_pos (of_decide_eq_true h2), ca_fo _ _ (by have := (hz.2.2.2.1 (ix a) hA.2.2.2).2.1; omega), if_neg h3]))
