/-! contracts of the component: finders, and what is only read (by wip/whole/gen/c3.py) -/
theorem isL_of {z : zT} {a n : Int32} (hz : zI z) (h : isA z a = true) (h1 : ¬ n < 0) (h2 : ¬ z 6 (ix a) ≤ n) : isL z a n = true := by
  have hA := isA_ix hz h
  obtain ⟨e1, e2, -⟩ := hz.2.2.2.1 (ix a) hA.2.2.2
  obtain ⟨j, hj, rfl⟩ := nI_of h1
  have h3 : j < zt z (ix a) := by
    rw [e1] at h2
    exact Nat.not_le.mp (fun q => h2 (nI_le q hj))
  have h4 : nI j ≤ z 6 (ix a) - 1 := by
    rw [e1]
    obtain ⟨w, hw⟩ : ∃ w, zt z (ix a) = w + 1 := ⟨zt z (ix a) - 1, by omega⟩
    rw [hw, nI_pred]
    exact nI_le (by omega) (by omega)
  have h5 : (0 : Int32) ≤ nI j := nI_pos' hj
  simp [isL, h, inB, h4, h5]
theorem isL_no {z : zT} {a n : Int32} (hz : zI z) (h : isA z a = true) (h1 : n < 0 ∨ z 6 (ix a) ≤ n) : isL z a n = false := by
  cases hq : isL z a n with
  | false => rfl
  | true =>
    exfalso
    obtain ⟨hA, e3, e4, e5⟩ := isL_ix hz hq
    obtain ⟨e1, e2, -⟩ := hz.2.2.2.1 (ix a) hA.2.2.2
    rcases h1 with q | q
    · rw [e3] at q; exact nI_pos (by omega) q
    · rw [e1, e3] at q
      have := (nI_leI (by omega) (by omega)).mp q
      omega
theorem df_of {z : zT} {i : Int32} (hz : zI z) (h1 : ¬ i < 0) (h2 : ¬ z 29 0 ≤ i) : inB i 0 (z 29 0 - 1) = true := by
  obtain ⟨e1, e2⟩ := hz.2.2.1
  obtain ⟨j, hj, rfl⟩ := nI_of h1
  have h3 : j < zD z := by
    rw [e1] at h2
    exact Nat.not_le.mp (fun q => h2 (nI_le q hj))
  have h4 : nI j ≤ z 29 0 - 1 := by
    rw [e1]
    obtain ⟨w, hw⟩ : ∃ w, zD z = w + 1 := ⟨zD z - 1, by omega⟩
    rw [hw, nI_pred]
    exact nI_le (by omega) (by omega)
  have h5 : (0 : Int32) ≤ nI j := nI_pos' hj
  simp [inB, h4, h5]
theorem df_no {z : zT} {i : Int32} (hz : zI z) (h1 : i < 0 ∨ z 29 0 ≤ i) : inB i 0 (z 29 0 - 1) = false := by
  cases hq : inB i 0 (z 29 0 - 1) with
  | false => rfl
  | true =>
    exfalso
    obtain ⟨e3, e4⟩ := df_ix hz hq
    obtain ⟨e1, e2⟩ := hz.2.2.1
    rcases h1 with q | q
    · rw [e3] at q; exact nI_pos (by omega) q
    · rw [e1, e3] at q
      have := (nI_leI (by omega) (by omega)).mp q
      omega
abbrev rm_S_lineOf : Room := { frames := 7, cells := 2, slots := 12, locals := 112 }
set_option maxRecDepth 100000 in
set_option maxHeartbeats 4000000 in
theorem c_S_lineOf {l0 : Launch} {D : va_G} {γ : Nat → ClassId} (hl0 : l0.stackTraces = false) {LP : List Nat} {ks : List kT} {ρ : kT → Nat} {z : zT} {x : xT} {f0 : Nat → va_E} (J : cI LP ks ρ z x) (a n : Int32)  : pv_M l0 D (tys_ γ) y_S_lineOf (Cond.code y_S_lineOf b_S_lineOf 5 (Option.some (FieldType.object "ReceiveSteps$Line"))) rm_S_lineOf [.ref (ρ (0, 0)), .int a, .int n] LP (cF γ ks ρ z x f0) (fun w LP1 f1 => rdP LP (cF γ ks ρ z x f0) (some (.ref (ρ (3, 4 * ix a + ix n)))) w LP1 f1 ∧ isL z a n = true) (fun E => E = eNS ∧ isL z a n = false) := by
  refine pv_mk hl0 (by decide) (Nat.le_of_ble_eq_true rfl) (fun κ C R0 hN _ => ?_)
  obtain ⟨H, hV, hz, hJ⟩ := id J
  have M0 : ((0, 0) : kT) ∈ ks := (hV _).mpr (Nat.zero_le _)
  have M1 : ((0, 1) : kT) ∈ ks := (hV _).mpr (by decide : 1 ≤ 3)
  have M2 : ((0, 2) : kT) ∈ ks := (hV _).mpr (by decide : 2 ≤ 3)
  have M3 : ((0, 3) : kT) ∈ ks := (hV _).mpr (by decide : 3 ≤ 3)
  show pv_V D κ 0 0 LP (cF γ ks ρ z x f0) 0 [(0, .ref (ρ (0, 0))), (1, .int a), (2, .int n)] []
  refine pv_aload_n C d_S_lineOf_0 rfl 0 rfl ?_
  refine pv_iload_n C d_S_lineOf_1 rfl 1 rfl ?_
  refine pv_callV (n := 1) (As := [.int a]) (rest := []) C (c_S_announcementOf hl0 J a) cd_S_announcementOf ml_S_44 in_S im_S_announcementOf se_S_announcementOf (H.1 _ M0) ((kf_at H M0).trans rfl) rfl rfl (by decide +kernel) (by decide) rfl (Nat.le_of_ble_eq_true rfl) rfl d_S_lineOf_2 (by decide) hN R0 (fun E h => ⟨⟨h.1, by simp [isL, h.2]⟩, rfl, rfl⟩) (fun v9 LP9 f9 h9 => ?_)
  obtain ⟨⟨rfl, w9, w8⟩, h1⟩ := h9
  have w9 := w9.symm
  have w8 := w8.symm
  subst w9
  subst w8
  have hA := isA_ix hz h1
  have MA : ((1, ix a) : kT) ∈ ks := (hV _).mpr ⟨hA.2.1, hA.2.2.1⟩
  have ML : ((2, ix a) : kT) ∈ ks := (hV _).mpr ⟨hA.2.1, hA.2.2.1⟩
  refine pv_stf (f2 := (kf ks ρ (cz γ ρ z x) f0)) (st2 := [.ref (ρ (1, ix a))]) (c2 := 1) (s2 := 6) rfl rfl rfl rfl ?_
  refine pv_astore_n (lv' := [(3, .ref (ρ (1, ix a))), (0, .ref (ρ (0, 0))), (1, .int a), (2, .int n)]) C d_S_lineOf_5 rfl (by decide) rfl ?_
  refine pv_iload_n C d_S_lineOf_6 rfl 3 rfl ?_
  refine pv_if_lt (tgt := 27) C d_S_lineOf_7 (by decide) (fun h2 => ?_) (fun h2 => ?_)
  · exact pv_throwN (LP0 := []) (f0 := fun _ => .inr (0, [])) (text := "there is no such line") C hN R0 kl_S_238 in_NoSuchElementException rfl (by decide) th1_NS th2_NS th3_NS d_S_lineOf_27 d_S_lineOf_30 d_S_lineOf_31 d_S_lineOf_33 d_S_lineOf_36 (by decide) (Nat.le_of_ble_eq_true rfl) (by decide) (by decide) (⟨rfl, isL_no hz h1 (Or.inl h2)⟩)
  · refine pv_iload_n C d_S_lineOf_10 rfl 3 rfl ?_
    refine pv_aload_n C d_S_lineOf_11 rfl 0 rfl ?_
    refine pv_get (v := .int (z 6 (ix a))) (ci := 0) C hin_A rfl (H.1 _ MA) ((kf_at H MA).trans rfl) 4 (by decide) fl_S_226 rfl rfl d_S_lineOf_12 ?_
    refine pv_icmp_ge (tgt := 27) C d_S_lineOf_15 (by decide) (fun h3 => ?_) (fun h3 => ?_)
    · exact pv_throwN (LP0 := []) (f0 := fun _ => .inr (0, [])) (text := "there is no such line") C hN R0 kl_S_238 in_NoSuchElementException rfl (by decide) th1_NS th2_NS th3_NS d_S_lineOf_27 d_S_lineOf_30 d_S_lineOf_31 d_S_lineOf_33 d_S_lineOf_36 (by decide) (Nat.le_of_ble_eq_true rfl) (by decide) (by decide) (⟨rfl, isL_no hz h1 (Or.inr h3)⟩)
    · have hL0 := isL_of hz h1 h2 h3
      have hL := isL_ix hz hL0
      refine pv_iload_n C d_S_lineOf_18 rfl 3 rfl ?_
      refine pv_aload_n C d_S_lineOf_19 rfl 0 rfl ?_
      refine pv_get (v := .ref (ρ (2, ix a))) (ci := 0) C hin_A rfl (H.1 _ MA) ((kf_at H MA).trans rfl) 3 (by decide) fl_S_243 rfl rfl d_S_lineOf_20 ?_
      refine pv_alen C 1 rfl (H.1 _ ML) ((kf_at H ML).trans rfl) (v := 4) rfl d_S_lineOf_23 ?_
      refine pv_icmp_lt (tgt := 37) C d_S_lineOf_24 (by decide) (fun h4 => ?_) (fun h4 => ?_)
      · refine pv_aload_n C d_S_lineOf_37 rfl 0 rfl ?_
        refine pv_get (v := .ref (ρ (2, ix a))) (ci := 0) C hin_A rfl (H.1 _ MA) ((kf_at H MA).trans rfl) 3 (by decide) fl_S_243 rfl rfl d_S_lineOf_38 ?_
        refine pv_iload_n C d_S_lineOf_41 rfl 3 rfl ?_
        refine pv_aald C 1 rfl (H.1 _ ML) ((kf_at H ML).trans rfl) (j := (ix n)) (b := (ρ (3, 4 * ix a + ix n))) hL.2.1 (show (ix n) < 4 by omega) (by decide) (gL_at hL.2.2.1) d_S_lineOf_42 ?_
        refine pv_astore (lv' := [(4, .ref (ρ (3, 4 * ix a + ix n))), (3, .ref (ρ (1, ix a))), (0, .ref (ρ (0, 0))), (1, .int a), (2, .int n)]) C d_S_lineOf_43 (by decide) rfl ?_
        refine pv_aload C d_S_lineOf_45 0 rfl ?_
        refine pv_ifnonnull (tgt := 60) C d_S_lineOf_47 (by decide) ?_
        refine pv_aload C d_S_lineOf_60 0 rfl ?_
        exact pv_aret C R0 d_S_lineOf_62 (by decide) (by decide) ⟨⟨rfl, rfl, rfl⟩, hL0⟩
      · exact absurd (by rw [hL.2.1]; exact nI_lt hL.2.2.2 (by decide)) h4
abbrev rm_S_unitOf : Room := { frames := 6, cells := 1, slots := 6, locals := 90 }
set_option maxRecDepth 100000 in
set_option maxHeartbeats 4000000 in
theorem c_S_unitOf {l0 : Launch} {D : va_G} {γ : Nat → ClassId} (hl0 : l0.stackTraces = false) {LP : List Nat} {ks : List kT} {ρ : kT → Nat} {z : zT} {x : xT} {f0 : Nat → va_E} (J : cI LP ks ρ z x) (u : Int32)  : pv_M l0 D (tys_ γ) y_S_unitOf (Cond.code y_S_unitOf b_S_unitOf 3 (Option.some (FieldType.object "ReceiveSteps$Unit"))) rm_S_unitOf [.ref (ρ (0, 0)), .int u] LP (cF γ ks ρ z x f0) (fun w LP1 f1 => rdP LP (cF γ ks ρ z x f0) (some (.ref (ρ (4, ix u)))) w LP1 f1 ∧ isU z u = true) (fun E => E = eNS ∧ isU z u = false) := by
  refine pv_mk hl0 (by decide) (Nat.le_of_ble_eq_true rfl) (fun κ C R0 hN _ => ?_)
  obtain ⟨H, hV, hz, hJ⟩ := id J
  have M0 : ((0, 0) : kT) ∈ ks := (hV _).mpr (Nat.zero_le _)
  have M1 : ((0, 1) : kT) ∈ ks := (hV _).mpr (by decide : 1 ≤ 3)
  have M2 : ((0, 2) : kT) ∈ ks := (hV _).mpr (by decide : 2 ≤ 3)
  have M3 : ((0, 3) : kT) ∈ ks := (hV _).mpr (by decide : 3 ≤ 3)
  show pv_V D κ 0 0 LP (cF γ ks ρ z x f0) 0 [(0, .ref (ρ (0, 0))), (1, .int u)] []
  refine pv_iload_n C d_S_unitOf_0 rfl 1 rfl ?_
  refine pv_iconst (v := 1) C d_S_unitOf_1 (by decide) ?_
  refine pv_icmp_lt (tgt := 22) C d_S_unitOf_2 (by decide) (fun h1 => ?_) (fun h1 => ?_)
  · exact pv_throwN (LP0 := []) (f0 := fun _ => .inr (0, [])) (text := "there is no such unit") C hN R0 kl_S_238 in_NoSuchElementException rfl (by decide) th1_NS th2_NS th3_NS d_S_unitOf_22 d_S_unitOf_25 d_S_unitOf_26 d_S_unitOf_28 d_S_unitOf_31 (by decide) (Nat.le_of_ble_eq_true rfl) (by decide) (by decide) (⟨rfl, by simp [isU, inB, ← Int32.not_lt, h1]⟩)
  · refine pv_iload_n C d_S_unitOf_5 rfl 1 rfl ?_
    refine pv_aload_n C d_S_unitOf_6 rfl 0 rfl ?_
    refine pv_get (v := .int (z 18 0)) (ci := 3) C hin_S rfl (H.1 _ M0) ((kf_at H M0).trans rfl) 4 (by decide) fl_S_98 rfl rfl d_S_unitOf_7 ?_
    refine pv_icmp_gt (tgt := 22) C d_S_unitOf_10 (by decide) (fun h2 => ?_) (fun h2 => ?_)
    · exact pv_throwN (LP0 := []) (f0 := fun _ => .inr (0, [])) (text := "there is no such unit") C hN R0 kl_S_238 in_NoSuchElementException rfl (by decide) th1_NS th2_NS th3_NS d_S_unitOf_22 d_S_unitOf_25 d_S_unitOf_26 d_S_unitOf_28 d_S_unitOf_31 (by decide) (Nat.le_of_ble_eq_true rfl) (by decide) (by decide) (⟨rfl, by simp [isU, inB, ← Int32.not_lt, h1, h2]⟩)
    · have hU0 : isU z u = true := by simp [isU, inB, ← Int32.not_lt, h1, h2]
      have hU := isU_ix hz hU0
      have MU : ((4, ix u) : kT) ∈ ks := (hV _).mpr ⟨hU.2.1, hU.2.2.1⟩
      refine pv_iload_n C d_S_unitOf_13 rfl 1 rfl ?_
      refine pv_aload_n C d_S_unitOf_14 rfl 0 rfl ?_
      refine pv_get (v := .ref (ρ (0, 2))) (ci := 3) C hin_S rfl (H.1 _ M0) ((kf_at H M0).trans rfl) 1 (by decide) fl_S_17 rfl rfl d_S_unitOf_15 ?_
      refine pv_alen C 2 rfl (H.1 _ M2) ((kf_at H M2).trans rfl) (v := 120) rfl d_S_unitOf_18 ?_
      refine pv_icmp_le (tgt := 32) C d_S_unitOf_19 (by decide) (fun h3 => ?_) (fun h3 => ?_)
      · refine pv_aload_n C d_S_unitOf_32 rfl 0 rfl ?_
        refine pv_get (v := .ref (ρ (0, 2))) (ci := 3) C hin_S rfl (H.1 _ M0) ((kf_at H M0).trans rfl) 1 (by decide) fl_S_17 rfl rfl d_S_unitOf_33 ?_
        refine pv_iload_n C d_S_unitOf_36 rfl 1 rfl ?_
        refine pv_iconst (v := 1) C d_S_unitOf_37 (by decide) ?_
        refine pv_isub C d_S_unitOf_38 ?_
        refine pv_aald C 2 rfl (H.1 _ M2) ((kf_at H M2).trans rfl) (j := (ix u - 1)) (b := (ρ (4, ix u))) (pr_ix hU.1 hU.2.1) (show (ix u - 1) < 120 by omega) (by decide) (gU_at hU.2.1 hU.2.2.1) d_S_unitOf_39 ?_
        refine pv_astore_n (lv' := [(2, .ref (ρ (4, ix u))), (0, .ref (ρ (0, 0))), (1, .int u)]) C d_S_unitOf_40 rfl (by decide) rfl ?_
        refine pv_aload_n C d_S_unitOf_41 rfl 0 rfl ?_
        refine pv_ifnonnull (tgt := 55) C d_S_unitOf_42 (by decide) ?_
        refine pv_aload_n C d_S_unitOf_55 rfl 0 rfl ?_
        exact pv_aret C R0 d_S_unitOf_56 (by decide) (by decide) ⟨⟨rfl, rfl, rfl⟩, hU0⟩
      · exact absurd (by rw [hU.1]; exact nI_le hU.2.2.2 (by decide)) h3
abbrev rm_S_differenceOf : Room := { frames := 6, cells := 1, slots := 6, locals := 90 }
set_option maxRecDepth 100000 in
set_option maxHeartbeats 4000000 in
theorem c_S_differenceOf {l0 : Launch} {D : va_G} {γ : Nat → ClassId} (hl0 : l0.stackTraces = false) {LP : List Nat} {ks : List kT} {ρ : kT → Nat} {z : zT} {x : xT} {f0 : Nat → va_E} (J : cI LP ks ρ z x) (i : Int32)  : pv_M l0 D (tys_ γ) y_S_differenceOf (Cond.code y_S_differenceOf b_S_differenceOf 3 (Option.some (FieldType.object "ReceiveSteps$Line"))) rm_S_differenceOf [.ref (ρ (0, 0)), .int i] LP (cF γ ks ρ z x f0) (fun w LP1 f1 => rdP LP (cF γ ks ρ z x f0) (some (.ref (ρ (3, ix (z 30 (ix i)))))) w LP1 f1 ∧ inB i 0 (z 29 0 - 1) = true) (fun E => E = eNS ∧ inB i 0 (z 29 0 - 1) = false) := by
  refine pv_mk hl0 (by decide) (Nat.le_of_ble_eq_true rfl) (fun κ C R0 hN _ => ?_)
  obtain ⟨H, hV, hz, hJ⟩ := id J
  have M0 : ((0, 0) : kT) ∈ ks := (hV _).mpr (Nat.zero_le _)
  have M1 : ((0, 1) : kT) ∈ ks := (hV _).mpr (by decide : 1 ≤ 3)
  have M2 : ((0, 2) : kT) ∈ ks := (hV _).mpr (by decide : 2 ≤ 3)
  have M3 : ((0, 3) : kT) ∈ ks := (hV _).mpr (by decide : 3 ≤ 3)
  show pv_V D κ 0 0 LP (cF γ ks ρ z x f0) 0 [(0, .ref (ρ (0, 0))), (1, .int i)] []
  refine pv_iload_n C d_S_differenceOf_0 rfl 1 rfl ?_
  refine pv_if_lt (tgt := 21) C d_S_differenceOf_1 (by decide) (fun h1 => ?_) (fun h1 => ?_)
  · exact pv_throwN (LP0 := []) (f0 := fun _ => .inr (0, [])) (text := "there are not so many differences") C hN R0 kl_S_238 in_NoSuchElementException rfl (by decide) th1_NS th2_NS th3_NS d_S_differenceOf_21 d_S_differenceOf_24 d_S_differenceOf_25 d_S_differenceOf_27 d_S_differenceOf_30 (by decide) (Nat.le_of_ble_eq_true rfl) (by decide) (by decide) (⟨rfl, df_no hz (Or.inl h1)⟩)
  · refine pv_iload_n C d_S_differenceOf_4 rfl 1 rfl ?_
    refine pv_aload_n C d_S_differenceOf_5 rfl 0 rfl ?_
    refine pv_get (v := .int (z 29 0)) (ci := 3) C hin_S rfl (H.1 _ M0) ((kf_at H M0).trans rfl) 6 (by decide) fl_S_250 rfl rfl d_S_differenceOf_6 ?_
    refine pv_icmp_ge (tgt := 21) C d_S_differenceOf_9 (by decide) (fun h2 => ?_) (fun h2 => ?_)
    · exact pv_throwN (LP0 := []) (f0 := fun _ => .inr (0, [])) (text := "there are not so many differences") C hN R0 kl_S_238 in_NoSuchElementException rfl (by decide) th1_NS th2_NS th3_NS d_S_differenceOf_21 d_S_differenceOf_24 d_S_differenceOf_25 d_S_differenceOf_27 d_S_differenceOf_30 (by decide) (Nat.le_of_ble_eq_true rfl) (by decide) (by decide) (⟨rfl, df_no hz (Or.inr h2)⟩)
    · have hI0 := df_of hz h1 h2
      have hI := df_ix hz hI0
      have hD2 := hz.2.2.1.2
      refine pv_iload_n C d_S_differenceOf_12 rfl 1 rfl ?_
      refine pv_aload_n C d_S_differenceOf_13 rfl 0 rfl ?_
      refine pv_get (v := .ref (ρ (0, 3))) (ci := 3) C hin_S rfl (H.1 _ M0) ((kf_at H M0).trans rfl) 2 (by decide) fl_S_23 rfl rfl d_S_differenceOf_14 ?_
      refine pv_alen C 1 rfl (H.1 _ M3) ((kf_at H M3).trans rfl) (v := 64) rfl d_S_differenceOf_17 ?_
      refine pv_icmp_lt (tgt := 31) C d_S_differenceOf_18 (by decide) (fun h3 => ?_) (fun h3 => ?_)
      · refine pv_aload_n C d_S_differenceOf_31 rfl 0 rfl ?_
        refine pv_get (v := .ref (ρ (0, 3))) (ci := 3) C hin_S rfl (H.1 _ M0) ((kf_at H M0).trans rfl) 2 (by decide) fl_S_23 rfl rfl d_S_differenceOf_32 ?_
        refine pv_iload_n C d_S_differenceOf_35 rfl 1 rfl ?_
        refine pv_aald C 1 rfl (H.1 _ M3) ((kf_at H M3).trans rfl) (j := (ix i)) (b := (ρ (3, ix (z 30 (ix i))))) hI.1 (show (ix i) < 64 by omega) (by decide) (gD_at hI.2) d_S_differenceOf_36 ?_
        refine pv_astore_n (lv' := [(2, .ref (ρ (3, ix (z 30 (ix i))))), (0, .ref (ρ (0, 0))), (1, .int i)]) C d_S_differenceOf_37 rfl (by decide) rfl ?_
        refine pv_aload_n C d_S_differenceOf_38 rfl 0 rfl ?_
        refine pv_ifnonnull (tgt := 52) C d_S_differenceOf_39 (by decide) ?_
        refine pv_aload_n C d_S_differenceOf_52 rfl 0 rfl ?_
        exact pv_aret C R0 d_S_differenceOf_53 (by decide) (by decide) ⟨⟨rfl, rfl, rfl⟩, hI0⟩
      · exact absurd (by rw [hI.1]; exact nI_lt (show ix i < 64 by omega) (by decide)) h3
abbrev rm_S_hasRight : Room := { frames := 1, cells := 0, slots := 0, locals := 20 }
set_option maxRecDepth 100000 in
set_option maxHeartbeats 4000000 in
theorem c_S_hasRight {l0 : Launch} {D : va_G} {γ : Nat → ClassId} (hl0 : l0.stackTraces = false) {LP : List Nat} {ks : List kT} {ρ : kT → Nat} {z : zT} {x : xT} {f0 : Nat → va_E} (J : cI LP ks ρ z x) (p : Int32) (hp : isP p = true) : pv_M l0 D (tys_ γ) y_S_hasRight (Cond.code y_S_hasRight b_S_hasRight 2 (Option.some FieldType.boolean)) rm_S_hasRight [.ref (ρ (0, 0)), .int p] LP (cF γ ks ρ z x f0) (rdP LP (cF γ ks ρ z x f0) (some (.int (bN (!decide (z 2 (ix p) = 0)))))) (fun _ => False) := by
  refine pv_mk hl0 (by decide) (Nat.le_of_ble_eq_true rfl) (fun κ C R0 hN _ => ?_)
  obtain ⟨H, hV, hz, hJ⟩ := id J
  have M0 : ((0, 0) : kT) ∈ ks := (hV _).mpr (Nat.zero_le _)
  have M1 : ((0, 1) : kT) ∈ ks := (hV _).mpr (by decide : 1 ≤ 3)
  have M2 : ((0, 2) : kT) ∈ ks := (hV _).mpr (by decide : 2 ≤ 3)
  have M3 : ((0, 3) : kT) ∈ ks := (hV _).mpr (by decide : 3 ≤ 3)
  show pv_V D κ 0 0 LP (cF γ ks ρ z x f0) 0 [(0, .ref (ρ (0, 0))), (1, .int p)] []
  have hP := isP_ix hp
  have hb : (x.1 &&& bitI p = 0) ↔ z 2 (ix p) = 0 := by rw [show bitI p = bitI (nI (ix p)) by rw [← hP.1]]; exact hJ.2.2.1 (ix p) hP.2
  refine pv_aload_n C d_S_hasRight_0 rfl 0 rfl ?_
  refine pv_get (v := .int x.1) (ci := 3) C hin_S rfl (H.1 _ M0) ((kf_at H M0).trans rfl) 9 (by decide) fl_S_73 rfl rfl d_S_hasRight_1 ?_
  refine pv_iload_n C d_S_hasRight_4 rfl 1 rfl ?_
  refine pv_callS (n := 1) (As := [.int p]) (rest := [.int x.1]) C (c_S_bitOf hl0 p) cd_S_bitOf ml_S_76 in_S sm_S_bitOf (by decide +kernel) (by decide) rfl (Nat.le_of_ble_eq_true rfl) rfl d_S_hasRight_5 (by decide) hN R0 (fun _ h => h.elim) (fun v9 LP9 f9 h9 => ?_)
  obtain ⟨rfl, w9, w8⟩ := h9
  have w9 := w9.symm
  have w8 := w8.symm
  subst w9
  subst w8
  refine pv_stf (f2 := (kf ks ρ (cz γ ρ z x) f0)) (st2 := [.int (bitI p), .int x.1]) (c2 := 0) (s2 := 0) rfl rfl rfl rfl ?_
  refine pv_iand C d_S_hasRight_8 ?_
  refine pv_if_eq (tgt := 16) C d_S_hasRight_9 (by decide) (fun h1 => ?_) (fun h1 => ?_)
  · refine pv_iconst (v := 0) C d_S_hasRight_16 (by decide) ?_
    exact pv_zret C rfl R0 d_S_hasRight_17 (by decide) (by decide) ⟨by simp [bN, ← hb, h1], rfl, rfl⟩
  · refine pv_iconst (v := 1) C d_S_hasRight_12 (by decide) ?_
    refine pv_goto (tgt := 17) C d_S_hasRight_13 (by decide) ?_
    exact pv_zret C rfl R0 d_S_hasRight_17 (by decide) (by decide) ⟨by simp [bN, ← hb, h1], rfl, rfl⟩
