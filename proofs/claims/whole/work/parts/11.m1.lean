/-! contracts of the reference (by the programs wip/whole/gen/model1.py, m1.py, walk.py) -/
theorem nT {b : Bool} (h : b = false) : ¬ b = true := by rw [h]; decide
theorem ln_ix {a n : Int32} {j k : Nat} (h1 : a = nI j) (h2 : n = nI k) : 4 * a + n = nI (4 * j + k) := by
  subst h1
  subst h2
  rw [show (4 : Int32) = nI 4 from rfl, pk_mul, nI_add]
theorem pn_ix {a n : Int32} {j k : Nat} (h1 : a = nI j) (h2 : n = nI k) : 8 * a + n = nI (8 * j + k) := by
  subst h1
  subst h2
  rw [show (8 : Int32) = nI 8 from rfl, pk_mul, nI_add]
theorem dv_ix {a : Int32} {j : Nat} (h1 : a = nI j) (h : j < 2 ^ 31) : a / 4 = nI (j / 4) := by
  subst h1
  exact pk_div h (by decide) (by decide)
theorem df_ix {z : zT} {i : Int32} (hz : zI z) (h : inB i 0 (z 29 0 - 1) = true) : i = nI (ix i) ∧ ix i < zD z := by
  have e1 := hz.2.2.1.1
  have e2 := hz.2.2.1.2
  rw [e1] at h
  rcases Nat.eq_zero_or_pos (zD z) with q | q
  · rw [q] at h
    obtain ⟨q1, q2⟩ := inB_t h
    have q3 := Int32.le_iff_toInt_le.mp q1
    have q4 := Int32.le_iff_toInt_le.mp q2
    rw [Int32.toInt_zero] at q3
    rw [show (nI 0 - 1).toInt = -1 by decide] at q4
    omega
  · have e3 : nI (zD z) - 1 = nI (zD z - 1) := by
      obtain ⟨w, hw⟩ : ∃ w, zD z = w + 1 := ⟨zD z - 1, by omega⟩
      rw [hw, nI_pred, Nat.add_sub_cancel]
    rw [e3] at h
    obtain ⟨g1, -, g3⟩ := inB_ix (a := 0) (b := zD z - 1) h rfl rfl (by decide) (by omega)
    exact ⟨g1, by omega⟩
abbrev rm_M_in : Room := { frames := 0, cells := 0, slots := 0, locals := 0 }
set_option maxRecDepth 100000 in
set_option maxHeartbeats 4000000 in
theorem c_M_in {l0 : Launch} {D : va_G} {γ : Nat → ClassId} (hl0 : l0.stackTraces = false) {LP : List Nat} {f0 : Nat → va_E} {mo : Nat} {ad : Nat → Nat} (G : mm_H mo ad LP) (z : zT) (v : Int32) (lo : Int32) (hi : Int32)  : mM l0 D γ y_M_in (Cond.code y_M_in b_M_in 3 (Option.some FieldType.boolean)) rm_M_in [.int v, .int lo, .int hi] LP f0 mo ad z (some (.int ((bN (inB v lo hi), z)).1)) ((bN (inB v lo hi), z)).2 := by
  refine pv_mk hl0 (by decide) (Nat.le_of_ble_eq_true rfl) (fun κ C R0 hN _ => ?_)
  show pv_V D κ 0 0 LP (mm_f γ f0 mo ad z) 0 [(0, .int v), (1, .int lo), (2, .int hi)] []
  refine pv_iload_n C d_M_in_0 rfl 0 rfl ?_
  refine pv_iload_n C d_M_in_1 rfl 1 rfl ?_
  refine pv_icmp_lt (tgt := 14) C d_M_in_2 (by decide) (fun h1 => ?_) (fun h1 => ?_)
  · refine pv_iconst (v := 0) C d_M_in_14 (by decide) ?_
    exact pv_zret C (rfl) R0 d_M_in_15 (by decide) (by decide) (mP_i (by simp [inB, bN, ← Int32.not_lt, bN_t, bN_f, h1]))
  · refine pv_iload_n C d_M_in_5 rfl 0 rfl ?_
    refine pv_iload_n C d_M_in_6 rfl 2 rfl ?_
    refine pv_icmp_gt (tgt := 14) C d_M_in_7 (by decide) (fun h2 => ?_) (fun h2 => ?_)
    · refine pv_iconst (v := 0) C d_M_in_14 (by decide) ?_
      exact pv_zret C (rfl) R0 d_M_in_15 (by decide) (by decide) (mP_i (by simp [inB, bN, ← Int32.not_lt, bN_t, bN_f, h1, h2]))
    · refine pv_iconst (v := 1) C d_M_in_10 (by decide) ?_
      refine pv_goto (tgt := 15) C d_M_in_11 (by decide) ?_
      exact pv_zret C (rfl) R0 d_M_in_15 (by decide) (by decide) (mP_i (by simp [inB, bN, ← Int32.not_lt, bN_t, bN_f, h1, h2]))
abbrev rm_M_isAnnouncement : Room := { frames := 1, cells := 0, slots := 0, locals := 22 }
set_option maxRecDepth 100000 in
set_option maxHeartbeats 4000000 in
theorem c_M_isAnnouncement {l0 : Launch} {D : va_G} {γ : Nat → ClassId} (hl0 : l0.stackTraces = false) {LP : List Nat} {f0 : Nat → va_E} {mo : Nat} {ad : Nat → Nat} (G : mm_H mo ad LP) (z : zT) (a : Int32)  : mM l0 D γ y_M_isAnnouncement (Cond.code y_M_isAnnouncement b_M_isAnnouncement 2 (Option.some FieldType.boolean)) rm_M_isAnnouncement [.ref mo, .int a] LP f0 mo ad z (some (.int ((bN (isA z a), z)).1)) ((bN (isA z a), z)).2 := by
  refine pv_mk hl0 (by decide) (Nat.le_of_ble_eq_true rfl) (fun κ C R0 hN _ => ?_)
  show pv_V D κ 0 0 LP (mm_f γ f0 mo ad z) 0 [(0, .ref mo), (1, .int a)] []
  refine pv_iload_n C d_M_isAnnouncement_0 rfl 1 rfl ?_
  refine pv_iconst (v := 1) C d_M_isAnnouncement_1 (by decide) ?_
  refine pv_aload_n C d_M_isAnnouncement_2 rfl 0 rfl ?_
  refine pm_get (v := .int (z 3 0)) C G 3 (by decide) fl_M_87 rfl rfl d_M_isAnnouncement_3 ?_
  refine pv_callS (n := 3) (As := [.int a, .int 1, .int (z 3 0)]) (rest := []) C (c_M_in hl0 G z a 1 (z 3 0)) cd_M_in ml_M_90 in_M sm_M_in (by decide +kernel) (by decide) rfl (Nat.le_of_ble_eq_true rfl) rfl d_M_isAnnouncement_6 (by decide) hN R0 (fun _ h => h.elim) (fun v9 LP9 f9 h9 => ?_)
  obtain ⟨rfl, rfl, rfl⟩ := h9
  refine pv_st (st2 := [.int (bN (inB a 1 (z 3 0)))]) (c2 := 0) (s2 := 0) rfl rfl rfl ?_
  exact pv_zret C (bN_n _) R0 d_M_isAnnouncement_9 (by decide) (by decide) (mP_i (by simp [isA, bN_t, bN_f]))
abbrev rm_M_isPerson : Room := { frames := 1, cells := 0, slots := 0, locals := 22 }
set_option maxRecDepth 100000 in
set_option maxHeartbeats 4000000 in
theorem c_M_isPerson {l0 : Launch} {D : va_G} {γ : Nat → ClassId} (hl0 : l0.stackTraces = false) {LP : List Nat} {f0 : Nat → va_E} {mo : Nat} {ad : Nat → Nat} (G : mm_H mo ad LP) (z : zT) (p : Int32)  : mM l0 D γ y_M_isPerson (Cond.code y_M_isPerson b_M_isPerson 1 (Option.some FieldType.boolean)) rm_M_isPerson [.int p] LP f0 mo ad z (some (.int ((bN (isP p), z)).1)) ((bN (isP p), z)).2 := by
  refine pv_mk hl0 (by decide) (Nat.le_of_ble_eq_true rfl) (fun κ C R0 hN _ => ?_)
  show pv_V D κ 0 0 LP (mm_f γ f0 mo ad z) 0 [(0, .int p)] []
  refine pv_iload_n C d_M_isPerson_0 rfl 0 rfl ?_
  refine pv_iconst (v := 0) C d_M_isPerson_1 (by decide) ?_
  refine pv_bipush (v := 7) C d_M_isPerson_2 (by decide) ?_
  refine pv_callS (n := 3) (As := [.int p, .int 0, .int 7]) (rest := []) C (c_M_in hl0 G z p 0 7) cd_M_in ml_M_90 in_M sm_M_in (by decide +kernel) (by decide) rfl (Nat.le_of_ble_eq_true rfl) rfl d_M_isPerson_4 (by decide) hN R0 (fun _ h => h.elim) (fun v9 LP9 f9 h9 => ?_)
  obtain ⟨rfl, rfl, rfl⟩ := h9
  refine pv_st (st2 := [.int (bN (inB p 0 7))]) (c2 := 0) (s2 := 0) rfl rfl rfl ?_
  exact pv_zret C (bN_n _) R0 d_M_isPerson_7 (by decide) (by decide) (mP_i (by simp [isP, bN_t, bN_f]))
abbrev rm_M_isUnit : Room := { frames := 1, cells := 0, slots := 0, locals := 22 }
set_option maxRecDepth 100000 in
set_option maxHeartbeats 4000000 in
theorem c_M_isUnit {l0 : Launch} {D : va_G} {γ : Nat → ClassId} (hl0 : l0.stackTraces = false) {LP : List Nat} {f0 : Nat → va_E} {mo : Nat} {ad : Nat → Nat} (G : mm_H mo ad LP) (z : zT) (u : Int32)  : mM l0 D γ y_M_isUnit (Cond.code y_M_isUnit b_M_isUnit 2 (Option.some FieldType.boolean)) rm_M_isUnit [.ref mo, .int u] LP f0 mo ad z (some (.int ((bN (isU z u), z)).1)) ((bN (isU z u), z)).2 := by
  refine pv_mk hl0 (by decide) (Nat.le_of_ble_eq_true rfl) (fun κ C R0 hN _ => ?_)
  show pv_V D κ 0 0 LP (mm_f γ f0 mo ad z) 0 [(0, .ref mo), (1, .int u)] []
  refine pv_iload_n C d_M_isUnit_0 rfl 1 rfl ?_
  refine pv_iconst (v := 1) C d_M_isUnit_1 (by decide) ?_
  refine pv_aload_n C d_M_isUnit_2 rfl 0 rfl ?_
  refine pm_get (v := .int (z 18 0)) C G 18 (by decide) fl_M_98 rfl rfl d_M_isUnit_3 ?_
  refine pv_callS (n := 3) (As := [.int u, .int 1, .int (z 18 0)]) (rest := []) C (c_M_in hl0 G z u 1 (z 18 0)) cd_M_in ml_M_90 in_M sm_M_in (by decide +kernel) (by decide) rfl (Nat.le_of_ble_eq_true rfl) rfl d_M_isUnit_6 (by decide) hN R0 (fun _ h => h.elim) (fun v9 LP9 f9 h9 => ?_)
  obtain ⟨rfl, rfl, rfl⟩ := h9
  refine pv_st (st2 := [.int (bN (inB u 1 (z 18 0)))]) (c2 := 0) (s2 := 0) rfl rfl rfl ?_
  exact pv_zret C (bN_n _) R0 d_M_isUnit_9 (by decide) (by decide) (mP_i (by simp [isU, bN_t, bN_f]))
abbrev rm_M_thrown : Room := { frames := 0, cells := 0, slots := 0, locals := 0 }
set_option maxRecDepth 100000 in
set_option maxHeartbeats 4000000 in
theorem c_M_thrown {l0 : Launch} {D : va_G} {γ : Nat → ClassId} (hl0 : l0.stackTraces = false) {LP : List Nat} {f0 : Nat → va_E} {mo : Nat} {ad : Nat → Nat} (G : mm_H mo ad LP) (z : zT)   : mM l0 D γ y_M_thrown (Cond.code y_M_thrown b_M_thrown 1 (Option.some FieldType.int)) rm_M_thrown [.ref mo] LP f0 mo ad z (some (.int ((z 0 0, z)).1)) ((z 0 0, z)).2 := by
  refine pv_mk hl0 (by decide) (Nat.le_of_ble_eq_true rfl) (fun κ C R0 hN _ => ?_)
  show pv_V D κ 0 0 LP (mm_f γ f0 mo ad z) 0 [(0, .ref mo)] []
  refine pv_aload_n C d_M_thrown_0 rfl 0 rfl ?_
  refine pm_get (v := .int (z 0 0)) C G 0 (by decide) fl_M_83 rfl rfl d_M_thrown_1 ?_
  exact pv_iret C R0 d_M_thrown_4 (by decide) (by decide) (mP_i (by simp [bN_t, bN_f]))
abbrev rm_M_isLine : Room := { frames := 2, cells := 0, slots := 0, locals := 43 }
set_option maxRecDepth 100000 in
set_option maxHeartbeats 4000000 in
theorem c_M_isLine {l0 : Launch} {D : va_G} {γ : Nat → ClassId} (hl0 : l0.stackTraces = false) {LP : List Nat} {f0 : Nat → va_E} {mo : Nat} {ad : Nat → Nat} (G : mm_H mo ad LP) (z : zT) (a : Int32) (n : Int32) (hz : zI z) : mM l0 D γ y_M_isLine (Cond.code y_M_isLine b_M_isLine 3 (Option.some FieldType.boolean)) rm_M_isLine [.ref mo, .int a, .int n] LP f0 mo ad z (some (.int ((bN (isL z a n), z)).1)) ((bN (isL z a n), z)).2 := by
  refine pv_mk hl0 (by decide) (Nat.le_of_ble_eq_true rfl) (fun κ C R0 hN _ => ?_)
  show pv_V D κ 0 0 LP (mm_f γ f0 mo ad z) 0 [(0, .ref mo), (1, .int a), (2, .int n)] []
  refine pv_aload_n C d_M_isLine_0 rfl 0 rfl ?_
  refine pv_iload_n C d_M_isLine_1 rfl 1 rfl ?_
  refine pv_callV (n := 1) (As := [.int a]) (rest := []) C (c_M_isAnnouncement hl0 G z a) cd_M_isAnnouncement ml_M_94 in_M im_M_isAnnouncement se_M_isAnnouncement G.1 mm_obj rfl rfl (by decide +kernel) (by decide) rfl (Nat.le_of_ble_eq_true rfl) rfl d_M_isLine_2 (by decide) hN R0 (fun _ h => h.elim) (fun v9 LP9 f9 h9 => ?_)
  obtain ⟨rfl, rfl, rfl⟩ := h9
  refine pv_st (st2 := [.int (bN (isA z a))]) (c2 := 0) (s2 := 0) rfl rfl rfl ?_
  refine pv_ifb_eq (tgt := 44) C d_M_isLine_5 (by decide) (fun h1 => ?_) (fun h1 => ?_)
  · refine pv_iconst (v := 0) C d_M_isLine_44 (by decide) ?_
    exact pv_zret C (rfl) R0 d_M_isLine_45 (by decide) (by decide) (mP_i (by simp [isL, bN_t, bN_f, h1]))
  · have hA := isA_ix hz h1
    refine pv_iload_n C d_M_isLine_8 rfl 2 rfl ?_
    refine pv_iconst (v := 0) C d_M_isLine_9 (by decide) ?_
    refine pv_aload_n C d_M_isLine_10 rfl 0 rfl ?_
    refine pm_get (v := .ref (ad 6)) C G 6 (by decide) fl_M_20 rfl rfl d_M_isLine_11 ?_
    refine pv_iload_n C d_M_isLine_14 rfl 1 rfl ?_
    refine pv_iconst (v := 1) C d_M_isLine_15 (by decide) ?_
    refine pv_aload_n C d_M_isLine_16 rfl 0 rfl ?_
    refine pm_get (v := .int (z 3 0)) C G 3 (by decide) fl_M_87 rfl rfl d_M_isLine_17 ?_
    refine pv_callS (n := 3) (As := [.int a, .int 1, .int (z 3 0)]) (rest := [.ref (ad 6), .int 0, .int n]) C (c_M_in hl0 G z a 1 (z 3 0)) cd_M_in ml_M_90 in_M sm_M_in (by decide +kernel) (by decide) rfl (Nat.le_of_ble_eq_true rfl) rfl d_M_isLine_20 (by decide) hN R0 (fun _ h => h.elim) (fun v9 LP9 f9 h9 => ?_)
    obtain ⟨rfl, rfl, rfl⟩ := h9
    refine pv_st (st2 := [.int (bN (inB a 1 (z 3 0))), .ref (ad 6), .int 0, .int n]) (c2 := 0) (s2 := 0) rfl rfl rfl ?_
    refine pv_ifb_eq (tgt := 30) C d_M_isLine_23 (by decide) (fun h2 => ?_) (fun h2 => ?_)
    · exact absurd h1 (by simp [isA, h2])
    · refine pv_iload_n C d_M_isLine_26 rfl 1 rfl ?_
      refine pv_goto (tgt := 31) C d_M_isLine_27 (by decide) ?_
      refine pm_ald C G 6 (by decide) rfl (j := (ix a)) hA.1 (show (ix a) < 17 by omega) d_M_isLine_31 ?_
      refine pv_top (y := (z 6 (ix a))) rfl ?_
      refine pv_iconst (v := 1) C d_M_isLine_32 (by decide) ?_
      refine pv_isub C d_M_isLine_33 ?_
      refine pv_callS (n := 3) (As := [.int n, .int 0, .int ((z 6 (ix a)) - 1)]) (rest := []) C (c_M_in hl0 G z n 0 ((z 6 (ix a)) - 1)) cd_M_in ml_M_90 in_M sm_M_in (by decide +kernel) (by decide) rfl (Nat.le_of_ble_eq_true rfl) rfl d_M_isLine_34 (by decide) hN R0 (fun _ h => h.elim) (fun v9 LP9 f9 h9 => ?_)
      obtain ⟨rfl, rfl, rfl⟩ := h9
      refine pv_st (st2 := [.int (bN (inB n 0 ((z 6 (ix a)) - 1)))]) (c2 := 0) (s2 := 0) rfl rfl rfl ?_
      refine pv_ifb_eq (tgt := 44) C d_M_isLine_37 (by decide) (fun h3 => ?_) (fun h3 => ?_)
      · refine pv_iconst (v := 0) C d_M_isLine_44 (by decide) ?_
        exact pv_zret C (rfl) R0 d_M_isLine_45 (by decide) (by decide) (mP_i (by simp [isL, bN_t, bN_f, h1, h2, h3]))
      · refine pv_iconst (v := 1) C d_M_isLine_40 (by decide) ?_
        refine pv_goto (tgt := 45) C d_M_isLine_41 (by decide) ?_
        exact pv_zret C (rfl) R0 d_M_isLine_45 (by decide) (by decide) (mP_i (by simp [isL, bN_t, bN_f, h1, h2, h3]))
abbrev rm_M_announce : Room := { frames := 1, cells := 0, slots := 0, locals := 22 }
def m_announce (z : zT) (o : Int32) (n : Int32) : Int32 × zT :=
  (if (inB o 0 7) = true then (if (inB n 1 4) = true then (if (z 3 0) = 16 then (0, (zs z 0 0 2)) else (((z 3 0) + 1), (zs (zs (zs (zs (zs z 0 0 0) 3 0 ((z 3 0) + 1)) 4 (zA z + 1) o) 5 (zA z + 1) n) 8 (zA z + 1) (-1)))) else (0, (zs z 0 0 1))) else (0, (zs z 0 0 1)))
set_option maxRecDepth 100000 in
set_option maxHeartbeats 4000000 in
theorem c_M_announce {l0 : Launch} {D : va_G} {γ : Nat → ClassId} (hl0 : l0.stackTraces = false) {LP : List Nat} {f0 : Nat → va_E} {mo : Nat} {ad : Nat → Nat} (G : mm_H mo ad LP) (z : zT) (o : Int32) (n : Int32) (hz : zI z) : mM l0 D γ y_M_announce (Cond.code y_M_announce b_M_announce 3 (Option.some FieldType.int)) rm_M_announce [.ref mo, .int o, .int n] LP f0 mo ad z (some (.int (m_announce z o n).1)) (m_announce z o n).2 := by
  refine pv_mk hl0 (by decide) (Nat.le_of_ble_eq_true rfl) (fun κ C R0 hN _ => ?_)
  show pv_V D κ 0 0 LP (mm_f γ f0 mo ad z) 0 [(0, .ref mo), (1, .int o), (2, .int n)] []
  refine pv_aload_n C d_M_announce_0 rfl 0 rfl ?_
  refine pv_iload_n C d_M_announce_1 rfl 1 rfl ?_
  refine pv_iconst (v := 0) C d_M_announce_2 (by decide) ?_
  refine pv_bipush (v := 7) C d_M_announce_3 (by decide) ?_
  refine pv_callS (n := 3) (As := [.int o, .int 0, .int 7]) (rest := [.ref mo]) C (c_M_in hl0 G z o 0 7) cd_M_in ml_M_90 in_M sm_M_in (by decide +kernel) (by decide) rfl (Nat.le_of_ble_eq_true rfl) rfl d_M_announce_5 (by decide) hN R0 (fun _ h => h.elim) (fun v9 LP9 f9 h9 => ?_)
  obtain ⟨rfl, rfl, rfl⟩ := h9
  refine pv_st (st2 := [.int (bN (inB o 0 7)), .ref mo]) (c2 := 0) (s2 := 0) rfl rfl rfl ?_
  refine pv_ifb_eq (tgt := 20) C d_M_announce_8 (by decide) (fun h1 => ?_) (fun h1 => ?_)
  · refine pv_iconst (v := 1) C d_M_announce_20 (by decide) ?_
    refine pv_goto (tgt := 38) C d_M_announce_21 (by decide) ?_
    refine pm_put C G 0 (by decide) fl_M_83 rfl rfl rfl (by decide) rfl d_M_announce_38 ?_
    refine pv_aload_n C d_M_announce_41 rfl 0 rfl ?_
    refine pm_get (v := .int 1) C G 0 (by decide) fl_M_83 rfl rfl d_M_announce_42 ?_
    refine pv_if_le (tgt := 50) C d_M_announce_45 (by decide) (fun q => absurd q (by decide)) (fun _ => ?_)
    refine pv_iconst (v := 0) C d_M_announce_48 (by decide) ?_
    exact pv_iret C R0 d_M_announce_49 (by decide) (by decide) (mP_i (by unfold m_announce; rw [if_neg (nT h1)]))
  · refine pv_iload_n C d_M_announce_11 rfl 2 rfl ?_
    refine pv_iconst (v := 1) C d_M_announce_12 (by decide) ?_
    refine pv_iconst (v := 4) C d_M_announce_13 (by decide) ?_
    refine pv_callS (n := 3) (As := [.int n, .int 1, .int 4]) (rest := [.ref mo]) C (c_M_in hl0 G z n 1 4) cd_M_in ml_M_90 in_M sm_M_in (by decide +kernel) (by decide) rfl (Nat.le_of_ble_eq_true rfl) rfl d_M_announce_14 (by decide) hN R0 (fun _ h => h.elim) (fun v9 LP9 f9 h9 => ?_)
    obtain ⟨rfl, rfl, rfl⟩ := h9
    refine pv_st (st2 := [.int (bN (inB n 1 4)), .ref mo]) (c2 := 0) (s2 := 0) rfl rfl rfl ?_
    refine pv_ifb_ne (tgt := 24) C d_M_announce_17 (by decide) (fun h2 => ?_) (fun h2 => ?_)
    · refine pv_aload_n C d_M_announce_24 rfl 0 rfl ?_
      refine pm_get (v := .int (z 3 0)) C G 3 (by decide) fl_M_87 rfl rfl d_M_announce_25 ?_
      refine pv_bipush (v := 16) C d_M_announce_28 (by decide) ?_
      refine pv_icmp_ne (tgt := 37) C d_M_announce_30 (by decide) (fun h3 => ?_) (fun h3 => ?_)
      · refine pv_iconst (v := 0) C d_M_announce_37 (by decide) ?_
        refine pm_put C G 0 (by decide) fl_M_83 rfl rfl rfl (by decide) rfl d_M_announce_38 ?_
        refine pv_aload_n C d_M_announce_41 rfl 0 rfl ?_
        refine pm_get (v := .int 0) C G 0 (by decide) fl_M_83 rfl rfl d_M_announce_42 ?_
        refine pv_if_le (tgt := 50) C d_M_announce_45 (by decide) (fun _ => ?_) (fun q => absurd q (by decide))
        have hA : z 3 0 = nI (zA z) := hz.1.1
        have hA2 : zA z ≤ 16 := hz.1.2
        have hA1 : zA z ≠ 16 := fun q => h3 (by rw [hA, q]; rfl)
        have hI : z 3 0 + 1 = nI (zA z + 1) := by rw [nI_succ, ← hA]
        refine pv_aload_n C d_M_announce_50 rfl 0 rfl ?_
        refine pv_dup C d_M_announce_51 rfl ?_
        refine pm_get (v := .int (z 3 0)) C G 3 (by decide) fl_M_87 rfl rfl d_M_announce_52 ?_
        refine pv_iconst (v := 1) C d_M_announce_55 (by decide) ?_
        refine pv_iadd C d_M_announce_56 ?_
        refine pm_put C G 3 (by decide) fl_M_87 rfl rfl rfl (by decide) rfl d_M_announce_57 ?_
        refine pv_aload_n C d_M_announce_60 rfl 0 rfl ?_
        refine pm_get (v := .ref (ad 4)) C G 4 (by decide) fl_M_13 rfl rfl d_M_announce_61 ?_
        refine pv_aload_n C d_M_announce_64 rfl 0 rfl ?_
        refine pm_get (v := .int ((z 3 0) + 1)) C G 3 (by decide) fl_M_87 rfl rfl d_M_announce_65 ?_
        refine pv_iload_n C d_M_announce_68 rfl 1 rfl ?_
        refine pm_ast C G 4 (by decide) rfl (j := (zA z + 1)) hI (show (zA z + 1) < 17 by omega) d_M_announce_69 ?_
        refine pv_aload_n C d_M_announce_70 rfl 0 rfl ?_
        refine pm_get (v := .ref (ad 5)) C G 5 (by decide) fl_M_17 rfl rfl d_M_announce_71 ?_
        refine pv_aload_n C d_M_announce_74 rfl 0 rfl ?_
        refine pm_get (v := .int ((z 3 0) + 1)) C G 3 (by decide) fl_M_87 rfl rfl d_M_announce_75 ?_
        refine pv_iload_n C d_M_announce_78 rfl 2 rfl ?_
        refine pm_ast C G 5 (by decide) rfl (j := (zA z + 1)) hI (show (zA z + 1) < 17 by omega) d_M_announce_79 ?_
        refine pv_aload_n C d_M_announce_80 rfl 0 rfl ?_
        refine pm_get (v := .ref (ad 8)) C G 8 (by decide) fl_M_26 rfl rfl d_M_announce_81 ?_
        refine pv_aload_n C d_M_announce_84 rfl 0 rfl ?_
        refine pm_get (v := .int ((z 3 0) + 1)) C G 3 (by decide) fl_M_87 rfl rfl d_M_announce_85 ?_
        refine pv_iconst (v := (-1)) C d_M_announce_88 (by decide) ?_
        refine pm_ast C G 8 (by decide) rfl (j := (zA z + 1)) hI (show (zA z + 1) < 17 by omega) d_M_announce_89 ?_
        refine pv_aload_n C d_M_announce_90 rfl 0 rfl ?_
        refine pm_get (v := .int ((z 3 0) + 1)) C G 3 (by decide) fl_M_87 rfl rfl d_M_announce_91 ?_
        exact pv_iret C R0 d_M_announce_94 (by decide) (by decide) (mP_i (by unfold m_announce; rw [if_pos h1, if_pos h2, if_neg h3]))
      · refine pv_iconst (v := 2) C d_M_announce_33 (by decide) ?_
        refine pv_goto (tgt := 38) C d_M_announce_34 (by decide) ?_
        refine pm_put C G 0 (by decide) fl_M_83 rfl rfl rfl (by decide) rfl d_M_announce_38 ?_
        refine pv_aload_n C d_M_announce_41 rfl 0 rfl ?_
        refine pm_get (v := .int 2) C G 0 (by decide) fl_M_83 rfl rfl d_M_announce_42 ?_
        refine pv_if_le (tgt := 50) C d_M_announce_45 (by decide) (fun q => absurd q (by decide)) (fun _ => ?_)
        refine pv_iconst (v := 0) C d_M_announce_48 (by decide) ?_
        exact pv_iret C R0 d_M_announce_49 (by decide) (by decide) (mP_i (by unfold m_announce; rw [if_pos h1, if_pos h2, if_pos h3]))
    · refine pv_iconst (v := 1) C d_M_announce_20 (by decide) ?_
      refine pv_goto (tgt := 38) C d_M_announce_21 (by decide) ?_
      refine pm_put C G 0 (by decide) fl_M_83 rfl rfl rfl (by decide) rfl d_M_announce_38 ?_
      refine pv_aload_n C d_M_announce_41 rfl 0 rfl ?_
      refine pm_get (v := .int 1) C G 0 (by decide) fl_M_83 rfl rfl d_M_announce_42 ?_
      refine pv_if_le (tgt := 50) C d_M_announce_45 (by decide) (fun q => absurd q (by decide)) (fun _ => ?_)
      refine pv_iconst (v := 0) C d_M_announce_48 (by decide) ?_
      exact pv_iret C R0 d_M_announce_49 (by decide) (by decide) (mP_i (by unfold m_announce; rw [if_pos h1, if_neg (nT h2)]))
abbrev rm_M_line : Room := { frames := 2, cells := 0, slots := 0, locals := 43 }
def m_line (z : zT) (a : Int32) (g : Int32) (n : Int32) : Int32 × zT :=
  (if (isA z a) = true then (if (inB g 0 9) = true then (if (inB n 0 400) = true then (if (z 6 (ix a)) = (z 5 (ix a)) then (0, (zs (zs z 0 0 0) 0 0 3)) else (if (z 7 (ix a)) = 3 then (0, (zs (zs z 0 0 0) 0 0 3)) else ((((z 6 (ix a)) + 1) - 1), (zs (zs (zs (zs (zs z 0 0 0) 0 0 0) 9 (4 * ix a + zt z (ix a)) g) 10 (4 * ix a + zt z (ix a)) n) 6 (ix a) ((z 6 (ix a)) + 1))))) else (0, (zs z 0 0 2))) else (0, (zs z 0 0 2))) else (0, (zs z 0 0 1)))
set_option maxRecDepth 100000 in
set_option maxHeartbeats 4000000 in
theorem c_M_line {l0 : Launch} {D : va_G} {γ : Nat → ClassId} (hl0 : l0.stackTraces = false) {LP : List Nat} {f0 : Nat → va_E} {mo : Nat} {ad : Nat → Nat} (G : mm_H mo ad LP) (z : zT) (a : Int32) (g : Int32) (n : Int32) (hz : zI z) : mM l0 D γ y_M_line (Cond.code y_M_line b_M_line 5 (Option.some FieldType.int)) rm_M_line [.ref mo, .int a, .int g, .int n] LP f0 mo ad z (some (.int (m_line z a g n).1)) (m_line z a g n).2 := by
  refine pv_mk hl0 (by decide) (Nat.le_of_ble_eq_true rfl) (fun κ C R0 hN _ => ?_)
  show pv_V D κ 0 0 LP (mm_f γ f0 mo ad z) 0 [(0, .ref mo), (1, .int a), (2, .int g), (3, .int n)] []
  refine pv_aload_n C d_M_line_0 rfl 0 rfl ?_
  refine pv_aload_n C d_M_line_1 rfl 0 rfl ?_
  refine pv_iload_n C d_M_line_2 rfl 1 rfl ?_
  refine pv_callV (n := 1) (As := [.int a]) (rest := [.ref mo]) C (c_M_isAnnouncement hl0 G z a) cd_M_isAnnouncement ml_M_94 in_M im_M_isAnnouncement se_M_isAnnouncement G.1 mm_obj rfl rfl (by decide +kernel) (by decide) rfl (Nat.le_of_ble_eq_true rfl) rfl d_M_line_3 (by decide) hN R0 (fun _ h => h.elim) (fun v9 LP9 f9 h9 => ?_)
  obtain ⟨rfl, rfl, rfl⟩ := h9
  refine pv_st (st2 := [.int (bN (isA z a)), .ref mo]) (c2 := 0) (s2 := 0) rfl rfl rfl ?_
  refine pv_ifb_ne (tgt := 13) C d_M_line_6 (by decide) (fun h1 => ?_) (fun h1 => ?_)
  · have hA := isA_ix hz h1
    refine pv_iload_n C d_M_line_13 rfl 2 rfl ?_
    refine pv_iconst (v := 0) C d_M_line_14 (by decide) ?_
    refine pv_bipush (v := 9) C d_M_line_15 (by decide) ?_
    refine pv_callS (n := 3) (As := [.int g, .int 0, .int 9]) (rest := [.ref mo]) C (c_M_in hl0 G z g 0 9) cd_M_in ml_M_90 in_M sm_M_in (by decide +kernel) (by decide) rfl (Nat.le_of_ble_eq_true rfl) rfl d_M_line_17 (by decide) hN R0 (fun _ h => h.elim) (fun v9 LP9 f9 h9 => ?_)
    obtain ⟨rfl, rfl, rfl⟩ := h9
    refine pv_st (st2 := [.int (bN (inB g 0 9)), .ref mo]) (c2 := 0) (s2 := 0) rfl rfl rfl ?_
    refine pv_ifb_eq (tgt := 34) C d_M_line_20 (by decide) (fun h2 => ?_) (fun h2 => ?_)
    · refine pv_iconst (v := 2) C d_M_line_34 (by decide) ?_
      refine pv_goto (tgt := 39) C d_M_line_35 (by decide) ?_
      refine pm_put C G 0 (by decide) fl_M_83 rfl rfl rfl (by decide) rfl d_M_line_39 ?_
      refine pv_aload_n C d_M_line_42 rfl 0 rfl ?_
      refine pm_get (v := .int 2) C G 0 (by decide) fl_M_83 rfl rfl d_M_line_43 ?_
      refine pv_if_ne (tgt := 83) C d_M_line_46 (by decide) (fun _ => ?_) (fun q => absurd q (by decide))
      refine pv_aload_n C d_M_line_83 rfl 0 rfl ?_
      refine pm_get (v := .int 2) C G 0 (by decide) fl_M_83 rfl rfl d_M_line_84 ?_
      refine pv_if_le (tgt := 92) C d_M_line_87 (by decide) (fun q => absurd q (by decide)) (fun _ => ?_)
      refine pv_iconst (v := 0) C d_M_line_90 (by decide) ?_
      exact pv_iret C R0 d_M_line_91 (by decide) (by decide) (mP_i (by unfold m_line; rw [if_pos h1, if_neg (nT h2)]))
    · refine pv_iload_n C d_M_line_23 rfl 3 rfl ?_
      refine pv_iconst (v := 0) C d_M_line_24 (by decide) ?_
      refine pv_sipush (v := 400) C d_M_line_25 (by decide) ?_
      refine pv_callS (n := 3) (As := [.int n, .int 0, .int 400]) (rest := [.ref mo]) C (c_M_in hl0 G z n 0 400) cd_M_in ml_M_90 in_M sm_M_in (by decide +kernel) (by decide) rfl (Nat.le_of_ble_eq_true rfl) rfl d_M_line_28 (by decide) hN R0 (fun _ h => h.elim) (fun v9 LP9 f9 h9 => ?_)
      obtain ⟨rfl, rfl, rfl⟩ := h9
      refine pv_st (st2 := [.int (bN (inB n 0 400)), .ref mo]) (c2 := 0) (s2 := 0) rfl rfl rfl ?_
      refine pv_ifb_ne (tgt := 38) C d_M_line_31 (by decide) (fun h3 => ?_) (fun h3 => ?_)
      · refine pv_iconst (v := 0) C d_M_line_38 (by decide) ?_
        refine pm_put C G 0 (by decide) fl_M_83 rfl rfl rfl (by decide) rfl d_M_line_39 ?_
        refine pv_aload_n C d_M_line_42 rfl 0 rfl ?_
        refine pm_get (v := .int 0) C G 0 (by decide) fl_M_83 rfl rfl d_M_line_43 ?_
        refine pv_if_ne (tgt := 83) C d_M_line_46 (by decide) (fun q => absurd q (by decide)) (fun _ => ?_)
        refine pv_aload_n C d_M_line_49 rfl 0 rfl ?_
        refine pv_aload_n C d_M_line_50 rfl 0 rfl ?_
        refine pm_get (v := .ref (ad 6)) C G 6 (by decide) fl_M_20 rfl rfl d_M_line_51 ?_
        refine pv_iload_n C d_M_line_54 rfl 1 rfl ?_
        refine pm_ald C G 6 (by decide) rfl (j := (ix a)) hA.1 (show (ix a) < 17 by omega) d_M_line_55 ?_
        refine pv_top (y := (z 6 (ix a))) (zs_k _ _ (by decide)) ?_
        refine pv_aload_n C d_M_line_56 rfl 0 rfl ?_
        refine pm_get (v := .ref (ad 5)) C G 5 (by decide) fl_M_17 rfl rfl d_M_line_57 ?_
        refine pv_iload_n C d_M_line_60 rfl 1 rfl ?_
        refine pm_ald C G 5 (by decide) rfl (j := (ix a)) hA.1 (show (ix a) < 17 by omega) d_M_line_61 ?_
        refine pv_top (y := (z 5 (ix a))) (zs_k _ _ (by decide)) ?_
        refine pv_icmp_eq (tgt := 75) C d_M_line_62 (by decide) (fun h4 => ?_) (fun h4 => ?_)
        · refine pv_iconst (v := 3) C d_M_line_75 (by decide) ?_
          refine pv_goto (tgt := 80) C d_M_line_76 (by decide) ?_
          refine pm_put C G 0 (by decide) fl_M_83 rfl rfl rfl (by decide) rfl d_M_line_80 ?_
          refine pv_aload_n C d_M_line_83 rfl 0 rfl ?_
          refine pm_get (v := .int 3) C G 0 (by decide) fl_M_83 rfl rfl d_M_line_84 ?_
          refine pv_if_le (tgt := 92) C d_M_line_87 (by decide) (fun q => absurd q (by decide)) (fun _ => ?_)
          refine pv_iconst (v := 0) C d_M_line_90 (by decide) ?_
          exact pv_iret C R0 d_M_line_91 (by decide) (by decide) (mP_i (by unfold m_line; rw [if_pos h1, if_pos h2, if_pos h3, if_pos h4]))
        · refine pv_aload_n C d_M_line_65 rfl 0 rfl ?_
          refine pm_get (v := .ref (ad 7)) C G 7 (by decide) fl_M_23 rfl rfl d_M_line_66 ?_
          refine pv_iload_n C d_M_line_69 rfl 1 rfl ?_
          refine pm_ald C G 7 (by decide) rfl (j := (ix a)) hA.1 (show (ix a) < 17 by omega) d_M_line_70 ?_
          refine pv_top (y := (z 7 (ix a))) (zs_k _ _ (by decide)) ?_
          refine pv_iconst (v := 3) C d_M_line_71 (by decide) ?_
          refine pv_icmp_ne (tgt := 79) C d_M_line_72 (by decide) (fun h5 => ?_) (fun h5 => ?_)
          · refine pv_iconst (v := 0) C d_M_line_79 (by decide) ?_
            refine pm_put C G 0 (by decide) fl_M_83 rfl rfl rfl (by decide) rfl d_M_line_80 ?_
            refine pv_aload_n C d_M_line_83 rfl 0 rfl ?_
            refine pm_get (v := .int 0) C G 0 (by decide) fl_M_83 rfl rfl d_M_line_84 ?_
            refine pv_if_le (tgt := 92) C d_M_line_87 (by decide) (fun _ => ?_) (fun q => absurd q (by decide))
            have ht := hz.2.2.2.1 (ix a) hA.2.2.2
            have hq : zt z (ix a) ≠ ix (z 5 (ix a)) := fun q => h4 (by rw [ht.1, ht.2.2.1, q])
            have hI : 4 * a + z 6 (ix a) = nI (4 * ix a + zt z (ix a)) := ln_ix hA.1 ht.1
            refine pv_iconst (v := 4) C d_M_line_92 (by decide) ?_
            refine pv_iload_n C d_M_line_93 rfl 1 rfl ?_
            refine pv_imul C d_M_line_94 ?_
            refine pv_aload_n C d_M_line_95 rfl 0 rfl ?_
            refine pm_get (v := .ref (ad 6)) C G 6 (by decide) fl_M_20 rfl rfl d_M_line_96 ?_
            refine pv_iload_n C d_M_line_99 rfl 1 rfl ?_
            refine pm_ald C G 6 (by decide) rfl (j := (ix a)) hA.1 (show (ix a) < 17 by omega) d_M_line_100 ?_
            refine pv_top (y := (z 6 (ix a))) ((zs_k _ _ (by decide)).trans (zs_k _ _ (by decide))) ?_
            refine pv_iadd C d_M_line_101 ?_
            refine pv_istore (lv' := [(4, .int ((4 * a) + (z 6 (ix a)))), (0, .ref mo), (1, .int a), (2, .int g), (3, .int n)]) C d_M_line_102 (by decide) rfl ?_
            refine pv_aload_n C d_M_line_104 rfl 1 rfl ?_
            refine pm_get (v := .ref (ad 9)) C G 9 (by decide) fl_M_29 rfl rfl d_M_line_105 ?_
            refine pv_iload C d_M_line_108 0 rfl ?_
            refine pv_iload_n C d_M_line_110 rfl 3 rfl ?_
            refine pm_ast C G 9 (by decide) rfl (j := (4 * ix a + zt z (ix a))) hI (show (4 * ix a + zt z (ix a)) < 68 by omega) d_M_line_111 ?_
            refine pv_aload_n C d_M_line_112 rfl 1 rfl ?_
            refine pm_get (v := .ref (ad 10)) C G 10 (by decide) fl_M_32 rfl rfl d_M_line_113 ?_
            refine pv_iload C d_M_line_116 0 rfl ?_
            refine pv_iload_n C d_M_line_118 rfl 4 rfl ?_
            refine pm_ast C G 10 (by decide) rfl (j := (4 * ix a + zt z (ix a))) hI (show (4 * ix a + zt z (ix a)) < 68 by omega) d_M_line_119 ?_
            refine pv_aload_n C d_M_line_120 rfl 1 rfl ?_
            refine pm_get (v := .ref (ad 6)) C G 6 (by decide) fl_M_20 rfl rfl d_M_line_121 ?_
            refine pv_iload_n C d_M_line_124 rfl 2 rfl ?_
            refine pv_dup2 C d_M_line_125 rfl rfl ?_
            refine pm_ald C G 6 (by decide) rfl (j := (ix a)) hA.1 (show (ix a) < 17 by omega) d_M_line_126 ?_
            refine pv_top (y := (z 6 (ix a))) ((zs_k _ _ (by decide)).trans ((zs_k _ _ (by decide)).trans ((zs_k _ _ (by decide)).trans (zs_k _ _ (by decide))))) ?_
            refine pv_iconst (v := 1) C d_M_line_127 (by decide) ?_
            refine pv_iadd C d_M_line_128 ?_
            refine pm_ast C G 6 (by decide) rfl (j := (ix a)) hA.1 (show (ix a) < 17 by omega) d_M_line_129 ?_
            refine pv_aload_n C d_M_line_130 rfl 1 rfl ?_
            refine pm_get (v := .ref (ad 6)) C G 6 (by decide) fl_M_20 rfl rfl d_M_line_131 ?_
            refine pv_iload_n C d_M_line_134 rfl 2 rfl ?_
            refine pm_ald C G 6 (by decide) rfl (j := (ix a)) hA.1 (show (ix a) < 17 by omega) d_M_line_135 ?_
            refine pv_top (y := ((z 6 (ix a)) + 1)) (zs_eq _ _ _ _) ?_
            refine pv_iconst (v := 1) C d_M_line_136 (by decide) ?_
            refine pv_isub C d_M_line_137 ?_
            exact pv_iret C R0 d_M_line_138 (by decide) (by decide) (mP_i (by unfold m_line; rw [if_pos h1, if_pos h2, if_pos h3, if_neg h4, if_neg h5]))
          · refine pv_iconst (v := 3) C d_M_line_75 (by decide) ?_
            refine pv_goto (tgt := 80) C d_M_line_76 (by decide) ?_
            refine pm_put C G 0 (by decide) fl_M_83 rfl rfl rfl (by decide) rfl d_M_line_80 ?_
            refine pv_aload_n C d_M_line_83 rfl 0 rfl ?_
            refine pm_get (v := .int 3) C G 0 (by decide) fl_M_83 rfl rfl d_M_line_84 ?_
            refine pv_if_le (tgt := 92) C d_M_line_87 (by decide) (fun q => absurd q (by decide)) (fun _ => ?_)
            refine pv_iconst (v := 0) C d_M_line_90 (by decide) ?_
            exact pv_iret C R0 d_M_line_91 (by decide) (by decide) (mP_i (by unfold m_line; rw [if_pos h1, if_pos h2, if_pos h3, if_neg h4, if_pos h5]))
      · refine pv_iconst (v := 2) C d_M_line_34 (by decide) ?_
        refine pv_goto (tgt := 39) C d_M_line_35 (by decide) ?_
        refine pm_put C G 0 (by decide) fl_M_83 rfl rfl rfl (by decide) rfl d_M_line_39 ?_
        refine pv_aload_n C d_M_line_42 rfl 0 rfl ?_
        refine pm_get (v := .int 2) C G 0 (by decide) fl_M_83 rfl rfl d_M_line_43 ?_
        refine pv_if_ne (tgt := 83) C d_M_line_46 (by decide) (fun _ => ?_) (fun q => absurd q (by decide))
        refine pv_aload_n C d_M_line_83 rfl 0 rfl ?_
        refine pm_get (v := .int 2) C G 0 (by decide) fl_M_83 rfl rfl d_M_line_84 ?_
        refine pv_if_le (tgt := 92) C d_M_line_87 (by decide) (fun q => absurd q (by decide)) (fun _ => ?_)
        refine pv_iconst (v := 0) C d_M_line_90 (by decide) ?_
        exact pv_iret C R0 d_M_line_91 (by decide) (by decide) (mP_i (by unfold m_line; rw [if_pos h1, if_pos h2, if_neg (nT h3)]))
  · refine pv_iconst (v := 1) C d_M_line_9 (by decide) ?_
    refine pv_goto (tgt := 39) C d_M_line_10 (by decide) ?_
    refine pm_put C G 0 (by decide) fl_M_83 rfl rfl rfl (by decide) rfl d_M_line_39 ?_
    refine pv_aload_n C d_M_line_42 rfl 0 rfl ?_
    refine pm_get (v := .int 1) C G 0 (by decide) fl_M_83 rfl rfl d_M_line_43 ?_
    refine pv_if_ne (tgt := 83) C d_M_line_46 (by decide) (fun _ => ?_) (fun q => absurd q (by decide))
    refine pv_aload_n C d_M_line_83 rfl 0 rfl ?_
    refine pm_get (v := .int 1) C G 0 (by decide) fl_M_83 rfl rfl d_M_line_84 ?_
    refine pv_if_le (tgt := 92) C d_M_line_87 (by decide) (fun q => absurd q (by decide)) (fun _ => ?_)
    refine pv_iconst (v := 0) C d_M_line_90 (by decide) ?_
    exact pv_iret C R0 d_M_line_91 (by decide) (by decide) (mP_i (by unfold m_line; rw [if_neg (nT h1)]))
abbrev rm_M_accept : Room := { frames := 2, cells := 0, slots := 0, locals := 43 }
def m_accept (z : zT) (a : Int32) (p : Int32) : zT :=
  (if (isA z a) = true then (if (isP p) = true then (if (z 7 (ix a)) = 2 then (if (z 2 (ix p)) = 0 then (zs (zs z 0 0 0) 0 0 3) else (zs (zs (zs z 0 0 0) 0 0 0) 7 (ix a) 1)) else (zs (zs z 0 0 0) 0 0 3)) else (zs z 0 0 2)) else (zs z 0 0 1))
set_option maxRecDepth 100000 in
set_option maxHeartbeats 4000000 in
theorem c_M_accept {l0 : Launch} {D : va_G} {γ : Nat → ClassId} (hl0 : l0.stackTraces = false) {LP : List Nat} {f0 : Nat → va_E} {mo : Nat} {ad : Nat → Nat} (G : mm_H mo ad LP) (z : zT) (a : Int32) (p : Int32) (hz : zI z) : mM l0 D γ y_M_accept (Cond.code y_M_accept b_M_accept 3 (Option.none : Option FieldType)) rm_M_accept [.ref mo, .int a, .int p] LP f0 mo ad z none (m_accept z a p) := by
  refine pv_mk hl0 (by decide) (Nat.le_of_ble_eq_true rfl) (fun κ C R0 hN _ => ?_)
  show pv_V D κ 0 0 LP (mm_f γ f0 mo ad z) 0 [(0, .ref mo), (1, .int a), (2, .int p)] []
  refine pv_aload_n C d_M_accept_0 rfl 0 rfl ?_
  refine pv_aload_n C d_M_accept_1 rfl 0 rfl ?_
  refine pv_iload_n C d_M_accept_2 rfl 1 rfl ?_
  refine pv_callV (n := 1) (As := [.int a]) (rest := [.ref mo]) C (c_M_isAnnouncement hl0 G z a) cd_M_isAnnouncement ml_M_94 in_M im_M_isAnnouncement se_M_isAnnouncement G.1 mm_obj rfl rfl (by decide +kernel) (by decide) rfl (Nat.le_of_ble_eq_true rfl) rfl d_M_accept_3 (by decide) hN R0 (fun _ h => h.elim) (fun v9 LP9 f9 h9 => ?_)
  obtain ⟨rfl, rfl, rfl⟩ := h9
  refine pv_st (st2 := [.int (bN (isA z a)), .ref mo]) (c2 := 0) (s2 := 0) rfl rfl rfl ?_
  refine pv_ifb_ne (tgt := 13) C d_M_accept_6 (by decide) (fun h1 => ?_) (fun h1 => ?_)
  · have hA := isA_ix hz h1
    refine pv_iload_n C d_M_accept_13 rfl 2 rfl ?_
    refine pv_callS (n := 1) (As := [.int p]) (rest := [.ref mo]) C (c_M_isPerson hl0 G z p) cd_M_isPerson ml_M_104 in_M sm_M_isPerson (by decide +kernel) (by decide) rfl (Nat.le_of_ble_eq_true rfl) rfl d_M_accept_14 (by decide) hN R0 (fun _ h => h.elim) (fun v9 LP9 f9 h9 => ?_)
    obtain ⟨rfl, rfl, rfl⟩ := h9
    refine pv_st (st2 := [.int (bN (isP p)), .ref mo]) (c2 := 0) (s2 := 0) rfl rfl rfl ?_
    refine pv_ifb_ne (tgt := 24) C d_M_accept_17 (by decide) (fun h2 => ?_) (fun h2 => ?_)
    · have hP := isP_ix h2
      refine pv_iconst (v := 0) C d_M_accept_24 (by decide) ?_
      refine pm_put C G 0 (by decide) fl_M_83 rfl rfl rfl (by decide) rfl d_M_accept_25 ?_
      refine pv_aload_n C d_M_accept_28 rfl 0 rfl ?_
      refine pm_get (v := .int 0) C G 0 (by decide) fl_M_83 rfl rfl d_M_accept_29 ?_
      refine pv_if_ne (tgt := 63) C d_M_accept_32 (by decide) (fun q => absurd q (by decide)) (fun _ => ?_)
      refine pv_aload_n C d_M_accept_35 rfl 0 rfl ?_
      refine pv_aload_n C d_M_accept_36 rfl 0 rfl ?_
      refine pm_get (v := .ref (ad 7)) C G 7 (by decide) fl_M_23 rfl rfl d_M_accept_37 ?_
      refine pv_iload_n C d_M_accept_40 rfl 1 rfl ?_
      refine pm_ald C G 7 (by decide) rfl (j := (ix a)) hA.1 (show (ix a) < 17 by omega) d_M_accept_41 ?_
      refine pv_top (y := (z 7 (ix a))) (zs_k _ _ (by decide)) ?_
      refine pv_iconst (v := 2) C d_M_accept_42 (by decide) ?_
      refine pv_icmp_ne (tgt := 55) C d_M_accept_43 (by decide) (fun h3 => ?_) (fun h3 => ?_)
      · refine pv_iconst (v := 3) C d_M_accept_55 (by decide) ?_
        refine pv_goto (tgt := 60) C d_M_accept_56 (by decide) ?_
        refine pm_put C G 0 (by decide) fl_M_83 rfl rfl rfl (by decide) rfl d_M_accept_60 ?_
        refine pv_aload_n C d_M_accept_63 rfl 0 rfl ?_
        refine pm_get (v := .int 3) C G 0 (by decide) fl_M_83 rfl rfl d_M_accept_64 ?_
        refine pv_if_ne (tgt := 77) C d_M_accept_67 (by decide) (fun _ => ?_) (fun q => absurd q (by decide))
        exact pv_vret C R0 d_M_accept_77 (by decide) (by decide) (mP_v (by unfold m_accept; rw [if_pos h1, if_pos h2, if_neg h3]))
      · refine pv_aload_n C d_M_accept_46 rfl 0 rfl ?_
        refine pm_get (v := .ref (ad 2)) C G 2 (by decide) fl_M_7 rfl rfl d_M_accept_47 ?_
        refine pv_iload_n C d_M_accept_50 rfl 2 rfl ?_
        refine pm_zld C G 2 (by decide) rfl (j := (ix p)) hP.1 (show (ix p) < 8 by omega) d_M_accept_51 ?_
        refine pv_top (y := (z 2 (ix p))) (zs_k _ _ (by decide)) ?_
        refine pv_if_ne (tgt := 59) C d_M_accept_52 (by decide) (fun h4 => ?_) (fun h4 => ?_)
        · refine pv_iconst (v := 0) C d_M_accept_59 (by decide) ?_
          refine pm_put C G 0 (by decide) fl_M_83 rfl rfl rfl (by decide) rfl d_M_accept_60 ?_
          refine pv_aload_n C d_M_accept_63 rfl 0 rfl ?_
          refine pm_get (v := .int 0) C G 0 (by decide) fl_M_83 rfl rfl d_M_accept_64 ?_
          refine pv_if_ne (tgt := 77) C d_M_accept_67 (by decide) (fun q => absurd q (by decide)) (fun _ => ?_)
          refine pv_aload_n C d_M_accept_70 rfl 0 rfl ?_
          refine pm_get (v := .ref (ad 7)) C G 7 (by decide) fl_M_23 rfl rfl d_M_accept_71 ?_
          refine pv_iload_n C d_M_accept_74 rfl 1 rfl ?_
          refine pv_iconst (v := 1) C d_M_accept_75 (by decide) ?_
          refine pm_ast C G 7 (by decide) rfl (j := (ix a)) hA.1 (show (ix a) < 17 by omega) d_M_accept_76 ?_
          exact pv_vret C R0 d_M_accept_77 (by decide) (by decide) (mP_v (by unfold m_accept; rw [if_pos h1, if_pos h2, if_pos h3, if_neg h4]))
        · refine pv_iconst (v := 3) C d_M_accept_55 (by decide) ?_
          refine pv_goto (tgt := 60) C d_M_accept_56 (by decide) ?_
          refine pm_put C G 0 (by decide) fl_M_83 rfl rfl rfl (by decide) rfl d_M_accept_60 ?_
          refine pv_aload_n C d_M_accept_63 rfl 0 rfl ?_
          refine pm_get (v := .int 3) C G 0 (by decide) fl_M_83 rfl rfl d_M_accept_64 ?_
          refine pv_if_ne (tgt := 77) C d_M_accept_67 (by decide) (fun _ => ?_) (fun q => absurd q (by decide))
          exact pv_vret C R0 d_M_accept_77 (by decide) (by decide) (mP_v (by unfold m_accept; rw [if_pos h1, if_pos h2, if_pos h3, if_pos h4]))
    · refine pv_iconst (v := 2) C d_M_accept_20 (by decide) ?_
      refine pv_goto (tgt := 25) C d_M_accept_21 (by decide) ?_
      refine pm_put C G 0 (by decide) fl_M_83 rfl rfl rfl (by decide) rfl d_M_accept_25 ?_
      refine pv_aload_n C d_M_accept_28 rfl 0 rfl ?_
      refine pm_get (v := .int 2) C G 0 (by decide) fl_M_83 rfl rfl d_M_accept_29 ?_
      refine pv_if_ne (tgt := 63) C d_M_accept_32 (by decide) (fun _ => ?_) (fun q => absurd q (by decide))
      refine pv_aload_n C d_M_accept_63 rfl 0 rfl ?_
      refine pm_get (v := .int 2) C G 0 (by decide) fl_M_83 rfl rfl d_M_accept_64 ?_
      refine pv_if_ne (tgt := 77) C d_M_accept_67 (by decide) (fun _ => ?_) (fun q => absurd q (by decide))
      exact pv_vret C R0 d_M_accept_77 (by decide) (by decide) (mP_v (by unfold m_accept; rw [if_pos h1, if_neg (nT h2)]))
  · refine pv_iconst (v := 1) C d_M_accept_9 (by decide) ?_
    refine pv_goto (tgt := 25) C d_M_accept_10 (by decide) ?_
    refine pm_put C G 0 (by decide) fl_M_83 rfl rfl rfl (by decide) rfl d_M_accept_25 ?_
    refine pv_aload_n C d_M_accept_28 rfl 0 rfl ?_
    refine pm_get (v := .int 1) C G 0 (by decide) fl_M_83 rfl rfl d_M_accept_29 ?_
    refine pv_if_ne (tgt := 63) C d_M_accept_32 (by decide) (fun _ => ?_) (fun q => absurd q (by decide))
    refine pv_aload_n C d_M_accept_63 rfl 0 rfl ?_
    refine pm_get (v := .int 1) C G 0 (by decide) fl_M_83 rfl rfl d_M_accept_64 ?_
    refine pv_if_ne (tgt := 77) C d_M_accept_67 (by decide) (fun _ => ?_) (fun q => absurd q (by decide))
    exact pv_vret C R0 d_M_accept_77 (by decide) (by decide) (mP_v (by unfold m_accept; rw [if_neg (nT h1)]))
abbrev rm_M_right : Room := { frames := 2, cells := 0, slots := 0, locals := 42 }
def m_right (z : zT) (p : Int32) (b : Bool) : zT :=
  (if (isP p) = true then (zs (zs z 0 0 0) 2 (ix p) (bN b)) else (zs z 0 0 1))
set_option maxRecDepth 100000 in
set_option maxHeartbeats 4000000 in
theorem c_M_right {l0 : Launch} {D : va_G} {γ : Nat → ClassId} (hl0 : l0.stackTraces = false) {LP : List Nat} {f0 : Nat → va_E} {mo : Nat} {ad : Nat → Nat} (G : mm_H mo ad LP) (z : zT) (p : Int32) (b : Bool)  : mM l0 D γ y_M_right (Cond.code y_M_right b_M_right 3 (Option.none : Option FieldType)) rm_M_right [.ref mo, .int p, .int (bN b)] LP f0 mo ad z none (m_right z p b) := by
  refine pv_mk hl0 (by decide) (Nat.le_of_ble_eq_true rfl) (fun κ C R0 hN _ => ?_)
  show pv_V D κ 0 0 LP (mm_f γ f0 mo ad z) 0 [(0, .ref mo), (1, .int p), (2, .int (bN b))] []
  refine pv_aload_n C d_M_right_0 rfl 0 rfl ?_
  refine pv_iload_n C d_M_right_1 rfl 1 rfl ?_
  refine pv_callS (n := 1) (As := [.int p]) (rest := [.ref mo]) C (c_M_isPerson hl0 G z p) cd_M_isPerson ml_M_104 in_M sm_M_isPerson (by decide +kernel) (by decide) rfl (Nat.le_of_ble_eq_true rfl) rfl d_M_right_2 (by decide) hN R0 (fun _ h => h.elim) (fun v9 LP9 f9 h9 => ?_)
  obtain ⟨rfl, rfl, rfl⟩ := h9
  refine pv_st (st2 := [.int (bN (isP p)), .ref mo]) (c2 := 0) (s2 := 0) rfl rfl rfl ?_
  refine pv_ifb_eq (tgt := 12) C d_M_right_5 (by decide) (fun h1 => ?_) (fun h1 => ?_)
  · refine pv_iconst (v := 1) C d_M_right_12 (by decide) ?_
    refine pm_put C G 0 (by decide) fl_M_83 rfl rfl rfl (by decide) rfl d_M_right_13 ?_
    refine pv_aload_n C d_M_right_16 rfl 0 rfl ?_
    refine pm_get (v := .int 1) C G 0 (by decide) fl_M_83 rfl rfl d_M_right_17 ?_
    refine pv_if_ne (tgt := 30) C d_M_right_20 (by decide) (fun _ => ?_) (fun q => absurd q (by decide))
    exact pv_vret C R0 d_M_right_30 (by decide) (by decide) (mP_v (by unfold m_right; rw [if_neg (nT h1)]))
  · have hP := isP_ix h1
    refine pv_iconst (v := 0) C d_M_right_8 (by decide) ?_
    refine pv_goto (tgt := 13) C d_M_right_9 (by decide) ?_
    refine pm_put C G 0 (by decide) fl_M_83 rfl rfl rfl (by decide) rfl d_M_right_13 ?_
    refine pv_aload_n C d_M_right_16 rfl 0 rfl ?_
    refine pm_get (v := .int 0) C G 0 (by decide) fl_M_83 rfl rfl d_M_right_17 ?_
    refine pv_if_ne (tgt := 30) C d_M_right_20 (by decide) (fun q => absurd q (by decide)) (fun _ => ?_)
    refine pv_aload_n C d_M_right_23 rfl 0 rfl ?_
    refine pm_get (v := .ref (ad 2)) C G 2 (by decide) fl_M_7 rfl rfl d_M_right_24 ?_
    refine pv_iload_n C d_M_right_27 rfl 1 rfl ?_
    refine pv_iload_n C d_M_right_28 rfl 2 rfl ?_
    refine pm_zst C G 2 (by decide) rfl (j := (ix p)) hP.1 (show (ix p) < 8 by omega) (bN_nar _) d_M_right_29 ?_
    exact pv_vret C R0 d_M_right_30 (by decide) (by decide) (mP_v (by unfold m_right; rw [if_pos h1]))
abbrev rm_M_tolerance : Room := { frames := 3, cells := 0, slots := 0, locals := 65 }
def m_tolerance (z : zT) (a : Int32) (n : Int32) (x : Int32) : zT :=
  (if (isL z a n) = true then (if (inB x 0 50) = true then (if (z 16 (4 * ix a + ix n)) = 0 then (zs (zs (zs z 0 0 0) 0 0 0) 11 (4 * ix a + ix n) x) else (zs (zs z 0 0 0) 0 0 3)) else (zs z 0 0 2)) else (zs z 0 0 1))
set_option maxRecDepth 100000 in
set_option maxHeartbeats 4000000 in
theorem c_M_tolerance {l0 : Launch} {D : va_G} {γ : Nat → ClassId} (hl0 : l0.stackTraces = false) {LP : List Nat} {f0 : Nat → va_E} {mo : Nat} {ad : Nat → Nat} (G : mm_H mo ad LP) (z : zT) (a : Int32) (n : Int32) (x : Int32) (hz : zI z) : mM l0 D γ y_M_tolerance (Cond.code y_M_tolerance b_M_tolerance 4 (Option.none : Option FieldType)) rm_M_tolerance [.ref mo, .int a, .int n, .int x] LP f0 mo ad z none (m_tolerance z a n x) := by
  refine pv_mk hl0 (by decide) (Nat.le_of_ble_eq_true rfl) (fun κ C R0 hN _ => ?_)
  show pv_V D κ 0 0 LP (mm_f γ f0 mo ad z) 0 [(0, .ref mo), (1, .int a), (2, .int n), (3, .int x)] []
  refine pv_aload_n C d_M_tolerance_0 rfl 0 rfl ?_
  refine pv_aload_n C d_M_tolerance_1 rfl 0 rfl ?_
  refine pv_iload_n C d_M_tolerance_2 rfl 1 rfl ?_
  refine pv_iload_n C d_M_tolerance_3 rfl 2 rfl ?_
  refine pv_callV (n := 2) (As := [.int a, .int n]) (rest := [.ref mo]) C (c_M_isLine hl0 G z a n hz) cd_M_isLine ml_M_107 in_M im_M_isLine se_M_isLine G.1 mm_obj rfl rfl (by decide +kernel) (by decide) rfl (Nat.le_of_ble_eq_true rfl) rfl d_M_tolerance_4 (by decide) hN R0 (fun _ h => h.elim) (fun v9 LP9 f9 h9 => ?_)
  obtain ⟨rfl, rfl, rfl⟩ := h9
  refine pv_st (st2 := [.int (bN (isL z a n)), .ref mo]) (c2 := 0) (s2 := 0) rfl rfl rfl ?_
  refine pv_ifb_ne (tgt := 14) C d_M_tolerance_7 (by decide) (fun h1 => ?_) (fun h1 => ?_)
  · have hL := isL_ix hz h1
    refine pv_iload_n C d_M_tolerance_14 rfl 3 rfl ?_
    refine pv_iconst (v := 0) C d_M_tolerance_15 (by decide) ?_
    refine pv_bipush (v := 50) C d_M_tolerance_16 (by decide) ?_
    refine pv_callS (n := 3) (As := [.int x, .int 0, .int 50]) (rest := [.ref mo]) C (c_M_in hl0 G z x 0 50) cd_M_in ml_M_90 in_M sm_M_in (by decide +kernel) (by decide) rfl (Nat.le_of_ble_eq_true rfl) rfl d_M_tolerance_18 (by decide) hN R0 (fun _ h => h.elim) (fun v9 LP9 f9 h9 => ?_)
    obtain ⟨rfl, rfl, rfl⟩ := h9
    refine pv_st (st2 := [.int (bN (inB x 0 50)), .ref mo]) (c2 := 0) (s2 := 0) rfl rfl rfl ?_
    refine pv_ifb_ne (tgt := 28) C d_M_tolerance_21 (by decide) (fun h2 => ?_) (fun h2 => ?_)
    · refine pv_iconst (v := 0) C d_M_tolerance_28 (by decide) ?_
      refine pm_put C G 0 (by decide) fl_M_83 rfl rfl rfl (by decide) rfl d_M_tolerance_29 ?_
      refine pv_aload_n C d_M_tolerance_32 rfl 0 rfl ?_
      refine pm_get (v := .int 0) C G 0 (by decide) fl_M_83 rfl rfl d_M_tolerance_33 ?_
      refine pv_if_ne (tgt := 61) C d_M_tolerance_36 (by decide) (fun q => absurd q (by decide)) (fun _ => ?_)
      refine pv_aload_n C d_M_tolerance_39 rfl 0 rfl ?_
      refine pv_aload_n C d_M_tolerance_40 rfl 0 rfl ?_
      refine pm_get (v := .ref (ad 16)) C G 16 (by decide) fl_M_50 rfl rfl d_M_tolerance_41 ?_
      refine pv_iconst (v := 4) C d_M_tolerance_44 (by decide) ?_
      refine pv_iload_n C d_M_tolerance_45 rfl 1 rfl ?_
      refine pv_imul C d_M_tolerance_46 ?_
      refine pv_iload_n C d_M_tolerance_47 rfl 2 rfl ?_
      refine pv_iadd C d_M_tolerance_48 ?_
      refine pm_zld C G 16 (by decide) rfl (j := (4 * ix a + ix n)) (ln_ix hL.1.1 hL.2.1) (show (4 * ix a + ix n) < 68 by omega) d_M_tolerance_49 ?_
      refine pv_top (y := (z 16 (4 * ix a + ix n))) (zs_k _ _ (by decide)) ?_
      refine pv_if_eq (tgt := 57) C d_M_tolerance_50 (by decide) (fun h3 => ?_) (fun h3 => ?_)
      · refine pv_iconst (v := 0) C d_M_tolerance_57 (by decide) ?_
        refine pm_put C G 0 (by decide) fl_M_83 rfl rfl rfl (by decide) rfl d_M_tolerance_58 ?_
        refine pv_aload_n C d_M_tolerance_61 rfl 0 rfl ?_
        refine pm_get (v := .int 0) C G 0 (by decide) fl_M_83 rfl rfl d_M_tolerance_62 ?_
        refine pv_if_ne (tgt := 79) C d_M_tolerance_65 (by decide) (fun q => absurd q (by decide)) (fun _ => ?_)
        refine pv_aload_n C d_M_tolerance_68 rfl 0 rfl ?_
        refine pm_get (v := .ref (ad 11)) C G 11 (by decide) fl_M_35 rfl rfl d_M_tolerance_69 ?_
        refine pv_iconst (v := 4) C d_M_tolerance_72 (by decide) ?_
        refine pv_iload_n C d_M_tolerance_73 rfl 1 rfl ?_
        refine pv_imul C d_M_tolerance_74 ?_
        refine pv_iload_n C d_M_tolerance_75 rfl 2 rfl ?_
        refine pv_iadd C d_M_tolerance_76 ?_
        refine pv_iload_n C d_M_tolerance_77 rfl 3 rfl ?_
        refine pm_ast C G 11 (by decide) rfl (j := (4 * ix a + ix n)) (ln_ix hL.1.1 hL.2.1) (show (4 * ix a + ix n) < 68 by omega) d_M_tolerance_78 ?_
        exact pv_vret C R0 d_M_tolerance_79 (by decide) (by decide) (mP_v (by unfold m_tolerance; rw [if_pos h1, if_pos h2, if_pos h3]))
      · refine pv_iconst (v := 3) C d_M_tolerance_53 (by decide) ?_
        refine pv_goto (tgt := 58) C d_M_tolerance_54 (by decide) ?_
        refine pm_put C G 0 (by decide) fl_M_83 rfl rfl rfl (by decide) rfl d_M_tolerance_58 ?_
        refine pv_aload_n C d_M_tolerance_61 rfl 0 rfl ?_
        refine pm_get (v := .int 3) C G 0 (by decide) fl_M_83 rfl rfl d_M_tolerance_62 ?_
        refine pv_if_ne (tgt := 79) C d_M_tolerance_65 (by decide) (fun _ => ?_) (fun q => absurd q (by decide))
        exact pv_vret C R0 d_M_tolerance_79 (by decide) (by decide) (mP_v (by unfold m_tolerance; rw [if_pos h1, if_pos h2, if_neg h3]))
    · refine pv_iconst (v := 2) C d_M_tolerance_24 (by decide) ?_
      refine pv_goto (tgt := 29) C d_M_tolerance_25 (by decide) ?_
      refine pm_put C G 0 (by decide) fl_M_83 rfl rfl rfl (by decide) rfl d_M_tolerance_29 ?_
      refine pv_aload_n C d_M_tolerance_32 rfl 0 rfl ?_
      refine pm_get (v := .int 2) C G 0 (by decide) fl_M_83 rfl rfl d_M_tolerance_33 ?_
      refine pv_if_ne (tgt := 61) C d_M_tolerance_36 (by decide) (fun _ => ?_) (fun q => absurd q (by decide))
      refine pv_aload_n C d_M_tolerance_61 rfl 0 rfl ?_
      refine pm_get (v := .int 2) C G 0 (by decide) fl_M_83 rfl rfl d_M_tolerance_62 ?_
      refine pv_if_ne (tgt := 79) C d_M_tolerance_65 (by decide) (fun _ => ?_) (fun q => absurd q (by decide))
      exact pv_vret C R0 d_M_tolerance_79 (by decide) (by decide) (mP_v (by unfold m_tolerance; rw [if_pos h1, if_neg (nT h2)]))
  · refine pv_iconst (v := 1) C d_M_tolerance_10 (by decide) ?_
    refine pv_goto (tgt := 29) C d_M_tolerance_11 (by decide) ?_
    refine pm_put C G 0 (by decide) fl_M_83 rfl rfl rfl (by decide) rfl d_M_tolerance_29 ?_
    refine pv_aload_n C d_M_tolerance_32 rfl 0 rfl ?_
    refine pm_get (v := .int 1) C G 0 (by decide) fl_M_83 rfl rfl d_M_tolerance_33 ?_
    refine pv_if_ne (tgt := 61) C d_M_tolerance_36 (by decide) (fun _ => ?_) (fun q => absurd q (by decide))
    refine pv_aload_n C d_M_tolerance_61 rfl 0 rfl ?_
    refine pm_get (v := .int 1) C G 0 (by decide) fl_M_83 rfl rfl d_M_tolerance_62 ?_
    refine pv_if_ne (tgt := 79) C d_M_tolerance_65 (by decide) (fun _ => ?_) (fun q => absurd q (by decide))
    exact pv_vret C R0 d_M_tolerance_79 (by decide) (by decide) (mP_v (by unfold m_tolerance; rw [if_neg (nT h1)]))
abbrev rm_M_wanted : Room := { frames := 3, cells := 0, slots := 0, locals := 65 }
def m_wanted (z : zT) (a : Int32) (n : Int32) (x : Int32) : zT :=
  (if (isL z a n) = true then (if (inB x 0 5) = true then (if (z 16 (4 * ix a + ix n)) = 0 then (zs (zs (zs z 0 0 0) 0 0 0) 13 (4 * ix a + ix n) x) else (zs (zs z 0 0 0) 0 0 3)) else (zs z 0 0 2)) else (zs z 0 0 1))
set_option maxRecDepth 100000 in
set_option maxHeartbeats 4000000 in
theorem c_M_wanted {l0 : Launch} {D : va_G} {γ : Nat → ClassId} (hl0 : l0.stackTraces = false) {LP : List Nat} {f0 : Nat → va_E} {mo : Nat} {ad : Nat → Nat} (G : mm_H mo ad LP) (z : zT) (a : Int32) (n : Int32) (x : Int32) (hz : zI z) : mM l0 D γ y_M_wanted (Cond.code y_M_wanted b_M_wanted 4 (Option.none : Option FieldType)) rm_M_wanted [.ref mo, .int a, .int n, .int x] LP f0 mo ad z none (m_wanted z a n x) := by
  refine pv_mk hl0 (by decide) (Nat.le_of_ble_eq_true rfl) (fun κ C R0 hN _ => ?_)
  show pv_V D κ 0 0 LP (mm_f γ f0 mo ad z) 0 [(0, .ref mo), (1, .int a), (2, .int n), (3, .int x)] []
  refine pv_aload_n C d_M_wanted_0 rfl 0 rfl ?_
  refine pv_aload_n C d_M_wanted_1 rfl 0 rfl ?_
  refine pv_iload_n C d_M_wanted_2 rfl 1 rfl ?_
  refine pv_iload_n C d_M_wanted_3 rfl 2 rfl ?_
  refine pv_callV (n := 2) (As := [.int a, .int n]) (rest := [.ref mo]) C (c_M_isLine hl0 G z a n hz) cd_M_isLine ml_M_107 in_M im_M_isLine se_M_isLine G.1 mm_obj rfl rfl (by decide +kernel) (by decide) rfl (Nat.le_of_ble_eq_true rfl) rfl d_M_wanted_4 (by decide) hN R0 (fun _ h => h.elim) (fun v9 LP9 f9 h9 => ?_)
  obtain ⟨rfl, rfl, rfl⟩ := h9
  refine pv_st (st2 := [.int (bN (isL z a n)), .ref mo]) (c2 := 0) (s2 := 0) rfl rfl rfl ?_
  refine pv_ifb_ne (tgt := 14) C d_M_wanted_7 (by decide) (fun h1 => ?_) (fun h1 => ?_)
  · have hL := isL_ix hz h1
    refine pv_iload_n C d_M_wanted_14 rfl 3 rfl ?_
    refine pv_iconst (v := 0) C d_M_wanted_15 (by decide) ?_
    refine pv_iconst (v := 5) C d_M_wanted_16 (by decide) ?_
    refine pv_callS (n := 3) (As := [.int x, .int 0, .int 5]) (rest := [.ref mo]) C (c_M_in hl0 G z x 0 5) cd_M_in ml_M_90 in_M sm_M_in (by decide +kernel) (by decide) rfl (Nat.le_of_ble_eq_true rfl) rfl d_M_wanted_17 (by decide) hN R0 (fun _ h => h.elim) (fun v9 LP9 f9 h9 => ?_)
    obtain ⟨rfl, rfl, rfl⟩ := h9
    refine pv_st (st2 := [.int (bN (inB x 0 5)), .ref mo]) (c2 := 0) (s2 := 0) rfl rfl rfl ?_
    refine pv_ifb_ne (tgt := 27) C d_M_wanted_20 (by decide) (fun h2 => ?_) (fun h2 => ?_)
    · refine pv_iconst (v := 0) C d_M_wanted_27 (by decide) ?_
      refine pm_put C G 0 (by decide) fl_M_83 rfl rfl rfl (by decide) rfl d_M_wanted_28 ?_
      refine pv_aload_n C d_M_wanted_31 rfl 0 rfl ?_
      refine pm_get (v := .int 0) C G 0 (by decide) fl_M_83 rfl rfl d_M_wanted_32 ?_
      refine pv_if_ne (tgt := 60) C d_M_wanted_35 (by decide) (fun q => absurd q (by decide)) (fun _ => ?_)
      refine pv_aload_n C d_M_wanted_38 rfl 0 rfl ?_
      refine pv_aload_n C d_M_wanted_39 rfl 0 rfl ?_
      refine pm_get (v := .ref (ad 16)) C G 16 (by decide) fl_M_50 rfl rfl d_M_wanted_40 ?_
      refine pv_iconst (v := 4) C d_M_wanted_43 (by decide) ?_
      refine pv_iload_n C d_M_wanted_44 rfl 1 rfl ?_
      refine pv_imul C d_M_wanted_45 ?_
      refine pv_iload_n C d_M_wanted_46 rfl 2 rfl ?_
      refine pv_iadd C d_M_wanted_47 ?_
      refine pm_zld C G 16 (by decide) rfl (j := (4 * ix a + ix n)) (ln_ix hL.1.1 hL.2.1) (show (4 * ix a + ix n) < 68 by omega) d_M_wanted_48 ?_
      refine pv_top (y := (z 16 (4 * ix a + ix n))) (zs_k _ _ (by decide)) ?_
      refine pv_if_eq (tgt := 56) C d_M_wanted_49 (by decide) (fun h3 => ?_) (fun h3 => ?_)
      · refine pv_iconst (v := 0) C d_M_wanted_56 (by decide) ?_
        refine pm_put C G 0 (by decide) fl_M_83 rfl rfl rfl (by decide) rfl d_M_wanted_57 ?_
        refine pv_aload_n C d_M_wanted_60 rfl 0 rfl ?_
        refine pm_get (v := .int 0) C G 0 (by decide) fl_M_83 rfl rfl d_M_wanted_61 ?_
        refine pv_if_ne (tgt := 78) C d_M_wanted_64 (by decide) (fun q => absurd q (by decide)) (fun _ => ?_)
        refine pv_aload_n C d_M_wanted_67 rfl 0 rfl ?_
        refine pm_get (v := .ref (ad 13)) C G 13 (by decide) fl_M_41 rfl rfl d_M_wanted_68 ?_
        refine pv_iconst (v := 4) C d_M_wanted_71 (by decide) ?_
        refine pv_iload_n C d_M_wanted_72 rfl 1 rfl ?_
        refine pv_imul C d_M_wanted_73 ?_
        refine pv_iload_n C d_M_wanted_74 rfl 2 rfl ?_
        refine pv_iadd C d_M_wanted_75 ?_
        refine pv_iload_n C d_M_wanted_76 rfl 3 rfl ?_
        refine pm_ast C G 13 (by decide) rfl (j := (4 * ix a + ix n)) (ln_ix hL.1.1 hL.2.1) (show (4 * ix a + ix n) < 68 by omega) d_M_wanted_77 ?_
        exact pv_vret C R0 d_M_wanted_78 (by decide) (by decide) (mP_v (by unfold m_wanted; rw [if_pos h1, if_pos h2, if_pos h3]))
      · refine pv_iconst (v := 3) C d_M_wanted_52 (by decide) ?_
        refine pv_goto (tgt := 57) C d_M_wanted_53 (by decide) ?_
        refine pm_put C G 0 (by decide) fl_M_83 rfl rfl rfl (by decide) rfl d_M_wanted_57 ?_
        refine pv_aload_n C d_M_wanted_60 rfl 0 rfl ?_
        refine pm_get (v := .int 3) C G 0 (by decide) fl_M_83 rfl rfl d_M_wanted_61 ?_
        refine pv_if_ne (tgt := 78) C d_M_wanted_64 (by decide) (fun _ => ?_) (fun q => absurd q (by decide))
        exact pv_vret C R0 d_M_wanted_78 (by decide) (by decide) (mP_v (by unfold m_wanted; rw [if_pos h1, if_pos h2, if_neg h3]))
    · refine pv_iconst (v := 2) C d_M_wanted_23 (by decide) ?_
      refine pv_goto (tgt := 28) C d_M_wanted_24 (by decide) ?_
      refine pm_put C G 0 (by decide) fl_M_83 rfl rfl rfl (by decide) rfl d_M_wanted_28 ?_
      refine pv_aload_n C d_M_wanted_31 rfl 0 rfl ?_
      refine pm_get (v := .int 2) C G 0 (by decide) fl_M_83 rfl rfl d_M_wanted_32 ?_
      refine pv_if_ne (tgt := 60) C d_M_wanted_35 (by decide) (fun _ => ?_) (fun q => absurd q (by decide))
      refine pv_aload_n C d_M_wanted_60 rfl 0 rfl ?_
      refine pm_get (v := .int 2) C G 0 (by decide) fl_M_83 rfl rfl d_M_wanted_61 ?_
      refine pv_if_ne (tgt := 78) C d_M_wanted_64 (by decide) (fun _ => ?_) (fun q => absurd q (by decide))
      exact pv_vret C R0 d_M_wanted_78 (by decide) (by decide) (mP_v (by unfold m_wanted; rw [if_pos h1, if_neg (nT h2)]))
  · refine pv_iconst (v := 1) C d_M_wanted_10 (by decide) ?_
    refine pv_goto (tgt := 28) C d_M_wanted_11 (by decide) ?_
    refine pm_put C G 0 (by decide) fl_M_83 rfl rfl rfl (by decide) rfl d_M_wanted_28 ?_
    refine pv_aload_n C d_M_wanted_31 rfl 0 rfl ?_
    refine pm_get (v := .int 1) C G 0 (by decide) fl_M_83 rfl rfl d_M_wanted_32 ?_
    refine pv_if_ne (tgt := 60) C d_M_wanted_35 (by decide) (fun _ => ?_) (fun q => absurd q (by decide))
    refine pv_aload_n C d_M_wanted_60 rfl 0 rfl ?_
    refine pm_get (v := .int 1) C G 0 (by decide) fl_M_83 rfl rfl d_M_wanted_61 ?_
    refine pv_if_ne (tgt := 78) C d_M_wanted_64 (by decide) (fun _ => ?_) (fun q => absurd q (by decide))
    exact pv_vret C R0 d_M_wanted_78 (by decide) (by decide) (mP_v (by unfold m_wanted; rw [if_neg (nT h1)]))
abbrev rm_M_day : Room := { frames := 1, cells := 0, slots := 0, locals := 22 }
def m_day (z : zT) (x : Int32) : zT :=
  (if (inB x 0 10000) = true then (if (z 1 0) ≤ x then (zs (zs z 0 0 0) 1 0 x) else (zs z 0 0 2)) else (zs z 0 0 1))
set_option maxRecDepth 100000 in
set_option maxHeartbeats 4000000 in
theorem c_M_day {l0 : Launch} {D : va_G} {γ : Nat → ClassId} (hl0 : l0.stackTraces = false) {LP : List Nat} {f0 : Nat → va_E} {mo : Nat} {ad : Nat → Nat} (G : mm_H mo ad LP) (z : zT) (x : Int32)  : mM l0 D γ y_M_day (Cond.code y_M_day b_M_day 2 (Option.none : Option FieldType)) rm_M_day [.ref mo, .int x] LP f0 mo ad z none (m_day z x) := by
  refine pv_mk hl0 (by decide) (Nat.le_of_ble_eq_true rfl) (fun κ C R0 hN _ => ?_)
  show pv_V D κ 0 0 LP (mm_f γ f0 mo ad z) 0 [(0, .ref mo), (1, .int x)] []
  refine pv_aload_n C d_M_day_0 rfl 0 rfl ?_
  refine pv_iload_n C d_M_day_1 rfl 1 rfl ?_
  refine pv_iconst (v := 0) C d_M_day_2 (by decide) ?_
  refine pv_sipush (v := 10000) C d_M_day_3 (by decide) ?_
  refine pv_callS (n := 3) (As := [.int x, .int 0, .int 10000]) (rest := [.ref mo]) C (c_M_in hl0 G z x 0 10000) cd_M_in ml_M_90 in_M sm_M_in (by decide +kernel) (by decide) rfl (Nat.le_of_ble_eq_true rfl) rfl d_M_day_6 (by decide) hN R0 (fun _ h => h.elim) (fun v9 LP9 f9 h9 => ?_)
  obtain ⟨rfl, rfl, rfl⟩ := h9
  refine pv_st (st2 := [.int (bN (inB x 0 10000)), .ref mo]) (c2 := 0) (s2 := 0) rfl rfl rfl ?_
  refine pv_ifb_ne (tgt := 16) C d_M_day_9 (by decide) (fun h1 => ?_) (fun h1 => ?_)
  · refine pv_iload_n C d_M_day_16 rfl 1 rfl ?_
    refine pv_aload_n C d_M_day_17 rfl 0 rfl ?_
    refine pm_get (v := .int (z 1 0)) C G 1 (by decide) fl_M_121 rfl rfl d_M_day_18 ?_
    refine pv_icmp_ge (tgt := 28) C d_M_day_21 (by decide) (fun h2 => ?_) (fun h2 => ?_)
    · refine pv_iconst (v := 0) C d_M_day_28 (by decide) ?_
      refine pm_put C G 0 (by decide) fl_M_83 rfl rfl rfl (by decide) rfl d_M_day_29 ?_
      refine pv_aload_n C d_M_day_32 rfl 0 rfl ?_
      refine pm_get (v := .int 0) C G 0 (by decide) fl_M_83 rfl rfl d_M_day_33 ?_
      refine pv_if_ne (tgt := 44) C d_M_day_36 (by decide) (fun q => absurd q (by decide)) (fun _ => ?_)
      refine pv_aload_n C d_M_day_39 rfl 0 rfl ?_
      refine pv_iload_n C d_M_day_40 rfl 1 rfl ?_
      refine pm_put C G 1 (by decide) fl_M_121 rfl rfl rfl (by decide) rfl d_M_day_41 ?_
      exact pv_vret C R0 d_M_day_44 (by decide) (by decide) (mP_v (by unfold m_day; rw [if_pos h1, if_pos h2]))
    · refine pv_iconst (v := 2) C d_M_day_24 (by decide) ?_
      refine pv_goto (tgt := 29) C d_M_day_25 (by decide) ?_
      refine pm_put C G 0 (by decide) fl_M_83 rfl rfl rfl (by decide) rfl d_M_day_29 ?_
      refine pv_aload_n C d_M_day_32 rfl 0 rfl ?_
      refine pm_get (v := .int 2) C G 0 (by decide) fl_M_83 rfl rfl d_M_day_33 ?_
      refine pv_if_ne (tgt := 44) C d_M_day_36 (by decide) (fun _ => ?_) (fun q => absurd q (by decide))
      exact pv_vret C R0 d_M_day_44 (by decide) (by decide) (mP_v (by unfold m_day; rw [if_pos h1, if_neg h2]))
  · refine pv_iconst (v := 1) C d_M_day_12 (by decide) ?_
    refine pv_goto (tgt := 29) C d_M_day_13 (by decide) ?_
    refine pm_put C G 0 (by decide) fl_M_83 rfl rfl rfl (by decide) rfl d_M_day_29 ?_
    refine pv_aload_n C d_M_day_32 rfl 0 rfl ?_
    refine pm_get (v := .int 1) C G 0 (by decide) fl_M_83 rfl rfl d_M_day_33 ?_
    refine pv_if_ne (tgt := 44) C d_M_day_36 (by decide) (fun _ => ?_) (fun q => absurd q (by decide))
    exact pv_vret C R0 d_M_day_44 (by decide) (by decide) (mP_v (by unfold m_day; rw [if_neg (nT h1)]))
abbrev rm_M_state : Room := { frames := 2, cells := 0, slots := 0, locals := 43 }
def m_state (z : zT) (a : Int32) (w : Int32) : Int32 × zT :=
  (if (isA z a) = true then (if (inB w 0 3) = true then (if w = 0 then ((z 7 (ix a)), (zs z 0 0 0)) else (if w = 1 then ((z 4 (ix a)), (zs z 0 0 0)) else (if w = 2 then ((z 6 (ix a)), (zs z 0 0 0)) else ((z 8 (ix a)), (zs z 0 0 0))))) else (0, (zs z 0 0 2))) else (0, (zs z 0 0 1)))
set_option maxRecDepth 100000 in
set_option maxHeartbeats 4000000 in
theorem c_M_state {l0 : Launch} {D : va_G} {γ : Nat → ClassId} (hl0 : l0.stackTraces = false) {LP : List Nat} {f0 : Nat → va_E} {mo : Nat} {ad : Nat → Nat} (G : mm_H mo ad LP) (z : zT) (a : Int32) (w : Int32) (hz : zI z) : mM l0 D γ y_M_state (Cond.code y_M_state b_M_state 3 (Option.some FieldType.int)) rm_M_state [.ref mo, .int a, .int w] LP f0 mo ad z (some (.int (m_state z a w).1)) (m_state z a w).2 := by
  refine pv_mk hl0 (by decide) (Nat.le_of_ble_eq_true rfl) (fun κ C R0 hN _ => ?_)
  show pv_V D κ 0 0 LP (mm_f γ f0 mo ad z) 0 [(0, .ref mo), (1, .int a), (2, .int w)] []
  refine pv_aload_n C d_M_state_0 rfl 0 rfl ?_
  refine pv_aload_n C d_M_state_1 rfl 0 rfl ?_
  refine pv_iload_n C d_M_state_2 rfl 1 rfl ?_
  refine pv_callV (n := 1) (As := [.int a]) (rest := [.ref mo]) C (c_M_isAnnouncement hl0 G z a) cd_M_isAnnouncement ml_M_94 in_M im_M_isAnnouncement se_M_isAnnouncement G.1 mm_obj rfl rfl (by decide +kernel) (by decide) rfl (Nat.le_of_ble_eq_true rfl) rfl d_M_state_3 (by decide) hN R0 (fun _ h => h.elim) (fun v9 LP9 f9 h9 => ?_)
  obtain ⟨rfl, rfl, rfl⟩ := h9
  refine pv_st (st2 := [.int (bN (isA z a)), .ref mo]) (c2 := 0) (s2 := 0) rfl rfl rfl ?_
  refine pv_ifb_ne (tgt := 13) C d_M_state_6 (by decide) (fun h1 => ?_) (fun h1 => ?_)
  · have hA := isA_ix hz h1
    refine pv_iload_n C d_M_state_13 rfl 2 rfl ?_
    refine pv_iconst (v := 0) C d_M_state_14 (by decide) ?_
    refine pv_iconst (v := 3) C d_M_state_15 (by decide) ?_
    refine pv_callS (n := 3) (As := [.int w, .int 0, .int 3]) (rest := [.ref mo]) C (c_M_in hl0 G z w 0 3) cd_M_in ml_M_90 in_M sm_M_in (by decide +kernel) (by decide) rfl (Nat.le_of_ble_eq_true rfl) rfl d_M_state_16 (by decide) hN R0 (fun _ h => h.elim) (fun v9 LP9 f9 h9 => ?_)
    obtain ⟨rfl, rfl, rfl⟩ := h9
    refine pv_st (st2 := [.int (bN (inB w 0 3)), .ref mo]) (c2 := 0) (s2 := 0) rfl rfl rfl ?_
    refine pv_ifb_ne (tgt := 26) C d_M_state_19 (by decide) (fun h2 => ?_) (fun h2 => ?_)
    · refine pv_iconst (v := 0) C d_M_state_26 (by decide) ?_
      refine pm_put C G 0 (by decide) fl_M_83 rfl rfl rfl (by decide) rfl d_M_state_27 ?_
      refine pv_aload_n C d_M_state_30 rfl 0 rfl ?_
      refine pm_get (v := .int 0) C G 0 (by decide) fl_M_83 rfl rfl d_M_state_31 ?_
      refine pv_if_le (tgt := 39) C d_M_state_34 (by decide) (fun _ => ?_) (fun q => absurd q (by decide))
      refine pv_iload_n C d_M_state_39 rfl 2 rfl ?_
      refine pv_if_ne (tgt := 52) C d_M_state_40 (by decide) (fun h3 => ?_) (fun h3 => ?_)
      · refine pv_iload_n C d_M_state_52 rfl 2 rfl ?_
        refine pv_iconst (v := 1) C d_M_state_53 (by decide) ?_
        refine pv_icmp_ne (tgt := 66) C d_M_state_54 (by decide) (fun h4 => ?_) (fun h4 => ?_)
        · refine pv_iload_n C d_M_state_66 rfl 2 rfl ?_
          refine pv_iconst (v := 2) C d_M_state_67 (by decide) ?_
          refine pv_icmp_ne (tgt := 80) C d_M_state_68 (by decide) (fun h5 => ?_) (fun h5 => ?_)
          · refine pv_aload_n C d_M_state_80 rfl 0 rfl ?_
            refine pm_get (v := .ref (ad 8)) C G 8 (by decide) fl_M_26 rfl rfl d_M_state_81 ?_
            refine pv_iload_n C d_M_state_84 rfl 1 rfl ?_
            refine pm_ald C G 8 (by decide) rfl (j := (ix a)) hA.1 (show (ix a) < 17 by omega) d_M_state_85 ?_
            refine pv_top (y := (z 8 (ix a))) (zs_k _ _ (by decide)) ?_
            exact pv_iret C R0 d_M_state_86 (by decide) (by decide) (mP_i (by unfold m_state; rw [if_pos h1, if_pos h2, if_neg h3, if_neg h4, if_neg h5]))
          · refine pv_aload_n C d_M_state_71 rfl 0 rfl ?_
            refine pm_get (v := .ref (ad 6)) C G 6 (by decide) fl_M_20 rfl rfl d_M_state_72 ?_
            refine pv_iload_n C d_M_state_75 rfl 1 rfl ?_
            refine pm_ald C G 6 (by decide) rfl (j := (ix a)) hA.1 (show (ix a) < 17 by omega) d_M_state_76 ?_
            refine pv_top (y := (z 6 (ix a))) (zs_k _ _ (by decide)) ?_
            refine pv_goto (tgt := 86) C d_M_state_77 (by decide) ?_
            exact pv_iret C R0 d_M_state_86 (by decide) (by decide) (mP_i (by unfold m_state; rw [if_pos h1, if_pos h2, if_neg h3, if_neg h4, if_pos h5]))
        · refine pv_aload_n C d_M_state_57 rfl 0 rfl ?_
          refine pm_get (v := .ref (ad 4)) C G 4 (by decide) fl_M_13 rfl rfl d_M_state_58 ?_
          refine pv_iload_n C d_M_state_61 rfl 1 rfl ?_
          refine pm_ald C G 4 (by decide) rfl (j := (ix a)) hA.1 (show (ix a) < 17 by omega) d_M_state_62 ?_
          refine pv_top (y := (z 4 (ix a))) (zs_k _ _ (by decide)) ?_
          refine pv_goto (tgt := 86) C d_M_state_63 (by decide) ?_
          exact pv_iret C R0 d_M_state_86 (by decide) (by decide) (mP_i (by unfold m_state; rw [if_pos h1, if_pos h2, if_neg h3, if_pos h4]))
      · refine pv_aload_n C d_M_state_43 rfl 0 rfl ?_
        refine pm_get (v := .ref (ad 7)) C G 7 (by decide) fl_M_23 rfl rfl d_M_state_44 ?_
        refine pv_iload_n C d_M_state_47 rfl 1 rfl ?_
        refine pm_ald C G 7 (by decide) rfl (j := (ix a)) hA.1 (show (ix a) < 17 by omega) d_M_state_48 ?_
        refine pv_top (y := (z 7 (ix a))) (zs_k _ _ (by decide)) ?_
        refine pv_goto (tgt := 86) C d_M_state_49 (by decide) ?_
        exact pv_iret C R0 d_M_state_86 (by decide) (by decide) (mP_i (by unfold m_state; rw [if_pos h1, if_pos h2, if_pos h3]))
    · refine pv_iconst (v := 2) C d_M_state_22 (by decide) ?_
      refine pv_goto (tgt := 27) C d_M_state_23 (by decide) ?_
      refine pm_put C G 0 (by decide) fl_M_83 rfl rfl rfl (by decide) rfl d_M_state_27 ?_
      refine pv_aload_n C d_M_state_30 rfl 0 rfl ?_
      refine pm_get (v := .int 2) C G 0 (by decide) fl_M_83 rfl rfl d_M_state_31 ?_
      refine pv_if_le (tgt := 39) C d_M_state_34 (by decide) (fun q => absurd q (by decide)) (fun _ => ?_)
      refine pv_iconst (v := 0) C d_M_state_37 (by decide) ?_
      exact pv_iret C R0 d_M_state_38 (by decide) (by decide) (mP_i (by unfold m_state; rw [if_pos h1, if_neg (nT h2)]))
  · refine pv_iconst (v := 1) C d_M_state_9 (by decide) ?_
    refine pv_goto (tgt := 27) C d_M_state_10 (by decide) ?_
    refine pm_put C G 0 (by decide) fl_M_83 rfl rfl rfl (by decide) rfl d_M_state_27 ?_
    refine pv_aload_n C d_M_state_30 rfl 0 rfl ?_
    refine pm_get (v := .int 1) C G 0 (by decide) fl_M_83 rfl rfl d_M_state_31 ?_
    refine pv_if_le (tgt := 39) C d_M_state_34 (by decide) (fun q => absurd q (by decide)) (fun _ => ?_)
    refine pv_iconst (v := 0) C d_M_state_37 (by decide) ?_
    exact pv_iret C R0 d_M_state_38 (by decide) (by decide) (mP_i (by unfold m_state; rw [if_neg (nT h1)]))
abbrev rm_M_count1 : Room := { frames := 0, cells := 0, slots := 0, locals := 0 }
def m_count1 (z : zT) (w : Int32) : Int32 × zT :=
  (if w = 0 then ((z 3 0), (zs z 0 0 0)) else (if w = 1 then ((z 18 0), (zs z 0 0 0)) else (if w = 2 then ((z 27 0), (zs z 0 0 0)) else (if w = 3 then ((z 1 0), (zs z 0 0 0)) else (if w = 4 then ((z 28 0), (zs z 0 0 0)) else ((-1), (zs z 0 0 0)))))))
set_option maxRecDepth 100000 in
set_option maxHeartbeats 4000000 in
theorem c_M_count1 {l0 : Launch} {D : va_G} {γ : Nat → ClassId} (hl0 : l0.stackTraces = false) {LP : List Nat} {f0 : Nat → va_E} {mo : Nat} {ad : Nat → Nat} (G : mm_H mo ad LP) (z : zT) (w : Int32)  : mM l0 D γ y_M_count1 (Cond.code y_M_count1 b_M_count1 2 (Option.some FieldType.int)) rm_M_count1 [.ref mo, .int w] LP f0 mo ad z (some (.int (m_count1 z w).1)) (m_count1 z w).2 := by
  refine pv_mk hl0 (by decide) (Nat.le_of_ble_eq_true rfl) (fun κ C R0 hN _ => ?_)
  show pv_V D κ 0 0 LP (mm_f γ f0 mo ad z) 0 [(0, .ref mo), (1, .int w)] []
  refine pv_aload_n C d_M_count1_0 rfl 0 rfl ?_
  refine pv_iconst (v := 0) C d_M_count1_1 (by decide) ?_
  refine pm_put C G 0 (by decide) fl_M_83 rfl rfl rfl (by decide) rfl d_M_count1_2 ?_
  refine pv_iload_n C d_M_count1_5 rfl 1 rfl ?_
  refine pv_if_ne (tgt := 16) C d_M_count1_6 (by decide) (fun h1 => ?_) (fun h1 => ?_)
  · refine pv_iload_n C d_M_count1_16 rfl 1 rfl ?_
    refine pv_iconst (v := 1) C d_M_count1_17 (by decide) ?_
    refine pv_icmp_ne (tgt := 28) C d_M_count1_18 (by decide) (fun h2 => ?_) (fun h2 => ?_)
    · refine pv_iload_n C d_M_count1_28 rfl 1 rfl ?_
      refine pv_iconst (v := 2) C d_M_count1_29 (by decide) ?_
      refine pv_icmp_ne (tgt := 40) C d_M_count1_30 (by decide) (fun h3 => ?_) (fun h3 => ?_)
      · refine pv_iload_n C d_M_count1_40 rfl 1 rfl ?_
        refine pv_iconst (v := 3) C d_M_count1_41 (by decide) ?_
        refine pv_icmp_ne (tgt := 52) C d_M_count1_42 (by decide) (fun h4 => ?_) (fun h4 => ?_)
        · refine pv_iload_n C d_M_count1_52 rfl 1 rfl ?_
          refine pv_iconst (v := 4) C d_M_count1_53 (by decide) ?_
          refine pv_icmp_ne (tgt := 64) C d_M_count1_54 (by decide) (fun h5 => ?_) (fun h5 => ?_)
          · refine pv_iconst (v := (-1)) C d_M_count1_64 (by decide) ?_
            exact pv_iret C R0 d_M_count1_65 (by decide) (by decide) (mP_i (by unfold m_count1; rw [if_neg h1, if_neg h2, if_neg h3, if_neg h4, if_neg h5]))
          · refine pv_aload_n C d_M_count1_57 rfl 0 rfl ?_
            refine pm_get (v := .int (z 28 0)) C G 28 (by decide) fl_M_138 rfl rfl d_M_count1_58 ?_
            refine pv_goto (tgt := 65) C d_M_count1_61 (by decide) ?_
            exact pv_iret C R0 d_M_count1_65 (by decide) (by decide) (mP_i (by unfold m_count1; rw [if_neg h1, if_neg h2, if_neg h3, if_neg h4, if_pos h5]))
        · refine pv_aload_n C d_M_count1_45 rfl 0 rfl ?_
          refine pm_get (v := .int (z 1 0)) C G 1 (by decide) fl_M_121 rfl rfl d_M_count1_46 ?_
          refine pv_goto (tgt := 65) C d_M_count1_49 (by decide) ?_
          exact pv_iret C R0 d_M_count1_65 (by decide) (by decide) (mP_i (by unfold m_count1; rw [if_neg h1, if_neg h2, if_neg h3, if_pos h4]))
      · refine pv_aload_n C d_M_count1_33 rfl 0 rfl ?_
        refine pm_get (v := .int (z 27 0)) C G 27 (by decide) fl_M_127 rfl rfl d_M_count1_34 ?_
        refine pv_goto (tgt := 65) C d_M_count1_37 (by decide) ?_
        exact pv_iret C R0 d_M_count1_65 (by decide) (by decide) (mP_i (by unfold m_count1; rw [if_neg h1, if_neg h2, if_pos h3]))
    · refine pv_aload_n C d_M_count1_21 rfl 0 rfl ?_
      refine pm_get (v := .int (z 18 0)) C G 18 (by decide) fl_M_98 rfl rfl d_M_count1_22 ?_
      refine pv_goto (tgt := 65) C d_M_count1_25 (by decide) ?_
      exact pv_iret C R0 d_M_count1_65 (by decide) (by decide) (mP_i (by unfold m_count1; rw [if_neg h1, if_pos h2]))
  · refine pv_aload_n C d_M_count1_9 rfl 0 rfl ?_
    refine pm_get (v := .int (z 3 0)) C G 3 (by decide) fl_M_87 rfl rfl d_M_count1_10 ?_
    refine pv_goto (tgt := 65) C d_M_count1_13 (by decide) ?_
    exact pv_iret C R0 d_M_count1_65 (by decide) (by decide) (mP_i (by unfold m_count1; rw [if_pos h1]))
abbrev rm_M_takes : Room := { frames := 0, cells := 0, slots := 0, locals := 0 }
set_option maxRecDepth 100000 in
set_option maxHeartbeats 4000000 in
theorem c_M_takes {l0 : Launch} {D : va_G} {γ : Nat → ClassId} (hl0 : l0.stackTraces = false) {LP : List Nat} {f0 : Nat → va_E} {mo : Nat} {ad : Nat → Nat} (G : mm_H mo ad LP) (z : zT) (l : Int32) (j : Nat) (hj : j < 68) (hl : l = nI j) : mM l0 D γ y_M_takes (Cond.code y_M_takes b_M_takes 2 (Option.some FieldType.int)) rm_M_takes [.ref mo, .int l] LP f0 mo ad z (some (.int ((z 10 j + z 10 j * z 11 j / 100, z)).1)) ((z 10 j + z 10 j * z 11 j / 100, z)).2 := by
  refine pv_mk hl0 (by decide) (Nat.le_of_ble_eq_true rfl) (fun κ C R0 hN _ => ?_)
  show pv_V D κ 0 0 LP (mm_f γ f0 mo ad z) 0 [(0, .ref mo), (1, .int l)] []
  refine pv_aload_n C d_M_takes_0 rfl 0 rfl ?_
  refine pm_get (v := .ref (ad 10)) C G 10 (by decide) fl_M_32 rfl rfl d_M_takes_1 ?_
  refine pv_iload_n C d_M_takes_4 rfl 1 rfl ?_
  refine pm_ald C G 10 (by decide) rfl (j := j) hl (show j < 68 by omega) d_M_takes_5 ?_
  refine pv_top (y := (z 10 j)) rfl ?_
  refine pv_aload_n C d_M_takes_6 rfl 0 rfl ?_
  refine pm_get (v := .ref (ad 10)) C G 10 (by decide) fl_M_32 rfl rfl d_M_takes_7 ?_
  refine pv_iload_n C d_M_takes_10 rfl 1 rfl ?_
  refine pm_ald C G 10 (by decide) rfl (j := j) hl (show j < 68 by omega) d_M_takes_11 ?_
  refine pv_top (y := (z 10 j)) rfl ?_
  refine pv_aload_n C d_M_takes_12 rfl 0 rfl ?_
  refine pm_get (v := .ref (ad 11)) C G 11 (by decide) fl_M_35 rfl rfl d_M_takes_13 ?_
  refine pv_iload_n C d_M_takes_16 rfl 1 rfl ?_
  refine pm_ald C G 11 (by decide) rfl (j := j) hl (show j < 68 by omega) d_M_takes_17 ?_
  refine pv_top (y := (z 11 j)) rfl ?_
  refine pv_imul C d_M_takes_18 ?_
  refine pv_bipush (v := 100) C d_M_takes_19 (by decide) ?_
  refine pv_idiv C d_M_takes_21 (by decide) ?_
  refine pv_iadd C d_M_takes_22 ?_
  exact pv_iret C R0 d_M_takes_23 (by decide) (by decide) (mP_i (by simp [bN_t, bN_f]))
def m_open (z : zT) (j : Nat) : Int32 := if z 13 j ≤ z 14 j then 0 else z 13 j - z 14 j
abbrev rm_M_openSamples : Room := { frames := 0, cells := 0, slots := 0, locals := 0 }
set_option maxRecDepth 100000 in
set_option maxHeartbeats 4000000 in
theorem c_M_openSamples {l0 : Launch} {D : va_G} {γ : Nat → ClassId} (hl0 : l0.stackTraces = false) {LP : List Nat} {f0 : Nat → va_E} {mo : Nat} {ad : Nat → Nat} (G : mm_H mo ad LP) (z : zT) (l : Int32) (j : Nat) (hj : j < 68) (hl : l = nI j) : mM l0 D γ y_M_openSamples (Cond.code y_M_openSamples b_M_openSamples 2 (Option.some FieldType.int)) rm_M_openSamples [.ref mo, .int l] LP f0 mo ad z (some (.int ((m_open z j, z)).1)) ((m_open z j, z)).2 := by
  refine pv_mk hl0 (by decide) (Nat.le_of_ble_eq_true rfl) (fun κ C R0 hN _ => ?_)
  show pv_V D κ 0 0 LP (mm_f γ f0 mo ad z) 0 [(0, .ref mo), (1, .int l)] []
  refine pv_aload_n C d_M_openSamples_0 rfl 0 rfl ?_
  refine pm_get (v := .ref (ad 13)) C G 13 (by decide) fl_M_41 rfl rfl d_M_openSamples_1 ?_
  refine pv_iload_n C d_M_openSamples_4 rfl 1 rfl ?_
  refine pm_ald C G 13 (by decide) rfl (j := j) hl (show j < 68 by omega) d_M_openSamples_5 ?_
  refine pv_top (y := (z 13 j)) rfl ?_
  refine pv_aload_n C d_M_openSamples_6 rfl 0 rfl ?_
  refine pm_get (v := .ref (ad 14)) C G 14 (by decide) fl_M_44 rfl rfl d_M_openSamples_7 ?_
  refine pv_iload_n C d_M_openSamples_10 rfl 1 rfl ?_
  refine pm_ald C G 14 (by decide) rfl (j := j) hl (show j < 68 by omega) d_M_openSamples_11 ?_
  refine pv_top (y := (z 14 j)) rfl ?_
  refine pv_icmp_le (tgt := 31) C d_M_openSamples_12 (by decide) (fun h1 => ?_) (fun h1 => ?_)
  · refine pv_iconst (v := 0) C d_M_openSamples_31 (by decide) ?_
    exact pv_iret C R0 d_M_openSamples_32 (by decide) (by decide) (mP_i (by simp [m_open, bN_t, bN_f, h1]))
  · refine pv_aload_n C d_M_openSamples_15 rfl 0 rfl ?_
    refine pm_get (v := .ref (ad 13)) C G 13 (by decide) fl_M_41 rfl rfl d_M_openSamples_16 ?_
    refine pv_iload_n C d_M_openSamples_19 rfl 1 rfl ?_
    refine pm_ald C G 13 (by decide) rfl (j := j) hl (show j < 68 by omega) d_M_openSamples_20 ?_
    refine pv_top (y := (z 13 j)) rfl ?_
    refine pv_aload_n C d_M_openSamples_21 rfl 0 rfl ?_
    refine pm_get (v := .ref (ad 14)) C G 14 (by decide) fl_M_44 rfl rfl d_M_openSamples_22 ?_
    refine pv_iload_n C d_M_openSamples_25 rfl 1 rfl ?_
    refine pm_ald C G 14 (by decide) rfl (j := j) hl (show j < 68 by omega) d_M_openSamples_26 ?_
    refine pv_top (y := (z 14 j)) rfl ?_
    refine pv_isub C d_M_openSamples_27 ?_
    refine pv_goto (tgt := 32) C d_M_openSamples_28 (by decide) ?_
    exact pv_iret C R0 d_M_openSamples_32 (by decide) (by decide) (mP_i (by simp [m_open, bN_t, bN_f, h1]))
def m_plain (z : zT) (u : Nat) : Int32 := if z 15 (zl z u) = 0 then 0 else 2
abbrev rm_M_plainState : Room := { frames := 0, cells := 0, slots := 0, locals := 0 }
set_option maxRecDepth 100000 in
set_option maxHeartbeats 4000000 in
theorem c_M_plainState {l0 : Launch} {D : va_G} {γ : Nat → ClassId} (hl0 : l0.stackTraces = false) {LP : List Nat} {f0 : Nat → va_E} {mo : Nat} {ad : Nat → Nat} (G : mm_H mo ad LP) (z : zT) (u : Int32) (j : Nat) (hj : j < 121) (hu : u = nI j) (hlu : z 19 j = nI (zl z j) ∧ 4 ≤ zl z j ∧ zl z j < 68) : mM l0 D γ y_M_plainState (Cond.code y_M_plainState b_M_plainState 2 (Option.some FieldType.int)) rm_M_plainState [.ref mo, .int u] LP f0 mo ad z (some (.int ((m_plain z j, z)).1)) ((m_plain z j, z)).2 := by
  refine pv_mk hl0 (by decide) (Nat.le_of_ble_eq_true rfl) (fun κ C R0 hN _ => ?_)
  show pv_V D κ 0 0 LP (mm_f γ f0 mo ad z) 0 [(0, .ref mo), (1, .int u)] []
  refine pv_aload_n C d_M_plainState_0 rfl 0 rfl ?_
  refine pm_get (v := .ref (ad 15)) C G 15 (by decide) fl_M_47 rfl rfl d_M_plainState_1 ?_
  refine pv_aload_n C d_M_plainState_4 rfl 0 rfl ?_
  refine pm_get (v := .ref (ad 19)) C G 19 (by decide) fl_M_56 rfl rfl d_M_plainState_5 ?_
  refine pv_iload_n C d_M_plainState_8 rfl 1 rfl ?_
  refine pm_ald C G 19 (by decide) rfl (j := j) hu (show j < 121 by omega) d_M_plainState_9 ?_
  refine pv_top (y := (z 19 j)) rfl ?_
  refine pm_zld C G 15 (by decide) rfl (j := (zl z j)) hlu.1 (show (zl z j) < 68 by omega) d_M_plainState_10 ?_
  refine pv_top (y := (z 15 (zl z j))) rfl ?_
  refine pv_if_eq (tgt := 18) C d_M_plainState_11 (by decide) (fun h1 => ?_) (fun h1 => ?_)
  · refine pv_iconst (v := 0) C d_M_plainState_18 (by decide) ?_
    exact pv_iret C R0 d_M_plainState_19 (by decide) (by decide) (mP_i (by simp [m_plain, bN_t, bN_f, h1]))
  · refine pv_iconst (v := 2) C d_M_plainState_14 (by decide) ?_
    refine pv_goto (tgt := 19) C d_M_plainState_15 (by decide) ?_
    exact pv_iret C R0 d_M_plainState_19 (by decide) (by decide) (mP_i (by simp [m_plain, bN_t, bN_f, h1]))
abbrev rm_M_date : Room := { frames := 2, cells := 0, slots := 0, locals := 43 }
def m_date (z : zT) (u : Int32) (x : Int32) : Int32 × zT :=
  (if (isU z u) = true then (if (inB x 0 10000) = true then (if (z 20 (ix u)) = 1 then (0, (zs (zs z 0 0 0) 0 0 3)) else (if (z 16 (zl z (ix u))) = 0 then (if (z 1 0) ≤ x then (if (z 1 0) ≤ x then (1, (zs (zs (zs (zs z 0 0 0) 0 0 0) 23 (ix u) x) 20 (ix u) (m_plain z (ix u)))) else (2, (zs (zs (zs (zs z 0 0 0) 0 0 0) 23 (ix u) x) 20 (ix u) (m_plain z (ix u))))) else (if (z 1 0) ≤ x then (1, (zs (zs (zs (zs z 0 0 0) 0 0 0) 23 (ix u) x) 20 (ix u) 3)) else (2, (zs (zs (zs (zs z 0 0 0) 0 0 0) 23 (ix u) x) 20 (ix u) 3)))) else (0, (zs (zs z 0 0 0) 0 0 3)))) else (0, (zs z 0 0 2))) else (0, (zs z 0 0 1)))
set_option maxRecDepth 100000 in
set_option maxHeartbeats 4000000 in
theorem c_M_date {l0 : Launch} {D : va_G} {γ : Nat → ClassId} (hl0 : l0.stackTraces = false) {LP : List Nat} {f0 : Nat → va_E} {mo : Nat} {ad : Nat → Nat} (G : mm_H mo ad LP) (z : zT) (u : Int32) (x : Int32) (hz : zI z) : mM l0 D γ y_M_date (Cond.code y_M_date b_M_date 3 (Option.some FieldType.int)) rm_M_date [.ref mo, .int u, .int x] LP f0 mo ad z (some (.int (m_date z u x).1)) (m_date z u x).2 := by
  refine pv_mk hl0 (by decide) (Nat.le_of_ble_eq_true rfl) (fun κ C R0 hN _ => ?_)
  show pv_V D κ 0 0 LP (mm_f γ f0 mo ad z) 0 [(0, .ref mo), (1, .int u), (2, .int x)] []
  refine pv_aload_n C d_M_date_0 rfl 0 rfl ?_
  refine pv_aload_n C d_M_date_1 rfl 0 rfl ?_
  refine pv_iload_n C d_M_date_2 rfl 1 rfl ?_
  refine pv_callV (n := 1) (As := [.int u]) (rest := [.ref mo]) C (c_M_isUnit hl0 G z u) cd_M_isUnit ml_M_115 in_M im_M_isUnit se_M_isUnit G.1 mm_obj rfl rfl (by decide +kernel) (by decide) rfl (Nat.le_of_ble_eq_true rfl) rfl d_M_date_3 (by decide) hN R0 (fun _ h => h.elim) (fun v9 LP9 f9 h9 => ?_)
  obtain ⟨rfl, rfl, rfl⟩ := h9
  refine pv_st (st2 := [.int (bN (isU z u)), .ref mo]) (c2 := 0) (s2 := 0) rfl rfl rfl ?_
  refine pv_ifb_ne (tgt := 13) C d_M_date_6 (by decide) (fun h1 => ?_) (fun h1 => ?_)
  · have hU := isU_ix hz h1
    have hlu := hz.2.2.2.2.1 (ix u) hU.2.1 hU.2.2.1
    refine pv_iload_n C d_M_date_13 rfl 2 rfl ?_
    refine pv_iconst (v := 0) C d_M_date_14 (by decide) ?_
    refine pv_sipush (v := 10000) C d_M_date_15 (by decide) ?_
    refine pv_callS (n := 3) (As := [.int x, .int 0, .int 10000]) (rest := [.ref mo]) C (c_M_in hl0 G z x 0 10000) cd_M_in ml_M_90 in_M sm_M_in (by decide +kernel) (by decide) rfl (Nat.le_of_ble_eq_true rfl) rfl d_M_date_18 (by decide) hN R0 (fun _ h => h.elim) (fun v9 LP9 f9 h9 => ?_)
    obtain ⟨rfl, rfl, rfl⟩ := h9
    refine pv_st (st2 := [.int (bN (inB x 0 10000)), .ref mo]) (c2 := 0) (s2 := 0) rfl rfl rfl ?_
    refine pv_ifb_ne (tgt := 28) C d_M_date_21 (by decide) (fun h2 => ?_) (fun h2 => ?_)
    · refine pv_iconst (v := 0) C d_M_date_28 (by decide) ?_
      refine pm_put C G 0 (by decide) fl_M_83 rfl rfl rfl (by decide) rfl d_M_date_29 ?_
      refine pv_aload_n C d_M_date_32 rfl 0 rfl ?_
      refine pm_get (v := .int 0) C G 0 (by decide) fl_M_83 rfl rfl d_M_date_33 ?_
      refine pv_if_ne (tgt := 72) C d_M_date_36 (by decide) (fun q => absurd q (by decide)) (fun _ => ?_)
      refine pv_aload_n C d_M_date_39 rfl 0 rfl ?_
      refine pv_aload_n C d_M_date_40 rfl 0 rfl ?_
      refine pm_get (v := .ref (ad 20)) C G 20 (by decide) fl_M_59 rfl rfl d_M_date_41 ?_
      refine pv_iload_n C d_M_date_44 rfl 1 rfl ?_
      refine pm_ald C G 20 (by decide) rfl (j := (ix u)) hU.1 (show (ix u) < 121 by omega) d_M_date_45 ?_
      refine pv_top (y := (z 20 (ix u))) (zs_k _ _ (by decide)) ?_
      refine pv_iconst (v := 1) C d_M_date_46 (by decide) ?_
      refine pv_icmp_eq (tgt := 64) C d_M_date_47 (by decide) (fun h3 => ?_) (fun h3 => ?_)
      · refine pv_iconst (v := 3) C d_M_date_64 (by decide) ?_
        refine pv_goto (tgt := 69) C d_M_date_65 (by decide) ?_
        refine pm_put C G 0 (by decide) fl_M_83 rfl rfl rfl (by decide) rfl d_M_date_69 ?_
        refine pv_aload_n C d_M_date_72 rfl 0 rfl ?_
        refine pm_get (v := .int 3) C G 0 (by decide) fl_M_83 rfl rfl d_M_date_73 ?_
        refine pv_if_le (tgt := 81) C d_M_date_76 (by decide) (fun q => absurd q (by decide)) (fun _ => ?_)
        refine pv_iconst (v := 0) C d_M_date_79 (by decide) ?_
        exact pv_iret C R0 d_M_date_80 (by decide) (by decide) (mP_i (by unfold m_date; rw [if_pos h1, if_pos h2, if_pos h3]))
      · refine pv_aload_n C d_M_date_50 rfl 0 rfl ?_
        refine pm_get (v := .ref (ad 16)) C G 16 (by decide) fl_M_50 rfl rfl d_M_date_51 ?_
        refine pv_aload_n C d_M_date_54 rfl 0 rfl ?_
        refine pm_get (v := .ref (ad 19)) C G 19 (by decide) fl_M_56 rfl rfl d_M_date_55 ?_
        refine pv_iload_n C d_M_date_58 rfl 1 rfl ?_
        refine pm_ald C G 19 (by decide) rfl (j := (ix u)) hU.1 (show (ix u) < 121 by omega) d_M_date_59 ?_
        refine pv_top (y := (z 19 (ix u))) (zs_k _ _ (by decide)) ?_
        refine pm_zld C G 16 (by decide) rfl (j := (zl z (ix u))) hlu.1 (show (zl z (ix u)) < 68 by omega) d_M_date_60 ?_
        refine pv_top (y := (z 16 (zl z (ix u)))) (zs_k _ _ (by decide)) ?_
        refine pv_if_eq (tgt := 68) C d_M_date_61 (by decide) (fun h4 => ?_) (fun h4 => ?_)
        · refine pv_iconst (v := 0) C d_M_date_68 (by decide) ?_
          refine pm_put C G 0 (by decide) fl_M_83 rfl rfl rfl (by decide) rfl d_M_date_69 ?_
          refine pv_aload_n C d_M_date_72 rfl 0 rfl ?_
          refine pm_get (v := .int 0) C G 0 (by decide) fl_M_83 rfl rfl d_M_date_73 ?_
          refine pv_if_le (tgt := 81) C d_M_date_76 (by decide) (fun _ => ?_) (fun q => absurd q (by decide))
          refine pv_aload_n C d_M_date_81 rfl 0 rfl ?_
          refine pm_get (v := .ref (ad 23)) C G 23 (by decide) fl_M_68 rfl rfl d_M_date_82 ?_
          refine pv_iload_n C d_M_date_85 rfl 1 rfl ?_
          refine pv_iload_n C d_M_date_86 rfl 2 rfl ?_
          refine pm_ast C G 23 (by decide) rfl (j := (ix u)) hU.1 (show (ix u) < 121 by omega) d_M_date_87 ?_
          refine pv_aload_n C d_M_date_88 rfl 0 rfl ?_
          refine pm_get (v := .ref (ad 20)) C G 20 (by decide) fl_M_59 rfl rfl d_M_date_89 ?_
          refine pv_iload_n C d_M_date_92 rfl 1 rfl ?_
          refine pv_iload_n C d_M_date_93 rfl 2 rfl ?_
          refine pv_aload_n C d_M_date_94 rfl 0 rfl ?_
          refine pm_get (v := .int (z 1 0)) C G 1 (by decide) fl_M_121 rfl rfl d_M_date_95 ?_
          refine pv_icmp_ge (tgt := 105) C d_M_date_98 (by decide) (fun h5 => ?_) (fun h5 => ?_)
          · refine pv_aload_n C d_M_date_105 rfl 0 rfl ?_
            refine pv_iload_n C d_M_date_106 rfl 1 rfl ?_
            refine pv_callV (n := 1) (As := [.int u]) (rest := [.int u, .ref (ad 20)]) C (c_M_plainState hl0 G (zs (zs (zs z 0 0 0) 0 0 0) 23 (ix u) x) u (ix u) (by omega) hU.1 hlu) cd_M_plainState ml_M_124 in_M im_M_plainState se_M_plainState G.1 mm_obj rfl rfl (by decide +kernel) (by decide) rfl (Nat.le_of_ble_eq_true rfl) rfl d_M_date_107 (by decide) hN R0 (fun _ h => h.elim) (fun v9 LP9 f9 h9 => ?_)
            obtain ⟨rfl, rfl, rfl⟩ := h9
            refine pv_st (st2 := [.int (m_plain z (ix u)), .int u, .ref (ad 20)]) (c2 := 0) (s2 := 0) rfl rfl rfl ?_
            refine pm_ast C G 20 (by decide) rfl (j := (ix u)) hU.1 (show (ix u) < 121 by omega) d_M_date_110 ?_
            refine pv_iload_n C d_M_date_111 rfl 2 rfl ?_
            refine pv_aload_n C d_M_date_112 rfl 0 rfl ?_
            refine pm_get (v := .int (z 1 0)) C G 1 (by decide) fl_M_121 rfl rfl d_M_date_113 ?_
            refine pv_icmp_ge (tgt := 123) C d_M_date_116 (by decide) (fun h6 => ?_) (fun h6 => ?_)
            · refine pv_iconst (v := 1) C d_M_date_123 (by decide) ?_
              exact pv_iret C R0 d_M_date_124 (by decide) (by decide) (mP_i (by unfold m_date; rw [if_pos h1, if_pos h2, if_neg h3, if_pos h4, if_pos h5, if_pos h6]))
            · refine pv_iconst (v := 2) C d_M_date_119 (by decide) ?_
              refine pv_goto (tgt := 124) C d_M_date_120 (by decide) ?_
              exact pv_iret C R0 d_M_date_124 (by decide) (by decide) (mP_i (by unfold m_date; rw [if_pos h1, if_pos h2, if_neg h3, if_pos h4, if_pos h5, if_neg h6]))
          · refine pv_iconst (v := 3) C d_M_date_101 (by decide) ?_
            refine pv_goto (tgt := 110) C d_M_date_102 (by decide) ?_
            refine pm_ast C G 20 (by decide) rfl (j := (ix u)) hU.1 (show (ix u) < 121 by omega) d_M_date_110 ?_
            refine pv_iload_n C d_M_date_111 rfl 2 rfl ?_
            refine pv_aload_n C d_M_date_112 rfl 0 rfl ?_
            refine pm_get (v := .int (z 1 0)) C G 1 (by decide) fl_M_121 rfl rfl d_M_date_113 ?_
            refine pv_icmp_ge (tgt := 123) C d_M_date_116 (by decide) (fun h7 => ?_) (fun h7 => ?_)
            · refine pv_iconst (v := 1) C d_M_date_123 (by decide) ?_
              exact pv_iret C R0 d_M_date_124 (by decide) (by decide) (mP_i (by unfold m_date; rw [if_pos h1, if_pos h2, if_neg h3, if_pos h4, if_neg h5, if_pos h7]))
            · refine pv_iconst (v := 2) C d_M_date_119 (by decide) ?_
              refine pv_goto (tgt := 124) C d_M_date_120 (by decide) ?_
              exact pv_iret C R0 d_M_date_124 (by decide) (by decide) (mP_i (by unfold m_date; rw [if_pos h1, if_pos h2, if_neg h3, if_pos h4, if_neg h5, if_neg h7]))
        · refine pv_iconst (v := 3) C d_M_date_64 (by decide) ?_
          refine pv_goto (tgt := 69) C d_M_date_65 (by decide) ?_
          refine pm_put C G 0 (by decide) fl_M_83 rfl rfl rfl (by decide) rfl d_M_date_69 ?_
          refine pv_aload_n C d_M_date_72 rfl 0 rfl ?_
          refine pm_get (v := .int 3) C G 0 (by decide) fl_M_83 rfl rfl d_M_date_73 ?_
          refine pv_if_le (tgt := 81) C d_M_date_76 (by decide) (fun q => absurd q (by decide)) (fun _ => ?_)
          refine pv_iconst (v := 0) C d_M_date_79 (by decide) ?_
          exact pv_iret C R0 d_M_date_80 (by decide) (by decide) (mP_i (by unfold m_date; rw [if_pos h1, if_pos h2, if_neg h3, if_neg h4]))
    · refine pv_iconst (v := 2) C d_M_date_24 (by decide) ?_
      refine pv_goto (tgt := 29) C d_M_date_25 (by decide) ?_
      refine pm_put C G 0 (by decide) fl_M_83 rfl rfl rfl (by decide) rfl d_M_date_29 ?_
      refine pv_aload_n C d_M_date_32 rfl 0 rfl ?_
      refine pm_get (v := .int 2) C G 0 (by decide) fl_M_83 rfl rfl d_M_date_33 ?_
      refine pv_if_ne (tgt := 72) C d_M_date_36 (by decide) (fun _ => ?_) (fun q => absurd q (by decide))
      refine pv_aload_n C d_M_date_72 rfl 0 rfl ?_
      refine pm_get (v := .int 2) C G 0 (by decide) fl_M_83 rfl rfl d_M_date_73 ?_
      refine pv_if_le (tgt := 81) C d_M_date_76 (by decide) (fun q => absurd q (by decide)) (fun _ => ?_)
      refine pv_iconst (v := 0) C d_M_date_79 (by decide) ?_
      exact pv_iret C R0 d_M_date_80 (by decide) (by decide) (mP_i (by unfold m_date; rw [if_pos h1, if_neg (nT h2)]))
  · refine pv_iconst (v := 1) C d_M_date_9 (by decide) ?_
    refine pv_goto (tgt := 29) C d_M_date_10 (by decide) ?_
    refine pm_put C G 0 (by decide) fl_M_83 rfl rfl rfl (by decide) rfl d_M_date_29 ?_
    refine pv_aload_n C d_M_date_32 rfl 0 rfl ?_
    refine pm_get (v := .int 1) C G 0 (by decide) fl_M_83 rfl rfl d_M_date_33 ?_
    refine pv_if_ne (tgt := 72) C d_M_date_36 (by decide) (fun _ => ?_) (fun q => absurd q (by decide))
    refine pv_aload_n C d_M_date_72 rfl 0 rfl ?_
    refine pm_get (v := .int 1) C G 0 (by decide) fl_M_83 rfl rfl d_M_date_73 ?_
    refine pv_if_le (tgt := 81) C d_M_date_76 (by decide) (fun q => absurd q (by decide)) (fun _ => ?_)
    refine pv_iconst (v := 0) C d_M_date_79 (by decide) ?_
    exact pv_iret C R0 d_M_date_80 (by decide) (by decide) (mP_i (by unfold m_date; rw [if_neg (nT h1)]))
abbrev rm_M_take : Room := { frames := 2, cells := 0, slots := 0, locals := 43 }
def m_take (z : zT) (u : Int32) (p : Int32) : Int32 × zT :=
  (if (isU z u) = true then (if (isP p) = true then (if (z 20 (ix u)) = 3 then (if (z 2 (ix p)) = 0 then (0, (zs (zs z 0 0 0) 0 0 3)) else ((m_plain z (ix u)), (zs (zs (zs z 0 0 0) 0 0 0) 20 (ix u) (m_plain z (ix u))))) else (0, (zs (zs z 0 0 0) 0 0 3))) else (0, (zs z 0 0 2))) else (0, (zs z 0 0 1)))
set_option maxRecDepth 100000 in
set_option maxHeartbeats 4000000 in
theorem c_M_take {l0 : Launch} {D : va_G} {γ : Nat → ClassId} (hl0 : l0.stackTraces = false) {LP : List Nat} {f0 : Nat → va_E} {mo : Nat} {ad : Nat → Nat} (G : mm_H mo ad LP) (z : zT) (u : Int32) (p : Int32) (hz : zI z) : mM l0 D γ y_M_take (Cond.code y_M_take b_M_take 3 (Option.some FieldType.int)) rm_M_take [.ref mo, .int u, .int p] LP f0 mo ad z (some (.int (m_take z u p).1)) (m_take z u p).2 := by
  refine pv_mk hl0 (by decide) (Nat.le_of_ble_eq_true rfl) (fun κ C R0 hN _ => ?_)
  show pv_V D κ 0 0 LP (mm_f γ f0 mo ad z) 0 [(0, .ref mo), (1, .int u), (2, .int p)] []
  refine pv_aload_n C d_M_take_0 rfl 0 rfl ?_
  refine pv_aload_n C d_M_take_1 rfl 0 rfl ?_
  refine pv_iload_n C d_M_take_2 rfl 1 rfl ?_
  refine pv_callV (n := 1) (As := [.int u]) (rest := [.ref mo]) C (c_M_isUnit hl0 G z u) cd_M_isUnit ml_M_115 in_M im_M_isUnit se_M_isUnit G.1 mm_obj rfl rfl (by decide +kernel) (by decide) rfl (Nat.le_of_ble_eq_true rfl) rfl d_M_take_3 (by decide) hN R0 (fun _ h => h.elim) (fun v9 LP9 f9 h9 => ?_)
  obtain ⟨rfl, rfl, rfl⟩ := h9
  refine pv_st (st2 := [.int (bN (isU z u)), .ref mo]) (c2 := 0) (s2 := 0) rfl rfl rfl ?_
  refine pv_ifb_ne (tgt := 13) C d_M_take_6 (by decide) (fun h1 => ?_) (fun h1 => ?_)
  · have hU := isU_ix hz h1
    have hlu := hz.2.2.2.2.1 (ix u) hU.2.1 hU.2.2.1
    refine pv_iload_n C d_M_take_13 rfl 2 rfl ?_
    refine pv_callS (n := 1) (As := [.int p]) (rest := [.ref mo]) C (c_M_isPerson hl0 G z p) cd_M_isPerson ml_M_104 in_M sm_M_isPerson (by decide +kernel) (by decide) rfl (Nat.le_of_ble_eq_true rfl) rfl d_M_take_14 (by decide) hN R0 (fun _ h => h.elim) (fun v9 LP9 f9 h9 => ?_)
    obtain ⟨rfl, rfl, rfl⟩ := h9
    refine pv_st (st2 := [.int (bN (isP p)), .ref mo]) (c2 := 0) (s2 := 0) rfl rfl rfl ?_
    refine pv_ifb_ne (tgt := 24) C d_M_take_17 (by decide) (fun h2 => ?_) (fun h2 => ?_)
    · have hP := isP_ix h2
      refine pv_iconst (v := 0) C d_M_take_24 (by decide) ?_
      refine pm_put C G 0 (by decide) fl_M_83 rfl rfl rfl (by decide) rfl d_M_take_25 ?_
      refine pv_aload_n C d_M_take_28 rfl 0 rfl ?_
      refine pm_get (v := .int 0) C G 0 (by decide) fl_M_83 rfl rfl d_M_take_29 ?_
      refine pv_if_ne (tgt := 63) C d_M_take_32 (by decide) (fun q => absurd q (by decide)) (fun _ => ?_)
      refine pv_aload_n C d_M_take_35 rfl 0 rfl ?_
      refine pv_aload_n C d_M_take_36 rfl 0 rfl ?_
      refine pm_get (v := .ref (ad 20)) C G 20 (by decide) fl_M_59 rfl rfl d_M_take_37 ?_
      refine pv_iload_n C d_M_take_40 rfl 1 rfl ?_
      refine pm_ald C G 20 (by decide) rfl (j := (ix u)) hU.1 (show (ix u) < 121 by omega) d_M_take_41 ?_
      refine pv_top (y := (z 20 (ix u))) (zs_k _ _ (by decide)) ?_
      refine pv_iconst (v := 3) C d_M_take_42 (by decide) ?_
      refine pv_icmp_ne (tgt := 55) C d_M_take_43 (by decide) (fun h3 => ?_) (fun h3 => ?_)
      · refine pv_iconst (v := 3) C d_M_take_55 (by decide) ?_
        refine pv_goto (tgt := 60) C d_M_take_56 (by decide) ?_
        refine pm_put C G 0 (by decide) fl_M_83 rfl rfl rfl (by decide) rfl d_M_take_60 ?_
        refine pv_aload_n C d_M_take_63 rfl 0 rfl ?_
        refine pm_get (v := .int 3) C G 0 (by decide) fl_M_83 rfl rfl d_M_take_64 ?_
        refine pv_if_le (tgt := 72) C d_M_take_67 (by decide) (fun q => absurd q (by decide)) (fun _ => ?_)
        refine pv_iconst (v := 0) C d_M_take_70 (by decide) ?_
        exact pv_iret C R0 d_M_take_71 (by decide) (by decide) (mP_i (by unfold m_take; rw [if_pos h1, if_pos h2, if_neg h3]))
      · refine pv_aload_n C d_M_take_46 rfl 0 rfl ?_
        refine pm_get (v := .ref (ad 2)) C G 2 (by decide) fl_M_7 rfl rfl d_M_take_47 ?_
        refine pv_iload_n C d_M_take_50 rfl 2 rfl ?_
        refine pm_zld C G 2 (by decide) rfl (j := (ix p)) hP.1 (show (ix p) < 8 by omega) d_M_take_51 ?_
        refine pv_top (y := (z 2 (ix p))) (zs_k _ _ (by decide)) ?_
        refine pv_if_ne (tgt := 59) C d_M_take_52 (by decide) (fun h4 => ?_) (fun h4 => ?_)
        · refine pv_iconst (v := 0) C d_M_take_59 (by decide) ?_
          refine pm_put C G 0 (by decide) fl_M_83 rfl rfl rfl (by decide) rfl d_M_take_60 ?_
          refine pv_aload_n C d_M_take_63 rfl 0 rfl ?_
          refine pm_get (v := .int 0) C G 0 (by decide) fl_M_83 rfl rfl d_M_take_64 ?_
          refine pv_if_le (tgt := 72) C d_M_take_67 (by decide) (fun _ => ?_) (fun q => absurd q (by decide))
          refine pv_aload_n C d_M_take_72 rfl 0 rfl ?_
          refine pm_get (v := .ref (ad 20)) C G 20 (by decide) fl_M_59 rfl rfl d_M_take_73 ?_
          refine pv_iload_n C d_M_take_76 rfl 1 rfl ?_
          refine pv_aload_n C d_M_take_77 rfl 0 rfl ?_
          refine pv_iload_n C d_M_take_78 rfl 1 rfl ?_
          refine pv_callV (n := 1) (As := [.int u]) (rest := [.int u, .ref (ad 20)]) C (c_M_plainState hl0 G (zs (zs z 0 0 0) 0 0 0) u (ix u) (by omega) hU.1 hlu) cd_M_plainState ml_M_124 in_M im_M_plainState se_M_plainState G.1 mm_obj rfl rfl (by decide +kernel) (by decide) rfl (Nat.le_of_ble_eq_true rfl) rfl d_M_take_79 (by decide) hN R0 (fun _ h => h.elim) (fun v9 LP9 f9 h9 => ?_)
          obtain ⟨rfl, rfl, rfl⟩ := h9
          refine pv_st (st2 := [.int (m_plain z (ix u)), .int u, .ref (ad 20)]) (c2 := 0) (s2 := 0) rfl rfl rfl ?_
          refine pm_ast C G 20 (by decide) rfl (j := (ix u)) hU.1 (show (ix u) < 121 by omega) d_M_take_82 ?_
          refine pv_aload_n C d_M_take_83 rfl 0 rfl ?_
          refine pm_get (v := .ref (ad 20)) C G 20 (by decide) fl_M_59 rfl rfl d_M_take_84 ?_
          refine pv_iload_n C d_M_take_87 rfl 1 rfl ?_
          refine pm_ald C G 20 (by decide) rfl (j := (ix u)) hU.1 (show (ix u) < 121 by omega) d_M_take_88 ?_
          refine pv_top (y := (m_plain z (ix u))) (zs_eq _ _ _ _) ?_
          exact pv_iret C R0 d_M_take_89 (by decide) (by decide) (mP_i (by unfold m_take; rw [if_pos h1, if_pos h2, if_pos h3, if_neg h4]))
        · refine pv_iconst (v := 3) C d_M_take_55 (by decide) ?_
          refine pv_goto (tgt := 60) C d_M_take_56 (by decide) ?_
          refine pm_put C G 0 (by decide) fl_M_83 rfl rfl rfl (by decide) rfl d_M_take_60 ?_
          refine pv_aload_n C d_M_take_63 rfl 0 rfl ?_
          refine pm_get (v := .int 3) C G 0 (by decide) fl_M_83 rfl rfl d_M_take_64 ?_
          refine pv_if_le (tgt := 72) C d_M_take_67 (by decide) (fun q => absurd q (by decide)) (fun _ => ?_)
          refine pv_iconst (v := 0) C d_M_take_70 (by decide) ?_
          exact pv_iret C R0 d_M_take_71 (by decide) (by decide) (mP_i (by unfold m_take; rw [if_pos h1, if_pos h2, if_pos h3, if_pos h4]))
    · refine pv_iconst (v := 2) C d_M_take_20 (by decide) ?_
      refine pv_goto (tgt := 25) C d_M_take_21 (by decide) ?_
      refine pm_put C G 0 (by decide) fl_M_83 rfl rfl rfl (by decide) rfl d_M_take_25 ?_
      refine pv_aload_n C d_M_take_28 rfl 0 rfl ?_
      refine pm_get (v := .int 2) C G 0 (by decide) fl_M_83 rfl rfl d_M_take_29 ?_
      refine pv_if_ne (tgt := 63) C d_M_take_32 (by decide) (fun _ => ?_) (fun q => absurd q (by decide))
      refine pv_aload_n C d_M_take_63 rfl 0 rfl ?_
      refine pm_get (v := .int 2) C G 0 (by decide) fl_M_83 rfl rfl d_M_take_64 ?_
      refine pv_if_le (tgt := 72) C d_M_take_67 (by decide) (fun q => absurd q (by decide)) (fun _ => ?_)
      refine pv_iconst (v := 0) C d_M_take_70 (by decide) ?_
      exact pv_iret C R0 d_M_take_71 (by decide) (by decide) (mP_i (by unfold m_take; rw [if_pos h1, if_neg (nT h2)]))
  · refine pv_iconst (v := 1) C d_M_take_9 (by decide) ?_
    refine pv_goto (tgt := 25) C d_M_take_10 (by decide) ?_
    refine pm_put C G 0 (by decide) fl_M_83 rfl rfl rfl (by decide) rfl d_M_take_25 ?_
    refine pv_aload_n C d_M_take_28 rfl 0 rfl ?_
    refine pm_get (v := .int 1) C G 0 (by decide) fl_M_83 rfl rfl d_M_take_29 ?_
    refine pv_if_ne (tgt := 63) C d_M_take_32 (by decide) (fun _ => ?_) (fun q => absurd q (by decide))
    refine pv_aload_n C d_M_take_63 rfl 0 rfl ?_
    refine pm_get (v := .int 1) C G 0 (by decide) fl_M_83 rfl rfl d_M_take_64 ?_
    refine pv_if_le (tgt := 72) C d_M_take_67 (by decide) (fun q => absurd q (by decide)) (fun _ => ?_)
    refine pv_iconst (v := 0) C d_M_take_70 (by decide) ?_
    exact pv_iret C R0 d_M_take_71 (by decide) (by decide) (mP_i (by unfold m_take; rw [if_neg (nT h1)]))
abbrev rm_M_again : Room := { frames := 2, cells := 0, slots := 0, locals := 43 }
def m_again (z : zT) (u : Int32) : Int32 × zT :=
  (if (isU z u) = true then (if (z 25 (ix u)) = 0 then (0, (zs (zs z 0 0 0) 0 0 2)) else (((z 26 (ix u)) + 1), (zs (zs (zs z 0 0 0) 0 0 0) 26 (ix u) ((z 26 (ix u)) + 1)))) else (0, (zs z 0 0 1)))
set_option maxRecDepth 100000 in
set_option maxHeartbeats 4000000 in
theorem c_M_again {l0 : Launch} {D : va_G} {γ : Nat → ClassId} (hl0 : l0.stackTraces = false) {LP : List Nat} {f0 : Nat → va_E} {mo : Nat} {ad : Nat → Nat} (G : mm_H mo ad LP) (z : zT) (u : Int32) (hz : zI z) : mM l0 D γ y_M_again (Cond.code y_M_again b_M_again 2 (Option.some FieldType.int)) rm_M_again [.ref mo, .int u] LP f0 mo ad z (some (.int (m_again z u).1)) (m_again z u).2 := by
  refine pv_mk hl0 (by decide) (Nat.le_of_ble_eq_true rfl) (fun κ C R0 hN _ => ?_)
  show pv_V D κ 0 0 LP (mm_f γ f0 mo ad z) 0 [(0, .ref mo), (1, .int u)] []
  refine pv_aload_n C d_M_again_0 rfl 0 rfl ?_
  refine pv_aload_n C d_M_again_1 rfl 0 rfl ?_
  refine pv_iload_n C d_M_again_2 rfl 1 rfl ?_
  refine pv_callV (n := 1) (As := [.int u]) (rest := [.ref mo]) C (c_M_isUnit hl0 G z u) cd_M_isUnit ml_M_115 in_M im_M_isUnit se_M_isUnit G.1 mm_obj rfl rfl (by decide +kernel) (by decide) rfl (Nat.le_of_ble_eq_true rfl) rfl d_M_again_3 (by decide) hN R0 (fun _ h => h.elim) (fun v9 LP9 f9 h9 => ?_)
  obtain ⟨rfl, rfl, rfl⟩ := h9
  refine pv_st (st2 := [.int (bN (isU z u)), .ref mo]) (c2 := 0) (s2 := 0) rfl rfl rfl ?_
  refine pv_ifb_ne (tgt := 13) C d_M_again_6 (by decide) (fun h1 => ?_) (fun h1 => ?_)
  · have hU := isU_ix hz h1
    have hlu := hz.2.2.2.2.1 (ix u) hU.2.1 hU.2.2.1
    refine pv_iconst (v := 0) C d_M_again_13 (by decide) ?_
    refine pm_put C G 0 (by decide) fl_M_83 rfl rfl rfl (by decide) rfl d_M_again_14 ?_
    refine pv_aload_n C d_M_again_17 rfl 0 rfl ?_
    refine pm_get (v := .int 0) C G 0 (by decide) fl_M_83 rfl rfl d_M_again_18 ?_
    refine pv_if_ne (tgt := 42) C d_M_again_21 (by decide) (fun q => absurd q (by decide)) (fun _ => ?_)
    refine pv_aload_n C d_M_again_24 rfl 0 rfl ?_
    refine pv_aload_n C d_M_again_25 rfl 0 rfl ?_
    refine pm_get (v := .ref (ad 25)) C G 25 (by decide) fl_M_74 rfl rfl d_M_again_26 ?_
    refine pv_iload_n C d_M_again_29 rfl 1 rfl ?_
    refine pm_ald C G 25 (by decide) rfl (j := (ix u)) hU.1 (show (ix u) < 121 by omega) d_M_again_30 ?_
    refine pv_top (y := (z 25 (ix u))) (zs_k _ _ (by decide)) ?_
    refine pv_if_ne (tgt := 38) C d_M_again_31 (by decide) (fun h2 => ?_) (fun h2 => ?_)
    · refine pv_iconst (v := 0) C d_M_again_38 (by decide) ?_
      refine pm_put C G 0 (by decide) fl_M_83 rfl rfl rfl (by decide) rfl d_M_again_39 ?_
      refine pv_aload_n C d_M_again_42 rfl 0 rfl ?_
      refine pm_get (v := .int 0) C G 0 (by decide) fl_M_83 rfl rfl d_M_again_43 ?_
      refine pv_if_le (tgt := 51) C d_M_again_46 (by decide) (fun _ => ?_) (fun q => absurd q (by decide))
      refine pv_aload_n C d_M_again_51 rfl 0 rfl ?_
      refine pm_get (v := .ref (ad 26)) C G 26 (by decide) fl_M_77 rfl rfl d_M_again_52 ?_
      refine pv_iload_n C d_M_again_55 rfl 1 rfl ?_
      refine pv_dup2 C d_M_again_56 rfl rfl ?_
      refine pm_ald C G 26 (by decide) rfl (j := (ix u)) hU.1 (show (ix u) < 121 by omega) d_M_again_57 ?_
      refine pv_top (y := (z 26 (ix u))) ((zs_k _ _ (by decide)).trans (zs_k _ _ (by decide))) ?_
      refine pv_iconst (v := 1) C d_M_again_58 (by decide) ?_
      refine pv_iadd C d_M_again_59 ?_
      refine pm_ast C G 26 (by decide) rfl (j := (ix u)) hU.1 (show (ix u) < 121 by omega) d_M_again_60 ?_
      refine pv_aload_n C d_M_again_61 rfl 0 rfl ?_
      refine pm_get (v := .ref (ad 26)) C G 26 (by decide) fl_M_77 rfl rfl d_M_again_62 ?_
      refine pv_iload_n C d_M_again_65 rfl 1 rfl ?_
      refine pm_ald C G 26 (by decide) rfl (j := (ix u)) hU.1 (show (ix u) < 121 by omega) d_M_again_66 ?_
      refine pv_top (y := ((z 26 (ix u)) + 1)) (zs_eq _ _ _ _) ?_
      exact pv_iret C R0 d_M_again_67 (by decide) (by decide) (mP_i (by unfold m_again; rw [if_pos h1, if_neg h2]))
    · refine pv_iconst (v := 2) C d_M_again_34 (by decide) ?_
      refine pv_goto (tgt := 39) C d_M_again_35 (by decide) ?_
      refine pm_put C G 0 (by decide) fl_M_83 rfl rfl rfl (by decide) rfl d_M_again_39 ?_
      refine pv_aload_n C d_M_again_42 rfl 0 rfl ?_
      refine pm_get (v := .int 2) C G 0 (by decide) fl_M_83 rfl rfl d_M_again_43 ?_
      refine pv_if_le (tgt := 51) C d_M_again_46 (by decide) (fun q => absurd q (by decide)) (fun _ => ?_)
      refine pv_iconst (v := 0) C d_M_again_49 (by decide) ?_
      exact pv_iret C R0 d_M_again_50 (by decide) (by decide) (mP_i (by unfold m_again; rw [if_pos h1, if_pos h2]))
  · refine pv_iconst (v := 1) C d_M_again_9 (by decide) ?_
    refine pv_goto (tgt := 14) C d_M_again_10 (by decide) ?_
    refine pm_put C G 0 (by decide) fl_M_83 rfl rfl rfl (by decide) rfl d_M_again_14 ?_
    refine pv_aload_n C d_M_again_17 rfl 0 rfl ?_
    refine pm_get (v := .int 1) C G 0 (by decide) fl_M_83 rfl rfl d_M_again_18 ?_
    refine pv_if_ne (tgt := 42) C d_M_again_21 (by decide) (fun _ => ?_) (fun q => absurd q (by decide))
    refine pv_aload_n C d_M_again_42 rfl 0 rfl ?_
    refine pm_get (v := .int 1) C G 0 (by decide) fl_M_83 rfl rfl d_M_again_43 ?_
    refine pv_if_le (tgt := 51) C d_M_again_46 (by decide) (fun q => absurd q (by decide)) (fun _ => ?_)
    refine pv_iconst (v := 0) C d_M_again_49 (by decide) ?_
    exact pv_iret C R0 d_M_again_50 (by decide) (by decide) (mP_i (by unfold m_again; rw [if_neg (nT h1)]))
abbrev rm_M_unit : Room := { frames := 2, cells := 0, slots := 0, locals := 43 }
def m_unit (z : zT) (u : Int32) (w : Int32) : Int32 × zT :=
  (if (isU z u) = true then (if (inB w 0 7) = true then (if w = 0 then ((z 20 (ix u)), (zs z 0 0 0)) else (if w = 1 then (((z 19 (ix u)) / 4), (zs z 0 0 0)) else (if w = 2 then (((z 19 (ix u)) - (z 19 (ix u)) / 4 * 4), (zs z 0 0 0)) else (if w = 3 then ((z 21 (ix u)), (zs z 0 0 0)) else (if w = 4 then ((z 22 (ix u)), (zs z 0 0 0)) else (if w = 5 then ((z 23 (ix u)), (zs z 0 0 0)) else (if w = 6 then ((z 24 (ix u)), (zs z 0 0 0)) else ((z 25 (ix u)), (zs z 0 0 0))))))))) else (0, (zs z 0 0 2))) else (0, (zs z 0 0 1)))
set_option maxRecDepth 100000 in
set_option maxHeartbeats 4000000 in
theorem c_M_unit {l0 : Launch} {D : va_G} {γ : Nat → ClassId} (hl0 : l0.stackTraces = false) {LP : List Nat} {f0 : Nat → va_E} {mo : Nat} {ad : Nat → Nat} (G : mm_H mo ad LP) (z : zT) (u : Int32) (w : Int32) (hz : zI z) : mM l0 D γ y_M_unit (Cond.code y_M_unit b_M_unit 3 (Option.some FieldType.int)) rm_M_unit [.ref mo, .int u, .int w] LP f0 mo ad z (some (.int (m_unit z u w).1)) (m_unit z u w).2 := by
  refine pv_mk hl0 (by decide) (Nat.le_of_ble_eq_true rfl) (fun κ C R0 hN _ => ?_)
  show pv_V D κ 0 0 LP (mm_f γ f0 mo ad z) 0 [(0, .ref mo), (1, .int u), (2, .int w)] []
  refine pv_aload_n C d_M_unit_0 rfl 0 rfl ?_
  refine pv_aload_n C d_M_unit_1 rfl 0 rfl ?_
  refine pv_iload_n C d_M_unit_2 rfl 1 rfl ?_
  refine pv_callV (n := 1) (As := [.int u]) (rest := [.ref mo]) C (c_M_isUnit hl0 G z u) cd_M_isUnit ml_M_115 in_M im_M_isUnit se_M_isUnit G.1 mm_obj rfl rfl (by decide +kernel) (by decide) rfl (Nat.le_of_ble_eq_true rfl) rfl d_M_unit_3 (by decide) hN R0 (fun _ h => h.elim) (fun v9 LP9 f9 h9 => ?_)
  obtain ⟨rfl, rfl, rfl⟩ := h9
  refine pv_st (st2 := [.int (bN (isU z u)), .ref mo]) (c2 := 0) (s2 := 0) rfl rfl rfl ?_
  refine pv_ifb_ne (tgt := 13) C d_M_unit_6 (by decide) (fun h1 => ?_) (fun h1 => ?_)
  · have hU := isU_ix hz h1
    have hlu := hz.2.2.2.2.1 (ix u) hU.2.1 hU.2.2.1
    refine pv_iload_n C d_M_unit_13 rfl 2 rfl ?_
    refine pv_iconst (v := 0) C d_M_unit_14 (by decide) ?_
    refine pv_bipush (v := 7) C d_M_unit_15 (by decide) ?_
    refine pv_callS (n := 3) (As := [.int w, .int 0, .int 7]) (rest := [.ref mo]) C (c_M_in hl0 G z w 0 7) cd_M_in ml_M_90 in_M sm_M_in (by decide +kernel) (by decide) rfl (Nat.le_of_ble_eq_true rfl) rfl d_M_unit_17 (by decide) hN R0 (fun _ h => h.elim) (fun v9 LP9 f9 h9 => ?_)
    obtain ⟨rfl, rfl, rfl⟩ := h9
    refine pv_st (st2 := [.int (bN (inB w 0 7)), .ref mo]) (c2 := 0) (s2 := 0) rfl rfl rfl ?_
    refine pv_ifb_ne (tgt := 27) C d_M_unit_20 (by decide) (fun h2 => ?_) (fun h2 => ?_)
    · refine pv_iconst (v := 0) C d_M_unit_27 (by decide) ?_
      refine pm_put C G 0 (by decide) fl_M_83 rfl rfl rfl (by decide) rfl d_M_unit_28 ?_
      refine pv_aload_n C d_M_unit_31 rfl 0 rfl ?_
      refine pm_get (v := .int 0) C G 0 (by decide) fl_M_83 rfl rfl d_M_unit_32 ?_
      refine pv_if_le (tgt := 40) C d_M_unit_35 (by decide) (fun _ => ?_) (fun q => absurd q (by decide))
      refine pv_iload_n C d_M_unit_40 rfl 2 rfl ?_
      refine pv_if_ne (tgt := 51) C d_M_unit_41 (by decide) (fun h3 => ?_) (fun h3 => ?_)
      · refine pv_iload_n C d_M_unit_51 rfl 2 rfl ?_
        refine pv_iconst (v := 1) C d_M_unit_52 (by decide) ?_
        refine pv_icmp_ne (tgt := 65) C d_M_unit_53 (by decide) (fun h4 => ?_) (fun h4 => ?_)
        · refine pv_iload_n C d_M_unit_65 rfl 2 rfl ?_
          refine pv_iconst (v := 2) C d_M_unit_66 (by decide) ?_
          refine pv_icmp_ne (tgt := 79) C d_M_unit_67 (by decide) (fun h5 => ?_) (fun h5 => ?_)
          · refine pv_iload_n C d_M_unit_79 rfl 2 rfl ?_
            refine pv_iconst (v := 3) C d_M_unit_80 (by decide) ?_
            refine pv_icmp_ne (tgt := 91) C d_M_unit_81 (by decide) (fun h6 => ?_) (fun h6 => ?_)
            · refine pv_iload_n C d_M_unit_91 rfl 2 rfl ?_
              refine pv_iconst (v := 4) C d_M_unit_92 (by decide) ?_
              refine pv_icmp_ne (tgt := 103) C d_M_unit_93 (by decide) (fun h7 => ?_) (fun h7 => ?_)
              · refine pv_iload_n C d_M_unit_103 rfl 2 rfl ?_
                refine pv_iconst (v := 5) C d_M_unit_104 (by decide) ?_
                refine pv_icmp_ne (tgt := 117) C d_M_unit_105 (by decide) (fun h8 => ?_) (fun h8 => ?_)
                · refine pv_iload_n C d_M_unit_117 rfl 2 rfl ?_
                  refine pv_bipush (v := 6) C d_M_unit_118 (by decide) ?_
                  refine pv_icmp_ne (tgt := 132) C d_M_unit_120 (by decide) (fun h9 => ?_) (fun h9 => ?_)
                  · refine pv_aload_n C d_M_unit_132 rfl 0 rfl ?_
                    refine pm_get (v := .ref (ad 25)) C G 25 (by decide) fl_M_74 rfl rfl d_M_unit_133 ?_
                    refine pv_iload_n C d_M_unit_136 rfl 1 rfl ?_
                    refine pm_ald C G 25 (by decide) rfl (j := (ix u)) hU.1 (show (ix u) < 121 by omega) d_M_unit_137 ?_
                    refine pv_top (y := (z 25 (ix u))) (zs_k _ _ (by decide)) ?_
                    exact pv_iret C R0 d_M_unit_138 (by decide) (by decide) (mP_i (by unfold m_unit; rw [if_pos h1, if_pos h2, if_neg h3, if_neg h4, if_neg h5, if_neg h6, if_neg h7, if_neg h8, if_neg h9]))
                  · refine pv_aload_n C d_M_unit_123 rfl 0 rfl ?_
                    refine pm_get (v := .ref (ad 24)) C G 24 (by decide) fl_M_71 rfl rfl d_M_unit_124 ?_
                    refine pv_iload_n C d_M_unit_127 rfl 1 rfl ?_
                    refine pm_ald C G 24 (by decide) rfl (j := (ix u)) hU.1 (show (ix u) < 121 by omega) d_M_unit_128 ?_
                    refine pv_top (y := (z 24 (ix u))) (zs_k _ _ (by decide)) ?_
                    refine pv_goto (tgt := 138) C d_M_unit_129 (by decide) ?_
                    exact pv_iret C R0 d_M_unit_138 (by decide) (by decide) (mP_i (by unfold m_unit; rw [if_pos h1, if_pos h2, if_neg h3, if_neg h4, if_neg h5, if_neg h6, if_neg h7, if_neg h8, if_pos h9]))
                · refine pv_aload_n C d_M_unit_108 rfl 0 rfl ?_
                  refine pm_get (v := .ref (ad 23)) C G 23 (by decide) fl_M_68 rfl rfl d_M_unit_109 ?_
                  refine pv_iload_n C d_M_unit_112 rfl 1 rfl ?_
                  refine pm_ald C G 23 (by decide) rfl (j := (ix u)) hU.1 (show (ix u) < 121 by omega) d_M_unit_113 ?_
                  refine pv_top (y := (z 23 (ix u))) (zs_k _ _ (by decide)) ?_
                  refine pv_goto (tgt := 138) C d_M_unit_114 (by decide) ?_
                  exact pv_iret C R0 d_M_unit_138 (by decide) (by decide) (mP_i (by unfold m_unit; rw [if_pos h1, if_pos h2, if_neg h3, if_neg h4, if_neg h5, if_neg h6, if_neg h7, if_pos h8]))
              · refine pv_aload_n C d_M_unit_96 rfl 0 rfl ?_
                refine pm_get (v := .ref (ad 22)) C G 22 (by decide) fl_M_65 rfl rfl d_M_unit_97 ?_
                refine pv_iload_n C d_M_unit_100 rfl 1 rfl ?_
                refine pm_ald C G 22 (by decide) rfl (j := (ix u)) hU.1 (show (ix u) < 121 by omega) d_M_unit_101 ?_
                refine pv_top (y := (z 22 (ix u))) (zs_k _ _ (by decide)) ?_
                exact pv_iret C R0 d_M_unit_102 (by decide) (by decide) (mP_i (by unfold m_unit; rw [if_pos h1, if_pos h2, if_neg h3, if_neg h4, if_neg h5, if_neg h6, if_pos h7]))
            · refine pv_aload_n C d_M_unit_84 rfl 0 rfl ?_
              refine pm_get (v := .ref (ad 21)) C G 21 (by decide) fl_M_62 rfl rfl d_M_unit_85 ?_
              refine pv_iload_n C d_M_unit_88 rfl 1 rfl ?_
              refine pm_ald C G 21 (by decide) rfl (j := (ix u)) hU.1 (show (ix u) < 121 by omega) d_M_unit_89 ?_
              refine pv_top (y := (z 21 (ix u))) (zs_k _ _ (by decide)) ?_
              exact pv_iret C R0 d_M_unit_90 (by decide) (by decide) (mP_i (by unfold m_unit; rw [if_pos h1, if_pos h2, if_neg h3, if_neg h4, if_neg h5, if_pos h6]))
          · refine pv_aload_n C d_M_unit_70 rfl 0 rfl ?_
            refine pm_get (v := .ref (ad 19)) C G 19 (by decide) fl_M_56 rfl rfl d_M_unit_71 ?_
            refine pv_iload_n C d_M_unit_74 rfl 1 rfl ?_
            refine pm_ald C G 19 (by decide) rfl (j := (ix u)) hU.1 (show (ix u) < 121 by omega) d_M_unit_75 ?_
            refine pv_top (y := (z 19 (ix u))) (zs_k _ _ (by decide)) ?_
            refine pv_iconst (v := 4) C d_M_unit_76 (by decide) ?_
            refine pv_irem C d_M_unit_77 (by decide) ?_
            exact pv_iret C R0 d_M_unit_78 (by decide) (by decide) (mP_i (by unfold m_unit; rw [if_pos h1, if_pos h2, if_neg h3, if_neg h4, if_pos h5]))
        · refine pv_aload_n C d_M_unit_56 rfl 0 rfl ?_
          refine pm_get (v := .ref (ad 19)) C G 19 (by decide) fl_M_56 rfl rfl d_M_unit_57 ?_
          refine pv_iload_n C d_M_unit_60 rfl 1 rfl ?_
          refine pm_ald C G 19 (by decide) rfl (j := (ix u)) hU.1 (show (ix u) < 121 by omega) d_M_unit_61 ?_
          refine pv_top (y := (z 19 (ix u))) (zs_k _ _ (by decide)) ?_
          refine pv_iconst (v := 4) C d_M_unit_62 (by decide) ?_
          refine pv_idiv C d_M_unit_63 (by decide) ?_
          exact pv_iret C R0 d_M_unit_64 (by decide) (by decide) (mP_i (by unfold m_unit; rw [if_pos h1, if_pos h2, if_neg h3, if_pos h4]))
      · refine pv_aload_n C d_M_unit_44 rfl 0 rfl ?_
        refine pm_get (v := .ref (ad 20)) C G 20 (by decide) fl_M_59 rfl rfl d_M_unit_45 ?_
        refine pv_iload_n C d_M_unit_48 rfl 1 rfl ?_
        refine pm_ald C G 20 (by decide) rfl (j := (ix u)) hU.1 (show (ix u) < 121 by omega) d_M_unit_49 ?_
        refine pv_top (y := (z 20 (ix u))) (zs_k _ _ (by decide)) ?_
        exact pv_iret C R0 d_M_unit_50 (by decide) (by decide) (mP_i (by unfold m_unit; rw [if_pos h1, if_pos h2, if_pos h3]))
    · refine pv_iconst (v := 2) C d_M_unit_23 (by decide) ?_
      refine pv_goto (tgt := 28) C d_M_unit_24 (by decide) ?_
      refine pm_put C G 0 (by decide) fl_M_83 rfl rfl rfl (by decide) rfl d_M_unit_28 ?_
      refine pv_aload_n C d_M_unit_31 rfl 0 rfl ?_
      refine pm_get (v := .int 2) C G 0 (by decide) fl_M_83 rfl rfl d_M_unit_32 ?_
      refine pv_if_le (tgt := 40) C d_M_unit_35 (by decide) (fun q => absurd q (by decide)) (fun _ => ?_)
      refine pv_iconst (v := 0) C d_M_unit_38 (by decide) ?_
      exact pv_iret C R0 d_M_unit_39 (by decide) (by decide) (mP_i (by unfold m_unit; rw [if_pos h1, if_neg (nT h2)]))
  · refine pv_iconst (v := 1) C d_M_unit_9 (by decide) ?_
    refine pv_goto (tgt := 28) C d_M_unit_10 (by decide) ?_
    refine pm_put C G 0 (by decide) fl_M_83 rfl rfl rfl (by decide) rfl d_M_unit_28 ?_
    refine pv_aload_n C d_M_unit_31 rfl 0 rfl ?_
    refine pm_get (v := .int 1) C G 0 (by decide) fl_M_83 rfl rfl d_M_unit_32 ?_
    refine pv_if_le (tgt := 40) C d_M_unit_35 (by decide) (fun q => absurd q (by decide)) (fun _ => ?_)
    refine pv_iconst (v := 0) C d_M_unit_38 (by decide) ?_
    exact pv_iret C R0 d_M_unit_39 (by decide) (by decide) (mP_i (by unfold m_unit; rw [if_neg (nT h1)]))
abbrev rm_M_told : Room := { frames := 3, cells := 0, slots := 0, locals := 65 }
def m_told (z : zT) (a : Int32) (n : Int32) (w : Int32) : Int32 × zT :=
  (if (isL z a n) = true then (if (inB w 0 6) = true then (if w = 0 then ((z 9 (4 * ix a + ix n)), (zs z 0 0 0)) else (if w = 1 then ((z 10 (4 * ix a + ix n)), (zs z 0 0 0)) else (if w = 2 then ((z 12 (4 * ix a + ix n)), (zs z 0 0 0)) else (if w = 3 then (if (z 16 (4 * ix a + ix n)) = 0 then (0, (zs z 0 0 0)) else (1, (zs z 0 0 0))) else (if w = 4 then ((m_open z (4 * ix a + ix n)), (zs z 0 0 0)) else (if w = 5 then (if (z 15 (4 * ix a + ix n)) = 0 then (0, (zs z 0 0 0)) else (1, (zs z 0 0 0))) else ((z 10 (4 * ix a + ix n) + z 10 (4 * ix a + ix n) * z 11 (4 * ix a + ix n) / 100), (zs z 0 0 0)))))))) else (0, (zs z 0 0 2))) else (0, (zs z 0 0 1)))
set_option maxRecDepth 100000 in
set_option maxHeartbeats 4000000 in
theorem c_M_told {l0 : Launch} {D : va_G} {γ : Nat → ClassId} (hl0 : l0.stackTraces = false) {LP : List Nat} {f0 : Nat → va_E} {mo : Nat} {ad : Nat → Nat} (G : mm_H mo ad LP) (z : zT) (a : Int32) (n : Int32) (w : Int32) (hz : zI z) : mM l0 D γ y_M_told (Cond.code y_M_told b_M_told 5 (Option.some FieldType.int)) rm_M_told [.ref mo, .int a, .int n, .int w] LP f0 mo ad z (some (.int (m_told z a n w).1)) (m_told z a n w).2 := by
  refine pv_mk hl0 (by decide) (Nat.le_of_ble_eq_true rfl) (fun κ C R0 hN _ => ?_)
  show pv_V D κ 0 0 LP (mm_f γ f0 mo ad z) 0 [(0, .ref mo), (1, .int a), (2, .int n), (3, .int w)] []
  refine pv_aload_n C d_M_told_0 rfl 0 rfl ?_
  refine pv_aload_n C d_M_told_1 rfl 0 rfl ?_
  refine pv_iload_n C d_M_told_2 rfl 1 rfl ?_
  refine pv_iload_n C d_M_told_3 rfl 2 rfl ?_
  refine pv_callV (n := 2) (As := [.int a, .int n]) (rest := [.ref mo]) C (c_M_isLine hl0 G z a n hz) cd_M_isLine ml_M_107 in_M im_M_isLine se_M_isLine G.1 mm_obj rfl rfl (by decide +kernel) (by decide) rfl (Nat.le_of_ble_eq_true rfl) rfl d_M_told_4 (by decide) hN R0 (fun _ h => h.elim) (fun v9 LP9 f9 h9 => ?_)
  obtain ⟨rfl, rfl, rfl⟩ := h9
  refine pv_st (st2 := [.int (bN (isL z a n)), .ref mo]) (c2 := 0) (s2 := 0) rfl rfl rfl ?_
  refine pv_ifb_ne (tgt := 14) C d_M_told_7 (by decide) (fun h1 => ?_) (fun h1 => ?_)
  · have hL := isL_ix hz h1
    refine pv_iload_n C d_M_told_14 rfl 3 rfl ?_
    refine pv_iconst (v := 0) C d_M_told_15 (by decide) ?_
    refine pv_bipush (v := 6) C d_M_told_16 (by decide) ?_
    refine pv_callS (n := 3) (As := [.int w, .int 0, .int 6]) (rest := [.ref mo]) C (c_M_in hl0 G z w 0 6) cd_M_in ml_M_90 in_M sm_M_in (by decide +kernel) (by decide) rfl (Nat.le_of_ble_eq_true rfl) rfl d_M_told_18 (by decide) hN R0 (fun _ h => h.elim) (fun v9 LP9 f9 h9 => ?_)
    obtain ⟨rfl, rfl, rfl⟩ := h9
    refine pv_st (st2 := [.int (bN (inB w 0 6)), .ref mo]) (c2 := 0) (s2 := 0) rfl rfl rfl ?_
    refine pv_ifb_ne (tgt := 28) C d_M_told_21 (by decide) (fun h2 => ?_) (fun h2 => ?_)
    · refine pv_iconst (v := 0) C d_M_told_28 (by decide) ?_
      refine pm_put C G 0 (by decide) fl_M_83 rfl rfl rfl (by decide) rfl d_M_told_29 ?_
      refine pv_aload_n C d_M_told_32 rfl 0 rfl ?_
      refine pm_get (v := .int 0) C G 0 (by decide) fl_M_83 rfl rfl d_M_told_33 ?_
      refine pv_if_le (tgt := 41) C d_M_told_36 (by decide) (fun _ => ?_) (fun q => absurd q (by decide))
      refine pv_iconst (v := 4) C d_M_told_41 (by decide) ?_
      refine pv_iload_n C d_M_told_42 rfl 1 rfl ?_
      refine pv_imul C d_M_told_43 ?_
      refine pv_iload_n C d_M_told_44 rfl 2 rfl ?_
      refine pv_iadd C d_M_told_45 ?_
      refine pv_istore (lv' := [(4, .int ((4 * a) + n)), (0, .ref mo), (1, .int a), (2, .int n), (3, .int w)]) C d_M_told_46 (by decide) rfl ?_
      refine pv_iload_n C d_M_told_48 rfl 4 rfl ?_
      refine pv_if_ne (tgt := 60) C d_M_told_49 (by decide) (fun h3 => ?_) (fun h3 => ?_)
      · refine pv_iload_n C d_M_told_60 rfl 4 rfl ?_
        refine pv_iconst (v := 1) C d_M_told_61 (by decide) ?_
        refine pv_icmp_ne (tgt := 73) C d_M_told_62 (by decide) (fun h4 => ?_) (fun h4 => ?_)
        · refine pv_iload_n C d_M_told_73 rfl 4 rfl ?_
          refine pv_iconst (v := 2) C d_M_told_74 (by decide) ?_
          refine pv_icmp_ne (tgt := 86) C d_M_told_75 (by decide) (fun h5 => ?_) (fun h5 => ?_)
          · refine pv_iload_n C d_M_told_86 rfl 4 rfl ?_
            refine pv_iconst (v := 3) C d_M_told_87 (by decide) ?_
            refine pv_icmp_ne (tgt := 107) C d_M_told_88 (by decide) (fun h6 => ?_) (fun h6 => ?_)
            · refine pv_iload_n C d_M_told_107 rfl 4 rfl ?_
              refine pv_iconst (v := 4) C d_M_told_108 (by decide) ?_
              refine pv_icmp_ne (tgt := 119) C d_M_told_109 (by decide) (fun h7 => ?_) (fun h7 => ?_)
              · refine pv_iload_n C d_M_told_119 rfl 4 rfl ?_
                refine pv_iconst (v := 5) C d_M_told_120 (by decide) ?_
                refine pv_icmp_ne (tgt := 142) C d_M_told_121 (by decide) (fun h8 => ?_) (fun h8 => ?_)
                · refine pv_aload_n C d_M_told_142 rfl 1 rfl ?_
                  refine pv_iload C d_M_told_143 0 rfl ?_
                  refine pv_callV (n := 1) (As := [.int ((4 * a) + n)]) (rest := []) C (c_M_takes hl0 G (zs z 0 0 0) ((4 * a) + n) (4 * ix a + ix n) (by omega) (ln_ix hL.1.1 hL.2.1)) cd_M_takes ml_M_111 in_M im_M_takes se_M_takes G.1 mm_obj rfl rfl (by decide +kernel) (by decide) rfl (Nat.le_of_ble_eq_true rfl) rfl d_M_told_145 (by decide) hN R0 (fun _ h => h.elim) (fun v9 LP9 f9 h9 => ?_)
                  obtain ⟨rfl, rfl, rfl⟩ := h9
                  refine pv_st (st2 := [.int (z 10 (4 * ix a + ix n) + z 10 (4 * ix a + ix n) * z 11 (4 * ix a + ix n) / 100)]) (c2 := 0) (s2 := 0) rfl rfl rfl ?_
                  exact pv_iret C R0 d_M_told_148 (by decide) (by decide) (mP_i (by unfold m_told; rw [if_pos h1, if_pos h2, if_neg h3, if_neg h4, if_neg h5, if_neg h6, if_neg h7, if_neg h8]))
                · refine pv_aload_n C d_M_told_124 rfl 1 rfl ?_
                  refine pm_get (v := .ref (ad 15)) C G 15 (by decide) fl_M_47 rfl rfl d_M_told_125 ?_
                  refine pv_iload C d_M_told_128 0 rfl ?_
                  refine pm_zld C G 15 (by decide) rfl (j := (4 * ix a + ix n)) (ln_ix hL.1.1 hL.2.1) (show (4 * ix a + ix n) < 68 by omega) d_M_told_130 ?_
                  refine pv_top (y := (z 15 (4 * ix a + ix n))) (zs_k _ _ (by decide)) ?_
                  refine pv_if_eq (tgt := 138) C d_M_told_131 (by decide) (fun h9 => ?_) (fun h9 => ?_)
                  · refine pv_iconst (v := 0) C d_M_told_138 (by decide) ?_
                    refine pv_goto (tgt := 148) C d_M_told_139 (by decide) ?_
                    exact pv_iret C R0 d_M_told_148 (by decide) (by decide) (mP_i (by unfold m_told; rw [if_pos h1, if_pos h2, if_neg h3, if_neg h4, if_neg h5, if_neg h6, if_neg h7, if_pos h8, if_pos h9]))
                  · refine pv_iconst (v := 1) C d_M_told_134 (by decide) ?_
                    refine pv_goto (tgt := 148) C d_M_told_135 (by decide) ?_
                    exact pv_iret C R0 d_M_told_148 (by decide) (by decide) (mP_i (by unfold m_told; rw [if_pos h1, if_pos h2, if_neg h3, if_neg h4, if_neg h5, if_neg h6, if_neg h7, if_pos h8, if_neg h9]))
              · refine pv_aload_n C d_M_told_112 rfl 1 rfl ?_
                refine pv_iload C d_M_told_113 0 rfl ?_
                refine pv_callV (n := 1) (As := [.int ((4 * a) + n)]) (rest := []) C (c_M_openSamples hl0 G (zs z 0 0 0) ((4 * a) + n) (4 * ix a + ix n) (by omega) (ln_ix hL.1.1 hL.2.1)) cd_M_openSamples ml_M_118 in_M im_M_openSamples se_M_openSamples G.1 mm_obj rfl rfl (by decide +kernel) (by decide) rfl (Nat.le_of_ble_eq_true rfl) rfl d_M_told_115 (by decide) hN R0 (fun _ h => h.elim) (fun v9 LP9 f9 h9 => ?_)
                obtain ⟨rfl, rfl, rfl⟩ := h9
                refine pv_st (st2 := [.int (m_open z (4 * ix a + ix n))]) (c2 := 0) (s2 := 0) rfl rfl rfl ?_
                exact pv_iret C R0 d_M_told_118 (by decide) (by decide) (mP_i (by unfold m_told; rw [if_pos h1, if_pos h2, if_neg h3, if_neg h4, if_neg h5, if_neg h6, if_pos h7]))
            · refine pv_aload_n C d_M_told_91 rfl 1 rfl ?_
              refine pm_get (v := .ref (ad 16)) C G 16 (by decide) fl_M_50 rfl rfl d_M_told_92 ?_
              refine pv_iload C d_M_told_95 0 rfl ?_
              refine pm_zld C G 16 (by decide) rfl (j := (4 * ix a + ix n)) (ln_ix hL.1.1 hL.2.1) (show (4 * ix a + ix n) < 68 by omega) d_M_told_97 ?_
              refine pv_top (y := (z 16 (4 * ix a + ix n))) (zs_k _ _ (by decide)) ?_
              refine pv_if_eq (tgt := 105) C d_M_told_98 (by decide) (fun h10 => ?_) (fun h10 => ?_)
              · refine pv_iconst (v := 0) C d_M_told_105 (by decide) ?_
                exact pv_iret C R0 d_M_told_106 (by decide) (by decide) (mP_i (by unfold m_told; rw [if_pos h1, if_pos h2, if_neg h3, if_neg h4, if_neg h5, if_pos h6, if_pos h10]))
              · refine pv_iconst (v := 1) C d_M_told_101 (by decide) ?_
                refine pv_goto (tgt := 106) C d_M_told_102 (by decide) ?_
                exact pv_iret C R0 d_M_told_106 (by decide) (by decide) (mP_i (by unfold m_told; rw [if_pos h1, if_pos h2, if_neg h3, if_neg h4, if_neg h5, if_pos h6, if_neg h10]))
          · refine pv_aload_n C d_M_told_78 rfl 1 rfl ?_
            refine pm_get (v := .ref (ad 12)) C G 12 (by decide) fl_M_38 rfl rfl d_M_told_79 ?_
            refine pv_iload C d_M_told_82 0 rfl ?_
            refine pm_ald C G 12 (by decide) rfl (j := (4 * ix a + ix n)) (ln_ix hL.1.1 hL.2.1) (show (4 * ix a + ix n) < 68 by omega) d_M_told_84 ?_
            refine pv_top (y := (z 12 (4 * ix a + ix n))) (zs_k _ _ (by decide)) ?_
            exact pv_iret C R0 d_M_told_85 (by decide) (by decide) (mP_i (by unfold m_told; rw [if_pos h1, if_pos h2, if_neg h3, if_neg h4, if_pos h5]))
        · refine pv_aload_n C d_M_told_65 rfl 1 rfl ?_
          refine pm_get (v := .ref (ad 10)) C G 10 (by decide) fl_M_32 rfl rfl d_M_told_66 ?_
          refine pv_iload C d_M_told_69 0 rfl ?_
          refine pm_ald C G 10 (by decide) rfl (j := (4 * ix a + ix n)) (ln_ix hL.1.1 hL.2.1) (show (4 * ix a + ix n) < 68 by omega) d_M_told_71 ?_
          refine pv_top (y := (z 10 (4 * ix a + ix n))) (zs_k _ _ (by decide)) ?_
          exact pv_iret C R0 d_M_told_72 (by decide) (by decide) (mP_i (by unfold m_told; rw [if_pos h1, if_pos h2, if_neg h3, if_pos h4]))
      · refine pv_aload_n C d_M_told_52 rfl 1 rfl ?_
        refine pm_get (v := .ref (ad 9)) C G 9 (by decide) fl_M_29 rfl rfl d_M_told_53 ?_
        refine pv_iload C d_M_told_56 0 rfl ?_
        refine pm_ald C G 9 (by decide) rfl (j := (4 * ix a + ix n)) (ln_ix hL.1.1 hL.2.1) (show (4 * ix a + ix n) < 68 by omega) d_M_told_58 ?_
        refine pv_top (y := (z 9 (4 * ix a + ix n))) (zs_k _ _ (by decide)) ?_
        exact pv_iret C R0 d_M_told_59 (by decide) (by decide) (mP_i (by unfold m_told; rw [if_pos h1, if_pos h2, if_pos h3]))
    · refine pv_iconst (v := 2) C d_M_told_24 (by decide) ?_
      refine pv_goto (tgt := 29) C d_M_told_25 (by decide) ?_
      refine pm_put C G 0 (by decide) fl_M_83 rfl rfl rfl (by decide) rfl d_M_told_29 ?_
      refine pv_aload_n C d_M_told_32 rfl 0 rfl ?_
      refine pm_get (v := .int 2) C G 0 (by decide) fl_M_83 rfl rfl d_M_told_33 ?_
      refine pv_if_le (tgt := 41) C d_M_told_36 (by decide) (fun q => absurd q (by decide)) (fun _ => ?_)
      refine pv_iconst (v := 0) C d_M_told_39 (by decide) ?_
      exact pv_iret C R0 d_M_told_40 (by decide) (by decide) (mP_i (by unfold m_told; rw [if_pos h1, if_neg (nT h2)]))
  · refine pv_iconst (v := 1) C d_M_told_10 (by decide) ?_
    refine pv_goto (tgt := 29) C d_M_told_11 (by decide) ?_
    refine pm_put C G 0 (by decide) fl_M_83 rfl rfl rfl (by decide) rfl d_M_told_29 ?_
    refine pv_aload_n C d_M_told_32 rfl 0 rfl ?_
    refine pm_get (v := .int 1) C G 0 (by decide) fl_M_83 rfl rfl d_M_told_33 ?_
    refine pv_if_le (tgt := 41) C d_M_told_36 (by decide) (fun q => absurd q (by decide)) (fun _ => ?_)
    refine pv_iconst (v := 0) C d_M_told_39 (by decide) ?_
    exact pv_iret C R0 d_M_told_40 (by decide) (by decide) (mP_i (by unfold m_told; rw [if_neg (nT h1)]))
abbrev rm_M_differ : Room := { frames := 1, cells := 0, slots := 0, locals := 22 }
def m_differ (z : zT) (i : Int32) (w : Int32) : Int32 × zT :=
  (if (inB i 0 ((z 29 0) - 1)) = true then (if (inB w 0 2) = true then (if w = 0 then (((z 30 (ix i)) / 4), (zs z 0 0 0)) else (if w = 1 then (((z 30 (ix i)) - (z 30 (ix i)) / 4 * 4), (zs z 0 0 0)) else (((z 12 (ix (z 30 (ix i)))) - (z 10 (ix (z 30 (ix i))))), (zs z 0 0 0)))) else (0, (zs z 0 0 2))) else (0, (zs z 0 0 1)))
set_option maxRecDepth 100000 in
set_option maxHeartbeats 4000000 in
theorem c_M_differ {l0 : Launch} {D : va_G} {γ : Nat → ClassId} (hl0 : l0.stackTraces = false) {LP : List Nat} {f0 : Nat → va_E} {mo : Nat} {ad : Nat → Nat} (G : mm_H mo ad LP) (z : zT) (i : Int32) (w : Int32) (hz : zI z) : mM l0 D γ y_M_differ (Cond.code y_M_differ b_M_differ 4 (Option.some FieldType.int)) rm_M_differ [.ref mo, .int i, .int w] LP f0 mo ad z (some (.int (m_differ z i w).1)) (m_differ z i w).2 := by
  refine pv_mk hl0 (by decide) (Nat.le_of_ble_eq_true rfl) (fun κ C R0 hN _ => ?_)
  show pv_V D κ 0 0 LP (mm_f γ f0 mo ad z) 0 [(0, .ref mo), (1, .int i), (2, .int w)] []
  refine pv_aload_n C d_M_differ_0 rfl 0 rfl ?_
  refine pv_iload_n C d_M_differ_1 rfl 1 rfl ?_
  refine pv_iconst (v := 0) C d_M_differ_2 (by decide) ?_
  refine pv_aload_n C d_M_differ_3 rfl 0 rfl ?_
  refine pm_get (v := .int (z 29 0)) C G 29 (by decide) fl_M_141 rfl rfl d_M_differ_4 ?_
  refine pv_iconst (v := 1) C d_M_differ_7 (by decide) ?_
  refine pv_isub C d_M_differ_8 ?_
  refine pv_callS (n := 3) (As := [.int i, .int 0, .int ((z 29 0) - 1)]) (rest := [.ref mo]) C (c_M_in hl0 G z i 0 ((z 29 0) - 1)) cd_M_in ml_M_90 in_M sm_M_in (by decide +kernel) (by decide) rfl (Nat.le_of_ble_eq_true rfl) rfl d_M_differ_9 (by decide) hN R0 (fun _ h => h.elim) (fun v9 LP9 f9 h9 => ?_)
  obtain ⟨rfl, rfl, rfl⟩ := h9
  refine pv_st (st2 := [.int (bN (inB i 0 ((z 29 0) - 1))), .ref mo]) (c2 := 0) (s2 := 0) rfl rfl rfl ?_
  refine pv_ifb_ne (tgt := 19) C d_M_differ_12 (by decide) (fun h1 => ?_) (fun h1 => ?_)
  · refine pv_iload_n C d_M_differ_19 rfl 2 rfl ?_
    refine pv_iconst (v := 0) C d_M_differ_20 (by decide) ?_
    refine pv_iconst (v := 2) C d_M_differ_21 (by decide) ?_
    refine pv_callS (n := 3) (As := [.int w, .int 0, .int 2]) (rest := [.ref mo]) C (c_M_in hl0 G z w 0 2) cd_M_in ml_M_90 in_M sm_M_in (by decide +kernel) (by decide) rfl (Nat.le_of_ble_eq_true rfl) rfl d_M_differ_22 (by decide) hN R0 (fun _ h => h.elim) (fun v9 LP9 f9 h9 => ?_)
    obtain ⟨rfl, rfl, rfl⟩ := h9
    refine pv_st (st2 := [.int (bN (inB w 0 2)), .ref mo]) (c2 := 0) (s2 := 0) rfl rfl rfl ?_
    refine pv_ifb_ne (tgt := 32) C d_M_differ_25 (by decide) (fun h2 => ?_) (fun h2 => ?_)
    · refine pv_iconst (v := 0) C d_M_differ_32 (by decide) ?_
      refine pm_put C G 0 (by decide) fl_M_83 rfl rfl rfl (by decide) rfl d_M_differ_33 ?_
      refine pv_aload_n C d_M_differ_36 rfl 0 rfl ?_
      refine pm_get (v := .int 0) C G 0 (by decide) fl_M_83 rfl rfl d_M_differ_37 ?_
      refine pv_if_le (tgt := 45) C d_M_differ_40 (by decide) (fun _ => ?_) (fun q => absurd q (by decide))
      have hI := df_ix hz h1
      have hJ := hz.2.2.2.2.2 (ix i) hI.2
      have hDD := hz.2.2.1.2
      refine pv_aload_n C d_M_differ_45 rfl 0 rfl ?_
      refine pm_get (v := .ref (ad 30)) C G 30 (by decide) fl_M_80 rfl rfl d_M_differ_46 ?_
      refine pv_iload_n C d_M_differ_49 rfl 1 rfl ?_
      refine pm_ald C G 30 (by decide) rfl (j := (ix i)) hI.1 (show (ix i) < 64 by omega) d_M_differ_50 ?_
      refine pv_top (y := (z 30 (ix i))) (zs_k _ _ (by decide)) ?_
      refine pv_istore_n (lv' := [(3, .int (z 30 (ix i))), (0, .ref mo), (1, .int i), (2, .int w)]) C d_M_differ_51 rfl (by decide) rfl ?_
      refine pv_iload_n C d_M_differ_52 rfl 3 rfl ?_
      refine pv_if_ne (tgt := 62) C d_M_differ_53 (by decide) (fun h3 => ?_) (fun h3 => ?_)
      · refine pv_iload_n C d_M_differ_62 rfl 3 rfl ?_
        refine pv_iconst (v := 1) C d_M_differ_63 (by decide) ?_
        refine pv_icmp_ne (tgt := 73) C d_M_differ_64 (by decide) (fun h4 => ?_) (fun h4 => ?_)
        · refine pv_aload_n C d_M_differ_73 rfl 1 rfl ?_
          refine pm_get (v := .ref (ad 12)) C G 12 (by decide) fl_M_38 rfl rfl d_M_differ_74 ?_
          refine pv_iload_n C d_M_differ_77 rfl 0 rfl ?_
          refine pm_ald C G 12 (by decide) rfl (j := (ix (z 30 (ix i)))) hJ.1 (show (ix (z 30 (ix i))) < 68 by omega) d_M_differ_78 ?_
          refine pv_top (y := (z 12 (ix (z 30 (ix i))))) (zs_k _ _ (by decide)) ?_
          refine pv_aload_n C d_M_differ_79 rfl 1 rfl ?_
          refine pm_get (v := .ref (ad 10)) C G 10 (by decide) fl_M_32 rfl rfl d_M_differ_80 ?_
          refine pv_iload_n C d_M_differ_83 rfl 0 rfl ?_
          refine pm_ald C G 10 (by decide) rfl (j := (ix (z 30 (ix i)))) hJ.1 (show (ix (z 30 (ix i))) < 68 by omega) d_M_differ_84 ?_
          refine pv_top (y := (z 10 (ix (z 30 (ix i))))) (zs_k _ _ (by decide)) ?_
          refine pv_isub C d_M_differ_85 ?_
          exact pv_iret C R0 d_M_differ_86 (by decide) (by decide) (mP_i (by unfold m_differ; rw [if_pos h1, if_pos h2, if_neg h3, if_neg h4]))
        · refine pv_iload_n C d_M_differ_67 rfl 0 rfl ?_
          refine pv_iconst (v := 4) C d_M_differ_68 (by decide) ?_
          refine pv_irem C d_M_differ_69 (by decide) ?_
          refine pv_goto (tgt := 86) C d_M_differ_70 (by decide) ?_
          exact pv_iret C R0 d_M_differ_86 (by decide) (by decide) (mP_i (by unfold m_differ; rw [if_pos h1, if_pos h2, if_neg h3, if_pos h4]))
      · refine pv_iload_n C d_M_differ_56 rfl 0 rfl ?_
        refine pv_iconst (v := 4) C d_M_differ_57 (by decide) ?_
        refine pv_idiv C d_M_differ_58 (by decide) ?_
        refine pv_goto (tgt := 86) C d_M_differ_59 (by decide) ?_
        exact pv_iret C R0 d_M_differ_86 (by decide) (by decide) (mP_i (by unfold m_differ; rw [if_pos h1, if_pos h2, if_pos h3]))
    · refine pv_iconst (v := 2) C d_M_differ_28 (by decide) ?_
      refine pv_goto (tgt := 33) C d_M_differ_29 (by decide) ?_
      refine pm_put C G 0 (by decide) fl_M_83 rfl rfl rfl (by decide) rfl d_M_differ_33 ?_
      refine pv_aload_n C d_M_differ_36 rfl 0 rfl ?_
      refine pm_get (v := .int 2) C G 0 (by decide) fl_M_83 rfl rfl d_M_differ_37 ?_
      refine pv_if_le (tgt := 45) C d_M_differ_40 (by decide) (fun q => absurd q (by decide)) (fun _ => ?_)
      refine pv_iconst (v := 0) C d_M_differ_43 (by decide) ?_
      exact pv_iret C R0 d_M_differ_44 (by decide) (by decide) (mP_i (by unfold m_differ; rw [if_pos h1, if_neg (nT h2)]))
  · refine pv_iconst (v := 1) C d_M_differ_15 (by decide) ?_
    refine pv_goto (tgt := 33) C d_M_differ_16 (by decide) ?_
    refine pm_put C G 0 (by decide) fl_M_83 rfl rfl rfl (by decide) rfl d_M_differ_33 ?_
    refine pv_aload_n C d_M_differ_36 rfl 0 rfl ?_
    refine pm_get (v := .int 1) C G 0 (by decide) fl_M_83 rfl rfl d_M_differ_37 ?_
    refine pv_if_le (tgt := 45) C d_M_differ_40 (by decide) (fun q => absurd q (by decide)) (fun _ => ?_)
    refine pv_iconst (v := 0) C d_M_differ_43 (by decide) ?_
    exact pv_iret C R0 d_M_differ_44 (by decide) (by decide) (mP_i (by unfold m_differ; rw [if_neg (nT h1)]))
