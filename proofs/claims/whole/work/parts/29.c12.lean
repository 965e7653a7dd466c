/-! contracts of the component: count, second half (by wip/whole/gen/c13.py) -/
theorem dt_ix {d : Int32} (h : d = nI (ix d)) (h2 : ix d ≤ 400) : d.toInt = (ix d : Int) := by
  have := nI_toInt (show ix d < 2 ^ 31 by omega)
  rw [← h] at this
  exact this
abbrev rm_S_count : Room := { frames := 8, cells := 13, slots := 94, locals := 136 }
set_option maxRecDepth 100000 in
set_option maxHeartbeats 4000000 in
theorem c_S_count {l0 : Launch} {D : va_G} {γ : Nat → ClassId} (hl0 : l0.stackTraces = false) {LP : List Nat} {ks : List kT} {ρ : kT → Nat} {z : zT} {x : xT} {f0 : Nat → va_E} (J : cI LP ks ρ z x) (a : Int32) (n : Int32) (d : Int32) (e : Int32) (p : Int32)  : pv_M l0 D (tys_ γ) y_S_count (Cond.code y_S_count b_S_count 9 (Option.some FieldType.int)) rm_S_count [.ref (ρ (0, 0)), .int a, .int n, .int d, .int e, .int p] LP (cF γ ks ρ z x f0) (cPost γ LP ks ρ f0 (some (.int (m_count z a n d e p).1)) (m_count z a n d e p).2) (cThr [eNS, eIA, eUO] z ((m_count z a n d e p).2)) := by
  refine pv_mk hl0 (by decide) (Nat.le_of_ble_eq_true rfl) (fun κ C R0 hN _ => ?_)
  obtain ⟨H, hV, hz, hJ⟩ := id J
  have M0 : ((0, 0) : kT) ∈ ks := (hV _).mpr (Nat.zero_le _)
  have M1 : ((0, 1) : kT) ∈ ks := (hV _).mpr (by decide : 1 ≤ 3)
  have M2 : ((0, 2) : kT) ∈ ks := (hV _).mpr (by decide : 2 ≤ 3)
  have M3 : ((0, 3) : kT) ∈ ks := (hV _).mpr (by decide : 3 ≤ 3)
  show pv_V D κ 0 0 LP (cF γ ks ρ z x f0) 0 [(0, .ref (ρ (0, 0))), (1, .int a), (2, .int n), (3, .int d), (4, .int e), (5, .int p)] []
  refine pv_aload_n C d_S_count_0 rfl 0 rfl ?_
  refine pv_iload_n C d_S_count_1 rfl 1 rfl ?_
  refine pv_iload_n C d_S_count_2 rfl 2 rfl ?_
  refine pv_callV (n := 2) (As := [.int a, .int n]) (rest := []) C (c_S_lineOf hl0 J a n) cd_S_lineOf ml_S_80 in_S im_S_lineOf se_S_lineOf (H.1 _ M0) ((kf_at H M0).trans rfl) rfl rfl (by decide +kernel) (by decide) rfl (Nat.le_of_ble_eq_true rfl) rfl d_S_count_3 (by decide) hN R0 (fun E h => ⟨by rw [h.1]; exact cT_any 0 1 rfl rfl (by unfold m_count; rw [if_neg (nT h.2)]; first | exact Or.inl rfl | exact Or.inr rfl), rfl, rfl⟩) (fun v9 LP9 f9 h9 => ?_)
  obtain ⟨⟨rfl, w9, w8⟩, h1⟩ := h9
  have w9 := w9.symm
  have w8 := w8.symm
  subst w9
  subst w8
  have hL := isL_ix hz h1
  have hvN : vK z (3, 4 * ix a + ix n) := vK_line hL.1.2.1 hL.1.2.2.1 hL.2.2.1 hL.2.2.2
  have MN : ((3, 4 * ix a + ix n) : kT) ∈ ks := (hV _).mpr hvN
  have hA := hL.1
  have h68 := vK_lt hz hvN
  have h4 : (4 * ix a + ix n) / 4 = ix a := by omega
  have MA : ((1, ix a) : kT) ∈ ks := (hV _).mpr ⟨hA.2.1, hA.2.2.1⟩
  have hln : 4 * a + n = nI (4 * ix a + ix n) := ln_ix hL.1.1 hL.2.1
  refine pv_stf (f2 := (kf ks ρ (cz γ ρ z x) f0)) (st2 := [.ref (ρ (3, 4 * ix a + ix n))]) (c2 := 2) (s2 := 12) rfl rfl rfl rfl ?_
  refine pv_astore (lv' := [(6, .ref (ρ (3, 4 * ix a + ix n))), (0, .ref (ρ (0, 0))), (1, .int a), (2, .int n), (3, .int d), (4, .int e), (5, .int p)]) C d_S_count_6 (by decide) rfl ?_
  refine pv_iload_n C d_S_count_8 rfl 4 rfl ?_
  refine pv_iconst (v := 1) C d_S_count_9 (by decide) ?_
  refine pv_sipush (v := 400) C d_S_count_10 (by decide) ?_
  refine pv_callS (n := 3) (As := [.int d, .int 1, .int 400]) (rest := []) C (c_S_mustBeWithin hl0 d 1 400) cd_S_mustBeWithin ml_S_27 in_S sm_S_mustBeWithin (by decide +kernel) (by decide) rfl (Nat.le_of_ble_eq_true rfl) rfl d_S_count_13 (by decide) hN R0 (fun E h => ⟨by rw [h.1]; exact cT_any 1 2 rfl rfl (by unfold m_count; rw [if_pos h1, if_neg (nT h.2)]; first | exact Or.inl rfl | exact Or.inr rfl), rfl, rfl⟩) (fun v9 LP9 f9 h9 => ?_)
  obtain ⟨⟨rfl, w9, w8⟩, h2⟩ := h9
  have w9 := w9.symm
  have w8 := w8.symm
  subst w9
  subst w8
  have hdx := inB_ix (a := 1) (b := 400) h2 rfl rfl (by decide) (by decide)
  refine pv_stf (f2 := (kf ks ρ (cz γ ρ z x) f0)) (st2 := []) (c2 := 3) (s2 := 18) rfl rfl rfl rfl ?_
  refine pv_iload C d_S_count_16 5 rfl ?_
  refine pv_iconst (v := 0) C d_S_count_18 (by decide) ?_
  refine pv_bipush (v := 99) C d_S_count_19 (by decide) ?_
  refine pv_callS (n := 3) (As := [.int e, .int 0, .int 99]) (rest := []) C (c_S_mustBeWithin hl0 e 0 99) cd_S_mustBeWithin ml_S_27 in_S sm_S_mustBeWithin (by decide +kernel) (by decide) rfl (Nat.le_of_ble_eq_true rfl) rfl d_S_count_21 (by decide) hN R0 (fun E h => ⟨by rw [h.1]; exact cT_any 1 2 rfl rfl (by unfold m_count; rw [if_pos h1, if_pos h2, if_neg (nT h.2)]; first | exact Or.inl rfl | exact Or.inr rfl), rfl, rfl⟩) (fun v9 LP9 f9 h9 => ?_)
  obtain ⟨⟨rfl, w9, w8⟩, h3⟩ := h9
  have w9 := w9.symm
  have w8 := w8.symm
  subst w9
  subst w8
  refine pv_stf (f2 := (kf ks ρ (cz γ ρ z x) f0)) (st2 := []) (c2 := 4) (s2 := 24) rfl rfl rfl rfl ?_
  refine pv_iload C d_S_count_24 6 rfl ?_
  refine pv_iconst (v := 0) C d_S_count_26 (by decide) ?_
  refine pv_bipush (v := 7) C d_S_count_27 (by decide) ?_
  refine pv_callS (n := 3) (As := [.int p, .int 0, .int 7]) (rest := []) C (c_S_mustBeWithin hl0 p 0 7) cd_S_mustBeWithin ml_S_27 in_S sm_S_mustBeWithin (by decide +kernel) (by decide) rfl (Nat.le_of_ble_eq_true rfl) rfl d_S_count_29 (by decide) hN R0 (fun E h => ⟨by rw [h.1]; exact cT_any 1 2 rfl rfl (by unfold m_count; rw [if_pos h1, if_pos h2, if_pos h3, if_neg (nT (show isP p = false from h.2))]; first | exact Or.inl rfl | exact Or.inr rfl), rfl, rfl⟩) (fun v9 LP9 f9 h9 => ?_)
  obtain ⟨⟨rfl, w9, w8⟩, h4⟩ := h9
  have w9 := w9.symm
  have w8 := w8.symm
  subst w9
  subst w8
  have hP0 : isP p = true := h4
  have hP := isP_ix hP0
  refine pv_stf (f2 := (kf ks ρ (cz γ ρ z x) f0)) (st2 := []) (c2 := 5) (s2 := 30) rfl rfl rfl rfl ?_
  refine pv_aload C d_S_count_32 0 rfl ?_
  refine pv_iload_n C d_S_count_34 rfl 4 rfl ?_
  refine pv_iload C d_S_count_35 6 rfl ?_
  refine pv_callS (n := 3) (As := [.ref (ρ (3, 4 * ix a + ix n)), .int d, .int p]) (rest := []) C (c_S_brokenByCounting hl0 J (4 * ix a + ix n) d p hvN hP0) cd_S_brokenByCounting ml_S_94 in_S sm_S_brokenByCounting (by decide +kernel) (by decide) rfl (Nat.le_of_ble_eq_true rfl) rfl d_S_count_37 (by decide) hN R0 (fun _ h => h.elim) (fun v9 LP9 f9 h9 => ?_)
  obtain ⟨rfl, w9, w8⟩ := h9
  have w9 := w9.symm
  have w8 := w8.symm
  subst w9
  subst w8
  refine pv_stf (f2 := (kf ks ρ (cz γ ρ z x) f0)) (st2 := [.int (bk z ((4 * ix a + ix n) / 4) (4 * ix a + ix n) d p)]) (c2 := 5) (s2 := 30) rfl rfl rfl rfl ?_
  refine pv_top (y := bk z (ix a) (4 * ix a + ix n) d p) (by rw [show (4 * ix a + ix n) / 4 = ix a by omega]) ?_
  refine pv_istore (lv' := [(7, .int (bk z (ix a) (4 * ix a + ix n) d p)), (6, .ref (ρ (3, 4 * ix a + ix n))), (0, .ref (ρ (0, 0))), (1, .int a), (2, .int n), (3, .int d), (4, .int e), (5, .int p)]) C d_S_count_40 (by decide) rfl ?_
  refine pv_iload C d_S_count_42 0 rfl ?_
  refine pv_if_ge (tgt := 50) C d_S_count_44 (by decide) (fun h5 => ?_) (fun h5 => ?_)
  · refine pv_iload_n C d_S_count_50 rfl 5 rfl ?_
    refine pv_bipush (v := 50) C d_S_count_51 (by decide) ?_
    refine pv_iadd C d_S_count_53 ?_
    refine pv_iconst (v := 1) C d_S_count_54 (by decide) ?_
    refine pv_isub C d_S_count_55 ?_
    refine pv_bipush (v := 50) C d_S_count_56 (by decide) ?_
    refine pv_idiv C d_S_count_58 (by decide) ?_
    refine pv_istore (lv' := [(8, .int (((d + 50) - 1) / 50)), (7, .int (bk z (ix a) (4 * ix a + ix n) d p)), (6, .ref (ρ (3, 4 * ix a + ix n))), (0, .ref (ρ (0, 0))), (1, .int a), (2, .int n), (3, .int d), (4, .int e), (5, .int p)]) C d_S_count_59 (by decide) rfl ?_
    refine pv_iload C d_S_count_61 0 rfl ?_
    refine pv_aload_n C d_S_count_63 rfl 3 rfl ?_
    refine pv_get (v := .ref (ρ (0, 2))) (ci := 3) C hin_S rfl (H.1 _ M0) ((kf_at H M0).trans rfl) 1 (by decide) fl_S_17 rfl rfl d_S_count_64 ?_
    refine pv_alen C 2 rfl (H.1 _ M2) ((kf_at H M2).trans rfl) (v := 120) rfl d_S_count_67 ?_
    refine pv_aload_n C d_S_count_68 rfl 3 rfl ?_
    refine pv_get (v := .int (z 18 0)) (ci := 3) C hin_S rfl (H.1 _ M0) ((kf_at H M0).trans rfl) 4 (by decide) fl_S_98 rfl rfl d_S_count_69 ?_
    refine pv_isub C d_S_count_72 ?_
    refine pv_icmp_le (tgt := 86) C d_S_count_73 (by decide) (fun h6 => ?_) (fun h6 => ?_)
    · have hrm := ct_room2 hz hdx.1 hdx.2.2 ((ct_room hz hdx.1 hdx.2.2).mp h6)
      have hdt := dt_ix hdx.1 hdx.2.2
      obtain ⟨z1, e1⟩ : ∃ q : zT, q = zs (zs z 0 0 0) 0 0 0 := ⟨_, rfl⟩
      have J1 : cI LP ks ρ z1 x := by rw [e1]; exact zc_cI (zc_2 z 0 0) J
      refine pk_fz (f2 := cF γ ks ρ z1 x f0) (by rw [e1, cF, zc_cz (zc_2 z 0 0)]) ?_
      have hvN1 : vK z1 (3, 4 * ix a + ix n) := (J1.2.1 _).mp MN
      have hrm1 : zU z1 + ((ix d + 49) / 50) ≤ 120 := by rw [e1]; exact hrm
      refine pv_aload_n C d_S_count_86 rfl 3 rfl ?_
      refine pv_aload C d_S_count_87 2 rfl ?_
      refine pv_iload_n C d_S_count_89 rfl 6 rfl ?_
      refine pv_iload C d_S_count_90 7 rfl ?_
      refine pv_callV (n := 3) (As := [.ref (ρ (3, 4 * ix a + ix n)), .int d, .int e]) (rest := []) C (c_S_makeUnits hl0 J1 (4 * ix a + ix n) d e (nI (4 * ix a + ix n)) ((ix d + 49) / 50) hvN1 rfl (by omega) (by omega) hrm1 (by omega)) cd_S_makeUnits ml_S_103 in_S im_S_makeUnits se_S_makeUnits (H.1 _ M0) ((kf_at H M0).trans rfl) rfl rfl (by decide +kernel) (by decide) rfl (Nat.le_of_ble_eq_true rfl) rfl d_S_count_92 (by decide) hN R0 (fun _ h => h.elim) (fun v9 LP9 f9 h9 => ?_)
      obtain ⟨rfl, ks', ρ', x', w8, J2, x1, x2, hk0, hL0, hfr⟩ := h9
      obtain ⟨Z, eZ⟩ : ∃ q : zT, q = m_cu (nI (4 * ix a + ix n)) e (4 * ix a + ix n) ((ix d + 49) / 50) (zU z1) d z1 := ⟨_, rfl⟩
      rw [← eZ] at J2 w8
      refine pv_stf (f2 := cF γ ks' ρ' Z x' f0) (st2 := []) (c2 := 13) (s2 := 94) w8 rfl rfl rfl ?_
      refine pv_lvs (lv2 := [(6, .ref (ρ' (3, 4 * ix a + ix n))), (3, .int d), (5, .int p), (8, .int (((d + 50) - 1) / 50))]) [2, 6, 8, 0] (by rw [(hk0 _ MN).2]; rfl) ?_
      obtain ⟨H', hV', hz', hJ'⟩ := id J2
      have MN' := (hk0 _ MN).1
      have hvN' := (hV' _).mp MN'
      have r12 : Z 12 (4 * ix a + ix n) = z 12 (4 * ix a + ix n) := by rw [eZ, cu_row (by decide), e1]; rfl
      have r0 : Z 0 0 = 0 := by rw [eZ, cu_row (by decide), e1]; rfl
      refine pv_aload C d_S_count_95 0 rfl ?_
      refine pv_dup C d_S_count_97 rfl ?_
      refine pv_get (v := .int (Z 12 (4 * ix a + ix n))) (ci := 1) C hin_N rfl (H'.1 _ MN') ((kf_at H' MN').trans rfl) 7 (by decide) fl_S_107 rfl rfl d_S_count_98 ?_
      refine pv_iload_n C d_S_count_101 rfl 1 rfl ?_
      refine pv_iadd C d_S_count_102 ?_
      refine pk_put (ci := 1) (fs := [.ref (ρ' (1, (4 * ix a + ix n) / 4)), .int (nI ((4 * ix a + ix n) % 4)), .int (Z 9 (4 * ix a + ix n)), .int (Z 10 (4 * ix a + ix n)), .int (Z 11 (4 * ix a + ix n)), .int (Z 13 (4 * ix a + ix n)), .int (Z 14 (4 * ix a + ix n)), .int (Z 12 (4 * ix a + ix n)), .int (x'.2.1 (4 * ix a + ix n)), .int (Z 15 (4 * ix a + ix n)), .int (Z 16 (4 * ix a + ix n))]) C H' hin_N tyN tyN_ok nmN rfl MN' rfl 7 (by decide) fl_S_107 rfl rfl rfl rfl (Nat.le_of_ble_eq_true rfl) d_S_count_103 ?_
      refine pk_fz (f2 := kf ks' ρ' (ku (cz γ ρ' Z x') (3, 4 * ix a + ix n) (.inr (1, [.ref (ρ' (1, (4 * ix a + ix n) / 4)), .int (nI ((4 * ix a + ix n) % 4)), .int (Z 9 (4 * ix a + ix n)), .int (Z 10 (4 * ix a + ix n)), .int (Z 11 (4 * ix a + ix n)), .int (Z 13 (4 * ix a + ix n)), .int (Z 14 (4 * ix a + ix n)), .int (Z 12 (4 * ix a + ix n) + d), .int (x'.2.1 (4 * ix a + ix n)), .int (Z 15 (4 * ix a + ix n)), .int (Z 16 (4 * ix a + ix n))]))) f0) rfl ?_
      refine pv_aload C d_S_count_106 0 rfl ?_
      refine pv_dup C d_S_count_108 rfl ?_
      refine pv_get (v := .int (x'.2.1 (4 * ix a + ix n))) (ci := 1) C hin_N rfl (H'.1 _ MN') ((kf_at H' MN').trans (ku_eq _ _ _)) 8 (by decide) fl_S_110 rfl rfl d_S_count_109 ?_
      refine pv_iload C d_S_count_112 2 rfl ?_
      refine pv_callS (n := 1) (As := [.int p]) (rest := [.int (x'.2.1 (4 * ix a + ix n)), .ref (ρ' (3, 4 * ix a + ix n))]) C (c_S_bitOf hl0 p) cd_S_bitOf ml_S_76 in_S sm_S_bitOf (by decide +kernel) (by decide) rfl (Nat.le_of_ble_eq_true rfl) rfl d_S_count_114 (by decide) hN R0 (fun _ h => h.elim) (fun v9 LP9 f9 h9 => ?_)
      obtain ⟨rfl, w9, w7⟩ := h9
      have w9 := w9.symm
      have w7 := w7.symm
      subst w9
      subst w7
      refine pv_stf (f2 := kf ks' ρ' (ku (cz γ ρ' Z x') (3, 4 * ix a + ix n) (.inr (1, [.ref (ρ' (1, (4 * ix a + ix n) / 4)), .int (nI ((4 * ix a + ix n) % 4)), .int (Z 9 (4 * ix a + ix n)), .int (Z 10 (4 * ix a + ix n)), .int (Z 11 (4 * ix a + ix n)), .int (Z 13 (4 * ix a + ix n)), .int (Z 14 (4 * ix a + ix n)), .int (Z 12 (4 * ix a + ix n) + d), .int (x'.2.1 (4 * ix a + ix n)), .int (Z 15 (4 * ix a + ix n)), .int (Z 16 (4 * ix a + ix n))]))) f0) (st2 := [.int (bitI p), .int (x'.2.1 (4 * ix a + ix n)), .ref (ρ' (3, 4 * ix a + ix n))]) (c2 := 13) (s2 := 94) rfl rfl rfl rfl ?_
      refine pv_ior C d_S_count_117 ?_
      refine pk_put (ci := 1) (fs := [.ref (ρ' (1, (4 * ix a + ix n) / 4)), .int (nI ((4 * ix a + ix n) % 4)), .int (Z 9 (4 * ix a + ix n)), .int (Z 10 (4 * ix a + ix n)), .int (Z 11 (4 * ix a + ix n)), .int (Z 13 (4 * ix a + ix n)), .int (Z 14 (4 * ix a + ix n)), .int (Z 12 (4 * ix a + ix n) + d), .int (x'.2.1 (4 * ix a + ix n)), .int (Z 15 (4 * ix a + ix n)), .int (Z 16 (4 * ix a + ix n))]) C H' hin_N tyN tyN_ok nmN rfl MN' (ku_eq _ _ _) 8 (by decide) fl_S_110 rfl rfl rfl rfl (Nat.le_of_ble_eq_true rfl) d_S_count_118 ?_
      refine pk_fz (f2 := kf ks' ρ' (ku (ku (cz γ ρ' Z x') (3, 4 * ix a + ix n) (.inr (1, [.ref (ρ' (1, (4 * ix a + ix n) / 4)), .int (nI ((4 * ix a + ix n) % 4)), .int (Z 9 (4 * ix a + ix n)), .int (Z 10 (4 * ix a + ix n)), .int (Z 11 (4 * ix a + ix n)), .int (Z 13 (4 * ix a + ix n)), .int (Z 14 (4 * ix a + ix n)), .int (Z 12 (4 * ix a + ix n) + d), .int (x'.2.1 (4 * ix a + ix n)), .int (Z 15 (4 * ix a + ix n)), .int (Z 16 (4 * ix a + ix n))]))) (3, 4 * ix a + ix n) (.inr (1, [.ref (ρ' (1, (4 * ix a + ix n) / 4)), .int (nI ((4 * ix a + ix n) % 4)), .int (Z 9 (4 * ix a + ix n)), .int (Z 10 (4 * ix a + ix n)), .int (Z 11 (4 * ix a + ix n)), .int (Z 13 (4 * ix a + ix n)), .int (Z 14 (4 * ix a + ix n)), .int (Z 12 (4 * ix a + ix n) + d), .int (x'.2.1 (4 * ix a + ix n) ||| bitI p), .int (Z 15 (4 * ix a + ix n)), .int (Z 16 (4 * ix a + ix n))]))) f0) rfl ?_
      have J3 : cI _ ks' ρ' (zs (zs Z 17 (8 * (4 * ix a + ix n) + ix p) 1) 12 (4 * ix a + ix n) (Z 12 (4 * ix a + ix n) + d)) (x'.1, upd x'.2.1 (4 * ix a + ix n) (x'.2.1 (4 * ix a + ix n) ||| bitI p), x'.2.2) := ⟨H', hV', hz', hJ'.1, hJ'.2.1, hJ'.2.2.1, ct_bits h68 hP hJ'.2.2.2.1, hJ'.2.2.2.2.1, hJ'.2.2.2.2.2.1, zF_line (by decide) (by decide) hvN' (zF_17 hvN' hP.2 hJ'.2.2.2.2.2.2)⟩
      have g3 : ∀ k7 ∈ ks', (ku (ku (cz γ ρ' Z x') (3, 4 * ix a + ix n) (.inr (1, [.ref (ρ' (1, (4 * ix a + ix n) / 4)), .int (nI ((4 * ix a + ix n) % 4)), .int (Z 9 (4 * ix a + ix n)), .int (Z 10 (4 * ix a + ix n)), .int (Z 11 (4 * ix a + ix n)), .int (Z 13 (4 * ix a + ix n)), .int (Z 14 (4 * ix a + ix n)), .int (Z 12 (4 * ix a + ix n) + d), .int (x'.2.1 (4 * ix a + ix n)), .int (Z 15 (4 * ix a + ix n)), .int (Z 16 (4 * ix a + ix n))]))) (3, 4 * ix a + ix n) (.inr (1, [.ref (ρ' (1, (4 * ix a + ix n) / 4)), .int (nI ((4 * ix a + ix n) % 4)), .int (Z 9 (4 * ix a + ix n)), .int (Z 10 (4 * ix a + ix n)), .int (Z 11 (4 * ix a + ix n)), .int (Z 13 (4 * ix a + ix n)), .int (Z 14 (4 * ix a + ix n)), .int (Z 12 (4 * ix a + ix n) + d), .int (x'.2.1 (4 * ix a + ix n) ||| bitI p), .int (Z 15 (4 * ix a + ix n)), .int (Z 16 (4 * ix a + ix n))]))) k7 = cz γ ρ' (zs (zs Z 17 (8 * (4 * ix a + ix n) + ix p) 1) 12 (4 * ix a + ix n) (Z 12 (4 * ix a + ix n) + d)) (x'.1, upd x'.2.1 (4 * ix a + ix n) (x'.2.1 (4 * ix a + ix n) ||| bitI p), x'.2.2) k7 := by
        intro k7 hk
        by_cases q0 : k7 = ((3, 4 * ix a + ix n) : kT)
        · subst q0
          rw [ku_eq]
          show _ = Sum.inr (1, cN ρ' _ _ (4 * ix a + ix n))
          simp [cN, zs, upd]
        rw [ku_ne _ _ q0, ku_ne _ _ q0]
        exact (((cz_x2 q0).trans ((cz_line (by decide) (by decide) q0).trans (cz_non (by decide))))).symm
      refine pk_fz (f2 := cF γ ks' ρ' (zs (zs Z 17 (8 * (4 * ix a + ix n) + ix p) 1) 12 (4 * ix a + ix n) (Z 12 (4 * ix a + ix n) + d)) (x'.1, upd x'.2.1 (4 * ix a + ix n) (x'.2.1 (4 * ix a + ix n) ||| bitI p), x'.2.2) f0) (kf_eq g3) ?_
      have em : m_count z a n d e p = ((((d + 50) - 1) / 50), (zs (zs Z 17 (8 * (4 * ix a + ix n) + ix p) 1) 12 (4 * ix a + ix n) (Z 12 (4 * ix a + ix n) + d))) := by
        unfold m_count
        rw [if_pos h1, if_pos h2, if_pos h3, if_pos (show isP p = true from h4), if_pos (bk_ge h5).1, if_pos (bk_ge h5).2.1, if_pos (bk_ge h5).2.2.1, if_pos (bk_ge h5).2.2.2, if_pos ((ct_room hz hdx.1 hdx.2.2).mp h6), cu_comm (Or.inl rfl), cu_comm (Or.inr rfl), hln, r12, eZ, e1]
        rfl
      refine pv_iload C d_S_count_121 3 rfl ?_
      exact pv_iret C R0 d_S_count_123 (by decide) (by decide) (cP_re J3 r0 (hk0 _ M0).2 hL0 hfr em)
    · exact pv_throw (LP0 := []) (f0 := fun _ => .inr (0, [])) (text := "no room for so many units more") C hN R0 (by decide) (by decide) kl_S_35 in_UnsupportedOperationException rfl (by decide) th1_UO th2_UO th3_UO d_S_count_76 d_S_count_79 d_S_count_80 d_S_count_82 d_S_count_85 (by decide) (Nat.le_of_ble_eq_true rfl) (by decide) (by decide) (cT_any 2 3 rfl rfl (by unfold m_count; rw [if_pos h1, if_pos h2, if_pos h3, if_pos (show isP p = true from h4), if_pos (bk_ge h5).1, if_pos (bk_ge h5).2.1, if_pos (bk_ge h5).2.2.1, if_pos (bk_ge h5).2.2.2, if_neg (fun q => h6 ((ct_room hz hdx.1 hdx.2.2).mpr q))]; first | exact Or.inl rfl | exact Or.inr rfl))
  · refine pv_iload C d_S_count_47 0 rfl ?_
    exact pv_iret C R0 d_S_count_49 (by decide) (by decide) (cP_rd J (by unfold m_count; rw [if_pos h1, if_pos h2, if_pos h3, if_pos (show isP p = true from h4), bk_lt h5]))
