set_option maxRecDepth 100000 in
set_option maxHeartbeats 4000000 in
theorem lc_take {l0 : Launch} {D : va_G} {γ : Nat → ClassId} {κ : pv_K} {b L : Nat} {xs : Nat → Int32} (hl0 : l0.stackTraces = false) (C : pv_C l0 D (tys_ γ) κ code RL room_1 7) (Y : pv_Y κ b L xs) {cells slots : Nat} {LP : List Nat} {ks : List kT} {ρ : kT → Nat} {z : zT} {x : xT} {mo : Nat} {ad : Nat → Nat} {oa : Nat} {ov : Nat → Int64} {g0 : Nat → va_E} (hw : wI LP ks ρ z x mo ad oa) {i : Nat} (hi : i + 6 ≤ L) (hcl : cells + 16 ≤ 601024) (hsl : slots + 128 ≤ 7293034) (kk : ∀ (LP' : List Nat) (ks' : List kT) (ρ' : kT → Nat) (z' : zT) (x' : xT) (ov' : Nat → Int64), wI LP' ks' ρ' z' x' mo ad oa → pv_V D κ (cells + 16) (slots + 128) LP' (wf γ ks' ρ' x' g0 mo ad oa ov' z' z') 1677 [(4, .int (nI i)), (0, .ref b), (1, .ref (ρ' (0, 0))), (2, .ref mo), (3, .ref oa)] []) : pv_V D κ cells slots LP (wf γ ks ρ x g0 mo ad oa ov z z) 960 [(4, .int (nI i)), (0, .ref b), (1, .ref (ρ (0, 0))), (2, .ref mo), (3, .ref oa)] [] := by
  obtain ⟨J, G, hoL, hd1, hd2, hd3, hE⟩ := id hw
  have hz := J.2.2.1
  refine pv_aload_n C d_L_law_960 rfl 2 rfl ?_
  refine pv_aload_n C d_L_law_961 rfl 1 rfl ?_
  refine pv_iload C d_L_law_962 0 rfl ?_
  refine pv_iconst (v := 1) C d_L_law_964 (by decide) ?_
  refine pv_iadd C d_L_law_965 ?_
  refine pv_sld C Y (j := i + 1) (lw_ix i 1) (by omega) d_L_law_966 ?_
  refine pv_aload_n C d_L_law_967 rfl 1 rfl ?_
  refine pv_iload C d_L_law_968 0 rfl ?_
  refine pv_iconst (v := 2) C d_L_law_970 (by decide) ?_
  refine pv_iadd C d_L_law_971 ?_
  refine pv_sld C Y (j := i + 2) (lw_ix i 2) (by omega) d_L_law_972 ?_
  refine pv_aload_n C d_L_law_973 rfl 4 rfl ?_
  obtain ⟨q, hq⟩ : ∃ q : Int32 × zT, q = m_take z (xs (i + 1)) (xs (i + 2)) := ⟨_, rfl⟩
  have hM := c_L_take (l0 := l0) (D := D) (γ := γ) (f0 := va_up (mm_f γ g0 mo ad z) oa (lo γ ov)) hl0 J hoL (va_up_self _ _ _) hd1 (xs (i + 1)) (xs (i + 2))
  rw [← hq] at hM
  have hE1 : zE q.2 := by rw [hq]; exact zE_take hE
  refine pv_callSH (n := 4) (As := [.ref (ρ (0, 0)), .int (xs (i + 1)), .int (xs (i + 2)), .ref oa]) (rest := []) C hM cd_L_take ml_L_142 in_L sm_L_take (by decide +kernel) (by decide) rfl (Nat.le_of_ble_eq_true rfl) rfl d_L_law_974 (show cells + 3 ≤ 601024 ∧ slots + 18 ≤ 7293034 from ⟨by omega, by omega⟩) (fun v9 LP9 f9 h9 => ?_)
  obtain ⟨rfl, ks', ρ', x', ov', rfl, hov, J', hρ, hL, hfr⟩ := h9
  have hw' := wI_c hw J' hL hfr hE1
  refine pv_stf (f2 := wf γ ks' ρ' x' g0 mo ad oa ov' q.2 z) (st2 := [.int (q.2 0 0)]) (c2 := cells + 3) (s2 := slots + 18) (by rw [va_up2]) rfl rfl rfl ?_
  refine pv_istore (lv' := [(5, .int (q.2 0 0)), (4, .int (nI i)), (0, .ref b), (1, .ref (ρ (0, 0))), (2, .ref mo), (3, .ref oa)]) C d_L_law_977 (by decide) rfl ?_
  refine pk_fz (f2 := mm_f γ (kf ks' ρ' (cz γ ρ' q.2 x') (va_up g0 oa (lo γ ov'))) mo ad z) (wf_m hw') ?_
  refine pv_aload_n C d_L_law_979 rfl 4 rfl ?_
  refine pv_aload_n C d_L_law_980 rfl 2 rfl ?_
  refine pv_iload C d_L_law_981 1 rfl ?_
  refine pv_iconst (v := 1) C d_L_law_983 (by decide) ?_
  refine pv_iadd C d_L_law_984 ?_
  refine pv_sld C Y (j := i + 1) (lw_ix i 1) (by omega) d_L_law_985 ?_
  refine pv_aload_n C d_L_law_986 rfl 2 rfl ?_
  refine pv_iload C d_L_law_987 1 rfl ?_
  refine pv_iconst (v := 2) C d_L_law_989 (by decide) ?_
  refine pv_iadd C d_L_law_990 ?_
  refine pv_sld C Y (j := i + 2) (lw_ix i 2) (by omega) d_L_law_991 ?_
  have hN := c_M_take (l0 := l0) (D := D) (γ := γ) (f0 := kf ks' ρ' (cz γ ρ' q.2 x') (va_up g0 oa (lo γ ov'))) hl0 hw'.2.1 z (xs (i + 1)) (xs (i + 2)) hz
  rw [← hq] at hN
  refine pv_callV0 (n := 2) (As := [.int (xs (i + 1)), .int (xs (i + 2))]) (rest := []) C hN cd_M_take ml_L_144 in_M im_M_take se_M_take hw'.2.1.1 mm_obj rfl rfl (by decide +kernel) (by decide) rfl (Nat.le_of_ble_eq_true rfl) rfl d_L_law_992 (show cells + 3 + 0 ≤ 601024 ∧ slots + 18 + 0 ≤ 7293034 from ⟨by omega, by omega⟩) (fun v9 LP8 f9 h9 => ?_)
  obtain ⟨rfl, w9, rfl⟩ := h9
  subst w9
  refine pv_stf (f2 := mm_f γ (kf ks' ρ' (cz γ ρ' q.2 x') (va_up g0 oa (lo γ ov'))) mo ad q.2) (st2 := [.int q.1]) (c2 := cells + 3) (s2 := slots + 18) rfl rfl rfl rfl ?_
  refine pv_istore (lv' := [(6, .int q.1), (5, .int (q.2 0 0)), (4, .int (nI i)), (0, .ref b), (1, .ref (ρ (0, 0))), (2, .ref mo), (3, .ref oa)]) C d_L_law_995 (by decide) rfl ?_
  refine pv_aload_n C d_L_law_997 rfl 5 rfl ?_
  refine pv_callV0 (n := 0) (As := []) (rest := []) C (c_M_thrown hl0 hw'.2.1 q.2) cd_M_thrown ml_L_102 in_M im_M_thrown se_M_thrown hw'.2.1.1 mm_obj rfl rfl (by decide +kernel) (by decide) rfl (Nat.le_of_ble_eq_true rfl) rfl d_L_law_998 (show cells + 3 + 0 ≤ 601024 ∧ slots + 18 + 0 ≤ 7293034 from ⟨by omega, by omega⟩) (fun v9 LP8 f9 h9 => ?_)
  obtain ⟨rfl, w9, rfl⟩ := h9
  subst w9
  refine pv_stf (f2 := wf γ ks' ρ' x' g0 mo ad oa ov' q.2 q.2) (st2 := [.int (q.2 0 0)]) (c2 := cells + 3) (s2 := slots + 18) (wf_m hw').symm rfl rfl rfl ?_
  refine pv_iload C d_L_law_1001 1 rfl ?_
  refine pv_icmp_eq (tgt := 1008) C d_L_law_1003 (by decide) (fun _ => ?_) (fun w => absurd rfl w)
  refine pv_iload C d_L_law_1008 1 rfl ?_
  refine pv_if_ne (tgt := 1025) C d_L_law_1010 (by decide) (fun _ => ?_) (fun h0 => ?_)
  · refine pv_goto (tgt := 1677) C d_L_law_1025 (by decide) ?_
    refine pv_lvs (lv2 := [(4, .int (nI i)), (0, .ref b), (1, .ref (ρ' (0, 0))), (2, .ref mo), (3, .ref oa)]) [2, 3, 4, 5, 6] (by rw [hρ]; rfl) ?_
    exact pv_wide (by omega) (by omega) (kk _ _ _ _ _ _ hw')
  refine pv_aload_n C d_L_law_1013 rfl 6 rfl ?_
  refine pv_iconst (v := 0) C d_L_law_1014 (by decide) ?_
  refine pv_lald C 5 rfl hw'.2.2.1 ((kf_not hw'.2.2.2.1).trans (va_up_self _ _ _)) (j := 0) rfl (by decide) (by decide) d_L_law_1015 ?_
  refine pv_iload C d_L_law_1016 0 rfl ?_
  refine pv_i2l C d_L_law_1018 ?_
  refine pv_lcmp C d_L_law_1019 ?_
  refine pv_if_eq (tgt := 1025) C d_L_law_1020 (by decide) (fun _ => ?_) (fun w => absurd (by rw [hov h0, lg_self]) w)
  refine pv_goto (tgt := 1677) C d_L_law_1025 (by decide) ?_
  refine pv_lvs (lv2 := [(4, .int (nI i)), (0, .ref b), (1, .ref (ρ' (0, 0))), (2, .ref mo), (3, .ref oa)]) [2, 3, 4, 5, 6] (by rw [hρ]; rfl) ?_
  exact pv_wide (by omega) (by omega) (kk _ _ _ _ _ _ hw')
set_option maxRecDepth 100000 in
set_option maxHeartbeats 4000000 in
theorem lc_label {l0 : Launch} {D : va_G} {γ : Nat → ClassId} {κ : pv_K} {b L : Nat} {xs : Nat → Int32} (hl0 : l0.stackTraces = false) (C : pv_C l0 D (tys_ γ) κ code RL room_1 7) (Y : pv_Y κ b L xs) {cells slots : Nat} {LP : List Nat} {ks : List kT} {ρ : kT → Nat} {z : zT} {x : xT} {mo : Nat} {ad : Nat → Nat} {oa : Nat} {ov : Nat → Int64} {g0 : Nat → va_E} (hw : wI LP ks ρ z x mo ad oa) {i : Nat} (hi : i + 6 ≤ L) (hcl : cells + 16 ≤ 601024) (hsl : slots + 128 ≤ 7293034) (kk : ∀ (LP' : List Nat) (ks' : List kT) (ρ' : kT → Nat) (z' : zT) (x' : xT) (ov' : Nat → Int64), wI LP' ks' ρ' z' x' mo ad oa → pv_V D κ (cells + 16) (slots + 128) LP' (wf γ ks' ρ' x' g0 mo ad oa ov' z' z') 1677 [(4, .int (nI i)), (0, .ref b), (1, .ref (ρ' (0, 0))), (2, .ref mo), (3, .ref oa)] []) : pv_V D κ cells slots LP (wf γ ks ρ x g0 mo ad oa ov z z) 1028 [(4, .int (nI i)), (0, .ref b), (1, .ref (ρ (0, 0))), (2, .ref mo), (3, .ref oa)] [] := by
  obtain ⟨J, G, hoL, hd1, hd2, hd3, hE⟩ := id hw
  have hz := J.2.2.1
  refine pv_aload_n C d_L_law_1028 rfl 2 rfl ?_
  refine pv_aload_n C d_L_law_1029 rfl 1 rfl ?_
  refine pv_iload C d_L_law_1030 0 rfl ?_
  refine pv_iconst (v := 1) C d_L_law_1032 (by decide) ?_
  refine pv_iadd C d_L_law_1033 ?_
  refine pv_sld C Y (j := i + 1) (lw_ix i 1) (by omega) d_L_law_1034 ?_
  refine pv_aload_n C d_L_law_1035 rfl 4 rfl ?_
  obtain ⟨q, hq⟩ : ∃ q : Int32 × zT, q = m_label z (xs (i + 1)) := ⟨_, rfl⟩
  have hM := c_L_label (l0 := l0) (D := D) (γ := γ) (f0 := va_up (mm_f γ g0 mo ad z) oa (lo γ ov)) hl0 J hoL (va_up_self _ _ _) hd1 (xs (i + 1))
  rw [← hq] at hM
  have hE1 : zE q.2 := by rw [hq]; exact zE_label hE
  refine pv_callSH (n := 3) (As := [.ref (ρ (0, 0)), .int (xs (i + 1)), .ref oa]) (rest := []) C hM cd_L_label ml_L_145 in_L sm_L_label (by decide +kernel) (by decide) rfl (Nat.le_of_ble_eq_true rfl) rfl d_L_law_1036 (show cells + 1 ≤ 601024 ∧ slots + 6 ≤ 7293034 from ⟨by omega, by omega⟩) (fun v9 LP9 f9 h9 => ?_)
  obtain ⟨rfl, ks', ρ', x', ov', rfl, hov, J', hρ, hL, hfr⟩ := h9
  have hw' := wI_c hw J' hL hfr hE1
  refine pv_stf (f2 := wf γ ks' ρ' x' g0 mo ad oa ov' q.2 z) (st2 := [.int (q.2 0 0)]) (c2 := cells + 1) (s2 := slots + 6) (by rw [va_up2]) rfl rfl rfl ?_
  refine pv_istore (lv' := [(5, .int (q.2 0 0)), (4, .int (nI i)), (0, .ref b), (1, .ref (ρ (0, 0))), (2, .ref mo), (3, .ref oa)]) C d_L_law_1039 (by decide) rfl ?_
  refine pk_fz (f2 := mm_f γ (kf ks' ρ' (cz γ ρ' q.2 x') (va_up g0 oa (lo γ ov'))) mo ad z) (wf_m hw') ?_
  refine pv_aload_n C d_L_law_1041 rfl 4 rfl ?_
  refine pv_aload_n C d_L_law_1042 rfl 2 rfl ?_
  refine pv_iload C d_L_law_1043 1 rfl ?_
  refine pv_iconst (v := 1) C d_L_law_1045 (by decide) ?_
  refine pv_iadd C d_L_law_1046 ?_
  refine pv_sld C Y (j := i + 1) (lw_ix i 1) (by omega) d_L_law_1047 ?_
  have hN := c_M_label (l0 := l0) (D := D) (γ := γ) (f0 := kf ks' ρ' (cz γ ρ' q.2 x') (va_up g0 oa (lo γ ov'))) hl0 hw'.2.1 z (xs (i + 1)) hz
  rw [← hq] at hN
  refine pv_callV0 (n := 1) (As := [.int (xs (i + 1))]) (rest := []) C hN cd_M_label ml_L_148 in_M im_M_label se_M_label hw'.2.1.1 mm_obj rfl rfl (by decide +kernel) (by decide) rfl (Nat.le_of_ble_eq_true rfl) rfl d_L_law_1048 (show cells + 1 + 0 ≤ 601024 ∧ slots + 6 + 0 ≤ 7293034 from ⟨by omega, by omega⟩) (fun v9 LP8 f9 h9 => ?_)
  obtain ⟨rfl, w9, rfl⟩ := h9
  subst w9
  refine pv_stf (f2 := mm_f γ (kf ks' ρ' (cz γ ρ' q.2 x') (va_up g0 oa (lo γ ov'))) mo ad q.2) (st2 := [.int q.1]) (c2 := cells + 1) (s2 := slots + 6) rfl rfl rfl rfl ?_
  refine pv_istore (lv' := [(6, .int q.1), (5, .int (q.2 0 0)), (4, .int (nI i)), (0, .ref b), (1, .ref (ρ (0, 0))), (2, .ref mo), (3, .ref oa)]) C d_L_law_1051 (by decide) rfl ?_
  refine pv_aload_n C d_L_law_1053 rfl 5 rfl ?_
  refine pv_callV0 (n := 0) (As := []) (rest := []) C (c_M_thrown hl0 hw'.2.1 q.2) cd_M_thrown ml_L_102 in_M im_M_thrown se_M_thrown hw'.2.1.1 mm_obj rfl rfl (by decide +kernel) (by decide) rfl (Nat.le_of_ble_eq_true rfl) rfl d_L_law_1054 (show cells + 1 + 0 ≤ 601024 ∧ slots + 6 + 0 ≤ 7293034 from ⟨by omega, by omega⟩) (fun v9 LP8 f9 h9 => ?_)
  obtain ⟨rfl, w9, rfl⟩ := h9
  subst w9
  refine pv_stf (f2 := wf γ ks' ρ' x' g0 mo ad oa ov' q.2 q.2) (st2 := [.int (q.2 0 0)]) (c2 := cells + 1) (s2 := slots + 6) (wf_m hw').symm rfl rfl rfl ?_
  refine pv_iload C d_L_law_1057 1 rfl ?_
  refine pv_icmp_eq (tgt := 1064) C d_L_law_1059 (by decide) (fun _ => ?_) (fun w => absurd rfl w)
  refine pv_iload C d_L_law_1064 1 rfl ?_
  refine pv_if_ne (tgt := 1081) C d_L_law_1066 (by decide) (fun _ => ?_) (fun h0 => ?_)
  · refine pv_goto (tgt := 1677) C d_L_law_1081 (by decide) ?_
    refine pv_lvs (lv2 := [(4, .int (nI i)), (0, .ref b), (1, .ref (ρ' (0, 0))), (2, .ref mo), (3, .ref oa)]) [2, 3, 4, 5, 6] (by rw [hρ]; rfl) ?_
    exact pv_wide (by omega) (by omega) (kk _ _ _ _ _ _ hw')
  refine pv_aload_n C d_L_law_1069 rfl 6 rfl ?_
  refine pv_iconst (v := 0) C d_L_law_1070 (by decide) ?_
  refine pv_lald C 5 rfl hw'.2.2.1 ((kf_not hw'.2.2.2.1).trans (va_up_self _ _ _)) (j := 0) rfl (by decide) (by decide) d_L_law_1071 ?_
  refine pv_iload C d_L_law_1072 0 rfl ?_
  refine pv_i2l C d_L_law_1074 ?_
  refine pv_lcmp C d_L_law_1075 ?_
  refine pv_if_eq (tgt := 1081) C d_L_law_1076 (by decide) (fun _ => ?_) (fun w => absurd (by rw [hov h0, lg_self]) w)
  refine pv_goto (tgt := 1677) C d_L_law_1081 (by decide) ?_
  refine pv_lvs (lv2 := [(4, .int (nI i)), (0, .ref b), (1, .ref (ρ' (0, 0))), (2, .ref mo), (3, .ref oa)]) [2, 3, 4, 5, 6] (by rw [hρ]; rfl) ?_
  exact pv_wide (by omega) (by omega) (kk _ _ _ _ _ _ hw')
set_option maxRecDepth 100000 in
set_option maxHeartbeats 4000000 in
theorem lc_again {l0 : Launch} {D : va_G} {γ : Nat → ClassId} {κ : pv_K} {b L : Nat} {xs : Nat → Int32} (hl0 : l0.stackTraces = false) (C : pv_C l0 D (tys_ γ) κ code RL room_1 7) (Y : pv_Y κ b L xs) {cells slots : Nat} {LP : List Nat} {ks : List kT} {ρ : kT → Nat} {z : zT} {x : xT} {mo : Nat} {ad : Nat → Nat} {oa : Nat} {ov : Nat → Int64} {g0 : Nat → va_E} (hw : wI LP ks ρ z x mo ad oa) {i : Nat} (hi : i + 6 ≤ L) (hcl : cells + 16 ≤ 601024) (hsl : slots + 128 ≤ 7293034) (kk : ∀ (LP' : List Nat) (ks' : List kT) (ρ' : kT → Nat) (z' : zT) (x' : xT) (ov' : Nat → Int64), wI LP' ks' ρ' z' x' mo ad oa → pv_V D κ (cells + 16) (slots + 128) LP' (wf γ ks' ρ' x' g0 mo ad oa ov' z' z') 1677 [(4, .int (nI i)), (0, .ref b), (1, .ref (ρ' (0, 0))), (2, .ref mo), (3, .ref oa)] []) : pv_V D κ cells slots LP (wf γ ks ρ x g0 mo ad oa ov z z) 1084 [(4, .int (nI i)), (0, .ref b), (1, .ref (ρ (0, 0))), (2, .ref mo), (3, .ref oa)] [] := by
  obtain ⟨J, G, hoL, hd1, hd2, hd3, hE⟩ := id hw
  have hz := J.2.2.1
  refine pv_aload_n C d_L_law_1084 rfl 2 rfl ?_
  refine pv_aload_n C d_L_law_1085 rfl 1 rfl ?_
  refine pv_iload C d_L_law_1086 0 rfl ?_
  refine pv_iconst (v := 1) C d_L_law_1088 (by decide) ?_
  refine pv_iadd C d_L_law_1089 ?_
  refine pv_sld C Y (j := i + 1) (lw_ix i 1) (by omega) d_L_law_1090 ?_
  refine pv_aload_n C d_L_law_1091 rfl 4 rfl ?_
  obtain ⟨q, hq⟩ : ∃ q : Int32 × zT, q = m_again z (xs (i + 1)) := ⟨_, rfl⟩
  have hM := c_L_again (l0 := l0) (D := D) (γ := γ) (f0 := va_up (mm_f γ g0 mo ad z) oa (lo γ ov)) hl0 J hoL (va_up_self _ _ _) hd1 (xs (i + 1))
  rw [← hq] at hM
  have hE1 : zE q.2 := by rw [hq]; exact zE_again hE
  refine pv_callSH (n := 3) (As := [.ref (ρ (0, 0)), .int (xs (i + 1)), .ref oa]) (rest := []) C hM cd_L_again ml_L_149 in_L sm_L_again (by decide +kernel) (by decide) rfl (Nat.le_of_ble_eq_true rfl) rfl d_L_law_1092 (show cells + 2 ≤ 601024 ∧ slots + 12 ≤ 7293034 from ⟨by omega, by omega⟩) (fun v9 LP9 f9 h9 => ?_)
  obtain ⟨rfl, ks', ρ', x', ov', rfl, hov, J', hρ, hL, hfr⟩ := h9
  have hw' := wI_c hw J' hL hfr hE1
  refine pv_stf (f2 := wf γ ks' ρ' x' g0 mo ad oa ov' q.2 z) (st2 := [.int (q.2 0 0)]) (c2 := cells + 2) (s2 := slots + 12) (by rw [va_up2]) rfl rfl rfl ?_
  refine pv_istore (lv' := [(5, .int (q.2 0 0)), (4, .int (nI i)), (0, .ref b), (1, .ref (ρ (0, 0))), (2, .ref mo), (3, .ref oa)]) C d_L_law_1095 (by decide) rfl ?_
  refine pk_fz (f2 := mm_f γ (kf ks' ρ' (cz γ ρ' q.2 x') (va_up g0 oa (lo γ ov'))) mo ad z) (wf_m hw') ?_
  refine pv_aload_n C d_L_law_1097 rfl 4 rfl ?_
  refine pv_aload_n C d_L_law_1098 rfl 2 rfl ?_
  refine pv_iload C d_L_law_1099 1 rfl ?_
  refine pv_iconst (v := 1) C d_L_law_1101 (by decide) ?_
  refine pv_iadd C d_L_law_1102 ?_
  refine pv_sld C Y (j := i + 1) (lw_ix i 1) (by omega) d_L_law_1103 ?_
  have hN := c_M_again (l0 := l0) (D := D) (γ := γ) (f0 := kf ks' ρ' (cz γ ρ' q.2 x') (va_up g0 oa (lo γ ov'))) hl0 hw'.2.1 z (xs (i + 1)) hz
  rw [← hq] at hN
  refine pv_callV0 (n := 1) (As := [.int (xs (i + 1))]) (rest := []) C hN cd_M_again ml_L_151 in_M im_M_again se_M_again hw'.2.1.1 mm_obj rfl rfl (by decide +kernel) (by decide) rfl (Nat.le_of_ble_eq_true rfl) rfl d_L_law_1104 (show cells + 2 + 0 ≤ 601024 ∧ slots + 12 + 0 ≤ 7293034 from ⟨by omega, by omega⟩) (fun v9 LP8 f9 h9 => ?_)
  obtain ⟨rfl, w9, rfl⟩ := h9
  subst w9
  refine pv_stf (f2 := mm_f γ (kf ks' ρ' (cz γ ρ' q.2 x') (va_up g0 oa (lo γ ov'))) mo ad q.2) (st2 := [.int q.1]) (c2 := cells + 2) (s2 := slots + 12) rfl rfl rfl rfl ?_
  refine pv_istore (lv' := [(6, .int q.1), (5, .int (q.2 0 0)), (4, .int (nI i)), (0, .ref b), (1, .ref (ρ (0, 0))), (2, .ref mo), (3, .ref oa)]) C d_L_law_1107 (by decide) rfl ?_
  refine pv_aload_n C d_L_law_1109 rfl 5 rfl ?_
  refine pv_callV0 (n := 0) (As := []) (rest := []) C (c_M_thrown hl0 hw'.2.1 q.2) cd_M_thrown ml_L_102 in_M im_M_thrown se_M_thrown hw'.2.1.1 mm_obj rfl rfl (by decide +kernel) (by decide) rfl (Nat.le_of_ble_eq_true rfl) rfl d_L_law_1110 (show cells + 2 + 0 ≤ 601024 ∧ slots + 12 + 0 ≤ 7293034 from ⟨by omega, by omega⟩) (fun v9 LP8 f9 h9 => ?_)
  obtain ⟨rfl, w9, rfl⟩ := h9
  subst w9
  refine pv_stf (f2 := wf γ ks' ρ' x' g0 mo ad oa ov' q.2 q.2) (st2 := [.int (q.2 0 0)]) (c2 := cells + 2) (s2 := slots + 12) (wf_m hw').symm rfl rfl rfl ?_
  refine pv_iload C d_L_law_1113 1 rfl ?_
  refine pv_icmp_eq (tgt := 1120) C d_L_law_1115 (by decide) (fun _ => ?_) (fun w => absurd rfl w)
  refine pv_iload C d_L_law_1120 1 rfl ?_
  refine pv_if_ne (tgt := 1137) C d_L_law_1122 (by decide) (fun _ => ?_) (fun h0 => ?_)
  · refine pv_goto (tgt := 1677) C d_L_law_1137 (by decide) ?_
    refine pv_lvs (lv2 := [(4, .int (nI i)), (0, .ref b), (1, .ref (ρ' (0, 0))), (2, .ref mo), (3, .ref oa)]) [2, 3, 4, 5, 6] (by rw [hρ]; rfl) ?_
    exact pv_wide (by omega) (by omega) (kk _ _ _ _ _ _ hw')
  refine pv_aload_n C d_L_law_1125 rfl 6 rfl ?_
  refine pv_iconst (v := 0) C d_L_law_1126 (by decide) ?_
  refine pv_lald C 5 rfl hw'.2.2.1 ((kf_not hw'.2.2.2.1).trans (va_up_self _ _ _)) (j := 0) rfl (by decide) (by decide) d_L_law_1127 ?_
  refine pv_iload C d_L_law_1128 0 rfl ?_
  refine pv_i2l C d_L_law_1130 ?_
  refine pv_lcmp C d_L_law_1131 ?_
  refine pv_if_eq (tgt := 1137) C d_L_law_1132 (by decide) (fun _ => ?_) (fun w => absurd (by rw [hov h0, lg_self]) w)
  refine pv_goto (tgt := 1677) C d_L_law_1137 (by decide) ?_
  refine pv_lvs (lv2 := [(4, .int (nI i)), (0, .ref b), (1, .ref (ρ' (0, 0))), (2, .ref mo), (3, .ref oa)]) [2, 3, 4, 5, 6] (by rw [hρ]; rfl) ?_
  exact pv_wide (by omega) (by omega) (kk _ _ _ _ _ _ hw')
set_option maxRecDepth 100000 in
set_option maxHeartbeats 4000000 in
theorem lc_close {l0 : Launch} {D : va_G} {γ : Nat → ClassId} {κ : pv_K} {b L : Nat} {xs : Nat → Int32} (hl0 : l0.stackTraces = false) (C : pv_C l0 D (tys_ γ) κ code RL room_1 7) (Y : pv_Y κ b L xs) {cells slots : Nat} {LP : List Nat} {ks : List kT} {ρ : kT → Nat} {z : zT} {x : xT} {mo : Nat} {ad : Nat → Nat} {oa : Nat} {ov : Nat → Int64} {g0 : Nat → va_E} (hw : wI LP ks ρ z x mo ad oa) {i : Nat} (hi : i + 6 ≤ L) (hcl : cells + 16 ≤ 601024) (hsl : slots + 128 ≤ 7293034) (kk : ∀ (LP' : List Nat) (ks' : List kT) (ρ' : kT → Nat) (z' : zT) (x' : xT) (ov' : Nat → Int64), wI LP' ks' ρ' z' x' mo ad oa → pv_V D κ (cells + 16) (slots + 128) LP' (wf γ ks' ρ' x' g0 mo ad oa ov' z' z') 1677 [(4, .int (nI i)), (0, .ref b), (1, .ref (ρ' (0, 0))), (2, .ref mo), (3, .ref oa)] []) : pv_V D κ cells slots LP (wf γ ks ρ x g0 mo ad oa ov z z) 1140 [(4, .int (nI i)), (0, .ref b), (1, .ref (ρ (0, 0))), (2, .ref mo), (3, .ref oa)] [] := by
  obtain ⟨J, G, hoL, hd1, hd2, hd3, hE⟩ := id hw
  have hz := J.2.2.1
  refine pv_aload_n C d_L_law_1140 rfl 2 rfl ?_
  refine pv_aload_n C d_L_law_1141 rfl 1 rfl ?_
  refine pv_iload C d_L_law_1142 0 rfl ?_
  refine pv_iconst (v := 1) C d_L_law_1144 (by decide) ?_
  refine pv_iadd C d_L_law_1145 ?_
  refine pv_sld C Y (j := i + 1) (lw_ix i 1) (by omega) d_L_law_1146 ?_
  refine pv_aload_n C d_L_law_1147 rfl 1 rfl ?_
  refine pv_iload C d_L_law_1148 0 rfl ?_
  refine pv_iconst (v := 2) C d_L_law_1150 (by decide) ?_
  refine pv_iadd C d_L_law_1151 ?_
  refine pv_sld C Y (j := i + 2) (lw_ix i 2) (by omega) d_L_law_1152 ?_
  refine pv_aload_n C d_L_law_1153 rfl 4 rfl ?_
  obtain ⟨q, hq⟩ : ∃ q : Int32 × zT, q = m_close z (xs (i + 1)) (xs (i + 2)) := ⟨_, rfl⟩
  have hM := c_L_close (l0 := l0) (D := D) (γ := γ) (f0 := va_up (mm_f γ g0 mo ad z) oa (lo γ ov)) hl0 J hoL (va_up_self _ _ _) hd1 (xs (i + 1)) (xs (i + 2)) (zE_64 hE hz)
  rw [← hq] at hM
  have hE1 : zE q.2 := by rw [hq]; exact zE_close hz hE
  refine pv_callSH (n := 4) (As := [.ref (ρ (0, 0)), .int (xs (i + 1)), .int (xs (i + 2)), .ref oa]) (rest := []) C hM cd_L_close ml_L_152 in_L sm_L_close (by decide +kernel) (by decide) rfl (Nat.le_of_ble_eq_true rfl) rfl d_L_law_1154 (show cells + 3 ≤ 601024 ∧ slots + 18 ≤ 7293034 from ⟨by omega, by omega⟩) (fun v9 LP9 f9 h9 => ?_)
  obtain ⟨rfl, ks', ρ', x', ov', rfl, hov, J', hρ, hL, hfr⟩ := h9
  have hw' := wI_c hw J' hL hfr hE1
  refine pv_stf (f2 := wf γ ks' ρ' x' g0 mo ad oa ov' q.2 z) (st2 := [.int (q.2 0 0)]) (c2 := cells + 3) (s2 := slots + 18) (by rw [va_up2]) rfl rfl rfl ?_
  refine pv_istore (lv' := [(5, .int (q.2 0 0)), (4, .int (nI i)), (0, .ref b), (1, .ref (ρ (0, 0))), (2, .ref mo), (3, .ref oa)]) C d_L_law_1157 (by decide) rfl ?_
  refine pk_fz (f2 := mm_f γ (kf ks' ρ' (cz γ ρ' q.2 x') (va_up g0 oa (lo γ ov'))) mo ad z) (wf_m hw') ?_
  refine pv_aload_n C d_L_law_1159 rfl 4 rfl ?_
  refine pv_aload_n C d_L_law_1160 rfl 2 rfl ?_
  refine pv_iload C d_L_law_1161 1 rfl ?_
  refine pv_iconst (v := 1) C d_L_law_1163 (by decide) ?_
  refine pv_iadd C d_L_law_1164 ?_
  refine pv_sld C Y (j := i + 1) (lw_ix i 1) (by omega) d_L_law_1165 ?_
  refine pv_aload_n C d_L_law_1166 rfl 2 rfl ?_
  refine pv_iload C d_L_law_1167 1 rfl ?_
  refine pv_iconst (v := 2) C d_L_law_1169 (by decide) ?_
  refine pv_iadd C d_L_law_1170 ?_
  refine pv_sld C Y (j := i + 2) (lw_ix i 2) (by omega) d_L_law_1171 ?_
  have hN := c_M_close (l0 := l0) (D := D) (γ := γ) (f0 := kf ks' ρ' (cz γ ρ' q.2 x') (va_up g0 oa (lo γ ov'))) hl0 hw'.2.1 z (xs (i + 1)) (xs (i + 2)) hz (zE_64 hE hz)
  rw [← hq] at hN
  refine pv_callV0 (n := 2) (As := [.int (xs (i + 1)), .int (xs (i + 2))]) (rest := []) C hN cd_M_close ml_L_154 in_M im_M_close se_M_close hw'.2.1.1 mm_obj rfl rfl (by decide +kernel) (by decide) rfl (Nat.le_of_ble_eq_true rfl) rfl d_L_law_1172 (show cells + 3 + 0 ≤ 601024 ∧ slots + 18 + 0 ≤ 7293034 from ⟨by omega, by omega⟩) (fun v9 LP8 f9 h9 => ?_)
  obtain ⟨rfl, w9, rfl⟩ := h9
  subst w9
  refine pv_stf (f2 := mm_f γ (kf ks' ρ' (cz γ ρ' q.2 x') (va_up g0 oa (lo γ ov'))) mo ad q.2) (st2 := [.int q.1]) (c2 := cells + 3) (s2 := slots + 18) rfl rfl rfl rfl ?_
  refine pv_istore (lv' := [(6, .int q.1), (5, .int (q.2 0 0)), (4, .int (nI i)), (0, .ref b), (1, .ref (ρ (0, 0))), (2, .ref mo), (3, .ref oa)]) C d_L_law_1175 (by decide) rfl ?_
  refine pv_aload_n C d_L_law_1177 rfl 5 rfl ?_
  refine pv_callV0 (n := 0) (As := []) (rest := []) C (c_M_thrown hl0 hw'.2.1 q.2) cd_M_thrown ml_L_102 in_M im_M_thrown se_M_thrown hw'.2.1.1 mm_obj rfl rfl (by decide +kernel) (by decide) rfl (Nat.le_of_ble_eq_true rfl) rfl d_L_law_1178 (show cells + 3 + 0 ≤ 601024 ∧ slots + 18 + 0 ≤ 7293034 from ⟨by omega, by omega⟩) (fun v9 LP8 f9 h9 => ?_)
  obtain ⟨rfl, w9, rfl⟩ := h9
  subst w9
  refine pv_stf (f2 := wf γ ks' ρ' x' g0 mo ad oa ov' q.2 q.2) (st2 := [.int (q.2 0 0)]) (c2 := cells + 3) (s2 := slots + 18) (wf_m hw').symm rfl rfl rfl ?_
  refine pv_iload C d_L_law_1181 1 rfl ?_
  refine pv_icmp_eq (tgt := 1188) C d_L_law_1183 (by decide) (fun _ => ?_) (fun w => absurd rfl w)
  refine pv_iload C d_L_law_1188 1 rfl ?_
  refine pv_if_ne (tgt := 1205) C d_L_law_1190 (by decide) (fun _ => ?_) (fun h0 => ?_)
  · refine pv_goto (tgt := 1677) C d_L_law_1205 (by decide) ?_
    refine pv_lvs (lv2 := [(4, .int (nI i)), (0, .ref b), (1, .ref (ρ' (0, 0))), (2, .ref mo), (3, .ref oa)]) [2, 3, 4, 5, 6] (by rw [hρ]; rfl) ?_
    exact pv_wide (by omega) (by omega) (kk _ _ _ _ _ _ hw')
  refine pv_aload_n C d_L_law_1193 rfl 6 rfl ?_
  refine pv_iconst (v := 0) C d_L_law_1194 (by decide) ?_
  refine pv_lald C 5 rfl hw'.2.2.1 ((kf_not hw'.2.2.2.1).trans (va_up_self _ _ _)) (j := 0) rfl (by decide) (by decide) d_L_law_1195 ?_
  refine pv_iload C d_L_law_1196 0 rfl ?_
  refine pv_i2l C d_L_law_1198 ?_
  refine pv_lcmp C d_L_law_1199 ?_
  refine pv_if_eq (tgt := 1205) C d_L_law_1200 (by decide) (fun _ => ?_) (fun w => absurd (by rw [hov h0, lg_self]) w)
  refine pv_goto (tgt := 1677) C d_L_law_1205 (by decide) ?_
  refine pv_lvs (lv2 := [(4, .int (nI i)), (0, .ref b), (1, .ref (ρ' (0, 0))), (2, .ref mo), (3, .ref oa)]) [2, 3, 4, 5, 6] (by rw [hρ]; rfl) ?_
  exact pv_wide (by omega) (by omega) (kk _ _ _ _ _ _ hw')
set_option maxRecDepth 100000 in
set_option maxHeartbeats 4000000 in
theorem lc_closeAll {l0 : Launch} {D : va_G} {γ : Nat → ClassId} {κ : pv_K} {b L : Nat} {xs : Nat → Int32} (hl0 : l0.stackTraces = false) (C : pv_C l0 D (tys_ γ) κ code RL room_1 7) (Y : pv_Y κ b L xs) {cells slots : Nat} {LP : List Nat} {ks : List kT} {ρ : kT → Nat} {z : zT} {x : xT} {mo : Nat} {ad : Nat → Nat} {oa : Nat} {ov : Nat → Int64} {g0 : Nat → va_E} (hw : wI LP ks ρ z x mo ad oa) {i : Nat} (hi : i + 6 ≤ L) (hcl : cells + 16 ≤ 601024) (hsl : slots + 128 ≤ 7293034) (kk : ∀ (LP' : List Nat) (ks' : List kT) (ρ' : kT → Nat) (z' : zT) (x' : xT) (ov' : Nat → Int64), wI LP' ks' ρ' z' x' mo ad oa → pv_V D κ (cells + 16) (slots + 128) LP' (wf γ ks' ρ' x' g0 mo ad oa ov' z' z') 1677 [(4, .int (nI i)), (0, .ref b), (1, .ref (ρ' (0, 0))), (2, .ref mo), (3, .ref oa)] []) : pv_V D κ cells slots LP (wf γ ks ρ x g0 mo ad oa ov z z) 1208 [(4, .int (nI i)), (0, .ref b), (1, .ref (ρ (0, 0))), (2, .ref mo), (3, .ref oa)] [] := by
  obtain ⟨J, G, hoL, hd1, hd2, hd3, hE⟩ := id hw
  have hz := J.2.2.1
  refine pv_aload_n C d_L_law_1208 rfl 2 rfl ?_
  refine pv_aload_n C d_L_law_1209 rfl 1 rfl ?_
  refine pv_iload C d_L_law_1210 0 rfl ?_
  refine pv_iconst (v := 1) C d_L_law_1212 (by decide) ?_
  refine pv_iadd C d_L_law_1213 ?_
  refine pv_sld C Y (j := i + 1) (lw_ix i 1) (by omega) d_L_law_1214 ?_
  refine pv_aload_n C d_L_law_1215 rfl 4 rfl ?_
  obtain ⟨q, hq⟩ : ∃ q : Int32 × zT, q = m_closeAll z (xs (i + 1)) := ⟨_, rfl⟩
  have hM := c_L_closeAll (l0 := l0) (D := D) (γ := γ) (f0 := va_up (mm_f γ g0 mo ad z) oa (lo γ ov)) hl0 J hoL (va_up_self _ _ _) hd1 (xs (i + 1))
  rw [← hq] at hM
  have hE1 : zE q.2 := by rw [hq]; exact zE_closeAll hE
  refine pv_callSH (n := 3) (As := [.ref (ρ (0, 0)), .int (xs (i + 1)), .ref oa]) (rest := []) C hM cd_L_closeAll ml_L_155 in_L sm_L_closeAll (by decide +kernel) (by decide) rfl (Nat.le_of_ble_eq_true rfl) rfl d_L_law_1216 (show cells + 2 ≤ 601024 ∧ slots + 12 ≤ 7293034 from ⟨by omega, by omega⟩) (fun v9 LP9 f9 h9 => ?_)
  obtain ⟨rfl, ks', ρ', x', ov', rfl, hov, J', hρ, hL, hfr⟩ := h9
  have hw' := wI_c hw J' hL hfr hE1
  refine pv_stf (f2 := wf γ ks' ρ' x' g0 mo ad oa ov' q.2 z) (st2 := [.int (q.2 0 0)]) (c2 := cells + 2) (s2 := slots + 12) (by rw [va_up2]) rfl rfl rfl ?_
  refine pv_istore (lv' := [(5, .int (q.2 0 0)), (4, .int (nI i)), (0, .ref b), (1, .ref (ρ (0, 0))), (2, .ref mo), (3, .ref oa)]) C d_L_law_1219 (by decide) rfl ?_
  refine pk_fz (f2 := mm_f γ (kf ks' ρ' (cz γ ρ' q.2 x') (va_up g0 oa (lo γ ov'))) mo ad z) (wf_m hw') ?_
  refine pv_aload_n C d_L_law_1221 rfl 4 rfl ?_
  refine pv_aload_n C d_L_law_1222 rfl 2 rfl ?_
  refine pv_iload C d_L_law_1223 1 rfl ?_
  refine pv_iconst (v := 1) C d_L_law_1225 (by decide) ?_
  refine pv_iadd C d_L_law_1226 ?_
  refine pv_sld C Y (j := i + 1) (lw_ix i 1) (by omega) d_L_law_1227 ?_
  have hN := c_M_closeAll (l0 := l0) (D := D) (γ := γ) (f0 := kf ks' ρ' (cz γ ρ' q.2 x') (va_up g0 oa (lo γ ov'))) hl0 hw'.2.1 z (xs (i + 1)) hz
  rw [← hq] at hN
  refine pv_callV0 (n := 1) (As := [.int (xs (i + 1))]) (rest := []) C hN cd_M_closeAll ml_L_157 in_M im_M_closeAll se_M_closeAll hw'.2.1.1 mm_obj rfl rfl (by decide +kernel) (by decide) rfl (Nat.le_of_ble_eq_true rfl) rfl d_L_law_1228 (show cells + 2 + 0 ≤ 601024 ∧ slots + 12 + 0 ≤ 7293034 from ⟨by omega, by omega⟩) (fun v9 LP8 f9 h9 => ?_)
  obtain ⟨rfl, w9, rfl⟩ := h9
  subst w9
  refine pv_stf (f2 := mm_f γ (kf ks' ρ' (cz γ ρ' q.2 x') (va_up g0 oa (lo γ ov'))) mo ad q.2) (st2 := [.int q.1]) (c2 := cells + 2) (s2 := slots + 12) rfl rfl rfl rfl ?_
  refine pv_istore (lv' := [(6, .int q.1), (5, .int (q.2 0 0)), (4, .int (nI i)), (0, .ref b), (1, .ref (ρ (0, 0))), (2, .ref mo), (3, .ref oa)]) C d_L_law_1231 (by decide) rfl ?_
  refine pv_aload_n C d_L_law_1233 rfl 5 rfl ?_
  refine pv_callV0 (n := 0) (As := []) (rest := []) C (c_M_thrown hl0 hw'.2.1 q.2) cd_M_thrown ml_L_102 in_M im_M_thrown se_M_thrown hw'.2.1.1 mm_obj rfl rfl (by decide +kernel) (by decide) rfl (Nat.le_of_ble_eq_true rfl) rfl d_L_law_1234 (show cells + 2 + 0 ≤ 601024 ∧ slots + 12 + 0 ≤ 7293034 from ⟨by omega, by omega⟩) (fun v9 LP8 f9 h9 => ?_)
  obtain ⟨rfl, w9, rfl⟩ := h9
  subst w9
  refine pv_stf (f2 := wf γ ks' ρ' x' g0 mo ad oa ov' q.2 q.2) (st2 := [.int (q.2 0 0)]) (c2 := cells + 2) (s2 := slots + 12) (wf_m hw').symm rfl rfl rfl ?_
  refine pv_iload C d_L_law_1237 1 rfl ?_
  refine pv_icmp_eq (tgt := 1244) C d_L_law_1239 (by decide) (fun _ => ?_) (fun w => absurd rfl w)
  refine pv_iload C d_L_law_1244 1 rfl ?_
  refine pv_if_ne (tgt := 1261) C d_L_law_1246 (by decide) (fun _ => ?_) (fun h0 => ?_)
  · refine pv_goto (tgt := 1677) C d_L_law_1261 (by decide) ?_
    refine pv_lvs (lv2 := [(4, .int (nI i)), (0, .ref b), (1, .ref (ρ' (0, 0))), (2, .ref mo), (3, .ref oa)]) [2, 3, 4, 5, 6] (by rw [hρ]; rfl) ?_
    exact pv_wide (by omega) (by omega) (kk _ _ _ _ _ _ hw')
  refine pv_aload_n C d_L_law_1249 rfl 6 rfl ?_
  refine pv_iconst (v := 0) C d_L_law_1250 (by decide) ?_
  refine pv_lald C 5 rfl hw'.2.2.1 ((kf_not hw'.2.2.2.1).trans (va_up_self _ _ _)) (j := 0) rfl (by decide) (by decide) d_L_law_1251 ?_
  refine pv_iload C d_L_law_1252 0 rfl ?_
  refine pv_i2l C d_L_law_1254 ?_
  refine pv_lcmp C d_L_law_1255 ?_
  refine pv_if_eq (tgt := 1261) C d_L_law_1256 (by decide) (fun _ => ?_) (fun w => absurd (by rw [hov h0, lg_self]) w)
  refine pv_goto (tgt := 1677) C d_L_law_1261 (by decide) ?_
  refine pv_lvs (lv2 := [(4, .int (nI i)), (0, .ref b), (1, .ref (ρ' (0, 0))), (2, .ref mo), (3, .ref oa)]) [2, 3, 4, 5, 6] (by rw [hρ]; rfl) ?_
  exact pv_wide (by omega) (by omega) (kk _ _ _ _ _ _ hw')
set_option maxRecDepth 100000 in
set_option maxHeartbeats 4000000 in
theorem lc_day {l0 : Launch} {D : va_G} {γ : Nat → ClassId} {κ : pv_K} {b L : Nat} {xs : Nat → Int32} (hl0 : l0.stackTraces = false) (C : pv_C l0 D (tys_ γ) κ code RL room_1 7) (Y : pv_Y κ b L xs) {cells slots : Nat} {LP : List Nat} {ks : List kT} {ρ : kT → Nat} {z : zT} {x : xT} {mo : Nat} {ad : Nat → Nat} {oa : Nat} {ov : Nat → Int64} {g0 : Nat → va_E} (hw : wI LP ks ρ z x mo ad oa) {i : Nat} (hi : i + 6 ≤ L) (hcl : cells + 16 ≤ 601024) (hsl : slots + 128 ≤ 7293034) (kk : ∀ (LP' : List Nat) (ks' : List kT) (ρ' : kT → Nat) (z' : zT) (x' : xT) (ov' : Nat → Int64), wI LP' ks' ρ' z' x' mo ad oa → pv_V D κ (cells + 16) (slots + 128) LP' (wf γ ks' ρ' x' g0 mo ad oa ov' z' z') 1677 [(4, .int (nI i)), (0, .ref b), (1, .ref (ρ' (0, 0))), (2, .ref mo), (3, .ref oa)] []) : pv_V D κ cells slots LP (wf γ ks ρ x g0 mo ad oa ov z z) 1264 [(4, .int (nI i)), (0, .ref b), (1, .ref (ρ (0, 0))), (2, .ref mo), (3, .ref oa)] [] := by
  obtain ⟨J, G, hoL, hd1, hd2, hd3, hE⟩ := id hw
  have hz := J.2.2.1
  refine pv_aload_n C d_L_law_1264 rfl 2 rfl ?_
  refine pv_aload_n C d_L_law_1265 rfl 1 rfl ?_
  refine pv_iload C d_L_law_1266 0 rfl ?_
  refine pv_iconst (v := 1) C d_L_law_1268 (by decide) ?_
  refine pv_iadd C d_L_law_1269 ?_
  refine pv_sld C Y (j := i + 1) (lw_ix i 1) (by omega) d_L_law_1270 ?_
  obtain ⟨q, hq⟩ : ∃ q : zT, q = m_day z (xs (i + 1)) := ⟨_, rfl⟩
  have hM := c_L_day (l0 := l0) (D := D) (γ := γ) (f0 := va_up (mm_f γ g0 mo ad z) oa (lo γ ov)) hl0 J (xs (i + 1))
  rw [← hq] at hM
  have hE1 : zE q := by rw [hq]; exact zE_day hE
  refine pv_callSH (n := 2) (As := [.ref (ρ (0, 0)), .int (xs (i + 1))]) (rest := []) C hM cd_L_day ml_L_158 in_L sm_L_day (by decide +kernel) (by decide) rfl (Nat.le_of_ble_eq_true rfl) rfl d_L_law_1271 (show cells + 2 ≤ 601024 ∧ slots + 12 ≤ 7293034 from ⟨by omega, by omega⟩) (fun v9 LP9 f9 h9 => ?_)
  obtain ⟨rfl, ks', ρ', x', rfl, J', hρ, hL, hfr⟩ := h9
  have hw' := wI_c hw J' hL hfr hE1
  refine pv_stf (f2 := wf γ ks' ρ' x' g0 mo ad oa ov q z) (st2 := [.int (q 0 0)]) (c2 := cells + 2) (s2 := slots + 12) (rfl) rfl rfl rfl ?_
  refine pv_istore (lv' := [(5, .int (q 0 0)), (4, .int (nI i)), (0, .ref b), (1, .ref (ρ (0, 0))), (2, .ref mo), (3, .ref oa)]) C d_L_law_1274 (by decide) rfl ?_
  refine pk_fz (f2 := mm_f γ (kf ks' ρ' (cz γ ρ' q x') (va_up g0 oa (lo γ ov))) mo ad z) (wf_m hw') ?_
  refine pv_aload_n C d_L_law_1276 rfl 4 rfl ?_
  refine pv_aload_n C d_L_law_1277 rfl 2 rfl ?_
  refine pv_iload C d_L_law_1278 1 rfl ?_
  refine pv_iconst (v := 1) C d_L_law_1280 (by decide) ?_
  refine pv_iadd C d_L_law_1281 ?_
  refine pv_sld C Y (j := i + 1) (lw_ix i 1) (by omega) d_L_law_1282 ?_
  have hN := c_M_day (l0 := l0) (D := D) (γ := γ) (f0 := kf ks' ρ' (cz γ ρ' q x') (va_up g0 oa (lo γ ov))) hl0 hw'.2.1 z (xs (i + 1))
  rw [← hq] at hN
  refine pv_callV0 (n := 1) (As := [.int (xs (i + 1))]) (rest := []) C hN cd_M_day ml_L_161 in_M im_M_day se_M_day hw'.2.1.1 mm_obj rfl rfl (by decide +kernel) (by decide) rfl (Nat.le_of_ble_eq_true rfl) rfl d_L_law_1283 (show cells + 2 + 0 ≤ 601024 ∧ slots + 12 + 0 ≤ 7293034 from ⟨by omega, by omega⟩) (fun v9 LP8 f9 h9 => ?_)
  obtain ⟨rfl, w9, rfl⟩ := h9
  subst w9
  refine pv_stf (f2 := mm_f γ (kf ks' ρ' (cz γ ρ' q x') (va_up g0 oa (lo γ ov))) mo ad q) (st2 := []) (c2 := cells + 2) (s2 := slots + 12) rfl rfl rfl rfl ?_
  refine pv_aload_n C d_L_law_1286 rfl 4 rfl ?_
  refine pv_callV0 (n := 0) (As := []) (rest := []) C (c_M_thrown hl0 hw'.2.1 q) cd_M_thrown ml_L_102 in_M im_M_thrown se_M_thrown hw'.2.1.1 mm_obj rfl rfl (by decide +kernel) (by decide) rfl (Nat.le_of_ble_eq_true rfl) rfl d_L_law_1287 (show cells + 2 + 0 ≤ 601024 ∧ slots + 12 + 0 ≤ 7293034 from ⟨by omega, by omega⟩) (fun v9 LP8 f9 h9 => ?_)
  obtain ⟨rfl, w9, rfl⟩ := h9
  subst w9
  refine pv_stf (f2 := wf γ ks' ρ' x' g0 mo ad oa ov q q) (st2 := [.int (q 0 0)]) (c2 := cells + 2) (s2 := slots + 12) (wf_m hw').symm rfl rfl rfl ?_
  refine pv_iload C d_L_law_1290 0 rfl ?_
  refine pv_icmp_eq (tgt := 1297) C d_L_law_1292 (by decide) (fun _ => ?_) (fun w => absurd rfl w)
  refine pv_goto (tgt := 1677) C d_L_law_1297 (by decide) ?_
  refine pv_lvs (lv2 := [(4, .int (nI i)), (0, .ref b), (1, .ref (ρ' (0, 0))), (2, .ref mo), (3, .ref oa)]) [1, 2, 3, 4, 5] (by rw [hρ]; rfl) ?_
  exact pv_wide (by omega) (by omega) (kk _ _ _ _ _ _ hw')
set_option maxRecDepth 100000 in
set_option maxHeartbeats 4000000 in
theorem lc_differ {l0 : Launch} {D : va_G} {γ : Nat → ClassId} {κ : pv_K} {b L : Nat} {xs : Nat → Int32} (hl0 : l0.stackTraces = false) (C : pv_C l0 D (tys_ γ) κ code RL room_1 7) (Y : pv_Y κ b L xs) {cells slots : Nat} {LP : List Nat} {ks : List kT} {ρ : kT → Nat} {z : zT} {x : xT} {mo : Nat} {ad : Nat → Nat} {oa : Nat} {ov : Nat → Int64} {g0 : Nat → va_E} (hw : wI LP ks ρ z x mo ad oa) {i : Nat} (hi : i + 6 ≤ L) (hcl : cells + 16 ≤ 601024) (hsl : slots + 128 ≤ 7293034) (kk : ∀ (LP' : List Nat) (ks' : List kT) (ρ' : kT → Nat) (z' : zT) (x' : xT) (ov' : Nat → Int64), wI LP' ks' ρ' z' x' mo ad oa → pv_V D κ (cells + 16) (slots + 128) LP' (wf γ ks' ρ' x' g0 mo ad oa ov' z' z') 1677 [(4, .int (nI i)), (0, .ref b), (1, .ref (ρ' (0, 0))), (2, .ref mo), (3, .ref oa)] []) : pv_V D κ cells slots LP (wf γ ks ρ x g0 mo ad oa ov z z) 1300 [(4, .int (nI i)), (0, .ref b), (1, .ref (ρ (0, 0))), (2, .ref mo), (3, .ref oa)] [] := by
  obtain ⟨J, G, hoL, hd1, hd2, hd3, hE⟩ := id hw
  have hz := J.2.2.1
  refine pv_aload_n C d_L_law_1300 rfl 2 rfl ?_
  refine pv_aload_n C d_L_law_1301 rfl 1 rfl ?_
  refine pv_iload C d_L_law_1302 0 rfl ?_
  refine pv_iconst (v := 1) C d_L_law_1304 (by decide) ?_
  refine pv_iadd C d_L_law_1305 ?_
  refine pv_sld C Y (j := i + 1) (lw_ix i 1) (by omega) d_L_law_1306 ?_
  refine pv_aload_n C d_L_law_1307 rfl 1 rfl ?_
  refine pv_iload C d_L_law_1308 0 rfl ?_
  refine pv_iconst (v := 2) C d_L_law_1310 (by decide) ?_
  refine pv_iadd C d_L_law_1311 ?_
  refine pv_sld C Y (j := i + 2) (lw_ix i 2) (by omega) d_L_law_1312 ?_
  refine pv_aload_n C d_L_law_1313 rfl 4 rfl ?_
  obtain ⟨q, hq⟩ : ∃ q : Int32 × zT, q = m_differ z (xs (i + 1)) (xs (i + 2)) := ⟨_, rfl⟩
  have hM := c_L_differ (l0 := l0) (D := D) (γ := γ) (f0 := va_up (mm_f γ g0 mo ad z) oa (lo γ ov)) hl0 J hoL (va_up_self _ _ _) hd1 (xs (i + 1)) (xs (i + 2))
  rw [← hq] at hM
  have hE1 : zE q.2 := by rw [hq]; exact zE_differ hE
  refine pv_callSH (n := 4) (As := [.ref (ρ (0, 0)), .int (xs (i + 1)), .int (xs (i + 2)), .ref oa]) (rest := []) C hM cd_L_differ ml_L_162 in_L sm_L_differ (by decide +kernel) (by decide) rfl (Nat.le_of_ble_eq_true rfl) rfl d_L_law_1314 (show cells + 2 ≤ 601024 ∧ slots + 12 ≤ 7293034 from ⟨by omega, by omega⟩) (fun v9 LP9 f9 h9 => ?_)
  obtain ⟨rfl, ks', ρ', x', ov', rfl, hov, J', hρ, hL, hfr⟩ := h9
  have hw' := wI_c hw J' hL hfr hE1
  refine pv_stf (f2 := wf γ ks' ρ' x' g0 mo ad oa ov' q.2 z) (st2 := [.int (q.2 0 0)]) (c2 := cells + 2) (s2 := slots + 12) (by rw [va_up2]) rfl rfl rfl ?_
  refine pv_istore (lv' := [(5, .int (q.2 0 0)), (4, .int (nI i)), (0, .ref b), (1, .ref (ρ (0, 0))), (2, .ref mo), (3, .ref oa)]) C d_L_law_1317 (by decide) rfl ?_
  refine pk_fz (f2 := mm_f γ (kf ks' ρ' (cz γ ρ' q.2 x') (va_up g0 oa (lo γ ov'))) mo ad z) (wf_m hw') ?_
  refine pv_aload_n C d_L_law_1319 rfl 4 rfl ?_
  refine pv_aload_n C d_L_law_1320 rfl 2 rfl ?_
  refine pv_iload C d_L_law_1321 1 rfl ?_
  refine pv_iconst (v := 1) C d_L_law_1323 (by decide) ?_
  refine pv_iadd C d_L_law_1324 ?_
  refine pv_sld C Y (j := i + 1) (lw_ix i 1) (by omega) d_L_law_1325 ?_
  refine pv_aload_n C d_L_law_1326 rfl 2 rfl ?_
  refine pv_iload C d_L_law_1327 1 rfl ?_
  refine pv_iconst (v := 2) C d_L_law_1329 (by decide) ?_
  refine pv_iadd C d_L_law_1330 ?_
  refine pv_sld C Y (j := i + 2) (lw_ix i 2) (by omega) d_L_law_1331 ?_
  have hN := c_M_differ (l0 := l0) (D := D) (γ := γ) (f0 := kf ks' ρ' (cz γ ρ' q.2 x') (va_up g0 oa (lo γ ov'))) hl0 hw'.2.1 z (xs (i + 1)) (xs (i + 2)) hz
  rw [← hq] at hN
  refine pv_callV0 (n := 2) (As := [.int (xs (i + 1)), .int (xs (i + 2))]) (rest := []) C hN cd_M_differ ml_L_164 in_M im_M_differ se_M_differ hw'.2.1.1 mm_obj rfl rfl (by decide +kernel) (by decide) rfl (Nat.le_of_ble_eq_true rfl) rfl d_L_law_1332 (show cells + 2 + 0 ≤ 601024 ∧ slots + 12 + 0 ≤ 7293034 from ⟨by omega, by omega⟩) (fun v9 LP8 f9 h9 => ?_)
  obtain ⟨rfl, w9, rfl⟩ := h9
  subst w9
  refine pv_stf (f2 := mm_f γ (kf ks' ρ' (cz γ ρ' q.2 x') (va_up g0 oa (lo γ ov'))) mo ad q.2) (st2 := [.int q.1]) (c2 := cells + 2) (s2 := slots + 12) rfl rfl rfl rfl ?_
  refine pv_istore (lv' := [(6, .int q.1), (5, .int (q.2 0 0)), (4, .int (nI i)), (0, .ref b), (1, .ref (ρ (0, 0))), (2, .ref mo), (3, .ref oa)]) C d_L_law_1335 (by decide) rfl ?_
  refine pv_aload_n C d_L_law_1337 rfl 5 rfl ?_
  refine pv_callV0 (n := 0) (As := []) (rest := []) C (c_M_thrown hl0 hw'.2.1 q.2) cd_M_thrown ml_L_102 in_M im_M_thrown se_M_thrown hw'.2.1.1 mm_obj rfl rfl (by decide +kernel) (by decide) rfl (Nat.le_of_ble_eq_true rfl) rfl d_L_law_1338 (show cells + 2 + 0 ≤ 601024 ∧ slots + 12 + 0 ≤ 7293034 from ⟨by omega, by omega⟩) (fun v9 LP8 f9 h9 => ?_)
  obtain ⟨rfl, w9, rfl⟩ := h9
  subst w9
  refine pv_stf (f2 := wf γ ks' ρ' x' g0 mo ad oa ov' q.2 q.2) (st2 := [.int (q.2 0 0)]) (c2 := cells + 2) (s2 := slots + 12) (wf_m hw').symm rfl rfl rfl ?_
  refine pv_iload C d_L_law_1341 1 rfl ?_
  refine pv_icmp_eq (tgt := 1348) C d_L_law_1343 (by decide) (fun _ => ?_) (fun w => absurd rfl w)
  refine pv_iload C d_L_law_1348 1 rfl ?_
  refine pv_if_ne (tgt := 1365) C d_L_law_1350 (by decide) (fun _ => ?_) (fun h0 => ?_)
  · refine pv_goto (tgt := 1677) C d_L_law_1365 (by decide) ?_
    refine pv_lvs (lv2 := [(4, .int (nI i)), (0, .ref b), (1, .ref (ρ' (0, 0))), (2, .ref mo), (3, .ref oa)]) [2, 3, 4, 5, 6] (by rw [hρ]; rfl) ?_
    exact pv_wide (by omega) (by omega) (kk _ _ _ _ _ _ hw')
  refine pv_aload_n C d_L_law_1353 rfl 6 rfl ?_
  refine pv_iconst (v := 0) C d_L_law_1354 (by decide) ?_
  refine pv_lald C 5 rfl hw'.2.2.1 ((kf_not hw'.2.2.2.1).trans (va_up_self _ _ _)) (j := 0) rfl (by decide) (by decide) d_L_law_1355 ?_
  refine pv_iload C d_L_law_1356 0 rfl ?_
  refine pv_i2l C d_L_law_1358 ?_
  refine pv_lcmp C d_L_law_1359 ?_
  refine pv_if_eq (tgt := 1365) C d_L_law_1360 (by decide) (fun _ => ?_) (fun w => absurd (by rw [hov h0, lg_self]) w)
  refine pv_goto (tgt := 1677) C d_L_law_1365 (by decide) ?_
  refine pv_lvs (lv2 := [(4, .int (nI i)), (0, .ref b), (1, .ref (ρ' (0, 0))), (2, .ref mo), (3, .ref oa)]) [2, 3, 4, 5, 6] (by rw [hρ]; rfl) ?_
  exact pv_wide (by omega) (by omega) (kk _ _ _ _ _ _ hw')
set_option maxRecDepth 100000 in
set_option maxHeartbeats 4000000 in
theorem lc_claim {l0 : Launch} {D : va_G} {γ : Nat → ClassId} {κ : pv_K} {b L : Nat} {xs : Nat → Int32} (hl0 : l0.stackTraces = false) (C : pv_C l0 D (tys_ γ) κ code RL room_1 7) (Y : pv_Y κ b L xs) {cells slots : Nat} {LP : List Nat} {ks : List kT} {ρ : kT → Nat} {z : zT} {x : xT} {mo : Nat} {ad : Nat → Nat} {oa : Nat} {ov : Nat → Int64} {g0 : Nat → va_E} (hw : wI LP ks ρ z x mo ad oa) {i : Nat} (hi : i + 6 ≤ L) (hcl : cells + 16 ≤ 601024) (hsl : slots + 128 ≤ 7293034) (kk : ∀ (LP' : List Nat) (ks' : List kT) (ρ' : kT → Nat) (z' : zT) (x' : xT) (ov' : Nat → Int64), wI LP' ks' ρ' z' x' mo ad oa → pv_V D κ (cells + 16) (slots + 128) LP' (wf γ ks' ρ' x' g0 mo ad oa ov' z' z') 1677 [(4, .int (nI i)), (0, .ref b), (1, .ref (ρ' (0, 0))), (2, .ref mo), (3, .ref oa)] []) : pv_V D κ cells slots LP (wf γ ks ρ x g0 mo ad oa ov z z) 1368 [(4, .int (nI i)), (0, .ref b), (1, .ref (ρ (0, 0))), (2, .ref mo), (3, .ref oa)] [] := by
  obtain ⟨J, G, hoL, hd1, hd2, hd3, hE⟩ := id hw
  have hz := J.2.2.1
  refine pv_aload_n C d_L_law_1368 rfl 2 rfl ?_
  refine pv_aload_n C d_L_law_1369 rfl 1 rfl ?_
  refine pv_iload C d_L_law_1370 0 rfl ?_
  refine pv_iconst (v := 1) C d_L_law_1372 (by decide) ?_
  refine pv_iadd C d_L_law_1373 ?_
  refine pv_sld C Y (j := i + 1) (lw_ix i 1) (by omega) d_L_law_1374 ?_
  refine pv_aload_n C d_L_law_1375 rfl 1 rfl ?_
  refine pv_iload C d_L_law_1376 0 rfl ?_
  refine pv_iconst (v := 2) C d_L_law_1378 (by decide) ?_
  refine pv_iadd C d_L_law_1379 ?_
  refine pv_sld C Y (j := i + 2) (lw_ix i 2) (by omega) d_L_law_1380 ?_
  refine pv_aload_n C d_L_law_1381 rfl 4 rfl ?_
  obtain ⟨q, hq⟩ : ∃ q : Int32 × zT, q = m_claim z (xs (i + 1)) (xs (i + 2)) := ⟨_, rfl⟩
  have hM := c_L_claim (l0 := l0) (D := D) (γ := γ) (f0 := va_up (mm_f γ g0 mo ad z) oa (lo γ ov)) hl0 J hoL (va_up_self _ _ _) hd1 (xs (i + 1)) (xs (i + 2))
  rw [← hq] at hM
  have hE1 : zE q.2 := by rw [hq]; exact zE_claim hE
  refine pv_callSH (n := 4) (As := [.ref (ρ (0, 0)), .int (xs (i + 1)), .int (xs (i + 2)), .ref oa]) (rest := []) C hM cd_L_claim ml_L_165 in_L sm_L_claim (by decide +kernel) (by decide) rfl (Nat.le_of_ble_eq_true rfl) rfl d_L_law_1382 (show cells + 2 ≤ 601024 ∧ slots + 12 ≤ 7293034 from ⟨by omega, by omega⟩) (fun v9 LP9 f9 h9 => ?_)
  obtain ⟨rfl, ks', ρ', x', ov', rfl, hov, J', hρ, hL, hfr⟩ := h9
  have hw' := wI_c hw J' hL hfr hE1
  refine pv_stf (f2 := wf γ ks' ρ' x' g0 mo ad oa ov' q.2 z) (st2 := [.int (q.2 0 0)]) (c2 := cells + 2) (s2 := slots + 12) (by rw [va_up2]) rfl rfl rfl ?_
  refine pv_istore (lv' := [(5, .int (q.2 0 0)), (4, .int (nI i)), (0, .ref b), (1, .ref (ρ (0, 0))), (2, .ref mo), (3, .ref oa)]) C d_L_law_1385 (by decide) rfl ?_
  refine pk_fz (f2 := mm_f γ (kf ks' ρ' (cz γ ρ' q.2 x') (va_up g0 oa (lo γ ov'))) mo ad z) (wf_m hw') ?_
  refine pv_aload_n C d_L_law_1387 rfl 4 rfl ?_
  refine pv_aload_n C d_L_law_1388 rfl 2 rfl ?_
  refine pv_iload C d_L_law_1389 1 rfl ?_
  refine pv_iconst (v := 1) C d_L_law_1391 (by decide) ?_
  refine pv_iadd C d_L_law_1392 ?_
  refine pv_sld C Y (j := i + 1) (lw_ix i 1) (by omega) d_L_law_1393 ?_
  refine pv_aload_n C d_L_law_1394 rfl 2 rfl ?_
  refine pv_iload C d_L_law_1395 1 rfl ?_
  refine pv_iconst (v := 2) C d_L_law_1397 (by decide) ?_
  refine pv_iadd C d_L_law_1398 ?_
  refine pv_sld C Y (j := i + 2) (lw_ix i 2) (by omega) d_L_law_1399 ?_
  have hN := c_M_claim (l0 := l0) (D := D) (γ := γ) (f0 := kf ks' ρ' (cz γ ρ' q.2 x') (va_up g0 oa (lo γ ov'))) hl0 hw'.2.1 z (xs (i + 1)) (xs (i + 2)) hz
  rw [← hq] at hN
  refine pv_callV0 (n := 2) (As := [.int (xs (i + 1)), .int (xs (i + 2))]) (rest := []) C hN cd_M_claim ml_L_167 in_M im_M_claim se_M_claim hw'.2.1.1 mm_obj rfl rfl (by decide +kernel) (by decide) rfl (Nat.le_of_ble_eq_true rfl) rfl d_L_law_1400 (show cells + 2 + 0 ≤ 601024 ∧ slots + 12 + 0 ≤ 7293034 from ⟨by omega, by omega⟩) (fun v9 LP8 f9 h9 => ?_)
  obtain ⟨rfl, w9, rfl⟩ := h9
  subst w9
  refine pv_stf (f2 := mm_f γ (kf ks' ρ' (cz γ ρ' q.2 x') (va_up g0 oa (lo γ ov'))) mo ad q.2) (st2 := [.int q.1]) (c2 := cells + 2) (s2 := slots + 12) rfl rfl rfl rfl ?_
  refine pv_istore (lv' := [(6, .int q.1), (5, .int (q.2 0 0)), (4, .int (nI i)), (0, .ref b), (1, .ref (ρ (0, 0))), (2, .ref mo), (3, .ref oa)]) C d_L_law_1403 (by decide) rfl ?_
  refine pv_aload_n C d_L_law_1405 rfl 5 rfl ?_
  refine pv_callV0 (n := 0) (As := []) (rest := []) C (c_M_thrown hl0 hw'.2.1 q.2) cd_M_thrown ml_L_102 in_M im_M_thrown se_M_thrown hw'.2.1.1 mm_obj rfl rfl (by decide +kernel) (by decide) rfl (Nat.le_of_ble_eq_true rfl) rfl d_L_law_1406 (show cells + 2 + 0 ≤ 601024 ∧ slots + 12 + 0 ≤ 7293034 from ⟨by omega, by omega⟩) (fun v9 LP8 f9 h9 => ?_)
  obtain ⟨rfl, w9, rfl⟩ := h9
  subst w9
  refine pv_stf (f2 := wf γ ks' ρ' x' g0 mo ad oa ov' q.2 q.2) (st2 := [.int (q.2 0 0)]) (c2 := cells + 2) (s2 := slots + 12) (wf_m hw').symm rfl rfl rfl ?_
  refine pv_iload C d_L_law_1409 1 rfl ?_
  refine pv_icmp_eq (tgt := 1416) C d_L_law_1411 (by decide) (fun _ => ?_) (fun w => absurd rfl w)
  refine pv_iload C d_L_law_1416 1 rfl ?_
  refine pv_if_ne (tgt := 1433) C d_L_law_1418 (by decide) (fun _ => ?_) (fun h0 => ?_)
  · refine pv_goto (tgt := 1677) C d_L_law_1433 (by decide) ?_
    refine pv_lvs (lv2 := [(4, .int (nI i)), (0, .ref b), (1, .ref (ρ' (0, 0))), (2, .ref mo), (3, .ref oa)]) [2, 3, 4, 5, 6] (by rw [hρ]; rfl) ?_
    exact pv_wide (by omega) (by omega) (kk _ _ _ _ _ _ hw')
  refine pv_aload_n C d_L_law_1421 rfl 6 rfl ?_
  refine pv_iconst (v := 0) C d_L_law_1422 (by decide) ?_
  refine pv_lald C 5 rfl hw'.2.2.1 ((kf_not hw'.2.2.2.1).trans (va_up_self _ _ _)) (j := 0) rfl (by decide) (by decide) d_L_law_1423 ?_
  refine pv_iload C d_L_law_1424 0 rfl ?_
  refine pv_i2l C d_L_law_1426 ?_
  refine pv_lcmp C d_L_law_1427 ?_
  refine pv_if_eq (tgt := 1433) C d_L_law_1428 (by decide) (fun _ => ?_) (fun w => absurd (by rw [hov h0, lg_self]) w)
  refine pv_goto (tgt := 1677) C d_L_law_1433 (by decide) ?_
  refine pv_lvs (lv2 := [(4, .int (nI i)), (0, .ref b), (1, .ref (ρ' (0, 0))), (2, .ref mo), (3, .ref oa)]) [2, 3, 4, 5, 6] (by rw [hρ]; rfl) ?_
  exact pv_wide (by omega) (by omega) (kk _ _ _ _ _ _ hw')
set_option maxRecDepth 100000 in
set_option maxHeartbeats 4000000 in
theorem lc_unit {l0 : Launch} {D : va_G} {γ : Nat → ClassId} {κ : pv_K} {b L : Nat} {xs : Nat → Int32} (hl0 : l0.stackTraces = false) (C : pv_C l0 D (tys_ γ) κ code RL room_1 7) (Y : pv_Y κ b L xs) {cells slots : Nat} {LP : List Nat} {ks : List kT} {ρ : kT → Nat} {z : zT} {x : xT} {mo : Nat} {ad : Nat → Nat} {oa : Nat} {ov : Nat → Int64} {g0 : Nat → va_E} (hw : wI LP ks ρ z x mo ad oa) {i : Nat} (hi : i + 6 ≤ L) (hcl : cells + 16 ≤ 601024) (hsl : slots + 128 ≤ 7293034) (kk : ∀ (LP' : List Nat) (ks' : List kT) (ρ' : kT → Nat) (z' : zT) (x' : xT) (ov' : Nat → Int64), wI LP' ks' ρ' z' x' mo ad oa → pv_V D κ (cells + 16) (slots + 128) LP' (wf γ ks' ρ' x' g0 mo ad oa ov' z' z') 1677 [(4, .int (nI i)), (0, .ref b), (1, .ref (ρ' (0, 0))), (2, .ref mo), (3, .ref oa)] []) : pv_V D κ cells slots LP (wf γ ks ρ x g0 mo ad oa ov z z) 1436 [(4, .int (nI i)), (0, .ref b), (1, .ref (ρ (0, 0))), (2, .ref mo), (3, .ref oa)] [] := by
  obtain ⟨J, G, hoL, hd1, hd2, hd3, hE⟩ := id hw
  have hz := J.2.2.1
  refine pv_aload_n C d_L_law_1436 rfl 2 rfl ?_
  refine pv_aload_n C d_L_law_1437 rfl 1 rfl ?_
  refine pv_iload C d_L_law_1438 0 rfl ?_
  refine pv_iconst (v := 1) C d_L_law_1440 (by decide) ?_
  refine pv_iadd C d_L_law_1441 ?_
  refine pv_sld C Y (j := i + 1) (lw_ix i 1) (by omega) d_L_law_1442 ?_
  refine pv_aload_n C d_L_law_1443 rfl 1 rfl ?_
  refine pv_iload C d_L_law_1444 0 rfl ?_
  refine pv_iconst (v := 2) C d_L_law_1446 (by decide) ?_
  refine pv_iadd C d_L_law_1447 ?_
  refine pv_sld C Y (j := i + 2) (lw_ix i 2) (by omega) d_L_law_1448 ?_
  refine pv_aload_n C d_L_law_1449 rfl 4 rfl ?_
  obtain ⟨q, hq⟩ : ∃ q : Int32 × zT, q = m_unit z (xs (i + 1)) (xs (i + 2)) := ⟨_, rfl⟩
  have hM := c_L_unit (l0 := l0) (D := D) (γ := γ) (f0 := va_up (mm_f γ g0 mo ad z) oa (lo γ ov)) hl0 J hoL (va_up_self _ _ _) hd1 (xs (i + 1)) (xs (i + 2))
  rw [← hq] at hM
  have hE1 : zE q.2 := by rw [hq]; exact zE_unit hE
  refine pv_callSH (n := 4) (As := [.ref (ρ (0, 0)), .int (xs (i + 1)), .int (xs (i + 2)), .ref oa]) (rest := []) C hM cd_L_unit ml_L_168 in_L sm_L_unit (by decide +kernel) (by decide) rfl (Nat.le_of_ble_eq_true rfl) rfl d_L_law_1450 (show cells + 2 ≤ 601024 ∧ slots + 12 ≤ 7293034 from ⟨by omega, by omega⟩) (fun v9 LP9 f9 h9 => ?_)
  obtain ⟨rfl, ks', ρ', x', ov', rfl, hov, J', hρ, hL, hfr⟩ := h9
  have hw' := wI_c hw J' hL hfr hE1
  refine pv_stf (f2 := wf γ ks' ρ' x' g0 mo ad oa ov' q.2 z) (st2 := [.int (q.2 0 0)]) (c2 := cells + 2) (s2 := slots + 12) (by rw [va_up2]) rfl rfl rfl ?_
  refine pv_istore (lv' := [(5, .int (q.2 0 0)), (4, .int (nI i)), (0, .ref b), (1, .ref (ρ (0, 0))), (2, .ref mo), (3, .ref oa)]) C d_L_law_1453 (by decide) rfl ?_
  refine pk_fz (f2 := mm_f γ (kf ks' ρ' (cz γ ρ' q.2 x') (va_up g0 oa (lo γ ov'))) mo ad z) (wf_m hw') ?_
  refine pv_aload_n C d_L_law_1455 rfl 4 rfl ?_
  refine pv_aload_n C d_L_law_1456 rfl 2 rfl ?_
  refine pv_iload C d_L_law_1457 1 rfl ?_
  refine pv_iconst (v := 1) C d_L_law_1459 (by decide) ?_
  refine pv_iadd C d_L_law_1460 ?_
  refine pv_sld C Y (j := i + 1) (lw_ix i 1) (by omega) d_L_law_1461 ?_
  refine pv_aload_n C d_L_law_1462 rfl 2 rfl ?_
  refine pv_iload C d_L_law_1463 1 rfl ?_
  refine pv_iconst (v := 2) C d_L_law_1465 (by decide) ?_
  refine pv_iadd C d_L_law_1466 ?_
  refine pv_sld C Y (j := i + 2) (lw_ix i 2) (by omega) d_L_law_1467 ?_
  have hN := c_M_unit (l0 := l0) (D := D) (γ := γ) (f0 := kf ks' ρ' (cz γ ρ' q.2 x') (va_up g0 oa (lo γ ov'))) hl0 hw'.2.1 z (xs (i + 1)) (xs (i + 2)) hz
  rw [← hq] at hN
  refine pv_callV0 (n := 2) (As := [.int (xs (i + 1)), .int (xs (i + 2))]) (rest := []) C hN cd_M_unit ml_L_170 in_M im_M_unit se_M_unit hw'.2.1.1 mm_obj rfl rfl (by decide +kernel) (by decide) rfl (Nat.le_of_ble_eq_true rfl) rfl d_L_law_1468 (show cells + 2 + 0 ≤ 601024 ∧ slots + 12 + 0 ≤ 7293034 from ⟨by omega, by omega⟩) (fun v9 LP8 f9 h9 => ?_)
  obtain ⟨rfl, w9, rfl⟩ := h9
  subst w9
  refine pv_stf (f2 := mm_f γ (kf ks' ρ' (cz γ ρ' q.2 x') (va_up g0 oa (lo γ ov'))) mo ad q.2) (st2 := [.int q.1]) (c2 := cells + 2) (s2 := slots + 12) rfl rfl rfl rfl ?_
  refine pv_istore (lv' := [(6, .int q.1), (5, .int (q.2 0 0)), (4, .int (nI i)), (0, .ref b), (1, .ref (ρ (0, 0))), (2, .ref mo), (3, .ref oa)]) C d_L_law_1471 (by decide) rfl ?_
  refine pv_aload_n C d_L_law_1473 rfl 5 rfl ?_
  refine pv_callV0 (n := 0) (As := []) (rest := []) C (c_M_thrown hl0 hw'.2.1 q.2) cd_M_thrown ml_L_102 in_M im_M_thrown se_M_thrown hw'.2.1.1 mm_obj rfl rfl (by decide +kernel) (by decide) rfl (Nat.le_of_ble_eq_true rfl) rfl d_L_law_1474 (show cells + 2 + 0 ≤ 601024 ∧ slots + 12 + 0 ≤ 7293034 from ⟨by omega, by omega⟩) (fun v9 LP8 f9 h9 => ?_)
  obtain ⟨rfl, w9, rfl⟩ := h9
  subst w9
  refine pv_stf (f2 := wf γ ks' ρ' x' g0 mo ad oa ov' q.2 q.2) (st2 := [.int (q.2 0 0)]) (c2 := cells + 2) (s2 := slots + 12) (wf_m hw').symm rfl rfl rfl ?_
  refine pv_iload C d_L_law_1477 1 rfl ?_
  refine pv_icmp_eq (tgt := 1484) C d_L_law_1479 (by decide) (fun _ => ?_) (fun w => absurd rfl w)
  refine pv_iload C d_L_law_1484 1 rfl ?_
  refine pv_if_ne (tgt := 1501) C d_L_law_1486 (by decide) (fun _ => ?_) (fun h0 => ?_)
  · refine pv_goto (tgt := 1677) C d_L_law_1501 (by decide) ?_
    refine pv_lvs (lv2 := [(4, .int (nI i)), (0, .ref b), (1, .ref (ρ' (0, 0))), (2, .ref mo), (3, .ref oa)]) [2, 3, 4, 5, 6] (by rw [hρ]; rfl) ?_
    exact pv_wide (by omega) (by omega) (kk _ _ _ _ _ _ hw')
  refine pv_aload_n C d_L_law_1489 rfl 6 rfl ?_
  refine pv_iconst (v := 0) C d_L_law_1490 (by decide) ?_
  refine pv_lald C 5 rfl hw'.2.2.1 ((kf_not hw'.2.2.2.1).trans (va_up_self _ _ _)) (j := 0) rfl (by decide) (by decide) d_L_law_1491 ?_
  refine pv_iload C d_L_law_1492 0 rfl ?_
  refine pv_i2l C d_L_law_1494 ?_
  refine pv_lcmp C d_L_law_1495 ?_
  refine pv_if_eq (tgt := 1501) C d_L_law_1496 (by decide) (fun _ => ?_) (fun w => absurd (by rw [hov h0, lg_self]) w)
  refine pv_goto (tgt := 1677) C d_L_law_1501 (by decide) ?_
  refine pv_lvs (lv2 := [(4, .int (nI i)), (0, .ref b), (1, .ref (ρ' (0, 0))), (2, .ref mo), (3, .ref oa)]) [2, 3, 4, 5, 6] (by rw [hρ]; rfl) ?_
  exact pv_wide (by omega) (by omega) (kk _ _ _ _ _ _ hw')
set_option maxRecDepth 100000 in
set_option maxHeartbeats 4000000 in
theorem lc_told {l0 : Launch} {D : va_G} {γ : Nat → ClassId} {κ : pv_K} {b L : Nat} {xs : Nat → Int32} (hl0 : l0.stackTraces = false) (C : pv_C l0 D (tys_ γ) κ code RL room_1 7) (Y : pv_Y κ b L xs) {cells slots : Nat} {LP : List Nat} {ks : List kT} {ρ : kT → Nat} {z : zT} {x : xT} {mo : Nat} {ad : Nat → Nat} {oa : Nat} {ov : Nat → Int64} {g0 : Nat → va_E} (hw : wI LP ks ρ z x mo ad oa) {i : Nat} (hi : i + 6 ≤ L) (hcl : cells + 16 ≤ 601024) (hsl : slots + 128 ≤ 7293034) (kk : ∀ (LP' : List Nat) (ks' : List kT) (ρ' : kT → Nat) (z' : zT) (x' : xT) (ov' : Nat → Int64), wI LP' ks' ρ' z' x' mo ad oa → pv_V D κ (cells + 16) (slots + 128) LP' (wf γ ks' ρ' x' g0 mo ad oa ov' z' z') 1677 [(4, .int (nI i)), (0, .ref b), (1, .ref (ρ' (0, 0))), (2, .ref mo), (3, .ref oa)] []) : pv_V D κ cells slots LP (wf γ ks ρ x g0 mo ad oa ov z z) 1504 [(4, .int (nI i)), (0, .ref b), (1, .ref (ρ (0, 0))), (2, .ref mo), (3, .ref oa)] [] := by
  obtain ⟨J, G, hoL, hd1, hd2, hd3, hE⟩ := id hw
  have hz := J.2.2.1
  refine pv_aload_n C d_L_law_1504 rfl 2 rfl ?_
  refine pv_aload_n C d_L_law_1505 rfl 1 rfl ?_
  refine pv_iload C d_L_law_1506 0 rfl ?_
  refine pv_iconst (v := 1) C d_L_law_1508 (by decide) ?_
  refine pv_iadd C d_L_law_1509 ?_
  refine pv_sld C Y (j := i + 1) (lw_ix i 1) (by omega) d_L_law_1510 ?_
  refine pv_aload_n C d_L_law_1511 rfl 1 rfl ?_
  refine pv_iload C d_L_law_1512 0 rfl ?_
  refine pv_iconst (v := 2) C d_L_law_1514 (by decide) ?_
  refine pv_iadd C d_L_law_1515 ?_
  refine pv_sld C Y (j := i + 2) (lw_ix i 2) (by omega) d_L_law_1516 ?_
  refine pv_aload_n C d_L_law_1517 rfl 1 rfl ?_
  refine pv_iload C d_L_law_1518 0 rfl ?_
  refine pv_iconst (v := 3) C d_L_law_1520 (by decide) ?_
  refine pv_iadd C d_L_law_1521 ?_
  refine pv_sld C Y (j := i + 3) (lw_ix i 3) (by omega) d_L_law_1522 ?_
  refine pv_aload_n C d_L_law_1523 rfl 4 rfl ?_
  obtain ⟨q, hq⟩ : ∃ q : Int32 × zT, q = m_told z (xs (i + 1)) (xs (i + 2)) (xs (i + 3)) := ⟨_, rfl⟩
  have hM := c_L_told (l0 := l0) (D := D) (γ := γ) (f0 := va_up (mm_f γ g0 mo ad z) oa (lo γ ov)) hl0 J hoL (va_up_self _ _ _) hd1 (xs (i + 1)) (xs (i + 2)) (xs (i + 3))
  rw [← hq] at hM
  have hE1 : zE q.2 := by rw [hq]; exact zE_told hE
  refine pv_callSH (n := 5) (As := [.ref (ρ (0, 0)), .int (xs (i + 1)), .int (xs (i + 2)), .int (xs (i + 3)), .ref oa]) (rest := []) C hM cd_L_told ml_L_171 in_L sm_L_told (by decide +kernel) (by decide) rfl (Nat.le_of_ble_eq_true rfl) rfl d_L_law_1524 (show cells + 3 ≤ 601024 ∧ slots + 18 ≤ 7293034 from ⟨by omega, by omega⟩) (fun v9 LP9 f9 h9 => ?_)
  obtain ⟨rfl, ks', ρ', x', ov', rfl, hov, J', hρ, hL, hfr⟩ := h9
  have hw' := wI_c hw J' hL hfr hE1
  refine pv_stf (f2 := wf γ ks' ρ' x' g0 mo ad oa ov' q.2 z) (st2 := [.int (q.2 0 0)]) (c2 := cells + 3) (s2 := slots + 18) (by rw [va_up2]) rfl rfl rfl ?_
  refine pv_istore (lv' := [(5, .int (q.2 0 0)), (4, .int (nI i)), (0, .ref b), (1, .ref (ρ (0, 0))), (2, .ref mo), (3, .ref oa)]) C d_L_law_1527 (by decide) rfl ?_
  refine pk_fz (f2 := mm_f γ (kf ks' ρ' (cz γ ρ' q.2 x') (va_up g0 oa (lo γ ov'))) mo ad z) (wf_m hw') ?_
  refine pv_aload_n C d_L_law_1529 rfl 4 rfl ?_
  refine pv_aload_n C d_L_law_1530 rfl 2 rfl ?_
  refine pv_iload C d_L_law_1531 1 rfl ?_
  refine pv_iconst (v := 1) C d_L_law_1533 (by decide) ?_
  refine pv_iadd C d_L_law_1534 ?_
  refine pv_sld C Y (j := i + 1) (lw_ix i 1) (by omega) d_L_law_1535 ?_
  refine pv_aload_n C d_L_law_1536 rfl 2 rfl ?_
  refine pv_iload C d_L_law_1537 1 rfl ?_
  refine pv_iconst (v := 2) C d_L_law_1539 (by decide) ?_
  refine pv_iadd C d_L_law_1540 ?_
  refine pv_sld C Y (j := i + 2) (lw_ix i 2) (by omega) d_L_law_1541 ?_
  refine pv_aload_n C d_L_law_1542 rfl 2 rfl ?_
  refine pv_iload C d_L_law_1543 1 rfl ?_
  refine pv_iconst (v := 3) C d_L_law_1545 (by decide) ?_
  refine pv_iadd C d_L_law_1546 ?_
  refine pv_sld C Y (j := i + 3) (lw_ix i 3) (by omega) d_L_law_1547 ?_
  have hN := c_M_told (l0 := l0) (D := D) (γ := γ) (f0 := kf ks' ρ' (cz γ ρ' q.2 x') (va_up g0 oa (lo γ ov'))) hl0 hw'.2.1 z (xs (i + 1)) (xs (i + 2)) (xs (i + 3)) hz
  rw [← hq] at hN
  refine pv_callV0 (n := 3) (As := [.int (xs (i + 1)), .int (xs (i + 2)), .int (xs (i + 3))]) (rest := []) C hN cd_M_told ml_L_173 in_M im_M_told se_M_told hw'.2.1.1 mm_obj rfl rfl (by decide +kernel) (by decide) rfl (Nat.le_of_ble_eq_true rfl) rfl d_L_law_1548 (show cells + 3 + 0 ≤ 601024 ∧ slots + 18 + 0 ≤ 7293034 from ⟨by omega, by omega⟩) (fun v9 LP8 f9 h9 => ?_)
  obtain ⟨rfl, w9, rfl⟩ := h9
  subst w9
  refine pv_stf (f2 := mm_f γ (kf ks' ρ' (cz γ ρ' q.2 x') (va_up g0 oa (lo γ ov'))) mo ad q.2) (st2 := [.int q.1]) (c2 := cells + 3) (s2 := slots + 18) rfl rfl rfl rfl ?_
  refine pv_istore (lv' := [(6, .int q.1), (5, .int (q.2 0 0)), (4, .int (nI i)), (0, .ref b), (1, .ref (ρ (0, 0))), (2, .ref mo), (3, .ref oa)]) C d_L_law_1551 (by decide) rfl ?_
  refine pv_aload_n C d_L_law_1553 rfl 5 rfl ?_
  refine pv_callV0 (n := 0) (As := []) (rest := []) C (c_M_thrown hl0 hw'.2.1 q.2) cd_M_thrown ml_L_102 in_M im_M_thrown se_M_thrown hw'.2.1.1 mm_obj rfl rfl (by decide +kernel) (by decide) rfl (Nat.le_of_ble_eq_true rfl) rfl d_L_law_1554 (show cells + 3 + 0 ≤ 601024 ∧ slots + 18 + 0 ≤ 7293034 from ⟨by omega, by omega⟩) (fun v9 LP8 f9 h9 => ?_)
  obtain ⟨rfl, w9, rfl⟩ := h9
  subst w9
  refine pv_stf (f2 := wf γ ks' ρ' x' g0 mo ad oa ov' q.2 q.2) (st2 := [.int (q.2 0 0)]) (c2 := cells + 3) (s2 := slots + 18) (wf_m hw').symm rfl rfl rfl ?_
  refine pv_iload C d_L_law_1557 1 rfl ?_
  refine pv_icmp_eq (tgt := 1564) C d_L_law_1559 (by decide) (fun _ => ?_) (fun w => absurd rfl w)
  refine pv_iload C d_L_law_1564 1 rfl ?_
  refine pv_if_ne (tgt := 1581) C d_L_law_1566 (by decide) (fun _ => ?_) (fun h0 => ?_)
  · refine pv_goto (tgt := 1677) C d_L_law_1581 (by decide) ?_
    refine pv_lvs (lv2 := [(4, .int (nI i)), (0, .ref b), (1, .ref (ρ' (0, 0))), (2, .ref mo), (3, .ref oa)]) [2, 3, 4, 5, 6] (by rw [hρ]; rfl) ?_
    exact pv_wide (by omega) (by omega) (kk _ _ _ _ _ _ hw')
  refine pv_aload_n C d_L_law_1569 rfl 6 rfl ?_
  refine pv_iconst (v := 0) C d_L_law_1570 (by decide) ?_
  refine pv_lald C 5 rfl hw'.2.2.1 ((kf_not hw'.2.2.2.1).trans (va_up_self _ _ _)) (j := 0) rfl (by decide) (by decide) d_L_law_1571 ?_
  refine pv_iload C d_L_law_1572 0 rfl ?_
  refine pv_i2l C d_L_law_1574 ?_
  refine pv_lcmp C d_L_law_1575 ?_
  refine pv_if_eq (tgt := 1581) C d_L_law_1576 (by decide) (fun _ => ?_) (fun w => absurd (by rw [hov h0, lg_self]) w)
  refine pv_goto (tgt := 1677) C d_L_law_1581 (by decide) ?_
  refine pv_lvs (lv2 := [(4, .int (nI i)), (0, .ref b), (1, .ref (ρ' (0, 0))), (2, .ref mo), (3, .ref oa)]) [2, 3, 4, 5, 6] (by rw [hρ]; rfl) ?_
  exact pv_wide (by omega) (by omega) (kk _ _ _ _ _ _ hw')
set_option maxRecDepth 100000 in
set_option maxHeartbeats 4000000 in
theorem lc_state {l0 : Launch} {D : va_G} {γ : Nat → ClassId} {κ : pv_K} {b L : Nat} {xs : Nat → Int32} (hl0 : l0.stackTraces = false) (C : pv_C l0 D (tys_ γ) κ code RL room_1 7) (Y : pv_Y κ b L xs) {cells slots : Nat} {LP : List Nat} {ks : List kT} {ρ : kT → Nat} {z : zT} {x : xT} {mo : Nat} {ad : Nat → Nat} {oa : Nat} {ov : Nat → Int64} {g0 : Nat → va_E} (hw : wI LP ks ρ z x mo ad oa) {i : Nat} (hi : i + 6 ≤ L) (hcl : cells + 16 ≤ 601024) (hsl : slots + 128 ≤ 7293034) (kk : ∀ (LP' : List Nat) (ks' : List kT) (ρ' : kT → Nat) (z' : zT) (x' : xT) (ov' : Nat → Int64), wI LP' ks' ρ' z' x' mo ad oa → pv_V D κ (cells + 16) (slots + 128) LP' (wf γ ks' ρ' x' g0 mo ad oa ov' z' z') 1677 [(4, .int (nI i)), (0, .ref b), (1, .ref (ρ' (0, 0))), (2, .ref mo), (3, .ref oa)] []) : pv_V D κ cells slots LP (wf γ ks ρ x g0 mo ad oa ov z z) 1584 [(4, .int (nI i)), (0, .ref b), (1, .ref (ρ (0, 0))), (2, .ref mo), (3, .ref oa)] [] := by
  obtain ⟨J, G, hoL, hd1, hd2, hd3, hE⟩ := id hw
  have hz := J.2.2.1
  refine pv_aload_n C d_L_law_1584 rfl 2 rfl ?_
  refine pv_aload_n C d_L_law_1585 rfl 1 rfl ?_
  refine pv_iload C d_L_law_1586 0 rfl ?_
  refine pv_iconst (v := 1) C d_L_law_1588 (by decide) ?_
  refine pv_iadd C d_L_law_1589 ?_
  refine pv_sld C Y (j := i + 1) (lw_ix i 1) (by omega) d_L_law_1590 ?_
  refine pv_aload_n C d_L_law_1591 rfl 1 rfl ?_
  refine pv_iload C d_L_law_1592 0 rfl ?_
  refine pv_iconst (v := 2) C d_L_law_1594 (by decide) ?_
  refine pv_iadd C d_L_law_1595 ?_
  refine pv_sld C Y (j := i + 2) (lw_ix i 2) (by omega) d_L_law_1596 ?_
  refine pv_aload_n C d_L_law_1597 rfl 4 rfl ?_
  obtain ⟨q, hq⟩ : ∃ q : Int32 × zT, q = m_state z (xs (i + 1)) (xs (i + 2)) := ⟨_, rfl⟩
  have hM := c_L_state (l0 := l0) (D := D) (γ := γ) (f0 := va_up (mm_f γ g0 mo ad z) oa (lo γ ov)) hl0 J hoL (va_up_self _ _ _) hd1 (xs (i + 1)) (xs (i + 2))
  rw [← hq] at hM
  have hE1 : zE q.2 := by rw [hq]; exact zE_state hE
  refine pv_callSH (n := 4) (As := [.ref (ρ (0, 0)), .int (xs (i + 1)), .int (xs (i + 2)), .ref oa]) (rest := []) C hM cd_L_state ml_L_174 in_L sm_L_state (by decide +kernel) (by decide) rfl (Nat.le_of_ble_eq_true rfl) rfl d_L_law_1598 (show cells + 2 ≤ 601024 ∧ slots + 12 ≤ 7293034 from ⟨by omega, by omega⟩) (fun v9 LP9 f9 h9 => ?_)
  obtain ⟨rfl, ks', ρ', x', ov', rfl, hov, J', hρ, hL, hfr⟩ := h9
  have hw' := wI_c hw J' hL hfr hE1
  refine pv_stf (f2 := wf γ ks' ρ' x' g0 mo ad oa ov' q.2 z) (st2 := [.int (q.2 0 0)]) (c2 := cells + 2) (s2 := slots + 12) (by rw [va_up2]) rfl rfl rfl ?_
  refine pv_istore (lv' := [(5, .int (q.2 0 0)), (4, .int (nI i)), (0, .ref b), (1, .ref (ρ (0, 0))), (2, .ref mo), (3, .ref oa)]) C d_L_law_1601 (by decide) rfl ?_
  refine pk_fz (f2 := mm_f γ (kf ks' ρ' (cz γ ρ' q.2 x') (va_up g0 oa (lo γ ov'))) mo ad z) (wf_m hw') ?_
  refine pv_aload_n C d_L_law_1603 rfl 4 rfl ?_
  refine pv_aload_n C d_L_law_1604 rfl 2 rfl ?_
  refine pv_iload C d_L_law_1605 1 rfl ?_
  refine pv_iconst (v := 1) C d_L_law_1607 (by decide) ?_
  refine pv_iadd C d_L_law_1608 ?_
  refine pv_sld C Y (j := i + 1) (lw_ix i 1) (by omega) d_L_law_1609 ?_
  refine pv_aload_n C d_L_law_1610 rfl 2 rfl ?_
  refine pv_iload C d_L_law_1611 1 rfl ?_
  refine pv_iconst (v := 2) C d_L_law_1613 (by decide) ?_
  refine pv_iadd C d_L_law_1614 ?_
  refine pv_sld C Y (j := i + 2) (lw_ix i 2) (by omega) d_L_law_1615 ?_
  have hN := c_M_state (l0 := l0) (D := D) (γ := γ) (f0 := kf ks' ρ' (cz γ ρ' q.2 x') (va_up g0 oa (lo γ ov'))) hl0 hw'.2.1 z (xs (i + 1)) (xs (i + 2)) hz
  rw [← hq] at hN
  refine pv_callV0 (n := 2) (As := [.int (xs (i + 1)), .int (xs (i + 2))]) (rest := []) C hN cd_M_state ml_L_176 in_M im_M_state se_M_state hw'.2.1.1 mm_obj rfl rfl (by decide +kernel) (by decide) rfl (Nat.le_of_ble_eq_true rfl) rfl d_L_law_1616 (show cells + 2 + 0 ≤ 601024 ∧ slots + 12 + 0 ≤ 7293034 from ⟨by omega, by omega⟩) (fun v9 LP8 f9 h9 => ?_)
  obtain ⟨rfl, w9, rfl⟩ := h9
  subst w9
  refine pv_stf (f2 := mm_f γ (kf ks' ρ' (cz γ ρ' q.2 x') (va_up g0 oa (lo γ ov'))) mo ad q.2) (st2 := [.int q.1]) (c2 := cells + 2) (s2 := slots + 12) rfl rfl rfl rfl ?_
  refine pv_istore (lv' := [(6, .int q.1), (5, .int (q.2 0 0)), (4, .int (nI i)), (0, .ref b), (1, .ref (ρ (0, 0))), (2, .ref mo), (3, .ref oa)]) C d_L_law_1619 (by decide) rfl ?_
  refine pv_aload_n C d_L_law_1621 rfl 5 rfl ?_
  refine pv_callV0 (n := 0) (As := []) (rest := []) C (c_M_thrown hl0 hw'.2.1 q.2) cd_M_thrown ml_L_102 in_M im_M_thrown se_M_thrown hw'.2.1.1 mm_obj rfl rfl (by decide +kernel) (by decide) rfl (Nat.le_of_ble_eq_true rfl) rfl d_L_law_1622 (show cells + 2 + 0 ≤ 601024 ∧ slots + 12 + 0 ≤ 7293034 from ⟨by omega, by omega⟩) (fun v9 LP8 f9 h9 => ?_)
  obtain ⟨rfl, w9, rfl⟩ := h9
  subst w9
  refine pv_stf (f2 := wf γ ks' ρ' x' g0 mo ad oa ov' q.2 q.2) (st2 := [.int (q.2 0 0)]) (c2 := cells + 2) (s2 := slots + 12) (wf_m hw').symm rfl rfl rfl ?_
  refine pv_iload C d_L_law_1625 1 rfl ?_
  refine pv_icmp_eq (tgt := 1632) C d_L_law_1627 (by decide) (fun _ => ?_) (fun w => absurd rfl w)
  refine pv_iload C d_L_law_1632 1 rfl ?_
  refine pv_if_ne (tgt := 1649) C d_L_law_1634 (by decide) (fun _ => ?_) (fun h0 => ?_)
  · refine pv_goto (tgt := 1677) C d_L_law_1649 (by decide) ?_
    refine pv_lvs (lv2 := [(4, .int (nI i)), (0, .ref b), (1, .ref (ρ' (0, 0))), (2, .ref mo), (3, .ref oa)]) [2, 3, 4, 5, 6] (by rw [hρ]; rfl) ?_
    exact pv_wide (by omega) (by omega) (kk _ _ _ _ _ _ hw')
  refine pv_aload_n C d_L_law_1637 rfl 6 rfl ?_
  refine pv_iconst (v := 0) C d_L_law_1638 (by decide) ?_
  refine pv_lald C 5 rfl hw'.2.2.1 ((kf_not hw'.2.2.2.1).trans (va_up_self _ _ _)) (j := 0) rfl (by decide) (by decide) d_L_law_1639 ?_
  refine pv_iload C d_L_law_1640 0 rfl ?_
  refine pv_i2l C d_L_law_1642 ?_
  refine pv_lcmp C d_L_law_1643 ?_
  refine pv_if_eq (tgt := 1649) C d_L_law_1644 (by decide) (fun _ => ?_) (fun w => absurd (by rw [hov h0, lg_self]) w)
  refine pv_goto (tgt := 1677) C d_L_law_1649 (by decide) ?_
  refine pv_lvs (lv2 := [(4, .int (nI i)), (0, .ref b), (1, .ref (ρ' (0, 0))), (2, .ref mo), (3, .ref oa)]) [2, 3, 4, 5, 6] (by rw [hρ]; rfl) ?_
  exact pv_wide (by omega) (by omega) (kk _ _ _ _ _ _ hw')
set_option maxRecDepth 100000 in
set_option maxHeartbeats 4000000 in
theorem lc_count1 {l0 : Launch} {D : va_G} {γ : Nat → ClassId} {κ : pv_K} {b L : Nat} {xs : Nat → Int32} (hl0 : l0.stackTraces = false) (C : pv_C l0 D (tys_ γ) κ code RL room_1 7) (Y : pv_Y κ b L xs) {cells slots : Nat} {LP : List Nat} {ks : List kT} {ρ : kT → Nat} {z : zT} {x : xT} {mo : Nat} {ad : Nat → Nat} {oa : Nat} {ov : Nat → Int64} {g0 : Nat → va_E} (hw : wI LP ks ρ z x mo ad oa) {i : Nat} (hi : i + 6 ≤ L) (hcl : cells + 16 ≤ 601024) (hsl : slots + 128 ≤ 7293034) (kk : ∀ (LP' : List Nat) (ks' : List kT) (ρ' : kT → Nat) (z' : zT) (x' : xT) (ov' : Nat → Int64), wI LP' ks' ρ' z' x' mo ad oa → pv_V D κ (cells + 16) (slots + 128) LP' (wf γ ks' ρ' x' g0 mo ad oa ov' z' z') 1677 [(4, .int (nI i)), (0, .ref b), (1, .ref (ρ' (0, 0))), (2, .ref mo), (3, .ref oa)] []) : pv_V D κ cells slots LP (wf γ ks ρ x g0 mo ad oa ov z z) 1652 [(4, .int (nI i)), (0, .ref b), (1, .ref (ρ (0, 0))), (2, .ref mo), (3, .ref oa)] [] := by
  obtain ⟨J, G, hoL, hd1, hd2, hd3, hE⟩ := id hw
  have M0 : ((0, 0) : kT) ∈ ks := (J.2.1 _).mpr (Nat.zero_le _)
  refine pv_aload_n C d_L_law_1652 rfl 2 rfl ?_
  refine pv_aload_n C d_L_law_1653 rfl 1 rfl ?_
  refine pv_iload C d_L_law_1654 0 rfl ?_
  refine pv_iconst (v := 1) C d_L_law_1656 (by decide) ?_
  refine pv_iadd C d_L_law_1657 ?_
  refine pv_sld C Y (j := i + 1) (lw_ix i 1) (by omega) d_L_law_1658 ?_
  obtain ⟨q, hq⟩ : ∃ q : Int32 × zT, q = m_count1 z (xs (i + 1)) := ⟨_, rfl⟩
  have hM := c_S_count1 (l0 := l0) (D := D) (γ := γ) (f0 := va_up (mm_f γ g0 mo ad z) oa (lo γ ov)) hl0 J (xs (i + 1))
  rw [← hq] at hM
  have hE1 : zE q.2 := by rw [hq]; unfold m_count1; (repeat' split) <;> exact zE_of hE rfl rfl
  refine pv_callV0 (n := 1) (As := [.int (xs (i + 1))]) (rest := []) C hM cd_S_count1 ml_L_177 in_S im_S_count1 se_S_count1 (J.1.1 _ M0) ((kf_at J.1 M0).trans rfl) rfl rfl (by decide +kernel) (by decide) rfl (Nat.le_of_ble_eq_true rfl) rfl d_L_law_1659 (show cells + 0 ≤ 601024 ∧ slots + 0 ≤ 7293034 from ⟨by omega, by omega⟩) (fun v9 LP9 f9 h9 => ?_)
  obtain ⟨rfl, h0, ks', ρ', x', rfl, J', hρ, hL, hfr⟩ := h9
  have hw' := wI_c hw J' hL hfr hE1
  refine pv_stf (f2 := mm_f γ (kf ks' ρ' (cz γ ρ' q.2 x') (va_up g0 oa (lo γ ov))) mo ad z) (st2 := [.int q.1]) (c2 := cells + 0) (s2 := slots + 0) (wf_m hw') rfl rfl rfl ?_
  refine pv_aload_n C d_L_law_1662 rfl 3 rfl ?_
  refine pv_aload_n C d_L_law_1663 rfl 1 rfl ?_
  refine pv_iload C d_L_law_1664 0 rfl ?_
  refine pv_iconst (v := 1) C d_L_law_1666 (by decide) ?_
  refine pv_iadd C d_L_law_1667 ?_
  refine pv_sld C Y (j := i + 1) (lw_ix i 1) (by omega) d_L_law_1668 ?_
  have hN := c_M_count1 (l0 := l0) (D := D) (γ := γ) (f0 := kf ks' ρ' (cz γ ρ' q.2 x') (va_up g0 oa (lo γ ov))) hl0 hw'.2.1 z (xs (i + 1))
  rw [← hq] at hN
  refine pv_callV0 (n := 1) (As := [.int (xs (i + 1))]) (rest := [.int q.1]) C hN cd_M_count1 ml_L_179 in_M im_M_count1 se_M_count1 hw'.2.1.1 mm_obj rfl rfl (by decide +kernel) (by decide) rfl (Nat.le_of_ble_eq_true rfl) rfl d_L_law_1669 (show cells + 0 + 0 ≤ 601024 ∧ slots + 0 + 0 ≤ 7293034 from ⟨by omega, by omega⟩) (fun v9 LP8 f9 h9 => ?_)
  obtain ⟨rfl, w9, rfl⟩ := h9
  subst w9
  refine pv_stf (f2 := wf γ ks' ρ' x' g0 mo ad oa ov q.2 q.2) (st2 := [.int q.1, .int q.1]) (c2 := cells + 0) (s2 := slots + 0) (wf_m hw').symm rfl rfl rfl ?_
  refine pv_icmp_eq (tgt := 1677) C d_L_law_1672 (by decide) (fun _ => ?_) (fun w => absurd rfl w)
  refine pv_lvs (lv2 := [(4, .int (nI i)), (0, .ref b), (1, .ref (ρ' (0, 0))), (2, .ref mo), (3, .ref oa)]) [0, 1, 2, 3, 4] (by rw [hρ]; rfl) ?_
  exact pv_wide (by omega) (by omega) (kk _ _ _ _ _ _ hw')
