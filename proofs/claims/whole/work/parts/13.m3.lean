/-! contracts of the reference: sample, close, count (by wip/whole/gen/m3.py) -/
def m_qn (ln : Int32) : Nat → Nat → zT → zT
  | 0, _, q => q
  | n + 1, t, q => if q 19 (t + 1) = ln then (if q 20 (t + 1) = 0 then m_qn ln n (t + 1) (zs q 20 (t + 1) 2) else m_qn ln n (t + 1) q) else m_qn ln n (t + 1) q
abbrev rm_M_sample : Room := { frames := 3, cells := 0, slots := 0, locals := 65 }
def m_sample (z : zT) (a : Int32) (n : Int32) (b : Bool) : Int32 × zT :=
  (if (isL z a n) = true then (if (z 7 (ix a)) = 1 then (if (z 16 (4 * ix a + ix n)) = 0 then (if (m_open z (4 * ix a + ix n)) = 0 then (0, (zs (zs z 0 0 0) 0 0 2)) else (if b = true then ((m_open (zs (zs (zs z 0 0 0) 0 0 0) 14 (4 * ix a + ix n) ((z 14 (4 * ix a + ix n)) + 1)) (4 * ix a + ix n)), (zs (zs (zs z 0 0 0) 0 0 0) 14 (4 * ix a + ix n) ((z 14 (4 * ix a + ix n)) + 1))) else (m_open (m_qn ((4 * a) + n) (zU z) 0 (zs (zs (zs (zs z 0 0 0) 0 0 0) 14 (4 * ix a + ix n) ((z 14 (4 * ix a + ix n)) + 1)) 15 (4 * ix a + ix n) 1)) (4 * ix a + ix n), m_qn ((4 * a) + n) (zU z) 0 (zs (zs (zs (zs z 0 0 0) 0 0 0) 14 (4 * ix a + ix n) ((z 14 (4 * ix a + ix n)) + 1)) 15 (4 * ix a + ix n) 1)))) else (0, (zs (zs z 0 0 0) 0 0 2))) else (0, (zs (zs z 0 0 0) 0 0 2))) else (0, (zs z 0 0 1)))
set_option maxRecDepth 100000 in
set_option maxHeartbeats 4000000 in
theorem c_M_sample {l0 : Launch} {D : va_G} {γ : Nat → ClassId} (hl0 : l0.stackTraces = false) {LP : List Nat} {f0 : Nat → va_E} {mo : Nat} {ad : Nat → Nat} (G : mm_H mo ad LP) (z : zT) (a : Int32) (n : Int32) (b : Bool) (hz : zI z) : mM l0 D γ y_M_sample (Cond.code y_M_sample b_M_sample 6 (Option.some FieldType.int)) rm_M_sample [.ref mo, .int a, .int n, .int (bN b)] LP f0 mo ad z (some (.int (m_sample z a n b).1)) (m_sample z a n b).2 := by
  refine pv_mk hl0 (by decide) (Nat.le_of_ble_eq_true rfl) (fun κ C R0 hN _ => ?_)
  show pv_V D κ 0 0 LP (mm_f γ f0 mo ad z) 0 [(0, .ref mo), (1, .int a), (2, .int n), (3, .int (bN b))] []
  have loop : ∀ (n9 : Nat) (t : Nat) (q : zT) (h1 : t ≤ zU z) (hL : (a = nI (ix a) ∧ 1 ≤ ix a ∧ ix a ≤ zA z ∧ ix a ≤ 16) ∧ n = nI (ix n) ∧ ix n < zt z (ix a) ∧ ix n < 4) (h18 : q 18 0 = nI (zU z)) (hres : m_sample z a n b = (m_open (m_qn ((4 * a) + n) (zU z - t) t q) (4 * ix a + ix n), m_qn ((4 * a) + n) (zU z - t) t q)), zU z - t < n9 → pv_V D κ 0 0 LP (mm_f γ f0 mo ad q) 107 [(5, .int (nI (t + 1))), (4, .int ((4 * a) + n)), (0, .ref mo), (1, .int a), (2, .int n), (3, .int (bN b))] [] := by
    intro n9
    induction n9 with
    | zero => intro t q h1 hL h18 hres hm; exact absurd hm (Nat.not_lt_zero _)
    | succ n9 ih =>
      intro t q h1 hL h18 hres hm
      have hz1 := hz.2.1.2
      refine pv_iload C d_M_sample_107 0 rfl ?_
      refine pv_aload_n C d_M_sample_109 rfl 2 rfl ?_
      refine pm_get (v := .int (q 18 0)) C G 18 (by decide) fl_M_98 rfl rfl d_M_sample_110 ?_
      refine pv_icmp_gt (tgt := 152) C d_M_sample_113 (by decide) (fun h101 => ?_) (fun h101 => ?_)
      · have he : zU z - t = 0 := by rw [h18] at h101; have := (nI_ltI (by omega) (by omega)).mp h101; omega
        refine pv_aload_n C d_M_sample_152 rfl 2 rfl ?_
        refine pv_iload C d_M_sample_153 1 rfl ?_
        refine pv_callV (n := 1) (As := [.int ((4 * a) + n)]) (rest := []) C (c_M_openSamples hl0 G q ((4 * a) + n) (4 * ix a + ix n) (by omega) (ln_ix hL.1.1 hL.2.1)) cd_M_openSamples ml_M_118 in_M im_M_openSamples se_M_openSamples G.1 mm_obj rfl rfl (by decide +kernel) (by decide) rfl (Nat.le_of_ble_eq_true rfl) rfl d_M_sample_155 (by decide) hN R0 (fun _ h => h.elim) (fun v9 LP9 f9 h9 => ?_)
        obtain ⟨rfl, rfl, rfl⟩ := h9
        refine pv_stf (f2 := mm_f γ f0 mo ad q) (st2 := [.int (m_open q (4 * ix a + ix n))]) (c2 := 0) (s2 := 0) rfl rfl rfl rfl ?_
        exact pv_iret C R0 d_M_sample_158 (by decide) (by decide) (mP_i (by rw [hres, he]; rfl))
      · have hle : t + 1 ≤ zU z := by rw [h18] at h101; exact Nat.not_lt.mp (fun q => h101 (nI_lt q (by omega)))
        have hf : zU z - t = (zU z - (t + 1)) + 1 := by omega
        refine pv_aload_n C d_M_sample_116 rfl 2 rfl ?_
        refine pm_get (v := .ref (ad 19)) C G 19 (by decide) fl_M_56 rfl rfl d_M_sample_117 ?_
        refine pv_iload C d_M_sample_120 0 rfl ?_
        refine pm_ald C G 19 (by decide) rfl (j := (t + 1)) rfl (show (t + 1) < 121 by omega) d_M_sample_122 ?_
        refine pv_top (y := (q 19 (t + 1))) rfl ?_
        refine pv_iload C d_M_sample_123 1 rfl ?_
        refine pv_icmp_ne (tgt := 146) C d_M_sample_125 (by decide) (fun h102 => ?_) (fun h102 => ?_)
        · refine pv_iinc (v := ((nI (t + 1)) + 1)) (lv' := [(5, .int ((nI (t + 1)) + 1)), (4, .int ((4 * a) + n)), (0, .ref mo), (1, .int a), (2, .int n), (3, .int (bN b))]) C d_M_sample_146 0 rfl rfl (by decide) rfl ?_
          refine pv_goto (tgt := 107) C d_M_sample_149 (by decide) ?_
          refine pv_lvs (lv2 := [(5, .int (nI (t + 1 + 1))), (4, .int ((4 * a) + n)), (0, .ref mo), (1, .int a), (2, .int n), (3, .int (bN b))]) [0, 1, 2, 3, 4, 5] (by rw [← nI_next (t + 1)]; rfl) ?_
          exact ih (t + 1) q (by omega) hL (h18) (by rw [hres, hf, m_qn, if_neg h102]) (by omega)
        · refine pv_aload_n C d_M_sample_128 rfl 2 rfl ?_
          refine pm_get (v := .ref (ad 20)) C G 20 (by decide) fl_M_59 rfl rfl d_M_sample_129 ?_
          refine pv_iload C d_M_sample_132 0 rfl ?_
          refine pm_ald C G 20 (by decide) rfl (j := (t + 1)) rfl (show (t + 1) < 121 by omega) d_M_sample_134 ?_
          refine pv_top (y := (q 20 (t + 1))) rfl ?_
          refine pv_if_ne (tgt := 146) C d_M_sample_135 (by decide) (fun h103 => ?_) (fun h103 => ?_)
          · refine pv_iinc (v := ((nI (t + 1)) + 1)) (lv' := [(5, .int ((nI (t + 1)) + 1)), (4, .int ((4 * a) + n)), (0, .ref mo), (1, .int a), (2, .int n), (3, .int (bN b))]) C d_M_sample_146 0 rfl rfl (by decide) rfl ?_
            refine pv_goto (tgt := 107) C d_M_sample_149 (by decide) ?_
            refine pv_lvs (lv2 := [(5, .int (nI (t + 1 + 1))), (4, .int ((4 * a) + n)), (0, .ref mo), (1, .int a), (2, .int n), (3, .int (bN b))]) [0, 1, 2, 3, 4, 5] (by rw [← nI_next (t + 1)]; rfl) ?_
            exact ih (t + 1) q (by omega) hL (h18) (by rw [hres, hf, m_qn, if_pos h102, if_neg h103]) (by omega)
          · refine pv_aload_n C d_M_sample_138 rfl 2 rfl ?_
            refine pm_get (v := .ref (ad 20)) C G 20 (by decide) fl_M_59 rfl rfl d_M_sample_139 ?_
            refine pv_iload C d_M_sample_142 0 rfl ?_
            refine pv_iconst (v := 2) C d_M_sample_144 (by decide) ?_
            refine pm_ast C G 20 (by decide) rfl (j := (t + 1)) rfl (show (t + 1) < 121 by omega) d_M_sample_145 ?_
            refine pv_iinc (v := ((nI (t + 1)) + 1)) (lv' := [(5, .int ((nI (t + 1)) + 1)), (4, .int ((4 * a) + n)), (0, .ref mo), (1, .int a), (2, .int n), (3, .int (bN b))]) C d_M_sample_146 0 rfl rfl (by decide) rfl ?_
            refine pv_goto (tgt := 107) C d_M_sample_149 (by decide) ?_
            refine pv_lvs (lv2 := [(5, .int (nI (t + 1 + 1))), (4, .int ((4 * a) + n)), (0, .ref mo), (1, .int a), (2, .int n), (3, .int (bN b))]) [0, 1, 2, 3, 4, 5] (by rw [← nI_next (t + 1)]; rfl) ?_
            exact ih (t + 1) (zs q 20 (t + 1) 2) (by omega) hL ((zs_k _ _ (by decide)).trans h18) (by rw [hres, hf, m_qn, if_pos h102, if_pos h103]) (by omega)
  refine pv_aload_n C d_M_sample_0 rfl 0 rfl ?_
  refine pv_aload_n C d_M_sample_1 rfl 0 rfl ?_
  refine pv_iload_n C d_M_sample_2 rfl 1 rfl ?_
  refine pv_iload_n C d_M_sample_3 rfl 2 rfl ?_
  refine pv_callV (n := 2) (As := [.int a, .int n]) (rest := [.ref mo]) C (c_M_isLine hl0 G z a n hz) cd_M_isLine ml_M_107 in_M im_M_isLine se_M_isLine G.1 mm_obj rfl rfl (by decide +kernel) (by decide) rfl (Nat.le_of_ble_eq_true rfl) rfl d_M_sample_4 (by decide) hN R0 (fun _ h => h.elim) (fun v9 LP9 f9 h9 => ?_)
  obtain ⟨rfl, rfl, rfl⟩ := h9
  refine pv_stf (f2 := mm_f γ f0 mo ad z) (st2 := [.int (bN (isL z a n)), .ref mo]) (c2 := 0) (s2 := 0) rfl rfl rfl rfl ?_
  refine pv_ifb_ne (tgt := 14) C d_M_sample_7 (by decide) (fun h1 => ?_) (fun h1 => ?_)
  · have hL := isL_ix hz h1
    refine pv_iconst (v := 0) C d_M_sample_14 (by decide) ?_
    refine pm_put C G 0 (by decide) fl_M_83 rfl rfl rfl (by decide) rfl d_M_sample_15 ?_
    refine pv_aload_n C d_M_sample_18 rfl 0 rfl ?_
    refine pm_get (v := .int 0) C G 0 (by decide) fl_M_83 rfl rfl d_M_sample_19 ?_
    refine pv_if_le (tgt := 27) C d_M_sample_22 (by decide) (fun _ => ?_) (fun q => absurd q (by decide))
    refine pv_iconst (v := 4) C d_M_sample_27 (by decide) ?_
    refine pv_iload_n C d_M_sample_28 rfl 1 rfl ?_
    refine pv_imul C d_M_sample_29 ?_
    refine pv_iload_n C d_M_sample_30 rfl 2 rfl ?_
    refine pv_iadd C d_M_sample_31 ?_
    refine pv_istore (lv' := [(4, .int ((4 * a) + n)), (0, .ref mo), (1, .int a), (2, .int n), (3, .int (bN b))]) C d_M_sample_32 (by decide) rfl ?_
    refine pv_aload_n C d_M_sample_34 rfl 1 rfl ?_
    refine pv_aload_n C d_M_sample_35 rfl 1 rfl ?_
    refine pm_get (v := .ref (ad 7)) C G 7 (by decide) fl_M_23 rfl rfl d_M_sample_36 ?_
    refine pv_iload_n C d_M_sample_39 rfl 2 rfl ?_
    refine pm_ald C G 7 (by decide) rfl (j := (ix a)) hL.1.1 (show (ix a) < 17 by omega) d_M_sample_40 ?_
    refine pv_top (y := (z 7 (ix a))) (zs_k _ _ (by decide)) ?_
    refine pv_iconst (v := 1) C d_M_sample_41 (by decide) ?_
    refine pv_icmp_ne (tgt := 64) C d_M_sample_42 (by decide) (fun h2 => ?_) (fun h2 => ?_)
    · refine pv_iconst (v := 2) C d_M_sample_64 (by decide) ?_
      refine pv_goto (tgt := 69) C d_M_sample_65 (by decide) ?_
      refine pm_put C G 0 (by decide) fl_M_83 rfl rfl rfl (by decide) rfl d_M_sample_69 ?_
      refine pv_aload_n C d_M_sample_72 rfl 1 rfl ?_
      refine pm_get (v := .int 2) C G 0 (by decide) fl_M_83 rfl rfl d_M_sample_73 ?_
      refine pv_if_le (tgt := 81) C d_M_sample_76 (by decide) (fun q => absurd q (by decide)) (fun _ => ?_)
      refine pv_iconst (v := 0) C d_M_sample_79 (by decide) ?_
      exact pv_iret C R0 d_M_sample_80 (by decide) (by decide) (mP_i (by unfold m_sample; rw [if_pos h1, if_neg h2]))
    · refine pv_aload_n C d_M_sample_45 rfl 1 rfl ?_
      refine pm_get (v := .ref (ad 16)) C G 16 (by decide) fl_M_50 rfl rfl d_M_sample_46 ?_
      refine pv_iload C d_M_sample_49 0 rfl ?_
      refine pm_zld C G 16 (by decide) rfl (j := (4 * ix a + ix n)) (ln_ix hL.1.1 hL.2.1) (show (4 * ix a + ix n) < 68 by omega) d_M_sample_51 ?_
      refine pv_top (y := (z 16 (4 * ix a + ix n))) (zs_k _ _ (by decide)) ?_
      refine pv_if_ne (tgt := 64) C d_M_sample_52 (by decide) (fun h3 => ?_) (fun h3 => ?_)
      · refine pv_iconst (v := 2) C d_M_sample_64 (by decide) ?_
        refine pv_goto (tgt := 69) C d_M_sample_65 (by decide) ?_
        refine pm_put C G 0 (by decide) fl_M_83 rfl rfl rfl (by decide) rfl d_M_sample_69 ?_
        refine pv_aload_n C d_M_sample_72 rfl 1 rfl ?_
        refine pm_get (v := .int 2) C G 0 (by decide) fl_M_83 rfl rfl d_M_sample_73 ?_
        refine pv_if_le (tgt := 81) C d_M_sample_76 (by decide) (fun q => absurd q (by decide)) (fun _ => ?_)
        refine pv_iconst (v := 0) C d_M_sample_79 (by decide) ?_
        exact pv_iret C R0 d_M_sample_80 (by decide) (by decide) (mP_i (by unfold m_sample; rw [if_pos h1, if_pos h2, if_neg h3]))
      · refine pv_aload_n C d_M_sample_55 rfl 1 rfl ?_
        refine pv_iload C d_M_sample_56 0 rfl ?_
        refine pv_callV (n := 1) (As := [.int ((4 * a) + n)]) (rest := [.ref mo]) C (c_M_openSamples hl0 G (zs z 0 0 0) ((4 * a) + n) (4 * ix a + ix n) (by omega) (ln_ix hL.1.1 hL.2.1)) cd_M_openSamples ml_M_118 in_M im_M_openSamples se_M_openSamples G.1 mm_obj rfl rfl (by decide +kernel) (by decide) rfl (Nat.le_of_ble_eq_true rfl) rfl d_M_sample_58 (by decide) hN R0 (fun _ h => h.elim) (fun v9 LP9 f9 h9 => ?_)
        obtain ⟨rfl, rfl, rfl⟩ := h9
        refine pv_stf (f2 := mm_f γ f0 mo ad (zs z 0 0 0)) (st2 := [.int (m_open z (4 * ix a + ix n)), .ref mo]) (c2 := 0) (s2 := 0) rfl rfl rfl rfl ?_
        refine pv_if_ne (tgt := 68) C d_M_sample_61 (by decide) (fun h4 => ?_) (fun h4 => ?_)
        · refine pv_iconst (v := 0) C d_M_sample_68 (by decide) ?_
          refine pm_put C G 0 (by decide) fl_M_83 rfl rfl rfl (by decide) rfl d_M_sample_69 ?_
          refine pv_aload_n C d_M_sample_72 rfl 1 rfl ?_
          refine pm_get (v := .int 0) C G 0 (by decide) fl_M_83 rfl rfl d_M_sample_73 ?_
          refine pv_if_le (tgt := 81) C d_M_sample_76 (by decide) (fun _ => ?_) (fun q => absurd q (by decide))
          refine pv_aload_n C d_M_sample_81 rfl 1 rfl ?_
          refine pm_get (v := .ref (ad 14)) C G 14 (by decide) fl_M_44 rfl rfl d_M_sample_82 ?_
          refine pv_iload C d_M_sample_85 0 rfl ?_
          refine pv_dup2 C d_M_sample_87 rfl rfl ?_
          refine pm_ald C G 14 (by decide) rfl (j := (4 * ix a + ix n)) (ln_ix hL.1.1 hL.2.1) (show (4 * ix a + ix n) < 68 by omega) d_M_sample_88 ?_
          refine pv_top (y := (z 14 (4 * ix a + ix n))) ((zs_k _ _ (by decide)).trans (zs_k _ _ (by decide))) ?_
          refine pv_iconst (v := 1) C d_M_sample_89 (by decide) ?_
          refine pv_iadd C d_M_sample_90 ?_
          refine pm_ast C G 14 (by decide) rfl (j := (4 * ix a + ix n)) (ln_ix hL.1.1 hL.2.1) (show (4 * ix a + ix n) < 68 by omega) d_M_sample_91 ?_
          refine pv_iload_n C d_M_sample_92 rfl 4 rfl ?_
          refine pv_ifb_ne (tgt := 152) C d_M_sample_93 (by decide) (fun h5 => ?_) (fun h5 => ?_)
          · refine pv_aload_n C d_M_sample_152 rfl 1 rfl ?_
            refine pv_iload C d_M_sample_153 0 rfl ?_
            refine pv_callV (n := 1) (As := [.int ((4 * a) + n)]) (rest := []) C (c_M_openSamples hl0 G (zs (zs (zs z 0 0 0) 0 0 0) 14 (4 * ix a + ix n) ((z 14 (4 * ix a + ix n)) + 1)) ((4 * a) + n) (4 * ix a + ix n) (by omega) (ln_ix hL.1.1 hL.2.1)) cd_M_openSamples ml_M_118 in_M im_M_openSamples se_M_openSamples G.1 mm_obj rfl rfl (by decide +kernel) (by decide) rfl (Nat.le_of_ble_eq_true rfl) rfl d_M_sample_155 (by decide) hN R0 (fun _ h => h.elim) (fun v9 LP9 f9 h9 => ?_)
            obtain ⟨rfl, rfl, rfl⟩ := h9
            refine pv_stf (f2 := mm_f γ f0 mo ad (zs (zs (zs z 0 0 0) 0 0 0) 14 (4 * ix a + ix n) ((z 14 (4 * ix a + ix n)) + 1))) (st2 := [.int (m_open (zs (zs (zs z 0 0 0) 0 0 0) 14 (4 * ix a + ix n) ((z 14 (4 * ix a + ix n)) + 1)) (4 * ix a + ix n))]) (c2 := 0) (s2 := 0) rfl rfl rfl rfl ?_
            exact pv_iret C R0 d_M_sample_158 (by decide) (by decide) (mP_i (by unfold m_sample; rw [if_pos h1, if_pos h2, if_pos h3, if_neg h4, if_pos h5]))
          · refine pv_aload_n C d_M_sample_96 rfl 1 rfl ?_
            refine pm_get (v := .ref (ad 15)) C G 15 (by decide) fl_M_47 rfl rfl d_M_sample_97 ?_
            refine pv_iload C d_M_sample_100 0 rfl ?_
            refine pv_iconst (v := 1) C d_M_sample_102 (by decide) ?_
            refine pm_zst C G 15 (by decide) rfl (j := (4 * ix a + ix n)) (ln_ix hL.1.1 hL.2.1) (show (4 * ix a + ix n) < 68 by omega) rfl d_M_sample_103 ?_
            refine pv_iconst (v := 1) C d_M_sample_104 (by decide) ?_
            refine pv_istore (lv' := [(5, .int 1), (4, .int ((4 * a) + n)), (0, .ref mo), (1, .int a), (2, .int n), (3, .int (bN b))]) C d_M_sample_105 (by decide) rfl ?_
            refine pv_lvs (lv2 := [(5, .int (nI (0 + 1))), (4, .int ((4 * a) + n)), (0, .ref mo), (1, .int a), (2, .int n), (3, .int (bN b))]) [0, 1, 2, 3, 4, 5] rfl ?_
            exact loop (zU z + 1) 0 (zs (zs (zs (zs z 0 0 0) 0 0 0) 14 (4 * ix a + ix n) ((z 14 (4 * ix a + ix n)) + 1)) 15 (4 * ix a + ix n) 1) (by omega) hL (by simpa [zs] using hz.2.1.1) (by unfold m_sample; rw [if_pos h1, if_pos h2, if_pos h3, if_neg h4, if_neg (nT h5)]; rfl) (by omega)
        · refine pv_iconst (v := 2) C d_M_sample_64 (by decide) ?_
          refine pv_goto (tgt := 69) C d_M_sample_65 (by decide) ?_
          refine pm_put C G 0 (by decide) fl_M_83 rfl rfl rfl (by decide) rfl d_M_sample_69 ?_
          refine pv_aload_n C d_M_sample_72 rfl 1 rfl ?_
          refine pm_get (v := .int 2) C G 0 (by decide) fl_M_83 rfl rfl d_M_sample_73 ?_
          refine pv_if_le (tgt := 81) C d_M_sample_76 (by decide) (fun q => absurd q (by decide)) (fun _ => ?_)
          refine pv_iconst (v := 0) C d_M_sample_79 (by decide) ?_
          exact pv_iret C R0 d_M_sample_80 (by decide) (by decide) (mP_i (by unfold m_sample; rw [if_pos h1, if_pos h2, if_pos h3, if_pos h4]))
  · refine pv_iconst (v := 1) C d_M_sample_10 (by decide) ?_
    refine pv_goto (tgt := 15) C d_M_sample_11 (by decide) ?_
    refine pm_put C G 0 (by decide) fl_M_83 rfl rfl rfl (by decide) rfl d_M_sample_15 ?_
    refine pv_aload_n C d_M_sample_18 rfl 0 rfl ?_
    refine pm_get (v := .int 1) C G 0 (by decide) fl_M_83 rfl rfl d_M_sample_19 ?_
    refine pv_if_le (tgt := 27) C d_M_sample_22 (by decide) (fun q => absurd q (by decide)) (fun _ => ?_)
    refine pv_iconst (v := 0) C d_M_sample_25 (by decide) ?_
    exact pv_iret C R0 d_M_sample_26 (by decide) (by decide) (mP_i (by unfold m_sample; rw [if_neg (nT h1)]))
abbrev rm_M_close : Room := { frames := 3, cells := 0, slots := 0, locals := 65 }
def m_close (z : zT) (a : Int32) (n : Int32) : Int32 × zT :=
  (if (isL z a n) = true then (if (z 7 (ix a)) = 1 then (if (z 16 (4 * ix a + ix n)) = 0 then (if (m_open z (4 * ix a + ix n)) ≤ 0 then (if (lAny (hoP (z 19) (z 20) (z 25) ((4 * a) + n) true) (zU z)) = true then (3, (zs (zs z 0 0 0) 0 0 0)) else (if (lAny (hoP (z 19) (z 20) (z 25) ((4 * a) + n) false) (zU z)) = true then (4, (zs (zs z 0 0 0) 0 0 0)) else (if (z 12 (4 * ix a + ix n)) = (z 10 (4 * ix a + ix n)) then (1, (zs (zs (zs (zs z 0 0 0) 0 0 0) 16 (4 * ix a + ix n) 1) 28 0 ((z 28 0) + 1))) else (1, (zs (zs (zs (zs (zs (zs z 0 0 0) 0 0 0) 16 (4 * ix a + ix n) 1) 28 0 ((z 28 0) + 1)) 30 (zD z) ((4 * a) + n)) 29 0 ((z 29 0) + 1)))))) else (2, (zs (zs z 0 0 0) 0 0 0))) else (0, (zs (zs z 0 0 0) 0 0 2))) else (0, (zs (zs z 0 0 0) 0 0 2))) else (0, (zs z 0 0 1)))
set_option maxRecDepth 100000 in
set_option maxHeartbeats 4000000 in
theorem c_M_close {l0 : Launch} {D : va_G} {γ : Nat → ClassId} (hl0 : l0.stackTraces = false) {LP : List Nat} {f0 : Nat → va_E} {mo : Nat} {ad : Nat → Nat} (G : mm_H mo ad LP) (z : zT) (a : Int32) (n : Int32) (hz : zI z) (hd : isL z a n = true → z 16 (4 * ix a + ix n) = 0 → zD z < 64) : mM l0 D γ y_M_close (Cond.code y_M_close b_M_close 4 (Option.some FieldType.int)) rm_M_close [.ref mo, .int a, .int n] LP f0 mo ad z (some (.int (m_close z a n).1)) (m_close z a n).2 := by
  refine pv_mk hl0 (by decide) (Nat.le_of_ble_eq_true rfl) (fun κ C R0 hN _ => ?_)
  show pv_V D κ 0 0 LP (mm_f γ f0 mo ad z) 0 [(0, .ref mo), (1, .int a), (2, .int n)] []
  refine pv_aload_n C d_M_close_0 rfl 0 rfl ?_
  refine pv_aload_n C d_M_close_1 rfl 0 rfl ?_
  refine pv_iload_n C d_M_close_2 rfl 1 rfl ?_
  refine pv_iload_n C d_M_close_3 rfl 2 rfl ?_
  refine pv_callV (n := 2) (As := [.int a, .int n]) (rest := [.ref mo]) C (c_M_isLine hl0 G z a n hz) cd_M_isLine ml_M_107 in_M im_M_isLine se_M_isLine G.1 mm_obj rfl rfl (by decide +kernel) (by decide) rfl (Nat.le_of_ble_eq_true rfl) rfl d_M_close_4 (by decide) hN R0 (fun _ h => h.elim) (fun v9 LP9 f9 h9 => ?_)
  obtain ⟨rfl, rfl, rfl⟩ := h9
  refine pv_stf (f2 := mm_f γ f0 mo ad z) (st2 := [.int (bN (isL z a n)), .ref mo]) (c2 := 0) (s2 := 0) rfl rfl rfl rfl ?_
  refine pv_ifb_ne (tgt := 14) C d_M_close_7 (by decide) (fun h1 => ?_) (fun h1 => ?_)
  · have hL := isL_ix hz h1
    refine pv_iconst (v := 0) C d_M_close_14 (by decide) ?_
    refine pm_put C G 0 (by decide) fl_M_83 rfl rfl rfl (by decide) rfl d_M_close_15 ?_
    refine pv_aload_n C d_M_close_18 rfl 0 rfl ?_
    refine pm_get (v := .int 0) C G 0 (by decide) fl_M_83 rfl rfl d_M_close_19 ?_
    refine pv_if_le (tgt := 27) C d_M_close_22 (by decide) (fun _ => ?_) (fun q => absurd q (by decide))
    refine pv_iconst (v := 4) C d_M_close_27 (by decide) ?_
    refine pv_iload_n C d_M_close_28 rfl 1 rfl ?_
    refine pv_imul C d_M_close_29 ?_
    refine pv_iload_n C d_M_close_30 rfl 2 rfl ?_
    refine pv_iadd C d_M_close_31 ?_
    refine pv_istore_n (lv' := [(3, .int ((4 * a) + n)), (0, .ref mo), (1, .int a), (2, .int n)]) C d_M_close_32 rfl (by decide) rfl ?_
    refine pv_aload_n C d_M_close_33 rfl 1 rfl ?_
    refine pv_aload_n C d_M_close_34 rfl 1 rfl ?_
    refine pm_get (v := .ref (ad 7)) C G 7 (by decide) fl_M_23 rfl rfl d_M_close_35 ?_
    refine pv_iload_n C d_M_close_38 rfl 2 rfl ?_
    refine pm_ald C G 7 (by decide) rfl (j := (ix a)) hL.1.1 (show (ix a) < 17 by omega) d_M_close_39 ?_
    refine pv_top (y := (z 7 (ix a))) (zs_k _ _ (by decide)) ?_
    refine pv_iconst (v := 1) C d_M_close_40 (by decide) ?_
    refine pv_icmp_ne (tgt := 53) C d_M_close_41 (by decide) (fun h2 => ?_) (fun h2 => ?_)
    · refine pv_iconst (v := 2) C d_M_close_53 (by decide) ?_
      refine pv_goto (tgt := 58) C d_M_close_54 (by decide) ?_
      refine pm_put C G 0 (by decide) fl_M_83 rfl rfl rfl (by decide) rfl d_M_close_58 ?_
      refine pv_aload_n C d_M_close_61 rfl 1 rfl ?_
      refine pm_get (v := .int 2) C G 0 (by decide) fl_M_83 rfl rfl d_M_close_62 ?_
      refine pv_if_le (tgt := 70) C d_M_close_65 (by decide) (fun q => absurd q (by decide)) (fun _ => ?_)
      refine pv_iconst (v := 0) C d_M_close_68 (by decide) ?_
      exact pv_iret C R0 d_M_close_69 (by decide) (by decide) (mP_i (by unfold m_close; rw [if_pos h1, if_neg h2]))
    · refine pv_aload_n C d_M_close_44 rfl 1 rfl ?_
      refine pm_get (v := .ref (ad 16)) C G 16 (by decide) fl_M_50 rfl rfl d_M_close_45 ?_
      refine pv_iload_n C d_M_close_48 rfl 0 rfl ?_
      refine pm_zld C G 16 (by decide) rfl (j := (4 * ix a + ix n)) (ln_ix hL.1.1 hL.2.1) (show (4 * ix a + ix n) < 68 by omega) d_M_close_49 ?_
      refine pv_top (y := (z 16 (4 * ix a + ix n))) (zs_k _ _ (by decide)) ?_
      refine pv_if_eq (tgt := 57) C d_M_close_50 (by decide) (fun h3 => ?_) (fun h3 => ?_)
      · have hd := hd h1 h3
        refine pv_iconst (v := 0) C d_M_close_57 (by decide) ?_
        refine pm_put C G 0 (by decide) fl_M_83 rfl rfl rfl (by decide) rfl d_M_close_58 ?_
        refine pv_aload_n C d_M_close_61 rfl 1 rfl ?_
        refine pm_get (v := .int 0) C G 0 (by decide) fl_M_83 rfl rfl d_M_close_62 ?_
        refine pv_if_le (tgt := 70) C d_M_close_65 (by decide) (fun _ => ?_) (fun q => absurd q (by decide))
        refine pv_aload_n C d_M_close_70 rfl 1 rfl ?_
        refine pv_iload_n C d_M_close_71 rfl 0 rfl ?_
        refine pv_callV (n := 1) (As := [.int ((4 * a) + n)]) (rest := []) C (c_M_openSamples hl0 G (zs (zs z 0 0 0) 0 0 0) ((4 * a) + n) (4 * ix a + ix n) (by omega) (ln_ix hL.1.1 hL.2.1)) cd_M_openSamples ml_M_118 in_M im_M_openSamples se_M_openSamples G.1 mm_obj rfl rfl (by decide +kernel) (by decide) rfl (Nat.le_of_ble_eq_true rfl) rfl d_M_close_72 (by decide) hN R0 (fun _ h => h.elim) (fun v9 LP9 f9 h9 => ?_)
        obtain ⟨rfl, rfl, rfl⟩ := h9
        refine pv_stf (f2 := mm_f γ f0 mo ad (zs (zs z 0 0 0) 0 0 0)) (st2 := [.int (m_open z (4 * ix a + ix n))]) (c2 := 0) (s2 := 0) rfl rfl rfl rfl ?_
        refine pv_if_le (tgt := 80) C d_M_close_75 (by decide) (fun h4 => ?_) (fun h4 => ?_)
        · refine pv_aload_n C d_M_close_80 rfl 1 rfl ?_
          refine pv_iload_n C d_M_close_81 rfl 0 rfl ?_
          refine pv_iconst (v := 1) C d_M_close_82 (by decide) ?_
          refine pv_callV (n := 2) (As := [.int ((4 * a) + n), .int 1]) (rest := []) C (c_M_hasOne hl0 G (zs (zs z 0 0 0) 0 0 0) ((4 * a) + n) true hz.2.1) cd_M_hasOne ml_M_134 in_M im_M_hasOne se_M_hasOne G.1 mm_obj rfl rfl (by decide +kernel) (by decide) rfl (Nat.le_of_ble_eq_true rfl) rfl d_M_close_83 (by decide) hN R0 (fun _ h => h.elim) (fun v9 LP9 f9 h9 => ?_)
          obtain ⟨rfl, rfl, rfl⟩ := h9
          refine pv_stf (f2 := mm_f γ f0 mo ad (zs (zs z 0 0 0) 0 0 0)) (st2 := [.int (bN (lAny (hoP (z 19) (z 20) (z 25) ((4 * a) + n) true) (zU z)))]) (c2 := 0) (s2 := 0) rfl rfl rfl rfl ?_
          refine pv_ifb_eq (tgt := 91) C d_M_close_86 (by decide) (fun h5 => ?_) (fun h5 => ?_)
          · refine pv_aload_n C d_M_close_91 rfl 1 rfl ?_
            refine pv_iload_n C d_M_close_92 rfl 0 rfl ?_
            refine pv_iconst (v := 0) C d_M_close_93 (by decide) ?_
            refine pv_callV (n := 2) (As := [.int ((4 * a) + n), .int 0]) (rest := []) C (c_M_hasOne hl0 G (zs (zs z 0 0 0) 0 0 0) ((4 * a) + n) false hz.2.1) cd_M_hasOne ml_M_134 in_M im_M_hasOne se_M_hasOne G.1 mm_obj rfl rfl (by decide +kernel) (by decide) rfl (Nat.le_of_ble_eq_true rfl) rfl d_M_close_94 (by decide) hN R0 (fun _ h => h.elim) (fun v9 LP9 f9 h9 => ?_)
            obtain ⟨rfl, rfl, rfl⟩ := h9
            refine pv_stf (f2 := mm_f γ f0 mo ad (zs (zs z 0 0 0) 0 0 0)) (st2 := [.int (bN (lAny (hoP (z 19) (z 20) (z 25) ((4 * a) + n) false) (zU z)))]) (c2 := 0) (s2 := 0) rfl rfl rfl rfl ?_
            refine pv_ifb_eq (tgt := 102) C d_M_close_97 (by decide) (fun h6 => ?_) (fun h6 => ?_)
            · refine pv_aload_n C d_M_close_102 rfl 1 rfl ?_
              refine pm_get (v := .ref (ad 16)) C G 16 (by decide) fl_M_50 rfl rfl d_M_close_103 ?_
              refine pv_iload_n C d_M_close_106 rfl 0 rfl ?_
              refine pv_iconst (v := 1) C d_M_close_107 (by decide) ?_
              refine pm_zst C G 16 (by decide) rfl (j := (4 * ix a + ix n)) (ln_ix hL.1.1 hL.2.1) (show (4 * ix a + ix n) < 68 by omega) rfl d_M_close_108 ?_
              refine pv_aload_n C d_M_close_109 rfl 1 rfl ?_
              refine pv_dup C d_M_close_110 rfl ?_
              refine pm_get (v := .int (z 28 0)) C G 28 (by decide) fl_M_138 rfl rfl d_M_close_111 ?_
              refine pv_iconst (v := 1) C d_M_close_114 (by decide) ?_
              refine pv_iadd C d_M_close_115 ?_
              refine pm_put C G 28 (by decide) fl_M_138 rfl rfl rfl (by decide) rfl d_M_close_116 ?_
              refine pv_aload_n C d_M_close_119 rfl 1 rfl ?_
              refine pm_get (v := .ref (ad 12)) C G 12 (by decide) fl_M_38 rfl rfl d_M_close_120 ?_
              refine pv_iload_n C d_M_close_123 rfl 0 rfl ?_
              refine pm_ald C G 12 (by decide) rfl (j := (4 * ix a + ix n)) (ln_ix hL.1.1 hL.2.1) (show (4 * ix a + ix n) < 68 by omega) d_M_close_124 ?_
              refine pv_top (y := (z 12 (4 * ix a + ix n))) ((zs_k _ _ (by decide)).trans ((zs_k _ _ (by decide)).trans ((zs_k _ _ (by decide)).trans (zs_k _ _ (by decide))))) ?_
              refine pv_aload_n C d_M_close_125 rfl 1 rfl ?_
              refine pm_get (v := .ref (ad 10)) C G 10 (by decide) fl_M_32 rfl rfl d_M_close_126 ?_
              refine pv_iload_n C d_M_close_129 rfl 0 rfl ?_
              refine pm_ald C G 10 (by decide) rfl (j := (4 * ix a + ix n)) (ln_ix hL.1.1 hL.2.1) (show (4 * ix a + ix n) < 68 by omega) d_M_close_130 ?_
              refine pv_top (y := (z 10 (4 * ix a + ix n))) ((zs_k _ _ (by decide)).trans ((zs_k _ _ (by decide)).trans ((zs_k _ _ (by decide)).trans (zs_k _ _ (by decide))))) ?_
              refine pv_icmp_eq (tgt := 154) C d_M_close_131 (by decide) (fun h7 => ?_) (fun h7 => ?_)
              · refine pv_iconst (v := 1) C d_M_close_154 (by decide) ?_
                exact pv_iret C R0 d_M_close_155 (by decide) (by decide) (mP_i (by unfold m_close; rw [if_pos h1, if_pos h2, if_pos h3, if_pos h4, if_neg (nT h5), if_neg (nT h6), if_pos h7]))
              · have hDD := hz.2.2.1.1
                refine pv_aload_n C d_M_close_134 rfl 1 rfl ?_
                refine pm_get (v := .ref (ad 30)) C G 30 (by decide) fl_M_80 rfl rfl d_M_close_135 ?_
                refine pv_aload_n C d_M_close_138 rfl 1 rfl ?_
                refine pm_get (v := .int (z 29 0)) C G 29 (by decide) fl_M_141 rfl rfl d_M_close_139 ?_
                refine pv_iload_n C d_M_close_142 rfl 0 rfl ?_
                refine pm_ast C G 30 (by decide) rfl (j := (zD z)) hz.2.2.1.1 (show (zD z) < 64 by omega) d_M_close_143 ?_
                refine pv_aload_n C d_M_close_144 rfl 1 rfl ?_
                refine pv_dup C d_M_close_145 rfl ?_
                refine pm_get (v := .int (z 29 0)) C G 29 (by decide) fl_M_141 rfl rfl d_M_close_146 ?_
                refine pv_iconst (v := 1) C d_M_close_149 (by decide) ?_
                refine pv_iadd C d_M_close_150 ?_
                refine pm_put C G 29 (by decide) fl_M_141 rfl rfl rfl (by decide) rfl d_M_close_151 ?_
                refine pv_iconst (v := 1) C d_M_close_154 (by decide) ?_
                exact pv_iret C R0 d_M_close_155 (by decide) (by decide) (mP_i (by unfold m_close; rw [if_pos h1, if_pos h2, if_pos h3, if_pos h4, if_neg (nT h5), if_neg (nT h6), if_neg h7]))
            · refine pv_iconst (v := 4) C d_M_close_100 (by decide) ?_
              exact pv_iret C R0 d_M_close_101 (by decide) (by decide) (mP_i (by unfold m_close; rw [if_pos h1, if_pos h2, if_pos h3, if_pos h4, if_neg (nT h5), if_pos h6]))
          · refine pv_iconst (v := 3) C d_M_close_89 (by decide) ?_
            exact pv_iret C R0 d_M_close_90 (by decide) (by decide) (mP_i (by unfold m_close; rw [if_pos h1, if_pos h2, if_pos h3, if_pos h4, if_pos h5]))
        · refine pv_iconst (v := 2) C d_M_close_78 (by decide) ?_
          exact pv_iret C R0 d_M_close_79 (by decide) (by decide) (mP_i (by unfold m_close; rw [if_pos h1, if_pos h2, if_pos h3, if_neg h4]))
      · refine pv_iconst (v := 2) C d_M_close_53 (by decide) ?_
        refine pv_goto (tgt := 58) C d_M_close_54 (by decide) ?_
        refine pm_put C G 0 (by decide) fl_M_83 rfl rfl rfl (by decide) rfl d_M_close_58 ?_
        refine pv_aload_n C d_M_close_61 rfl 1 rfl ?_
        refine pm_get (v := .int 2) C G 0 (by decide) fl_M_83 rfl rfl d_M_close_62 ?_
        refine pv_if_le (tgt := 70) C d_M_close_65 (by decide) (fun q => absurd q (by decide)) (fun _ => ?_)
        refine pv_iconst (v := 0) C d_M_close_68 (by decide) ?_
        exact pv_iret C R0 d_M_close_69 (by decide) (by decide) (mP_i (by unfold m_close; rw [if_pos h1, if_pos h2, if_neg h3]))
  · refine pv_iconst (v := 1) C d_M_close_10 (by decide) ?_
    refine pv_goto (tgt := 15) C d_M_close_11 (by decide) ?_
    refine pm_put C G 0 (by decide) fl_M_83 rfl rfl rfl (by decide) rfl d_M_close_15 ?_
    refine pv_aload_n C d_M_close_18 rfl 0 rfl ?_
    refine pm_get (v := .int 1) C G 0 (by decide) fl_M_83 rfl rfl d_M_close_19 ?_
    refine pv_if_le (tgt := 27) C d_M_close_22 (by decide) (fun q => absurd q (by decide)) (fun _ => ?_)
    refine pv_iconst (v := 0) C d_M_close_25 (by decide) ?_
    exact pv_iret C R0 d_M_close_26 (by decide) (by decide) (mP_i (by unfold m_close; rw [if_neg (nT h1)]))
