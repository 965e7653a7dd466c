/-! the law's cases (by wip/whole/gen/l4.py) -/
theorem lg_self (x : Int64) : lg_cmp x x = 0 := by
  unfold lg_cmp
  rw [if_neg (Int64.lt_irrefl), if_pos rfl]
theorem lw_ix (i j : Nat) : nI i + nI j = nI (i + j) := nI_add i j
set_option maxRecDepth 100000 in
set_option maxHeartbeats 4000000 in
theorem lc_announce {l0 : Launch} {D : va_G} {γ : Nat → ClassId} {κ : pv_K} {b L : Nat} {xs : Nat → Int32} (hl0 : l0.stackTraces = false) (C : pv_C l0 D (tys_ γ) κ code RL room_1 7) (Y : pv_Y κ b L xs) {cells slots : Nat} {LP : List Nat} {ks : List kT} {ρ : kT → Nat} {z : zT} {x : xT} {mo : Nat} {ad : Nat → Nat} {oa : Nat} {ov : Nat → Int64} {g0 : Nat → va_E} (hw : wI LP ks ρ z x mo ad oa) {i : Nat} (hi : i + 6 ≤ L) (hcl : cells + 16 ≤ 601024) (hsl : slots + 128 ≤ 7293034) (kk : ∀ (LP' : List Nat) (ks' : List kT) (ρ' : kT → Nat) (z' : zT) (x' : xT) (ov' : Nat → Int64), wI LP' ks' ρ' z' x' mo ad oa → pv_V D κ (cells + 16) (slots + 128) LP' (wf γ ks' ρ' x' g0 mo ad oa ov' z' z') 1677 [(4, .int (nI i)), (0, .ref b), (1, .ref (ρ' (0, 0))), (2, .ref mo), (3, .ref oa)] []) : pv_V D κ cells slots LP (wf γ ks ρ x g0 mo ad oa ov z z) 148 [(4, .int (nI i)), (0, .ref b), (1, .ref (ρ (0, 0))), (2, .ref mo), (3, .ref oa)] [] := by
  obtain ⟨J, G, hoL, hd1, hd2, hd3, hE⟩ := id hw
  have hz := J.2.2.1
  refine pv_aload_n C d_L_law_148 rfl 2 rfl ?_
  refine pv_aload_n C d_L_law_149 rfl 1 rfl ?_
  refine pv_iload C d_L_law_150 0 rfl ?_
  refine pv_iconst (v := 1) C d_L_law_152 (by decide) ?_
  refine pv_iadd C d_L_law_153 ?_
  refine pv_sld C Y (j := i + 1) (lw_ix i 1) (by omega) d_L_law_154 ?_
  refine pv_aload_n C d_L_law_155 rfl 1 rfl ?_
  refine pv_iload C d_L_law_156 0 rfl ?_
  refine pv_iconst (v := 2) C d_L_law_158 (by decide) ?_
  refine pv_iadd C d_L_law_159 ?_
  refine pv_sld C Y (j := i + 2) (lw_ix i 2) (by omega) d_L_law_160 ?_
  refine pv_aload_n C d_L_law_161 rfl 4 rfl ?_
  obtain ⟨q, hq⟩ : ∃ q : Int32 × zT, q = m_announce z (xs (i + 1)) (xs (i + 2)) := ⟨_, rfl⟩
  have hM := c_L_announce (l0 := l0) (D := D) (γ := γ) (f0 := va_up (mm_f γ g0 mo ad z) oa (lo γ ov)) hl0 J hoL (va_up_self _ _ _) hd1 (xs (i + 1)) (xs (i + 2))
  rw [← hq] at hM
  have hE1 : zE q.2 := by rw [hq]; exact zE_announce hE
  refine pv_callSH (n := 4) (As := [.ref (ρ (0, 0)), .int (xs (i + 1)), .int (xs (i + 2)), .ref oa]) (rest := []) C hM cd_L_announce ml_L_96 in_L sm_L_announce (by decide +kernel) (by decide) rfl (Nat.le_of_ble_eq_true rfl) rfl d_L_law_162 (show cells + 4 ≤ 601024 ∧ slots + 23 ≤ 7293034 from ⟨by omega, by omega⟩) (fun v9 LP9 f9 h9 => ?_)
  obtain ⟨rfl, ks', ρ', x', ov', rfl, hov, J', hρ, hL, hfr⟩ := h9
  have hw' := wI_c hw J' hL hfr hE1
  refine pv_stf (f2 := wf γ ks' ρ' x' g0 mo ad oa ov' q.2 z) (st2 := [.int (q.2 0 0)]) (c2 := cells + 4) (s2 := slots + 23) (by rw [va_up2]) rfl rfl rfl ?_
  refine pv_istore (lv' := [(5, .int (q.2 0 0)), (4, .int (nI i)), (0, .ref b), (1, .ref (ρ (0, 0))), (2, .ref mo), (3, .ref oa)]) C d_L_law_165 (by decide) rfl ?_
  refine pk_fz (f2 := mm_f γ (kf ks' ρ' (cz γ ρ' q.2 x') (va_up g0 oa (lo γ ov'))) mo ad z) (wf_m hw') ?_
  refine pv_aload_n C d_L_law_167 rfl 4 rfl ?_
  refine pv_aload_n C d_L_law_168 rfl 2 rfl ?_
  refine pv_iload C d_L_law_169 1 rfl ?_
  refine pv_iconst (v := 1) C d_L_law_171 (by decide) ?_
  refine pv_iadd C d_L_law_172 ?_
  refine pv_sld C Y (j := i + 1) (lw_ix i 1) (by omega) d_L_law_173 ?_
  refine pv_aload_n C d_L_law_174 rfl 2 rfl ?_
  refine pv_iload C d_L_law_175 1 rfl ?_
  refine pv_iconst (v := 2) C d_L_law_177 (by decide) ?_
  refine pv_iadd C d_L_law_178 ?_
  refine pv_sld C Y (j := i + 2) (lw_ix i 2) (by omega) d_L_law_179 ?_
  have hN := c_M_announce (l0 := l0) (D := D) (γ := γ) (f0 := kf ks' ρ' (cz γ ρ' q.2 x') (va_up g0 oa (lo γ ov'))) hl0 hw'.2.1 z (xs (i + 1)) (xs (i + 2)) hz
  rw [← hq] at hN
  refine pv_callV0 (n := 2) (As := [.int (xs (i + 1)), .int (xs (i + 2))]) (rest := []) C hN cd_M_announce ml_L_101 in_M im_M_announce se_M_announce hw'.2.1.1 mm_obj rfl rfl (by decide +kernel) (by decide) rfl (Nat.le_of_ble_eq_true rfl) rfl d_L_law_180 (show cells + 4 + 0 ≤ 601024 ∧ slots + 23 + 0 ≤ 7293034 from ⟨by omega, by omega⟩) (fun v9 LP8 f9 h9 => ?_)
  obtain ⟨rfl, w9, rfl⟩ := h9
  subst w9
  refine pv_stf (f2 := mm_f γ (kf ks' ρ' (cz γ ρ' q.2 x') (va_up g0 oa (lo γ ov'))) mo ad q.2) (st2 := [.int q.1]) (c2 := cells + 4) (s2 := slots + 23) rfl rfl rfl rfl ?_
  refine pv_istore (lv' := [(6, .int q.1), (5, .int (q.2 0 0)), (4, .int (nI i)), (0, .ref b), (1, .ref (ρ (0, 0))), (2, .ref mo), (3, .ref oa)]) C d_L_law_183 (by decide) rfl ?_
  refine pv_aload_n C d_L_law_185 rfl 5 rfl ?_
  refine pv_callV0 (n := 0) (As := []) (rest := []) C (c_M_thrown hl0 hw'.2.1 q.2) cd_M_thrown ml_L_102 in_M im_M_thrown se_M_thrown hw'.2.1.1 mm_obj rfl rfl (by decide +kernel) (by decide) rfl (Nat.le_of_ble_eq_true rfl) rfl d_L_law_186 (show cells + 4 + 0 ≤ 601024 ∧ slots + 23 + 0 ≤ 7293034 from ⟨by omega, by omega⟩) (fun v9 LP8 f9 h9 => ?_)
  obtain ⟨rfl, w9, rfl⟩ := h9
  subst w9
  refine pv_stf (f2 := wf γ ks' ρ' x' g0 mo ad oa ov' q.2 q.2) (st2 := [.int (q.2 0 0)]) (c2 := cells + 4) (s2 := slots + 23) (wf_m hw').symm rfl rfl rfl ?_
  refine pv_iload C d_L_law_189 1 rfl ?_
  refine pv_icmp_eq (tgt := 196) C d_L_law_191 (by decide) (fun _ => ?_) (fun w => absurd rfl w)
  refine pv_iload C d_L_law_196 1 rfl ?_
  refine pv_if_ne (tgt := 213) C d_L_law_198 (by decide) (fun _ => ?_) (fun h0 => ?_)
  · refine pv_goto (tgt := 1677) C d_L_law_213 (by decide) ?_
    refine pv_lvs (lv2 := [(4, .int (nI i)), (0, .ref b), (1, .ref (ρ' (0, 0))), (2, .ref mo), (3, .ref oa)]) [2, 3, 4, 5, 6] (by rw [hρ]; rfl) ?_
    exact pv_wide (by omega) (by omega) (kk _ _ _ _ _ _ hw')
  refine pv_aload_n C d_L_law_201 rfl 6 rfl ?_
  refine pv_iconst (v := 0) C d_L_law_202 (by decide) ?_
  refine pv_lald C 5 rfl hw'.2.2.1 ((kf_not hw'.2.2.2.1).trans (va_up_self _ _ _)) (j := 0) rfl (by decide) (by decide) d_L_law_203 ?_
  refine pv_iload C d_L_law_204 0 rfl ?_
  refine pv_i2l C d_L_law_206 ?_
  refine pv_lcmp C d_L_law_207 ?_
  refine pv_if_eq (tgt := 213) C d_L_law_208 (by decide) (fun _ => ?_) (fun w => absurd (by rw [hov h0, lg_self]) w)
  refine pv_goto (tgt := 1677) C d_L_law_213 (by decide) ?_
  refine pv_lvs (lv2 := [(4, .int (nI i)), (0, .ref b), (1, .ref (ρ' (0, 0))), (2, .ref mo), (3, .ref oa)]) [2, 3, 4, 5, 6] (by rw [hρ]; rfl) ?_
  exact pv_wide (by omega) (by omega) (kk _ _ _ _ _ _ hw')
set_option maxRecDepth 100000 in
set_option maxHeartbeats 4000000 in
theorem lc_line {l0 : Launch} {D : va_G} {γ : Nat → ClassId} {κ : pv_K} {b L : Nat} {xs : Nat → Int32} (hl0 : l0.stackTraces = false) (C : pv_C l0 D (tys_ γ) κ code RL room_1 7) (Y : pv_Y κ b L xs) {cells slots : Nat} {LP : List Nat} {ks : List kT} {ρ : kT → Nat} {z : zT} {x : xT} {mo : Nat} {ad : Nat → Nat} {oa : Nat} {ov : Nat → Int64} {g0 : Nat → va_E} (hw : wI LP ks ρ z x mo ad oa) {i : Nat} (hi : i + 6 ≤ L) (hcl : cells + 16 ≤ 601024) (hsl : slots + 128 ≤ 7293034) (kk : ∀ (LP' : List Nat) (ks' : List kT) (ρ' : kT → Nat) (z' : zT) (x' : xT) (ov' : Nat → Int64), wI LP' ks' ρ' z' x' mo ad oa → pv_V D κ (cells + 16) (slots + 128) LP' (wf γ ks' ρ' x' g0 mo ad oa ov' z' z') 1677 [(4, .int (nI i)), (0, .ref b), (1, .ref (ρ' (0, 0))), (2, .ref mo), (3, .ref oa)] []) : pv_V D κ cells slots LP (wf γ ks ρ x g0 mo ad oa ov z z) 216 [(4, .int (nI i)), (0, .ref b), (1, .ref (ρ (0, 0))), (2, .ref mo), (3, .ref oa)] [] := by
  obtain ⟨J, G, hoL, hd1, hd2, hd3, hE⟩ := id hw
  have hz := J.2.2.1
  refine pv_aload_n C d_L_law_216 rfl 2 rfl ?_
  refine pv_aload_n C d_L_law_217 rfl 1 rfl ?_
  refine pv_iload C d_L_law_218 0 rfl ?_
  refine pv_iconst (v := 1) C d_L_law_220 (by decide) ?_
  refine pv_iadd C d_L_law_221 ?_
  refine pv_sld C Y (j := i + 1) (lw_ix i 1) (by omega) d_L_law_222 ?_
  refine pv_aload_n C d_L_law_223 rfl 1 rfl ?_
  refine pv_iload C d_L_law_224 0 rfl ?_
  refine pv_iconst (v := 2) C d_L_law_226 (by decide) ?_
  refine pv_iadd C d_L_law_227 ?_
  refine pv_sld C Y (j := i + 2) (lw_ix i 2) (by omega) d_L_law_228 ?_
  refine pv_aload_n C d_L_law_229 rfl 1 rfl ?_
  refine pv_iload C d_L_law_230 0 rfl ?_
  refine pv_iconst (v := 3) C d_L_law_232 (by decide) ?_
  refine pv_iadd C d_L_law_233 ?_
  refine pv_sld C Y (j := i + 3) (lw_ix i 3) (by omega) d_L_law_234 ?_
  refine pv_aload_n C d_L_law_235 rfl 4 rfl ?_
  obtain ⟨q, hq⟩ : ∃ q : Int32 × zT, q = m_line z (xs (i + 1)) (xs (i + 2)) (xs (i + 3)) := ⟨_, rfl⟩
  have hM := c_L_line (l0 := l0) (D := D) (γ := γ) (f0 := va_up (mm_f γ g0 mo ad z) oa (lo γ ov)) hl0 J hoL (va_up_self _ _ _) hd1 (xs (i + 1)) (xs (i + 2)) (xs (i + 3))
  rw [← hq] at hM
  have hE1 : zE q.2 := by rw [hq]; exact zE_line hE
  refine pv_callSH (n := 5) (As := [.ref (ρ (0, 0)), .int (xs (i + 1)), .int (xs (i + 2)), .int (xs (i + 3)), .ref oa]) (rest := []) C hM cd_L_line ml_L_106 in_L sm_L_line (by decide +kernel) (by decide) rfl (Nat.le_of_ble_eq_true rfl) rfl d_L_law_236 (show cells + 5 ≤ 601024 ∧ slots + 35 ≤ 7293034 from ⟨by omega, by omega⟩) (fun v9 LP9 f9 h9 => ?_)
  obtain ⟨rfl, ks', ρ', x', ov', rfl, hov, J', hρ, hL, hfr⟩ := h9
  have hw' := wI_c hw J' hL hfr hE1
  refine pv_stf (f2 := wf γ ks' ρ' x' g0 mo ad oa ov' q.2 z) (st2 := [.int (q.2 0 0)]) (c2 := cells + 5) (s2 := slots + 35) (by rw [va_up2]) rfl rfl rfl ?_
  refine pv_istore (lv' := [(5, .int (q.2 0 0)), (4, .int (nI i)), (0, .ref b), (1, .ref (ρ (0, 0))), (2, .ref mo), (3, .ref oa)]) C d_L_law_239 (by decide) rfl ?_
  refine pk_fz (f2 := mm_f γ (kf ks' ρ' (cz γ ρ' q.2 x') (va_up g0 oa (lo γ ov'))) mo ad z) (wf_m hw') ?_
  refine pv_aload_n C d_L_law_241 rfl 4 rfl ?_
  refine pv_aload_n C d_L_law_242 rfl 2 rfl ?_
  refine pv_iload C d_L_law_243 1 rfl ?_
  refine pv_iconst (v := 1) C d_L_law_245 (by decide) ?_
  refine pv_iadd C d_L_law_246 ?_
  refine pv_sld C Y (j := i + 1) (lw_ix i 1) (by omega) d_L_law_247 ?_
  refine pv_aload_n C d_L_law_248 rfl 2 rfl ?_
  refine pv_iload C d_L_law_249 1 rfl ?_
  refine pv_iconst (v := 2) C d_L_law_251 (by decide) ?_
  refine pv_iadd C d_L_law_252 ?_
  refine pv_sld C Y (j := i + 2) (lw_ix i 2) (by omega) d_L_law_253 ?_
  refine pv_aload_n C d_L_law_254 rfl 2 rfl ?_
  refine pv_iload C d_L_law_255 1 rfl ?_
  refine pv_iconst (v := 3) C d_L_law_257 (by decide) ?_
  refine pv_iadd C d_L_law_258 ?_
  refine pv_sld C Y (j := i + 3) (lw_ix i 3) (by omega) d_L_law_259 ?_
  have hN := c_M_line (l0 := l0) (D := D) (γ := γ) (f0 := kf ks' ρ' (cz γ ρ' q.2 x') (va_up g0 oa (lo γ ov'))) hl0 hw'.2.1 z (xs (i + 1)) (xs (i + 2)) (xs (i + 3)) hz
  rw [← hq] at hN
  refine pv_callV0 (n := 3) (As := [.int (xs (i + 1)), .int (xs (i + 2)), .int (xs (i + 3))]) (rest := []) C hN cd_M_line ml_L_109 in_M im_M_line se_M_line hw'.2.1.1 mm_obj rfl rfl (by decide +kernel) (by decide) rfl (Nat.le_of_ble_eq_true rfl) rfl d_L_law_260 (show cells + 5 + 0 ≤ 601024 ∧ slots + 35 + 0 ≤ 7293034 from ⟨by omega, by omega⟩) (fun v9 LP8 f9 h9 => ?_)
  obtain ⟨rfl, w9, rfl⟩ := h9
  subst w9
  refine pv_stf (f2 := mm_f γ (kf ks' ρ' (cz γ ρ' q.2 x') (va_up g0 oa (lo γ ov'))) mo ad q.2) (st2 := [.int q.1]) (c2 := cells + 5) (s2 := slots + 35) rfl rfl rfl rfl ?_
  refine pv_istore (lv' := [(6, .int q.1), (5, .int (q.2 0 0)), (4, .int (nI i)), (0, .ref b), (1, .ref (ρ (0, 0))), (2, .ref mo), (3, .ref oa)]) C d_L_law_263 (by decide) rfl ?_
  refine pv_aload_n C d_L_law_265 rfl 5 rfl ?_
  refine pv_callV0 (n := 0) (As := []) (rest := []) C (c_M_thrown hl0 hw'.2.1 q.2) cd_M_thrown ml_L_102 in_M im_M_thrown se_M_thrown hw'.2.1.1 mm_obj rfl rfl (by decide +kernel) (by decide) rfl (Nat.le_of_ble_eq_true rfl) rfl d_L_law_266 (show cells + 5 + 0 ≤ 601024 ∧ slots + 35 + 0 ≤ 7293034 from ⟨by omega, by omega⟩) (fun v9 LP8 f9 h9 => ?_)
  obtain ⟨rfl, w9, rfl⟩ := h9
  subst w9
  refine pv_stf (f2 := wf γ ks' ρ' x' g0 mo ad oa ov' q.2 q.2) (st2 := [.int (q.2 0 0)]) (c2 := cells + 5) (s2 := slots + 35) (wf_m hw').symm rfl rfl rfl ?_
  refine pv_iload C d_L_law_269 1 rfl ?_
  refine pv_icmp_eq (tgt := 276) C d_L_law_271 (by decide) (fun _ => ?_) (fun w => absurd rfl w)
  refine pv_iload C d_L_law_276 1 rfl ?_
  refine pv_if_ne (tgt := 293) C d_L_law_278 (by decide) (fun _ => ?_) (fun h0 => ?_)
  · refine pv_goto (tgt := 1677) C d_L_law_293 (by decide) ?_
    refine pv_lvs (lv2 := [(4, .int (nI i)), (0, .ref b), (1, .ref (ρ' (0, 0))), (2, .ref mo), (3, .ref oa)]) [2, 3, 4, 5, 6] (by rw [hρ]; rfl) ?_
    exact pv_wide (by omega) (by omega) (kk _ _ _ _ _ _ hw')
  refine pv_aload_n C d_L_law_281 rfl 6 rfl ?_
  refine pv_iconst (v := 0) C d_L_law_282 (by decide) ?_
  refine pv_lald C 5 rfl hw'.2.2.1 ((kf_not hw'.2.2.2.1).trans (va_up_self _ _ _)) (j := 0) rfl (by decide) (by decide) d_L_law_283 ?_
  refine pv_iload C d_L_law_284 0 rfl ?_
  refine pv_i2l C d_L_law_286 ?_
  refine pv_lcmp C d_L_law_287 ?_
  refine pv_if_eq (tgt := 293) C d_L_law_288 (by decide) (fun _ => ?_) (fun w => absurd (by rw [hov h0, lg_self]) w)
  refine pv_goto (tgt := 1677) C d_L_law_293 (by decide) ?_
  refine pv_lvs (lv2 := [(4, .int (nI i)), (0, .ref b), (1, .ref (ρ' (0, 0))), (2, .ref mo), (3, .ref oa)]) [2, 3, 4, 5, 6] (by rw [hρ]; rfl) ?_
  exact pv_wide (by omega) (by omega) (kk _ _ _ _ _ _ hw')
set_option maxRecDepth 100000 in
set_option maxHeartbeats 4000000 in
theorem lc_arrive {l0 : Launch} {D : va_G} {γ : Nat → ClassId} {κ : pv_K} {b L : Nat} {xs : Nat → Int32} (hl0 : l0.stackTraces = false) (C : pv_C l0 D (tys_ γ) κ code RL room_1 7) (Y : pv_Y κ b L xs) {cells slots : Nat} {LP : List Nat} {ks : List kT} {ρ : kT → Nat} {z : zT} {x : xT} {mo : Nat} {ad : Nat → Nat} {oa : Nat} {ov : Nat → Int64} {g0 : Nat → va_E} (hw : wI LP ks ρ z x mo ad oa) {i : Nat} (hi : i + 6 ≤ L) (hcl : cells + 16 ≤ 601024) (hsl : slots + 128 ≤ 7293034) (kk : ∀ (LP' : List Nat) (ks' : List kT) (ρ' : kT → Nat) (z' : zT) (x' : xT) (ov' : Nat → Int64), wI LP' ks' ρ' z' x' mo ad oa → pv_V D κ (cells + 16) (slots + 128) LP' (wf γ ks' ρ' x' g0 mo ad oa ov' z' z') 1677 [(4, .int (nI i)), (0, .ref b), (1, .ref (ρ' (0, 0))), (2, .ref mo), (3, .ref oa)] []) : pv_V D κ cells slots LP (wf γ ks ρ x g0 mo ad oa ov z z) 296 [(4, .int (nI i)), (0, .ref b), (1, .ref (ρ (0, 0))), (2, .ref mo), (3, .ref oa)] [] := by
  obtain ⟨J, G, hoL, hd1, hd2, hd3, hE⟩ := id hw
  have hz := J.2.2.1
  refine pv_aload_n C d_L_law_296 rfl 2 rfl ?_
  refine pv_aload_n C d_L_law_297 rfl 1 rfl ?_
  refine pv_iload C d_L_law_298 0 rfl ?_
  refine pv_iconst (v := 1) C d_L_law_300 (by decide) ?_
  refine pv_iadd C d_L_law_301 ?_
  refine pv_sld C Y (j := i + 1) (lw_ix i 1) (by omega) d_L_law_302 ?_
  refine pv_aload_n C d_L_law_303 rfl 1 rfl ?_
  refine pv_iload C d_L_law_304 0 rfl ?_
  refine pv_iconst (v := 2) C d_L_law_306 (by decide) ?_
  refine pv_iadd C d_L_law_307 ?_
  refine pv_sld C Y (j := i + 2) (lw_ix i 2) (by omega) d_L_law_308 ?_
  refine pv_aload_n C d_L_law_309 rfl 1 rfl ?_
  refine pv_iload C d_L_law_310 0 rfl ?_
  refine pv_iconst (v := 3) C d_L_law_312 (by decide) ?_
  refine pv_iadd C d_L_law_313 ?_
  refine pv_sld C Y (j := i + 3) (lw_ix i 3) (by omega) d_L_law_314 ?_
  refine pv_nz C d_L_law_315 d_L_law_318 d_L_law_319 d_L_law_322 ?_
  refine pv_aload_n C d_L_law_323 rfl 4 rfl ?_
  obtain ⟨q, hq⟩ : ∃ q : Int32 × zT, q = m_arrive z (xs (i + 1)) (xs (i + 2)) (!decide (xs (i + 3) = 0)) := ⟨_, rfl⟩
  have hM := c_L_arrive (l0 := l0) (D := D) (γ := γ) (f0 := va_up (mm_f γ g0 mo ad z) oa (lo γ ov)) hl0 J hoL (va_up_self _ _ _) hd1 (xs (i + 1)) (xs (i + 2)) (!decide (xs (i + 3) = 0))
  rw [← hq] at hM
  have hE1 : zE q.2 := by rw [hq]; exact zE_arrive hE
  refine pv_callSH (n := 5) (As := [.ref (ρ (0, 0)), .int (xs (i + 1)), .int (xs (i + 2)), .int (bN (!decide (xs (i + 3) = 0))), .ref oa]) (rest := []) C hM cd_L_arrive ml_L_110 in_L sm_L_arrive (by decide +kernel) (by decide) rfl (Nat.le_of_ble_eq_true rfl) rfl d_L_law_324 (show cells + 4 ≤ 601024 ∧ slots + 24 ≤ 7293034 from ⟨by omega, by omega⟩) (fun v9 LP9 f9 h9 => ?_)
  obtain ⟨rfl, ks', ρ', x', ov', rfl, hov, J', hρ, hL, hfr⟩ := h9
  have hw' := wI_c hw J' hL hfr hE1
  refine pv_stf (f2 := wf γ ks' ρ' x' g0 mo ad oa ov' q.2 z) (st2 := [.int (q.2 0 0)]) (c2 := cells + 4) (s2 := slots + 24) (by rw [va_up2]) rfl rfl rfl ?_
  refine pv_istore (lv' := [(5, .int (q.2 0 0)), (4, .int (nI i)), (0, .ref b), (1, .ref (ρ (0, 0))), (2, .ref mo), (3, .ref oa)]) C d_L_law_327 (by decide) rfl ?_
  refine pk_fz (f2 := mm_f γ (kf ks' ρ' (cz γ ρ' q.2 x') (va_up g0 oa (lo γ ov'))) mo ad z) (wf_m hw') ?_
  refine pv_aload_n C d_L_law_329 rfl 4 rfl ?_
  refine pv_aload_n C d_L_law_330 rfl 2 rfl ?_
  refine pv_iload C d_L_law_331 1 rfl ?_
  refine pv_iconst (v := 1) C d_L_law_333 (by decide) ?_
  refine pv_iadd C d_L_law_334 ?_
  refine pv_sld C Y (j := i + 1) (lw_ix i 1) (by omega) d_L_law_335 ?_
  refine pv_aload_n C d_L_law_336 rfl 2 rfl ?_
  refine pv_iload C d_L_law_337 1 rfl ?_
  refine pv_iconst (v := 2) C d_L_law_339 (by decide) ?_
  refine pv_iadd C d_L_law_340 ?_
  refine pv_sld C Y (j := i + 2) (lw_ix i 2) (by omega) d_L_law_341 ?_
  refine pv_aload_n C d_L_law_342 rfl 2 rfl ?_
  refine pv_iload C d_L_law_343 1 rfl ?_
  refine pv_iconst (v := 3) C d_L_law_345 (by decide) ?_
  refine pv_iadd C d_L_law_346 ?_
  refine pv_sld C Y (j := i + 3) (lw_ix i 3) (by omega) d_L_law_347 ?_
  refine pv_nz C d_L_law_348 d_L_law_351 d_L_law_352 d_L_law_355 ?_
  have hN := c_M_arrive (l0 := l0) (D := D) (γ := γ) (f0 := kf ks' ρ' (cz γ ρ' q.2 x') (va_up g0 oa (lo γ ov'))) hl0 hw'.2.1 z (xs (i + 1)) (xs (i + 2)) (!decide (xs (i + 3) = 0)) hz
  rw [← hq] at hN
  refine pv_callV0 (n := 3) (As := [.int (xs (i + 1)), .int (xs (i + 2)), .int (bN (!decide (xs (i + 3) = 0)))]) (rest := []) C hN cd_M_arrive ml_L_113 in_M im_M_arrive se_M_arrive hw'.2.1.1 mm_obj rfl rfl (by decide +kernel) (by decide) rfl (Nat.le_of_ble_eq_true rfl) rfl d_L_law_356 (show cells + 4 + 0 ≤ 601024 ∧ slots + 24 + 0 ≤ 7293034 from ⟨by omega, by omega⟩) (fun v9 LP8 f9 h9 => ?_)
  obtain ⟨rfl, w9, rfl⟩ := h9
  subst w9
  refine pv_stf (f2 := mm_f γ (kf ks' ρ' (cz γ ρ' q.2 x') (va_up g0 oa (lo γ ov'))) mo ad q.2) (st2 := [.int q.1]) (c2 := cells + 4) (s2 := slots + 24) rfl rfl rfl rfl ?_
  refine pv_istore (lv' := [(6, .int q.1), (5, .int (q.2 0 0)), (4, .int (nI i)), (0, .ref b), (1, .ref (ρ (0, 0))), (2, .ref mo), (3, .ref oa)]) C d_L_law_359 (by decide) rfl ?_
  refine pv_aload_n C d_L_law_361 rfl 5 rfl ?_
  refine pv_callV0 (n := 0) (As := []) (rest := []) C (c_M_thrown hl0 hw'.2.1 q.2) cd_M_thrown ml_L_102 in_M im_M_thrown se_M_thrown hw'.2.1.1 mm_obj rfl rfl (by decide +kernel) (by decide) rfl (Nat.le_of_ble_eq_true rfl) rfl d_L_law_362 (show cells + 4 + 0 ≤ 601024 ∧ slots + 24 + 0 ≤ 7293034 from ⟨by omega, by omega⟩) (fun v9 LP8 f9 h9 => ?_)
  obtain ⟨rfl, w9, rfl⟩ := h9
  subst w9
  refine pv_stf (f2 := wf γ ks' ρ' x' g0 mo ad oa ov' q.2 q.2) (st2 := [.int (q.2 0 0)]) (c2 := cells + 4) (s2 := slots + 24) (wf_m hw').symm rfl rfl rfl ?_
  refine pv_iload C d_L_law_365 1 rfl ?_
  refine pv_icmp_eq (tgt := 372) C d_L_law_367 (by decide) (fun _ => ?_) (fun w => absurd rfl w)
  refine pv_iload C d_L_law_372 1 rfl ?_
  refine pv_if_ne (tgt := 389) C d_L_law_374 (by decide) (fun _ => ?_) (fun h0 => ?_)
  · refine pv_goto (tgt := 1677) C d_L_law_389 (by decide) ?_
    refine pv_lvs (lv2 := [(4, .int (nI i)), (0, .ref b), (1, .ref (ρ' (0, 0))), (2, .ref mo), (3, .ref oa)]) [2, 3, 4, 5, 6] (by rw [hρ]; rfl) ?_
    exact pv_wide (by omega) (by omega) (kk _ _ _ _ _ _ hw')
  refine pv_aload_n C d_L_law_377 rfl 6 rfl ?_
  refine pv_iconst (v := 0) C d_L_law_378 (by decide) ?_
  refine pv_lald C 5 rfl hw'.2.2.1 ((kf_not hw'.2.2.2.1).trans (va_up_self _ _ _)) (j := 0) rfl (by decide) (by decide) d_L_law_379 ?_
  refine pv_iload C d_L_law_380 0 rfl ?_
  refine pv_i2l C d_L_law_382 ?_
  refine pv_lcmp C d_L_law_383 ?_
  refine pv_if_eq (tgt := 389) C d_L_law_384 (by decide) (fun _ => ?_) (fun w => absurd (by rw [hov h0, lg_self]) w)
  refine pv_goto (tgt := 1677) C d_L_law_389 (by decide) ?_
  refine pv_lvs (lv2 := [(4, .int (nI i)), (0, .ref b), (1, .ref (ρ' (0, 0))), (2, .ref mo), (3, .ref oa)]) [2, 3, 4, 5, 6] (by rw [hρ]; rfl) ?_
  exact pv_wide (by omega) (by omega) (kk _ _ _ _ _ _ hw')
set_option maxRecDepth 100000 in
set_option maxHeartbeats 4000000 in
theorem lc_accept {l0 : Launch} {D : va_G} {γ : Nat → ClassId} {κ : pv_K} {b L : Nat} {xs : Nat → Int32} (hl0 : l0.stackTraces = false) (C : pv_C l0 D (tys_ γ) κ code RL room_1 7) (Y : pv_Y κ b L xs) {cells slots : Nat} {LP : List Nat} {ks : List kT} {ρ : kT → Nat} {z : zT} {x : xT} {mo : Nat} {ad : Nat → Nat} {oa : Nat} {ov : Nat → Int64} {g0 : Nat → va_E} (hw : wI LP ks ρ z x mo ad oa) {i : Nat} (hi : i + 6 ≤ L) (hcl : cells + 16 ≤ 601024) (hsl : slots + 128 ≤ 7293034) (kk : ∀ (LP' : List Nat) (ks' : List kT) (ρ' : kT → Nat) (z' : zT) (x' : xT) (ov' : Nat → Int64), wI LP' ks' ρ' z' x' mo ad oa → pv_V D κ (cells + 16) (slots + 128) LP' (wf γ ks' ρ' x' g0 mo ad oa ov' z' z') 1677 [(4, .int (nI i)), (0, .ref b), (1, .ref (ρ' (0, 0))), (2, .ref mo), (3, .ref oa)] []) : pv_V D κ cells slots LP (wf γ ks ρ x g0 mo ad oa ov z z) 392 [(4, .int (nI i)), (0, .ref b), (1, .ref (ρ (0, 0))), (2, .ref mo), (3, .ref oa)] [] := by
  obtain ⟨J, G, hoL, hd1, hd2, hd3, hE⟩ := id hw
  have hz := J.2.2.1
  refine pv_aload_n C d_L_law_392 rfl 2 rfl ?_
  refine pv_aload_n C d_L_law_393 rfl 1 rfl ?_
  refine pv_iload C d_L_law_394 0 rfl ?_
  refine pv_iconst (v := 1) C d_L_law_396 (by decide) ?_
  refine pv_iadd C d_L_law_397 ?_
  refine pv_sld C Y (j := i + 1) (lw_ix i 1) (by omega) d_L_law_398 ?_
  refine pv_aload_n C d_L_law_399 rfl 1 rfl ?_
  refine pv_iload C d_L_law_400 0 rfl ?_
  refine pv_iconst (v := 2) C d_L_law_402 (by decide) ?_
  refine pv_iadd C d_L_law_403 ?_
  refine pv_sld C Y (j := i + 2) (lw_ix i 2) (by omega) d_L_law_404 ?_
  obtain ⟨q, hq⟩ : ∃ q : zT, q = m_accept z (xs (i + 1)) (xs (i + 2)) := ⟨_, rfl⟩
  have hM := c_L_accept (l0 := l0) (D := D) (γ := γ) (f0 := va_up (mm_f γ g0 mo ad z) oa (lo γ ov)) hl0 J (xs (i + 1)) (xs (i + 2))
  rw [← hq] at hM
  have hE1 : zE q := by rw [hq]; exact zE_accept hE
  refine pv_callSH (n := 3) (As := [.ref (ρ (0, 0)), .int (xs (i + 1)), .int (xs (i + 2))]) (rest := []) C hM cd_L_accept ml_L_114 in_L sm_L_accept (by decide +kernel) (by decide) rfl (Nat.le_of_ble_eq_true rfl) rfl d_L_law_405 (show cells + 3 ≤ 601024 ∧ slots + 18 ≤ 7293034 from ⟨by omega, by omega⟩) (fun v9 LP9 f9 h9 => ?_)
  obtain ⟨rfl, ks', ρ', x', rfl, J', hρ, hL, hfr⟩ := h9
  have hw' := wI_c hw J' hL hfr hE1
  refine pv_stf (f2 := wf γ ks' ρ' x' g0 mo ad oa ov q z) (st2 := [.int (q 0 0)]) (c2 := cells + 3) (s2 := slots + 18) (rfl) rfl rfl rfl ?_
  refine pv_istore (lv' := [(5, .int (q 0 0)), (4, .int (nI i)), (0, .ref b), (1, .ref (ρ (0, 0))), (2, .ref mo), (3, .ref oa)]) C d_L_law_408 (by decide) rfl ?_
  refine pk_fz (f2 := mm_f γ (kf ks' ρ' (cz γ ρ' q x') (va_up g0 oa (lo γ ov))) mo ad z) (wf_m hw') ?_
  refine pv_aload_n C d_L_law_410 rfl 4 rfl ?_
  refine pv_aload_n C d_L_law_411 rfl 2 rfl ?_
  refine pv_iload C d_L_law_412 1 rfl ?_
  refine pv_iconst (v := 1) C d_L_law_414 (by decide) ?_
  refine pv_iadd C d_L_law_415 ?_
  refine pv_sld C Y (j := i + 1) (lw_ix i 1) (by omega) d_L_law_416 ?_
  refine pv_aload_n C d_L_law_417 rfl 2 rfl ?_
  refine pv_iload C d_L_law_418 1 rfl ?_
  refine pv_iconst (v := 2) C d_L_law_420 (by decide) ?_
  refine pv_iadd C d_L_law_421 ?_
  refine pv_sld C Y (j := i + 2) (lw_ix i 2) (by omega) d_L_law_422 ?_
  have hN := c_M_accept (l0 := l0) (D := D) (γ := γ) (f0 := kf ks' ρ' (cz γ ρ' q x') (va_up g0 oa (lo γ ov))) hl0 hw'.2.1 z (xs (i + 1)) (xs (i + 2)) hz
  rw [← hq] at hN
  refine pv_callV0 (n := 2) (As := [.int (xs (i + 1)), .int (xs (i + 2))]) (rest := []) C hN cd_M_accept ml_L_117 in_M im_M_accept se_M_accept hw'.2.1.1 mm_obj rfl rfl (by decide +kernel) (by decide) rfl (Nat.le_of_ble_eq_true rfl) rfl d_L_law_423 (show cells + 3 + 0 ≤ 601024 ∧ slots + 18 + 0 ≤ 7293034 from ⟨by omega, by omega⟩) (fun v9 LP8 f9 h9 => ?_)
  obtain ⟨rfl, w9, rfl⟩ := h9
  subst w9
  refine pv_stf (f2 := mm_f γ (kf ks' ρ' (cz γ ρ' q x') (va_up g0 oa (lo γ ov))) mo ad q) (st2 := []) (c2 := cells + 3) (s2 := slots + 18) rfl rfl rfl rfl ?_
  refine pv_aload_n C d_L_law_426 rfl 4 rfl ?_
  refine pv_callV0 (n := 0) (As := []) (rest := []) C (c_M_thrown hl0 hw'.2.1 q) cd_M_thrown ml_L_102 in_M im_M_thrown se_M_thrown hw'.2.1.1 mm_obj rfl rfl (by decide +kernel) (by decide) rfl (Nat.le_of_ble_eq_true rfl) rfl d_L_law_427 (show cells + 3 + 0 ≤ 601024 ∧ slots + 18 + 0 ≤ 7293034 from ⟨by omega, by omega⟩) (fun v9 LP8 f9 h9 => ?_)
  obtain ⟨rfl, w9, rfl⟩ := h9
  subst w9
  refine pv_stf (f2 := wf γ ks' ρ' x' g0 mo ad oa ov q q) (st2 := [.int (q 0 0)]) (c2 := cells + 3) (s2 := slots + 18) (wf_m hw').symm rfl rfl rfl ?_
  refine pv_iload C d_L_law_430 0 rfl ?_
  refine pv_icmp_eq (tgt := 437) C d_L_law_432 (by decide) (fun _ => ?_) (fun w => absurd rfl w)
  refine pv_goto (tgt := 1677) C d_L_law_437 (by decide) ?_
  refine pv_lvs (lv2 := [(4, .int (nI i)), (0, .ref b), (1, .ref (ρ' (0, 0))), (2, .ref mo), (3, .ref oa)]) [1, 2, 3, 4, 5] (by rw [hρ]; rfl) ?_
  exact pv_wide (by omega) (by omega) (kk _ _ _ _ _ _ hw')
set_option maxRecDepth 100000 in
set_option maxHeartbeats 4000000 in
theorem lc_right {l0 : Launch} {D : va_G} {γ : Nat → ClassId} {κ : pv_K} {b L : Nat} {xs : Nat → Int32} (hl0 : l0.stackTraces = false) (C : pv_C l0 D (tys_ γ) κ code RL room_1 7) (Y : pv_Y κ b L xs) {cells slots : Nat} {LP : List Nat} {ks : List kT} {ρ : kT → Nat} {z : zT} {x : xT} {mo : Nat} {ad : Nat → Nat} {oa : Nat} {ov : Nat → Int64} {g0 : Nat → va_E} (hw : wI LP ks ρ z x mo ad oa) {i : Nat} (hi : i + 6 ≤ L) (hcl : cells + 16 ≤ 601024) (hsl : slots + 128 ≤ 7293034) (kk : ∀ (LP' : List Nat) (ks' : List kT) (ρ' : kT → Nat) (z' : zT) (x' : xT) (ov' : Nat → Int64), wI LP' ks' ρ' z' x' mo ad oa → pv_V D κ (cells + 16) (slots + 128) LP' (wf γ ks' ρ' x' g0 mo ad oa ov' z' z') 1677 [(4, .int (nI i)), (0, .ref b), (1, .ref (ρ' (0, 0))), (2, .ref mo), (3, .ref oa)] []) : pv_V D κ cells slots LP (wf γ ks ρ x g0 mo ad oa ov z z) 440 [(4, .int (nI i)), (0, .ref b), (1, .ref (ρ (0, 0))), (2, .ref mo), (3, .ref oa)] [] := by
  obtain ⟨J, G, hoL, hd1, hd2, hd3, hE⟩ := id hw
  have hz := J.2.2.1
  refine pv_aload_n C d_L_law_440 rfl 2 rfl ?_
  refine pv_aload_n C d_L_law_441 rfl 1 rfl ?_
  refine pv_iload C d_L_law_442 0 rfl ?_
  refine pv_iconst (v := 1) C d_L_law_444 (by decide) ?_
  refine pv_iadd C d_L_law_445 ?_
  refine pv_sld C Y (j := i + 1) (lw_ix i 1) (by omega) d_L_law_446 ?_
  refine pv_aload_n C d_L_law_447 rfl 1 rfl ?_
  refine pv_iload C d_L_law_448 0 rfl ?_
  refine pv_iconst (v := 2) C d_L_law_450 (by decide) ?_
  refine pv_iadd C d_L_law_451 ?_
  refine pv_sld C Y (j := i + 2) (lw_ix i 2) (by omega) d_L_law_452 ?_
  refine pv_nz C d_L_law_453 d_L_law_456 d_L_law_457 d_L_law_460 ?_
  obtain ⟨q, hq⟩ : ∃ q : zT, q = m_right z (xs (i + 1)) (!decide (xs (i + 2) = 0)) := ⟨_, rfl⟩
  have hM := c_L_right (l0 := l0) (D := D) (γ := γ) (f0 := va_up (mm_f γ g0 mo ad z) oa (lo γ ov)) hl0 J (xs (i + 1)) (!decide (xs (i + 2) = 0))
  rw [← hq] at hM
  have hE1 : zE q := by rw [hq]; exact zE_right hE
  refine pv_callSH (n := 3) (As := [.ref (ρ (0, 0)), .int (xs (i + 1)), .int (bN (!decide (xs (i + 2) = 0)))]) (rest := []) C hM cd_L_right ml_L_118 in_L sm_L_right (by decide +kernel) (by decide) rfl (Nat.le_of_ble_eq_true rfl) rfl d_L_law_461 (show cells + 1 ≤ 601024 ∧ slots + 6 ≤ 7293034 from ⟨by omega, by omega⟩) (fun v9 LP9 f9 h9 => ?_)
  obtain ⟨rfl, ks', ρ', x', rfl, J', hρ, hL, hfr⟩ := h9
  have hw' := wI_c hw J' hL hfr hE1
  refine pv_stf (f2 := wf γ ks' ρ' x' g0 mo ad oa ov q z) (st2 := [.int (q 0 0)]) (c2 := cells + 1) (s2 := slots + 6) (rfl) rfl rfl rfl ?_
  refine pv_istore (lv' := [(5, .int (q 0 0)), (4, .int (nI i)), (0, .ref b), (1, .ref (ρ (0, 0))), (2, .ref mo), (3, .ref oa)]) C d_L_law_464 (by decide) rfl ?_
  refine pk_fz (f2 := mm_f γ (kf ks' ρ' (cz γ ρ' q x') (va_up g0 oa (lo γ ov))) mo ad z) (wf_m hw') ?_
  refine pv_aload_n C d_L_law_466 rfl 4 rfl ?_
  refine pv_aload_n C d_L_law_467 rfl 2 rfl ?_
  refine pv_iload C d_L_law_468 1 rfl ?_
  refine pv_iconst (v := 1) C d_L_law_470 (by decide) ?_
  refine pv_iadd C d_L_law_471 ?_
  refine pv_sld C Y (j := i + 1) (lw_ix i 1) (by omega) d_L_law_472 ?_
  refine pv_aload_n C d_L_law_473 rfl 2 rfl ?_
  refine pv_iload C d_L_law_474 1 rfl ?_
  refine pv_iconst (v := 2) C d_L_law_476 (by decide) ?_
  refine pv_iadd C d_L_law_477 ?_
  refine pv_sld C Y (j := i + 2) (lw_ix i 2) (by omega) d_L_law_478 ?_
  refine pv_nz C d_L_law_479 d_L_law_482 d_L_law_483 d_L_law_486 ?_
  have hN := c_M_right (l0 := l0) (D := D) (γ := γ) (f0 := kf ks' ρ' (cz γ ρ' q x') (va_up g0 oa (lo γ ov))) hl0 hw'.2.1 z (xs (i + 1)) (!decide (xs (i + 2) = 0))
  rw [← hq] at hN
  refine pv_callV0 (n := 2) (As := [.int (xs (i + 1)), .int (bN (!decide (xs (i + 2) = 0)))]) (rest := []) C hN cd_M_right ml_L_121 in_M im_M_right se_M_right hw'.2.1.1 mm_obj rfl rfl (by decide +kernel) (by decide) rfl (Nat.le_of_ble_eq_true rfl) rfl d_L_law_487 (show cells + 1 + 0 ≤ 601024 ∧ slots + 6 + 0 ≤ 7293034 from ⟨by omega, by omega⟩) (fun v9 LP8 f9 h9 => ?_)
  obtain ⟨rfl, w9, rfl⟩ := h9
  subst w9
  refine pv_stf (f2 := mm_f γ (kf ks' ρ' (cz γ ρ' q x') (va_up g0 oa (lo γ ov))) mo ad q) (st2 := []) (c2 := cells + 1) (s2 := slots + 6) rfl rfl rfl rfl ?_
  refine pv_aload_n C d_L_law_490 rfl 4 rfl ?_
  refine pv_callV0 (n := 0) (As := []) (rest := []) C (c_M_thrown hl0 hw'.2.1 q) cd_M_thrown ml_L_102 in_M im_M_thrown se_M_thrown hw'.2.1.1 mm_obj rfl rfl (by decide +kernel) (by decide) rfl (Nat.le_of_ble_eq_true rfl) rfl d_L_law_491 (show cells + 1 + 0 ≤ 601024 ∧ slots + 6 + 0 ≤ 7293034 from ⟨by omega, by omega⟩) (fun v9 LP8 f9 h9 => ?_)
  obtain ⟨rfl, w9, rfl⟩ := h9
  subst w9
  refine pv_stf (f2 := wf γ ks' ρ' x' g0 mo ad oa ov q q) (st2 := [.int (q 0 0)]) (c2 := cells + 1) (s2 := slots + 6) (wf_m hw').symm rfl rfl rfl ?_
  refine pv_iload C d_L_law_494 0 rfl ?_
  refine pv_icmp_eq (tgt := 501) C d_L_law_496 (by decide) (fun _ => ?_) (fun w => absurd rfl w)
  refine pv_goto (tgt := 1677) C d_L_law_501 (by decide) ?_
  refine pv_lvs (lv2 := [(4, .int (nI i)), (0, .ref b), (1, .ref (ρ' (0, 0))), (2, .ref mo), (3, .ref oa)]) [1, 2, 3, 4, 5] (by rw [hρ]; rfl) ?_
  exact pv_wide (by omega) (by omega) (kk _ _ _ _ _ _ hw')
set_option maxRecDepth 100000 in
set_option maxHeartbeats 4000000 in
theorem lc_tolerance {l0 : Launch} {D : va_G} {γ : Nat → ClassId} {κ : pv_K} {b L : Nat} {xs : Nat → Int32} (hl0 : l0.stackTraces = false) (C : pv_C l0 D (tys_ γ) κ code RL room_1 7) (Y : pv_Y κ b L xs) {cells slots : Nat} {LP : List Nat} {ks : List kT} {ρ : kT → Nat} {z : zT} {x : xT} {mo : Nat} {ad : Nat → Nat} {oa : Nat} {ov : Nat → Int64} {g0 : Nat → va_E} (hw : wI LP ks ρ z x mo ad oa) {i : Nat} (hi : i + 6 ≤ L) (hcl : cells + 16 ≤ 601024) (hsl : slots + 128 ≤ 7293034) (kk : ∀ (LP' : List Nat) (ks' : List kT) (ρ' : kT → Nat) (z' : zT) (x' : xT) (ov' : Nat → Int64), wI LP' ks' ρ' z' x' mo ad oa → pv_V D κ (cells + 16) (slots + 128) LP' (wf γ ks' ρ' x' g0 mo ad oa ov' z' z') 1677 [(4, .int (nI i)), (0, .ref b), (1, .ref (ρ' (0, 0))), (2, .ref mo), (3, .ref oa)] []) : pv_V D κ cells slots LP (wf γ ks ρ x g0 mo ad oa ov z z) 504 [(4, .int (nI i)), (0, .ref b), (1, .ref (ρ (0, 0))), (2, .ref mo), (3, .ref oa)] [] := by
  obtain ⟨J, G, hoL, hd1, hd2, hd3, hE⟩ := id hw
  have hz := J.2.2.1
  refine pv_aload_n C d_L_law_504 rfl 2 rfl ?_
  refine pv_aload_n C d_L_law_505 rfl 1 rfl ?_
  refine pv_iload C d_L_law_506 0 rfl ?_
  refine pv_iconst (v := 1) C d_L_law_508 (by decide) ?_
  refine pv_iadd C d_L_law_509 ?_
  refine pv_sld C Y (j := i + 1) (lw_ix i 1) (by omega) d_L_law_510 ?_
  refine pv_aload_n C d_L_law_511 rfl 1 rfl ?_
  refine pv_iload C d_L_law_512 0 rfl ?_
  refine pv_iconst (v := 2) C d_L_law_514 (by decide) ?_
  refine pv_iadd C d_L_law_515 ?_
  refine pv_sld C Y (j := i + 2) (lw_ix i 2) (by omega) d_L_law_516 ?_
  refine pv_aload_n C d_L_law_517 rfl 1 rfl ?_
  refine pv_iload C d_L_law_518 0 rfl ?_
  refine pv_iconst (v := 3) C d_L_law_520 (by decide) ?_
  refine pv_iadd C d_L_law_521 ?_
  refine pv_sld C Y (j := i + 3) (lw_ix i 3) (by omega) d_L_law_522 ?_
  obtain ⟨q, hq⟩ : ∃ q : zT, q = m_tolerance z (xs (i + 1)) (xs (i + 2)) (xs (i + 3)) := ⟨_, rfl⟩
  have hM := c_L_tolerance (l0 := l0) (D := D) (γ := γ) (f0 := va_up (mm_f γ g0 mo ad z) oa (lo γ ov)) hl0 J (xs (i + 1)) (xs (i + 2)) (xs (i + 3))
  rw [← hq] at hM
  have hE1 : zE q := by rw [hq]; exact zE_tolerance hE
  refine pv_callSH (n := 4) (As := [.ref (ρ (0, 0)), .int (xs (i + 1)), .int (xs (i + 2)), .int (xs (i + 3))]) (rest := []) C hM cd_L_tolerance ml_L_122 in_L sm_L_tolerance (by decide +kernel) (by decide) rfl (Nat.le_of_ble_eq_true rfl) rfl d_L_law_523 (show cells + 4 ≤ 601024 ∧ slots + 24 ≤ 7293034 from ⟨by omega, by omega⟩) (fun v9 LP9 f9 h9 => ?_)
  obtain ⟨rfl, ks', ρ', x', rfl, J', hρ, hL, hfr⟩ := h9
  have hw' := wI_c hw J' hL hfr hE1
  refine pv_stf (f2 := wf γ ks' ρ' x' g0 mo ad oa ov q z) (st2 := [.int (q 0 0)]) (c2 := cells + 4) (s2 := slots + 24) (rfl) rfl rfl rfl ?_
  refine pv_istore (lv' := [(5, .int (q 0 0)), (4, .int (nI i)), (0, .ref b), (1, .ref (ρ (0, 0))), (2, .ref mo), (3, .ref oa)]) C d_L_law_526 (by decide) rfl ?_
  refine pk_fz (f2 := mm_f γ (kf ks' ρ' (cz γ ρ' q x') (va_up g0 oa (lo γ ov))) mo ad z) (wf_m hw') ?_
  refine pv_aload_n C d_L_law_528 rfl 4 rfl ?_
  refine pv_aload_n C d_L_law_529 rfl 2 rfl ?_
  refine pv_iload C d_L_law_530 1 rfl ?_
  refine pv_iconst (v := 1) C d_L_law_532 (by decide) ?_
  refine pv_iadd C d_L_law_533 ?_
  refine pv_sld C Y (j := i + 1) (lw_ix i 1) (by omega) d_L_law_534 ?_
  refine pv_aload_n C d_L_law_535 rfl 2 rfl ?_
  refine pv_iload C d_L_law_536 1 rfl ?_
  refine pv_iconst (v := 2) C d_L_law_538 (by decide) ?_
  refine pv_iadd C d_L_law_539 ?_
  refine pv_sld C Y (j := i + 2) (lw_ix i 2) (by omega) d_L_law_540 ?_
  refine pv_aload_n C d_L_law_541 rfl 2 rfl ?_
  refine pv_iload C d_L_law_542 1 rfl ?_
  refine pv_iconst (v := 3) C d_L_law_544 (by decide) ?_
  refine pv_iadd C d_L_law_545 ?_
  refine pv_sld C Y (j := i + 3) (lw_ix i 3) (by omega) d_L_law_546 ?_
  have hN := c_M_tolerance (l0 := l0) (D := D) (γ := γ) (f0 := kf ks' ρ' (cz γ ρ' q x') (va_up g0 oa (lo γ ov))) hl0 hw'.2.1 z (xs (i + 1)) (xs (i + 2)) (xs (i + 3)) hz
  rw [← hq] at hN
  refine pv_callV0 (n := 3) (As := [.int (xs (i + 1)), .int (xs (i + 2)), .int (xs (i + 3))]) (rest := []) C hN cd_M_tolerance ml_L_125 in_M im_M_tolerance se_M_tolerance hw'.2.1.1 mm_obj rfl rfl (by decide +kernel) (by decide) rfl (Nat.le_of_ble_eq_true rfl) rfl d_L_law_547 (show cells + 4 + 0 ≤ 601024 ∧ slots + 24 + 0 ≤ 7293034 from ⟨by omega, by omega⟩) (fun v9 LP8 f9 h9 => ?_)
  obtain ⟨rfl, w9, rfl⟩ := h9
  subst w9
  refine pv_stf (f2 := mm_f γ (kf ks' ρ' (cz γ ρ' q x') (va_up g0 oa (lo γ ov))) mo ad q) (st2 := []) (c2 := cells + 4) (s2 := slots + 24) rfl rfl rfl rfl ?_
  refine pv_aload_n C d_L_law_550 rfl 4 rfl ?_
  refine pv_callV0 (n := 0) (As := []) (rest := []) C (c_M_thrown hl0 hw'.2.1 q) cd_M_thrown ml_L_102 in_M im_M_thrown se_M_thrown hw'.2.1.1 mm_obj rfl rfl (by decide +kernel) (by decide) rfl (Nat.le_of_ble_eq_true rfl) rfl d_L_law_551 (show cells + 4 + 0 ≤ 601024 ∧ slots + 24 + 0 ≤ 7293034 from ⟨by omega, by omega⟩) (fun v9 LP8 f9 h9 => ?_)
  obtain ⟨rfl, w9, rfl⟩ := h9
  subst w9
  refine pv_stf (f2 := wf γ ks' ρ' x' g0 mo ad oa ov q q) (st2 := [.int (q 0 0)]) (c2 := cells + 4) (s2 := slots + 24) (wf_m hw').symm rfl rfl rfl ?_
  refine pv_iload C d_L_law_554 0 rfl ?_
  refine pv_icmp_eq (tgt := 561) C d_L_law_556 (by decide) (fun _ => ?_) (fun w => absurd rfl w)
  refine pv_goto (tgt := 1677) C d_L_law_561 (by decide) ?_
  refine pv_lvs (lv2 := [(4, .int (nI i)), (0, .ref b), (1, .ref (ρ' (0, 0))), (2, .ref mo), (3, .ref oa)]) [1, 2, 3, 4, 5] (by rw [hρ]; rfl) ?_
  exact pv_wide (by omega) (by omega) (kk _ _ _ _ _ _ hw')
set_option maxRecDepth 100000 in
set_option maxHeartbeats 4000000 in
theorem lc_wanted {l0 : Launch} {D : va_G} {γ : Nat → ClassId} {κ : pv_K} {b L : Nat} {xs : Nat → Int32} (hl0 : l0.stackTraces = false) (C : pv_C l0 D (tys_ γ) κ code RL room_1 7) (Y : pv_Y κ b L xs) {cells slots : Nat} {LP : List Nat} {ks : List kT} {ρ : kT → Nat} {z : zT} {x : xT} {mo : Nat} {ad : Nat → Nat} {oa : Nat} {ov : Nat → Int64} {g0 : Nat → va_E} (hw : wI LP ks ρ z x mo ad oa) {i : Nat} (hi : i + 6 ≤ L) (hcl : cells + 16 ≤ 601024) (hsl : slots + 128 ≤ 7293034) (kk : ∀ (LP' : List Nat) (ks' : List kT) (ρ' : kT → Nat) (z' : zT) (x' : xT) (ov' : Nat → Int64), wI LP' ks' ρ' z' x' mo ad oa → pv_V D κ (cells + 16) (slots + 128) LP' (wf γ ks' ρ' x' g0 mo ad oa ov' z' z') 1677 [(4, .int (nI i)), (0, .ref b), (1, .ref (ρ' (0, 0))), (2, .ref mo), (3, .ref oa)] []) : pv_V D κ cells slots LP (wf γ ks ρ x g0 mo ad oa ov z z) 564 [(4, .int (nI i)), (0, .ref b), (1, .ref (ρ (0, 0))), (2, .ref mo), (3, .ref oa)] [] := by
  obtain ⟨J, G, hoL, hd1, hd2, hd3, hE⟩ := id hw
  have hz := J.2.2.1
  refine pv_aload_n C d_L_law_564 rfl 2 rfl ?_
  refine pv_aload_n C d_L_law_565 rfl 1 rfl ?_
  refine pv_iload C d_L_law_566 0 rfl ?_
  refine pv_iconst (v := 1) C d_L_law_568 (by decide) ?_
  refine pv_iadd C d_L_law_569 ?_
  refine pv_sld C Y (j := i + 1) (lw_ix i 1) (by omega) d_L_law_570 ?_
  refine pv_aload_n C d_L_law_571 rfl 1 rfl ?_
  refine pv_iload C d_L_law_572 0 rfl ?_
  refine pv_iconst (v := 2) C d_L_law_574 (by decide) ?_
  refine pv_iadd C d_L_law_575 ?_
  refine pv_sld C Y (j := i + 2) (lw_ix i 2) (by omega) d_L_law_576 ?_
  refine pv_aload_n C d_L_law_577 rfl 1 rfl ?_
  refine pv_iload C d_L_law_578 0 rfl ?_
  refine pv_iconst (v := 3) C d_L_law_580 (by decide) ?_
  refine pv_iadd C d_L_law_581 ?_
  refine pv_sld C Y (j := i + 3) (lw_ix i 3) (by omega) d_L_law_582 ?_
  obtain ⟨q, hq⟩ : ∃ q : zT, q = m_wanted z (xs (i + 1)) (xs (i + 2)) (xs (i + 3)) := ⟨_, rfl⟩
  have hM := c_L_wanted (l0 := l0) (D := D) (γ := γ) (f0 := va_up (mm_f γ g0 mo ad z) oa (lo γ ov)) hl0 J (xs (i + 1)) (xs (i + 2)) (xs (i + 3))
  rw [← hq] at hM
  have hE1 : zE q := by rw [hq]; exact zE_wanted hE
  refine pv_callSH (n := 4) (As := [.ref (ρ (0, 0)), .int (xs (i + 1)), .int (xs (i + 2)), .int (xs (i + 3))]) (rest := []) C hM cd_L_wanted ml_L_126 in_L sm_L_wanted (by decide +kernel) (by decide) rfl (Nat.le_of_ble_eq_true rfl) rfl d_L_law_583 (show cells + 4 ≤ 601024 ∧ slots + 24 ≤ 7293034 from ⟨by omega, by omega⟩) (fun v9 LP9 f9 h9 => ?_)
  obtain ⟨rfl, ks', ρ', x', rfl, J', hρ, hL, hfr⟩ := h9
  have hw' := wI_c hw J' hL hfr hE1
  refine pv_stf (f2 := wf γ ks' ρ' x' g0 mo ad oa ov q z) (st2 := [.int (q 0 0)]) (c2 := cells + 4) (s2 := slots + 24) (rfl) rfl rfl rfl ?_
  refine pv_istore (lv' := [(5, .int (q 0 0)), (4, .int (nI i)), (0, .ref b), (1, .ref (ρ (0, 0))), (2, .ref mo), (3, .ref oa)]) C d_L_law_586 (by decide) rfl ?_
  refine pk_fz (f2 := mm_f γ (kf ks' ρ' (cz γ ρ' q x') (va_up g0 oa (lo γ ov))) mo ad z) (wf_m hw') ?_
  refine pv_aload_n C d_L_law_588 rfl 4 rfl ?_
  refine pv_aload_n C d_L_law_589 rfl 2 rfl ?_
  refine pv_iload C d_L_law_590 1 rfl ?_
  refine pv_iconst (v := 1) C d_L_law_592 (by decide) ?_
  refine pv_iadd C d_L_law_593 ?_
  refine pv_sld C Y (j := i + 1) (lw_ix i 1) (by omega) d_L_law_594 ?_
  refine pv_aload_n C d_L_law_595 rfl 2 rfl ?_
  refine pv_iload C d_L_law_596 1 rfl ?_
  refine pv_iconst (v := 2) C d_L_law_598 (by decide) ?_
  refine pv_iadd C d_L_law_599 ?_
  refine pv_sld C Y (j := i + 2) (lw_ix i 2) (by omega) d_L_law_600 ?_
  refine pv_aload_n C d_L_law_601 rfl 2 rfl ?_
  refine pv_iload C d_L_law_602 1 rfl ?_
  refine pv_iconst (v := 3) C d_L_law_604 (by decide) ?_
  refine pv_iadd C d_L_law_605 ?_
  refine pv_sld C Y (j := i + 3) (lw_ix i 3) (by omega) d_L_law_606 ?_
  have hN := c_M_wanted (l0 := l0) (D := D) (γ := γ) (f0 := kf ks' ρ' (cz γ ρ' q x') (va_up g0 oa (lo γ ov))) hl0 hw'.2.1 z (xs (i + 1)) (xs (i + 2)) (xs (i + 3)) hz
  rw [← hq] at hN
  refine pv_callV0 (n := 3) (As := [.int (xs (i + 1)), .int (xs (i + 2)), .int (xs (i + 3))]) (rest := []) C hN cd_M_wanted ml_L_128 in_M im_M_wanted se_M_wanted hw'.2.1.1 mm_obj rfl rfl (by decide +kernel) (by decide) rfl (Nat.le_of_ble_eq_true rfl) rfl d_L_law_607 (show cells + 4 + 0 ≤ 601024 ∧ slots + 24 + 0 ≤ 7293034 from ⟨by omega, by omega⟩) (fun v9 LP8 f9 h9 => ?_)
  obtain ⟨rfl, w9, rfl⟩ := h9
  subst w9
  refine pv_stf (f2 := mm_f γ (kf ks' ρ' (cz γ ρ' q x') (va_up g0 oa (lo γ ov))) mo ad q) (st2 := []) (c2 := cells + 4) (s2 := slots + 24) rfl rfl rfl rfl ?_
  refine pv_aload_n C d_L_law_610 rfl 4 rfl ?_
  refine pv_callV0 (n := 0) (As := []) (rest := []) C (c_M_thrown hl0 hw'.2.1 q) cd_M_thrown ml_L_102 in_M im_M_thrown se_M_thrown hw'.2.1.1 mm_obj rfl rfl (by decide +kernel) (by decide) rfl (Nat.le_of_ble_eq_true rfl) rfl d_L_law_611 (show cells + 4 + 0 ≤ 601024 ∧ slots + 24 + 0 ≤ 7293034 from ⟨by omega, by omega⟩) (fun v9 LP8 f9 h9 => ?_)
  obtain ⟨rfl, w9, rfl⟩ := h9
  subst w9
  refine pv_stf (f2 := wf γ ks' ρ' x' g0 mo ad oa ov q q) (st2 := [.int (q 0 0)]) (c2 := cells + 4) (s2 := slots + 24) (wf_m hw').symm rfl rfl rfl ?_
  refine pv_iload C d_L_law_614 0 rfl ?_
  refine pv_icmp_eq (tgt := 621) C d_L_law_616 (by decide) (fun _ => ?_) (fun w => absurd rfl w)
  refine pv_goto (tgt := 1677) C d_L_law_621 (by decide) ?_
  refine pv_lvs (lv2 := [(4, .int (nI i)), (0, .ref b), (1, .ref (ρ' (0, 0))), (2, .ref mo), (3, .ref oa)]) [1, 2, 3, 4, 5] (by rw [hρ]; rfl) ?_
  exact pv_wide (by omega) (by omega) (kk _ _ _ _ _ _ hw')
set_option maxRecDepth 100000 in
set_option maxHeartbeats 4000000 in
theorem lc_count {l0 : Launch} {D : va_G} {γ : Nat → ClassId} {κ : pv_K} {b L : Nat} {xs : Nat → Int32} (hl0 : l0.stackTraces = false) (C : pv_C l0 D (tys_ γ) κ code RL room_1 7) (Y : pv_Y κ b L xs) {cells slots : Nat} {LP : List Nat} {ks : List kT} {ρ : kT → Nat} {z : zT} {x : xT} {mo : Nat} {ad : Nat → Nat} {oa : Nat} {ov : Nat → Int64} {g0 : Nat → va_E} (hw : wI LP ks ρ z x mo ad oa) {i : Nat} (hi : i + 6 ≤ L) (hcl : cells + 16 ≤ 601024) (hsl : slots + 128 ≤ 7293034) (kk : ∀ (LP' : List Nat) (ks' : List kT) (ρ' : kT → Nat) (z' : zT) (x' : xT) (ov' : Nat → Int64), wI LP' ks' ρ' z' x' mo ad oa → pv_V D κ (cells + 16) (slots + 128) LP' (wf γ ks' ρ' x' g0 mo ad oa ov' z' z') 1677 [(4, .int (nI i)), (0, .ref b), (1, .ref (ρ' (0, 0))), (2, .ref mo), (3, .ref oa)] []) : pv_V D κ cells slots LP (wf γ ks ρ x g0 mo ad oa ov z z) 624 [(4, .int (nI i)), (0, .ref b), (1, .ref (ρ (0, 0))), (2, .ref mo), (3, .ref oa)] [] := by
  obtain ⟨J, G, hoL, hd1, hd2, hd3, hE⟩ := id hw
  have hz := J.2.2.1
  refine pv_aload_n C d_L_law_624 rfl 2 rfl ?_
  refine pv_aload_n C d_L_law_625 rfl 1 rfl ?_
  refine pv_iload C d_L_law_626 0 rfl ?_
  refine pv_iconst (v := 1) C d_L_law_628 (by decide) ?_
  refine pv_iadd C d_L_law_629 ?_
  refine pv_sld C Y (j := i + 1) (lw_ix i 1) (by omega) d_L_law_630 ?_
  refine pv_aload_n C d_L_law_631 rfl 1 rfl ?_
  refine pv_iload C d_L_law_632 0 rfl ?_
  refine pv_iconst (v := 2) C d_L_law_634 (by decide) ?_
  refine pv_iadd C d_L_law_635 ?_
  refine pv_sld C Y (j := i + 2) (lw_ix i 2) (by omega) d_L_law_636 ?_
  refine pv_aload_n C d_L_law_637 rfl 1 rfl ?_
  refine pv_iload C d_L_law_638 0 rfl ?_
  refine pv_iconst (v := 3) C d_L_law_640 (by decide) ?_
  refine pv_iadd C d_L_law_641 ?_
  refine pv_sld C Y (j := i + 3) (lw_ix i 3) (by omega) d_L_law_642 ?_
  refine pv_aload_n C d_L_law_643 rfl 1 rfl ?_
  refine pv_iload C d_L_law_644 0 rfl ?_
  refine pv_iconst (v := 4) C d_L_law_646 (by decide) ?_
  refine pv_iadd C d_L_law_647 ?_
  refine pv_sld C Y (j := i + 4) (lw_ix i 4) (by omega) d_L_law_648 ?_
  refine pv_aload_n C d_L_law_649 rfl 1 rfl ?_
  refine pv_iload C d_L_law_650 0 rfl ?_
  refine pv_iconst (v := 5) C d_L_law_652 (by decide) ?_
  refine pv_iadd C d_L_law_653 ?_
  refine pv_sld C Y (j := i + 5) (lw_ix i 5) (by omega) d_L_law_654 ?_
  refine pv_aload_n C d_L_law_655 rfl 4 rfl ?_
  obtain ⟨q, hq⟩ : ∃ q : Int32 × zT, q = m_count z (xs (i + 1)) (xs (i + 2)) (xs (i + 3)) (xs (i + 4)) (xs (i + 5)) := ⟨_, rfl⟩
  have hM := c_L_count (l0 := l0) (D := D) (γ := γ) (f0 := va_up (mm_f γ g0 mo ad z) oa (lo γ ov)) hl0 J hoL (va_up_self _ _ _) hd1 (xs (i + 1)) (xs (i + 2)) (xs (i + 3)) (xs (i + 4)) (xs (i + 5))
  rw [← hq] at hM
  have hE1 : zE q.2 := by rw [hq]; exact zE_count hE
  refine pv_callSH (n := 7) (As := [.ref (ρ (0, 0)), .int (xs (i + 1)), .int (xs (i + 2)), .int (xs (i + 3)), .int (xs (i + 4)), .int (xs (i + 5)), .ref oa]) (rest := []) C hM cd_L_count ml_L_129 in_L sm_L_count (by decide +kernel) (by decide) rfl (Nat.le_of_ble_eq_true rfl) rfl d_L_law_656 (show cells + 13 ≤ 601024 ∧ slots + 94 ≤ 7293034 from ⟨by omega, by omega⟩) (fun v9 LP9 f9 h9 => ?_)
  obtain ⟨rfl, ks', ρ', x', ov', rfl, hov, J', hρ, hL, hfr⟩ := h9
  have hw' := wI_c hw J' hL hfr hE1
  refine pv_stf (f2 := wf γ ks' ρ' x' g0 mo ad oa ov' q.2 z) (st2 := [.int (q.2 0 0)]) (c2 := cells + 13) (s2 := slots + 94) (by rw [va_up2]) rfl rfl rfl ?_
  refine pv_istore (lv' := [(5, .int (q.2 0 0)), (4, .int (nI i)), (0, .ref b), (1, .ref (ρ (0, 0))), (2, .ref mo), (3, .ref oa)]) C d_L_law_659 (by decide) rfl ?_
  refine pk_fz (f2 := mm_f γ (kf ks' ρ' (cz γ ρ' q.2 x') (va_up g0 oa (lo γ ov'))) mo ad z) (wf_m hw') ?_
  refine pv_aload_n C d_L_law_661 rfl 4 rfl ?_
  refine pv_aload_n C d_L_law_662 rfl 2 rfl ?_
  refine pv_iload C d_L_law_663 1 rfl ?_
  refine pv_iconst (v := 1) C d_L_law_665 (by decide) ?_
  refine pv_iadd C d_L_law_666 ?_
  refine pv_sld C Y (j := i + 1) (lw_ix i 1) (by omega) d_L_law_667 ?_
  refine pv_aload_n C d_L_law_668 rfl 2 rfl ?_
  refine pv_iload C d_L_law_669 1 rfl ?_
  refine pv_iconst (v := 2) C d_L_law_671 (by decide) ?_
  refine pv_iadd C d_L_law_672 ?_
  refine pv_sld C Y (j := i + 2) (lw_ix i 2) (by omega) d_L_law_673 ?_
  refine pv_aload_n C d_L_law_674 rfl 2 rfl ?_
  refine pv_iload C d_L_law_675 1 rfl ?_
  refine pv_iconst (v := 3) C d_L_law_677 (by decide) ?_
  refine pv_iadd C d_L_law_678 ?_
  refine pv_sld C Y (j := i + 3) (lw_ix i 3) (by omega) d_L_law_679 ?_
  refine pv_aload_n C d_L_law_680 rfl 2 rfl ?_
  refine pv_iload C d_L_law_681 1 rfl ?_
  refine pv_iconst (v := 4) C d_L_law_683 (by decide) ?_
  refine pv_iadd C d_L_law_684 ?_
  refine pv_sld C Y (j := i + 4) (lw_ix i 4) (by omega) d_L_law_685 ?_
  refine pv_aload_n C d_L_law_686 rfl 2 rfl ?_
  refine pv_iload C d_L_law_687 1 rfl ?_
  refine pv_iconst (v := 5) C d_L_law_689 (by decide) ?_
  refine pv_iadd C d_L_law_690 ?_
  refine pv_sld C Y (j := i + 5) (lw_ix i 5) (by omega) d_L_law_691 ?_
  have hN := c_M_count (l0 := l0) (D := D) (γ := γ) (f0 := kf ks' ρ' (cz γ ρ' q.2 x') (va_up g0 oa (lo γ ov'))) hl0 hw'.2.1 z (xs (i + 1)) (xs (i + 2)) (xs (i + 3)) (xs (i + 4)) (xs (i + 5)) hz
  rw [← hq] at hN
  refine pv_callV0 (n := 5) (As := [.int (xs (i + 1)), .int (xs (i + 2)), .int (xs (i + 3)), .int (xs (i + 4)), .int (xs (i + 5))]) (rest := []) C hN cd_M_count ml_L_132 in_M im_M_count se_M_count hw'.2.1.1 mm_obj rfl rfl (by decide +kernel) (by decide) rfl (Nat.le_of_ble_eq_true rfl) rfl d_L_law_692 (show cells + 13 + 0 ≤ 601024 ∧ slots + 94 + 0 ≤ 7293034 from ⟨by omega, by omega⟩) (fun v9 LP8 f9 h9 => ?_)
  obtain ⟨rfl, w9, rfl⟩ := h9
  subst w9
  refine pv_stf (f2 := mm_f γ (kf ks' ρ' (cz γ ρ' q.2 x') (va_up g0 oa (lo γ ov'))) mo ad q.2) (st2 := [.int q.1]) (c2 := cells + 13) (s2 := slots + 94) rfl rfl rfl rfl ?_
  refine pv_istore (lv' := [(6, .int q.1), (5, .int (q.2 0 0)), (4, .int (nI i)), (0, .ref b), (1, .ref (ρ (0, 0))), (2, .ref mo), (3, .ref oa)]) C d_L_law_695 (by decide) rfl ?_
  refine pv_aload_n C d_L_law_697 rfl 5 rfl ?_
  refine pv_callV0 (n := 0) (As := []) (rest := []) C (c_M_thrown hl0 hw'.2.1 q.2) cd_M_thrown ml_L_102 in_M im_M_thrown se_M_thrown hw'.2.1.1 mm_obj rfl rfl (by decide +kernel) (by decide) rfl (Nat.le_of_ble_eq_true rfl) rfl d_L_law_698 (show cells + 13 + 0 ≤ 601024 ∧ slots + 94 + 0 ≤ 7293034 from ⟨by omega, by omega⟩) (fun v9 LP8 f9 h9 => ?_)
  obtain ⟨rfl, w9, rfl⟩ := h9
  subst w9
  refine pv_stf (f2 := wf γ ks' ρ' x' g0 mo ad oa ov' q.2 q.2) (st2 := [.int (q.2 0 0)]) (c2 := cells + 13) (s2 := slots + 94) (wf_m hw').symm rfl rfl rfl ?_
  refine pv_iload C d_L_law_701 1 rfl ?_
  refine pv_icmp_eq (tgt := 708) C d_L_law_703 (by decide) (fun _ => ?_) (fun w => absurd rfl w)
  refine pv_iload C d_L_law_708 1 rfl ?_
  refine pv_if_ne (tgt := 725) C d_L_law_710 (by decide) (fun _ => ?_) (fun h0 => ?_)
  · refine pv_goto (tgt := 1677) C d_L_law_725 (by decide) ?_
    refine pv_lvs (lv2 := [(4, .int (nI i)), (0, .ref b), (1, .ref (ρ' (0, 0))), (2, .ref mo), (3, .ref oa)]) [2, 3, 4, 5, 6] (by rw [hρ]; rfl) ?_
    exact pv_wide (by omega) (by omega) (kk _ _ _ _ _ _ hw')
  refine pv_aload_n C d_L_law_713 rfl 6 rfl ?_
  refine pv_iconst (v := 0) C d_L_law_714 (by decide) ?_
  refine pv_lald C 5 rfl hw'.2.2.1 ((kf_not hw'.2.2.2.1).trans (va_up_self _ _ _)) (j := 0) rfl (by decide) (by decide) d_L_law_715 ?_
  refine pv_iload C d_L_law_716 0 rfl ?_
  refine pv_i2l C d_L_law_718 ?_
  refine pv_lcmp C d_L_law_719 ?_
  refine pv_if_eq (tgt := 725) C d_L_law_720 (by decide) (fun _ => ?_) (fun w => absurd (by rw [hov h0, lg_self]) w)
  refine pv_goto (tgt := 1677) C d_L_law_725 (by decide) ?_
  refine pv_lvs (lv2 := [(4, .int (nI i)), (0, .ref b), (1, .ref (ρ' (0, 0))), (2, .ref mo), (3, .ref oa)]) [2, 3, 4, 5, 6] (by rw [hρ]; rfl) ?_
  exact pv_wide (by omega) (by omega) (kk _ _ _ _ _ _ hw')
set_option maxRecDepth 100000 in
set_option maxHeartbeats 4000000 in
theorem lc_damaged {l0 : Launch} {D : va_G} {γ : Nat → ClassId} {κ : pv_K} {b L : Nat} {xs : Nat → Int32} (hl0 : l0.stackTraces = false) (C : pv_C l0 D (tys_ γ) κ code RL room_1 7) (Y : pv_Y κ b L xs) {cells slots : Nat} {LP : List Nat} {ks : List kT} {ρ : kT → Nat} {z : zT} {x : xT} {mo : Nat} {ad : Nat → Nat} {oa : Nat} {ov : Nat → Int64} {g0 : Nat → va_E} (hw : wI LP ks ρ z x mo ad oa) {i : Nat} (hi : i + 6 ≤ L) (hcl : cells + 16 ≤ 601024) (hsl : slots + 128 ≤ 7293034) (kk : ∀ (LP' : List Nat) (ks' : List kT) (ρ' : kT → Nat) (z' : zT) (x' : xT) (ov' : Nat → Int64), wI LP' ks' ρ' z' x' mo ad oa → pv_V D κ (cells + 16) (slots + 128) LP' (wf γ ks' ρ' x' g0 mo ad oa ov' z' z') 1677 [(4, .int (nI i)), (0, .ref b), (1, .ref (ρ' (0, 0))), (2, .ref mo), (3, .ref oa)] []) : pv_V D κ cells slots LP (wf γ ks ρ x g0 mo ad oa ov z z) 728 [(4, .int (nI i)), (0, .ref b), (1, .ref (ρ (0, 0))), (2, .ref mo), (3, .ref oa)] [] := by
  obtain ⟨J, G, hoL, hd1, hd2, hd3, hE⟩ := id hw
  have hz := J.2.2.1
  refine pv_aload_n C d_L_law_728 rfl 2 rfl ?_
  refine pv_aload_n C d_L_law_729 rfl 1 rfl ?_
  refine pv_iload C d_L_law_730 0 rfl ?_
  refine pv_iconst (v := 1) C d_L_law_732 (by decide) ?_
  refine pv_iadd C d_L_law_733 ?_
  refine pv_sld C Y (j := i + 1) (lw_ix i 1) (by omega) d_L_law_734 ?_
  refine pv_aload_n C d_L_law_735 rfl 1 rfl ?_
  refine pv_iload C d_L_law_736 0 rfl ?_
  refine pv_iconst (v := 2) C d_L_law_738 (by decide) ?_
  refine pv_iadd C d_L_law_739 ?_
  refine pv_sld C Y (j := i + 2) (lw_ix i 2) (by omega) d_L_law_740 ?_
  refine pv_aload_n C d_L_law_741 rfl 4 rfl ?_
  obtain ⟨q, hq⟩ : ∃ q : Int32 × zT, q = m_damaged z (xs (i + 1)) (xs (i + 2)) := ⟨_, rfl⟩
  have hM := c_L_damaged (l0 := l0) (D := D) (γ := γ) (f0 := va_up (mm_f γ g0 mo ad z) oa (lo γ ov)) hl0 J hoL (va_up_self _ _ _) hd1 (xs (i + 1)) (xs (i + 2))
  rw [← hq] at hM
  have hE1 : zE q.2 := by rw [hq]; exact zE_damaged hE
  refine pv_callSH (n := 4) (As := [.ref (ρ (0, 0)), .int (xs (i + 1)), .int (xs (i + 2)), .ref oa]) (rest := []) C hM cd_L_damaged ml_L_133 in_L sm_L_damaged (by decide +kernel) (by decide) rfl (Nat.le_of_ble_eq_true rfl) rfl d_L_law_742 (show cells + 3 ≤ 601024 ∧ slots + 18 ≤ 7293034 from ⟨by omega, by omega⟩) (fun v9 LP9 f9 h9 => ?_)
  obtain ⟨rfl, ks', ρ', x', ov', rfl, hov, J', hρ, hL, hfr⟩ := h9
  have hw' := wI_c hw J' hL hfr hE1
  refine pv_stf (f2 := wf γ ks' ρ' x' g0 mo ad oa ov' q.2 z) (st2 := [.int (q.2 0 0)]) (c2 := cells + 3) (s2 := slots + 18) (by rw [va_up2]) rfl rfl rfl ?_
  refine pv_istore (lv' := [(5, .int (q.2 0 0)), (4, .int (nI i)), (0, .ref b), (1, .ref (ρ (0, 0))), (2, .ref mo), (3, .ref oa)]) C d_L_law_745 (by decide) rfl ?_
  refine pk_fz (f2 := mm_f γ (kf ks' ρ' (cz γ ρ' q.2 x') (va_up g0 oa (lo γ ov'))) mo ad z) (wf_m hw') ?_
  refine pv_aload_n C d_L_law_747 rfl 4 rfl ?_
  refine pv_aload_n C d_L_law_748 rfl 2 rfl ?_
  refine pv_iload C d_L_law_749 1 rfl ?_
  refine pv_iconst (v := 1) C d_L_law_751 (by decide) ?_
  refine pv_iadd C d_L_law_752 ?_
  refine pv_sld C Y (j := i + 1) (lw_ix i 1) (by omega) d_L_law_753 ?_
  refine pv_aload_n C d_L_law_754 rfl 2 rfl ?_
  refine pv_iload C d_L_law_755 1 rfl ?_
  refine pv_iconst (v := 2) C d_L_law_757 (by decide) ?_
  refine pv_iadd C d_L_law_758 ?_
  refine pv_sld C Y (j := i + 2) (lw_ix i 2) (by omega) d_L_law_759 ?_
  have hN := c_M_damaged (l0 := l0) (D := D) (γ := γ) (f0 := kf ks' ρ' (cz γ ρ' q.2 x') (va_up g0 oa (lo γ ov'))) hl0 hw'.2.1 z (xs (i + 1)) (xs (i + 2)) hz
  rw [← hq] at hN
  refine pv_callV0 (n := 2) (As := [.int (xs (i + 1)), .int (xs (i + 2))]) (rest := []) C hN cd_M_damaged ml_L_135 in_M im_M_damaged se_M_damaged hw'.2.1.1 mm_obj rfl rfl (by decide +kernel) (by decide) rfl (Nat.le_of_ble_eq_true rfl) rfl d_L_law_760 (show cells + 3 + 0 ≤ 601024 ∧ slots + 18 + 0 ≤ 7293034 from ⟨by omega, by omega⟩) (fun v9 LP8 f9 h9 => ?_)
  obtain ⟨rfl, w9, rfl⟩ := h9
  subst w9
  refine pv_stf (f2 := mm_f γ (kf ks' ρ' (cz γ ρ' q.2 x') (va_up g0 oa (lo γ ov'))) mo ad q.2) (st2 := [.int q.1]) (c2 := cells + 3) (s2 := slots + 18) rfl rfl rfl rfl ?_
  refine pv_istore (lv' := [(6, .int q.1), (5, .int (q.2 0 0)), (4, .int (nI i)), (0, .ref b), (1, .ref (ρ (0, 0))), (2, .ref mo), (3, .ref oa)]) C d_L_law_763 (by decide) rfl ?_
  refine pv_aload_n C d_L_law_765 rfl 5 rfl ?_
  refine pv_callV0 (n := 0) (As := []) (rest := []) C (c_M_thrown hl0 hw'.2.1 q.2) cd_M_thrown ml_L_102 in_M im_M_thrown se_M_thrown hw'.2.1.1 mm_obj rfl rfl (by decide +kernel) (by decide) rfl (Nat.le_of_ble_eq_true rfl) rfl d_L_law_766 (show cells + 3 + 0 ≤ 601024 ∧ slots + 18 + 0 ≤ 7293034 from ⟨by omega, by omega⟩) (fun v9 LP8 f9 h9 => ?_)
  obtain ⟨rfl, w9, rfl⟩ := h9
  subst w9
  refine pv_stf (f2 := wf γ ks' ρ' x' g0 mo ad oa ov' q.2 q.2) (st2 := [.int (q.2 0 0)]) (c2 := cells + 3) (s2 := slots + 18) (wf_m hw').symm rfl rfl rfl ?_
  refine pv_iload C d_L_law_769 1 rfl ?_
  refine pv_icmp_eq (tgt := 776) C d_L_law_771 (by decide) (fun _ => ?_) (fun w => absurd rfl w)
  refine pv_iload C d_L_law_776 1 rfl ?_
  refine pv_if_ne (tgt := 793) C d_L_law_778 (by decide) (fun _ => ?_) (fun h0 => ?_)
  · refine pv_goto (tgt := 1677) C d_L_law_793 (by decide) ?_
    refine pv_lvs (lv2 := [(4, .int (nI i)), (0, .ref b), (1, .ref (ρ' (0, 0))), (2, .ref mo), (3, .ref oa)]) [2, 3, 4, 5, 6] (by rw [hρ]; rfl) ?_
    exact pv_wide (by omega) (by omega) (kk _ _ _ _ _ _ hw')
  refine pv_aload_n C d_L_law_781 rfl 6 rfl ?_
  refine pv_iconst (v := 0) C d_L_law_782 (by decide) ?_
  refine pv_lald C 5 rfl hw'.2.2.1 ((kf_not hw'.2.2.2.1).trans (va_up_self _ _ _)) (j := 0) rfl (by decide) (by decide) d_L_law_783 ?_
  refine pv_iload C d_L_law_784 0 rfl ?_
  refine pv_i2l C d_L_law_786 ?_
  refine pv_lcmp C d_L_law_787 ?_
  refine pv_if_eq (tgt := 793) C d_L_law_788 (by decide) (fun _ => ?_) (fun w => absurd (by rw [hov h0, lg_self]) w)
  refine pv_goto (tgt := 1677) C d_L_law_793 (by decide) ?_
  refine pv_lvs (lv2 := [(4, .int (nI i)), (0, .ref b), (1, .ref (ρ' (0, 0))), (2, .ref mo), (3, .ref oa)]) [2, 3, 4, 5, 6] (by rw [hρ]; rfl) ?_
  exact pv_wide (by omega) (by omega) (kk _ _ _ _ _ _ hw')
set_option maxRecDepth 100000 in
set_option maxHeartbeats 4000000 in
theorem lc_sample {l0 : Launch} {D : va_G} {γ : Nat → ClassId} {κ : pv_K} {b L : Nat} {xs : Nat → Int32} (hl0 : l0.stackTraces = false) (C : pv_C l0 D (tys_ γ) κ code RL room_1 7) (Y : pv_Y κ b L xs) {cells slots : Nat} {LP : List Nat} {ks : List kT} {ρ : kT → Nat} {z : zT} {x : xT} {mo : Nat} {ad : Nat → Nat} {oa : Nat} {ov : Nat → Int64} {g0 : Nat → va_E} (hw : wI LP ks ρ z x mo ad oa) {i : Nat} (hi : i + 6 ≤ L) (hcl : cells + 16 ≤ 601024) (hsl : slots + 128 ≤ 7293034) (kk : ∀ (LP' : List Nat) (ks' : List kT) (ρ' : kT → Nat) (z' : zT) (x' : xT) (ov' : Nat → Int64), wI LP' ks' ρ' z' x' mo ad oa → pv_V D κ (cells + 16) (slots + 128) LP' (wf γ ks' ρ' x' g0 mo ad oa ov' z' z') 1677 [(4, .int (nI i)), (0, .ref b), (1, .ref (ρ' (0, 0))), (2, .ref mo), (3, .ref oa)] []) : pv_V D κ cells slots LP (wf γ ks ρ x g0 mo ad oa ov z z) 796 [(4, .int (nI i)), (0, .ref b), (1, .ref (ρ (0, 0))), (2, .ref mo), (3, .ref oa)] [] := by
  obtain ⟨J, G, hoL, hd1, hd2, hd3, hE⟩ := id hw
  have hz := J.2.2.1
  refine pv_aload_n C d_L_law_796 rfl 2 rfl ?_
  refine pv_aload_n C d_L_law_797 rfl 1 rfl ?_
  refine pv_iload C d_L_law_798 0 rfl ?_
  refine pv_iconst (v := 1) C d_L_law_800 (by decide) ?_
  refine pv_iadd C d_L_law_801 ?_
  refine pv_sld C Y (j := i + 1) (lw_ix i 1) (by omega) d_L_law_802 ?_
  refine pv_aload_n C d_L_law_803 rfl 1 rfl ?_
  refine pv_iload C d_L_law_804 0 rfl ?_
  refine pv_iconst (v := 2) C d_L_law_806 (by decide) ?_
  refine pv_iadd C d_L_law_807 ?_
  refine pv_sld C Y (j := i + 2) (lw_ix i 2) (by omega) d_L_law_808 ?_
  refine pv_aload_n C d_L_law_809 rfl 1 rfl ?_
  refine pv_iload C d_L_law_810 0 rfl ?_
  refine pv_iconst (v := 3) C d_L_law_812 (by decide) ?_
  refine pv_iadd C d_L_law_813 ?_
  refine pv_sld C Y (j := i + 3) (lw_ix i 3) (by omega) d_L_law_814 ?_
  refine pv_nz C d_L_law_815 d_L_law_818 d_L_law_819 d_L_law_822 ?_
  refine pv_aload_n C d_L_law_823 rfl 4 rfl ?_
  obtain ⟨q, hq⟩ : ∃ q : Int32 × zT, q = m_sample z (xs (i + 1)) (xs (i + 2)) (!decide (xs (i + 3) = 0)) := ⟨_, rfl⟩
  have hM := c_L_sample (l0 := l0) (D := D) (γ := γ) (f0 := va_up (mm_f γ g0 mo ad z) oa (lo γ ov)) hl0 J hoL (va_up_self _ _ _) hd1 (xs (i + 1)) (xs (i + 2)) (!decide (xs (i + 3) = 0))
  rw [← hq] at hM
  have hE1 : zE q.2 := by rw [hq]; exact zE_sample hE
  refine pv_callSH (n := 5) (As := [.ref (ρ (0, 0)), .int (xs (i + 1)), .int (xs (i + 2)), .int (bN (!decide (xs (i + 3) = 0))), .ref oa]) (rest := []) C hM cd_L_sample ml_L_136 in_L sm_L_sample (by decide +kernel) (by decide) rfl (Nat.le_of_ble_eq_true rfl) rfl d_L_law_824 (show cells + 3 ≤ 601024 ∧ slots + 18 ≤ 7293034 from ⟨by omega, by omega⟩) (fun v9 LP9 f9 h9 => ?_)
  obtain ⟨rfl, ks', ρ', x', ov', rfl, hov, J', hρ, hL, hfr⟩ := h9
  have hw' := wI_c hw J' hL hfr hE1
  refine pv_stf (f2 := wf γ ks' ρ' x' g0 mo ad oa ov' q.2 z) (st2 := [.int (q.2 0 0)]) (c2 := cells + 3) (s2 := slots + 18) (by rw [va_up2]) rfl rfl rfl ?_
  refine pv_istore (lv' := [(5, .int (q.2 0 0)), (4, .int (nI i)), (0, .ref b), (1, .ref (ρ (0, 0))), (2, .ref mo), (3, .ref oa)]) C d_L_law_827 (by decide) rfl ?_
  refine pk_fz (f2 := mm_f γ (kf ks' ρ' (cz γ ρ' q.2 x') (va_up g0 oa (lo γ ov'))) mo ad z) (wf_m hw') ?_
  refine pv_aload_n C d_L_law_829 rfl 4 rfl ?_
  refine pv_aload_n C d_L_law_830 rfl 2 rfl ?_
  refine pv_iload C d_L_law_831 1 rfl ?_
  refine pv_iconst (v := 1) C d_L_law_833 (by decide) ?_
  refine pv_iadd C d_L_law_834 ?_
  refine pv_sld C Y (j := i + 1) (lw_ix i 1) (by omega) d_L_law_835 ?_
  refine pv_aload_n C d_L_law_836 rfl 2 rfl ?_
  refine pv_iload C d_L_law_837 1 rfl ?_
  refine pv_iconst (v := 2) C d_L_law_839 (by decide) ?_
  refine pv_iadd C d_L_law_840 ?_
  refine pv_sld C Y (j := i + 2) (lw_ix i 2) (by omega) d_L_law_841 ?_
  refine pv_aload_n C d_L_law_842 rfl 2 rfl ?_
  refine pv_iload C d_L_law_843 1 rfl ?_
  refine pv_iconst (v := 3) C d_L_law_845 (by decide) ?_
  refine pv_iadd C d_L_law_846 ?_
  refine pv_sld C Y (j := i + 3) (lw_ix i 3) (by omega) d_L_law_847 ?_
  refine pv_nz C d_L_law_848 d_L_law_851 d_L_law_852 d_L_law_855 ?_
  have hN := c_M_sample (l0 := l0) (D := D) (γ := γ) (f0 := kf ks' ρ' (cz γ ρ' q.2 x') (va_up g0 oa (lo γ ov'))) hl0 hw'.2.1 z (xs (i + 1)) (xs (i + 2)) (!decide (xs (i + 3) = 0)) hz
  rw [← hq] at hN
  refine pv_callV0 (n := 3) (As := [.int (xs (i + 1)), .int (xs (i + 2)), .int (bN (!decide (xs (i + 3) = 0)))]) (rest := []) C hN cd_M_sample ml_L_138 in_M im_M_sample se_M_sample hw'.2.1.1 mm_obj rfl rfl (by decide +kernel) (by decide) rfl (Nat.le_of_ble_eq_true rfl) rfl d_L_law_856 (show cells + 3 + 0 ≤ 601024 ∧ slots + 18 + 0 ≤ 7293034 from ⟨by omega, by omega⟩) (fun v9 LP8 f9 h9 => ?_)
  obtain ⟨rfl, w9, rfl⟩ := h9
  subst w9
  refine pv_stf (f2 := mm_f γ (kf ks' ρ' (cz γ ρ' q.2 x') (va_up g0 oa (lo γ ov'))) mo ad q.2) (st2 := [.int q.1]) (c2 := cells + 3) (s2 := slots + 18) rfl rfl rfl rfl ?_
  refine pv_istore (lv' := [(6, .int q.1), (5, .int (q.2 0 0)), (4, .int (nI i)), (0, .ref b), (1, .ref (ρ (0, 0))), (2, .ref mo), (3, .ref oa)]) C d_L_law_859 (by decide) rfl ?_
  refine pv_aload_n C d_L_law_861 rfl 5 rfl ?_
  refine pv_callV0 (n := 0) (As := []) (rest := []) C (c_M_thrown hl0 hw'.2.1 q.2) cd_M_thrown ml_L_102 in_M im_M_thrown se_M_thrown hw'.2.1.1 mm_obj rfl rfl (by decide +kernel) (by decide) rfl (Nat.le_of_ble_eq_true rfl) rfl d_L_law_862 (show cells + 3 + 0 ≤ 601024 ∧ slots + 18 + 0 ≤ 7293034 from ⟨by omega, by omega⟩) (fun v9 LP8 f9 h9 => ?_)
  obtain ⟨rfl, w9, rfl⟩ := h9
  subst w9
  refine pv_stf (f2 := wf γ ks' ρ' x' g0 mo ad oa ov' q.2 q.2) (st2 := [.int (q.2 0 0)]) (c2 := cells + 3) (s2 := slots + 18) (wf_m hw').symm rfl rfl rfl ?_
  refine pv_iload C d_L_law_865 1 rfl ?_
  refine pv_icmp_eq (tgt := 872) C d_L_law_867 (by decide) (fun _ => ?_) (fun w => absurd rfl w)
  refine pv_iload C d_L_law_872 1 rfl ?_
  refine pv_if_ne (tgt := 889) C d_L_law_874 (by decide) (fun _ => ?_) (fun h0 => ?_)
  · refine pv_goto (tgt := 1677) C d_L_law_889 (by decide) ?_
    refine pv_lvs (lv2 := [(4, .int (nI i)), (0, .ref b), (1, .ref (ρ' (0, 0))), (2, .ref mo), (3, .ref oa)]) [2, 3, 4, 5, 6] (by rw [hρ]; rfl) ?_
    exact pv_wide (by omega) (by omega) (kk _ _ _ _ _ _ hw')
  refine pv_aload_n C d_L_law_877 rfl 6 rfl ?_
  refine pv_iconst (v := 0) C d_L_law_878 (by decide) ?_
  refine pv_lald C 5 rfl hw'.2.2.1 ((kf_not hw'.2.2.2.1).trans (va_up_self _ _ _)) (j := 0) rfl (by decide) (by decide) d_L_law_879 ?_
  refine pv_iload C d_L_law_880 0 rfl ?_
  refine pv_i2l C d_L_law_882 ?_
  refine pv_lcmp C d_L_law_883 ?_
  refine pv_if_eq (tgt := 889) C d_L_law_884 (by decide) (fun _ => ?_) (fun w => absurd (by rw [hov h0, lg_self]) w)
  refine pv_goto (tgt := 1677) C d_L_law_889 (by decide) ?_
  refine pv_lvs (lv2 := [(4, .int (nI i)), (0, .ref b), (1, .ref (ρ' (0, 0))), (2, .ref mo), (3, .ref oa)]) [2, 3, 4, 5, 6] (by rw [hρ]; rfl) ?_
  exact pv_wide (by omega) (by omega) (kk _ _ _ _ _ _ hw')
set_option maxRecDepth 100000 in
set_option maxHeartbeats 4000000 in
theorem lc_date {l0 : Launch} {D : va_G} {γ : Nat → ClassId} {κ : pv_K} {b L : Nat} {xs : Nat → Int32} (hl0 : l0.stackTraces = false) (C : pv_C l0 D (tys_ γ) κ code RL room_1 7) (Y : pv_Y κ b L xs) {cells slots : Nat} {LP : List Nat} {ks : List kT} {ρ : kT → Nat} {z : zT} {x : xT} {mo : Nat} {ad : Nat → Nat} {oa : Nat} {ov : Nat → Int64} {g0 : Nat → va_E} (hw : wI LP ks ρ z x mo ad oa) {i : Nat} (hi : i + 6 ≤ L) (hcl : cells + 16 ≤ 601024) (hsl : slots + 128 ≤ 7293034) (kk : ∀ (LP' : List Nat) (ks' : List kT) (ρ' : kT → Nat) (z' : zT) (x' : xT) (ov' : Nat → Int64), wI LP' ks' ρ' z' x' mo ad oa → pv_V D κ (cells + 16) (slots + 128) LP' (wf γ ks' ρ' x' g0 mo ad oa ov' z' z') 1677 [(4, .int (nI i)), (0, .ref b), (1, .ref (ρ' (0, 0))), (2, .ref mo), (3, .ref oa)] []) : pv_V D κ cells slots LP (wf γ ks ρ x g0 mo ad oa ov z z) 892 [(4, .int (nI i)), (0, .ref b), (1, .ref (ρ (0, 0))), (2, .ref mo), (3, .ref oa)] [] := by
  obtain ⟨J, G, hoL, hd1, hd2, hd3, hE⟩ := id hw
  have hz := J.2.2.1
  refine pv_aload_n C d_L_law_892 rfl 2 rfl ?_
  refine pv_aload_n C d_L_law_893 rfl 1 rfl ?_
  refine pv_iload C d_L_law_894 0 rfl ?_
  refine pv_iconst (v := 1) C d_L_law_896 (by decide) ?_
  refine pv_iadd C d_L_law_897 ?_
  refine pv_sld C Y (j := i + 1) (lw_ix i 1) (by omega) d_L_law_898 ?_
  refine pv_aload_n C d_L_law_899 rfl 1 rfl ?_
  refine pv_iload C d_L_law_900 0 rfl ?_
  refine pv_iconst (v := 2) C d_L_law_902 (by decide) ?_
  refine pv_iadd C d_L_law_903 ?_
  refine pv_sld C Y (j := i + 2) (lw_ix i 2) (by omega) d_L_law_904 ?_
  refine pv_aload_n C d_L_law_905 rfl 4 rfl ?_
  obtain ⟨q, hq⟩ : ∃ q : Int32 × zT, q = m_date z (xs (i + 1)) (xs (i + 2)) := ⟨_, rfl⟩
  have hM := c_L_date (l0 := l0) (D := D) (γ := γ) (f0 := va_up (mm_f γ g0 mo ad z) oa (lo γ ov)) hl0 J hoL (va_up_self _ _ _) hd1 (xs (i + 1)) (xs (i + 2))
  rw [← hq] at hM
  have hE1 : zE q.2 := by rw [hq]; exact zE_date hE
  refine pv_callSH (n := 4) (As := [.ref (ρ (0, 0)), .int (xs (i + 1)), .int (xs (i + 2)), .ref oa]) (rest := []) C hM cd_L_date ml_L_139 in_L sm_L_date (by decide +kernel) (by decide) rfl (Nat.le_of_ble_eq_true rfl) rfl d_L_law_906 (show cells + 3 ≤ 601024 ∧ slots + 18 ≤ 7293034 from ⟨by omega, by omega⟩) (fun v9 LP9 f9 h9 => ?_)
  obtain ⟨rfl, ks', ρ', x', ov', rfl, hov, J', hρ, hL, hfr⟩ := h9
  have hw' := wI_c hw J' hL hfr hE1
  refine pv_stf (f2 := wf γ ks' ρ' x' g0 mo ad oa ov' q.2 z) (st2 := [.int (q.2 0 0)]) (c2 := cells + 3) (s2 := slots + 18) (by rw [va_up2]) rfl rfl rfl ?_
  refine pv_istore (lv' := [(5, .int (q.2 0 0)), (4, .int (nI i)), (0, .ref b), (1, .ref (ρ (0, 0))), (2, .ref mo), (3, .ref oa)]) C d_L_law_909 (by decide) rfl ?_
  refine pk_fz (f2 := mm_f γ (kf ks' ρ' (cz γ ρ' q.2 x') (va_up g0 oa (lo γ ov'))) mo ad z) (wf_m hw') ?_
  refine pv_aload_n C d_L_law_911 rfl 4 rfl ?_
  refine pv_aload_n C d_L_law_912 rfl 2 rfl ?_
  refine pv_iload C d_L_law_913 1 rfl ?_
  refine pv_iconst (v := 1) C d_L_law_915 (by decide) ?_
  refine pv_iadd C d_L_law_916 ?_
  refine pv_sld C Y (j := i + 1) (lw_ix i 1) (by omega) d_L_law_917 ?_
  refine pv_aload_n C d_L_law_918 rfl 2 rfl ?_
  refine pv_iload C d_L_law_919 1 rfl ?_
  refine pv_iconst (v := 2) C d_L_law_921 (by decide) ?_
  refine pv_iadd C d_L_law_922 ?_
  refine pv_sld C Y (j := i + 2) (lw_ix i 2) (by omega) d_L_law_923 ?_
  have hN := c_M_date (l0 := l0) (D := D) (γ := γ) (f0 := kf ks' ρ' (cz γ ρ' q.2 x') (va_up g0 oa (lo γ ov'))) hl0 hw'.2.1 z (xs (i + 1)) (xs (i + 2)) hz
  rw [← hq] at hN
  refine pv_callV0 (n := 2) (As := [.int (xs (i + 1)), .int (xs (i + 2))]) (rest := []) C hN cd_M_date ml_L_141 in_M im_M_date se_M_date hw'.2.1.1 mm_obj rfl rfl (by decide +kernel) (by decide) rfl (Nat.le_of_ble_eq_true rfl) rfl d_L_law_924 (show cells + 3 + 0 ≤ 601024 ∧ slots + 18 + 0 ≤ 7293034 from ⟨by omega, by omega⟩) (fun v9 LP8 f9 h9 => ?_)
  obtain ⟨rfl, w9, rfl⟩ := h9
  subst w9
  refine pv_stf (f2 := mm_f γ (kf ks' ρ' (cz γ ρ' q.2 x') (va_up g0 oa (lo γ ov'))) mo ad q.2) (st2 := [.int q.1]) (c2 := cells + 3) (s2 := slots + 18) rfl rfl rfl rfl ?_
  refine pv_istore (lv' := [(6, .int q.1), (5, .int (q.2 0 0)), (4, .int (nI i)), (0, .ref b), (1, .ref (ρ (0, 0))), (2, .ref mo), (3, .ref oa)]) C d_L_law_927 (by decide) rfl ?_
  refine pv_aload_n C d_L_law_929 rfl 5 rfl ?_
  refine pv_callV0 (n := 0) (As := []) (rest := []) C (c_M_thrown hl0 hw'.2.1 q.2) cd_M_thrown ml_L_102 in_M im_M_thrown se_M_thrown hw'.2.1.1 mm_obj rfl rfl (by decide +kernel) (by decide) rfl (Nat.le_of_ble_eq_true rfl) rfl d_L_law_930 (show cells + 3 + 0 ≤ 601024 ∧ slots + 18 + 0 ≤ 7293034 from ⟨by omega, by omega⟩) (fun v9 LP8 f9 h9 => ?_)
  obtain ⟨rfl, w9, rfl⟩ := h9
  subst w9
  refine pv_stf (f2 := wf γ ks' ρ' x' g0 mo ad oa ov' q.2 q.2) (st2 := [.int (q.2 0 0)]) (c2 := cells + 3) (s2 := slots + 18) (wf_m hw').symm rfl rfl rfl ?_
  refine pv_iload C d_L_law_933 1 rfl ?_
  refine pv_icmp_eq (tgt := 940) C d_L_law_935 (by decide) (fun _ => ?_) (fun w => absurd rfl w)
  refine pv_iload C d_L_law_940 1 rfl ?_
  refine pv_if_ne (tgt := 957) C d_L_law_942 (by decide) (fun _ => ?_) (fun h0 => ?_)
  · refine pv_goto (tgt := 1677) C d_L_law_957 (by decide) ?_
    refine pv_lvs (lv2 := [(4, .int (nI i)), (0, .ref b), (1, .ref (ρ' (0, 0))), (2, .ref mo), (3, .ref oa)]) [2, 3, 4, 5, 6] (by rw [hρ]; rfl) ?_
    exact pv_wide (by omega) (by omega) (kk _ _ _ _ _ _ hw')
  refine pv_aload_n C d_L_law_945 rfl 6 rfl ?_
  refine pv_iconst (v := 0) C d_L_law_946 (by decide) ?_
  refine pv_lald C 5 rfl hw'.2.2.1 ((kf_not hw'.2.2.2.1).trans (va_up_self _ _ _)) (j := 0) rfl (by decide) (by decide) d_L_law_947 ?_
  refine pv_iload C d_L_law_948 0 rfl ?_
  refine pv_i2l C d_L_law_950 ?_
  refine pv_lcmp C d_L_law_951 ?_
  refine pv_if_eq (tgt := 957) C d_L_law_952 (by decide) (fun _ => ?_) (fun w => absurd (by rw [hov h0, lg_self]) w)
  refine pv_goto (tgt := 1677) C d_L_law_957 (by decide) ?_
  refine pv_lvs (lv2 := [(4, .int (nI i)), (0, .ref b), (1, .ref (ρ' (0, 0))), (2, .ref mo), (3, .ref oa)]) [2, 3, 4, 5, 6] (by rw [hρ]; rfl) ?_
  exact pv_wide (by omega) (by omega) (kk _ _ _ _ _ _ hw')
