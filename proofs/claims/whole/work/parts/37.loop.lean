/-! the law's loop -/
theorem lw_lt {L i : Nat} (hL : L ≤ 3072) (hi : i ≤ 3072) : nI L - 6 < nI i ↔ L < i + 6 := by
  rw [Int32.lt_iff_toInt_lt, Int32.toInt_sub, nI_toInt (by omega), nI_toInt (by omega), show ((6 : Int32)).toInt = 6 by decide]
  unfold Int.bmod
  dsimp only
  split <;> omega
theorem pv_Y.le {κ : pv_K} {b L : Nat} {xs : Nat → Int32} (Y : pv_Y κ b L xs) : L ≤ 3072 := by
  obtain ⟨p, l, e, R, s, m, args, below, meth, c, A, nL, Q⟩ := κ
  exact Y.2.2.2.2.2.2
set_option maxRecDepth 100000 in
set_option maxHeartbeats 4000000 in
theorem law_loop {l0 : Launch} {D : va_G} {γ : Nat → ClassId} {κ : pv_K} {b L : Nat} {xs : Nat → Int32} (hl0 : l0.stackTraces = false) (C : pv_C l0 D (tys_ γ) κ code RL room_1 7) (Y : pv_Y κ b L xs) {mo : Nat} {ad : Nat → Nat} {oa : Nat} {g0 : Nat → va_E} : ∀ (n it : Nat) (LP : List Nat) (ks : List kT) (ρ : kT → Nat) (z : zT) (x : xT) (ov : Nat → Int64), 6 * it ≤ L → L - 6 * it < n → wI LP ks ρ z x mo ad oa → pv_V D κ (40 + 16 * it) (4000 + 128 * it) LP (wf γ ks ρ x g0 mo ad oa ov z z) 23 [(4, .int (nI (6 * it))), (0, .ref b), (1, .ref (ρ (0, 0))), (2, .ref mo), (3, .ref oa)] [] := by
  have hL := Y.le
  intro n
  induction n with
  | zero => intro it LP ks ρ z x ov h1 h2; exact absurd h2 (Nat.not_lt_zero _)
  | succ n ih =>
    intro it LP ks ρ z x ov h1 h2 hw
    refine pv_iload C d_L_law_23 0 rfl ?_
    refine pv_aload_n C d_L_law_25 rfl 1 rfl ?_
    refine pv_slen C Y d_L_law_26 ?_
    refine pv_bipush (v := 6) C d_L_law_27 (by decide) ?_
    refine pv_isub C d_L_law_29 ?_
    refine pv_icmp_gt (tgt := 1683) C d_L_law_30 (by decide) (fun hgt => ?_) (fun hle => ?_)
    · refine pv_iconst (v := 1) C d_L_law_1683 (by decide) ?_
      exact pv_lend C Y (by omega) (by omega) d_L_law_1684
    · have hi : 6 * it + 6 ≤ L := Nat.not_lt.mp (fun q => hle ((lw_lt hL (by omega)).mpr q))
      have kk : ∀ (LP' : List Nat) (ks' : List kT) (ρ' : kT → Nat) (z' : zT) (x' : xT) (ov' : Nat → Int64), wI LP' ks' ρ' z' x' mo ad oa → pv_V D κ (40 + 16 * it + 16) (4000 + 128 * it + 128) LP' (wf γ ks' ρ' x' g0 mo ad oa ov' z' z') 1677 [(4, .int (nI (6 * it))), (0, .ref b), (1, .ref (ρ' (0, 0))), (2, .ref mo), (3, .ref oa)] [] := by
        intro LP' ks' ρ' z' x' ov' hw'
        refine pv_iinc (v := nI (6 * (it + 1))) (lv' := [(4, .int (nI (6 * (it + 1)))), (0, .ref b), (1, .ref (ρ' (0, 0))), (2, .ref mo), (3, .ref oa)]) C d_L_law_1677 0 rfl (by rw [show 6 * (it + 1) = 6 * it + 6 by omega]; exact lw_ix (6 * it) 6) (by decide) rfl ?_
        refine pv_goto (tgt := 23) C d_L_law_1680 (by decide) ?_
        exact pv_wide (by omega) (by omega) (ih (it + 1) LP' ks' ρ' z' x' ov' (by omega) (by omega) hw')
      refine pv_aload_n C d_L_law_33 rfl 1 rfl ?_
      refine pv_iload C d_L_law_34 0 rfl ?_
      refine pv_sld C Y (j := 6 * it) rfl (by omega) d_L_law_36 ?_
      refine pv_bipush (v := 31) C d_L_law_37 (by decide) ?_
      refine pv_iand C d_L_law_39 ?_
      refine pv_tsw (n := 23) (td := 1677) C (fun k => [148, 216, 296, 392, 440, 504, 564, 624, 728, 796, 892, 960, 1028, 1084, 1140, 1208, 1264, 1300, 1368, 1436, 1504, 1584, 1652].getD k 0) d_L_law_40 (by decide) (by decide) (by decide) (by decide) (fun k hk _ => ?_) (fun _ => ?_)
      · rcases (show k = 0 ∨ k = 1 ∨ k = 2 ∨ k = 3 ∨ k = 4 ∨ k = 5 ∨ k = 6 ∨ k = 7 ∨ k = 8 ∨ k = 9 ∨ k = 10 ∨ k = 11 ∨ k = 12 ∨ k = 13 ∨ k = 14 ∨ k = 15 ∨ k = 16 ∨ k = 17 ∨ k = 18 ∨ k = 19 ∨ k = 20 ∨ k = 21 ∨ k = 22 by omega) with rfl | rfl | rfl | rfl | rfl | rfl | rfl | rfl | rfl | rfl | rfl | rfl | rfl | rfl | rfl | rfl | rfl | rfl | rfl | rfl | rfl | rfl | rfl
        · exact lc_announce hl0 C Y hw hi (by omega) (by omega) kk
        · exact lc_line hl0 C Y hw hi (by omega) (by omega) kk
        · exact lc_arrive hl0 C Y hw hi (by omega) (by omega) kk
        · exact lc_accept hl0 C Y hw hi (by omega) (by omega) kk
        · exact lc_right hl0 C Y hw hi (by omega) (by omega) kk
        · exact lc_tolerance hl0 C Y hw hi (by omega) (by omega) kk
        · exact lc_wanted hl0 C Y hw hi (by omega) (by omega) kk
        · exact lc_count hl0 C Y hw hi (by omega) (by omega) kk
        · exact lc_damaged hl0 C Y hw hi (by omega) (by omega) kk
        · exact lc_sample hl0 C Y hw hi (by omega) (by omega) kk
        · exact lc_date hl0 C Y hw hi (by omega) (by omega) kk
        · exact lc_take hl0 C Y hw hi (by omega) (by omega) kk
        · exact lc_label hl0 C Y hw hi (by omega) (by omega) kk
        · exact lc_again hl0 C Y hw hi (by omega) (by omega) kk
        · exact lc_close hl0 C Y hw hi (by omega) (by omega) kk
        · exact lc_closeAll hl0 C Y hw hi (by omega) (by omega) kk
        · exact lc_day hl0 C Y hw hi (by omega) (by omega) kk
        · exact lc_differ hl0 C Y hw hi (by omega) (by omega) kk
        · exact lc_claim hl0 C Y hw hi (by omega) (by omega) kk
        · exact lc_unit hl0 C Y hw hi (by omega) (by omega) kk
        · exact lc_told hl0 C Y hw hi (by omega) (by omega) kk
        · exact lc_state hl0 C Y hw hi (by omega) (by omega) kk
        · exact lc_count1 hl0 C Y hw hi (by omega) (by omega) kk
      · exact pv_wide (by omega) (by omega) (kk LP ks ρ z x ov hw)
