/-! contracts of the component: the face, what only reads (by wip/whole/gen/c4.py) -/
/-- the same but for the reference's code -/
def zc (z z' : zT) : Prop := ∀ k j, k ≠ 0 → z' k j = z k j
theorem zc_0 (z : zT) (c : Int32) : zc z (zs z 0 0 c) := fun k j h => zs_k z c h
theorem zc_1 (z : zT) (b c : Int32) : zc z (zs (zs z 0 0 b) 0 0 c) := fun k j h => (zs_k _ c h).trans (zs_k z b h)
theorem zc_row {z z' : zT} (h : zc z z') {k : Nat} (hk : k ≠ 0) : z' k = z k := funext fun j => h k j hk
theorem zc_cz {γ : Nat → ClassId} {ρ : kT → Nat} {z z' : zT} {x : xT} (h : zc z z') : cz γ ρ z' x = cz γ ρ z x := by
  have r := fun k (hk : k ≠ 0) => zc_row h hk
  have hS : cS ρ z' x = cS ρ z x := by simp only [cS, r 3 (by decide), r 18 (by decide), r 27 (by decide), r 29 (by decide), r 28 (by decide), r 1 (by decide)]
  have hA : ∀ i, cA ρ z' i = cA ρ z i := fun i => by simp only [cA, r 4 (by decide), r 5 (by decide), r 6 (by decide), r 7 (by decide), r 8 (by decide)]
  have hN : ∀ i, cN ρ z' x i = cN ρ z x i := fun i => by simp only [cN, r 9 (by decide), r 10 (by decide), r 11 (by decide), r 12 (by decide), r 13 (by decide), r 14 (by decide), r 15 (by decide), r 16 (by decide)]
  have hU : ∀ i, cU ρ z' x i = cU ρ z x i := fun i => by simp only [cU, zl, r 19 (by decide), r 21 (by decide), r 22 (by decide), r 23 (by decide), r 24 (by decide), r 25 (by decide), r 26 (by decide)]
  have h1 : gA ρ z' = gA ρ z := by funext i; simp only [gA, zA, r 3 (by decide)]
  have h2 : gU ρ z' = gU ρ z := by funext i; simp only [gU, zU, r 18 (by decide)]
  have h3 : gD ρ z' = gD ρ z := by funext i; simp only [gD, zD, r 29 (by decide), r 30 (by decide)]
  have h4 : ∀ i, gL ρ z' i = gL ρ z i := fun i => by funext j; simp only [gL, zt, r 6 (by decide)]
  funext k
  simp only [cz, hS, hA, hN, hU, h1, h2, h3, h4]
theorem zc_cI {LP : List Nat} {ks : List kT} {ρ : kT → Nat} {z z' : zT} {x : xT} (h : zc z z') (J : cI LP ks ρ z x) : cI LP ks ρ z' x := by
  simp only [cI, zI, zJ, zF, vK, zA, zU, zD, zt, zl, zc_row h (show 2 ≠ 0 by decide), zc_row h (show 3 ≠ 0 by decide), zc_row h (show 5 ≠ 0 by decide), zc_row h (show 6 ≠ 0 by decide), zc_row h (show 7 ≠ 0 by decide), zc_row h (show 11 ≠ 0 by decide), zc_row h (show 12 ≠ 0 by decide), zc_row h (show 16 ≠ 0 by decide), zc_row h (show 25 ≠ 0 by decide), zc_row h (show 26 ≠ 0 by decide), zc_row h (show 13 ≠ 0 by decide), zc_row h (show 14 ≠ 0 by decide), zc_row h (show 15 ≠ 0 by decide), zc_row h (show 17 ≠ 0 by decide), zc_row h (show 18 ≠ 0 by decide), zc_row h (show 19 ≠ 0 by decide), zc_row h (show 20 ≠ 0 by decide), zc_row h (show 24 ≠ 0 by decide), zc_row h (show 29 ≠ 0 by decide), zc_row h (show 30 ≠ 0 by decide)]
  exact J
/-- a call of the face returned: the answer, and the new state -/
def cPost (γ : Nat → ClassId) (LP : List Nat) (ks : List kT) (ρ : kT → Nat) (f0 : Nat → va_E) (v : Option Value) (z' : zT) : Option Value → List Nat → (Nat → va_E) → Prop := fun w LP1 f1 => w = v ∧ z' 0 0 = 0 ∧ ∃ (ks' : List kT) (ρ' : kT → Nat) (x' : xT), f1 = cF γ ks' ρ' z' x' f0 ∧ cI LP1 ks' ρ' z' x' ∧ ρ' (0, 0) = ρ (0, 0) ∧ (∀ a ∈ LP, a ∈ LP1) ∧ ∀ k ∈ ks', (∃ j ∈ ks, ρ' k = ρ j) ∨ ρ' k ∉ LP
/-- a call of the face threw: which, by the reference's code -/
def cThr (es : List String) (z z' : zT) : String → Prop := fun E => (∃ i, es[i]? = some E ∧ z' 0 0 = nI (i + 1)) ∧ zc z z'
theorem cP_rd {γ : Nat → ClassId} {LP : List Nat} {ks : List kT} {ρ : kT → Nat} {z : zT} {x : xT} {f0 : Nat → va_E} (J : cI LP ks ρ z x) {q : Int32 × zT} {r : Int32} (h : q = (r, zs z 0 0 0)) : cPost γ LP ks ρ f0 (some (.int q.1)) q.2 (some (.int r)) LP (cF γ ks ρ z x f0) := by
  subst h
  exact ⟨rfl, zs_eq z 0 0 0, ks, ρ, x, by rw [cF, cF, zc_cz (zc_0 z 0)], zc_cI (zc_0 z 0) J, rfl, fun _ h => h, fun k hk => Or.inl ⟨k, hk, rfl⟩⟩
theorem cT_of {es : List String} {z z' : zT} {E : String} (i : Nat) (c : Int32) (hi : es[i]? = some E) (hc : c = nI (i + 1)) (h : z' = zs z 0 0 c) : cThr es z z' E := by
  subst h
  exact ⟨⟨i, hi, by rw [zs_eq, hc]⟩, zc_0 z c⟩
theorem cT_of2 {es : List String} {z z' : zT} {E : String} (i : Nat) (c : Int32) (hi : es[i]? = some E) (hc : c = nI (i + 1)) (h : z' = zs (zs z 0 0 0) 0 0 c) : cThr es z z' E := by
  subst h
  exact ⟨⟨i, hi, by rw [zs_eq, hc]⟩, zc_1 z 0 c⟩
theorem inB_sw {w : Int32} {n : Nat} (hn : n < 2 ^ 30) (h : ∀ k, k < n + 1 → ¬ w = nI k) : inB w 0 (nI n) = false := by
  cases hq : inB w 0 (nI n) with
  | false => rfl
  | true =>
    obtain ⟨h1, -, h3⟩ := inB_ix (a := 0) (b := n) hq rfl rfl (by decide) (by omega)
    exact absurd h1 (h (ix w) (by omega))
theorem rm_ix {a : Int32} {j : Nat} (h1 : a = nI j) (h : j < 2 ^ 31) : a - a / 4 * 4 = nI (j % 4) := by
  subst h1
  exact pk_rem h (by decide) (by decide)
abbrev rm_S_count1 : Room := { frames := 0, cells := 0, slots := 0, locals := 0 }
set_option maxRecDepth 100000 in
set_option maxHeartbeats 4000000 in
theorem c_S_count1 {l0 : Launch} {D : va_G} {γ : Nat → ClassId} (hl0 : l0.stackTraces = false) {LP : List Nat} {ks : List kT} {ρ : kT → Nat} {z : zT} {x : xT} {f0 : Nat → va_E} (J : cI LP ks ρ z x) (w : Int32)  : pv_M l0 D (tys_ γ) y_S_count1 (Cond.code y_S_count1 b_S_count1 2 (Option.some FieldType.int)) rm_S_count1 [.ref (ρ (0, 0)), .int w] LP (cF γ ks ρ z x f0) (cPost γ LP ks ρ f0 (some (.int (m_count1 z w).1)) (m_count1 z w).2) (fun _ => False) := by
  refine pv_mk hl0 (by decide) (Nat.le_of_ble_eq_true rfl) (fun κ C R0 hN _ => ?_)
  obtain ⟨H, hV, hz, hJ⟩ := id J
  have M0 : ((0, 0) : kT) ∈ ks := (hV _).mpr (Nat.zero_le _)
  have M1 : ((0, 1) : kT) ∈ ks := (hV _).mpr (by decide : 1 ≤ 3)
  have M2 : ((0, 2) : kT) ∈ ks := (hV _).mpr (by decide : 2 ≤ 3)
  have M3 : ((0, 3) : kT) ∈ ks := (hV _).mpr (by decide : 3 ≤ 3)
  show pv_V D κ 0 0 LP (cF γ ks ρ z x f0) 0 [(0, .ref (ρ (0, 0))), (1, .int w)] []
  refine pv_iload_n C d_S_count1_0 rfl 1 rfl ?_
  refine pv_tsw (n := 5) (td := 61) C (fun k => [36, 41, 46, 51, 56].getD k 0) d_S_count1_1 (by decide) (by decide) (by decide) (by decide) (fun k hk h1 => ?_) (fun h1 => ?_)
  · rcases (show k = 0 ∨ k = 1 ∨ k = 2 ∨ k = 3 ∨ k = 4 by omega) with rfl | rfl | rfl | rfl | rfl
    · show pv_V D κ 0 0 _ (kf ks ρ (cz γ ρ z x) f0) 36 [(0, .ref (ρ (0, 0))), (1, .int w)] []
      refine pv_aload_n C d_S_count1_36 rfl 0 rfl ?_
      refine pv_get (v := .int (z 3 0)) (ci := 3) C hin_S rfl (H.1 _ M0) ((kf_at H M0).trans rfl) 3 (by decide) fl_S_31 rfl rfl d_S_count1_37 ?_
      exact pv_iret C R0 d_S_count1_40 (by decide) (by decide) (cP_rd J (by subst h1; unfold m_count1; rw [if_pos (by decide)]))
    · show pv_V D κ 0 0 _ (kf ks ρ (cz γ ρ z x) f0) 41 [(0, .ref (ρ (0, 0))), (1, .int w)] []
      refine pv_aload_n C d_S_count1_41 rfl 0 rfl ?_
      refine pv_get (v := .int (z 18 0)) (ci := 3) C hin_S rfl (H.1 _ M0) ((kf_at H M0).trans rfl) 4 (by decide) fl_S_98 rfl rfl d_S_count1_42 ?_
      exact pv_iret C R0 d_S_count1_45 (by decide) (by decide) (cP_rd J (by subst h1; unfold m_count1; rw [if_neg (by decide), if_pos (by decide)]))
    · show pv_V D κ 0 0 _ (kf ks ρ (cz γ ρ z x) f0) 46 [(0, .ref (ρ (0, 0))), (1, .int w)] []
      refine pv_aload_n C d_S_count1_46 rfl 0 rfl ?_
      refine pv_get (v := .int (z 27 0)) (ci := 3) C hin_S rfl (H.1 _ M0) ((kf_at H M0).trans rfl) 5 (by decide) fl_S_163 rfl rfl d_S_count1_47 ?_
      exact pv_iret C R0 d_S_count1_50 (by decide) (by decide) (cP_rd J (by subst h1; unfold m_count1; rw [if_neg (by decide), if_neg (by decide), if_pos (by decide)]))
    · show pv_V D κ 0 0 _ (kf ks ρ (cz γ ρ z x) f0) 51 [(0, .ref (ρ (0, 0))), (1, .int w)] []
      refine pv_aload_n C d_S_count1_51 rfl 0 rfl ?_
      refine pv_get (v := .int (z 1 0)) (ci := 3) C hin_S rfl (H.1 _ M0) ((kf_at H M0).trans rfl) 8 (by decide) fl_S_151 rfl rfl d_S_count1_52 ?_
      exact pv_iret C R0 d_S_count1_55 (by decide) (by decide) (cP_rd J (by subst h1; unfold m_count1; rw [if_neg (by decide), if_neg (by decide), if_neg (by decide), if_pos (by decide)]))
    · show pv_V D κ 0 0 _ (kf ks ρ (cz γ ρ z x) f0) 56 [(0, .ref (ρ (0, 0))), (1, .int w)] []
      refine pv_aload_n C d_S_count1_56 rfl 0 rfl ?_
      refine pv_get (v := .int (z 28 0)) (ci := 3) C hin_S rfl (H.1 _ M0) ((kf_at H M0).trans rfl) 7 (by decide) fl_S_182 rfl rfl d_S_count1_57 ?_
      exact pv_iret C R0 d_S_count1_60 (by decide) (by decide) (cP_rd J (by subst h1; unfold m_count1; rw [if_neg (by decide), if_neg (by decide), if_neg (by decide), if_neg (by decide), if_pos (by decide)]))
  · refine pv_iconst (v := (-1)) C d_S_count1_61 (by decide) ?_
    exact pv_iret C R0 d_S_count1_62 (by decide) (by decide) (cP_rd J (by unfold m_count1; rw [if_neg (show ¬ w = 0 from h1 0 (by decide)), if_neg (show ¬ w = 1 from h1 1 (by decide)), if_neg (show ¬ w = 2 from h1 2 (by decide)), if_neg (show ¬ w = 3 from h1 3 (by decide)), if_neg (show ¬ w = 4 from h1 4 (by decide))]))
abbrev rm_S_state : Room := { frames := 7, cells := 2, slots := 12, locals := 112 }
set_option maxRecDepth 100000 in
set_option maxHeartbeats 4000000 in
theorem c_S_state {l0 : Launch} {D : va_G} {γ : Nat → ClassId} (hl0 : l0.stackTraces = false) {LP : List Nat} {ks : List kT} {ρ : kT → Nat} {z : zT} {x : xT} {f0 : Nat → va_E} (J : cI LP ks ρ z x) (a w : Int32)  : pv_M l0 D (tys_ γ) y_S_state (Cond.code y_S_state b_S_state 4 (Option.some FieldType.int)) rm_S_state [.ref (ρ (0, 0)), .int a, .int w] LP (cF γ ks ρ z x f0) (cPost γ LP ks ρ f0 (some (.int (m_state z a w).1)) (m_state z a w).2) (cThr [eNS, eIA] z ((m_state z a w).2)) := by
  refine pv_mk hl0 (by decide) (Nat.le_of_ble_eq_true rfl) (fun κ C R0 hN _ => ?_)
  obtain ⟨H, hV, hz, hJ⟩ := id J
  have M0 : ((0, 0) : kT) ∈ ks := (hV _).mpr (Nat.zero_le _)
  have M1 : ((0, 1) : kT) ∈ ks := (hV _).mpr (by decide : 1 ≤ 3)
  have M2 : ((0, 2) : kT) ∈ ks := (hV _).mpr (by decide : 2 ≤ 3)
  have M3 : ((0, 3) : kT) ∈ ks := (hV _).mpr (by decide : 3 ≤ 3)
  show pv_V D κ 0 0 LP (cF γ ks ρ z x f0) 0 [(0, .ref (ρ (0, 0))), (1, .int a), (2, .int w)] []
  refine pv_aload_n C d_S_state_0 rfl 0 rfl ?_
  refine pv_iload_n C d_S_state_1 rfl 1 rfl ?_
  refine pv_callV (n := 1) (As := [.int a]) (rest := []) C (c_S_announcementOf hl0 J a) cd_S_announcementOf ml_S_44 in_S im_S_announcementOf se_S_announcementOf (H.1 _ M0) ((kf_at H M0).trans rfl) rfl rfl (by decide +kernel) (by decide) rfl (Nat.le_of_ble_eq_true rfl) rfl d_S_state_2 (by decide) hN R0 (fun E h => ⟨by rw [h.1]; exact cT_of 0 1 rfl rfl (by unfold m_state; rw [if_neg (nT h.2)]), rfl, rfl⟩) (fun v9 LP9 f9 h9 => ?_)
  obtain ⟨⟨rfl, w9, w8⟩, h1⟩ := h9
  have w9 := w9.symm
  have w8 := w8.symm
  subst w9
  subst w8
  have hA := isA_ix hz h1
  have MA : ((1, ix a) : kT) ∈ ks := (hV _).mpr ⟨hA.2.1, hA.2.2.1⟩
  have ML : ((2, ix a) : kT) ∈ ks := (hV _).mpr ⟨hA.2.1, hA.2.2.1⟩
  refine pv_stf (f2 := (kf ks ρ (cz γ ρ z x) f0)) (st2 := [.ref (ρ (1, ix a))]) (c2 := 1) (s2 := 6) rfl rfl rfl rfl ?_
  refine pv_astore_n (lv' := [(3, .ref (ρ (1, ix a))), (0, .ref (ρ (0, 0))), (1, .int a), (2, .int w)]) C d_S_state_5 rfl (by decide) rfl ?_
  refine pv_iload_n C d_S_state_6 rfl 3 rfl ?_
  refine pv_tsw (n := 4) (td := 56) C (fun k => [36, 41, 46, 51].getD k 0) d_S_state_7 (by decide) (by decide) (by decide) (by decide) (fun k hk h2 => ?_) (fun h2 => ?_)
  · rcases (show k = 0 ∨ k = 1 ∨ k = 2 ∨ k = 3 by omega) with rfl | rfl | rfl | rfl
    · show pv_V D κ 1 6 _ (kf ks ρ (cz γ ρ z x) f0) 36 [(3, .ref (ρ (1, ix a))), (0, .ref (ρ (0, 0))), (1, .int a), (2, .int w)] []
      refine pv_aload_n C d_S_state_36 rfl 0 rfl ?_
      refine pv_get (v := .int (z 7 (ix a))) (ci := 0) C hin_A rfl (H.1 _ MA) ((kf_at H MA).trans rfl) 5 (by decide) fl_S_48 rfl rfl d_S_state_37 ?_
      exact pv_iret C R0 d_S_state_40 (by decide) (by decide) (cP_rd J (by subst h2; unfold m_state; rw [if_pos h1, if_pos (by decide), if_pos (by decide)]))
    · show pv_V D κ 1 6 _ (kf ks ρ (cz γ ρ z x) f0) 41 [(3, .ref (ρ (1, ix a))), (0, .ref (ρ (0, 0))), (1, .int a), (2, .int w)] []
      refine pv_aload_n C d_S_state_41 rfl 0 rfl ?_
      refine pv_get (v := .int (z 4 (ix a))) (ci := 0) C hin_A rfl (H.1 _ MA) ((kf_at H MA).trans rfl) 1 (by decide) fl_S_166 rfl rfl d_S_state_42 ?_
      exact pv_iret C R0 d_S_state_45 (by decide) (by decide) (cP_rd J (by subst h2; unfold m_state; rw [if_pos h1, if_pos (by decide), if_neg (by decide), if_pos (by decide)]))
    · show pv_V D κ 1 6 _ (kf ks ρ (cz γ ρ z x) f0) 46 [(3, .ref (ρ (1, ix a))), (0, .ref (ρ (0, 0))), (1, .int a), (2, .int w)] []
      refine pv_aload_n C d_S_state_46 rfl 0 rfl ?_
      refine pv_get (v := .int (z 6 (ix a))) (ci := 0) C hin_A rfl (H.1 _ MA) ((kf_at H MA).trans rfl) 4 (by decide) fl_S_226 rfl rfl d_S_state_47 ?_
      exact pv_iret C R0 d_S_state_50 (by decide) (by decide) (cP_rd J (by subst h2; unfold m_state; rw [if_pos h1, if_pos (by decide), if_neg (by decide), if_neg (by decide), if_pos (by decide)]))
    · show pv_V D κ 1 6 _ (kf ks ρ (cz γ ρ z x) f0) 51 [(3, .ref (ρ (1, ix a))), (0, .ref (ρ (0, 0))), (1, .int a), (2, .int w)] []
      refine pv_aload_n C d_S_state_51 rfl 0 rfl ?_
      refine pv_get (v := .int (z 8 (ix a))) (ci := 0) C hin_A rfl (H.1 _ MA) ((kf_at H MA).trans rfl) 6 (by decide) fl_S_67 rfl rfl d_S_state_52 ?_
      exact pv_iret C R0 d_S_state_55 (by decide) (by decide) (cP_rd J (by subst h2; unfold m_state; rw [if_pos h1, if_pos (by decide), if_neg (by decide), if_neg (by decide), if_neg (by decide)]))
  · exact pv_throw (LP0 := []) (f0 := fun _ => .inr (0, [])) (text := "there is no such thing to ask of an announcement") C hN R0 (by decide) (by decide) kl_S_203 in_IllegalArgumentException rfl (by decide) th1_IA th2_IA th3_IA d_S_state_56 d_S_state_59 d_S_state_60 d_S_state_62 d_S_state_65 (by decide) (Nat.le_of_ble_eq_true rfl) (by decide) (by decide) (cT_of 1 2 rfl rfl (by unfold m_state; rw [if_pos h1, if_neg (nT (show inB w 0 3 = false from inB_sw (n := 3) (by decide) h2))]))
abbrev rm_S_told : Room := { frames := 8, cells := 3, slots := 18, locals := 136 }
set_option maxRecDepth 100000 in
set_option maxHeartbeats 4000000 in
theorem c_S_told {l0 : Launch} {D : va_G} {γ : Nat → ClassId} (hl0 : l0.stackTraces = false) {LP : List Nat} {ks : List kT} {ρ : kT → Nat} {z : zT} {x : xT} {f0 : Nat → va_E} (J : cI LP ks ρ z x) (a n w : Int32)  : pv_M l0 D (tys_ γ) y_S_told (Cond.code y_S_told b_S_told 5 (Option.some FieldType.int)) rm_S_told [.ref (ρ (0, 0)), .int a, .int n, .int w] LP (cF γ ks ρ z x f0) (cPost γ LP ks ρ f0 (some (.int (m_told z a n w).1)) (m_told z a n w).2) (cThr [eNS, eIA] z ((m_told z a n w).2)) := by
  refine pv_mk hl0 (by decide) (Nat.le_of_ble_eq_true rfl) (fun κ C R0 hN _ => ?_)
  obtain ⟨H, hV, hz, hJ⟩ := id J
  have M0 : ((0, 0) : kT) ∈ ks := (hV _).mpr (Nat.zero_le _)
  have M1 : ((0, 1) : kT) ∈ ks := (hV _).mpr (by decide : 1 ≤ 3)
  have M2 : ((0, 2) : kT) ∈ ks := (hV _).mpr (by decide : 2 ≤ 3)
  have M3 : ((0, 3) : kT) ∈ ks := (hV _).mpr (by decide : 3 ≤ 3)
  show pv_V D κ 0 0 LP (cF γ ks ρ z x f0) 0 [(0, .ref (ρ (0, 0))), (1, .int a), (2, .int n), (3, .int w)] []
  refine pv_aload_n C d_S_told_0 rfl 0 rfl ?_
  refine pv_iload_n C d_S_told_1 rfl 1 rfl ?_
  refine pv_iload_n C d_S_told_2 rfl 2 rfl ?_
  refine pv_callV (n := 2) (As := [.int a, .int n]) (rest := []) C (c_S_lineOf hl0 J a n) cd_S_lineOf ml_S_80 in_S im_S_lineOf se_S_lineOf (H.1 _ M0) ((kf_at H M0).trans rfl) rfl rfl (by decide +kernel) (by decide) rfl (Nat.le_of_ble_eq_true rfl) rfl d_S_told_3 (by decide) hN R0 (fun E h => ⟨by rw [h.1]; exact cT_of 0 1 rfl rfl (by unfold m_told; rw [if_neg (nT h.2)]), rfl, rfl⟩) (fun v9 LP9 f9 h9 => ?_)
  obtain ⟨⟨rfl, w9, w8⟩, h1⟩ := h9
  have w9 := w9.symm
  have w8 := w8.symm
  subst w9
  subst w8
  have hL := isL_ix hz h1
  have hvN : vK z (3, 4 * ix a + ix n) := vK_line hL.1.2.1 hL.1.2.2.1 hL.2.2.1 hL.2.2.2
  have MN : ((3, 4 * ix a + ix n) : kT) ∈ ks := (hV _).mpr hvN
  refine pv_stf (f2 := (kf ks ρ (cz γ ρ z x) f0)) (st2 := [.ref (ρ (3, 4 * ix a + ix n))]) (c2 := 2) (s2 := 12) rfl rfl rfl rfl ?_
  refine pv_astore (lv' := [(4, .ref (ρ (3, 4 * ix a + ix n))), (0, .ref (ρ (0, 0))), (1, .int a), (2, .int n), (3, .int w)]) C d_S_told_6 (by decide) rfl ?_
  refine pv_iload_n C d_S_told_8 rfl 4 rfl ?_
  refine pv_tsw (n := 7) (td := 110) C (fun k => [52, 58, 64, 70, 84, 90, 104].getD k 0) d_S_told_9 (by decide) (by decide) (by decide) (by decide) (fun k hk h2 => ?_) (fun h2 => ?_)
  · rcases (show k = 0 ∨ k = 1 ∨ k = 2 ∨ k = 3 ∨ k = 4 ∨ k = 5 ∨ k = 6 by omega) with rfl | rfl | rfl | rfl | rfl | rfl | rfl
    · show pv_V D κ 2 12 _ (kf ks ρ (cz γ ρ z x) f0) 52 [(4, .ref (ρ (3, 4 * ix a + ix n))), (0, .ref (ρ (0, 0))), (1, .int a), (2, .int n), (3, .int w)] []
      refine pv_aload C d_S_told_52 0 rfl ?_
      refine pv_get (v := .int (z 9 (4 * ix a + ix n))) (ci := 1) C hin_N rfl (H.1 _ MN) ((kf_at H MN).trans rfl) 2 (by decide) fl_S_218 rfl rfl d_S_told_54 ?_
      exact pv_iret C R0 d_S_told_57 (by decide) (by decide) (cP_rd J (by subst h2; unfold m_told; rw [if_pos h1, if_pos (by decide), if_pos (by decide)]))
    · show pv_V D κ 2 12 _ (kf ks ρ (cz γ ρ z x) f0) 58 [(4, .ref (ρ (3, 4 * ix a + ix n))), (0, .ref (ρ (0, 0))), (1, .int a), (2, .int n), (3, .int w)] []
      refine pv_aload C d_S_told_58 0 rfl ?_
      refine pv_get (v := .int (z 10 (4 * ix a + ix n))) (ci := 1) C hin_N rfl (H.1 _ MN) ((kf_at H MN).trans rfl) 3 (by decide) fl_S_200 rfl rfl d_S_told_60 ?_
      exact pv_iret C R0 d_S_told_63 (by decide) (by decide) (cP_rd J (by subst h2; unfold m_told; rw [if_pos h1, if_pos (by decide), if_neg (by decide), if_pos (by decide)]))
    · show pv_V D κ 2 12 _ (kf ks ρ (cz γ ρ z x) f0) 64 [(4, .ref (ρ (3, 4 * ix a + ix n))), (0, .ref (ρ (0, 0))), (1, .int a), (2, .int n), (3, .int w)] []
      refine pv_aload C d_S_told_64 0 rfl ?_
      refine pv_get (v := .int (z 12 (4 * ix a + ix n))) (ci := 1) C hin_N rfl (H.1 _ MN) ((kf_at H MN).trans rfl) 7 (by decide) fl_S_107 rfl rfl d_S_told_66 ?_
      exact pv_iret C R0 d_S_told_69 (by decide) (by decide) (cP_rd J (by subst h2; unfold m_told; rw [if_pos h1, if_pos (by decide), if_neg (by decide), if_neg (by decide), if_pos (by decide)]))
    · show pv_V D κ 2 12 _ (kf ks ρ (cz γ ρ z x) f0) 70 [(4, .ref (ρ (3, 4 * ix a + ix n))), (0, .ref (ρ (0, 0))), (1, .int a), (2, .int n), (3, .int w)] []
      refine pv_aload C d_S_told_70 0 rfl ?_
      refine pv_get (v := .int (z 16 (4 * ix a + ix n))) (ci := 1) C hin_N rfl (H.1 _ MN) ((kf_at H MN).trans rfl) 10 (by decide) fl_S_84 rfl rfl d_S_told_72 ?_
      refine pv_if_eq (tgt := 82) C d_S_told_75 (by decide) (fun h3 => ?_) (fun h3 => ?_)
      · refine pv_iconst (v := 0) C d_S_told_82 (by decide) ?_
        exact pv_iret C R0 d_S_told_83 (by decide) (by decide) (cP_rd J (by subst h2; unfold m_told; rw [if_pos h1, if_pos (by decide), if_neg (by decide), if_neg (by decide), if_neg (by decide), if_pos (by decide), if_pos h3]))
      · refine pv_iconst (v := 1) C d_S_told_78 (by decide) ?_
        refine pv_goto (tgt := 83) C d_S_told_79 (by decide) ?_
        exact pv_iret C R0 d_S_told_83 (by decide) (by decide) (cP_rd J (by subst h2; unfold m_told; rw [if_pos h1, if_pos (by decide), if_neg (by decide), if_neg (by decide), if_neg (by decide), if_pos (by decide), if_neg h3]))
    · show pv_V D κ 2 12 _ (kf ks ρ (cz γ ρ z x) f0) 84 [(4, .ref (ρ (3, 4 * ix a + ix n))), (0, .ref (ρ (0, 0))), (1, .int a), (2, .int n), (3, .int w)] []
      refine pv_aload C d_S_told_84 0 rfl ?_
      refine pv_callV (n := 0) (As := []) (rest := []) C (c_N_openSamples hl0 J (4 * ix a + ix n) hvN) cd_N_openSamples ml_S_138 in_N im_N_openSamples se_N_openSamples (H.1 _ MN) ((kf_at H MN).trans rfl) rfl rfl (by decide +kernel) (by decide) rfl (Nat.le_of_ble_eq_true rfl) rfl d_S_told_86 (by decide) hN R0 (fun _ h => h.elim) (fun v9 LP9 f9 h9 => ?_)
      obtain ⟨rfl, w9, w8⟩ := h9
      have w9 := w9.symm
      have w8 := w8.symm
      subst w9
      subst w8
      refine pv_stf (f2 := (kf ks ρ (cz γ ρ z x) f0)) (st2 := [.int (m_open z (4 * ix a + ix n))]) (c2 := 2) (s2 := 12) rfl rfl rfl rfl ?_
      exact pv_iret C R0 d_S_told_89 (by decide) (by decide) (cP_rd J (by subst h2; unfold m_told; rw [if_pos h1, if_pos (by decide), if_neg (by decide), if_neg (by decide), if_neg (by decide), if_neg (by decide), if_pos (by decide)]))
    · show pv_V D κ 2 12 _ (kf ks ρ (cz γ ρ z x) f0) 90 [(4, .ref (ρ (3, 4 * ix a + ix n))), (0, .ref (ρ (0, 0))), (1, .int a), (2, .int n), (3, .int w)] []
      refine pv_aload C d_S_told_90 0 rfl ?_
      refine pv_get (v := .int (z 15 (4 * ix a + ix n))) (ci := 1) C hin_N rfl (H.1 _ MN) ((kf_at H MN).trans rfl) 9 (by decide) fl_S_145 rfl rfl d_S_told_92 ?_
      refine pv_if_eq (tgt := 102) C d_S_told_95 (by decide) (fun h4 => ?_) (fun h4 => ?_)
      · refine pv_iconst (v := 0) C d_S_told_102 (by decide) ?_
        exact pv_iret C R0 d_S_told_103 (by decide) (by decide) (cP_rd J (by subst h2; unfold m_told; rw [if_pos h1, if_pos (by decide), if_neg (by decide), if_neg (by decide), if_neg (by decide), if_neg (by decide), if_neg (by decide), if_pos (by decide), if_pos h4]))
      · refine pv_iconst (v := 1) C d_S_told_98 (by decide) ?_
        refine pv_goto (tgt := 103) C d_S_told_99 (by decide) ?_
        exact pv_iret C R0 d_S_told_103 (by decide) (by decide) (cP_rd J (by subst h2; unfold m_told; rw [if_pos h1, if_pos (by decide), if_neg (by decide), if_neg (by decide), if_neg (by decide), if_neg (by decide), if_neg (by decide), if_pos (by decide), if_neg h4]))
    · show pv_V D κ 2 12 _ (kf ks ρ (cz γ ρ z x) f0) 104 [(4, .ref (ρ (3, 4 * ix a + ix n))), (0, .ref (ρ (0, 0))), (1, .int a), (2, .int n), (3, .int w)] []
      refine pv_aload C d_S_told_104 0 rfl ?_
      refine pv_callV (n := 0) (As := []) (rest := []) C (c_N_mostTaken hl0 J (4 * ix a + ix n) hvN) cd_N_mostTaken ml_S_221 in_N im_N_mostTaken se_N_mostTaken (H.1 _ MN) ((kf_at H MN).trans rfl) rfl rfl (by decide +kernel) (by decide) rfl (Nat.le_of_ble_eq_true rfl) rfl d_S_told_106 (by decide) hN R0 (fun _ h => h.elim) (fun v9 LP9 f9 h9 => ?_)
      obtain ⟨rfl, w9, w8⟩ := h9
      have w9 := w9.symm
      have w8 := w8.symm
      subst w9
      subst w8
      refine pv_stf (f2 := (kf ks ρ (cz γ ρ z x) f0)) (st2 := [.int (z 10 (4 * ix a + ix n) + z 10 (4 * ix a + ix n) * z 11 (4 * ix a + ix n) / 100)]) (c2 := 2) (s2 := 12) rfl rfl rfl rfl ?_
      exact pv_iret C R0 d_S_told_109 (by decide) (by decide) (cP_rd J (by subst h2; unfold m_told; rw [if_pos h1, if_pos (by decide), if_neg (by decide), if_neg (by decide), if_neg (by decide), if_neg (by decide), if_neg (by decide), if_neg (by decide)]))
  · exact pv_throw (LP0 := []) (f0 := fun _ => .inr (0, [])) (text := "there is no such thing to ask of a line") C hN R0 (by decide) (by decide) kl_S_203 in_IllegalArgumentException rfl (by decide) th1_IA th2_IA th3_IA d_S_told_110 d_S_told_113 d_S_told_114 d_S_told_116 d_S_told_119 (by decide) (Nat.le_of_ble_eq_true rfl) (by decide) (by decide) (cT_of 1 2 rfl rfl (by unfold m_told; rw [if_pos h1, if_neg (nT (show inB w 0 6 = false from inB_sw (n := 6) (by decide) h2))]))
abbrev rm_S_unit : Room := { frames := 7, cells := 2, slots := 12, locals := 112 }
set_option maxRecDepth 100000 in
set_option maxHeartbeats 4000000 in
theorem c_S_unit {l0 : Launch} {D : va_G} {γ : Nat → ClassId} (hl0 : l0.stackTraces = false) {LP : List Nat} {ks : List kT} {ρ : kT → Nat} {z : zT} {x : xT} {f0 : Nat → va_E} (J : cI LP ks ρ z x) (u w : Int32)  : pv_M l0 D (tys_ γ) y_S_unit (Cond.code y_S_unit b_S_unit 4 (Option.some FieldType.int)) rm_S_unit [.ref (ρ (0, 0)), .int u, .int w] LP (cF γ ks ρ z x f0) (cPost γ LP ks ρ f0 (some (.int (m_unit z u w).1)) (m_unit z u w).2) (cThr [eNS, eIA] z ((m_unit z u w).2)) := by
  refine pv_mk hl0 (by decide) (Nat.le_of_ble_eq_true rfl) (fun κ C R0 hN _ => ?_)
  obtain ⟨H, hV, hz, hJ⟩ := id J
  have M0 : ((0, 0) : kT) ∈ ks := (hV _).mpr (Nat.zero_le _)
  have M1 : ((0, 1) : kT) ∈ ks := (hV _).mpr (by decide : 1 ≤ 3)
  have M2 : ((0, 2) : kT) ∈ ks := (hV _).mpr (by decide : 2 ≤ 3)
  have M3 : ((0, 3) : kT) ∈ ks := (hV _).mpr (by decide : 3 ≤ 3)
  show pv_V D κ 0 0 LP (cF γ ks ρ z x f0) 0 [(0, .ref (ρ (0, 0))), (1, .int u), (2, .int w)] []
  refine pv_aload_n C d_S_unit_0 rfl 0 rfl ?_
  refine pv_iload_n C d_S_unit_1 rfl 1 rfl ?_
  refine pv_callV (n := 1) (As := [.int u]) (rest := []) C (c_S_unitOf hl0 J u) cd_S_unitOf ml_S_113 in_S im_S_unitOf se_S_unitOf (H.1 _ M0) ((kf_at H M0).trans rfl) rfl rfl (by decide +kernel) (by decide) rfl (Nat.le_of_ble_eq_true rfl) rfl d_S_unit_2 (by decide) hN R0 (fun E h => ⟨by rw [h.1]; exact cT_of 0 1 rfl rfl (by unfold m_unit; rw [if_neg (nT h.2)]), rfl, rfl⟩) (fun v9 LP9 f9 h9 => ?_)
  obtain ⟨⟨rfl, w9, w8⟩, h1⟩ := h9
  have w9 := w9.symm
  have w8 := w8.symm
  subst w9
  subst w8
  have hU := isU_ix hz h1
  have hu2 : 1 ≤ ix u ∧ ix u ≤ zU z := ⟨hU.2.1, hU.2.2.1⟩
  have hlu := hz.2.2.2.2.1 (ix u) hU.2.1 hU.2.2.1
  have hvl := hJ.1 (ix u) hU.2.1 hU.2.2.1
  have MU : ((4, ix u) : kT) ∈ ks := (hV _).mpr hu2
  have MN : ((3, zl z (ix u)) : kT) ∈ ks := (hV _).mpr hvl
  have MA : ((1, zl z (ix u) / 4) : kT) ∈ ks := (hV _).mpr ⟨hvl.1, hvl.2.1⟩
  refine pv_stf (f2 := (kf ks ρ (cz γ ρ z x) f0)) (st2 := [.ref (ρ (4, ix u))]) (c2 := 1) (s2 := 6) rfl rfl rfl rfl ?_
  refine pv_astore_n (lv' := [(3, .ref (ρ (4, ix u))), (0, .ref (ρ (0, 0))), (1, .int u), (2, .int w)]) C d_S_unit_5 rfl (by decide) rfl ?_
  refine pv_iload_n C d_S_unit_6 rfl 3 rfl ?_
  refine pv_tsw (n := 8) (td := 101) C (fun k => [52, 57, 68, 76, 81, 86, 91, 96].getD k 0) d_S_unit_7 (by decide) (by decide) (by decide) (by decide) (fun k hk h2 => ?_) (fun h2 => ?_)
  · rcases (show k = 0 ∨ k = 1 ∨ k = 2 ∨ k = 3 ∨ k = 4 ∨ k = 5 ∨ k = 6 ∨ k = 7 by omega) with rfl | rfl | rfl | rfl | rfl | rfl | rfl | rfl
    · show pv_V D κ 1 6 _ (kf ks ρ (cz γ ρ z x) f0) 52 [(3, .ref (ρ (4, ix u))), (0, .ref (ρ (0, 0))), (1, .int u), (2, .int w)] []
      refine pv_aload_n C d_S_unit_52 rfl 0 rfl ?_
      refine pv_callV (n := 0) (As := []) (rest := []) C (c_U_stateNow hl0 J (ix u) hu2) cd_U_stateNow ml_S_157 in_U im_U_stateNow se_U_stateNow (H.1 _ MU) ((kf_at H MU).trans rfl) rfl rfl (by decide +kernel) (by decide) rfl (Nat.le_of_ble_eq_true rfl) rfl d_S_unit_53 (by decide) hN R0 (fun _ h => h.elim) (fun v9 LP9 f9 h9 => ?_)
      obtain ⟨rfl, w9, w8⟩ := h9
      have w9 := w9.symm
      have w8 := w8.symm
      subst w9
      subst w8
      refine pv_stf (f2 := (kf ks ρ (cz γ ρ z x) f0)) (st2 := [.int (uS (z 24 (ix u)) (x.2.2 (ix u)) (z 15 (zl z (ix u))))]) (c2 := 1) (s2 := 6) rfl rfl rfl rfl ?_
      exact pv_iret C R0 d_S_unit_56 (by decide) (by decide) (cP_rd J (by subst h2; unfold m_unit; rw [if_pos h1, if_pos (by decide), if_pos (by decide), hJ.2.2.2.2.1 (ix u) hU.2.1 hU.2.2.1]))
    · show pv_V D κ 1 6 _ (kf ks ρ (cz γ ρ z x) f0) 57 [(3, .ref (ρ (4, ix u))), (0, .ref (ρ (0, 0))), (1, .int u), (2, .int w)] []
      refine pv_aload_n C d_S_unit_57 rfl 0 rfl ?_
      refine pv_get (v := .ref (ρ (3, zl z (ix u)))) (ci := 2) C hin_U rfl (H.1 _ MU) ((kf_at H MU).trans rfl) 0 (by decide) fl_S_120 rfl rfl d_S_unit_58 ?_
      refine pv_get (v := .ref (ρ (1, (zl z (ix u)) / 4))) (ci := 1) C hin_N rfl (H.1 _ MN) ((kf_at H MN).trans rfl) 0 (by decide) fl_S_131 rfl rfl d_S_unit_61 ?_
      refine pv_get (v := .int (nI ((zl z (ix u)) / 4))) (ci := 0) C hin_A rfl (H.1 _ MA) ((kf_at H MA).trans rfl) 0 (by decide) fl_S_196 rfl rfl d_S_unit_64 ?_
      exact pv_iret C R0 d_S_unit_67 (by decide) (by decide) (cP_rd J (by subst h2; unfold m_unit; rw [if_pos h1, if_pos (by decide), if_neg (by decide), if_pos (by decide), dv_ix hlu.1 (by omega)]))
    · show pv_V D κ 1 6 _ (kf ks ρ (cz γ ρ z x) f0) 68 [(3, .ref (ρ (4, ix u))), (0, .ref (ρ (0, 0))), (1, .int u), (2, .int w)] []
      refine pv_aload_n C d_S_unit_68 rfl 0 rfl ?_
      refine pv_get (v := .ref (ρ (3, zl z (ix u)))) (ci := 2) C hin_U rfl (H.1 _ MU) ((kf_at H MU).trans rfl) 0 (by decide) fl_S_120 rfl rfl d_S_unit_69 ?_
      refine pv_get (v := .int (nI ((zl z (ix u)) % 4))) (ci := 1) C hin_N rfl (H.1 _ MN) ((kf_at H MN).trans rfl) 1 (by decide) fl_S_199 rfl rfl d_S_unit_72 ?_
      exact pv_iret C R0 d_S_unit_75 (by decide) (by decide) (cP_rd J (by subst h2; unfold m_unit; rw [if_pos h1, if_pos (by decide), if_neg (by decide), if_neg (by decide), if_pos (by decide), rm_ix hlu.1 (by omega)]))
    · show pv_V D κ 1 6 _ (kf ks ρ (cz γ ρ z x) f0) 76 [(3, .ref (ρ (4, ix u))), (0, .ref (ρ (0, 0))), (1, .int u), (2, .int w)] []
      refine pv_aload_n C d_S_unit_76 rfl 0 rfl ?_
      refine pv_get (v := .int (z 21 (ix u))) (ci := 2) C hin_U rfl (H.1 _ MU) ((kf_at H MU).trans rfl) 1 (by decide) fl_S_210 rfl rfl d_S_unit_77 ?_
      exact pv_iret C R0 d_S_unit_80 (by decide) (by decide) (cP_rd J (by subst h2; unfold m_unit; rw [if_pos h1, if_pos (by decide), if_neg (by decide), if_neg (by decide), if_neg (by decide), if_pos (by decide)]))
    · show pv_V D κ 1 6 _ (kf ks ρ (cz γ ρ z x) f0) 81 [(3, .ref (ρ (4, ix u))), (0, .ref (ρ (0, 0))), (1, .int u), (2, .int w)] []
      refine pv_aload_n C d_S_unit_81 rfl 0 rfl ?_
      refine pv_get (v := .int (z 22 (ix u))) (ci := 2) C hin_U rfl (H.1 _ MU) ((kf_at H MU).trans rfl) 2 (by decide) fl_S_213 rfl rfl d_S_unit_82 ?_
      exact pv_iret C R0 d_S_unit_85 (by decide) (by decide) (cP_rd J (by subst h2; unfold m_unit; rw [if_pos h1, if_pos (by decide), if_neg (by decide), if_neg (by decide), if_neg (by decide), if_neg (by decide), if_pos (by decide)]))
    · show pv_V D κ 1 6 _ (kf ks ρ (cz γ ρ z x) f0) 86 [(3, .ref (ρ (4, ix u))), (0, .ref (ρ (0, 0))), (1, .int u), (2, .int w)] []
      refine pv_aload_n C d_S_unit_86 rfl 0 rfl ?_
      refine pv_get (v := .int (z 23 (ix u))) (ci := 2) C hin_U rfl (H.1 _ MU) ((kf_at H MU).trans rfl) 3 (by decide) fl_S_148 rfl rfl d_S_unit_87 ?_
      exact pv_iret C R0 d_S_unit_90 (by decide) (by decide) (cP_rd J (by subst h2; unfold m_unit; rw [if_pos h1, if_pos (by decide), if_neg (by decide), if_neg (by decide), if_neg (by decide), if_neg (by decide), if_neg (by decide), if_pos (by decide)]))
    · show pv_V D κ 1 6 _ (kf ks ρ (cz γ ρ z x) f0) 91 [(3, .ref (ρ (4, ix u))), (0, .ref (ρ (0, 0))), (1, .int u), (2, .int w)] []
      refine pv_aload_n C d_S_unit_91 rfl 0 rfl ?_
      refine pv_get (v := .int (z 24 (ix u))) (ci := 2) C hin_U rfl (H.1 _ MU) ((kf_at H MU).trans rfl) 4 (by decide) fl_S_124 rfl rfl d_S_unit_92 ?_
      exact pv_iret C R0 d_S_unit_95 (by decide) (by decide) (cP_rd J (by subst h2; unfold m_unit; rw [if_pos h1, if_pos (by decide), if_neg (by decide), if_neg (by decide), if_neg (by decide), if_neg (by decide), if_neg (by decide), if_neg (by decide), if_pos (by decide)]))
    · show pv_V D κ 1 6 _ (kf ks ρ (cz γ ρ z x) f0) 96 [(3, .ref (ρ (4, ix u))), (0, .ref (ρ (0, 0))), (1, .int u), (2, .int w)] []
      refine pv_aload_n C d_S_unit_96 rfl 0 rfl ?_
      refine pv_get (v := .int (z 25 (ix u))) (ci := 2) C hin_U rfl (H.1 _ MU) ((kf_at H MU).trans rfl) 5 (by decide) fl_S_172 rfl rfl d_S_unit_97 ?_
      exact pv_iret C R0 d_S_unit_100 (by decide) (by decide) (cP_rd J (by subst h2; unfold m_unit; rw [if_pos h1, if_pos (by decide), if_neg (by decide), if_neg (by decide), if_neg (by decide), if_neg (by decide), if_neg (by decide), if_neg (by decide), if_neg (by decide)]))
  · exact pv_throw (LP0 := []) (f0 := fun _ => .inr (0, [])) (text := "there is no such thing to ask of a unit") C hN R0 (by decide) (by decide) kl_S_203 in_IllegalArgumentException rfl (by decide) th1_IA th2_IA th3_IA d_S_unit_101 d_S_unit_104 d_S_unit_105 d_S_unit_107 d_S_unit_110 (by decide) (Nat.le_of_ble_eq_true rfl) (by decide) (by decide) (cT_of 1 2 rfl rfl (by unfold m_unit; rw [if_pos h1, if_neg (nT (show inB w 0 7 = false from inB_sw (n := 7) (by decide) h2))]))
abbrev rm_S_differ : Room := { frames := 7, cells := 2, slots := 12, locals := 112 }
set_option maxRecDepth 100000 in
set_option maxHeartbeats 4000000 in
theorem c_S_differ {l0 : Launch} {D : va_G} {γ : Nat → ClassId} (hl0 : l0.stackTraces = false) {LP : List Nat} {ks : List kT} {ρ : kT → Nat} {z : zT} {x : xT} {f0 : Nat → va_E} (J : cI LP ks ρ z x) (i w : Int32)  : pv_M l0 D (tys_ γ) y_S_differ (Cond.code y_S_differ b_S_differ 4 (Option.some FieldType.int)) rm_S_differ [.ref (ρ (0, 0)), .int i, .int w] LP (cF γ ks ρ z x f0) (cPost γ LP ks ρ f0 (some (.int (m_differ z i w).1)) (m_differ z i w).2) (cThr [eNS, eIA] z ((m_differ z i w).2)) := by
  refine pv_mk hl0 (by decide) (Nat.le_of_ble_eq_true rfl) (fun κ C R0 hN _ => ?_)
  obtain ⟨H, hV, hz, hJ⟩ := id J
  have M0 : ((0, 0) : kT) ∈ ks := (hV _).mpr (Nat.zero_le _)
  have M1 : ((0, 1) : kT) ∈ ks := (hV _).mpr (by decide : 1 ≤ 3)
  have M2 : ((0, 2) : kT) ∈ ks := (hV _).mpr (by decide : 2 ≤ 3)
  have M3 : ((0, 3) : kT) ∈ ks := (hV _).mpr (by decide : 3 ≤ 3)
  show pv_V D κ 0 0 LP (cF γ ks ρ z x f0) 0 [(0, .ref (ρ (0, 0))), (1, .int i), (2, .int w)] []
  refine pv_aload_n C d_S_differ_0 rfl 0 rfl ?_
  refine pv_iload_n C d_S_differ_1 rfl 1 rfl ?_
  refine pv_callV (n := 1) (As := [.int i]) (rest := []) C (c_S_differenceOf hl0 J i) cd_S_differenceOf ml_S_192 in_S im_S_differenceOf se_S_differenceOf (H.1 _ M0) ((kf_at H M0).trans rfl) rfl rfl (by decide +kernel) (by decide) rfl (Nat.le_of_ble_eq_true rfl) rfl d_S_differ_2 (by decide) hN R0 (fun E h => ⟨by rw [h.1]; exact cT_of 0 1 rfl rfl (by unfold m_differ; rw [if_neg (nT h.2)]), rfl, rfl⟩) (fun v9 LP9 f9 h9 => ?_)
  obtain ⟨⟨rfl, w9, w8⟩, h1⟩ := h9
  have w9 := w9.symm
  have w8 := w8.symm
  subst w9
  subst w8
  have hI := df_ix hz h1
  have hlu := hz.2.2.2.2.2 (ix i) hI.2
  have hvl := hJ.2.1 (ix i) hI.2
  have MN : ((3, ix (z 30 (ix i))) : kT) ∈ ks := (hV _).mpr hvl
  have MA : ((1, ix (z 30 (ix i)) / 4) : kT) ∈ ks := (hV _).mpr ⟨hvl.1, hvl.2.1⟩
  refine pv_stf (f2 := (kf ks ρ (cz γ ρ z x) f0)) (st2 := [.ref (ρ (3, ix (z 30 (ix i))))]) (c2 := 1) (s2 := 6) rfl rfl rfl rfl ?_
  refine pv_astore_n (lv' := [(3, .ref (ρ (3, ix (z 30 (ix i))))), (0, .ref (ρ (0, 0))), (1, .int i), (2, .int w)]) C d_S_differ_5 rfl (by decide) rfl ?_
  refine pv_iload_n C d_S_differ_6 rfl 3 rfl ?_
  refine pv_tsw (n := 3) (td := 55) C (fun k => [32, 40, 45].getD k 0) d_S_differ_7 (by decide) (by decide) (by decide) (by decide) (fun k hk h2 => ?_) (fun h2 => ?_)
  · rcases (show k = 0 ∨ k = 1 ∨ k = 2 by omega) with rfl | rfl | rfl
    · show pv_V D κ 1 6 _ (kf ks ρ (cz γ ρ z x) f0) 32 [(3, .ref (ρ (3, ix (z 30 (ix i))))), (0, .ref (ρ (0, 0))), (1, .int i), (2, .int w)] []
      refine pv_aload_n C d_S_differ_32 rfl 0 rfl ?_
      refine pv_get (v := .ref (ρ (1, (ix (z 30 (ix i))) / 4))) (ci := 1) C hin_N rfl (H.1 _ MN) ((kf_at H MN).trans rfl) 0 (by decide) fl_S_131 rfl rfl d_S_differ_33 ?_
      refine pv_get (v := .int (nI ((ix (z 30 (ix i))) / 4))) (ci := 0) C hin_A rfl (H.1 _ MA) ((kf_at H MA).trans rfl) 0 (by decide) fl_S_196 rfl rfl d_S_differ_36 ?_
      exact pv_iret C R0 d_S_differ_39 (by decide) (by decide) (cP_rd J (by subst h2; unfold m_differ; rw [if_pos h1, if_pos (by decide), if_pos (by decide), dv_ix hlu.1 (by omega)]))
    · show pv_V D κ 1 6 _ (kf ks ρ (cz γ ρ z x) f0) 40 [(3, .ref (ρ (3, ix (z 30 (ix i))))), (0, .ref (ρ (0, 0))), (1, .int i), (2, .int w)] []
      refine pv_aload_n C d_S_differ_40 rfl 0 rfl ?_
      refine pv_get (v := .int (nI ((ix (z 30 (ix i))) % 4))) (ci := 1) C hin_N rfl (H.1 _ MN) ((kf_at H MN).trans rfl) 1 (by decide) fl_S_199 rfl rfl d_S_differ_41 ?_
      exact pv_iret C R0 d_S_differ_44 (by decide) (by decide) (cP_rd J (by subst h2; unfold m_differ; rw [if_pos h1, if_pos (by decide), if_neg (by decide), if_pos (by decide), rm_ix hlu.1 (by omega)]))
    · show pv_V D κ 1 6 _ (kf ks ρ (cz γ ρ z x) f0) 45 [(3, .ref (ρ (3, ix (z 30 (ix i))))), (0, .ref (ρ (0, 0))), (1, .int i), (2, .int w)] []
      refine pv_aload_n C d_S_differ_45 rfl 0 rfl ?_
      refine pv_get (v := .int (z 12 (ix (z 30 (ix i))))) (ci := 1) C hin_N rfl (H.1 _ MN) ((kf_at H MN).trans rfl) 7 (by decide) fl_S_107 rfl rfl d_S_differ_46 ?_
      refine pv_aload_n C d_S_differ_49 rfl 0 rfl ?_
      refine pv_get (v := .int (z 10 (ix (z 30 (ix i))))) (ci := 1) C hin_N rfl (H.1 _ MN) ((kf_at H MN).trans rfl) 3 (by decide) fl_S_200 rfl rfl d_S_differ_50 ?_
      refine pv_isub C d_S_differ_53 ?_
      exact pv_iret C R0 d_S_differ_54 (by decide) (by decide) (cP_rd J (by subst h2; unfold m_differ; rw [if_pos h1, if_pos (by decide), if_neg (by decide), if_neg (by decide)]))
  · exact pv_throw (LP0 := []) (f0 := fun _ => .inr (0, [])) (text := "there is no such thing to ask of a difference") C hN R0 (by decide) (by decide) kl_S_203 in_IllegalArgumentException rfl (by decide) th1_IA th2_IA th3_IA d_S_differ_55 d_S_differ_58 d_S_differ_59 d_S_differ_61 d_S_differ_64 (by decide) (Nat.le_of_ble_eq_true rfl) (by decide) (by decide) (cT_of 1 2 rfl rfl (by unfold m_differ; rw [if_pos h1, if_neg (nT (show inB w 0 2 = false from inB_sw (n := 2) (by decide) h2))]))
