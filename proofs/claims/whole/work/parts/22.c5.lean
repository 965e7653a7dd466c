/-! contracts of the component: loops that read (by wip/whole/gen/c6.py) -/
theorem lAny_c {p q : Nat → Bool} : ∀ {N : Nat}, (∀ a, 1 ≤ a → a ≤ N → p a = q a) → lAny p N = lAny q N
  | 0, _ => rfl
  | N + 1, h => by
    have h0 := lAny_c (p := p) (q := q) (N := N) (fun a h1 h2 => h a h1 (by omega))
    simp [lAny, h0, h (N + 1) (by omega) (Nat.le_refl _)]
theorem lCnt_c {p q : Nat → Bool} : ∀ {N : Nat}, (∀ a, 1 ≤ a → a ≤ N → p a = q a) → lCnt p N = lCnt q N
  | 0, _ => rfl
  | N + 1, h => by
    have h0 := lCnt_c (p := p) (q := q) (N := N) (fun a h1 h2 => h a h1 (by omega))
    simp [lCnt, h0, h (N + 1) (by omega) (Nat.le_refl _)]
def stP (dr sx : Nat → Int32) (d : Int32) (a : Nat) : Bool := decide (dr a = d) && (!decide (sx a = 0) && !decide (sx a = 3))
def usP (z : zT) (x : xT) (j : Nat) (s : Int32) (u : Nat) : Bool := decide (zl z u = j) && decide (uS (z 24 u) (x.2.2 u) (z 15 (zl z u)) = s)
def llP (z : zT) (j : Nat) (u : Nat) : Bool := decide (zl z u = j) && (decide (z 25 u = 0) && decide (z 24 u = 0))
abbrev rm_S_isTaken : Room := { frames := 1, cells := 0, slots := 0, locals := 21 }
set_option maxRecDepth 100000 in
set_option maxHeartbeats 4000000 in
theorem c_S_isTaken {l0 : Launch} {D : va_G} {γ : Nat → ClassId} (hl0 : l0.stackTraces = false) {LP : List Nat} {ks : List kT} {ρ : kT → Nat} {z : zT} {x : xT} {f0 : Nat → va_E} (J : cI LP ks ρ z x) (d : Int32)  : pv_M l0 D (tys_ γ) y_S_isTaken (Cond.code y_S_isTaken b_S_isTaken 4 (Option.some FieldType.boolean)) rm_S_isTaken [.ref (ρ (0, 0)), .int d] LP (cF γ ks ρ z x f0) (rdP LP (cF γ ks ρ z x f0) (some (.int (bN (lAny (stP (z 8) (z 7) d) (zA z)))))) (fun _ => False) := by
  refine pv_mk hl0 (by decide) (Nat.le_of_ble_eq_true rfl) (fun κ C R0 hN _ => ?_)
  obtain ⟨H, hV, hz, hJ⟩ := id J
  have M0 : ((0, 0) : kT) ∈ ks := (hV _).mpr (Nat.zero_le _)
  have M1 : ((0, 1) : kT) ∈ ks := (hV _).mpr (by decide : 1 ≤ 3)
  have M2 : ((0, 2) : kT) ∈ ks := (hV _).mpr (by decide : 2 ≤ 3)
  have M3 : ((0, 3) : kT) ∈ ks := (hV _).mpr (by decide : 3 ≤ 3)
  show pv_V D κ 0 0 LP (cF γ ks ρ z x f0) 0 [(0, .ref (ρ (0, 0))), (1, .int d)] []
  have loop : ∀ (n9 : Nat) (i : Nat) (h2 : i ≤ zA z) (hn : ∀ a, 1 ≤ a → a < i + 1 → stP (z 8) (z 7) d a = false), zA z - i < n9 → pv_V D κ 0 0 LP (cF γ ks ρ z x f0) 2 [(2, .int (nI i)), (0, .ref (ρ (0, 0))), (1, .int d)] [] := by
    intro n9
    induction n9 with
    | zero => intro i h2 hn hm; exact absurd hm (Nat.not_lt_zero _)
    | succ n9 ih =>
      intro i h2 hn hm
      have hz1 := hz.1.2
      refine pv_iload_n C d_S_isTaken_2 rfl 0 rfl ?_
      refine pv_aload_n C d_S_isTaken_3 rfl 1 rfl ?_
      refine pv_get (v := .int (z 3 0)) (ci := 3) C hin_S rfl (H.1 _ M0) ((kf_at H M0).trans rfl) 3 (by decide) fl_S_31 rfl rfl d_S_isTaken_4 ?_
      refine pv_icmp_ge (tgt := 46) C d_S_isTaken_7 (by decide) (fun h101 => ?_) (fun h101 => ?_)
      · refine pv_iconst (v := 0) C d_S_isTaken_46 (by decide) ?_
        exact pv_zret C rfl R0 d_S_isTaken_47 (by decide) (by decide) ⟨by rw [lAny_f (fun a q1 q2 => hn a q1 (by rw [hz.1.1] at h101; have := (nI_leI (by omega) (by omega)).mp h101; omega))]; rfl, rfl, rfl⟩
      · have hle : i + 1 ≤ zA z := by rw [hz.1.1] at h101; exact Nat.not_le.mp (fun q => h101 (nI_le q (by omega)))
        have hv1 : 1 ≤ i + 1 ∧ i + 1 ≤ zA z := ⟨by omega, hle⟩
        have MA : ((1, i + 1) : kT) ∈ ks := (hV _).mpr hv1
        refine pv_iload_n C d_S_isTaken_10 rfl 0 rfl ?_
        refine pv_aload_n C d_S_isTaken_11 rfl 1 rfl ?_
        refine pv_get (v := .ref (ρ (0, 1))) (ci := 3) C hin_S rfl (H.1 _ M0) ((kf_at H M0).trans rfl) 0 (by decide) fl_S_11 rfl rfl d_S_isTaken_12 ?_
        refine pv_alen C 0 rfl (H.1 _ M1) ((kf_at H M1).trans rfl) (v := 16) rfl d_S_isTaken_15 ?_
        refine pv_icmp_ge (tgt := 46) C d_S_isTaken_16 (by decide) (fun h102 => ?_) (fun h102 => ?_)
        · exact absurd ((nI_leI (by decide) (by omega)).mp (show nI 16 ≤ nI i from h102)) (by omega)
        · refine pv_aload_n C d_S_isTaken_19 rfl 1 rfl ?_
          refine pv_get (v := .ref (ρ (0, 1))) (ci := 3) C hin_S rfl (H.1 _ M0) ((kf_at H M0).trans rfl) 0 (by decide) fl_S_11 rfl rfl d_S_isTaken_20 ?_
          refine pv_iload_n C d_S_isTaken_23 rfl 0 rfl ?_
          refine pv_aald C 0 rfl (H.1 _ M1) ((kf_at H M1).trans rfl) (j := i) (b := (ρ (1, i + 1))) rfl (show i < 16 by omega) (by decide) (if_pos hle) d_S_isTaken_24 ?_
          refine pv_astore_n (lv' := [(3, .ref (ρ (1, i + 1))), (2, .int (nI i)), (0, .ref (ρ (0, 0))), (1, .int d)]) C d_S_isTaken_25 rfl (by decide) rfl ?_
          refine pv_aload_n C d_S_isTaken_26 rfl 0 rfl ?_
          refine pv_ifnull C d_S_isTaken_27 ?_
          refine pv_aload_n C d_S_isTaken_30 rfl 0 rfl ?_
          refine pv_iload_n C d_S_isTaken_31 rfl 3 rfl ?_
          refine pv_callV (n := 1) (As := [.int d]) (rest := []) C (c_A_standsAt hl0 J (i + 1) d hv1) cd_A_standsAt ml_S_255 in_A im_A_standsAt se_A_standsAt (H.1 _ MA) ((kf_at H MA).trans rfl) rfl rfl (by decide +kernel) (by decide) rfl (Nat.le_of_ble_eq_true rfl) rfl d_S_isTaken_32 (by decide) hN R0 (fun _ h => h.elim) (fun v9 LP9 f9 h9 => ?_)
          obtain ⟨rfl, w9, w8⟩ := h9
          have w9 := w9.symm
          have w8 := w8.symm
          subst w9
          subst w8
          refine pv_stf (f2 := (kf ks ρ (cz γ ρ z x) f0)) (st2 := [.int (bN (stP (z 8) (z 7) d (i + 1)))]) (c2 := 0) (s2 := 0) rfl rfl rfl rfl ?_
          refine pv_ifb_eq (tgt := 40) C d_S_isTaken_35 (by decide) (fun h103 => ?_) (fun h103 => ?_)
          · refine pv_iinc (v := ((nI i) + 1)) (lv' := [(2, .int ((nI i) + 1)), (3, .ref (ρ (1, i + 1))), (0, .ref (ρ (0, 0))), (1, .int d)]) C d_S_isTaken_40 1 rfl rfl (by decide) rfl ?_
            refine pv_goto (tgt := 2) C d_S_isTaken_43 (by decide) ?_
            refine pv_lvs (lv2 := [(2, .int (nI (i + 1))), (0, .ref (ρ (0, 0))), (1, .int d)]) [0, 2, 3] (by rw [← nI_next]; rfl) ?_
            exact ih (i + 1) hle (lExt hn h103) (by omega)
          · refine pv_iconst (v := 1) C d_S_isTaken_38 (by decide) ?_
            exact pv_zret C rfl R0 d_S_isTaken_39 (by decide) (by decide) ⟨by rw [lAny_t (i := i + 1) (by omega) hle h103]; rfl, rfl, rfl⟩
  refine pv_iconst (v := 0) C d_S_isTaken_0 (by decide) ?_
  refine pv_istore_n (lv' := [(2, .int 0), (0, .ref (ρ (0, 0))), (1, .int d)]) C d_S_isTaken_1 rfl (by decide) rfl ?_
  refine pv_lvs (lv2 := [(2, .int (nI 0)), (0, .ref (ρ (0, 0))), (1, .int d)]) [0, 1, 2] rfl ?_
  exact loop (zA z + 1) 0 (by omega) (fun a q1 q2 => absurd q1 (by omega)) (by omega)
theorem al_t {z : zT} {i : Nat} (hz : zI z) (hi : i ≤ 16) (h : (decide (z 5 i ≤ z 6 i) || decide (4 ≤ z 6 i)) = true) : ¬ z 6 i < z 5 i := by
  obtain ⟨e1, e2, e3, e4, e5⟩ := hz.2.2.2.1 i hi
  rw [e1, e3] at h ⊢
  intro q
  have q2 := (nI_ltI (by omega) (by omega)).mp q
  have h3 : nI (ix (z 5 i)) ≤ nI (zt z i) ∨ (4 : Int32) ≤ nI (zt z i) := by simpa using h
  rcases h3 with w | w
  · have := (nI_leI (by omega) (by omega)).mp w
    omega
  · have := (nI_leI (a := 4) (by omega) (by omega)).mp w
    omega
theorem al_f {z : zT} {i : Nat} (h : (decide (z 5 i ≤ z 6 i) || decide (4 ≤ z 6 i)) = false) : z 6 i < z 5 i := by
  have h3 : ¬ z 5 i ≤ z 6 i := by simp at h; exact Int32.not_le.mpr h.1
  exact Int32.not_le.mp h3
theorem tk_eq {z : zT} {d : Int32} (hz : zA z ≤ 16) (h : zF z) : lAny (tkP (z 8) (z 7) d) (zA z) = lAny (stP (z 8) (z 7) d) (zA z) := by
  refine lAny_c (fun a h1 h2 => ?_)
  unfold tkP stP
  rcases h.1 a (by omega) with w | w | w | w <;> rw [w] <;> cases decide (z 8 a = d) <;> decide
theorem lCnt_y {p : Nat → Bool} {i : Nat} (h : p (i + 1) = true) : lCnt p (i + 1) = lCnt p i + 1 := by
  rw [lCnt, h]; rfl
theorem lCnt_n {p : Nat → Bool} {i : Nat} (h : p (i + 1) = false) : lCnt p (i + 1) = lCnt p i := by
  rw [lCnt, h]; exact Int32.add_zero _
theorem lCnt_0 {p : Nat → Bool} : ∀ {N : Nat}, ∃ c, c ≤ N ∧ lCnt p N = nI c ∧ (c = 0 ↔ lAny p N = false)
  | 0 => ⟨0, Nat.le_refl _, rfl, by simp [lAny]⟩
  | N + 1 => by
    obtain ⟨c, h1, h2, h3⟩ := lCnt_0 (p := p) (N := N)
    cases hp : p (N + 1) with
    | false => exact ⟨c, by omega, by rw [lCnt_n hp, h2], by rw [h3, lAny, hp, Bool.or_false]⟩
    | true => exact ⟨c + 1, by omega, by rw [lCnt_y hp, h2, nI_next], by simp [lAny, hp]⟩
theorem lCnt_le {p : Nat → Bool} {N : Nat} (hN : N ≤ 120) : lCnt p N ≤ 0 ↔ lAny p N = false := by
  obtain ⟨c, h1, h2, h3⟩ := lCnt_0 (p := p) (N := N)
  rw [h2, ← h3]
  constructor
  · intro w
    have := (nI_leI (b := 0) (by omega) (by omega)).mp w
    omega
  · intro w
    rw [w]
    decide
abbrev rm_S_arrive : Room := { frames := 7, cells := 4, slots := 24, locals := 112 }
set_option maxRecDepth 100000 in
set_option maxHeartbeats 4000000 in
theorem c_S_arrive {l0 : Launch} {D : va_G} {γ : Nat → ClassId} (hl0 : l0.stackTraces = false) {LP : List Nat} {ks : List kT} {ρ : kT → Nat} {z : zT} {x : xT} {f0 : Nat → va_E} (J : cI LP ks ρ z x) (a : Int32) (d : Int32) (b : Bool)  : pv_M l0 D (tys_ γ) y_S_arrive (Cond.code y_S_arrive b_S_arrive 5 (Option.some FieldType.int)) rm_S_arrive [.ref (ρ (0, 0)), .int a, .int d, .int (bN b)] LP (cF γ ks ρ z x f0) (cPost γ LP ks ρ f0 (some (.int (m_arrive z a d b).1)) (m_arrive z a d b).2) (cThr [eNS, eIA, eIS] z ((m_arrive z a d b).2)) := by
  refine pv_mk hl0 (by decide) (Nat.le_of_ble_eq_true rfl) (fun κ C R0 hN _ => ?_)
  obtain ⟨H, hV, hz, hJ⟩ := id J
  have M0 : ((0, 0) : kT) ∈ ks := (hV _).mpr (Nat.zero_le _)
  have M1 : ((0, 1) : kT) ∈ ks := (hV _).mpr (by decide : 1 ≤ 3)
  have M2 : ((0, 2) : kT) ∈ ks := (hV _).mpr (by decide : 2 ≤ 3)
  have M3 : ((0, 3) : kT) ∈ ks := (hV _).mpr (by decide : 3 ≤ 3)
  show pv_V D κ 0 0 LP (cF γ ks ρ z x f0) 0 [(0, .ref (ρ (0, 0))), (1, .int a), (2, .int d), (3, .int (bN b))] []
  have htk := tk_eq (d := d) hz.1.2 hJ.2.2.2.2.2.2
  refine pv_aload_n C d_S_arrive_0 rfl 0 rfl ?_
  refine pv_iload_n C d_S_arrive_1 rfl 1 rfl ?_
  refine pv_callV (n := 1) (As := [.int a]) (rest := []) C (c_S_announcementOf hl0 J a) cd_S_announcementOf ml_S_44 in_S im_S_announcementOf se_S_announcementOf (H.1 _ M0) ((kf_at H M0).trans rfl) rfl rfl (by decide +kernel) (by decide) rfl (Nat.le_of_ble_eq_true rfl) rfl d_S_arrive_2 (by decide) hN R0 (fun E h => ⟨by rw [h.1]; exact cT_any 0 1 rfl rfl (by unfold m_arrive; rw [if_neg (nT h.2)]; first | exact Or.inl rfl | exact Or.inr rfl), rfl, rfl⟩) (fun v9 LP9 f9 h9 => ?_)
  obtain ⟨⟨rfl, w9, w8⟩, h1⟩ := h9
  have w9 := w9.symm
  have w8 := w8.symm
  subst w9
  subst w8
  have hA := isA_ix hz h1
  have MA : ((1, ix a) : kT) ∈ ks := (hV _).mpr ⟨hA.2.1, hA.2.2.1⟩
  have ML : ((2, ix a) : kT) ∈ ks := (hV _).mpr ⟨hA.2.1, hA.2.2.1⟩
  refine pv_stf (f2 := (kf ks ρ (cz γ ρ z x) f0)) (st2 := [.ref (ρ (1, ix a))]) (c2 := 1) (s2 := 6) rfl rfl rfl rfl ?_
  refine pv_astore (lv' := [(4, .ref (ρ (1, ix a))), (0, .ref (ρ (0, 0))), (1, .int a), (2, .int d), (3, .int (bN b))]) C d_S_arrive_5 (by decide) rfl ?_
  refine pv_iload_n C d_S_arrive_7 rfl 3 rfl ?_
  refine pv_iconst (v := 0) C d_S_arrive_8 (by decide) ?_
  refine pv_iconst (v := 3) C d_S_arrive_9 (by decide) ?_
  refine pv_callS (n := 3) (As := [.int d, .int 0, .int 3]) (rest := []) C (c_S_mustBeWithin hl0 d 0 3) cd_S_mustBeWithin ml_S_27 in_S sm_S_mustBeWithin (by decide +kernel) (by decide) rfl (Nat.le_of_ble_eq_true rfl) rfl d_S_arrive_10 (by decide) hN R0 (fun E h => ⟨by rw [h.1]; exact cT_any 1 2 rfl rfl (by unfold m_arrive; rw [if_pos h1, if_neg (nT h.2)]; first | exact Or.inl rfl | exact Or.inr rfl), rfl, rfl⟩) (fun v9 LP9 f9 h9 => ?_)
  obtain ⟨⟨rfl, w9, w8⟩, h2⟩ := h9
  have w9 := w9.symm
  have w8 := w8.symm
  subst w9
  subst w8
  refine pv_stf (f2 := (kf ks ρ (cz γ ρ z x) f0)) (st2 := []) (c2 := 2) (s2 := 12) rfl rfl rfl rfl ?_
  refine pv_aload C d_S_arrive_13 0 rfl ?_
  refine pv_get (v := .int (z 7 (ix a))) (ci := 0) C hin_A rfl (H.1 _ MA) ((kf_at H MA).trans rfl) 5 (by decide) fl_S_48 rfl rfl d_S_arrive_15 ?_
  refine pv_if_ne (tgt := 33) C d_S_arrive_18 (by decide) (fun h3 => ?_) (fun h3 => ?_)
  · refine pv_iconst (v := 0) C d_S_arrive_33 (by decide) ?_
    refine pv_callS (n := 1) (As := [.int 0]) (rest := []) C (c_S_mustHold hl0 false) cd_S_mustHold ml_S_55 in_S sm_S_mustHold (by decide +kernel) (by decide) rfl (Nat.le_of_ble_eq_true rfl) rfl d_S_arrive_34 (by decide) hN R0 (fun E h => ⟨by rw [h.1]; exact cT_any 2 3 rfl rfl (by unfold m_arrive; rw [if_pos h1, if_pos h2, if_neg h3]; first | exact Or.inl rfl | exact Or.inr rfl), rfl, rfl⟩) (fun v9 LP9 f9 h9 => ?_)
    obtain ⟨⟨rfl, w9, w8⟩, h4⟩ := h9
    have w9 := w9.symm
    have w8 := w8.symm
    subst w9
    subst w8
    exact absurd h4 (by decide)
  · refine pv_aload C d_S_arrive_21 0 rfl ?_
    refine pv_callV (n := 0) (As := []) (rest := []) C (c_A_hasAllLines hl0 J (ix a) ⟨hA.2.1, hA.2.2.1⟩) cd_A_hasAllLines ml_S_51 in_A im_A_hasAllLines se_A_hasAllLines (H.1 _ MA) ((kf_at H MA).trans rfl) rfl rfl (by decide +kernel) (by decide) rfl (Nat.le_of_ble_eq_true rfl) rfl d_S_arrive_23 (by decide) hN R0 (fun _ h => h.elim) (fun v9 LP9 f9 h9 => ?_)
    obtain ⟨rfl, w9, w8⟩ := h9
    have w9 := w9.symm
    have w8 := w8.symm
    subst w9
    subst w8
    refine pv_stf (f2 := (kf ks ρ (cz γ ρ z x) f0)) (st2 := [.int (bN (decide (z 5 (ix a) ≤ z 6 (ix a)) || decide (4 ≤ z 6 (ix a))))]) (c2 := 2) (s2 := 12) rfl rfl rfl rfl ?_
    refine pv_ifb_eq (tgt := 33) C d_S_arrive_26 (by decide) (fun h5 => ?_) (fun h5 => ?_)
    · refine pv_iconst (v := 0) C d_S_arrive_33 (by decide) ?_
      refine pv_callS (n := 1) (As := [.int 0]) (rest := []) C (c_S_mustHold hl0 false) cd_S_mustHold ml_S_55 in_S sm_S_mustHold (by decide +kernel) (by decide) rfl (Nat.le_of_ble_eq_true rfl) rfl d_S_arrive_34 (by decide) hN R0 (fun E h => ⟨by rw [h.1]; exact cT_any 2 3 rfl rfl (by unfold m_arrive; rw [if_pos h1, if_pos h2, if_pos h3, if_pos (al_f h5)]; first | exact Or.inl rfl | exact Or.inr rfl), rfl, rfl⟩) (fun v9 LP9 f9 h9 => ?_)
      obtain ⟨⟨rfl, w9, w8⟩, h6⟩ := h9
      have w9 := w9.symm
      have w8 := w8.symm
      subst w9
      subst w8
      exact absurd h6 (by decide)
    · refine pv_iconst (v := 1) C d_S_arrive_29 (by decide) ?_
      refine pv_goto (tgt := 34) C d_S_arrive_30 (by decide) ?_
      refine pv_callS (n := 1) (As := [.int 1]) (rest := []) C (c_S_mustHold hl0 true) cd_S_mustHold ml_S_55 in_S sm_S_mustHold (by decide +kernel) (by decide) rfl (Nat.le_of_ble_eq_true rfl) rfl d_S_arrive_34 (by decide) hN R0 (fun E h => absurd h.2 (by decide)) (fun v9 LP9 f9 h9 => ?_)
      obtain ⟨⟨rfl, w9, w8⟩, h7⟩ := h9
      have w9 := w9.symm
      have w8 := w8.symm
      subst w9
      subst w8
      refine pv_stf (f2 := (kf ks ρ (cz γ ρ z x) f0)) (st2 := []) (c2 := 3) (s2 := 18) rfl rfl rfl rfl ?_
      refine pv_aload_n C d_S_arrive_37 rfl 1 rfl ?_
      refine pv_iload_n C d_S_arrive_38 rfl 3 rfl ?_
      refine pv_callV (n := 1) (As := [.int d]) (rest := []) C (c_S_isTaken hl0 J d) cd_S_isTaken ml_S_63 in_S im_S_isTaken se_S_isTaken (H.1 _ M0) ((kf_at H M0).trans rfl) rfl rfl (by decide +kernel) (by decide) rfl (Nat.le_of_ble_eq_true rfl) rfl d_S_arrive_39 (by decide) hN R0 (fun _ h => h.elim) (fun v9 LP9 f9 h9 => ?_)
      obtain ⟨rfl, w9, w8⟩ := h9
      have w9 := w9.symm
      have w8 := w8.symm
      subst w9
      subst w8
      refine pv_stf (f2 := (kf ks ρ (cz γ ρ z x) f0)) (st2 := [.int (bN (lAny (stP (z 8) (z 7) d) (zA z)))]) (c2 := 3) (s2 := 18) rfl rfl rfl rfl ?_
      refine pv_ifb_ne (tgt := 49) C d_S_arrive_42 (by decide) (fun h8 => ?_) (fun h8 => ?_)
      · refine pv_iconst (v := 0) C d_S_arrive_49 (by decide) ?_
        refine pv_callS (n := 1) (As := [.int 0]) (rest := []) C (c_S_mustHold hl0 false) cd_S_mustHold ml_S_55 in_S sm_S_mustHold (by decide +kernel) (by decide) rfl (Nat.le_of_ble_eq_true rfl) rfl d_S_arrive_50 (by decide) hN R0 (fun E h => ⟨by rw [h.1]; exact cT_any 2 3 rfl rfl (by unfold m_arrive; rw [if_pos h1, if_pos h2, if_pos h3, if_neg (al_t hz hA.2.2.2 h5), if_pos (htk.trans h8)]; first | exact Or.inl rfl | exact Or.inr rfl), rfl, rfl⟩) (fun v9 LP9 f9 h9 => ?_)
        obtain ⟨⟨rfl, w9, w8⟩, h9⟩ := h9
        have w9 := w9.symm
        have w8 := w8.symm
        subst w9
        subst w8
        exact absurd h9 (by decide)
      · refine pv_iconst (v := 1) C d_S_arrive_45 (by decide) ?_
        refine pv_goto (tgt := 50) C d_S_arrive_46 (by decide) ?_
        refine pv_callS (n := 1) (As := [.int 1]) (rest := []) C (c_S_mustHold hl0 true) cd_S_mustHold ml_S_55 in_S sm_S_mustHold (by decide +kernel) (by decide) rfl (Nat.le_of_ble_eq_true rfl) rfl d_S_arrive_50 (by decide) hN R0 (fun E h => absurd h.2 (by decide)) (fun v9 LP9 f9 h9 => ?_)
        obtain ⟨⟨rfl, w9, w8⟩, h10⟩ := h9
        have w9 := w9.symm
        have w8 := w8.symm
        subst w9
        subst w8
        refine pv_stf (f2 := (kf ks ρ (cz γ ρ z x) f0)) (st2 := []) (c2 := 4) (s2 := 24) rfl rfl rfl rfl ?_
        refine pv_aload C d_S_arrive_53 0 rfl ?_
        refine pv_iload_n C d_S_arrive_55 rfl 3 rfl ?_
        refine pk_put (ci := 0) C H hin_A tyA tyA_ok nmA rfl MA rfl 6 (by decide) fl_S_67 rfl rfl rfl rfl (Nat.le_of_ble_eq_true rfl) d_S_arrive_56 ?_
        refine pk_fz (f2 := kf ks ρ (ku (cz γ ρ z x) (1, ix a) (.inr (0, [.int (nI (ix a)), .int (z 4 (ix a)), .int (z 5 (ix a)), .ref (ρ (2, ix a)), .int (z 6 (ix a)), .int (z 7 (ix a)), .int d]))) f0) rfl ?_
        refine pv_aload C d_S_arrive_59 0 rfl ?_
        refine pv_iload_n C d_S_arrive_61 rfl 4 rfl ?_
        refine pv_ifb_eq (tgt := 69) C d_S_arrive_62 (by decide) (fun h11 => ?_) (fun h11 => ?_)
        · refine pv_iconst (v := 2) C d_S_arrive_69 (by decide) ?_
          refine pk_put (ci := 0) C H hin_A tyA tyA_ok nmA rfl MA (ku_eq _ _ _) 5 (by decide) fl_S_48 rfl rfl rfl rfl (Nat.le_of_ble_eq_true rfl) d_S_arrive_70 ?_
          refine pk_fz (f2 := kf ks ρ (ku (ku (cz γ ρ z x) (1, ix a) (.inr (0, [.int (nI (ix a)), .int (z 4 (ix a)), .int (z 5 (ix a)), .ref (ρ (2, ix a)), .int (z 6 (ix a)), .int (z 7 (ix a)), .int d]))) (1, ix a) (.inr (0, [.int (nI (ix a)), .int (z 4 (ix a)), .int (z 5 (ix a)), .ref (ρ (2, ix a)), .int (z 6 (ix a)), .int 2, .int d]))) f0) rfl ?_
          refine pv_aload C d_S_arrive_73 0 rfl ?_
          refine pv_get (v := .int 2) (ci := 0) C hin_A rfl (H.1 _ MA) ((kf_at H MA).trans (ku_eq _ _ _)) 5 (by decide) fl_S_48 rfl rfl d_S_arrive_75 ?_
          obtain ⟨z1, e1⟩ : ∃ q : zT, q = (zs (zs (zs (zs z 0 0 0) 0 0 0) 8 (ix a) d) 7 (ix a) 2) := ⟨_, rfl⟩
          obtain ⟨x1, y1⟩ : ∃ q : xT, q = x := ⟨_, rfl⟩
          have J1 : cI LP ks ρ z1 x1 := by
            rw [e1, y1]
            exact ⟨H, hV, hz, hJ.1, hJ.2.1, hJ.2.2.1, hJ.2.2.2.1, hJ.2.2.2.2.1, hJ.2.2.2.2.2.1, (show zF (zs (zs (zs (zs z 0 0 0) 0 0 0) 8 (ix a) d) 7 (ix a) 2) from zF_st hA.2.2.1 (by decide) hJ.2.2.2.2.2.2)⟩
          have g1 : ∀ k7 ∈ ks, (ku (ku (cz γ ρ z x) (1, ix a) (.inr (0, [.int (nI (ix a)), .int (z 4 (ix a)), .int (z 5 (ix a)), .ref (ρ (2, ix a)), .int (z 6 (ix a)), .int (z 7 (ix a)), .int d]))) (1, ix a) (.inr (0, [.int (nI (ix a)), .int (z 4 (ix a)), .int (z 5 (ix a)), .ref (ρ (2, ix a)), .int (z 6 (ix a)), .int 2, .int d]))) k7 = cz γ ρ z1 x1 k7 := by
            intro k7 hk
            rw [e1, y1]
            by_cases q0 : k7 = ((1, ix a) : kT)
            · subst q0
              simp [ku, cz, cA, zs, zl, upd]
            rw [ku_ne _ _ q0, ku_ne _ _ q0]
            exact (((cz_ann (by decide) q0).trans ((cz_ann (by decide) q0).trans ((cz_non (by decide)).trans (cz_non (by decide)))))).symm
          refine pk_fz (f2 := cF γ ks ρ z1 x1 f0) (kf_eq g1) ?_
          exact pv_iret C R0 d_S_arrive_78 (by decide) (by decide) (cP_re J1 (by subst e1; rfl) rfl (fun _ q => q) (fun k hk => Or.inl ⟨k, hk, rfl⟩) (by rw [e1]; unfold m_arrive; rw [if_pos h1, if_pos h2, if_pos h3, if_neg (al_t hz hA.2.2.2 h5), if_neg (nT (htk.trans h8)), if_neg (nT h11)]))
        · refine pv_iconst (v := 1) C d_S_arrive_65 (by decide) ?_
          refine pv_goto (tgt := 70) C d_S_arrive_66 (by decide) ?_
          refine pk_put (ci := 0) C H hin_A tyA tyA_ok nmA rfl MA (ku_eq _ _ _) 5 (by decide) fl_S_48 rfl rfl rfl rfl (Nat.le_of_ble_eq_true rfl) d_S_arrive_70 ?_
          refine pk_fz (f2 := kf ks ρ (ku (ku (cz γ ρ z x) (1, ix a) (.inr (0, [.int (nI (ix a)), .int (z 4 (ix a)), .int (z 5 (ix a)), .ref (ρ (2, ix a)), .int (z 6 (ix a)), .int (z 7 (ix a)), .int d]))) (1, ix a) (.inr (0, [.int (nI (ix a)), .int (z 4 (ix a)), .int (z 5 (ix a)), .ref (ρ (2, ix a)), .int (z 6 (ix a)), .int 1, .int d]))) f0) rfl ?_
          refine pv_aload C d_S_arrive_73 0 rfl ?_
          refine pv_get (v := .int 1) (ci := 0) C hin_A rfl (H.1 _ MA) ((kf_at H MA).trans (ku_eq _ _ _)) 5 (by decide) fl_S_48 rfl rfl d_S_arrive_75 ?_
          obtain ⟨z1, e1⟩ : ∃ q : zT, q = (zs (zs (zs (zs z 0 0 0) 0 0 0) 8 (ix a) d) 7 (ix a) 1) := ⟨_, rfl⟩
          obtain ⟨x1, y1⟩ : ∃ q : xT, q = x := ⟨_, rfl⟩
          have J1 : cI LP ks ρ z1 x1 := by
            rw [e1, y1]
            exact ⟨H, hV, hz, hJ.1, hJ.2.1, hJ.2.2.1, hJ.2.2.2.1, hJ.2.2.2.2.1, hJ.2.2.2.2.2.1, (show zF (zs (zs (zs (zs z 0 0 0) 0 0 0) 8 (ix a) d) 7 (ix a) 1) from zF_st hA.2.2.1 (by decide) hJ.2.2.2.2.2.2)⟩
          have g1 : ∀ k7 ∈ ks, (ku (ku (cz γ ρ z x) (1, ix a) (.inr (0, [.int (nI (ix a)), .int (z 4 (ix a)), .int (z 5 (ix a)), .ref (ρ (2, ix a)), .int (z 6 (ix a)), .int (z 7 (ix a)), .int d]))) (1, ix a) (.inr (0, [.int (nI (ix a)), .int (z 4 (ix a)), .int (z 5 (ix a)), .ref (ρ (2, ix a)), .int (z 6 (ix a)), .int 1, .int d]))) k7 = cz γ ρ z1 x1 k7 := by
            intro k7 hk
            rw [e1, y1]
            by_cases q0 : k7 = ((1, ix a) : kT)
            · subst q0
              simp [ku, cz, cA, zs, zl, upd]
            rw [ku_ne _ _ q0, ku_ne _ _ q0]
            exact (((cz_ann (by decide) q0).trans ((cz_ann (by decide) q0).trans ((cz_non (by decide)).trans (cz_non (by decide)))))).symm
          refine pk_fz (f2 := cF γ ks ρ z1 x1 f0) (kf_eq g1) ?_
          exact pv_iret C R0 d_S_arrive_78 (by decide) (by decide) (cP_re J1 (by subst e1; rfl) rfl (fun _ q => q) (fun k hk => Or.inl ⟨k, hk, rfl⟩) (by rw [e1]; unfold m_arrive; rw [if_pos h1, if_pos h2, if_pos h3, if_neg (al_t hz hA.2.2.2 h5), if_neg (nT (htk.trans h8)), if_pos h11]))
abbrev rm_S_unitsInState : Room := { frames := 2, cells := 0, slots := 0, locals := 40 }
set_option maxRecDepth 100000 in
set_option maxHeartbeats 4000000 in
theorem c_S_unitsInState {l0 : Launch} {D : va_G} {γ : Nat → ClassId} (hl0 : l0.stackTraces = false) {LP : List Nat} {ks : List kT} {ρ : kT → Nat} {z : zT} {x : xT} {f0 : Nat → va_E} (J : cI LP ks ρ z x) (j : Nat) (s : Int32) (hj : vK z (3, j)) : pv_M l0 D (tys_ γ) y_S_unitsInState (Cond.code y_S_unitsInState b_S_unitsInState 6 (Option.some FieldType.int)) rm_S_unitsInState [.ref (ρ (0, 0)), .ref (ρ (3, j)), .int s] LP (cF γ ks ρ z x f0) (rdP LP (cF γ ks ρ z x f0) (some (.int (lCnt (usP z x j s) (zU z))))) (fun _ => False) := by
  refine pv_mk hl0 (by decide) (Nat.le_of_ble_eq_true rfl) (fun κ C R0 hN _ => ?_)
  obtain ⟨H, hV, hz, hJ⟩ := id J
  have M0 : ((0, 0) : kT) ∈ ks := (hV _).mpr (Nat.zero_le _)
  have M1 : ((0, 1) : kT) ∈ ks := (hV _).mpr (by decide : 1 ≤ 3)
  have M2 : ((0, 2) : kT) ∈ ks := (hV _).mpr (by decide : 2 ≤ 3)
  have M3 : ((0, 3) : kT) ∈ ks := (hV _).mpr (by decide : 3 ≤ 3)
  show pv_V D κ 0 0 LP (cF γ ks ρ z x f0) 0 [(0, .ref (ρ (0, 0))), (1, .ref (ρ (3, j))), (2, .int s)] []
  have MJ : ((3, j) : kT) ∈ ks := (hV _).mpr hj
  have loop : ∀ (n9 : Nat) (i : Nat) (h2 : i ≤ zU z), zU z - i < n9 → pv_V D κ 0 0 LP (cF γ ks ρ z x f0) 5 [(4, .int (nI i)), (3, .int (lCnt (usP z x j s) i)), (0, .ref (ρ (0, 0))), (1, .ref (ρ (3, j))), (2, .int s)] [] := by
    intro n9
    induction n9 with
    | zero => intro i h2 hm; exact absurd hm (Nat.not_lt_zero _)
    | succ n9 ih =>
      intro i h2 hm
      have hz1 := hz.2.1.2
      refine pv_iload C d_S_unitsInState_5 0 rfl ?_
      refine pv_aload_n C d_S_unitsInState_7 rfl 2 rfl ?_
      refine pv_get (v := .int (z 18 0)) (ci := 3) C hin_S rfl (H.1 _ M0) ((kf_at H M0).trans rfl) 4 (by decide) fl_S_98 rfl rfl d_S_unitsInState_8 ?_
      refine pv_icmp_ge (tgt := 65) C d_S_unitsInState_11 (by decide) (fun h101 => ?_) (fun h101 => ?_)
      · refine pv_iload_n C d_S_unitsInState_65 rfl 1 rfl ?_
        exact pv_iret C R0 d_S_unitsInState_66 (by decide) (by decide) ⟨by rw [show i = zU z by rw [hz.2.1.1] at h101; have := (nI_leI (by omega) (by omega)).mp h101; omega], rfl, rfl⟩
      · have hle : i + 1 ≤ zU z := by rw [hz.2.1.1] at h101; exact Nat.not_le.mp (fun q => h101 (nI_le q (by omega)))
        have hv1 : 1 ≤ i + 1 ∧ i + 1 ≤ zU z := ⟨by omega, hle⟩
        have MU : ((4, i + 1) : kT) ∈ ks := (hV _).mpr hv1
        have MN : ((3, zl z (i + 1)) : kT) ∈ ks := (hV _).mpr (hJ.1 (i + 1) hv1.1 hv1.2)
        refine pv_iload C d_S_unitsInState_14 0 rfl ?_
        refine pv_aload_n C d_S_unitsInState_16 rfl 2 rfl ?_
        refine pv_get (v := .ref (ρ (0, 2))) (ci := 3) C hin_S rfl (H.1 _ M0) ((kf_at H M0).trans rfl) 1 (by decide) fl_S_17 rfl rfl d_S_unitsInState_17 ?_
        refine pv_alen C 2 rfl (H.1 _ M2) ((kf_at H M2).trans rfl) (v := 120) rfl d_S_unitsInState_20 ?_
        refine pv_icmp_ge (tgt := 65) C d_S_unitsInState_21 (by decide) (fun h102 => ?_) (fun h102 => ?_)
        · exact absurd ((nI_leI (a := 120) (by decide) (by omega)).mp h102) (by omega)
        · refine pv_aload_n C d_S_unitsInState_24 rfl 2 rfl ?_
          refine pv_get (v := .ref (ρ (0, 2))) (ci := 3) C hin_S rfl (H.1 _ M0) ((kf_at H M0).trans rfl) 1 (by decide) fl_S_17 rfl rfl d_S_unitsInState_25 ?_
          refine pv_iload C d_S_unitsInState_28 0 rfl ?_
          refine pv_aald C 2 rfl (H.1 _ M2) ((kf_at H M2).trans rfl) (j := i) (b := (ρ (4, i + 1))) rfl (show i < 120 by omega) (by decide) (if_pos hle) d_S_unitsInState_30 ?_
          refine pv_astore (lv' := [(5, .ref (ρ (4, i + 1))), (4, .int (nI i)), (3, .int (lCnt (usP z x j s) i)), (0, .ref (ρ (0, 0))), (1, .ref (ρ (3, j))), (2, .int s)]) C d_S_unitsInState_31 (by decide) rfl ?_
          refine pv_aload C d_S_unitsInState_33 0 rfl ?_
          refine pv_ifnull C d_S_unitsInState_35 ?_
          refine pv_aload C d_S_unitsInState_38 0 rfl ?_
          refine pv_get (v := .ref (ρ (3, zl z (i + 1)))) (ci := 2) C hin_U rfl (H.1 _ MU) ((kf_at H MU).trans rfl) 0 (by decide) fl_S_120 rfl rfl d_S_unitsInState_40 ?_
          refine pv_aload_n C d_S_unitsInState_43 rfl 4 rfl ?_
          refine pv_acmp_ne (tgt := 59) C d_S_unitsInState_44 (by decide) (fun h103 => ?_) (fun h103 => ?_)
          · refine pv_iinc (v := ((nI i) + 1)) (lv' := [(4, .int ((nI i) + 1)), (5, .ref (ρ (4, i + 1))), (3, .int (lCnt (usP z x j s) i)), (0, .ref (ρ (0, 0))), (1, .ref (ρ (3, j))), (2, .int s)]) C d_S_unitsInState_59 1 rfl rfl (by decide) rfl ?_
            refine pv_goto (tgt := 5) C d_S_unitsInState_62 (by decide) ?_
            refine pv_lvs (lv2 := [(4, .int (nI (i + 1))), (3, .int (lCnt (usP z x j s) (i + 1))), (0, .ref (ρ (0, 0))), (1, .ref (ρ (3, j))), (2, .int s)]) [0, 2, 3, 4, 5] (by rw [← nI_next, lCnt_n (show usP z x j s (i + 1) = false by unfold usP; rw [decide_eq_false (fun q => h103 (by rw [q]))]; rfl)]; rfl) ?_
            exact ih (i + 1) hle (by omega)
          · refine pv_aload C d_S_unitsInState_47 0 rfl ?_
            refine pv_callV (n := 0) (As := []) (rest := []) C (c_U_stateNow hl0 J (i + 1) hv1) cd_U_stateNow ml_S_157 in_U im_U_stateNow se_U_stateNow (H.1 _ MU) ((kf_at H MU).trans rfl) rfl rfl (by decide +kernel) (by decide) rfl (Nat.le_of_ble_eq_true rfl) rfl d_S_unitsInState_49 (by decide) hN R0 (fun _ h => h.elim) (fun v9 LP9 f9 h9 => ?_)
            obtain ⟨rfl, w9, w8⟩ := h9
            have w9 := w9.symm
            have w8 := w8.symm
            subst w9
            subst w8
            refine pv_stf (f2 := (kf ks ρ (cz γ ρ z x) f0)) (st2 := [.int (uS (z 24 (i + 1)) (x.2.2 (i + 1)) (z 15 (zl z (i + 1))))]) (c2 := 0) (s2 := 0) rfl rfl rfl rfl ?_
            refine pv_iload_n C d_S_unitsInState_52 rfl 5 rfl ?_
            refine pv_icmp_ne (tgt := 59) C d_S_unitsInState_53 (by decide) (fun h104 => ?_) (fun h104 => ?_)
            · refine pv_iinc (v := ((nI i) + 1)) (lv' := [(4, .int ((nI i) + 1)), (5, .ref (ρ (4, i + 1))), (3, .int (lCnt (usP z x j s) i)), (0, .ref (ρ (0, 0))), (1, .ref (ρ (3, j))), (2, .int s)]) C d_S_unitsInState_59 1 rfl rfl (by decide) rfl ?_
              refine pv_goto (tgt := 5) C d_S_unitsInState_62 (by decide) ?_
              refine pv_lvs (lv2 := [(4, .int (nI (i + 1))), (3, .int (lCnt (usP z x j s) (i + 1))), (0, .ref (ρ (0, 0))), (1, .ref (ρ (3, j))), (2, .int s)]) [0, 2, 3, 4, 5] (by rw [← nI_next, lCnt_n (show usP z x j s (i + 1) = false by unfold usP; rw [decide_eq_true (congrArg Prod.snd (H.2 _ MN _ MJ h103)), decide_eq_false h104]; rfl)]; rfl) ?_
              exact ih (i + 1) hle (by omega)
            · refine pv_iinc (v := ((lCnt (usP z x j s) i) + 1)) (lv' := [(3, .int ((lCnt (usP z x j s) i) + 1)), (5, .ref (ρ (4, i + 1))), (4, .int (nI i)), (0, .ref (ρ (0, 0))), (1, .ref (ρ (3, j))), (2, .int s)]) C d_S_unitsInState_56 2 rfl rfl (by decide) rfl ?_
              refine pv_iinc (v := ((nI i) + 1)) (lv' := [(4, .int ((nI i) + 1)), (3, .int ((lCnt (usP z x j s) i) + 1)), (5, .ref (ρ (4, i + 1))), (0, .ref (ρ (0, 0))), (1, .ref (ρ (3, j))), (2, .int s)]) C d_S_unitsInState_59 2 rfl rfl (by decide) rfl ?_
              refine pv_goto (tgt := 5) C d_S_unitsInState_62 (by decide) ?_
              refine pv_lvs (lv2 := [(4, .int (nI (i + 1))), (3, .int (lCnt (usP z x j s) (i + 1))), (0, .ref (ρ (0, 0))), (1, .ref (ρ (3, j))), (2, .int s)]) [0, 1, 3, 4, 5] (by rw [← nI_next, lCnt_y (show usP z x j s (i + 1) = true by unfold usP; rw [decide_eq_true (congrArg Prod.snd (H.2 _ MN _ MJ h103)), decide_eq_true h104]; rfl)]; rfl) ?_
              exact ih (i + 1) hle (by omega)
  refine pv_iconst (v := 0) C d_S_unitsInState_0 (by decide) ?_
  refine pv_istore_n (lv' := [(3, .int 0), (0, .ref (ρ (0, 0))), (1, .ref (ρ (3, j))), (2, .int s)]) C d_S_unitsInState_1 rfl (by decide) rfl ?_
  refine pv_iconst (v := 0) C d_S_unitsInState_2 (by decide) ?_
  refine pv_istore (lv' := [(4, .int 0), (3, .int 0), (0, .ref (ρ (0, 0))), (1, .ref (ρ (3, j))), (2, .int s)]) C d_S_unitsInState_3 (by decide) rfl ?_
  refine pv_lvs (lv2 := [(4, .int (nI 0)), (3, .int (lCnt (usP z x j s) 0)), (0, .ref (ρ (0, 0))), (1, .ref (ρ (3, j))), (2, .int s)]) [0, 1, 2, 3, 4] rfl ?_
  exact loop (zU z + 1) 0 (by omega) (by omega)
abbrev rm_S_lacksLabel : Room := { frames := 1, cells := 0, slots := 0, locals := 20 }
set_option maxRecDepth 100000 in
set_option maxHeartbeats 4000000 in
theorem c_S_lacksLabel {l0 : Launch} {D : va_G} {γ : Nat → ClassId} (hl0 : l0.stackTraces = false) {LP : List Nat} {ks : List kT} {ρ : kT → Nat} {z : zT} {x : xT} {f0 : Nat → va_E} (J : cI LP ks ρ z x) (j : Nat) (hj : vK z (3, j)) : pv_M l0 D (tys_ γ) y_S_lacksLabel (Cond.code y_S_lacksLabel b_S_lacksLabel 4 (Option.some FieldType.boolean)) rm_S_lacksLabel [.ref (ρ (0, 0)), .ref (ρ (3, j))] LP (cF γ ks ρ z x f0) (rdP LP (cF γ ks ρ z x f0) (some (.int (bN (lAny (llP z j) (zU z)))))) (fun _ => False) := by
  refine pv_mk hl0 (by decide) (Nat.le_of_ble_eq_true rfl) (fun κ C R0 hN _ => ?_)
  obtain ⟨H, hV, hz, hJ⟩ := id J
  have M0 : ((0, 0) : kT) ∈ ks := (hV _).mpr (Nat.zero_le _)
  have M1 : ((0, 1) : kT) ∈ ks := (hV _).mpr (by decide : 1 ≤ 3)
  have M2 : ((0, 2) : kT) ∈ ks := (hV _).mpr (by decide : 2 ≤ 3)
  have M3 : ((0, 3) : kT) ∈ ks := (hV _).mpr (by decide : 3 ≤ 3)
  show pv_V D κ 0 0 LP (cF γ ks ρ z x f0) 0 [(0, .ref (ρ (0, 0))), (1, .ref (ρ (3, j)))] []
  have MJ : ((3, j) : kT) ∈ ks := (hV _).mpr hj
  have loop : ∀ (n9 : Nat) (i : Nat) (h2 : i ≤ zU z) (hn : ∀ a, 1 ≤ a → a < i + 1 → llP z j a = false), zU z - i < n9 → pv_V D κ 0 0 LP (cF γ ks ρ z x f0) 2 [(2, .int (nI i)), (0, .ref (ρ (0, 0))), (1, .ref (ρ (3, j)))] [] := by
    intro n9
    induction n9 with
    | zero => intro i h2 hn hm; exact absurd hm (Nat.not_lt_zero _)
    | succ n9 ih =>
      intro i h2 hn hm
      have hz1 := hz.2.1.2
      refine pv_iload_n C d_S_lacksLabel_2 rfl 0 rfl ?_
      refine pv_aload_n C d_S_lacksLabel_3 rfl 1 rfl ?_
      refine pv_get (v := .int (z 18 0)) (ci := 3) C hin_S rfl (H.1 _ M0) ((kf_at H M0).trans rfl) 4 (by decide) fl_S_98 rfl rfl d_S_lacksLabel_4 ?_
      refine pv_icmp_ge (tgt := 60) C d_S_lacksLabel_7 (by decide) (fun h101 => ?_) (fun h101 => ?_)
      · refine pv_iconst (v := 0) C d_S_lacksLabel_60 (by decide) ?_
        exact pv_zret C rfl R0 d_S_lacksLabel_61 (by decide) (by decide) ⟨by rw [lAny_f (fun a q1 q2 => hn a q1 (by rw [hz.2.1.1] at h101; have := (nI_leI (by omega) (by omega)).mp h101; omega))]; rfl, rfl, rfl⟩
      · have hle : i + 1 ≤ zU z := by rw [hz.2.1.1] at h101; exact Nat.not_le.mp (fun q => h101 (nI_le q (by omega)))
        have hv1 : 1 ≤ i + 1 ∧ i + 1 ≤ zU z := ⟨by omega, hle⟩
        have MU : ((4, i + 1) : kT) ∈ ks := (hV _).mpr hv1
        have MN : ((3, zl z (i + 1)) : kT) ∈ ks := (hV _).mpr (hJ.1 (i + 1) hv1.1 hv1.2)
        refine pv_iload_n C d_S_lacksLabel_10 rfl 0 rfl ?_
        refine pv_aload_n C d_S_lacksLabel_11 rfl 1 rfl ?_
        refine pv_get (v := .ref (ρ (0, 2))) (ci := 3) C hin_S rfl (H.1 _ M0) ((kf_at H M0).trans rfl) 1 (by decide) fl_S_17 rfl rfl d_S_lacksLabel_12 ?_
        refine pv_alen C 2 rfl (H.1 _ M2) ((kf_at H M2).trans rfl) (v := 120) rfl d_S_lacksLabel_15 ?_
        refine pv_icmp_ge (tgt := 60) C d_S_lacksLabel_16 (by decide) (fun h102 => ?_) (fun h102 => ?_)
        · exact absurd ((nI_leI (a := 120) (by decide) (by omega)).mp h102) (by omega)
        · refine pv_aload_n C d_S_lacksLabel_19 rfl 1 rfl ?_
          refine pv_get (v := .ref (ρ (0, 2))) (ci := 3) C hin_S rfl (H.1 _ M0) ((kf_at H M0).trans rfl) 1 (by decide) fl_S_17 rfl rfl d_S_lacksLabel_20 ?_
          refine pv_iload_n C d_S_lacksLabel_23 rfl 0 rfl ?_
          refine pv_aald C 2 rfl (H.1 _ M2) ((kf_at H M2).trans rfl) (j := i) (b := (ρ (4, i + 1))) rfl (show i < 120 by omega) (by decide) (if_pos hle) d_S_lacksLabel_24 ?_
          refine pv_astore_n (lv' := [(3, .ref (ρ (4, i + 1))), (2, .int (nI i)), (0, .ref (ρ (0, 0))), (1, .ref (ρ (3, j)))]) C d_S_lacksLabel_25 rfl (by decide) rfl ?_
          refine pv_aload_n C d_S_lacksLabel_26 rfl 0 rfl ?_
          refine pv_ifnull C d_S_lacksLabel_27 ?_
          refine pv_aload_n C d_S_lacksLabel_30 rfl 0 rfl ?_
          refine pv_get (v := .ref (ρ (3, zl z (i + 1)))) (ci := 2) C hin_U rfl (H.1 _ MU) ((kf_at H MU).trans rfl) 0 (by decide) fl_S_120 rfl rfl d_S_lacksLabel_31 ?_
          refine pv_aload_n C d_S_lacksLabel_34 rfl 3 rfl ?_
          refine pv_acmp_ne (tgt := 54) C d_S_lacksLabel_35 (by decide) (fun h103 => ?_) (fun h103 => ?_)
          · refine pv_iinc (v := ((nI i) + 1)) (lv' := [(2, .int ((nI i) + 1)), (3, .ref (ρ (4, i + 1))), (0, .ref (ρ (0, 0))), (1, .ref (ρ (3, j)))]) C d_S_lacksLabel_54 1 rfl rfl (by decide) rfl ?_
            refine pv_goto (tgt := 2) C d_S_lacksLabel_57 (by decide) ?_
            refine pv_lvs (lv2 := [(2, .int (nI (i + 1))), (0, .ref (ρ (0, 0))), (1, .ref (ρ (3, j)))]) [0, 2, 3] (by rw [← nI_next]; rfl) ?_
            exact ih (i + 1) hle (lExt hn (show llP z j (i + 1) = false by unfold llP; rw [decide_eq_false (fun q => h103 (by rw [q]))]; rfl)) (by omega)
          · refine pv_aload_n C d_S_lacksLabel_38 rfl 0 rfl ?_
            refine pv_callV (n := 0) (As := []) (rest := []) C (c_U_hasLabel hl0 J (i + 1) hv1) cd_U_hasLabel ml_S_160 in_U im_U_hasLabel se_U_hasLabel (H.1 _ MU) ((kf_at H MU).trans rfl) rfl rfl (by decide +kernel) (by decide) rfl (Nat.le_of_ble_eq_true rfl) rfl d_S_lacksLabel_39 (by decide) hN R0 (fun _ h => h.elim) (fun v9 LP9 f9 h9 => ?_)
            obtain ⟨rfl, w9, w8⟩ := h9
            have w9 := w9.symm
            have w8 := w8.symm
            subst w9
            subst w8
            refine pv_stf (f2 := (kf ks ρ (cz γ ρ z x) f0)) (st2 := [.int (bN (!decide (z 25 (i + 1) = 0)))]) (c2 := 0) (s2 := 0) rfl rfl rfl rfl ?_
            refine pv_ifb_ne (tgt := 54) C d_S_lacksLabel_42 (by decide) (fun h104 => ?_) (fun h104 => ?_)
            · refine pv_iinc (v := ((nI i) + 1)) (lv' := [(2, .int ((nI i) + 1)), (3, .ref (ρ (4, i + 1))), (0, .ref (ρ (0, 0))), (1, .ref (ρ (3, j)))]) C d_S_lacksLabel_54 1 rfl rfl (by decide) rfl ?_
              refine pv_goto (tgt := 2) C d_S_lacksLabel_57 (by decide) ?_
              refine pv_lvs (lv2 := [(2, .int (nI (i + 1))), (0, .ref (ρ (0, 0))), (1, .ref (ρ (3, j)))]) [0, 2, 3] (by rw [← nI_next]; rfl) ?_
              exact ih (i + 1) hle (lExt hn (show llP z j (i + 1) = false by unfold llP; rw [decide_eq_true (congrArg Prod.snd (H.2 _ MN _ MJ h103)), decide_eq_false (nd_t h104)]; rfl)) (by omega)
            · refine pv_aload_n C d_S_lacksLabel_45 rfl 0 rfl ?_
              refine pv_callV (n := 0) (As := []) (rest := []) C (c_U_isDamaged hl0 J (i + 1) hv1) cd_U_isDamaged ml_S_117 in_U im_U_isDamaged se_U_isDamaged (H.1 _ MU) ((kf_at H MU).trans rfl) rfl rfl (by decide +kernel) (by decide) rfl (Nat.le_of_ble_eq_true rfl) rfl d_S_lacksLabel_46 (by decide) hN R0 (fun _ h => h.elim) (fun v9 LP9 f9 h9 => ?_)
              obtain ⟨rfl, w9, w8⟩ := h9
              have w9 := w9.symm
              have w8 := w8.symm
              subst w9
              subst w8
              refine pv_stf (f2 := (kf ks ρ (cz γ ρ z x) f0)) (st2 := [.int (bN (!decide (z 24 (i + 1) = 0)))]) (c2 := 0) (s2 := 0) rfl rfl rfl rfl ?_
              refine pv_ifb_ne (tgt := 54) C d_S_lacksLabel_49 (by decide) (fun h105 => ?_) (fun h105 => ?_)
              · refine pv_iinc (v := ((nI i) + 1)) (lv' := [(2, .int ((nI i) + 1)), (3, .ref (ρ (4, i + 1))), (0, .ref (ρ (0, 0))), (1, .ref (ρ (3, j)))]) C d_S_lacksLabel_54 1 rfl rfl (by decide) rfl ?_
                refine pv_goto (tgt := 2) C d_S_lacksLabel_57 (by decide) ?_
                refine pv_lvs (lv2 := [(2, .int (nI (i + 1))), (0, .ref (ρ (0, 0))), (1, .ref (ρ (3, j)))]) [0, 2, 3] (by rw [← nI_next]; rfl) ?_
                exact ih (i + 1) hle (lExt hn (show llP z j (i + 1) = false by unfold llP; rw [decide_eq_true (congrArg Prod.snd (H.2 _ MN _ MJ h103)), decide_eq_true (nd_f h104), decide_eq_false (nd_t h105)]; rfl)) (by omega)
              · refine pv_iconst (v := 1) C d_S_lacksLabel_52 (by decide) ?_
                exact pv_zret C rfl R0 d_S_lacksLabel_53 (by decide) (by decide) ⟨by rw [lAny_t (i := i + 1) (by omega) hle (show llP z j (i + 1) = true by unfold llP; rw [decide_eq_true (congrArg Prod.snd (H.2 _ MN _ MJ h103)), decide_eq_true (nd_f h104), decide_eq_true (nd_f h105)]; rfl)]; rfl, rfl, rfl⟩
  refine pv_iconst (v := 0) C d_S_lacksLabel_0 (by decide) ?_
  refine pv_istore_n (lv' := [(2, .int 0), (0, .ref (ρ (0, 0))), (1, .ref (ρ (3, j)))]) C d_S_lacksLabel_1 rfl (by decide) rfl ?_
  refine pv_lvs (lv2 := [(2, .int (nI 0)), (0, .ref (ρ (0, 0))), (1, .ref (ρ (3, j)))]) [0, 1, 2] rfl ?_
  exact loop (zU z + 1) 0 (by omega) (fun a q1 q2 => absurd q1 (by omega)) (by omega)
