/-! contracts of the reference: loops (by wip/whole/gen/m2.py) -/
section PL
variable {D : va_G} {κ : pv_K} {cells slots : Nat} {LP : List Nat} {f : Nat → va_E} {pc : Nat} {lv : List (Nat × Value)} {st : List Value}
theorem pv_lvs {lv2 : List (Nat × Value)} (ks : List Nat) (h : lv_pick lv ks = lv2) (kk : pv_V D κ cells slots LP f pc lv2 st) : pv_V D κ cells slots LP f pc lv st := by
  obtain ⟨p, l, e, R, s, m, args, below, meth, c, A, nL, Q⟩ := κ
  exact fun H locs ls hP hD hS hl => kk H locs ls hP hD hS (lv_sub hl ks h)
theorem pv_stf {f2 : Nat → va_E} {st2 : List Value} {c2 s2 : Nat} (hf : f = f2) (h : st = st2) (hc : cells = c2) (hs : slots = s2) (kk : pv_V D κ c2 s2 LP f2 pc lv st2) : pv_V D κ cells slots LP f pc lv st := by
  subst hf
  subst h
  subst hc
  subst hs
  exact kk
end PL
def lAny (p : Nat → Bool) : Nat → Bool
  | 0 => false
  | n + 1 => lAny p n || p (n + 1)
theorem lAny_t {p : Nat → Bool} : ∀ {N i : Nat}, 1 ≤ i → i ≤ N → p i = true → lAny p N = true
  | 0, i, h1, h2, _ => absurd h2 (by omega)
  | N + 1, i, h1, h2, h3 => by
    by_cases h : i = N + 1
    · subst h; simp [lAny, h3]
    · simp [lAny, lAny_t h1 (by omega : i ≤ N) h3]
theorem lAny_f {p : Nat → Bool} : ∀ {N : Nat}, (∀ a, 1 ≤ a → a ≤ N → p a = false) → lAny p N = false
  | 0, _ => rfl
  | N + 1, h => by
    have h0 := lAny_f (p := p) (N := N) (fun a h1 h2 => h a h1 (by omega))
    simp [lAny, h0, h (N + 1) (by omega) (Nat.le_refl _)]
theorem lExt {p : Nat → Bool} {i : Nat} (hn : ∀ a, 1 ≤ a → a < i → p a = false) (hi : p i = false) : ∀ a, 1 ≤ a → a < i + 1 → p a = false := by
  intro a h1 h2
  by_cases q : a = i
  · rw [q]; exact hi
  · exact hn a h1 (by omega)
def lCnt (p : Nat → Bool) : Nat → Int32
  | 0 => 0
  | n + 1 => lCnt p n + bN (p (n + 1))
/-- is the door d taken, of n announcements with their doors and states -/
def tkP (dr sx : Nat → Int32) (d : Int32) (a : Nat) : Bool := decide (dr a = d) && (decide (sx a = 1) || decide (sx a = 2))
theorem nI_next (i : Nat) : nI i + 1 = nI (i + 1) := (nI_succ i).symm
abbrev rm_M_isTaken : Room := { frames := 0, cells := 0, slots := 0, locals := 0 }
set_option maxRecDepth 100000 in
set_option maxHeartbeats 4000000 in
theorem c_M_isTaken {l0 : Launch} {D : va_G} {γ : Nat → ClassId} (hl0 : l0.stackTraces = false) {LP : List Nat} {f0 : Nat → va_E} {mo : Nat} {ad : Nat → Nat} (G : mm_H mo ad LP) (z : zT) (d : Int32) (hz : (z 3 0 = nI (zA z) ∧ zA z ≤ 16)) : mM l0 D γ y_M_isTaken (Cond.code y_M_isTaken b_M_isTaken 3 (Option.some FieldType.boolean)) rm_M_isTaken [.ref mo, .int d] LP f0 mo ad z (some (.int ((bN (lAny (tkP (z 8) (z 7) d) (zA z)), z)).1)) ((bN (lAny (tkP (z 8) (z 7) d) (zA z)), z)).2 := by
  refine pv_mk hl0 (by decide) (Nat.le_of_ble_eq_true rfl) (fun κ C R0 hN _ => ?_)
  show pv_V D κ 0 0 LP (mm_f γ f0 mo ad z) 0 [(0, .ref mo), (1, .int d)] []
  have loop : ∀ (n9 : Nat) (i : Nat) (h1 : 1 ≤ i) (h2 : i ≤ zA z + 1) (hn : ∀ a, 1 ≤ a → a < i → tkP (z 8) (z 7) d a = false), zA z + 1 - i < n9 → pv_V D κ 0 0 LP (mm_f γ f0 mo ad z) 2 [(2, .int (nI i)), (0, .ref mo), (1, .int d)] [] := by
    intro n9
    induction n9 with
    | zero => intro i h1 h2 hn hm; exact absurd hm (Nat.not_lt_zero _)
    | succ n9 ih =>
      intro i h1 h2 hn hm
      have hz1 := hz.2
      refine pv_iload_n C d_M_isTaken_2 rfl 0 rfl ?_
      refine pv_aload_n C d_M_isTaken_3 rfl 1 rfl ?_
      refine pm_get (v := .int (z 3 0)) C G 3 (by decide) fl_M_87 rfl rfl d_M_isTaken_4 ?_
      refine pv_icmp_gt (tgt := 48) C d_M_isTaken_7 (by decide) (fun h101 => ?_) (fun h101 => ?_)
      · refine pv_iconst (v := 0) C d_M_isTaken_48 (by decide) ?_
        exact pv_zret C rfl R0 d_M_isTaken_49 (by decide) (by decide) (mP_i (by rw [lAny_f (fun a q1 q2 => hn a q1 (by rw [hz.1] at h101; have := (nI_ltI (by omega) (by omega)).mp h101; omega))]; rfl))
      · have hle : i ≤ zA z := by rw [hz.1] at h101; exact Nat.not_lt.mp (fun q => h101 (nI_lt q (by omega)))
        refine pv_aload_n C d_M_isTaken_10 rfl 1 rfl ?_
        refine pm_get (v := .ref (ad 8)) C G 8 (by decide) fl_M_26 rfl rfl d_M_isTaken_11 ?_
        refine pv_iload_n C d_M_isTaken_14 rfl 0 rfl ?_
        refine pm_ald C G 8 (by decide) rfl (j := i) rfl (show i < 17 by omega) d_M_isTaken_15 ?_
        refine pv_top (y := (z 8 i)) rfl ?_
        refine pv_iload_n C d_M_isTaken_16 rfl 2 rfl ?_
        refine pv_icmp_ne (tgt := 42) C d_M_isTaken_17 (by decide) (fun h102 => ?_) (fun h102 => ?_)
        · refine pv_iinc (v := ((nI i) + 1)) (lv' := [(2, .int ((nI i) + 1)), (0, .ref mo), (1, .int d)]) C d_M_isTaken_42 0 rfl rfl (by decide) rfl ?_
          refine pv_goto (tgt := 2) C d_M_isTaken_45 (by decide) ?_
          refine pv_lvs (lv2 := [(2, .int (nI (i + 1))), (0, .ref mo), (1, .int d)]) [0, 1, 2] (by rw [← nI_next]; rfl) ?_
          exact ih (i + 1) (by omega) (by omega) (lExt hn (by simp [tkP, h102])) (by omega)
        · refine pv_aload_n C d_M_isTaken_20 rfl 1 rfl ?_
          refine pm_get (v := .ref (ad 7)) C G 7 (by decide) fl_M_23 rfl rfl d_M_isTaken_21 ?_
          refine pv_iload_n C d_M_isTaken_24 rfl 0 rfl ?_
          refine pm_ald C G 7 (by decide) rfl (j := i) rfl (show i < 17 by omega) d_M_isTaken_25 ?_
          refine pv_top (y := (z 7 i)) rfl ?_
          refine pv_iconst (v := 1) C d_M_isTaken_26 (by decide) ?_
          refine pv_icmp_eq (tgt := 40) C d_M_isTaken_27 (by decide) (fun h103 => ?_) (fun h103 => ?_)
          · refine pv_iconst (v := 1) C d_M_isTaken_40 (by decide) ?_
            exact pv_zret C rfl R0 d_M_isTaken_41 (by decide) (by decide) (mP_i (by rw [lAny_t h1 hle (by simp [tkP, h102, h103])]; rfl))
          · refine pv_aload_n C d_M_isTaken_30 rfl 1 rfl ?_
            refine pm_get (v := .ref (ad 7)) C G 7 (by decide) fl_M_23 rfl rfl d_M_isTaken_31 ?_
            refine pv_iload_n C d_M_isTaken_34 rfl 0 rfl ?_
            refine pm_ald C G 7 (by decide) rfl (j := i) rfl (show i < 17 by omega) d_M_isTaken_35 ?_
            refine pv_top (y := (z 7 i)) rfl ?_
            refine pv_iconst (v := 2) C d_M_isTaken_36 (by decide) ?_
            refine pv_icmp_ne (tgt := 42) C d_M_isTaken_37 (by decide) (fun h104 => ?_) (fun h104 => ?_)
            · refine pv_iinc (v := ((nI i) + 1)) (lv' := [(2, .int ((nI i) + 1)), (0, .ref mo), (1, .int d)]) C d_M_isTaken_42 0 rfl rfl (by decide) rfl ?_
              refine pv_goto (tgt := 2) C d_M_isTaken_45 (by decide) ?_
              refine pv_lvs (lv2 := [(2, .int (nI (i + 1))), (0, .ref mo), (1, .int d)]) [0, 1, 2] (by rw [← nI_next]; rfl) ?_
              exact ih (i + 1) (by omega) (by omega) (lExt hn (by simp [tkP, h102, h103, h104])) (by omega)
            · refine pv_iconst (v := 1) C d_M_isTaken_40 (by decide) ?_
              exact pv_zret C rfl R0 d_M_isTaken_41 (by decide) (by decide) (mP_i (by rw [lAny_t h1 hle (by simp [tkP, h102, h103, h104])]; rfl))
  refine pv_iconst (v := 1) C d_M_isTaken_0 (by decide) ?_
  refine pv_istore_n (lv' := [(2, .int 1), (0, .ref mo), (1, .int d)]) C d_M_isTaken_1 rfl (by decide) rfl ?_
  refine pv_lvs (lv2 := [(2, .int (nI 1)), (0, .ref mo), (1, .int d)]) [0, 1, 2] rfl ?_
  exact loop (zA z + 2) 1 (by omega) (by omega) (fun a q1 q2 => absurd q1 (by omega)) (by omega)
abbrev rm_M_arrive : Room := { frames := 2, cells := 0, slots := 0, locals := 43 }
def m_arrive (z : zT) (a : Int32) (d : Int32) (b : Bool) : Int32 × zT :=
  (if (isA z a) = true then (if (inB d 0 3) = true then (if (z 7 (ix a)) = 0 then (if (z 6 (ix a)) < (z 5 (ix a)) then (0, (zs (zs z 0 0 0) 0 0 3)) else (if (lAny (tkP (z 8) (z 7) d) (zA z)) = true then (0, (zs (zs z 0 0 0) 0 0 3)) else (if b = true then (1, (zs (zs (zs (zs z 0 0 0) 0 0 0) 8 (ix a) d) 7 (ix a) 1)) else (2, (zs (zs (zs (zs z 0 0 0) 0 0 0) 8 (ix a) d) 7 (ix a) 2))))) else (0, (zs (zs z 0 0 0) 0 0 3))) else (0, (zs z 0 0 2))) else (0, (zs z 0 0 1)))
set_option maxRecDepth 100000 in
set_option maxHeartbeats 4000000 in
theorem c_M_arrive {l0 : Launch} {D : va_G} {γ : Nat → ClassId} (hl0 : l0.stackTraces = false) {LP : List Nat} {f0 : Nat → va_E} {mo : Nat} {ad : Nat → Nat} (G : mm_H mo ad LP) (z : zT) (a : Int32) (d : Int32) (b : Bool) (hz : zI z) : mM l0 D γ y_M_arrive (Cond.code y_M_arrive b_M_arrive 4 (Option.some FieldType.int)) rm_M_arrive [.ref mo, .int a, .int d, .int (bN b)] LP f0 mo ad z (some (.int (m_arrive z a d b).1)) (m_arrive z a d b).2 := by
  refine pv_mk hl0 (by decide) (Nat.le_of_ble_eq_true rfl) (fun κ C R0 hN _ => ?_)
  show pv_V D κ 0 0 LP (mm_f γ f0 mo ad z) 0 [(0, .ref mo), (1, .int a), (2, .int d), (3, .int (bN b))] []
  refine pv_aload_n C d_M_arrive_0 rfl 0 rfl ?_
  refine pv_aload_n C d_M_arrive_1 rfl 0 rfl ?_
  refine pv_iload_n C d_M_arrive_2 rfl 1 rfl ?_
  refine pv_callV (n := 1) (As := [.int a]) (rest := [.ref mo]) C (c_M_isAnnouncement hl0 G z a) cd_M_isAnnouncement ml_M_94 in_M im_M_isAnnouncement se_M_isAnnouncement G.1 mm_obj rfl rfl (by decide +kernel) (by decide) rfl (Nat.le_of_ble_eq_true rfl) rfl d_M_arrive_3 (by decide) hN R0 (fun _ h => h.elim) (fun v9 LP9 f9 h9 => ?_)
  obtain ⟨rfl, rfl, rfl⟩ := h9
  refine pv_st (st2 := [.int (bN (isA z a)), .ref mo]) (c2 := 0) (s2 := 0) rfl rfl rfl ?_
  refine pv_ifb_ne (tgt := 13) C d_M_arrive_6 (by decide) (fun h1 => ?_) (fun h1 => ?_)
  · have hA := isA_ix hz h1
    refine pv_iload_n C d_M_arrive_13 rfl 2 rfl ?_
    refine pv_iconst (v := 0) C d_M_arrive_14 (by decide) ?_
    refine pv_iconst (v := 3) C d_M_arrive_15 (by decide) ?_
    refine pv_callS (n := 3) (As := [.int d, .int 0, .int 3]) (rest := [.ref mo]) C (c_M_in hl0 G z d 0 3) cd_M_in ml_M_90 in_M sm_M_in (by decide +kernel) (by decide) rfl (Nat.le_of_ble_eq_true rfl) rfl d_M_arrive_16 (by decide) hN R0 (fun _ h => h.elim) (fun v9 LP9 f9 h9 => ?_)
    obtain ⟨rfl, rfl, rfl⟩ := h9
    refine pv_st (st2 := [.int (bN (inB d 0 3)), .ref mo]) (c2 := 0) (s2 := 0) rfl rfl rfl ?_
    refine pv_ifb_ne (tgt := 26) C d_M_arrive_19 (by decide) (fun h2 => ?_) (fun h2 => ?_)
    · refine pv_iconst (v := 0) C d_M_arrive_26 (by decide) ?_
      refine pm_put C G 0 (by decide) fl_M_83 rfl rfl rfl (by decide) rfl d_M_arrive_27 ?_
      refine pv_aload_n C d_M_arrive_30 rfl 0 rfl ?_
      refine pm_get (v := .int 0) C G 0 (by decide) fl_M_83 rfl rfl d_M_arrive_31 ?_
      refine pv_if_ne (tgt := 78) C d_M_arrive_34 (by decide) (fun q => absurd q (by decide)) (fun _ => ?_)
      refine pv_aload_n C d_M_arrive_37 rfl 0 rfl ?_
      refine pv_aload_n C d_M_arrive_38 rfl 0 rfl ?_
      refine pm_get (v := .ref (ad 7)) C G 7 (by decide) fl_M_23 rfl rfl d_M_arrive_39 ?_
      refine pv_iload_n C d_M_arrive_42 rfl 1 rfl ?_
      refine pm_ald C G 7 (by decide) rfl (j := (ix a)) hA.1 (show (ix a) < 17 by omega) d_M_arrive_43 ?_
      refine pv_top (y := (z 7 (ix a))) (zs_k _ _ (by decide)) ?_
      refine pv_if_ne (tgt := 70) C d_M_arrive_44 (by decide) (fun h3 => ?_) (fun h3 => ?_)
      · refine pv_iconst (v := 3) C d_M_arrive_70 (by decide) ?_
        refine pv_goto (tgt := 75) C d_M_arrive_71 (by decide) ?_
        refine pm_put C G 0 (by decide) fl_M_83 rfl rfl rfl (by decide) rfl d_M_arrive_75 ?_
        refine pv_aload_n C d_M_arrive_78 rfl 0 rfl ?_
        refine pm_get (v := .int 3) C G 0 (by decide) fl_M_83 rfl rfl d_M_arrive_79 ?_
        refine pv_if_le (tgt := 87) C d_M_arrive_82 (by decide) (fun q => absurd q (by decide)) (fun _ => ?_)
        refine pv_iconst (v := 0) C d_M_arrive_85 (by decide) ?_
        exact pv_iret C R0 d_M_arrive_86 (by decide) (by decide) (mP_i (by unfold m_arrive; rw [if_pos h1, if_pos h2, if_neg h3]))
      · refine pv_aload_n C d_M_arrive_47 rfl 0 rfl ?_
        refine pm_get (v := .ref (ad 6)) C G 6 (by decide) fl_M_20 rfl rfl d_M_arrive_48 ?_
        refine pv_iload_n C d_M_arrive_51 rfl 1 rfl ?_
        refine pm_ald C G 6 (by decide) rfl (j := (ix a)) hA.1 (show (ix a) < 17 by omega) d_M_arrive_52 ?_
        refine pv_top (y := (z 6 (ix a))) (zs_k _ _ (by decide)) ?_
        refine pv_aload_n C d_M_arrive_53 rfl 0 rfl ?_
        refine pm_get (v := .ref (ad 5)) C G 5 (by decide) fl_M_17 rfl rfl d_M_arrive_54 ?_
        refine pv_iload_n C d_M_arrive_57 rfl 1 rfl ?_
        refine pm_ald C G 5 (by decide) rfl (j := (ix a)) hA.1 (show (ix a) < 17 by omega) d_M_arrive_58 ?_
        refine pv_top (y := (z 5 (ix a))) (zs_k _ _ (by decide)) ?_
        refine pv_icmp_lt (tgt := 70) C d_M_arrive_59 (by decide) (fun h4 => ?_) (fun h4 => ?_)
        · refine pv_iconst (v := 3) C d_M_arrive_70 (by decide) ?_
          refine pv_goto (tgt := 75) C d_M_arrive_71 (by decide) ?_
          refine pm_put C G 0 (by decide) fl_M_83 rfl rfl rfl (by decide) rfl d_M_arrive_75 ?_
          refine pv_aload_n C d_M_arrive_78 rfl 0 rfl ?_
          refine pm_get (v := .int 3) C G 0 (by decide) fl_M_83 rfl rfl d_M_arrive_79 ?_
          refine pv_if_le (tgt := 87) C d_M_arrive_82 (by decide) (fun q => absurd q (by decide)) (fun _ => ?_)
          refine pv_iconst (v := 0) C d_M_arrive_85 (by decide) ?_
          exact pv_iret C R0 d_M_arrive_86 (by decide) (by decide) (mP_i (by unfold m_arrive; rw [if_pos h1, if_pos h2, if_pos h3, if_pos h4]))
        · refine pv_aload_n C d_M_arrive_62 rfl 0 rfl ?_
          refine pv_iload_n C d_M_arrive_63 rfl 2 rfl ?_
          refine pv_callV (n := 1) (As := [.int d]) (rest := [.ref mo]) C (c_M_isTaken hl0 G (zs z 0 0 0) d hz.1) cd_M_isTaken ml_M_101 in_M im_M_isTaken se_M_isTaken G.1 mm_obj rfl rfl (by decide +kernel) (by decide) rfl (Nat.le_of_ble_eq_true rfl) rfl d_M_arrive_64 (by decide) hN R0 (fun _ h => h.elim) (fun v9 LP9 f9 h9 => ?_)
          obtain ⟨rfl, rfl, rfl⟩ := h9
          refine pv_st (st2 := [.int (bN (lAny (tkP (z 8) (z 7) d) (zA z))), .ref mo]) (c2 := 0) (s2 := 0) rfl rfl rfl ?_
          refine pv_ifb_eq (tgt := 74) C d_M_arrive_67 (by decide) (fun h5 => ?_) (fun h5 => ?_)
          · refine pv_iconst (v := 0) C d_M_arrive_74 (by decide) ?_
            refine pm_put C G 0 (by decide) fl_M_83 rfl rfl rfl (by decide) rfl d_M_arrive_75 ?_
            refine pv_aload_n C d_M_arrive_78 rfl 0 rfl ?_
            refine pm_get (v := .int 0) C G 0 (by decide) fl_M_83 rfl rfl d_M_arrive_79 ?_
            refine pv_if_le (tgt := 87) C d_M_arrive_82 (by decide) (fun _ => ?_) (fun q => absurd q (by decide))
            refine pv_aload_n C d_M_arrive_87 rfl 0 rfl ?_
            refine pm_get (v := .ref (ad 8)) C G 8 (by decide) fl_M_26 rfl rfl d_M_arrive_88 ?_
            refine pv_iload_n C d_M_arrive_91 rfl 1 rfl ?_
            refine pv_iload_n C d_M_arrive_92 rfl 2 rfl ?_
            refine pm_ast C G 8 (by decide) rfl (j := (ix a)) hA.1 (show (ix a) < 17 by omega) d_M_arrive_93 ?_
            refine pv_aload_n C d_M_arrive_94 rfl 0 rfl ?_
            refine pm_get (v := .ref (ad 7)) C G 7 (by decide) fl_M_23 rfl rfl d_M_arrive_95 ?_
            refine pv_iload_n C d_M_arrive_98 rfl 1 rfl ?_
            refine pv_iload_n C d_M_arrive_99 rfl 3 rfl ?_
            refine pv_ifb_eq (tgt := 107) C d_M_arrive_100 (by decide) (fun h6 => ?_) (fun h6 => ?_)
            · refine pv_iconst (v := 2) C d_M_arrive_107 (by decide) ?_
              refine pm_ast C G 7 (by decide) rfl (j := (ix a)) hA.1 (show (ix a) < 17 by omega) d_M_arrive_108 ?_
              refine pv_aload_n C d_M_arrive_109 rfl 0 rfl ?_
              refine pm_get (v := .ref (ad 7)) C G 7 (by decide) fl_M_23 rfl rfl d_M_arrive_110 ?_
              refine pv_iload_n C d_M_arrive_113 rfl 1 rfl ?_
              refine pm_ald C G 7 (by decide) rfl (j := (ix a)) hA.1 (show (ix a) < 17 by omega) d_M_arrive_114 ?_
              refine pv_top (y := 2) (zs_eq _ _ _ _) ?_
              exact pv_iret C R0 d_M_arrive_115 (by decide) (by decide) (mP_i (by unfold m_arrive; rw [if_pos h1, if_pos h2, if_pos h3, if_neg h4, if_neg (nT h5), if_neg (nT h6)]))
            · refine pv_iconst (v := 1) C d_M_arrive_103 (by decide) ?_
              refine pv_goto (tgt := 108) C d_M_arrive_104 (by decide) ?_
              refine pm_ast C G 7 (by decide) rfl (j := (ix a)) hA.1 (show (ix a) < 17 by omega) d_M_arrive_108 ?_
              refine pv_aload_n C d_M_arrive_109 rfl 0 rfl ?_
              refine pm_get (v := .ref (ad 7)) C G 7 (by decide) fl_M_23 rfl rfl d_M_arrive_110 ?_
              refine pv_iload_n C d_M_arrive_113 rfl 1 rfl ?_
              refine pm_ald C G 7 (by decide) rfl (j := (ix a)) hA.1 (show (ix a) < 17 by omega) d_M_arrive_114 ?_
              refine pv_top (y := 1) (zs_eq _ _ _ _) ?_
              exact pv_iret C R0 d_M_arrive_115 (by decide) (by decide) (mP_i (by unfold m_arrive; rw [if_pos h1, if_pos h2, if_pos h3, if_neg h4, if_neg (nT h5), if_pos h6]))
          · refine pv_iconst (v := 3) C d_M_arrive_70 (by decide) ?_
            refine pv_goto (tgt := 75) C d_M_arrive_71 (by decide) ?_
            refine pm_put C G 0 (by decide) fl_M_83 rfl rfl rfl (by decide) rfl d_M_arrive_75 ?_
            refine pv_aload_n C d_M_arrive_78 rfl 0 rfl ?_
            refine pm_get (v := .int 3) C G 0 (by decide) fl_M_83 rfl rfl d_M_arrive_79 ?_
            refine pv_if_le (tgt := 87) C d_M_arrive_82 (by decide) (fun q => absurd q (by decide)) (fun _ => ?_)
            refine pv_iconst (v := 0) C d_M_arrive_85 (by decide) ?_
            exact pv_iret C R0 d_M_arrive_86 (by decide) (by decide) (mP_i (by unfold m_arrive; rw [if_pos h1, if_pos h2, if_pos h3, if_neg h4, if_pos h5]))
    · refine pv_iconst (v := 2) C d_M_arrive_22 (by decide) ?_
      refine pv_goto (tgt := 27) C d_M_arrive_23 (by decide) ?_
      refine pm_put C G 0 (by decide) fl_M_83 rfl rfl rfl (by decide) rfl d_M_arrive_27 ?_
      refine pv_aload_n C d_M_arrive_30 rfl 0 rfl ?_
      refine pm_get (v := .int 2) C G 0 (by decide) fl_M_83 rfl rfl d_M_arrive_31 ?_
      refine pv_if_ne (tgt := 78) C d_M_arrive_34 (by decide) (fun _ => ?_) (fun q => absurd q (by decide))
      refine pv_aload_n C d_M_arrive_78 rfl 0 rfl ?_
      refine pm_get (v := .int 2) C G 0 (by decide) fl_M_83 rfl rfl d_M_arrive_79 ?_
      refine pv_if_le (tgt := 87) C d_M_arrive_82 (by decide) (fun q => absurd q (by decide)) (fun _ => ?_)
      refine pv_iconst (v := 0) C d_M_arrive_85 (by decide) ?_
      exact pv_iret C R0 d_M_arrive_86 (by decide) (by decide) (mP_i (by unfold m_arrive; rw [if_pos h1, if_neg (nT h2)]))
  · refine pv_iconst (v := 1) C d_M_arrive_9 (by decide) ?_
    refine pv_goto (tgt := 27) C d_M_arrive_10 (by decide) ?_
    refine pm_put C G 0 (by decide) fl_M_83 rfl rfl rfl (by decide) rfl d_M_arrive_27 ?_
    refine pv_aload_n C d_M_arrive_30 rfl 0 rfl ?_
    refine pm_get (v := .int 1) C G 0 (by decide) fl_M_83 rfl rfl d_M_arrive_31 ?_
    refine pv_if_ne (tgt := 78) C d_M_arrive_34 (by decide) (fun _ => ?_) (fun q => absurd q (by decide))
    refine pv_aload_n C d_M_arrive_78 rfl 0 rfl ?_
    refine pm_get (v := .int 1) C G 0 (by decide) fl_M_83 rfl rfl d_M_arrive_79 ?_
    refine pv_if_le (tgt := 87) C d_M_arrive_82 (by decide) (fun q => absurd q (by decide)) (fun _ => ?_)
    refine pv_iconst (v := 0) C d_M_arrive_85 (by decide) ?_
    exact pv_iret C R0 d_M_arrive_86 (by decide) (by decide) (mP_i (by unfold m_arrive; rw [if_neg (nT h1)]))
abbrev rm_M_checked : Room := { frames := 0, cells := 0, slots := 0, locals := 0 }
def m_checked (z : zT) (x : Int32) : Int32 × zT :=
  (((10 * x) + ((10 - (((((((0 + (1 * (x - x / 10 * 10))) + (3 * ((x / 10) - (x / 10) / 10 * 10))) + (1 * (((x / 10) / 10) - ((x / 10) / 10) / 10 * 10))) + (3 * ((((x / 10) / 10) / 10) - (((x / 10) / 10) / 10) / 10 * 10))) + (1 * (((((x / 10) / 10) / 10) / 10) - ((((x / 10) / 10) / 10) / 10) / 10 * 10))) + (3 * ((((((x / 10) / 10) / 10) / 10) / 10) - (((((x / 10) / 10) / 10) / 10) / 10) / 10 * 10))) - ((((((0 + (1 * (x - x / 10 * 10))) + (3 * ((x / 10) - (x / 10) / 10 * 10))) + (1 * (((x / 10) / 10) - ((x / 10) / 10) / 10 * 10))) + (3 * ((((x / 10) / 10) / 10) - (((x / 10) / 10) / 10) / 10 * 10))) + (1 * (((((x / 10) / 10) / 10) / 10) - ((((x / 10) / 10) / 10) / 10) / 10 * 10))) + (3 * ((((((x / 10) / 10) / 10) / 10) / 10) - (((((x / 10) / 10) / 10) / 10) / 10) / 10 * 10))) / 10 * 10)) - (10 - (((((((0 + (1 * (x - x / 10 * 10))) + (3 * ((x / 10) - (x / 10) / 10 * 10))) + (1 * (((x / 10) / 10) - ((x / 10) / 10) / 10 * 10))) + (3 * ((((x / 10) / 10) / 10) - (((x / 10) / 10) / 10) / 10 * 10))) + (1 * (((((x / 10) / 10) / 10) / 10) - ((((x / 10) / 10) / 10) / 10) / 10 * 10))) + (3 * ((((((x / 10) / 10) / 10) / 10) / 10) - (((((x / 10) / 10) / 10) / 10) / 10) / 10 * 10))) - ((((((0 + (1 * (x - x / 10 * 10))) + (3 * ((x / 10) - (x / 10) / 10 * 10))) + (1 * (((x / 10) / 10) - ((x / 10) / 10) / 10 * 10))) + (3 * ((((x / 10) / 10) / 10) - (((x / 10) / 10) / 10) / 10 * 10))) + (1 * (((((x / 10) / 10) / 10) / 10) - ((((x / 10) / 10) / 10) / 10) / 10 * 10))) + (3 * ((((((x / 10) / 10) / 10) / 10) / 10) - (((((x / 10) / 10) / 10) / 10) / 10) / 10 * 10))) / 10 * 10)) / 10 * 10)), z)
set_option maxRecDepth 100000 in
set_option maxHeartbeats 4000000 in
theorem c_M_checked {l0 : Launch} {D : va_G} {γ : Nat → ClassId} (hl0 : l0.stackTraces = false) {LP : List Nat} {f0 : Nat → va_E} {mo : Nat} {ad : Nat → Nat} (G : mm_H mo ad LP) (z : zT) (x : Int32)  : mM l0 D γ y_M_checked (Cond.code y_M_checked b_M_checked 4 (Option.some FieldType.int)) rm_M_checked [.int x] LP f0 mo ad z (some (.int (m_checked z x).1)) (m_checked z x).2 := by
  refine pv_mk hl0 (by decide) (Nat.le_of_ble_eq_true rfl) (fun κ C R0 hN _ => ?_)
  show pv_V D κ 0 0 LP (mm_f γ f0 mo ad z) 0 [(0, .int x)] []
  refine pv_iconst (v := 0) C d_M_checked_0 (by decide) ?_
  refine pv_istore_n (lv' := [(1, .int 0), (0, .int x)]) C d_M_checked_1 rfl (by decide) rfl ?_
  refine pv_iload_n C d_M_checked_2 rfl 1 rfl ?_
  refine pv_istore_n (lv' := [(2, .int x), (1, .int 0), (0, .int x)]) C d_M_checked_3 rfl (by decide) rfl ?_
  refine pv_bipush (v := 6) C d_M_checked_4 (by decide) ?_
  refine pv_istore_n (lv' := [(3, .int 6), (2, .int x), (1, .int 0), (0, .int x)]) C d_M_checked_6 rfl (by decide) rfl ?_
  refine pv_iload_n C d_M_checked_7 rfl 0 rfl ?_
  refine pv_if_le (tgt := 42) C d_M_checked_8 (by decide) (fun q => absurd q (by decide)) (fun _ => ?_)
  refine pv_iload_n C d_M_checked_11 rfl 2 rfl ?_
  refine pv_iload_n C d_M_checked_12 rfl 0 rfl ?_
  refine pv_iconst (v := 2) C d_M_checked_13 (by decide) ?_
  refine pv_irem C d_M_checked_14 (by decide) ?_
  refine pv_top (y := 0) (by decide) ?_
  refine pv_iconst (v := 1) C d_M_checked_15 (by decide) ?_
  refine pv_icmp_ne (tgt := 23) C d_M_checked_16 (by decide) (fun _ => ?_) (fun q => absurd q (by decide))
  refine pv_iconst (v := 1) C d_M_checked_23 (by decide) ?_
  refine pv_iload_n C d_M_checked_24 rfl 1 rfl ?_
  refine pv_bipush (v := 10) C d_M_checked_25 (by decide) ?_
  refine pv_irem C d_M_checked_27 (by decide) ?_
  refine pv_imul C d_M_checked_28 ?_
  refine pv_iadd C d_M_checked_29 ?_
  refine pv_istore_n (lv' := [(1, .int (0 + (1 * (x - x / 10 * 10)))), (3, .int 6), (2, .int x), (0, .int x)]) C d_M_checked_30 rfl (by decide) rfl ?_
  refine pv_iload_n C d_M_checked_31 rfl 2 rfl ?_
  refine pv_bipush (v := 10) C d_M_checked_32 (by decide) ?_
  refine pv_idiv C d_M_checked_34 (by decide) ?_
  refine pv_istore_n (lv' := [(2, .int (x / 10)), (1, .int (0 + (1 * (x - x / 10 * 10)))), (3, .int 6), (0, .int x)]) C d_M_checked_35 rfl (by decide) rfl ?_
  refine pv_iinc (v := 5) (lv' := [(3, .int 5), (2, .int (x / 10)), (1, .int (0 + (1 * (x - x / 10 * 10)))), (0, .int x)]) C d_M_checked_36 2 rfl (by decide) (by decide) rfl ?_
  refine pv_goto (tgt := 7) C d_M_checked_39 (by decide) ?_
  refine pv_iload_n C d_M_checked_7 rfl 0 rfl ?_
  refine pv_if_le (tgt := 42) C d_M_checked_8 (by decide) (fun q => absurd q (by decide)) (fun _ => ?_)
  refine pv_iload_n C d_M_checked_11 rfl 2 rfl ?_
  refine pv_iload_n C d_M_checked_12 rfl 0 rfl ?_
  refine pv_iconst (v := 2) C d_M_checked_13 (by decide) ?_
  refine pv_irem C d_M_checked_14 (by decide) ?_
  refine pv_top (y := 1) (by decide) ?_
  refine pv_iconst (v := 1) C d_M_checked_15 (by decide) ?_
  refine pv_icmp_ne (tgt := 23) C d_M_checked_16 (by decide) (fun q => absurd q (by decide)) (fun _ => ?_)
  refine pv_iconst (v := 3) C d_M_checked_19 (by decide) ?_
  refine pv_goto (tgt := 24) C d_M_checked_20 (by decide) ?_
  refine pv_iload_n C d_M_checked_24 rfl 1 rfl ?_
  refine pv_bipush (v := 10) C d_M_checked_25 (by decide) ?_
  refine pv_irem C d_M_checked_27 (by decide) ?_
  refine pv_imul C d_M_checked_28 ?_
  refine pv_iadd C d_M_checked_29 ?_
  refine pv_istore_n (lv' := [(1, .int ((0 + (1 * (x - x / 10 * 10))) + (3 * ((x / 10) - (x / 10) / 10 * 10)))), (3, .int 5), (2, .int (x / 10)), (0, .int x)]) C d_M_checked_30 rfl (by decide) rfl ?_
  refine pv_iload_n C d_M_checked_31 rfl 2 rfl ?_
  refine pv_bipush (v := 10) C d_M_checked_32 (by decide) ?_
  refine pv_idiv C d_M_checked_34 (by decide) ?_
  refine pv_istore_n (lv' := [(2, .int ((x / 10) / 10)), (1, .int ((0 + (1 * (x - x / 10 * 10))) + (3 * ((x / 10) - (x / 10) / 10 * 10)))), (3, .int 5), (0, .int x)]) C d_M_checked_35 rfl (by decide) rfl ?_
  refine pv_iinc (v := 4) (lv' := [(3, .int 4), (2, .int ((x / 10) / 10)), (1, .int ((0 + (1 * (x - x / 10 * 10))) + (3 * ((x / 10) - (x / 10) / 10 * 10)))), (0, .int x)]) C d_M_checked_36 2 rfl (by decide) (by decide) rfl ?_
  refine pv_goto (tgt := 7) C d_M_checked_39 (by decide) ?_
  refine pv_iload_n C d_M_checked_7 rfl 0 rfl ?_
  refine pv_if_le (tgt := 42) C d_M_checked_8 (by decide) (fun q => absurd q (by decide)) (fun _ => ?_)
  refine pv_iload_n C d_M_checked_11 rfl 2 rfl ?_
  refine pv_iload_n C d_M_checked_12 rfl 0 rfl ?_
  refine pv_iconst (v := 2) C d_M_checked_13 (by decide) ?_
  refine pv_irem C d_M_checked_14 (by decide) ?_
  refine pv_top (y := 0) (by decide) ?_
  refine pv_iconst (v := 1) C d_M_checked_15 (by decide) ?_
  refine pv_icmp_ne (tgt := 23) C d_M_checked_16 (by decide) (fun _ => ?_) (fun q => absurd q (by decide))
  refine pv_iconst (v := 1) C d_M_checked_23 (by decide) ?_
  refine pv_iload_n C d_M_checked_24 rfl 1 rfl ?_
  refine pv_bipush (v := 10) C d_M_checked_25 (by decide) ?_
  refine pv_irem C d_M_checked_27 (by decide) ?_
  refine pv_imul C d_M_checked_28 ?_
  refine pv_iadd C d_M_checked_29 ?_
  refine pv_istore_n (lv' := [(1, .int (((0 + (1 * (x - x / 10 * 10))) + (3 * ((x / 10) - (x / 10) / 10 * 10))) + (1 * (((x / 10) / 10) - ((x / 10) / 10) / 10 * 10)))), (3, .int 4), (2, .int ((x / 10) / 10)), (0, .int x)]) C d_M_checked_30 rfl (by decide) rfl ?_
  refine pv_iload_n C d_M_checked_31 rfl 2 rfl ?_
  refine pv_bipush (v := 10) C d_M_checked_32 (by decide) ?_
  refine pv_idiv C d_M_checked_34 (by decide) ?_
  refine pv_istore_n (lv' := [(2, .int (((x / 10) / 10) / 10)), (1, .int (((0 + (1 * (x - x / 10 * 10))) + (3 * ((x / 10) - (x / 10) / 10 * 10))) + (1 * (((x / 10) / 10) - ((x / 10) / 10) / 10 * 10)))), (3, .int 4), (0, .int x)]) C d_M_checked_35 rfl (by decide) rfl ?_
  refine pv_iinc (v := 3) (lv' := [(3, .int 3), (2, .int (((x / 10) / 10) / 10)), (1, .int (((0 + (1 * (x - x / 10 * 10))) + (3 * ((x / 10) - (x / 10) / 10 * 10))) + (1 * (((x / 10) / 10) - ((x / 10) / 10) / 10 * 10)))), (0, .int x)]) C d_M_checked_36 2 rfl (by decide) (by decide) rfl ?_
  refine pv_goto (tgt := 7) C d_M_checked_39 (by decide) ?_
  refine pv_iload_n C d_M_checked_7 rfl 0 rfl ?_
  refine pv_if_le (tgt := 42) C d_M_checked_8 (by decide) (fun q => absurd q (by decide)) (fun _ => ?_)
  refine pv_iload_n C d_M_checked_11 rfl 2 rfl ?_
  refine pv_iload_n C d_M_checked_12 rfl 0 rfl ?_
  refine pv_iconst (v := 2) C d_M_checked_13 (by decide) ?_
  refine pv_irem C d_M_checked_14 (by decide) ?_
  refine pv_top (y := 1) (by decide) ?_
  refine pv_iconst (v := 1) C d_M_checked_15 (by decide) ?_
  refine pv_icmp_ne (tgt := 23) C d_M_checked_16 (by decide) (fun q => absurd q (by decide)) (fun _ => ?_)
  refine pv_iconst (v := 3) C d_M_checked_19 (by decide) ?_
  refine pv_goto (tgt := 24) C d_M_checked_20 (by decide) ?_
  refine pv_iload_n C d_M_checked_24 rfl 1 rfl ?_
  refine pv_bipush (v := 10) C d_M_checked_25 (by decide) ?_
  refine pv_irem C d_M_checked_27 (by decide) ?_
  refine pv_imul C d_M_checked_28 ?_
  refine pv_iadd C d_M_checked_29 ?_
  refine pv_istore_n (lv' := [(1, .int ((((0 + (1 * (x - x / 10 * 10))) + (3 * ((x / 10) - (x / 10) / 10 * 10))) + (1 * (((x / 10) / 10) - ((x / 10) / 10) / 10 * 10))) + (3 * ((((x / 10) / 10) / 10) - (((x / 10) / 10) / 10) / 10 * 10)))), (3, .int 3), (2, .int (((x / 10) / 10) / 10)), (0, .int x)]) C d_M_checked_30 rfl (by decide) rfl ?_
  refine pv_iload_n C d_M_checked_31 rfl 2 rfl ?_
  refine pv_bipush (v := 10) C d_M_checked_32 (by decide) ?_
  refine pv_idiv C d_M_checked_34 (by decide) ?_
  refine pv_istore_n (lv' := [(2, .int ((((x / 10) / 10) / 10) / 10)), (1, .int ((((0 + (1 * (x - x / 10 * 10))) + (3 * ((x / 10) - (x / 10) / 10 * 10))) + (1 * (((x / 10) / 10) - ((x / 10) / 10) / 10 * 10))) + (3 * ((((x / 10) / 10) / 10) - (((x / 10) / 10) / 10) / 10 * 10)))), (3, .int 3), (0, .int x)]) C d_M_checked_35 rfl (by decide) rfl ?_
  refine pv_iinc (v := 2) (lv' := [(3, .int 2), (2, .int ((((x / 10) / 10) / 10) / 10)), (1, .int ((((0 + (1 * (x - x / 10 * 10))) + (3 * ((x / 10) - (x / 10) / 10 * 10))) + (1 * (((x / 10) / 10) - ((x / 10) / 10) / 10 * 10))) + (3 * ((((x / 10) / 10) / 10) - (((x / 10) / 10) / 10) / 10 * 10)))), (0, .int x)]) C d_M_checked_36 2 rfl (by decide) (by decide) rfl ?_
  refine pv_goto (tgt := 7) C d_M_checked_39 (by decide) ?_
  refine pv_iload_n C d_M_checked_7 rfl 0 rfl ?_
  refine pv_if_le (tgt := 42) C d_M_checked_8 (by decide) (fun q => absurd q (by decide)) (fun _ => ?_)
  refine pv_iload_n C d_M_checked_11 rfl 2 rfl ?_
  refine pv_iload_n C d_M_checked_12 rfl 0 rfl ?_
  refine pv_iconst (v := 2) C d_M_checked_13 (by decide) ?_
  refine pv_irem C d_M_checked_14 (by decide) ?_
  refine pv_top (y := 0) (by decide) ?_
  refine pv_iconst (v := 1) C d_M_checked_15 (by decide) ?_
  refine pv_icmp_ne (tgt := 23) C d_M_checked_16 (by decide) (fun _ => ?_) (fun q => absurd q (by decide))
  refine pv_iconst (v := 1) C d_M_checked_23 (by decide) ?_
  refine pv_iload_n C d_M_checked_24 rfl 1 rfl ?_
  refine pv_bipush (v := 10) C d_M_checked_25 (by decide) ?_
  refine pv_irem C d_M_checked_27 (by decide) ?_
  refine pv_imul C d_M_checked_28 ?_
  refine pv_iadd C d_M_checked_29 ?_
  refine pv_istore_n (lv' := [(1, .int (((((0 + (1 * (x - x / 10 * 10))) + (3 * ((x / 10) - (x / 10) / 10 * 10))) + (1 * (((x / 10) / 10) - ((x / 10) / 10) / 10 * 10))) + (3 * ((((x / 10) / 10) / 10) - (((x / 10) / 10) / 10) / 10 * 10))) + (1 * (((((x / 10) / 10) / 10) / 10) - ((((x / 10) / 10) / 10) / 10) / 10 * 10)))), (3, .int 2), (2, .int ((((x / 10) / 10) / 10) / 10)), (0, .int x)]) C d_M_checked_30 rfl (by decide) rfl ?_
  refine pv_iload_n C d_M_checked_31 rfl 2 rfl ?_
  refine pv_bipush (v := 10) C d_M_checked_32 (by decide) ?_
  refine pv_idiv C d_M_checked_34 (by decide) ?_
  refine pv_istore_n (lv' := [(2, .int (((((x / 10) / 10) / 10) / 10) / 10)), (1, .int (((((0 + (1 * (x - x / 10 * 10))) + (3 * ((x / 10) - (x / 10) / 10 * 10))) + (1 * (((x / 10) / 10) - ((x / 10) / 10) / 10 * 10))) + (3 * ((((x / 10) / 10) / 10) - (((x / 10) / 10) / 10) / 10 * 10))) + (1 * (((((x / 10) / 10) / 10) / 10) - ((((x / 10) / 10) / 10) / 10) / 10 * 10)))), (3, .int 2), (0, .int x)]) C d_M_checked_35 rfl (by decide) rfl ?_
  refine pv_iinc (v := 1) (lv' := [(3, .int 1), (2, .int (((((x / 10) / 10) / 10) / 10) / 10)), (1, .int (((((0 + (1 * (x - x / 10 * 10))) + (3 * ((x / 10) - (x / 10) / 10 * 10))) + (1 * (((x / 10) / 10) - ((x / 10) / 10) / 10 * 10))) + (3 * ((((x / 10) / 10) / 10) - (((x / 10) / 10) / 10) / 10 * 10))) + (1 * (((((x / 10) / 10) / 10) / 10) - ((((x / 10) / 10) / 10) / 10) / 10 * 10)))), (0, .int x)]) C d_M_checked_36 2 rfl (by decide) (by decide) rfl ?_
  refine pv_goto (tgt := 7) C d_M_checked_39 (by decide) ?_
  refine pv_iload_n C d_M_checked_7 rfl 0 rfl ?_
  refine pv_if_le (tgt := 42) C d_M_checked_8 (by decide) (fun q => absurd q (by decide)) (fun _ => ?_)
  refine pv_iload_n C d_M_checked_11 rfl 2 rfl ?_
  refine pv_iload_n C d_M_checked_12 rfl 0 rfl ?_
  refine pv_iconst (v := 2) C d_M_checked_13 (by decide) ?_
  refine pv_irem C d_M_checked_14 (by decide) ?_
  refine pv_top (y := 1) (by decide) ?_
  refine pv_iconst (v := 1) C d_M_checked_15 (by decide) ?_
  refine pv_icmp_ne (tgt := 23) C d_M_checked_16 (by decide) (fun q => absurd q (by decide)) (fun _ => ?_)
  refine pv_iconst (v := 3) C d_M_checked_19 (by decide) ?_
  refine pv_goto (tgt := 24) C d_M_checked_20 (by decide) ?_
  refine pv_iload_n C d_M_checked_24 rfl 1 rfl ?_
  refine pv_bipush (v := 10) C d_M_checked_25 (by decide) ?_
  refine pv_irem C d_M_checked_27 (by decide) ?_
  refine pv_imul C d_M_checked_28 ?_
  refine pv_iadd C d_M_checked_29 ?_
  refine pv_istore_n (lv' := [(1, .int ((((((0 + (1 * (x - x / 10 * 10))) + (3 * ((x / 10) - (x / 10) / 10 * 10))) + (1 * (((x / 10) / 10) - ((x / 10) / 10) / 10 * 10))) + (3 * ((((x / 10) / 10) / 10) - (((x / 10) / 10) / 10) / 10 * 10))) + (1 * (((((x / 10) / 10) / 10) / 10) - ((((x / 10) / 10) / 10) / 10) / 10 * 10))) + (3 * ((((((x / 10) / 10) / 10) / 10) / 10) - (((((x / 10) / 10) / 10) / 10) / 10) / 10 * 10)))), (3, .int 1), (2, .int (((((x / 10) / 10) / 10) / 10) / 10)), (0, .int x)]) C d_M_checked_30 rfl (by decide) rfl ?_
  refine pv_iload_n C d_M_checked_31 rfl 2 rfl ?_
  refine pv_bipush (v := 10) C d_M_checked_32 (by decide) ?_
  refine pv_idiv C d_M_checked_34 (by decide) ?_
  refine pv_istore_n (lv' := [(2, .int ((((((x / 10) / 10) / 10) / 10) / 10) / 10)), (1, .int ((((((0 + (1 * (x - x / 10 * 10))) + (3 * ((x / 10) - (x / 10) / 10 * 10))) + (1 * (((x / 10) / 10) - ((x / 10) / 10) / 10 * 10))) + (3 * ((((x / 10) / 10) / 10) - (((x / 10) / 10) / 10) / 10 * 10))) + (1 * (((((x / 10) / 10) / 10) / 10) - ((((x / 10) / 10) / 10) / 10) / 10 * 10))) + (3 * ((((((x / 10) / 10) / 10) / 10) / 10) - (((((x / 10) / 10) / 10) / 10) / 10) / 10 * 10)))), (3, .int 1), (0, .int x)]) C d_M_checked_35 rfl (by decide) rfl ?_
  refine pv_iinc (v := 0) (lv' := [(3, .int 0), (2, .int ((((((x / 10) / 10) / 10) / 10) / 10) / 10)), (1, .int ((((((0 + (1 * (x - x / 10 * 10))) + (3 * ((x / 10) - (x / 10) / 10 * 10))) + (1 * (((x / 10) / 10) - ((x / 10) / 10) / 10 * 10))) + (3 * ((((x / 10) / 10) / 10) - (((x / 10) / 10) / 10) / 10 * 10))) + (1 * (((((x / 10) / 10) / 10) / 10) - ((((x / 10) / 10) / 10) / 10) / 10 * 10))) + (3 * ((((((x / 10) / 10) / 10) / 10) / 10) - (((((x / 10) / 10) / 10) / 10) / 10) / 10 * 10)))), (0, .int x)]) C d_M_checked_36 2 rfl (by decide) (by decide) rfl ?_
  refine pv_goto (tgt := 7) C d_M_checked_39 (by decide) ?_
  refine pv_iload_n C d_M_checked_7 rfl 0 rfl ?_
  refine pv_if_le (tgt := 42) C d_M_checked_8 (by decide) (fun _ => ?_) (fun q => absurd q (by decide))
  refine pv_bipush (v := 10) C d_M_checked_42 (by decide) ?_
  refine pv_iload_n C d_M_checked_44 rfl 3 rfl ?_
  refine pv_imul C d_M_checked_45 ?_
  refine pv_bipush (v := 10) C d_M_checked_46 (by decide) ?_
  refine pv_iload_n C d_M_checked_48 rfl 2 rfl ?_
  refine pv_bipush (v := 10) C d_M_checked_49 (by decide) ?_
  refine pv_irem C d_M_checked_51 (by decide) ?_
  refine pv_isub C d_M_checked_52 ?_
  refine pv_bipush (v := 10) C d_M_checked_53 (by decide) ?_
  refine pv_irem C d_M_checked_55 (by decide) ?_
  refine pv_iadd C d_M_checked_56 ?_
  exact pv_iret C R0 d_M_checked_57 (by decide) (by decide) (mP_i (rfl))
def m_chk (x : Int32) : Int32 := (m_checked (fun _ _ => 0) x).1
theorem c_M_chk {l0 : Launch} {D : va_G} {γ : Nat → ClassId} (hl0 : l0.stackTraces = false) {LP : List Nat} {f0 : Nat → va_E} {mo : Nat} {ad : Nat → Nat} (G : mm_H mo ad LP) (z : zT) (x : Int32) : mM l0 D γ y_M_checked (Cond.code y_M_checked b_M_checked 4 (Option.some FieldType.int)) rm_M_checked [.int x] LP f0 mo ad z (some (.int (m_chk x))) z := c_M_checked hl0 G z x
abbrev rm_M_label : Room := { frames := 2, cells := 0, slots := 0, locals := 43 }
def m_label (z : zT) (u : Int32) : Int32 × zT :=
  (if (isU z u) = true then (if (z 25 (ix u)) = 0 then ((m_chk ((100000 * (z 4 (zl z (ix u) / 4))) + ((z 27 0) + 1))), (zs (zs (zs (zs z 0 0 0) 27 0 ((z 27 0) + 1)) 25 (ix u) (m_chk ((100000 * (z 4 (zl z (ix u) / 4))) + ((z 27 0) + 1)))) 26 (ix u) ((z 26 (ix u)) + 1))) else ((z 25 (ix u)), (zs (zs z 0 0 0) 26 (ix u) ((z 26 (ix u)) + 1)))) else (0, (zs z 0 0 1)))
set_option maxRecDepth 100000 in
set_option maxHeartbeats 4000000 in
theorem c_M_label {l0 : Launch} {D : va_G} {γ : Nat → ClassId} (hl0 : l0.stackTraces = false) {LP : List Nat} {f0 : Nat → va_E} {mo : Nat} {ad : Nat → Nat} (G : mm_H mo ad LP) (z : zT) (u : Int32) (hz : zI z) : mM l0 D γ y_M_label (Cond.code y_M_label b_M_label 2 (Option.some FieldType.int)) rm_M_label [.ref mo, .int u] LP f0 mo ad z (some (.int (m_label z u).1)) (m_label z u).2 := by
  refine pv_mk hl0 (by decide) (Nat.le_of_ble_eq_true rfl) (fun κ C R0 hN _ => ?_)
  show pv_V D κ 0 0 LP (mm_f γ f0 mo ad z) 0 [(0, .ref mo), (1, .int u)] []
  refine pv_aload_n C d_M_label_0 rfl 0 rfl ?_
  refine pv_aload_n C d_M_label_1 rfl 0 rfl ?_
  refine pv_iload_n C d_M_label_2 rfl 1 rfl ?_
  refine pv_callV (n := 1) (As := [.int u]) (rest := [.ref mo]) C (c_M_isUnit hl0 G z u) cd_M_isUnit ml_M_115 in_M im_M_isUnit se_M_isUnit G.1 mm_obj rfl rfl (by decide +kernel) (by decide) rfl (Nat.le_of_ble_eq_true rfl) rfl d_M_label_3 (by decide) hN R0 (fun _ h => h.elim) (fun v9 LP9 f9 h9 => ?_)
  obtain ⟨rfl, rfl, rfl⟩ := h9
  refine pv_st (st2 := [.int (bN (isU z u)), .ref mo]) (c2 := 0) (s2 := 0) rfl rfl rfl ?_
  refine pv_ifb_eq (tgt := 13) C d_M_label_6 (by decide) (fun h1 => ?_) (fun h1 => ?_)
  · refine pv_iconst (v := 1) C d_M_label_13 (by decide) ?_
    refine pm_put C G 0 (by decide) fl_M_83 rfl rfl rfl (by decide) rfl d_M_label_14 ?_
    refine pv_aload_n C d_M_label_17 rfl 0 rfl ?_
    refine pm_get (v := .int 1) C G 0 (by decide) fl_M_83 rfl rfl d_M_label_18 ?_
    refine pv_if_le (tgt := 26) C d_M_label_21 (by decide) (fun q => absurd q (by decide)) (fun _ => ?_)
    refine pv_iconst (v := 0) C d_M_label_24 (by decide) ?_
    exact pv_iret C R0 d_M_label_25 (by decide) (by decide) (mP_i (by unfold m_label; rw [if_neg (nT h1)]))
  · have hU := isU_ix hz h1
    have hlu := hz.2.2.2.2.1 (ix u) hU.2.1 hU.2.2.1
    refine pv_iconst (v := 0) C d_M_label_9 (by decide) ?_
    refine pv_goto (tgt := 14) C d_M_label_10 (by decide) ?_
    refine pm_put C G 0 (by decide) fl_M_83 rfl rfl rfl (by decide) rfl d_M_label_14 ?_
    refine pv_aload_n C d_M_label_17 rfl 0 rfl ?_
    refine pm_get (v := .int 0) C G 0 (by decide) fl_M_83 rfl rfl d_M_label_18 ?_
    refine pv_if_le (tgt := 26) C d_M_label_21 (by decide) (fun _ => ?_) (fun q => absurd q (by decide))
    refine pv_aload_n C d_M_label_26 rfl 0 rfl ?_
    refine pm_get (v := .ref (ad 25)) C G 25 (by decide) fl_M_74 rfl rfl d_M_label_27 ?_
    refine pv_iload_n C d_M_label_30 rfl 1 rfl ?_
    refine pm_ald C G 25 (by decide) rfl (j := (ix u)) hU.1 (show (ix u) < 121 by omega) d_M_label_31 ?_
    refine pv_top (y := (z 25 (ix u))) (zs_k _ _ (by decide)) ?_
    refine pv_if_ne (tgt := 75) C d_M_label_32 (by decide) (fun h2 => ?_) (fun h2 => ?_)
    · refine pv_aload_n C d_M_label_75 rfl 0 rfl ?_
      refine pm_get (v := .ref (ad 26)) C G 26 (by decide) fl_M_77 rfl rfl d_M_label_76 ?_
      refine pv_iload_n C d_M_label_79 rfl 1 rfl ?_
      refine pv_dup2 C d_M_label_80 rfl rfl ?_
      refine pm_ald C G 26 (by decide) rfl (j := (ix u)) hU.1 (show (ix u) < 121 by omega) d_M_label_81 ?_
      refine pv_top (y := (z 26 (ix u))) (zs_k _ _ (by decide)) ?_
      refine pv_iconst (v := 1) C d_M_label_82 (by decide) ?_
      refine pv_iadd C d_M_label_83 ?_
      refine pm_ast C G 26 (by decide) rfl (j := (ix u)) hU.1 (show (ix u) < 121 by omega) d_M_label_84 ?_
      refine pv_aload_n C d_M_label_85 rfl 0 rfl ?_
      refine pm_get (v := .ref (ad 25)) C G 25 (by decide) fl_M_74 rfl rfl d_M_label_86 ?_
      refine pv_iload_n C d_M_label_89 rfl 1 rfl ?_
      refine pm_ald C G 25 (by decide) rfl (j := (ix u)) hU.1 (show (ix u) < 121 by omega) d_M_label_90 ?_
      refine pv_top (y := (z 25 (ix u))) ((zs_k _ _ (by decide)).trans (zs_k _ _ (by decide))) ?_
      exact pv_iret C R0 d_M_label_91 (by decide) (by decide) (mP_i (by unfold m_label; rw [if_pos h1, if_neg h2]))
    · refine pv_aload_n C d_M_label_35 rfl 0 rfl ?_
      refine pv_dup C d_M_label_36 rfl ?_
      refine pm_get (v := .int (z 27 0)) C G 27 (by decide) fl_M_127 rfl rfl d_M_label_37 ?_
      refine pv_iconst (v := 1) C d_M_label_40 (by decide) ?_
      refine pv_iadd C d_M_label_41 ?_
      refine pm_put C G 27 (by decide) fl_M_127 rfl rfl rfl (by decide) rfl d_M_label_42 ?_
      refine pv_aload_n C d_M_label_45 rfl 0 rfl ?_
      refine pm_get (v := .ref (ad 25)) C G 25 (by decide) fl_M_74 rfl rfl d_M_label_46 ?_
      refine pv_iload_n C d_M_label_49 rfl 1 rfl ?_
      refine pv_ldc C co_M_130 d_M_label_50 ?_
      refine pv_aload_n C d_M_label_52 rfl 0 rfl ?_
      refine pm_get (v := .ref (ad 4)) C G 4 (by decide) fl_M_13 rfl rfl d_M_label_53 ?_
      refine pv_aload_n C d_M_label_56 rfl 0 rfl ?_
      refine pm_get (v := .ref (ad 19)) C G 19 (by decide) fl_M_56 rfl rfl d_M_label_57 ?_
      refine pv_iload_n C d_M_label_60 rfl 1 rfl ?_
      refine pm_ald C G 19 (by decide) rfl (j := (ix u)) hU.1 (show (ix u) < 121 by omega) d_M_label_61 ?_
      refine pv_top (y := (z 19 (ix u))) ((zs_k _ _ (by decide)).trans (zs_k _ _ (by decide))) ?_
      refine pv_iconst (v := 4) C d_M_label_62 (by decide) ?_
      refine pv_idiv C d_M_label_63 (by decide) ?_
      refine pm_ald C G 4 (by decide) rfl (j := (zl z (ix u) / 4)) (dv_ix hlu.1 (by omega)) (show (zl z (ix u) / 4) < 17 by omega) d_M_label_64 ?_
      refine pv_top (y := (z 4 (zl z (ix u) / 4))) ((zs_k _ _ (by decide)).trans (zs_k _ _ (by decide))) ?_
      refine pv_imul C d_M_label_65 ?_
      refine pv_aload_n C d_M_label_66 rfl 0 rfl ?_
      refine pm_get (v := .int ((z 27 0) + 1)) C G 27 (by decide) fl_M_127 rfl rfl d_M_label_67 ?_
      refine pv_iadd C d_M_label_70 ?_
      refine pv_callS (n := 1) (As := [.int ((100000 * (z 4 (zl z (ix u) / 4))) + ((z 27 0) + 1))]) (rest := [.int u, .ref (ad 25)]) C (c_M_chk hl0 G (zs (zs z 0 0 0) 27 0 ((z 27 0) + 1)) ((100000 * (z 4 (zl z (ix u) / 4))) + ((z 27 0) + 1))) cd_M_checked ml_M_131 in_M sm_M_checked (by decide +kernel) (by decide) rfl (Nat.le_of_ble_eq_true rfl) rfl d_M_label_71 (by decide) hN R0 (fun _ h => h.elim) (fun v9 LP9 f9 h9 => ?_)
      obtain ⟨rfl, rfl, rfl⟩ := h9
      refine pv_st (st2 := [.int (m_chk ((100000 * (z 4 (zl z (ix u) / 4))) + ((z 27 0) + 1))), .int u, .ref (ad 25)]) (c2 := 0) (s2 := 0) rfl rfl rfl ?_
      refine pm_ast C G 25 (by decide) rfl (j := (ix u)) hU.1 (show (ix u) < 121 by omega) d_M_label_74 ?_
      refine pv_aload_n C d_M_label_75 rfl 0 rfl ?_
      refine pm_get (v := .ref (ad 26)) C G 26 (by decide) fl_M_77 rfl rfl d_M_label_76 ?_
      refine pv_iload_n C d_M_label_79 rfl 1 rfl ?_
      refine pv_dup2 C d_M_label_80 rfl rfl ?_
      refine pm_ald C G 26 (by decide) rfl (j := (ix u)) hU.1 (show (ix u) < 121 by omega) d_M_label_81 ?_
      refine pv_top (y := (z 26 (ix u))) ((zs_k _ _ (by decide)).trans ((zs_k _ _ (by decide)).trans (zs_k _ _ (by decide)))) ?_
      refine pv_iconst (v := 1) C d_M_label_82 (by decide) ?_
      refine pv_iadd C d_M_label_83 ?_
      refine pm_ast C G 26 (by decide) rfl (j := (ix u)) hU.1 (show (ix u) < 121 by omega) d_M_label_84 ?_
      refine pv_aload_n C d_M_label_85 rfl 0 rfl ?_
      refine pm_get (v := .ref (ad 25)) C G 25 (by decide) fl_M_74 rfl rfl d_M_label_86 ?_
      refine pv_iload_n C d_M_label_89 rfl 1 rfl ?_
      refine pm_ald C G 25 (by decide) rfl (j := (ix u)) hU.1 (show (ix u) < 121 by omega) d_M_label_90 ?_
      refine pv_top (y := (m_chk ((100000 * (z 4 (zl z (ix u) / 4))) + ((z 27 0) + 1)))) ((zs_k _ _ (by decide)).trans (zs_eq _ _ _ _)) ?_
      exact pv_iret C R0 d_M_label_91 (by decide) (by decide) (mP_i (by unfold m_label; rw [if_pos h1, if_pos h2]))
def hoP (lr us lb : Nat → Int32) (l : Int32) (b : Bool) (u : Nat) : Bool := decide (lr u = l) && (if b = true then decide (us u = 3) else decide (lb u = 0) && !decide (us u = 1))
abbrev rm_M_hasOne : Room := { frames := 0, cells := 0, slots := 0, locals := 0 }
set_option maxRecDepth 100000 in
set_option maxHeartbeats 4000000 in
theorem c_M_hasOne {l0 : Launch} {D : va_G} {γ : Nat → ClassId} (hl0 : l0.stackTraces = false) {LP : List Nat} {f0 : Nat → va_E} {mo : Nat} {ad : Nat → Nat} (G : mm_H mo ad LP) (z : zT) (l : Int32) (b : Bool) (hz : (z 18 0 = nI (zU z) ∧ zU z ≤ 120)) : mM l0 D γ y_M_hasOne (Cond.code y_M_hasOne b_M_hasOne 4 (Option.some FieldType.boolean)) rm_M_hasOne [.ref mo, .int l, .int (bN b)] LP f0 mo ad z (some (.int ((bN (lAny (hoP (z 19) (z 20) (z 25) l b) (zU z)), z)).1)) ((bN (lAny (hoP (z 19) (z 20) (z 25) l b) (zU z)), z)).2 := by
  refine pv_mk hl0 (by decide) (Nat.le_of_ble_eq_true rfl) (fun κ C R0 hN _ => ?_)
  show pv_V D κ 0 0 LP (mm_f γ f0 mo ad z) 0 [(0, .ref mo), (1, .int l), (2, .int (bN b))] []
  have loop : ∀ (n9 : Nat) (i : Nat) (h1 : 1 ≤ i) (h2 : i ≤ zU z + 1) (hn : ∀ a, 1 ≤ a → a < i → hoP (z 19) (z 20) (z 25) l b a = false), zU z + 1 - i < n9 → pv_V D κ 0 0 LP (mm_f γ f0 mo ad z) 2 [(3, .int (nI i)), (0, .ref mo), (1, .int l), (2, .int (bN b))] [] := by
    intro n9
    induction n9 with
    | zero => intro i h1 h2 hn hm; exact absurd hm (Nat.not_lt_zero _)
    | succ n9 ih =>
      intro i h1 h2 hn hm
      have hz1 := hz.2
      refine pv_iload_n C d_M_hasOne_2 rfl 0 rfl ?_
      refine pv_aload_n C d_M_hasOne_3 rfl 1 rfl ?_
      refine pm_get (v := .int (z 18 0)) C G 18 (by decide) fl_M_98 rfl rfl d_M_hasOne_4 ?_
      refine pv_icmp_gt (tgt := 67) C d_M_hasOne_7 (by decide) (fun h101 => ?_) (fun h101 => ?_)
      · refine pv_iconst (v := 0) C d_M_hasOne_67 (by decide) ?_
        exact pv_zret C rfl R0 d_M_hasOne_68 (by decide) (by decide) (mP_i (by rw [lAny_f (fun a q1 q2 => hn a q1 (by rw [hz.1] at h101; have := (nI_ltI (by omega) (by omega)).mp h101; omega))]; rfl))
      · have hle : i ≤ zU z := by rw [hz.1] at h101; exact Nat.not_lt.mp (fun q => h101 (nI_lt q (by omega)))
        refine pv_aload_n C d_M_hasOne_10 rfl 1 rfl ?_
        refine pm_get (v := .ref (ad 19)) C G 19 (by decide) fl_M_56 rfl rfl d_M_hasOne_11 ?_
        refine pv_iload_n C d_M_hasOne_14 rfl 0 rfl ?_
        refine pm_ald C G 19 (by decide) rfl (j := i) rfl (show i < 121 by omega) d_M_hasOne_15 ?_
        refine pv_top (y := (z 19 i)) rfl ?_
        refine pv_iload_n C d_M_hasOne_16 rfl 2 rfl ?_
        refine pv_icmp_eq (tgt := 23) C d_M_hasOne_17 (by decide) (fun h102 => ?_) (fun h102 => ?_)
        · refine pv_iload_n C d_M_hasOne_23 rfl 3 rfl ?_
          refine pv_ifb_eq (tgt := 40) C d_M_hasOne_24 (by decide) (fun h103 => ?_) (fun h103 => ?_)
          · refine pv_aload_n C d_M_hasOne_40 rfl 1 rfl ?_
            refine pm_get (v := .ref (ad 25)) C G 25 (by decide) fl_M_74 rfl rfl d_M_hasOne_41 ?_
            refine pv_iload_n C d_M_hasOne_44 rfl 0 rfl ?_
            refine pm_ald C G 25 (by decide) rfl (j := i) rfl (show i < 121 by omega) d_M_hasOne_45 ?_
            refine pv_top (y := (z 25 i)) rfl ?_
            refine pv_if_ne (tgt := 61) C d_M_hasOne_46 (by decide) (fun h104 => ?_) (fun h104 => ?_)
            · refine pv_iinc (v := ((nI i) + 1)) (lv' := [(3, .int ((nI i) + 1)), (0, .ref mo), (1, .int l), (2, .int (bN b))]) C d_M_hasOne_61 0 rfl rfl (by decide) rfl ?_
              refine pv_goto (tgt := 2) C d_M_hasOne_64 (by decide) ?_
              refine pv_lvs (lv2 := [(3, .int (nI (i + 1))), (0, .ref mo), (1, .int l), (2, .int (bN b))]) [0, 1, 2, 3] (by rw [← nI_next i]; rfl) ?_
              exact ih (i + 1) (by omega) (by omega) (lExt hn (by simp [hoP, h102, h103, h104])) (by omega)
            · refine pv_aload_n C d_M_hasOne_49 rfl 1 rfl ?_
              refine pm_get (v := .ref (ad 20)) C G 20 (by decide) fl_M_59 rfl rfl d_M_hasOne_50 ?_
              refine pv_iload_n C d_M_hasOne_53 rfl 0 rfl ?_
              refine pm_ald C G 20 (by decide) rfl (j := i) rfl (show i < 121 by omega) d_M_hasOne_54 ?_
              refine pv_top (y := (z 20 i)) rfl ?_
              refine pv_iconst (v := 1) C d_M_hasOne_55 (by decide) ?_
              refine pv_icmp_eq (tgt := 61) C d_M_hasOne_56 (by decide) (fun h105 => ?_) (fun h105 => ?_)
              · refine pv_iinc (v := ((nI i) + 1)) (lv' := [(3, .int ((nI i) + 1)), (0, .ref mo), (1, .int l), (2, .int (bN b))]) C d_M_hasOne_61 0 rfl rfl (by decide) rfl ?_
                refine pv_goto (tgt := 2) C d_M_hasOne_64 (by decide) ?_
                refine pv_lvs (lv2 := [(3, .int (nI (i + 1))), (0, .ref mo), (1, .int l), (2, .int (bN b))]) [0, 1, 2, 3] (by rw [← nI_next i]; rfl) ?_
                exact ih (i + 1) (by omega) (by omega) (lExt hn (by simp [hoP, h102, h103, h104, h105])) (by omega)
              · refine pv_iconst (v := 1) C d_M_hasOne_59 (by decide) ?_
                exact pv_zret C rfl R0 d_M_hasOne_60 (by decide) (by decide) (mP_i (by rw [lAny_t h1 hle (by simp [hoP, h102, h103, h104, h105])]; rfl))
          · refine pv_aload_n C d_M_hasOne_27 rfl 1 rfl ?_
            refine pm_get (v := .ref (ad 20)) C G 20 (by decide) fl_M_59 rfl rfl d_M_hasOne_28 ?_
            refine pv_iload_n C d_M_hasOne_31 rfl 0 rfl ?_
            refine pm_ald C G 20 (by decide) rfl (j := i) rfl (show i < 121 by omega) d_M_hasOne_32 ?_
            refine pv_top (y := (z 20 i)) rfl ?_
            refine pv_iconst (v := 3) C d_M_hasOne_33 (by decide) ?_
            refine pv_icmp_ne (tgt := 61) C d_M_hasOne_34 (by decide) (fun h106 => ?_) (fun h106 => ?_)
            · refine pv_iinc (v := ((nI i) + 1)) (lv' := [(3, .int ((nI i) + 1)), (0, .ref mo), (1, .int l), (2, .int (bN b))]) C d_M_hasOne_61 0 rfl rfl (by decide) rfl ?_
              refine pv_goto (tgt := 2) C d_M_hasOne_64 (by decide) ?_
              refine pv_lvs (lv2 := [(3, .int (nI (i + 1))), (0, .ref mo), (1, .int l), (2, .int (bN b))]) [0, 1, 2, 3] (by rw [← nI_next i]; rfl) ?_
              exact ih (i + 1) (by omega) (by omega) (lExt hn (by simp [hoP, h102, h103, h106])) (by omega)
            · refine pv_goto (tgt := 59) C d_M_hasOne_37 (by decide) ?_
              refine pv_iconst (v := 1) C d_M_hasOne_59 (by decide) ?_
              exact pv_zret C rfl R0 d_M_hasOne_60 (by decide) (by decide) (mP_i (by rw [lAny_t h1 hle (by simp [hoP, h102, h103, h106])]; rfl))
        · refine pv_goto (tgt := 61) C d_M_hasOne_20 (by decide) ?_
          refine pv_iinc (v := ((nI i) + 1)) (lv' := [(3, .int ((nI i) + 1)), (0, .ref mo), (1, .int l), (2, .int (bN b))]) C d_M_hasOne_61 0 rfl rfl (by decide) rfl ?_
          refine pv_goto (tgt := 2) C d_M_hasOne_64 (by decide) ?_
          refine pv_lvs (lv2 := [(3, .int (nI (i + 1))), (0, .ref mo), (1, .int l), (2, .int (bN b))]) [0, 1, 2, 3] (by rw [← nI_next i]; rfl) ?_
          exact ih (i + 1) (by omega) (by omega) (lExt hn (by simp [hoP, h102])) (by omega)
  refine pv_iconst (v := 1) C d_M_hasOne_0 (by decide) ?_
  refine pv_istore_n (lv' := [(3, .int 1), (0, .ref mo), (1, .int l), (2, .int (bN b))]) C d_M_hasOne_1 rfl (by decide) rfl ?_
  refine pv_lvs (lv2 := [(3, .int (nI 1)), (0, .ref mo), (1, .int l), (2, .int (bN b))]) [0, 1, 2, 3] rfl ?_
  exact loop (zU z + 2) 1 (by omega) (by omega) (fun a q1 q2 => absurd q1 (by omega)) (by omega)
def dmP (y : zT) (j x : Nat) : Bool := decide (y 19 x = y 19 j) && decide (y 20 x = 1)
abbrev rm_M_damaged : Room := { frames := 2, cells := 0, slots := 0, locals := 43 }
def m_damaged (z : zT) (u : Int32) (k : Int32) : Int32 × zT :=
  (if (isU z u) = true then (if (inB k 1 9) = true then (if (z 20 (ix u)) = 1 then (0, (zs (zs z 0 0 0) 0 0 3)) else (if (z 16 (zl z (ix u))) = 0 then (lCnt (dmP (zs (zs (zs (zs z 0 0 0) 0 0 0) 20 (ix u) 1) 24 (ix u) k) (ix u)) (zU z), (zs (zs (zs (zs z 0 0 0) 0 0 0) 20 (ix u) 1) 24 (ix u) k)) else (0, (zs (zs z 0 0 0) 0 0 3)))) else (0, (zs z 0 0 2))) else (0, (zs z 0 0 1)))
set_option maxRecDepth 100000 in
set_option maxHeartbeats 4000000 in
theorem c_M_damaged {l0 : Launch} {D : va_G} {γ : Nat → ClassId} (hl0 : l0.stackTraces = false) {LP : List Nat} {f0 : Nat → va_E} {mo : Nat} {ad : Nat → Nat} (G : mm_H mo ad LP) (z : zT) (u : Int32) (k : Int32) (hz : zI z) : mM l0 D γ y_M_damaged (Cond.code y_M_damaged b_M_damaged 5 (Option.some FieldType.int)) rm_M_damaged [.ref mo, .int u, .int k] LP f0 mo ad z (some (.int (m_damaged z u k).1)) (m_damaged z u k).2 := by
  refine pv_mk hl0 (by decide) (Nat.le_of_ble_eq_true rfl) (fun κ C R0 hN _ => ?_)
  show pv_V D κ 0 0 LP (mm_f γ f0 mo ad z) 0 [(0, .ref mo), (1, .int u), (2, .int k)] []
  have loop : ∀ (n9 : Nat) (t : Nat) (c : Int32) (h1 : t ≤ zU z) (hc : c = lCnt (dmP (zs (zs (zs (zs z 0 0 0) 0 0 0) 20 (ix u) 1) 24 (ix u) k) (ix u)) t) (hu : u = nI (ix u)) (hu2 : ix u ≤ 120) (hres : m_damaged z u k = (lCnt (dmP (zs (zs (zs (zs z 0 0 0) 0 0 0) 20 (ix u) 1) 24 (ix u) k) (ix u)) (zU z), (zs (zs (zs (zs z 0 0 0) 0 0 0) 20 (ix u) 1) 24 (ix u) k))), zU z - t < n9 → pv_V D κ 0 0 LP (mm_f γ f0 mo ad (zs (zs (zs (zs z 0 0 0) 0 0 0) 20 (ix u) 1) 24 (ix u) k)) 99 [(4, .int (nI (t + 1))), (3, .int c), (0, .ref mo), (1, .int u), (2, .int k)] [] := by
    intro n9
    induction n9 with
    | zero => intro t c h1 hc hu hu2 hres hm; exact absurd hm (Nat.not_lt_zero _)
    | succ n9 ih =>
      intro t c h1 hc hu hu2 hres hm
      have hz1 := hz.2.1.2
      obtain ⟨Y, hY⟩ : ∃ Y, Y = (zs (zs (zs (zs z 0 0 0) 0 0 0) 20 (ix u) 1) 24 (ix u) k) := ⟨_, rfl⟩
      rw [← hY] at hc hres ih ⊢
      have h18 : Y 18 0 = nI (zU z) := by rw [hY]; exact hz.2.1.1
      refine pv_iload C d_M_damaged_99 0 rfl ?_
      refine pv_aload_n C d_M_damaged_101 rfl 2 rfl ?_
      refine pm_get (v := .int (Y 18 0)) C G 18 (by decide) fl_M_98 rfl rfl d_M_damaged_102 ?_
      refine pv_icmp_gt (tgt := 149) C d_M_damaged_105 (by decide) (fun h101 => ?_) (fun h101 => ?_)
      · refine pv_iload_n C d_M_damaged_149 rfl 1 rfl ?_
        exact pv_iret C R0 d_M_damaged_150 (by decide) (by decide) (mP_i (by rw [hres, hc, show t = zU z by rw [h18] at h101; have := (nI_ltI (by omega) (by omega)).mp h101; omega]))
      · have hle : t + 1 ≤ zU z := by rw [h18] at h101; exact Nat.not_lt.mp (fun q => h101 (nI_lt q (by omega)))
        refine pv_iload_n C d_M_damaged_108 rfl 1 rfl ?_
        refine pv_aload_n C d_M_damaged_109 rfl 2 rfl ?_
        refine pm_get (v := .ref (ad 19)) C G 19 (by decide) fl_M_56 rfl rfl d_M_damaged_110 ?_
        refine pv_iload C d_M_damaged_113 0 rfl ?_
        refine pm_ald C G 19 (by decide) rfl (j := (t + 1)) rfl (show (t + 1) < 121 by omega) d_M_damaged_115 ?_
        refine pv_top (y := (Y 19 (t + 1))) rfl ?_
        refine pv_aload_n C d_M_damaged_116 rfl 2 rfl ?_
        refine pm_get (v := .ref (ad 19)) C G 19 (by decide) fl_M_56 rfl rfl d_M_damaged_117 ?_
        refine pv_iload_n C d_M_damaged_120 rfl 3 rfl ?_
        refine pm_ald C G 19 (by decide) rfl (j := (ix u)) hu (show (ix u) < 121 by omega) d_M_damaged_121 ?_
        refine pv_top (y := (Y 19 (ix u))) rfl ?_
        refine pv_icmp_ne (tgt := 140) C d_M_damaged_122 (by decide) (fun h102 => ?_) (fun h102 => ?_)
        · refine pv_iconst (v := 0) C d_M_damaged_140 (by decide) ?_
          refine pv_iadd C d_M_damaged_141 ?_
          refine pv_istore_n (lv' := [(3, .int (c + 0)), (4, .int (nI (t + 1))), (0, .ref mo), (1, .int u), (2, .int k)]) C d_M_damaged_142 rfl (by decide) rfl ?_
          refine pv_iinc (v := ((nI (t + 1)) + 1)) (lv' := [(4, .int ((nI (t + 1)) + 1)), (3, .int (c + 0)), (0, .ref mo), (1, .int u), (2, .int k)]) C d_M_damaged_143 1 rfl rfl (by decide) rfl ?_
          refine pv_goto (tgt := 99) C d_M_damaged_146 (by decide) ?_
          refine pv_lvs (lv2 := [(4, .int (nI (t + 1 + 1))), (3, .int (c + 0)), (0, .ref mo), (1, .int u), (2, .int k)]) [0, 1, 2, 3, 4] (by rw [← nI_next (t + 1)]; rfl) ?_
          exact ih (t + 1) (c + 0) (by omega) (by rw [lCnt, ← hc, show dmP Y (ix u) (t + 1) = false by simp [dmP, h102]]; rfl) hu hu2 hres (by omega)
        · refine pv_aload_n C d_M_damaged_125 rfl 2 rfl ?_
          refine pm_get (v := .ref (ad 20)) C G 20 (by decide) fl_M_59 rfl rfl d_M_damaged_126 ?_
          refine pv_iload C d_M_damaged_129 0 rfl ?_
          refine pm_ald C G 20 (by decide) rfl (j := (t + 1)) rfl (show (t + 1) < 121 by omega) d_M_damaged_131 ?_
          refine pv_top (y := (Y 20 (t + 1))) rfl ?_
          refine pv_iconst (v := 1) C d_M_damaged_132 (by decide) ?_
          refine pv_icmp_ne (tgt := 140) C d_M_damaged_133 (by decide) (fun h103 => ?_) (fun h103 => ?_)
          · refine pv_iconst (v := 0) C d_M_damaged_140 (by decide) ?_
            refine pv_iadd C d_M_damaged_141 ?_
            refine pv_istore_n (lv' := [(3, .int (c + 0)), (4, .int (nI (t + 1))), (0, .ref mo), (1, .int u), (2, .int k)]) C d_M_damaged_142 rfl (by decide) rfl ?_
            refine pv_iinc (v := ((nI (t + 1)) + 1)) (lv' := [(4, .int ((nI (t + 1)) + 1)), (3, .int (c + 0)), (0, .ref mo), (1, .int u), (2, .int k)]) C d_M_damaged_143 1 rfl rfl (by decide) rfl ?_
            refine pv_goto (tgt := 99) C d_M_damaged_146 (by decide) ?_
            refine pv_lvs (lv2 := [(4, .int (nI (t + 1 + 1))), (3, .int (c + 0)), (0, .ref mo), (1, .int u), (2, .int k)]) [0, 1, 2, 3, 4] (by rw [← nI_next (t + 1)]; rfl) ?_
            exact ih (t + 1) (c + 0) (by omega) (by rw [lCnt, ← hc, show dmP Y (ix u) (t + 1) = false by simp [dmP, h102, h103]]; rfl) hu hu2 hres (by omega)
          · refine pv_iconst (v := 1) C d_M_damaged_136 (by decide) ?_
            refine pv_goto (tgt := 141) C d_M_damaged_137 (by decide) ?_
            refine pv_iadd C d_M_damaged_141 ?_
            refine pv_istore_n (lv' := [(3, .int (c + 1)), (4, .int (nI (t + 1))), (0, .ref mo), (1, .int u), (2, .int k)]) C d_M_damaged_142 rfl (by decide) rfl ?_
            refine pv_iinc (v := ((nI (t + 1)) + 1)) (lv' := [(4, .int ((nI (t + 1)) + 1)), (3, .int (c + 1)), (0, .ref mo), (1, .int u), (2, .int k)]) C d_M_damaged_143 1 rfl rfl (by decide) rfl ?_
            refine pv_goto (tgt := 99) C d_M_damaged_146 (by decide) ?_
            refine pv_lvs (lv2 := [(4, .int (nI (t + 1 + 1))), (3, .int (c + 1)), (0, .ref mo), (1, .int u), (2, .int k)]) [0, 1, 2, 3, 4] (by rw [← nI_next (t + 1)]; rfl) ?_
            exact ih (t + 1) (c + 1) (by omega) (by rw [lCnt, ← hc, show dmP Y (ix u) (t + 1) = true by simp [dmP, h102, h103]]; rfl) hu hu2 hres (by omega)
  refine pv_aload_n C d_M_damaged_0 rfl 0 rfl ?_
  refine pv_aload_n C d_M_damaged_1 rfl 0 rfl ?_
  refine pv_iload_n C d_M_damaged_2 rfl 1 rfl ?_
  refine pv_callV (n := 1) (As := [.int u]) (rest := [.ref mo]) C (c_M_isUnit hl0 G z u) cd_M_isUnit ml_M_115 in_M im_M_isUnit se_M_isUnit G.1 mm_obj rfl rfl (by decide +kernel) (by decide) rfl (Nat.le_of_ble_eq_true rfl) rfl d_M_damaged_3 (by decide) hN R0 (fun _ h => h.elim) (fun v9 LP9 f9 h9 => ?_)
  obtain ⟨rfl, rfl, rfl⟩ := h9
  refine pv_st (st2 := [.int (bN (isU z u)), .ref mo]) (c2 := 0) (s2 := 0) rfl rfl rfl ?_
  refine pv_ifb_ne (tgt := 13) C d_M_damaged_6 (by decide) (fun h1 => ?_) (fun h1 => ?_)
  · have hU := isU_ix hz h1
    have hlu := hz.2.2.2.2.1 (ix u) hU.2.1 hU.2.2.1
    refine pv_iload_n C d_M_damaged_13 rfl 2 rfl ?_
    refine pv_iconst (v := 1) C d_M_damaged_14 (by decide) ?_
    refine pv_bipush (v := 9) C d_M_damaged_15 (by decide) ?_
    refine pv_callS (n := 3) (As := [.int k, .int 1, .int 9]) (rest := [.ref mo]) C (c_M_in hl0 G z k 1 9) cd_M_in ml_M_90 in_M sm_M_in (by decide +kernel) (by decide) rfl (Nat.le_of_ble_eq_true rfl) rfl d_M_damaged_17 (by decide) hN R0 (fun _ h => h.elim) (fun v9 LP9 f9 h9 => ?_)
    obtain ⟨rfl, rfl, rfl⟩ := h9
    refine pv_st (st2 := [.int (bN (inB k 1 9)), .ref mo]) (c2 := 0) (s2 := 0) rfl rfl rfl ?_
    refine pv_ifb_ne (tgt := 27) C d_M_damaged_20 (by decide) (fun h2 => ?_) (fun h2 => ?_)
    · refine pv_iconst (v := 0) C d_M_damaged_27 (by decide) ?_
      refine pm_put C G 0 (by decide) fl_M_83 rfl rfl rfl (by decide) rfl d_M_damaged_28 ?_
      refine pv_aload_n C d_M_damaged_31 rfl 0 rfl ?_
      refine pm_get (v := .int 0) C G 0 (by decide) fl_M_83 rfl rfl d_M_damaged_32 ?_
      refine pv_if_ne (tgt := 71) C d_M_damaged_35 (by decide) (fun q => absurd q (by decide)) (fun _ => ?_)
      refine pv_aload_n C d_M_damaged_38 rfl 0 rfl ?_
      refine pv_aload_n C d_M_damaged_39 rfl 0 rfl ?_
      refine pm_get (v := .ref (ad 20)) C G 20 (by decide) fl_M_59 rfl rfl d_M_damaged_40 ?_
      refine pv_iload_n C d_M_damaged_43 rfl 1 rfl ?_
      refine pm_ald C G 20 (by decide) rfl (j := (ix u)) hU.1 (show (ix u) < 121 by omega) d_M_damaged_44 ?_
      refine pv_top (y := (z 20 (ix u))) (zs_k _ _ (by decide)) ?_
      refine pv_iconst (v := 1) C d_M_damaged_45 (by decide) ?_
      refine pv_icmp_eq (tgt := 63) C d_M_damaged_46 (by decide) (fun h3 => ?_) (fun h3 => ?_)
      · refine pv_iconst (v := 3) C d_M_damaged_63 (by decide) ?_
        refine pv_goto (tgt := 68) C d_M_damaged_64 (by decide) ?_
        refine pm_put C G 0 (by decide) fl_M_83 rfl rfl rfl (by decide) rfl d_M_damaged_68 ?_
        refine pv_aload_n C d_M_damaged_71 rfl 0 rfl ?_
        refine pm_get (v := .int 3) C G 0 (by decide) fl_M_83 rfl rfl d_M_damaged_72 ?_
        refine pv_if_le (tgt := 80) C d_M_damaged_75 (by decide) (fun q => absurd q (by decide)) (fun _ => ?_)
        refine pv_iconst (v := 0) C d_M_damaged_78 (by decide) ?_
        exact pv_iret C R0 d_M_damaged_79 (by decide) (by decide) (mP_i (by unfold m_damaged; rw [if_pos h1, if_pos h2, if_pos h3]))
      · refine pv_aload_n C d_M_damaged_49 rfl 0 rfl ?_
        refine pm_get (v := .ref (ad 16)) C G 16 (by decide) fl_M_50 rfl rfl d_M_damaged_50 ?_
        refine pv_aload_n C d_M_damaged_53 rfl 0 rfl ?_
        refine pm_get (v := .ref (ad 19)) C G 19 (by decide) fl_M_56 rfl rfl d_M_damaged_54 ?_
        refine pv_iload_n C d_M_damaged_57 rfl 1 rfl ?_
        refine pm_ald C G 19 (by decide) rfl (j := (ix u)) hU.1 (show (ix u) < 121 by omega) d_M_damaged_58 ?_
        refine pv_top (y := (z 19 (ix u))) (zs_k _ _ (by decide)) ?_
        refine pm_zld C G 16 (by decide) rfl (j := (zl z (ix u))) hlu.1 (show (zl z (ix u)) < 68 by omega) d_M_damaged_59 ?_
        refine pv_top (y := (z 16 (zl z (ix u)))) (zs_k _ _ (by decide)) ?_
        refine pv_if_eq (tgt := 67) C d_M_damaged_60 (by decide) (fun h4 => ?_) (fun h4 => ?_)
        · refine pv_iconst (v := 0) C d_M_damaged_67 (by decide) ?_
          refine pm_put C G 0 (by decide) fl_M_83 rfl rfl rfl (by decide) rfl d_M_damaged_68 ?_
          refine pv_aload_n C d_M_damaged_71 rfl 0 rfl ?_
          refine pm_get (v := .int 0) C G 0 (by decide) fl_M_83 rfl rfl d_M_damaged_72 ?_
          refine pv_if_le (tgt := 80) C d_M_damaged_75 (by decide) (fun _ => ?_) (fun q => absurd q (by decide))
          refine pv_aload_n C d_M_damaged_80 rfl 0 rfl ?_
          refine pm_get (v := .ref (ad 20)) C G 20 (by decide) fl_M_59 rfl rfl d_M_damaged_81 ?_
          refine pv_iload_n C d_M_damaged_84 rfl 1 rfl ?_
          refine pv_iconst (v := 1) C d_M_damaged_85 (by decide) ?_
          refine pm_ast C G 20 (by decide) rfl (j := (ix u)) hU.1 (show (ix u) < 121 by omega) d_M_damaged_86 ?_
          refine pv_aload_n C d_M_damaged_87 rfl 0 rfl ?_
          refine pm_get (v := .ref (ad 24)) C G 24 (by decide) fl_M_71 rfl rfl d_M_damaged_88 ?_
          refine pv_iload_n C d_M_damaged_91 rfl 1 rfl ?_
          refine pv_iload_n C d_M_damaged_92 rfl 2 rfl ?_
          refine pm_ast C G 24 (by decide) rfl (j := (ix u)) hU.1 (show (ix u) < 121 by omega) d_M_damaged_93 ?_
          refine pv_iconst (v := 0) C d_M_damaged_94 (by decide) ?_
          refine pv_istore_n (lv' := [(3, .int 0), (0, .ref mo), (1, .int u), (2, .int k)]) C d_M_damaged_95 rfl (by decide) rfl ?_
          refine pv_iconst (v := 1) C d_M_damaged_96 (by decide) ?_
          refine pv_istore (lv' := [(4, .int 1), (3, .int 0), (0, .ref mo), (1, .int u), (2, .int k)]) C d_M_damaged_97 (by decide) rfl ?_
          refine pv_lvs (lv2 := [(4, .int (nI (0 + 1))), (3, .int 0), (0, .ref mo), (1, .int u), (2, .int k)]) [0, 1, 2, 3, 4] rfl ?_
          exact loop (zU z + 1) 0 0 (by omega) rfl hU.1 hU.2.2.2 (by unfold m_damaged; rw [if_pos h1, if_pos h2, if_neg h3, if_pos h4]) (by omega)
        · refine pv_iconst (v := 3) C d_M_damaged_63 (by decide) ?_
          refine pv_goto (tgt := 68) C d_M_damaged_64 (by decide) ?_
          refine pm_put C G 0 (by decide) fl_M_83 rfl rfl rfl (by decide) rfl d_M_damaged_68 ?_
          refine pv_aload_n C d_M_damaged_71 rfl 0 rfl ?_
          refine pm_get (v := .int 3) C G 0 (by decide) fl_M_83 rfl rfl d_M_damaged_72 ?_
          refine pv_if_le (tgt := 80) C d_M_damaged_75 (by decide) (fun q => absurd q (by decide)) (fun _ => ?_)
          refine pv_iconst (v := 0) C d_M_damaged_78 (by decide) ?_
          exact pv_iret C R0 d_M_damaged_79 (by decide) (by decide) (mP_i (by unfold m_damaged; rw [if_pos h1, if_pos h2, if_neg h3, if_neg h4]))
    · refine pv_iconst (v := 2) C d_M_damaged_23 (by decide) ?_
      refine pv_goto (tgt := 28) C d_M_damaged_24 (by decide) ?_
      refine pm_put C G 0 (by decide) fl_M_83 rfl rfl rfl (by decide) rfl d_M_damaged_28 ?_
      refine pv_aload_n C d_M_damaged_31 rfl 0 rfl ?_
      refine pm_get (v := .int 2) C G 0 (by decide) fl_M_83 rfl rfl d_M_damaged_32 ?_
      refine pv_if_ne (tgt := 71) C d_M_damaged_35 (by decide) (fun _ => ?_) (fun q => absurd q (by decide))
      refine pv_aload_n C d_M_damaged_71 rfl 0 rfl ?_
      refine pm_get (v := .int 2) C G 0 (by decide) fl_M_83 rfl rfl d_M_damaged_72 ?_
      refine pv_if_le (tgt := 80) C d_M_damaged_75 (by decide) (fun q => absurd q (by decide)) (fun _ => ?_)
      refine pv_iconst (v := 0) C d_M_damaged_78 (by decide) ?_
      exact pv_iret C R0 d_M_damaged_79 (by decide) (by decide) (mP_i (by unfold m_damaged; rw [if_pos h1, if_neg (nT h2)]))
  · refine pv_iconst (v := 1) C d_M_damaged_9 (by decide) ?_
    refine pv_goto (tgt := 28) C d_M_damaged_10 (by decide) ?_
    refine pm_put C G 0 (by decide) fl_M_83 rfl rfl rfl (by decide) rfl d_M_damaged_28 ?_
    refine pv_aload_n C d_M_damaged_31 rfl 0 rfl ?_
    refine pm_get (v := .int 1) C G 0 (by decide) fl_M_83 rfl rfl d_M_damaged_32 ?_
    refine pv_if_ne (tgt := 71) C d_M_damaged_35 (by decide) (fun _ => ?_) (fun q => absurd q (by decide))
    refine pv_aload_n C d_M_damaged_71 rfl 0 rfl ?_
    refine pm_get (v := .int 1) C G 0 (by decide) fl_M_83 rfl rfl d_M_damaged_72 ?_
    refine pv_if_le (tgt := 80) C d_M_damaged_75 (by decide) (fun q => absurd q (by decide)) (fun _ => ?_)
    refine pv_iconst (v := 0) C d_M_damaged_78 (by decide) ?_
    exact pv_iret C R0 d_M_damaged_79 (by decide) (by decide) (mP_i (by unfold m_damaged; rw [if_neg (nT h1)]))
def m_ca (z : zT) (a : Int32) : Nat → Nat → Int32 × zT
  | 0, _ => (1, zs (zs (zs z 0 0 0) 0 0 0) 7 (ix a) 3)
  | n + 1, t => if z 16 (4 * ix a + t) = 0 then (-1 - nI t, zs (zs z 0 0 0) 0 0 0) else m_ca z a n (t + 1)
abbrev rm_M_closeAll : Room := { frames := 2, cells := 0, slots := 0, locals := 43 }
def m_closeAll (z : zT) (a : Int32) : Int32 × zT :=
  (if (isA z a) = true then (if (z 7 (ix a)) = 1 then (m_ca z a (zt z (ix a)) 0) else (0, (zs (zs z 0 0 0) 0 0 2))) else (0, (zs z 0 0 1)))
set_option maxRecDepth 100000 in
set_option maxHeartbeats 4000000 in
theorem c_M_closeAll {l0 : Launch} {D : va_G} {γ : Nat → ClassId} (hl0 : l0.stackTraces = false) {LP : List Nat} {f0 : Nat → va_E} {mo : Nat} {ad : Nat → Nat} (G : mm_H mo ad LP) (z : zT) (a : Int32) (hz : zI z) : mM l0 D γ y_M_closeAll (Cond.code y_M_closeAll b_M_closeAll 3 (Option.some FieldType.int)) rm_M_closeAll [.ref mo, .int a] LP f0 mo ad z (some (.int (m_closeAll z a).1)) (m_closeAll z a).2 := by
  refine pv_mk hl0 (by decide) (Nat.le_of_ble_eq_true rfl) (fun κ C R0 hN _ => ?_)
  show pv_V D κ 0 0 LP (mm_f γ f0 mo ad z) 0 [(0, .ref mo), (1, .int a)] []
  have loop : ∀ (n9 : Nat) (t : Nat) (h1 : t ≤ zt z (ix a)) (hA : a = nI (ix a) ∧ 1 ≤ ix a ∧ ix a ≤ zA z ∧ ix a ≤ 16) (hres : m_closeAll z a = m_ca z a (zt z (ix a) - t) t), zt z (ix a) - t < n9 → pv_V D κ 0 0 LP (mm_f γ f0 mo ad (zs (zs z 0 0 0) 0 0 0)) 54 [(2, .int (nI t)), (0, .ref mo), (1, .int a)] [] := by
    intro n9
    induction n9 with
    | zero => intro t h1 hA hres hm; exact absurd hm (Nat.not_lt_zero _)
    | succ n9 ih =>
      intro t h1 hA hres hm
      have ht := hz.2.2.2.1 (ix a) hA.2.2.2
      refine pv_iload_n C d_M_closeAll_54 rfl 0 rfl ?_
      refine pv_aload_n C d_M_closeAll_55 rfl 1 rfl ?_
      refine pm_get (v := .ref (ad 6)) C G 6 (by decide) fl_M_20 rfl rfl d_M_closeAll_56 ?_
      refine pv_iload_n C d_M_closeAll_59 rfl 2 rfl ?_
      refine pm_ald C G 6 (by decide) rfl (j := (ix a)) hA.1 (show (ix a) < 17 by omega) d_M_closeAll_60 ?_
      refine pv_top (y := (z 6 (ix a))) ((zs_k _ _ (by decide)).trans (zs_k _ _ (by decide))) ?_
      refine pv_icmp_ge (tgt := 87) C d_M_closeAll_61 (by decide) (fun h101 => ?_) (fun h101 => ?_)
      · have hlt : zt z (ix a) - t = 0 := by rw [ht.1] at h101; have := (nI_leI (by omega) (by omega)).mp h101; omega
        refine pv_aload_n C d_M_closeAll_87 rfl 1 rfl ?_
        refine pm_get (v := .ref (ad 7)) C G 7 (by decide) fl_M_23 rfl rfl d_M_closeAll_88 ?_
        refine pv_iload_n C d_M_closeAll_91 rfl 2 rfl ?_
        refine pv_iconst (v := 3) C d_M_closeAll_92 (by decide) ?_
        refine pm_ast C G 7 (by decide) rfl (j := (ix a)) hA.1 (show (ix a) < 17 by omega) d_M_closeAll_93 ?_
        refine pv_iconst (v := 1) C d_M_closeAll_94 (by decide) ?_
        exact pv_iret C R0 d_M_closeAll_95 (by decide) (by decide) (mP_i (by rw [hres, hlt]; rfl))
      · have hlt : t < zt z (ix a) := by rw [ht.1] at h101; exact Nat.not_le.mp (fun q => h101 (nI_le q (by omega)))
        have hf : zt z (ix a) - t = (zt z (ix a) - (t + 1)) + 1 := by omega
        refine pv_aload_n C d_M_closeAll_64 rfl 1 rfl ?_
        refine pm_get (v := .ref (ad 16)) C G 16 (by decide) fl_M_50 rfl rfl d_M_closeAll_65 ?_
        refine pv_iconst (v := 4) C d_M_closeAll_68 (by decide) ?_
        refine pv_iload_n C d_M_closeAll_69 rfl 2 rfl ?_
        refine pv_imul C d_M_closeAll_70 ?_
        refine pv_iload_n C d_M_closeAll_71 rfl 0 rfl ?_
        refine pv_iadd C d_M_closeAll_72 ?_
        refine pm_zld C G 16 (by decide) rfl (j := (4 * ix a + t)) (ln_ix hA.1 rfl) (show (4 * ix a + t) < 68 by omega) d_M_closeAll_73 ?_
        refine pv_top (y := (z 16 (4 * ix a + t))) ((zs_k _ _ (by decide)).trans (zs_k _ _ (by decide))) ?_
        refine pv_if_ne (tgt := 81) C d_M_closeAll_74 (by decide) (fun h102 => ?_) (fun h102 => ?_)
        · refine pv_iinc (v := ((nI t) + 1)) (lv' := [(2, .int ((nI t) + 1)), (0, .ref mo), (1, .int a)]) C d_M_closeAll_81 0 rfl rfl (by decide) rfl ?_
          refine pv_goto (tgt := 54) C d_M_closeAll_84 (by decide) ?_
          refine pv_lvs (lv2 := [(2, .int (nI (t + 1))), (0, .ref mo), (1, .int a)]) [0, 1, 2] (by rw [← nI_next t]; rfl) ?_
          exact ih (t + 1) (by omega) hA (by rw [hres, hf, m_ca, if_neg h102]) (by omega)
        · refine pv_iconst (v := (-1)) C d_M_closeAll_77 (by decide) ?_
          refine pv_iload_n C d_M_closeAll_78 rfl 0 rfl ?_
          refine pv_isub C d_M_closeAll_79 ?_
          exact pv_iret C R0 d_M_closeAll_80 (by decide) (by decide) (mP_i (by rw [hres, hf, m_ca, if_pos h102]))
  refine pv_aload_n C d_M_closeAll_0 rfl 0 rfl ?_
  refine pv_aload_n C d_M_closeAll_1 rfl 0 rfl ?_
  refine pv_iload_n C d_M_closeAll_2 rfl 1 rfl ?_
  refine pv_callV (n := 1) (As := [.int a]) (rest := [.ref mo]) C (c_M_isAnnouncement hl0 G z a) cd_M_isAnnouncement ml_M_94 in_M im_M_isAnnouncement se_M_isAnnouncement G.1 mm_obj rfl rfl (by decide +kernel) (by decide) rfl (Nat.le_of_ble_eq_true rfl) rfl d_M_closeAll_3 (by decide) hN R0 (fun _ h => h.elim) (fun v9 LP9 f9 h9 => ?_)
  obtain ⟨rfl, rfl, rfl⟩ := h9
  refine pv_st (st2 := [.int (bN (isA z a)), .ref mo]) (c2 := 0) (s2 := 0) rfl rfl rfl ?_
  refine pv_ifb_ne (tgt := 13) C d_M_closeAll_6 (by decide) (fun h1 => ?_) (fun h1 => ?_)
  · have hA := isA_ix hz h1
    refine pv_iconst (v := 0) C d_M_closeAll_13 (by decide) ?_
    refine pm_put C G 0 (by decide) fl_M_83 rfl rfl rfl (by decide) rfl d_M_closeAll_14 ?_
    refine pv_aload_n C d_M_closeAll_17 rfl 0 rfl ?_
    refine pm_get (v := .int 0) C G 0 (by decide) fl_M_83 rfl rfl d_M_closeAll_18 ?_
    refine pv_if_ne (tgt := 43) C d_M_closeAll_21 (by decide) (fun q => absurd q (by decide)) (fun _ => ?_)
    refine pv_aload_n C d_M_closeAll_24 rfl 0 rfl ?_
    refine pv_aload_n C d_M_closeAll_25 rfl 0 rfl ?_
    refine pm_get (v := .ref (ad 7)) C G 7 (by decide) fl_M_23 rfl rfl d_M_closeAll_26 ?_
    refine pv_iload_n C d_M_closeAll_29 rfl 1 rfl ?_
    refine pm_ald C G 7 (by decide) rfl (j := (ix a)) hA.1 (show (ix a) < 17 by omega) d_M_closeAll_30 ?_
    refine pv_top (y := (z 7 (ix a))) (zs_k _ _ (by decide)) ?_
    refine pv_iconst (v := 1) C d_M_closeAll_31 (by decide) ?_
    refine pv_icmp_eq (tgt := 39) C d_M_closeAll_32 (by decide) (fun h2 => ?_) (fun h2 => ?_)
    · refine pv_iconst (v := 0) C d_M_closeAll_39 (by decide) ?_
      refine pm_put C G 0 (by decide) fl_M_83 rfl rfl rfl (by decide) rfl d_M_closeAll_40 ?_
      refine pv_aload_n C d_M_closeAll_43 rfl 0 rfl ?_
      refine pm_get (v := .int 0) C G 0 (by decide) fl_M_83 rfl rfl d_M_closeAll_44 ?_
      refine pv_if_le (tgt := 52) C d_M_closeAll_47 (by decide) (fun _ => ?_) (fun q => absurd q (by decide))
      refine pv_iconst (v := 0) C d_M_closeAll_52 (by decide) ?_
      refine pv_istore_n (lv' := [(2, .int 0), (0, .ref mo), (1, .int a)]) C d_M_closeAll_53 rfl (by decide) rfl ?_
      refine pv_lvs (lv2 := [(2, .int (nI 0)), (0, .ref mo), (1, .int a)]) [0, 1, 2] rfl ?_
      exact loop (zt z (ix a) + 1) 0 (by omega) hA (by unfold m_closeAll; rw [if_pos h1, if_pos h2]; rfl) (by omega)
    · refine pv_iconst (v := 2) C d_M_closeAll_35 (by decide) ?_
      refine pv_goto (tgt := 40) C d_M_closeAll_36 (by decide) ?_
      refine pm_put C G 0 (by decide) fl_M_83 rfl rfl rfl (by decide) rfl d_M_closeAll_40 ?_
      refine pv_aload_n C d_M_closeAll_43 rfl 0 rfl ?_
      refine pm_get (v := .int 2) C G 0 (by decide) fl_M_83 rfl rfl d_M_closeAll_44 ?_
      refine pv_if_le (tgt := 52) C d_M_closeAll_47 (by decide) (fun q => absurd q (by decide)) (fun _ => ?_)
      refine pv_iconst (v := 0) C d_M_closeAll_50 (by decide) ?_
      exact pv_iret C R0 d_M_closeAll_51 (by decide) (by decide) (mP_i (by unfold m_closeAll; rw [if_pos h1, if_neg h2]))
  · refine pv_iconst (v := 1) C d_M_closeAll_9 (by decide) ?_
    refine pv_goto (tgt := 14) C d_M_closeAll_10 (by decide) ?_
    refine pm_put C G 0 (by decide) fl_M_83 rfl rfl rfl (by decide) rfl d_M_closeAll_14 ?_
    refine pv_aload_n C d_M_closeAll_17 rfl 0 rfl ?_
    refine pm_get (v := .int 1) C G 0 (by decide) fl_M_83 rfl rfl d_M_closeAll_18 ?_
    refine pv_if_ne (tgt := 43) C d_M_closeAll_21 (by decide) (fun _ => ?_) (fun q => absurd q (by decide))
    refine pv_aload_n C d_M_closeAll_43 rfl 0 rfl ?_
    refine pm_get (v := .int 1) C G 0 (by decide) fl_M_83 rfl rfl d_M_closeAll_44 ?_
    refine pv_if_le (tgt := 52) C d_M_closeAll_47 (by decide) (fun q => absurd q (by decide)) (fun _ => ?_)
    refine pv_iconst (v := 0) C d_M_closeAll_50 (by decide) ?_
    exact pv_iret C R0 d_M_closeAll_51 (by decide) (by decide) (mP_i (by unfold m_closeAll; rw [if_neg (nT h1)]))
def m_cl (z : zT) (a : Int32) : Nat → Nat → Int32 → Int32
  | 0, _, _ => -1
  | n + 1, t, c => if z 19 (t + 1) / 4 = a then (if z 20 (t + 1) = 1 then (if c = 0 then nI (t + 1) else m_cl z a n (t + 1) (c + (-1))) else m_cl z a n (t + 1) c) else m_cl z a n (t + 1) c
abbrev rm_M_claim : Room := { frames := 2, cells := 0, slots := 0, locals := 43 }
def m_claim (z : zT) (a : Int32) (i : Int32) : Int32 × zT :=
  (if (isA z a) = true then (if 0 ≤ i then (m_cl z a (zU z) 0 i, zs z 0 0 0) else (0, (zs z 0 0 2))) else (0, (zs z 0 0 1)))
set_option maxRecDepth 100000 in
set_option maxHeartbeats 4000000 in
theorem c_M_claim {l0 : Launch} {D : va_G} {γ : Nat → ClassId} (hl0 : l0.stackTraces = false) {LP : List Nat} {f0 : Nat → va_E} {mo : Nat} {ad : Nat → Nat} (G : mm_H mo ad LP) (z : zT) (a : Int32) (i : Int32) (hz : zI z) : mM l0 D γ y_M_claim (Cond.code y_M_claim b_M_claim 5 (Option.some FieldType.int)) rm_M_claim [.ref mo, .int a, .int i] LP f0 mo ad z (some (.int (m_claim z a i).1)) (m_claim z a i).2 := by
  refine pv_mk hl0 (by decide) (Nat.le_of_ble_eq_true rfl) (fun κ C R0 hN _ => ?_)
  show pv_V D κ 0 0 LP (mm_f γ f0 mo ad z) 0 [(0, .ref mo), (1, .int a), (2, .int i)] []
  have loop : ∀ (n9 : Nat) (t : Nat) (c : Int32) (h1 : t ≤ zU z) (hres : m_claim z a i = (m_cl z a (zU z - t) t c, zs z 0 0 0)), zU z - t < n9 → pv_V D κ 0 0 LP (mm_f γ f0 mo ad (zs z 0 0 0)) 39 [(4, .int (nI (t + 1))), (3, .int c), (0, .ref mo), (1, .int a), (2, .int i)] [] := by
    intro n9
    induction n9 with
    | zero => intro t c h1 hres hm; exact absurd hm (Nat.not_lt_zero _)
    | succ n9 ih =>
      intro t c h1 hres hm
      have hz1 := hz.2.1.2
      refine pv_iload C d_M_claim_39 0 rfl ?_
      refine pv_aload_n C d_M_claim_41 rfl 2 rfl ?_
      refine pm_get (v := .int (z 18 0)) C G 18 (by decide) fl_M_98 rfl rfl d_M_claim_42 ?_
      refine pv_icmp_gt (tgt := 91) C d_M_claim_45 (by decide) (fun h101 => ?_) (fun h101 => ?_)
      · refine pv_iconst (v := (-1)) C d_M_claim_91 (by decide) ?_
        exact pv_iret C R0 d_M_claim_92 (by decide) (by decide) (mP_i (by rw [hres, show zU z - t = 0 by rw [hz.2.1.1] at h101; have := (nI_ltI (by omega) (by omega)).mp h101; omega]; rfl))
      · have hle : t + 1 ≤ zU z := by rw [hz.2.1.1] at h101; exact Nat.not_lt.mp (fun q => h101 (nI_lt q (by omega)))
        have hf : zU z - t = (zU z - (t + 1)) + 1 := by omega
        refine pv_aload_n C d_M_claim_48 rfl 2 rfl ?_
        refine pm_get (v := .ref (ad 19)) C G 19 (by decide) fl_M_56 rfl rfl d_M_claim_49 ?_
        refine pv_iload C d_M_claim_52 0 rfl ?_
        refine pm_ald C G 19 (by decide) rfl (j := (t + 1)) rfl (show (t + 1) < 121 by omega) d_M_claim_54 ?_
        refine pv_top (y := (z 19 (t + 1))) (zs_k _ _ (by decide)) ?_
        refine pv_iconst (v := 4) C d_M_claim_55 (by decide) ?_
        refine pv_idiv C d_M_claim_56 (by decide) ?_
        refine pv_iload_n C d_M_claim_57 rfl 3 rfl ?_
        refine pv_icmp_ne (tgt := 85) C d_M_claim_58 (by decide) (fun h102 => ?_) (fun h102 => ?_)
        · refine pv_iinc (v := ((nI (t + 1)) + 1)) (lv' := [(4, .int ((nI (t + 1)) + 1)), (3, .int c), (0, .ref mo), (1, .int a), (2, .int i)]) C d_M_claim_85 0 rfl rfl (by decide) rfl ?_
          refine pv_goto (tgt := 39) C d_M_claim_88 (by decide) ?_
          refine pv_lvs (lv2 := [(4, .int (nI (t + 1 + 1))), (3, .int c), (0, .ref mo), (1, .int a), (2, .int i)]) [0, 1, 2, 3, 4] (by rw [← nI_next (t + 1)]; rfl) ?_
          exact ih (t + 1) c (by omega) (by rw [hres, hf, m_cl, if_neg h102]) (by omega)
        · refine pv_aload_n C d_M_claim_61 rfl 2 rfl ?_
          refine pm_get (v := .ref (ad 20)) C G 20 (by decide) fl_M_59 rfl rfl d_M_claim_62 ?_
          refine pv_iload C d_M_claim_65 0 rfl ?_
          refine pm_ald C G 20 (by decide) rfl (j := (t + 1)) rfl (show (t + 1) < 121 by omega) d_M_claim_67 ?_
          refine pv_top (y := (z 20 (t + 1))) (zs_k _ _ (by decide)) ?_
          refine pv_iconst (v := 1) C d_M_claim_68 (by decide) ?_
          refine pv_icmp_eq (tgt := 75) C d_M_claim_69 (by decide) (fun h103 => ?_) (fun h103 => ?_)
          · refine pv_iload_n C d_M_claim_75 rfl 1 rfl ?_
            refine pv_if_ne (tgt := 82) C d_M_claim_76 (by decide) (fun h104 => ?_) (fun h104 => ?_)
            · refine pv_iinc (v := (c + (-1))) (lv' := [(3, .int (c + (-1))), (4, .int (nI (t + 1))), (0, .ref mo), (1, .int a), (2, .int i)]) C d_M_claim_82 1 rfl rfl (by decide) rfl ?_
              refine pv_iinc (v := ((nI (t + 1)) + 1)) (lv' := [(4, .int ((nI (t + 1)) + 1)), (3, .int (c + (-1))), (0, .ref mo), (1, .int a), (2, .int i)]) C d_M_claim_85 1 rfl rfl (by decide) rfl ?_
              refine pv_goto (tgt := 39) C d_M_claim_88 (by decide) ?_
              refine pv_lvs (lv2 := [(4, .int (nI (t + 1 + 1))), (3, .int (c + (-1))), (0, .ref mo), (1, .int a), (2, .int i)]) [0, 1, 2, 3, 4] (by rw [← nI_next (t + 1)]; rfl) ?_
              exact ih (t + 1) (c + (-1)) (by omega) (by rw [hres, hf, m_cl, if_pos h102, if_pos h103, if_neg h104]) (by omega)
            · refine pv_iload C d_M_claim_79 0 rfl ?_
              exact pv_iret C R0 d_M_claim_81 (by decide) (by decide) (mP_i (by rw [hres, hf, m_cl, if_pos h102, if_pos h103, if_pos h104]))
          · refine pv_goto (tgt := 85) C d_M_claim_72 (by decide) ?_
            refine pv_iinc (v := ((nI (t + 1)) + 1)) (lv' := [(4, .int ((nI (t + 1)) + 1)), (3, .int c), (0, .ref mo), (1, .int a), (2, .int i)]) C d_M_claim_85 0 rfl rfl (by decide) rfl ?_
            refine pv_goto (tgt := 39) C d_M_claim_88 (by decide) ?_
            refine pv_lvs (lv2 := [(4, .int (nI (t + 1 + 1))), (3, .int c), (0, .ref mo), (1, .int a), (2, .int i)]) [0, 1, 2, 3, 4] (by rw [← nI_next (t + 1)]; rfl) ?_
            exact ih (t + 1) c (by omega) (by rw [hres, hf, m_cl, if_pos h102, if_neg h103]) (by omega)
  refine pv_aload_n C d_M_claim_0 rfl 0 rfl ?_
  refine pv_aload_n C d_M_claim_1 rfl 0 rfl ?_
  refine pv_iload_n C d_M_claim_2 rfl 1 rfl ?_
  refine pv_callV (n := 1) (As := [.int a]) (rest := [.ref mo]) C (c_M_isAnnouncement hl0 G z a) cd_M_isAnnouncement ml_M_94 in_M im_M_isAnnouncement se_M_isAnnouncement G.1 mm_obj rfl rfl (by decide +kernel) (by decide) rfl (Nat.le_of_ble_eq_true rfl) rfl d_M_claim_3 (by decide) hN R0 (fun _ h => h.elim) (fun v9 LP9 f9 h9 => ?_)
  obtain ⟨rfl, rfl, rfl⟩ := h9
  refine pv_st (st2 := [.int (bN (isA z a)), .ref mo]) (c2 := 0) (s2 := 0) rfl rfl rfl ?_
  refine pv_ifb_ne (tgt := 13) C d_M_claim_6 (by decide) (fun h1 => ?_) (fun h1 => ?_)
  · have hA := isA_ix hz h1
    refine pv_iload_n C d_M_claim_13 rfl 2 rfl ?_
    refine pv_if_ge (tgt := 21) C d_M_claim_14 (by decide) (fun h2 => ?_) (fun h2 => ?_)
    · refine pv_iconst (v := 0) C d_M_claim_21 (by decide) ?_
      refine pm_put C G 0 (by decide) fl_M_83 rfl rfl rfl (by decide) rfl d_M_claim_22 ?_
      refine pv_aload_n C d_M_claim_25 rfl 0 rfl ?_
      refine pm_get (v := .int 0) C G 0 (by decide) fl_M_83 rfl rfl d_M_claim_26 ?_
      refine pv_if_le (tgt := 34) C d_M_claim_29 (by decide) (fun _ => ?_) (fun q => absurd q (by decide))
      refine pv_iload_n C d_M_claim_34 rfl 2 rfl ?_
      refine pv_istore_n (lv' := [(3, .int i), (0, .ref mo), (1, .int a), (2, .int i)]) C d_M_claim_35 rfl (by decide) rfl ?_
      refine pv_iconst (v := 1) C d_M_claim_36 (by decide) ?_
      refine pv_istore (lv' := [(4, .int 1), (3, .int i), (0, .ref mo), (1, .int a), (2, .int i)]) C d_M_claim_37 (by decide) rfl ?_
      refine pv_lvs (lv2 := [(4, .int (nI (0 + 1))), (3, .int i), (0, .ref mo), (1, .int a), (2, .int i)]) [0, 1, 2, 3, 4] rfl ?_
      exact loop (zU z + 1) 0 i (by omega) (by unfold m_claim; rw [if_pos h1, if_pos h2]; rfl) (by omega)
    · refine pv_iconst (v := 2) C d_M_claim_17 (by decide) ?_
      refine pv_goto (tgt := 22) C d_M_claim_18 (by decide) ?_
      refine pm_put C G 0 (by decide) fl_M_83 rfl rfl rfl (by decide) rfl d_M_claim_22 ?_
      refine pv_aload_n C d_M_claim_25 rfl 0 rfl ?_
      refine pm_get (v := .int 2) C G 0 (by decide) fl_M_83 rfl rfl d_M_claim_26 ?_
      refine pv_if_le (tgt := 34) C d_M_claim_29 (by decide) (fun q => absurd q (by decide)) (fun _ => ?_)
      refine pv_iconst (v := 0) C d_M_claim_32 (by decide) ?_
      exact pv_iret C R0 d_M_claim_33 (by decide) (by decide) (mP_i (by unfold m_claim; rw [if_pos h1, if_neg h2]))
  · refine pv_iconst (v := 1) C d_M_claim_9 (by decide) ?_
    refine pv_goto (tgt := 22) C d_M_claim_10 (by decide) ?_
    refine pm_put C G 0 (by decide) fl_M_83 rfl rfl rfl (by decide) rfl d_M_claim_22 ?_
    refine pv_aload_n C d_M_claim_25 rfl 0 rfl ?_
    refine pm_get (v := .int 1) C G 0 (by decide) fl_M_83 rfl rfl d_M_claim_26 ?_
    refine pv_if_le (tgt := 34) C d_M_claim_29 (by decide) (fun q => absurd q (by decide)) (fun _ => ?_)
    refine pv_iconst (v := 0) C d_M_claim_32 (by decide) ?_
    exact pv_iret C R0 d_M_claim_33 (by decide) (by decide) (mP_i (by unfold m_claim; rw [if_neg (nT h1)]))
