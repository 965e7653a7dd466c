/-! contracts of the law's own methods, that catch (by wip/whole/gen/l1.py) -/
abbrev rm_L_announce : Room := { frames := 8, cells := 4, slots := 23, locals := 134 }
abbrev hh_L_announce : List (Nat × Nat × Nat × Nat) := [(0, 10, 13, 13), (0, 10, 17, 15)]
set_option maxRecDepth 100000 in
set_option maxHeartbeats 4000000 in
theorem c_L_announce {l0 : Launch} {D : va_G} {γ : Nat → ClassId} (hl0 : l0.stackTraces = false) {LP : List Nat} {ks : List kT} {ρ : kT → Nat} {z : zT} {x : xT} {f0 : Nat → va_E} (J : cI LP ks ρ z x) {oa : Nat} {ov : Nat → Int64} (hoL : oa ∈ LP) (ho : f0 oa = lo γ ov) (hod : ∀ k ∈ ks, ρ k ≠ oa) (o : Int32) (n : Int32)  : pv_M l0 D (tys_ γ) y_L_announce (Cond.codeWith y_L_announce b_L_announce 5 (Option.some FieldType.int) hh_L_announce) rm_L_announce [.ref (ρ (0, 0)), .int o, .int n, .ref oa] LP (cF γ ks ρ z x f0) (lPost γ LP ks ρ f0 oa (m_announce z o n)) (fun _ => False) := by
  refine pv_mkH hl0 (by decide) (Nat.le_of_ble_eq_true rfl) (fun κ C R0 hT => ?_)
  obtain ⟨H, hV, hz, hJ⟩ := id J
  have M0 : ((0, 0) : kT) ∈ ks := (hV _).mpr (Nat.zero_le _)
  show pv_V D κ 0 0 LP (cF γ ks ρ z x f0) 0 [(0, .ref (ρ (0, 0))), (1, .int o), (2, .int n), (3, .ref oa)] []
  refine pv_aload_n C d_L_announce_0 rfl 3 rfl ?_
  refine pv_iconst (v := 0) C d_L_announce_1 (by decide) ?_
  refine pv_aload_n C d_L_announce_2 rfl 0 rfl ?_
  refine pv_iload_n C d_L_announce_3 rfl 1 rfl ?_
  refine pv_iload_n C d_L_announce_4 rfl 2 rfl ?_
  refine pv_callVH (hh := hh_L_announce) (n := 2) (As := [.int o, .int n]) (rest := [.int 0, .ref oa]) C (c_S_announce hl0 J o n) cd_S_announce ml_L_7 in_S im_S_announce se_S_announce (H.1 _ M0) ((kf_at H M0).trans rfl) rfl rfl (by decide +kernel) (by decide) rfl (Nat.le_of_ble_eq_true rfl) rfl d_L_announce_5 (by decide) hT (fun E q9 hE => ?_) (fun v9 LP9 f9 h9 => ?_)
  · obtain ⟨⟨i9, hi, hc⟩, hzc⟩ := hE
    match i9, hi, hc with
    | 0, hi, hc =>
      cases hi
      refine ⟨[], (0, 10, 13, 13), [(0, 10, 17, 15)], rfl, fun z hz => absurd hz List.not_mem_nil, by decide, by decide, by decide, kl_L_13, by decide, ?_⟩
      refine pv_astore (lv' := [(4, .ref q9), (0, .ref (ρ (0, 0))), (1, .int o), (2, .int n), (3, .ref oa)]) C d_L_announce_13 (by decide) rfl ?_
      refine pv_iconst (v := 1) C d_L_announce_15 (by decide) ?_
      exact pv_iret C R0 d_L_announce_16 (by decide) (by decide) (lP_x J ho (i := 0) hc (by decide) hzc rfl)
    | 1, hi, hc =>
      cases hi
      refine ⟨[(0, 10, 13, 13)], (0, 10, 17, 15), [], rfl, List.forall_mem_cons.mpr ⟨⟨by decide, _, kl_L_13, by decide, by decide⟩, fun z hz => absurd hz List.not_mem_nil⟩, by decide, by decide, by decide, kl_L_15, by decide, ?_⟩
      refine pv_astore (lv' := [(4, .ref q9), (0, .ref (ρ (0, 0))), (1, .int o), (2, .int n), (3, .ref oa)]) C d_L_announce_17 (by decide) rfl ?_
      refine pv_iconst (v := 2) C d_L_announce_19 (by decide) ?_
      exact pv_iret C R0 d_L_announce_20 (by decide) (by decide) (lP_x J ho (i := 1) hc (by decide) hzc rfl)
    | i9 + 2, hi, _ => simp at hi
  · obtain ⟨rfl, h0, ks', ρ', x', rfl, J', hρ, hL, hfr⟩ := h9
    have hod' := fr_ne hoL hod hfr
    refine pv_stf (f2 := cF γ ks' ρ' (m_announce z o n).2 x' f0) (st2 := [.int (m_announce z o n).1, .int 0, .ref oa]) (c2 := 4) (s2 := 23) rfl rfl rfl rfl ?_
    refine pv_i2l C d_L_announce_8 ?_
    refine pv_last C 5 rfl (hL _ hoL) ((kf_not hod').trans ho) (j := 0) rfl (by decide) (by decide) d_L_announce_9 ?_
    refine pk_fz (f2 := cF γ ks' ρ' (m_announce z o n).2 x' (va_up f0 oa (lo γ (vp_updL ov 0 (m_announce z o n).1.toInt64)))) (kf_out hod') ?_
    refine pv_goto (tgt := 21) C d_L_announce_10 (by decide) ?_
    refine pv_iconst (v := 0) C d_L_announce_21 (by decide) ?_
    exact pv_iret C R0 d_L_announce_22 (by decide) (by decide) ⟨by rw [h0], ks', ρ', x', _, rfl, fun _ => rfl, J', hρ, hL, hfr⟩
abbrev rm_L_line : Room := { frames := 8, cells := 5, slots := 35, locals := 136 }
abbrev hh_L_line : List (Nat × Nat × Nat × Nat) := [(0, 12, 15, 21), (0, 12, 19, 13), (0, 12, 23, 23)]
set_option maxRecDepth 100000 in
set_option maxHeartbeats 4000000 in
theorem c_L_line {l0 : Launch} {D : va_G} {γ : Nat → ClassId} (hl0 : l0.stackTraces = false) {LP : List Nat} {ks : List kT} {ρ : kT → Nat} {z : zT} {x : xT} {f0 : Nat → va_E} (J : cI LP ks ρ z x) {oa : Nat} {ov : Nat → Int64} (hoL : oa ∈ LP) (ho : f0 oa = lo γ ov) (hod : ∀ k ∈ ks, ρ k ≠ oa) (a : Int32) (g : Int32) (n : Int32)  : pv_M l0 D (tys_ γ) y_L_line (Cond.codeWith y_L_line b_L_line 6 (Option.some FieldType.int) hh_L_line) rm_L_line [.ref (ρ (0, 0)), .int a, .int g, .int n, .ref oa] LP (cF γ ks ρ z x f0) (lPost γ LP ks ρ f0 oa (m_line z a g n)) (fun _ => False) := by
  refine pv_mkH hl0 (by decide) (Nat.le_of_ble_eq_true rfl) (fun κ C R0 hT => ?_)
  obtain ⟨H, hV, hz, hJ⟩ := id J
  have M0 : ((0, 0) : kT) ∈ ks := (hV _).mpr (Nat.zero_le _)
  show pv_V D κ 0 0 LP (cF γ ks ρ z x f0) 0 [(0, .ref (ρ (0, 0))), (1, .int a), (2, .int g), (3, .int n), (4, .ref oa)] []
  refine pv_aload C d_L_line_0 4 rfl ?_
  refine pv_iconst (v := 0) C d_L_line_2 (by decide) ?_
  refine pv_aload_n C d_L_line_3 rfl 0 rfl ?_
  refine pv_iload_n C d_L_line_4 rfl 1 rfl ?_
  refine pv_iload_n C d_L_line_5 rfl 2 rfl ?_
  refine pv_iload_n C d_L_line_6 rfl 3 rfl ?_
  refine pv_callVH (hh := hh_L_line) (n := 3) (As := [.int a, .int g, .int n]) (rest := [.int 0, .ref oa]) C (c_S_line hl0 J a g n) cd_S_line ml_L_17 in_S im_S_line se_S_line (H.1 _ M0) ((kf_at H M0).trans rfl) rfl rfl (by decide +kernel) (by decide) rfl (Nat.le_of_ble_eq_true rfl) rfl d_L_line_7 (by decide) hT (fun E q9 hE => ?_) (fun v9 LP9 f9 h9 => ?_)
  · obtain ⟨⟨i9, hi, hc⟩, hzc⟩ := hE
    match i9, hi, hc with
    | 0, hi, hc =>
      cases hi
      refine ⟨[], (0, 12, 15, 21), [(0, 12, 19, 13), (0, 12, 23, 23)], rfl, fun z hz => absurd hz List.not_mem_nil, by decide, by decide, by decide, kl_L_21, by decide, ?_⟩
      refine pv_astore (lv' := [(5, .ref q9), (0, .ref (ρ (0, 0))), (1, .int a), (2, .int g), (3, .int n), (4, .ref oa)]) C d_L_line_15 (by decide) rfl ?_
      refine pv_iconst (v := 1) C d_L_line_17 (by decide) ?_
      exact pv_iret C R0 d_L_line_18 (by decide) (by decide) (lP_x J ho (i := 0) hc (by decide) hzc rfl)
    | 1, hi, hc =>
      cases hi
      refine ⟨[(0, 12, 15, 21)], (0, 12, 19, 13), [(0, 12, 23, 23)], rfl, List.forall_mem_cons.mpr ⟨⟨by decide, _, kl_L_21, by decide, by decide⟩, fun z hz => absurd hz List.not_mem_nil⟩, by decide, by decide, by decide, kl_L_13, by decide, ?_⟩
      refine pv_astore (lv' := [(5, .ref q9), (0, .ref (ρ (0, 0))), (1, .int a), (2, .int g), (3, .int n), (4, .ref oa)]) C d_L_line_19 (by decide) rfl ?_
      refine pv_iconst (v := 2) C d_L_line_21 (by decide) ?_
      exact pv_iret C R0 d_L_line_22 (by decide) (by decide) (lP_x J ho (i := 1) hc (by decide) hzc rfl)
    | 2, hi, hc =>
      cases hi
      refine ⟨[(0, 12, 15, 21), (0, 12, 19, 13)], (0, 12, 23, 23), [], rfl, List.forall_mem_cons.mpr ⟨⟨by decide, _, kl_L_21, by decide, by decide⟩, List.forall_mem_cons.mpr ⟨⟨by decide, _, kl_L_13, by decide, by decide⟩, fun z hz => absurd hz List.not_mem_nil⟩⟩, by decide, by decide, by decide, kl_L_23, by decide, ?_⟩
      refine pv_astore (lv' := [(5, .ref q9), (0, .ref (ρ (0, 0))), (1, .int a), (2, .int g), (3, .int n), (4, .ref oa)]) C d_L_line_23 (by decide) rfl ?_
      refine pv_iconst (v := 3) C d_L_line_25 (by decide) ?_
      exact pv_iret C R0 d_L_line_26 (by decide) (by decide) (lP_x J ho (i := 2) hc (by decide) hzc rfl)
    | i9 + 3, hi, _ => simp at hi
  · obtain ⟨rfl, h0, ks', ρ', x', rfl, J', hρ, hL, hfr⟩ := h9
    have hod' := fr_ne hoL hod hfr
    refine pv_stf (f2 := cF γ ks' ρ' (m_line z a g n).2 x' f0) (st2 := [.int (m_line z a g n).1, .int 0, .ref oa]) (c2 := 5) (s2 := 35) rfl rfl rfl rfl ?_
    refine pv_i2l C d_L_line_10 ?_
    refine pv_last C 5 rfl (hL _ hoL) ((kf_not hod').trans ho) (j := 0) rfl (by decide) (by decide) d_L_line_11 ?_
    refine pk_fz (f2 := cF γ ks' ρ' (m_line z a g n).2 x' (va_up f0 oa (lo γ (vp_updL ov 0 (m_line z a g n).1.toInt64)))) (kf_out hod') ?_
    refine pv_goto (tgt := 27) C d_L_line_12 (by decide) ?_
    refine pv_iconst (v := 0) C d_L_line_27 (by decide) ?_
    exact pv_iret C R0 d_L_line_28 (by decide) (by decide) ⟨by rw [h0], ks', ρ', x', _, rfl, fun _ => rfl, J', hρ, hL, hfr⟩
abbrev rm_L_arrive : Room := { frames := 8, cells := 4, slots := 24, locals := 136 }
abbrev hh_L_arrive : List (Nat × Nat × Nat × Nat) := [(0, 12, 15, 21), (0, 12, 19, 13), (0, 12, 23, 23)]
set_option maxRecDepth 100000 in
set_option maxHeartbeats 4000000 in
theorem c_L_arrive {l0 : Launch} {D : va_G} {γ : Nat → ClassId} (hl0 : l0.stackTraces = false) {LP : List Nat} {ks : List kT} {ρ : kT → Nat} {z : zT} {x : xT} {f0 : Nat → va_E} (J : cI LP ks ρ z x) {oa : Nat} {ov : Nat → Int64} (hoL : oa ∈ LP) (ho : f0 oa = lo γ ov) (hod : ∀ k ∈ ks, ρ k ≠ oa) (a : Int32) (d : Int32) (b : Bool)  : pv_M l0 D (tys_ γ) y_L_arrive (Cond.codeWith y_L_arrive b_L_arrive 6 (Option.some FieldType.int) hh_L_arrive) rm_L_arrive [.ref (ρ (0, 0)), .int a, .int d, .int (bN b), .ref oa] LP (cF γ ks ρ z x f0) (lPost γ LP ks ρ f0 oa (m_arrive z a d b)) (fun _ => False) := by
  refine pv_mkH hl0 (by decide) (Nat.le_of_ble_eq_true rfl) (fun κ C R0 hT => ?_)
  obtain ⟨H, hV, hz, hJ⟩ := id J
  have M0 : ((0, 0) : kT) ∈ ks := (hV _).mpr (Nat.zero_le _)
  show pv_V D κ 0 0 LP (cF γ ks ρ z x f0) 0 [(0, .ref (ρ (0, 0))), (1, .int a), (2, .int d), (3, .int (bN b)), (4, .ref oa)] []
  refine pv_aload C d_L_arrive_0 4 rfl ?_
  refine pv_iconst (v := 0) C d_L_arrive_2 (by decide) ?_
  refine pv_aload_n C d_L_arrive_3 rfl 0 rfl ?_
  refine pv_iload_n C d_L_arrive_4 rfl 1 rfl ?_
  refine pv_iload_n C d_L_arrive_5 rfl 2 rfl ?_
  refine pv_iload_n C d_L_arrive_6 rfl 3 rfl ?_
  refine pv_callVH (hh := hh_L_arrive) (n := 3) (As := [.int a, .int d, .int (bN b)]) (rest := [.int 0, .ref oa]) C (c_S_arrive hl0 J a d b) cd_S_arrive ml_L_25 in_S im_S_arrive se_S_arrive (H.1 _ M0) ((kf_at H M0).trans rfl) rfl rfl (by decide +kernel) (by decide) rfl (Nat.le_of_ble_eq_true rfl) rfl d_L_arrive_7 (by decide) hT (fun E q9 hE => ?_) (fun v9 LP9 f9 h9 => ?_)
  · obtain ⟨⟨i9, hi, hc⟩, hzc⟩ := hE
    match i9, hi, hc with
    | 0, hi, hc =>
      cases hi
      refine ⟨[], (0, 12, 15, 21), [(0, 12, 19, 13), (0, 12, 23, 23)], rfl, fun z hz => absurd hz List.not_mem_nil, by decide, by decide, by decide, kl_L_21, by decide, ?_⟩
      refine pv_astore (lv' := [(5, .ref q9), (0, .ref (ρ (0, 0))), (1, .int a), (2, .int d), (3, .int (bN b)), (4, .ref oa)]) C d_L_arrive_15 (by decide) rfl ?_
      refine pv_iconst (v := 1) C d_L_arrive_17 (by decide) ?_
      exact pv_iret C R0 d_L_arrive_18 (by decide) (by decide) (lP_x J ho (i := 0) hc (by decide) hzc rfl)
    | 1, hi, hc =>
      cases hi
      refine ⟨[(0, 12, 15, 21)], (0, 12, 19, 13), [(0, 12, 23, 23)], rfl, List.forall_mem_cons.mpr ⟨⟨by decide, _, kl_L_21, by decide, by decide⟩, fun z hz => absurd hz List.not_mem_nil⟩, by decide, by decide, by decide, kl_L_13, by decide, ?_⟩
      refine pv_astore (lv' := [(5, .ref q9), (0, .ref (ρ (0, 0))), (1, .int a), (2, .int d), (3, .int (bN b)), (4, .ref oa)]) C d_L_arrive_19 (by decide) rfl ?_
      refine pv_iconst (v := 2) C d_L_arrive_21 (by decide) ?_
      exact pv_iret C R0 d_L_arrive_22 (by decide) (by decide) (lP_x J ho (i := 1) hc (by decide) hzc rfl)
    | 2, hi, hc =>
      cases hi
      refine ⟨[(0, 12, 15, 21), (0, 12, 19, 13)], (0, 12, 23, 23), [], rfl, List.forall_mem_cons.mpr ⟨⟨by decide, _, kl_L_21, by decide, by decide⟩, List.forall_mem_cons.mpr ⟨⟨by decide, _, kl_L_13, by decide, by decide⟩, fun z hz => absurd hz List.not_mem_nil⟩⟩, by decide, by decide, by decide, kl_L_23, by decide, ?_⟩
      refine pv_astore (lv' := [(5, .ref q9), (0, .ref (ρ (0, 0))), (1, .int a), (2, .int d), (3, .int (bN b)), (4, .ref oa)]) C d_L_arrive_23 (by decide) rfl ?_
      refine pv_iconst (v := 3) C d_L_arrive_25 (by decide) ?_
      exact pv_iret C R0 d_L_arrive_26 (by decide) (by decide) (lP_x J ho (i := 2) hc (by decide) hzc rfl)
    | i9 + 3, hi, _ => simp at hi
  · obtain ⟨rfl, h0, ks', ρ', x', rfl, J', hρ, hL, hfr⟩ := h9
    have hod' := fr_ne hoL hod hfr
    refine pv_stf (f2 := cF γ ks' ρ' (m_arrive z a d b).2 x' f0) (st2 := [.int (m_arrive z a d b).1, .int 0, .ref oa]) (c2 := 4) (s2 := 24) rfl rfl rfl rfl ?_
    refine pv_i2l C d_L_arrive_10 ?_
    refine pv_last C 5 rfl (hL _ hoL) ((kf_not hod').trans ho) (j := 0) rfl (by decide) (by decide) d_L_arrive_11 ?_
    refine pk_fz (f2 := cF γ ks' ρ' (m_arrive z a d b).2 x' (va_up f0 oa (lo γ (vp_updL ov 0 (m_arrive z a d b).1.toInt64)))) (kf_out hod') ?_
    refine pv_goto (tgt := 27) C d_L_arrive_12 (by decide) ?_
    refine pv_iconst (v := 0) C d_L_arrive_27 (by decide) ?_
    exact pv_iret C R0 d_L_arrive_28 (by decide) (by decide) ⟨by rw [h0], ks', ρ', x', _, rfl, fun _ => rfl, J', hρ, hL, hfr⟩
abbrev rm_L_accept : Room := { frames := 8, cells := 3, slots := 18, locals := 135 }
abbrev hh_L_accept : List (Nat × Nat × Nat × Nat) := [(0, 6, 9, 21), (0, 6, 12, 13), (0, 6, 15, 23)]
set_option maxRecDepth 100000 in
set_option maxHeartbeats 4000000 in
theorem c_L_accept {l0 : Launch} {D : va_G} {γ : Nat → ClassId} (hl0 : l0.stackTraces = false) {LP : List Nat} {ks : List kT} {ρ : kT → Nat} {z : zT} {x : xT} {f0 : Nat → va_E} (J : cI LP ks ρ z x) (a : Int32) (p : Int32)  : pv_M l0 D (tys_ γ) y_L_accept (Cond.codeWith y_L_accept b_L_accept 4 (Option.some FieldType.int) hh_L_accept) rm_L_accept [.ref (ρ (0, 0)), .int a, .int p] LP (cF γ ks ρ z x f0) (lPostV γ LP ks ρ f0 (m_accept z a p)) (fun _ => False) := by
  refine pv_mkH hl0 (by decide) (Nat.le_of_ble_eq_true rfl) (fun κ C R0 hT => ?_)
  obtain ⟨H, hV, hz, hJ⟩ := id J
  have M0 : ((0, 0) : kT) ∈ ks := (hV _).mpr (Nat.zero_le _)
  show pv_V D κ 0 0 LP (cF γ ks ρ z x f0) 0 [(0, .ref (ρ (0, 0))), (1, .int a), (2, .int p)] []
  refine pv_aload_n C d_L_accept_0 rfl 0 rfl ?_
  refine pv_iload_n C d_L_accept_1 rfl 1 rfl ?_
  refine pv_iload_n C d_L_accept_2 rfl 2 rfl ?_
  refine pv_callVH (hh := hh_L_accept) (n := 2) (As := [.int a, .int p]) (rest := []) C (c_S_accept hl0 J a p) cd_S_accept ml_L_29 in_S im_S_accept se_S_accept (H.1 _ M0) ((kf_at H M0).trans rfl) rfl rfl (by decide +kernel) (by decide) rfl (Nat.le_of_ble_eq_true rfl) rfl d_L_accept_3 (by decide) hT (fun E q9 hE => ?_) (fun v9 LP9 f9 h9 => ?_)
  · obtain ⟨⟨i9, hi, hc⟩, hzc⟩ := hE
    match i9, hi, hc with
    | 0, hi, hc =>
      cases hi
      refine ⟨[], (0, 6, 9, 21), [(0, 6, 12, 13), (0, 6, 15, 23)], rfl, fun z hz => absurd hz List.not_mem_nil, by decide, by decide, by decide, kl_L_21, by decide, ?_⟩
      refine pv_astore_n (lv' := [(3, .ref q9), (0, .ref (ρ (0, 0))), (1, .int a), (2, .int p)]) C d_L_accept_9 rfl (by decide) rfl ?_
      refine pv_iconst (v := 1) C d_L_accept_10 (by decide) ?_
      exact pv_iret C R0 d_L_accept_11 (by decide) (by decide) (lP_xv J (i := 0) hc hzc rfl)
    | 1, hi, hc =>
      cases hi
      refine ⟨[(0, 6, 9, 21)], (0, 6, 12, 13), [(0, 6, 15, 23)], rfl, List.forall_mem_cons.mpr ⟨⟨by decide, _, kl_L_21, by decide, by decide⟩, fun z hz => absurd hz List.not_mem_nil⟩, by decide, by decide, by decide, kl_L_13, by decide, ?_⟩
      refine pv_astore_n (lv' := [(3, .ref q9), (0, .ref (ρ (0, 0))), (1, .int a), (2, .int p)]) C d_L_accept_12 rfl (by decide) rfl ?_
      refine pv_iconst (v := 2) C d_L_accept_13 (by decide) ?_
      exact pv_iret C R0 d_L_accept_14 (by decide) (by decide) (lP_xv J (i := 1) hc hzc rfl)
    | 2, hi, hc =>
      cases hi
      refine ⟨[(0, 6, 9, 21), (0, 6, 12, 13)], (0, 6, 15, 23), [], rfl, List.forall_mem_cons.mpr ⟨⟨by decide, _, kl_L_21, by decide, by decide⟩, List.forall_mem_cons.mpr ⟨⟨by decide, _, kl_L_13, by decide, by decide⟩, fun z hz => absurd hz List.not_mem_nil⟩⟩, by decide, by decide, by decide, kl_L_23, by decide, ?_⟩
      refine pv_astore_n (lv' := [(3, .ref q9), (0, .ref (ρ (0, 0))), (1, .int a), (2, .int p)]) C d_L_accept_15 rfl (by decide) rfl ?_
      refine pv_iconst (v := 3) C d_L_accept_16 (by decide) ?_
      exact pv_iret C R0 d_L_accept_17 (by decide) (by decide) (lP_xv J (i := 2) hc hzc rfl)
    | i9 + 3, hi, _ => simp at hi
  · obtain ⟨rfl, h0, ks', ρ', x', rfl, J', hρ, hL, hfr⟩ := h9
    refine pv_stf (f2 := cF γ ks' ρ' (m_accept z a p) x' f0) (st2 := []) (c2 := 3) (s2 := 18) rfl rfl rfl rfl ?_
    refine pv_goto (tgt := 18) C d_L_accept_6 (by decide) ?_
    refine pv_iconst (v := 0) C d_L_accept_18 (by decide) ?_
    exact pv_iret C R0 d_L_accept_19 (by decide) (by decide) ⟨by rw [h0], ks', ρ', x', rfl, J', hρ, hL, hfr⟩
abbrev rm_L_right : Room := { frames := 8, cells := 1, slots := 6, locals := 134 }
abbrev hh_L_right : List (Nat × Nat × Nat × Nat) := [(0, 6, 9, 13)]
set_option maxRecDepth 100000 in
set_option maxHeartbeats 4000000 in
theorem c_L_right {l0 : Launch} {D : va_G} {γ : Nat → ClassId} (hl0 : l0.stackTraces = false) {LP : List Nat} {ks : List kT} {ρ : kT → Nat} {z : zT} {x : xT} {f0 : Nat → va_E} (J : cI LP ks ρ z x) (p : Int32) (b : Bool)  : pv_M l0 D (tys_ γ) y_L_right (Cond.codeWith y_L_right b_L_right 4 (Option.some FieldType.int) hh_L_right) rm_L_right [.ref (ρ (0, 0)), .int p, .int (bN b)] LP (cF γ ks ρ z x f0) (lPostV γ LP ks ρ f0 (m_right z p b)) (fun _ => False) := by
  refine pv_mkH hl0 (by decide) (Nat.le_of_ble_eq_true rfl) (fun κ C R0 hT => ?_)
  obtain ⟨H, hV, hz, hJ⟩ := id J
  have M0 : ((0, 0) : kT) ∈ ks := (hV _).mpr (Nat.zero_le _)
  show pv_V D κ 0 0 LP (cF γ ks ρ z x f0) 0 [(0, .ref (ρ (0, 0))), (1, .int p), (2, .int (bN b))] []
  refine pv_aload_n C d_L_right_0 rfl 0 rfl ?_
  refine pv_iload_n C d_L_right_1 rfl 1 rfl ?_
  refine pv_iload_n C d_L_right_2 rfl 2 rfl ?_
  refine pv_callVH (hh := hh_L_right) (n := 2) (As := [.int p, .int (bN b)]) (rest := []) C (c_S_right hl0 J p b) cd_S_right ml_L_33 in_S im_S_right se_S_right (H.1 _ M0) ((kf_at H M0).trans rfl) rfl rfl (by decide +kernel) (by decide) rfl (Nat.le_of_ble_eq_true rfl) rfl d_L_right_3 (by decide) hT (fun E q9 hE => ?_) (fun v9 LP9 f9 h9 => ?_)
  · obtain ⟨⟨i9, hi, hc⟩, hzc⟩ := hE
    match i9, hi, hc with
    | 0, hi, hc =>
      cases hi
      refine ⟨[], (0, 6, 9, 13), [], rfl, fun z hz => absurd hz List.not_mem_nil, by decide, by decide, by decide, kl_L_13, by decide, ?_⟩
      refine pv_astore_n (lv' := [(3, .ref q9), (0, .ref (ρ (0, 0))), (1, .int p), (2, .int (bN b))]) C d_L_right_9 rfl (by decide) rfl ?_
      refine pv_iconst (v := 1) C d_L_right_10 (by decide) ?_
      exact pv_iret C R0 d_L_right_11 (by decide) (by decide) (lP_xv J (i := 0) hc hzc rfl)
    | i9 + 1, hi, _ => simp at hi
  · obtain ⟨rfl, h0, ks', ρ', x', rfl, J', hρ, hL, hfr⟩ := h9
    refine pv_stf (f2 := cF γ ks' ρ' (m_right z p b) x' f0) (st2 := []) (c2 := 1) (s2 := 6) rfl rfl rfl rfl ?_
    refine pv_goto (tgt := 12) C d_L_right_6 (by decide) ?_
    refine pv_iconst (v := 0) C d_L_right_12 (by decide) ?_
    exact pv_iret C R0 d_L_right_13 (by decide) (by decide) ⟨by rw [h0], ks', ρ', x', rfl, J', hρ, hL, hfr⟩
abbrev rm_L_tolerance : Room := { frames := 9, cells := 4, slots := 24, locals := 160 }
abbrev hh_L_tolerance : List (Nat × Nat × Nat × Nat) := [(0, 7, 10, 21), (0, 7, 14, 13), (0, 7, 18, 23)]
set_option maxRecDepth 100000 in
set_option maxHeartbeats 4000000 in
theorem c_L_tolerance {l0 : Launch} {D : va_G} {γ : Nat → ClassId} (hl0 : l0.stackTraces = false) {LP : List Nat} {ks : List kT} {ρ : kT → Nat} {z : zT} {x : xT} {f0 : Nat → va_E} (J : cI LP ks ρ z x) (a : Int32) (n : Int32) (d : Int32)  : pv_M l0 D (tys_ γ) y_L_tolerance (Cond.codeWith y_L_tolerance b_L_tolerance 5 (Option.some FieldType.int) hh_L_tolerance) rm_L_tolerance [.ref (ρ (0, 0)), .int a, .int n, .int d] LP (cF γ ks ρ z x f0) (lPostV γ LP ks ρ f0 (m_tolerance z a n d)) (fun _ => False) := by
  refine pv_mkH hl0 (by decide) (Nat.le_of_ble_eq_true rfl) (fun κ C R0 hT => ?_)
  obtain ⟨H, hV, hz, hJ⟩ := id J
  have M0 : ((0, 0) : kT) ∈ ks := (hV _).mpr (Nat.zero_le _)
  show pv_V D κ 0 0 LP (cF γ ks ρ z x f0) 0 [(0, .ref (ρ (0, 0))), (1, .int a), (2, .int n), (3, .int d)] []
  refine pv_aload_n C d_L_tolerance_0 rfl 0 rfl ?_
  refine pv_iload_n C d_L_tolerance_1 rfl 1 rfl ?_
  refine pv_iload_n C d_L_tolerance_2 rfl 2 rfl ?_
  refine pv_iload_n C d_L_tolerance_3 rfl 3 rfl ?_
  refine pv_callVH (hh := hh_L_tolerance) (n := 3) (As := [.int a, .int n, .int d]) (rest := []) C (c_S_tolerance hl0 J a n d) cd_S_tolerance ml_L_37 in_S im_S_tolerance se_S_tolerance (H.1 _ M0) ((kf_at H M0).trans rfl) rfl rfl (by decide +kernel) (by decide) rfl (Nat.le_of_ble_eq_true rfl) rfl d_L_tolerance_4 (by decide) hT (fun E q9 hE => ?_) (fun v9 LP9 f9 h9 => ?_)
  · obtain ⟨⟨i9, hi, hc⟩, hzc⟩ := hE
    match i9, hi, hc with
    | 0, hi, hc =>
      cases hi
      refine ⟨[], (0, 7, 10, 21), [(0, 7, 14, 13), (0, 7, 18, 23)], rfl, fun z hz => absurd hz List.not_mem_nil, by decide, by decide, by decide, kl_L_21, by decide, ?_⟩
      refine pv_astore (lv' := [(4, .ref q9), (0, .ref (ρ (0, 0))), (1, .int a), (2, .int n), (3, .int d)]) C d_L_tolerance_10 (by decide) rfl ?_
      refine pv_iconst (v := 1) C d_L_tolerance_12 (by decide) ?_
      exact pv_iret C R0 d_L_tolerance_13 (by decide) (by decide) (lP_xv J (i := 0) hc hzc rfl)
    | 1, hi, hc =>
      cases hi
      refine ⟨[(0, 7, 10, 21)], (0, 7, 14, 13), [(0, 7, 18, 23)], rfl, List.forall_mem_cons.mpr ⟨⟨by decide, _, kl_L_21, by decide, by decide⟩, fun z hz => absurd hz List.not_mem_nil⟩, by decide, by decide, by decide, kl_L_13, by decide, ?_⟩
      refine pv_astore (lv' := [(4, .ref q9), (0, .ref (ρ (0, 0))), (1, .int a), (2, .int n), (3, .int d)]) C d_L_tolerance_14 (by decide) rfl ?_
      refine pv_iconst (v := 2) C d_L_tolerance_16 (by decide) ?_
      exact pv_iret C R0 d_L_tolerance_17 (by decide) (by decide) (lP_xv J (i := 1) hc hzc rfl)
    | 2, hi, hc =>
      cases hi
      refine ⟨[(0, 7, 10, 21), (0, 7, 14, 13)], (0, 7, 18, 23), [], rfl, List.forall_mem_cons.mpr ⟨⟨by decide, _, kl_L_21, by decide, by decide⟩, List.forall_mem_cons.mpr ⟨⟨by decide, _, kl_L_13, by decide, by decide⟩, fun z hz => absurd hz List.not_mem_nil⟩⟩, by decide, by decide, by decide, kl_L_23, by decide, ?_⟩
      refine pv_astore (lv' := [(4, .ref q9), (0, .ref (ρ (0, 0))), (1, .int a), (2, .int n), (3, .int d)]) C d_L_tolerance_18 (by decide) rfl ?_
      refine pv_iconst (v := 3) C d_L_tolerance_20 (by decide) ?_
      exact pv_iret C R0 d_L_tolerance_21 (by decide) (by decide) (lP_xv J (i := 2) hc hzc rfl)
    | i9 + 3, hi, _ => simp at hi
  · obtain ⟨rfl, h0, ks', ρ', x', rfl, J', hρ, hL, hfr⟩ := h9
    refine pv_stf (f2 := cF γ ks' ρ' (m_tolerance z a n d) x' f0) (st2 := []) (c2 := 4) (s2 := 24) rfl rfl rfl rfl ?_
    refine pv_goto (tgt := 22) C d_L_tolerance_7 (by decide) ?_
    refine pv_iconst (v := 0) C d_L_tolerance_22 (by decide) ?_
    exact pv_iret C R0 d_L_tolerance_23 (by decide) (by decide) ⟨by rw [h0], ks', ρ', x', rfl, J', hρ, hL, hfr⟩
abbrev rm_L_wanted : Room := { frames := 9, cells := 4, slots := 24, locals := 160 }
abbrev hh_L_wanted : List (Nat × Nat × Nat × Nat) := [(0, 7, 10, 21), (0, 7, 14, 13), (0, 7, 18, 23)]
set_option maxRecDepth 100000 in
set_option maxHeartbeats 4000000 in
theorem c_L_wanted {l0 : Launch} {D : va_G} {γ : Nat → ClassId} (hl0 : l0.stackTraces = false) {LP : List Nat} {ks : List kT} {ρ : kT → Nat} {z : zT} {x : xT} {f0 : Nat → va_E} (J : cI LP ks ρ z x) (a : Int32) (n : Int32) (d : Int32)  : pv_M l0 D (tys_ γ) y_L_wanted (Cond.codeWith y_L_wanted b_L_wanted 5 (Option.some FieldType.int) hh_L_wanted) rm_L_wanted [.ref (ρ (0, 0)), .int a, .int n, .int d] LP (cF γ ks ρ z x f0) (lPostV γ LP ks ρ f0 (m_wanted z a n d)) (fun _ => False) := by
  refine pv_mkH hl0 (by decide) (Nat.le_of_ble_eq_true rfl) (fun κ C R0 hT => ?_)
  obtain ⟨H, hV, hz, hJ⟩ := id J
  have M0 : ((0, 0) : kT) ∈ ks := (hV _).mpr (Nat.zero_le _)
  show pv_V D κ 0 0 LP (cF γ ks ρ z x f0) 0 [(0, .ref (ρ (0, 0))), (1, .int a), (2, .int n), (3, .int d)] []
  refine pv_aload_n C d_L_wanted_0 rfl 0 rfl ?_
  refine pv_iload_n C d_L_wanted_1 rfl 1 rfl ?_
  refine pv_iload_n C d_L_wanted_2 rfl 2 rfl ?_
  refine pv_iload_n C d_L_wanted_3 rfl 3 rfl ?_
  refine pv_callVH (hh := hh_L_wanted) (n := 3) (As := [.int a, .int n, .int d]) (rest := []) C (c_S_wanted hl0 J a n d) cd_S_wanted ml_L_41 in_S im_S_wanted se_S_wanted (H.1 _ M0) ((kf_at H M0).trans rfl) rfl rfl (by decide +kernel) (by decide) rfl (Nat.le_of_ble_eq_true rfl) rfl d_L_wanted_4 (by decide) hT (fun E q9 hE => ?_) (fun v9 LP9 f9 h9 => ?_)
  · obtain ⟨⟨i9, hi, hc⟩, hzc⟩ := hE
    match i9, hi, hc with
    | 0, hi, hc =>
      cases hi
      refine ⟨[], (0, 7, 10, 21), [(0, 7, 14, 13), (0, 7, 18, 23)], rfl, fun z hz => absurd hz List.not_mem_nil, by decide, by decide, by decide, kl_L_21, by decide, ?_⟩
      refine pv_astore (lv' := [(4, .ref q9), (0, .ref (ρ (0, 0))), (1, .int a), (2, .int n), (3, .int d)]) C d_L_wanted_10 (by decide) rfl ?_
      refine pv_iconst (v := 1) C d_L_wanted_12 (by decide) ?_
      exact pv_iret C R0 d_L_wanted_13 (by decide) (by decide) (lP_xv J (i := 0) hc hzc rfl)
    | 1, hi, hc =>
      cases hi
      refine ⟨[(0, 7, 10, 21)], (0, 7, 14, 13), [(0, 7, 18, 23)], rfl, List.forall_mem_cons.mpr ⟨⟨by decide, _, kl_L_21, by decide, by decide⟩, fun z hz => absurd hz List.not_mem_nil⟩, by decide, by decide, by decide, kl_L_13, by decide, ?_⟩
      refine pv_astore (lv' := [(4, .ref q9), (0, .ref (ρ (0, 0))), (1, .int a), (2, .int n), (3, .int d)]) C d_L_wanted_14 (by decide) rfl ?_
      refine pv_iconst (v := 2) C d_L_wanted_16 (by decide) ?_
      exact pv_iret C R0 d_L_wanted_17 (by decide) (by decide) (lP_xv J (i := 1) hc hzc rfl)
    | 2, hi, hc =>
      cases hi
      refine ⟨[(0, 7, 10, 21), (0, 7, 14, 13)], (0, 7, 18, 23), [], rfl, List.forall_mem_cons.mpr ⟨⟨by decide, _, kl_L_21, by decide, by decide⟩, List.forall_mem_cons.mpr ⟨⟨by decide, _, kl_L_13, by decide, by decide⟩, fun z hz => absurd hz List.not_mem_nil⟩⟩, by decide, by decide, by decide, kl_L_23, by decide, ?_⟩
      refine pv_astore (lv' := [(4, .ref q9), (0, .ref (ρ (0, 0))), (1, .int a), (2, .int n), (3, .int d)]) C d_L_wanted_18 (by decide) rfl ?_
      refine pv_iconst (v := 3) C d_L_wanted_20 (by decide) ?_
      exact pv_iret C R0 d_L_wanted_21 (by decide) (by decide) (lP_xv J (i := 2) hc hzc rfl)
    | i9 + 3, hi, _ => simp at hi
  · obtain ⟨rfl, h0, ks', ρ', x', rfl, J', hρ, hL, hfr⟩ := h9
    refine pv_stf (f2 := cF γ ks' ρ' (m_wanted z a n d) x' f0) (st2 := []) (c2 := 4) (s2 := 24) rfl rfl rfl rfl ?_
    refine pv_goto (tgt := 22) C d_L_wanted_7 (by decide) ?_
    refine pv_iconst (v := 0) C d_L_wanted_22 (by decide) ?_
    exact pv_iret C R0 d_L_wanted_23 (by decide) (by decide) ⟨by rw [h0], ks', ρ', x', rfl, J', hρ, hL, hfr⟩
abbrev rm_L_count : Room := { frames := 9, cells := 13, slots := 94, locals := 164 }
abbrev hh_L_count : List (Nat × Nat × Nat × Nat) := [(0, 16, 19, 21), (0, 16, 23, 13), (0, 16, 27, 15)]
set_option maxRecDepth 100000 in
set_option maxHeartbeats 4000000 in
theorem c_L_count {l0 : Launch} {D : va_G} {γ : Nat → ClassId} (hl0 : l0.stackTraces = false) {LP : List Nat} {ks : List kT} {ρ : kT → Nat} {z : zT} {x : xT} {f0 : Nat → va_E} (J : cI LP ks ρ z x) {oa : Nat} {ov : Nat → Int64} (hoL : oa ∈ LP) (ho : f0 oa = lo γ ov) (hod : ∀ k ∈ ks, ρ k ≠ oa) (a : Int32) (n : Int32) (d : Int32) (e : Int32) (p : Int32)  : pv_M l0 D (tys_ γ) y_L_count (Cond.codeWith y_L_count b_L_count 8 (Option.some FieldType.int) hh_L_count) rm_L_count [.ref (ρ (0, 0)), .int a, .int n, .int d, .int e, .int p, .ref oa] LP (cF γ ks ρ z x f0) (lPost γ LP ks ρ f0 oa (m_count z a n d e p)) (fun _ => False) := by
  refine pv_mkH hl0 (by decide) (Nat.le_of_ble_eq_true rfl) (fun κ C R0 hT => ?_)
  obtain ⟨H, hV, hz, hJ⟩ := id J
  have M0 : ((0, 0) : kT) ∈ ks := (hV _).mpr (Nat.zero_le _)
  show pv_V D κ 0 0 LP (cF γ ks ρ z x f0) 0 [(0, .ref (ρ (0, 0))), (1, .int a), (2, .int n), (3, .int d), (4, .int e), (5, .int p), (6, .ref oa)] []
  refine pv_aload C d_L_count_0 6 rfl ?_
  refine pv_iconst (v := 0) C d_L_count_2 (by decide) ?_
  refine pv_aload_n C d_L_count_3 rfl 0 rfl ?_
  refine pv_iload_n C d_L_count_4 rfl 1 rfl ?_
  refine pv_iload_n C d_L_count_5 rfl 2 rfl ?_
  refine pv_iload_n C d_L_count_6 rfl 3 rfl ?_
  refine pv_iload C d_L_count_7 4 rfl ?_
  refine pv_iload C d_L_count_9 5 rfl ?_
  refine pv_callVH (hh := hh_L_count) (n := 5) (As := [.int a, .int n, .int d, .int e, .int p]) (rest := [.int 0, .ref oa]) C (c_S_count hl0 J a n d e p) cd_S_count ml_L_44 in_S im_S_count se_S_count (H.1 _ M0) ((kf_at H M0).trans rfl) rfl rfl (by decide +kernel) (by decide) rfl (Nat.le_of_ble_eq_true rfl) rfl d_L_count_11 (by decide) hT (fun E q9 hE => ?_) (fun v9 LP9 f9 h9 => ?_)
  · obtain ⟨⟨i9, hi, hc⟩, hzc⟩ := hE
    match i9, hi, hc with
    | 0, hi, hc =>
      cases hi
      refine ⟨[], (0, 16, 19, 21), [(0, 16, 23, 13), (0, 16, 27, 15)], rfl, fun z hz => absurd hz List.not_mem_nil, by decide, by decide, by decide, kl_L_21, by decide, ?_⟩
      refine pv_astore (lv' := [(7, .ref q9), (0, .ref (ρ (0, 0))), (1, .int a), (2, .int n), (3, .int d), (4, .int e), (5, .int p), (6, .ref oa)]) C d_L_count_19 (by decide) rfl ?_
      refine pv_iconst (v := 1) C d_L_count_21 (by decide) ?_
      exact pv_iret C R0 d_L_count_22 (by decide) (by decide) (lP_x J ho (i := 0) hc (by decide) hzc rfl)
    | 1, hi, hc =>
      cases hi
      refine ⟨[(0, 16, 19, 21)], (0, 16, 23, 13), [(0, 16, 27, 15)], rfl, List.forall_mem_cons.mpr ⟨⟨by decide, _, kl_L_21, by decide, by decide⟩, fun z hz => absurd hz List.not_mem_nil⟩, by decide, by decide, by decide, kl_L_13, by decide, ?_⟩
      refine pv_astore (lv' := [(7, .ref q9), (0, .ref (ρ (0, 0))), (1, .int a), (2, .int n), (3, .int d), (4, .int e), (5, .int p), (6, .ref oa)]) C d_L_count_23 (by decide) rfl ?_
      refine pv_iconst (v := 2) C d_L_count_25 (by decide) ?_
      exact pv_iret C R0 d_L_count_26 (by decide) (by decide) (lP_x J ho (i := 1) hc (by decide) hzc rfl)
    | 2, hi, hc =>
      cases hi
      refine ⟨[(0, 16, 19, 21), (0, 16, 23, 13)], (0, 16, 27, 15), [], rfl, List.forall_mem_cons.mpr ⟨⟨by decide, _, kl_L_21, by decide, by decide⟩, List.forall_mem_cons.mpr ⟨⟨by decide, _, kl_L_13, by decide, by decide⟩, fun z hz => absurd hz List.not_mem_nil⟩⟩, by decide, by decide, by decide, kl_L_15, by decide, ?_⟩
      refine pv_astore (lv' := [(7, .ref q9), (0, .ref (ρ (0, 0))), (1, .int a), (2, .int n), (3, .int d), (4, .int e), (5, .int p), (6, .ref oa)]) C d_L_count_27 (by decide) rfl ?_
      refine pv_iconst (v := 3) C d_L_count_29 (by decide) ?_
      exact pv_iret C R0 d_L_count_30 (by decide) (by decide) (lP_x J ho (i := 2) hc (by decide) hzc rfl)
    | i9 + 3, hi, _ => simp at hi
  · obtain ⟨rfl, h0, ks', ρ', x', rfl, J', hρ, hL, hfr⟩ := h9
    have hod' := fr_ne hoL hod hfr
    refine pv_stf (f2 := cF γ ks' ρ' (m_count z a n d e p).2 x' f0) (st2 := [.int (m_count z a n d e p).1, .int 0, .ref oa]) (c2 := 13) (s2 := 94) rfl rfl rfl rfl ?_
    refine pv_i2l C d_L_count_14 ?_
    refine pv_last C 5 rfl (hL _ hoL) ((kf_not hod').trans ho) (j := 0) rfl (by decide) (by decide) d_L_count_15 ?_
    refine pk_fz (f2 := cF γ ks' ρ' (m_count z a n d e p).2 x' (va_up f0 oa (lo γ (vp_updL ov 0 (m_count z a n d e p).1.toInt64)))) (kf_out hod') ?_
    refine pv_goto (tgt := 31) C d_L_count_16 (by decide) ?_
    refine pv_iconst (v := 0) C d_L_count_31 (by decide) ?_
    exact pv_iret C R0 d_L_count_32 (by decide) (by decide) ⟨by rw [h0], ks', ρ', x', _, rfl, fun _ => rfl, J', hρ, hL, hfr⟩
abbrev rm_L_damaged : Room := { frames := 8, cells := 3, slots := 18, locals := 135 }
abbrev hh_L_damaged : List (Nat × Nat × Nat × Nat) := [(0, 10, 13, 21), (0, 10, 17, 13), (0, 10, 21, 23)]
set_option maxRecDepth 100000 in
set_option maxHeartbeats 4000000 in
theorem c_L_damaged {l0 : Launch} {D : va_G} {γ : Nat → ClassId} (hl0 : l0.stackTraces = false) {LP : List Nat} {ks : List kT} {ρ : kT → Nat} {z : zT} {x : xT} {f0 : Nat → va_E} (J : cI LP ks ρ z x) {oa : Nat} {ov : Nat → Int64} (hoL : oa ∈ LP) (ho : f0 oa = lo γ ov) (hod : ∀ k ∈ ks, ρ k ≠ oa) (u : Int32) (v : Int32)  : pv_M l0 D (tys_ γ) y_L_damaged (Cond.codeWith y_L_damaged b_L_damaged 5 (Option.some FieldType.int) hh_L_damaged) rm_L_damaged [.ref (ρ (0, 0)), .int u, .int v, .ref oa] LP (cF γ ks ρ z x f0) (lPost γ LP ks ρ f0 oa (m_damaged z u v)) (fun _ => False) := by
  refine pv_mkH hl0 (by decide) (Nat.le_of_ble_eq_true rfl) (fun κ C R0 hT => ?_)
  obtain ⟨H, hV, hz, hJ⟩ := id J
  have M0 : ((0, 0) : kT) ∈ ks := (hV _).mpr (Nat.zero_le _)
  show pv_V D κ 0 0 LP (cF γ ks ρ z x f0) 0 [(0, .ref (ρ (0, 0))), (1, .int u), (2, .int v), (3, .ref oa)] []
  refine pv_aload_n C d_L_damaged_0 rfl 3 rfl ?_
  refine pv_iconst (v := 0) C d_L_damaged_1 (by decide) ?_
  refine pv_aload_n C d_L_damaged_2 rfl 0 rfl ?_
  refine pv_iload_n C d_L_damaged_3 rfl 1 rfl ?_
  refine pv_iload_n C d_L_damaged_4 rfl 2 rfl ?_
  refine pv_callVH (hh := hh_L_damaged) (n := 2) (As := [.int u, .int v]) (rest := [.int 0, .ref oa]) C (c_S_damaged hl0 J u v) cd_S_damaged ml_L_48 in_S im_S_damaged se_S_damaged (H.1 _ M0) ((kf_at H M0).trans rfl) rfl rfl (by decide +kernel) (by decide) rfl (Nat.le_of_ble_eq_true rfl) rfl d_L_damaged_5 (by decide) hT (fun E q9 hE => ?_) (fun v9 LP9 f9 h9 => ?_)
  · obtain ⟨⟨i9, hi, hc⟩, hzc⟩ := hE
    match i9, hi, hc with
    | 0, hi, hc =>
      cases hi
      refine ⟨[], (0, 10, 13, 21), [(0, 10, 17, 13), (0, 10, 21, 23)], rfl, fun z hz => absurd hz List.not_mem_nil, by decide, by decide, by decide, kl_L_21, by decide, ?_⟩
      refine pv_astore (lv' := [(4, .ref q9), (0, .ref (ρ (0, 0))), (1, .int u), (2, .int v), (3, .ref oa)]) C d_L_damaged_13 (by decide) rfl ?_
      refine pv_iconst (v := 1) C d_L_damaged_15 (by decide) ?_
      exact pv_iret C R0 d_L_damaged_16 (by decide) (by decide) (lP_x J ho (i := 0) hc (by decide) hzc rfl)
    | 1, hi, hc =>
      cases hi
      refine ⟨[(0, 10, 13, 21)], (0, 10, 17, 13), [(0, 10, 21, 23)], rfl, List.forall_mem_cons.mpr ⟨⟨by decide, _, kl_L_21, by decide, by decide⟩, fun z hz => absurd hz List.not_mem_nil⟩, by decide, by decide, by decide, kl_L_13, by decide, ?_⟩
      refine pv_astore (lv' := [(4, .ref q9), (0, .ref (ρ (0, 0))), (1, .int u), (2, .int v), (3, .ref oa)]) C d_L_damaged_17 (by decide) rfl ?_
      refine pv_iconst (v := 2) C d_L_damaged_19 (by decide) ?_
      exact pv_iret C R0 d_L_damaged_20 (by decide) (by decide) (lP_x J ho (i := 1) hc (by decide) hzc rfl)
    | 2, hi, hc =>
      cases hi
      refine ⟨[(0, 10, 13, 21), (0, 10, 17, 13)], (0, 10, 21, 23), [], rfl, List.forall_mem_cons.mpr ⟨⟨by decide, _, kl_L_21, by decide, by decide⟩, List.forall_mem_cons.mpr ⟨⟨by decide, _, kl_L_13, by decide, by decide⟩, fun z hz => absurd hz List.not_mem_nil⟩⟩, by decide, by decide, by decide, kl_L_23, by decide, ?_⟩
      refine pv_astore (lv' := [(4, .ref q9), (0, .ref (ρ (0, 0))), (1, .int u), (2, .int v), (3, .ref oa)]) C d_L_damaged_21 (by decide) rfl ?_
      refine pv_iconst (v := 3) C d_L_damaged_23 (by decide) ?_
      exact pv_iret C R0 d_L_damaged_24 (by decide) (by decide) (lP_x J ho (i := 2) hc (by decide) hzc rfl)
    | i9 + 3, hi, _ => simp at hi
  · obtain ⟨rfl, h0, ks', ρ', x', rfl, J', hρ, hL, hfr⟩ := h9
    have hod' := fr_ne hoL hod hfr
    refine pv_stf (f2 := cF γ ks' ρ' (m_damaged z u v).2 x' f0) (st2 := [.int (m_damaged z u v).1, .int 0, .ref oa]) (c2 := 3) (s2 := 18) rfl rfl rfl rfl ?_
    refine pv_i2l C d_L_damaged_8 ?_
    refine pv_last C 5 rfl (hL _ hoL) ((kf_not hod').trans ho) (j := 0) rfl (by decide) (by decide) d_L_damaged_9 ?_
    refine pk_fz (f2 := cF γ ks' ρ' (m_damaged z u v).2 x' (va_up f0 oa (lo γ (vp_updL ov 0 (m_damaged z u v).1.toInt64)))) (kf_out hod') ?_
    refine pv_goto (tgt := 25) C d_L_damaged_10 (by decide) ?_
    refine pv_iconst (v := 0) C d_L_damaged_25 (by decide) ?_
    exact pv_iret C R0 d_L_damaged_26 (by decide) (by decide) ⟨by rw [h0], ks', ρ', x', _, rfl, fun _ => rfl, J', hρ, hL, hfr⟩
abbrev rm_L_sample : Room := { frames := 9, cells := 3, slots := 18, locals := 160 }
abbrev hh_L_sample : List (Nat × Nat × Nat × Nat) := [(0, 12, 15, 21), (0, 12, 19, 23)]
set_option maxRecDepth 100000 in
set_option maxHeartbeats 4000000 in
theorem c_L_sample {l0 : Launch} {D : va_G} {γ : Nat → ClassId} (hl0 : l0.stackTraces = false) {LP : List Nat} {ks : List kT} {ρ : kT → Nat} {z : zT} {x : xT} {f0 : Nat → va_E} (J : cI LP ks ρ z x) {oa : Nat} {ov : Nat → Int64} (hoL : oa ∈ LP) (ho : f0 oa = lo γ ov) (hod : ∀ k ∈ ks, ρ k ≠ oa) (a : Int32) (n : Int32) (b : Bool)  : pv_M l0 D (tys_ γ) y_L_sample (Cond.codeWith y_L_sample b_L_sample 6 (Option.some FieldType.int) hh_L_sample) rm_L_sample [.ref (ρ (0, 0)), .int a, .int n, .int (bN b), .ref oa] LP (cF γ ks ρ z x f0) (lPost γ LP ks ρ f0 oa (m_sample z a n b)) (fun _ => False) := by
  refine pv_mkH hl0 (by decide) (Nat.le_of_ble_eq_true rfl) (fun κ C R0 hT => ?_)
  obtain ⟨H, hV, hz, hJ⟩ := id J
  have M0 : ((0, 0) : kT) ∈ ks := (hV _).mpr (Nat.zero_le _)
  show pv_V D κ 0 0 LP (cF γ ks ρ z x f0) 0 [(0, .ref (ρ (0, 0))), (1, .int a), (2, .int n), (3, .int (bN b)), (4, .ref oa)] []
  refine pv_aload C d_L_sample_0 4 rfl ?_
  refine pv_iconst (v := 0) C d_L_sample_2 (by decide) ?_
  refine pv_aload_n C d_L_sample_3 rfl 0 rfl ?_
  refine pv_iload_n C d_L_sample_4 rfl 1 rfl ?_
  refine pv_iload_n C d_L_sample_5 rfl 2 rfl ?_
  refine pv_iload_n C d_L_sample_6 rfl 3 rfl ?_
  refine pv_callVH (hh := hh_L_sample) (n := 3) (As := [.int a, .int n, .int (bN b)]) (rest := [.int 0, .ref oa]) C (c_S_sample hl0 J a n b) cd_S_sample ml_L_51 in_S im_S_sample se_S_sample (H.1 _ M0) ((kf_at H M0).trans rfl) rfl rfl (by decide +kernel) (by decide) rfl (Nat.le_of_ble_eq_true rfl) rfl d_L_sample_7 (by decide) hT (fun E q9 hE => ?_) (fun v9 LP9 f9 h9 => ?_)
  · obtain ⟨⟨i9, hi, hc⟩, hzc⟩ := hE
    match i9, hi, hc with
    | 0, hi, hc =>
      cases hi
      refine ⟨[], (0, 12, 15, 21), [(0, 12, 19, 23)], rfl, fun z hz => absurd hz List.not_mem_nil, by decide, by decide, by decide, kl_L_21, by decide, ?_⟩
      refine pv_astore (lv' := [(5, .ref q9), (0, .ref (ρ (0, 0))), (1, .int a), (2, .int n), (3, .int (bN b)), (4, .ref oa)]) C d_L_sample_15 (by decide) rfl ?_
      refine pv_iconst (v := 1) C d_L_sample_17 (by decide) ?_
      exact pv_iret C R0 d_L_sample_18 (by decide) (by decide) (lP_x J ho (i := 0) hc (by decide) hzc rfl)
    | 1, hi, hc =>
      cases hi
      refine ⟨[(0, 12, 15, 21)], (0, 12, 19, 23), [], rfl, List.forall_mem_cons.mpr ⟨⟨by decide, _, kl_L_21, by decide, by decide⟩, fun z hz => absurd hz List.not_mem_nil⟩, by decide, by decide, by decide, kl_L_23, by decide, ?_⟩
      refine pv_astore (lv' := [(5, .ref q9), (0, .ref (ρ (0, 0))), (1, .int a), (2, .int n), (3, .int (bN b)), (4, .ref oa)]) C d_L_sample_19 (by decide) rfl ?_
      refine pv_iconst (v := 2) C d_L_sample_21 (by decide) ?_
      exact pv_iret C R0 d_L_sample_22 (by decide) (by decide) (lP_x J ho (i := 1) hc (by decide) hzc rfl)
    | i9 + 2, hi, _ => simp at hi
  · obtain ⟨rfl, h0, ks', ρ', x', rfl, J', hρ, hL, hfr⟩ := h9
    have hod' := fr_ne hoL hod hfr
    refine pv_stf (f2 := cF γ ks' ρ' (m_sample z a n b).2 x' f0) (st2 := [.int (m_sample z a n b).1, .int 0, .ref oa]) (c2 := 3) (s2 := 18) rfl rfl rfl rfl ?_
    refine pv_i2l C d_L_sample_10 ?_
    refine pv_last C 5 rfl (hL _ hoL) ((kf_not hod').trans ho) (j := 0) rfl (by decide) (by decide) d_L_sample_11 ?_
    refine pk_fz (f2 := cF γ ks' ρ' (m_sample z a n b).2 x' (va_up f0 oa (lo γ (vp_updL ov 0 (m_sample z a n b).1.toInt64)))) (kf_out hod') ?_
    refine pv_goto (tgt := 23) C d_L_sample_12 (by decide) ?_
    refine pv_iconst (v := 0) C d_L_sample_23 (by decide) ?_
    exact pv_iret C R0 d_L_sample_24 (by decide) (by decide) ⟨by rw [h0], ks', ρ', x', _, rfl, fun _ => rfl, J', hρ, hL, hfr⟩
abbrev rm_L_date : Room := { frames := 8, cells := 3, slots := 18, locals := 135 }
abbrev hh_L_date : List (Nat × Nat × Nat × Nat) := [(0, 10, 13, 21), (0, 10, 17, 13), (0, 10, 21, 23)]
set_option maxRecDepth 100000 in
set_option maxHeartbeats 4000000 in
theorem c_L_date {l0 : Launch} {D : va_G} {γ : Nat → ClassId} (hl0 : l0.stackTraces = false) {LP : List Nat} {ks : List kT} {ρ : kT → Nat} {z : zT} {x : xT} {f0 : Nat → va_E} (J : cI LP ks ρ z x) {oa : Nat} {ov : Nat → Int64} (hoL : oa ∈ LP) (ho : f0 oa = lo γ ov) (hod : ∀ k ∈ ks, ρ k ≠ oa) (u : Int32) (d : Int32)  : pv_M l0 D (tys_ γ) y_L_date (Cond.codeWith y_L_date b_L_date 5 (Option.some FieldType.int) hh_L_date) rm_L_date [.ref (ρ (0, 0)), .int u, .int d, .ref oa] LP (cF γ ks ρ z x f0) (lPost γ LP ks ρ f0 oa (m_date z u d)) (fun _ => False) := by
  refine pv_mkH hl0 (by decide) (Nat.le_of_ble_eq_true rfl) (fun κ C R0 hT => ?_)
  obtain ⟨H, hV, hz, hJ⟩ := id J
  have M0 : ((0, 0) : kT) ∈ ks := (hV _).mpr (Nat.zero_le _)
  show pv_V D κ 0 0 LP (cF γ ks ρ z x f0) 0 [(0, .ref (ρ (0, 0))), (1, .int u), (2, .int d), (3, .ref oa)] []
  refine pv_aload_n C d_L_date_0 rfl 3 rfl ?_
  refine pv_iconst (v := 0) C d_L_date_1 (by decide) ?_
  refine pv_aload_n C d_L_date_2 rfl 0 rfl ?_
  refine pv_iload_n C d_L_date_3 rfl 1 rfl ?_
  refine pv_iload_n C d_L_date_4 rfl 2 rfl ?_
  refine pv_callVH (hh := hh_L_date) (n := 2) (As := [.int u, .int d]) (rest := [.int 0, .ref oa]) C (c_S_date hl0 J u d) cd_S_date ml_L_54 in_S im_S_date se_S_date (H.1 _ M0) ((kf_at H M0).trans rfl) rfl rfl (by decide +kernel) (by decide) rfl (Nat.le_of_ble_eq_true rfl) rfl d_L_date_5 (by decide) hT (fun E q9 hE => ?_) (fun v9 LP9 f9 h9 => ?_)
  · obtain ⟨⟨i9, hi, hc⟩, hzc⟩ := hE
    match i9, hi, hc with
    | 0, hi, hc =>
      cases hi
      refine ⟨[], (0, 10, 13, 21), [(0, 10, 17, 13), (0, 10, 21, 23)], rfl, fun z hz => absurd hz List.not_mem_nil, by decide, by decide, by decide, kl_L_21, by decide, ?_⟩
      refine pv_astore (lv' := [(4, .ref q9), (0, .ref (ρ (0, 0))), (1, .int u), (2, .int d), (3, .ref oa)]) C d_L_date_13 (by decide) rfl ?_
      refine pv_iconst (v := 1) C d_L_date_15 (by decide) ?_
      exact pv_iret C R0 d_L_date_16 (by decide) (by decide) (lP_x J ho (i := 0) hc (by decide) hzc rfl)
    | 1, hi, hc =>
      cases hi
      refine ⟨[(0, 10, 13, 21)], (0, 10, 17, 13), [(0, 10, 21, 23)], rfl, List.forall_mem_cons.mpr ⟨⟨by decide, _, kl_L_21, by decide, by decide⟩, fun z hz => absurd hz List.not_mem_nil⟩, by decide, by decide, by decide, kl_L_13, by decide, ?_⟩
      refine pv_astore (lv' := [(4, .ref q9), (0, .ref (ρ (0, 0))), (1, .int u), (2, .int d), (3, .ref oa)]) C d_L_date_17 (by decide) rfl ?_
      refine pv_iconst (v := 2) C d_L_date_19 (by decide) ?_
      exact pv_iret C R0 d_L_date_20 (by decide) (by decide) (lP_x J ho (i := 1) hc (by decide) hzc rfl)
    | 2, hi, hc =>
      cases hi
      refine ⟨[(0, 10, 13, 21), (0, 10, 17, 13)], (0, 10, 21, 23), [], rfl, List.forall_mem_cons.mpr ⟨⟨by decide, _, kl_L_21, by decide, by decide⟩, List.forall_mem_cons.mpr ⟨⟨by decide, _, kl_L_13, by decide, by decide⟩, fun z hz => absurd hz List.not_mem_nil⟩⟩, by decide, by decide, by decide, kl_L_23, by decide, ?_⟩
      refine pv_astore (lv' := [(4, .ref q9), (0, .ref (ρ (0, 0))), (1, .int u), (2, .int d), (3, .ref oa)]) C d_L_date_21 (by decide) rfl ?_
      refine pv_iconst (v := 3) C d_L_date_23 (by decide) ?_
      exact pv_iret C R0 d_L_date_24 (by decide) (by decide) (lP_x J ho (i := 2) hc (by decide) hzc rfl)
    | i9 + 3, hi, _ => simp at hi
  · obtain ⟨rfl, h0, ks', ρ', x', rfl, J', hρ, hL, hfr⟩ := h9
    have hod' := fr_ne hoL hod hfr
    refine pv_stf (f2 := cF γ ks' ρ' (m_date z u d).2 x' f0) (st2 := [.int (m_date z u d).1, .int 0, .ref oa]) (c2 := 3) (s2 := 18) rfl rfl rfl rfl ?_
    refine pv_i2l C d_L_date_8 ?_
    refine pv_last C 5 rfl (hL _ hoL) ((kf_not hod').trans ho) (j := 0) rfl (by decide) (by decide) d_L_date_9 ?_
    refine pk_fz (f2 := cF γ ks' ρ' (m_date z u d).2 x' (va_up f0 oa (lo γ (vp_updL ov 0 (m_date z u d).1.toInt64)))) (kf_out hod') ?_
    refine pv_goto (tgt := 25) C d_L_date_10 (by decide) ?_
    refine pv_iconst (v := 0) C d_L_date_25 (by decide) ?_
    exact pv_iret C R0 d_L_date_26 (by decide) (by decide) ⟨by rw [h0], ks', ρ', x', _, rfl, fun _ => rfl, J', hρ, hL, hfr⟩
abbrev rm_L_take : Room := { frames := 8, cells := 3, slots := 18, locals := 135 }
abbrev hh_L_take : List (Nat × Nat × Nat × Nat) := [(0, 10, 13, 21), (0, 10, 17, 13), (0, 10, 21, 23)]
set_option maxRecDepth 100000 in
set_option maxHeartbeats 4000000 in
theorem c_L_take {l0 : Launch} {D : va_G} {γ : Nat → ClassId} (hl0 : l0.stackTraces = false) {LP : List Nat} {ks : List kT} {ρ : kT → Nat} {z : zT} {x : xT} {f0 : Nat → va_E} (J : cI LP ks ρ z x) {oa : Nat} {ov : Nat → Int64} (hoL : oa ∈ LP) (ho : f0 oa = lo γ ov) (hod : ∀ k ∈ ks, ρ k ≠ oa) (u : Int32) (p : Int32)  : pv_M l0 D (tys_ γ) y_L_take (Cond.codeWith y_L_take b_L_take 5 (Option.some FieldType.int) hh_L_take) rm_L_take [.ref (ρ (0, 0)), .int u, .int p, .ref oa] LP (cF γ ks ρ z x f0) (lPost γ LP ks ρ f0 oa (m_take z u p)) (fun _ => False) := by
  refine pv_mkH hl0 (by decide) (Nat.le_of_ble_eq_true rfl) (fun κ C R0 hT => ?_)
  obtain ⟨H, hV, hz, hJ⟩ := id J
  have M0 : ((0, 0) : kT) ∈ ks := (hV _).mpr (Nat.zero_le _)
  show pv_V D κ 0 0 LP (cF γ ks ρ z x f0) 0 [(0, .ref (ρ (0, 0))), (1, .int u), (2, .int p), (3, .ref oa)] []
  refine pv_aload_n C d_L_take_0 rfl 3 rfl ?_
  refine pv_iconst (v := 0) C d_L_take_1 (by decide) ?_
  refine pv_aload_n C d_L_take_2 rfl 0 rfl ?_
  refine pv_iload_n C d_L_take_3 rfl 1 rfl ?_
  refine pv_iload_n C d_L_take_4 rfl 2 rfl ?_
  refine pv_callVH (hh := hh_L_take) (n := 2) (As := [.int u, .int p]) (rest := [.int 0, .ref oa]) C (c_S_take hl0 J u p) cd_S_take ml_L_57 in_S im_S_take se_S_take (H.1 _ M0) ((kf_at H M0).trans rfl) rfl rfl (by decide +kernel) (by decide) rfl (Nat.le_of_ble_eq_true rfl) rfl d_L_take_5 (by decide) hT (fun E q9 hE => ?_) (fun v9 LP9 f9 h9 => ?_)
  · obtain ⟨⟨i9, hi, hc⟩, hzc⟩ := hE
    match i9, hi, hc with
    | 0, hi, hc =>
      cases hi
      refine ⟨[], (0, 10, 13, 21), [(0, 10, 17, 13), (0, 10, 21, 23)], rfl, fun z hz => absurd hz List.not_mem_nil, by decide, by decide, by decide, kl_L_21, by decide, ?_⟩
      refine pv_astore (lv' := [(4, .ref q9), (0, .ref (ρ (0, 0))), (1, .int u), (2, .int p), (3, .ref oa)]) C d_L_take_13 (by decide) rfl ?_
      refine pv_iconst (v := 1) C d_L_take_15 (by decide) ?_
      exact pv_iret C R0 d_L_take_16 (by decide) (by decide) (lP_x J ho (i := 0) hc (by decide) hzc rfl)
    | 1, hi, hc =>
      cases hi
      refine ⟨[(0, 10, 13, 21)], (0, 10, 17, 13), [(0, 10, 21, 23)], rfl, List.forall_mem_cons.mpr ⟨⟨by decide, _, kl_L_21, by decide, by decide⟩, fun z hz => absurd hz List.not_mem_nil⟩, by decide, by decide, by decide, kl_L_13, by decide, ?_⟩
      refine pv_astore (lv' := [(4, .ref q9), (0, .ref (ρ (0, 0))), (1, .int u), (2, .int p), (3, .ref oa)]) C d_L_take_17 (by decide) rfl ?_
      refine pv_iconst (v := 2) C d_L_take_19 (by decide) ?_
      exact pv_iret C R0 d_L_take_20 (by decide) (by decide) (lP_x J ho (i := 1) hc (by decide) hzc rfl)
    | 2, hi, hc =>
      cases hi
      refine ⟨[(0, 10, 13, 21), (0, 10, 17, 13)], (0, 10, 21, 23), [], rfl, List.forall_mem_cons.mpr ⟨⟨by decide, _, kl_L_21, by decide, by decide⟩, List.forall_mem_cons.mpr ⟨⟨by decide, _, kl_L_13, by decide, by decide⟩, fun z hz => absurd hz List.not_mem_nil⟩⟩, by decide, by decide, by decide, kl_L_23, by decide, ?_⟩
      refine pv_astore (lv' := [(4, .ref q9), (0, .ref (ρ (0, 0))), (1, .int u), (2, .int p), (3, .ref oa)]) C d_L_take_21 (by decide) rfl ?_
      refine pv_iconst (v := 3) C d_L_take_23 (by decide) ?_
      exact pv_iret C R0 d_L_take_24 (by decide) (by decide) (lP_x J ho (i := 2) hc (by decide) hzc rfl)
    | i9 + 3, hi, _ => simp at hi
  · obtain ⟨rfl, h0, ks', ρ', x', rfl, J', hρ, hL, hfr⟩ := h9
    have hod' := fr_ne hoL hod hfr
    refine pv_stf (f2 := cF γ ks' ρ' (m_take z u p).2 x' f0) (st2 := [.int (m_take z u p).1, .int 0, .ref oa]) (c2 := 3) (s2 := 18) rfl rfl rfl rfl ?_
    refine pv_i2l C d_L_take_8 ?_
    refine pv_last C 5 rfl (hL _ hoL) ((kf_not hod').trans ho) (j := 0) rfl (by decide) (by decide) d_L_take_9 ?_
    refine pk_fz (f2 := cF γ ks' ρ' (m_take z u p).2 x' (va_up f0 oa (lo γ (vp_updL ov 0 (m_take z u p).1.toInt64)))) (kf_out hod') ?_
    refine pv_goto (tgt := 25) C d_L_take_10 (by decide) ?_
    refine pv_iconst (v := 0) C d_L_take_25 (by decide) ?_
    exact pv_iret C R0 d_L_take_26 (by decide) (by decide) ⟨by rw [h0], ks', ρ', x', _, rfl, fun _ => rfl, J', hρ, hL, hfr⟩
abbrev rm_L_label : Room := { frames := 8, cells := 1, slots := 6, locals := 134 }
abbrev hh_L_label : List (Nat × Nat × Nat × Nat) := [(0, 9, 12, 21)]
set_option maxRecDepth 100000 in
set_option maxHeartbeats 4000000 in
theorem c_L_label {l0 : Launch} {D : va_G} {γ : Nat → ClassId} (hl0 : l0.stackTraces = false) {LP : List Nat} {ks : List kT} {ρ : kT → Nat} {z : zT} {x : xT} {f0 : Nat → va_E} (J : cI LP ks ρ z x) {oa : Nat} {ov : Nat → Int64} (hoL : oa ∈ LP) (ho : f0 oa = lo γ ov) (hod : ∀ k ∈ ks, ρ k ≠ oa) (u : Int32)  : pv_M l0 D (tys_ γ) y_L_label (Cond.codeWith y_L_label b_L_label 4 (Option.some FieldType.int) hh_L_label) rm_L_label [.ref (ρ (0, 0)), .int u, .ref oa] LP (cF γ ks ρ z x f0) (lPost γ LP ks ρ f0 oa (m_label z u)) (fun _ => False) := by
  refine pv_mkH hl0 (by decide) (Nat.le_of_ble_eq_true rfl) (fun κ C R0 hT => ?_)
  obtain ⟨H, hV, hz, hJ⟩ := id J
  have M0 : ((0, 0) : kT) ∈ ks := (hV _).mpr (Nat.zero_le _)
  show pv_V D κ 0 0 LP (cF γ ks ρ z x f0) 0 [(0, .ref (ρ (0, 0))), (1, .int u), (2, .ref oa)] []
  refine pv_aload_n C d_L_label_0 rfl 2 rfl ?_
  refine pv_iconst (v := 0) C d_L_label_1 (by decide) ?_
  refine pv_aload_n C d_L_label_2 rfl 0 rfl ?_
  refine pv_iload_n C d_L_label_3 rfl 1 rfl ?_
  refine pv_callVH (hh := hh_L_label) (n := 1) (As := [.int u]) (rest := [.int 0, .ref oa]) C (c_S_label hl0 J u) cd_S_label ml_L_60 in_S im_S_label se_S_label (H.1 _ M0) ((kf_at H M0).trans rfl) rfl rfl (by decide +kernel) (by decide) rfl (Nat.le_of_ble_eq_true rfl) rfl d_L_label_4 (by decide) hT (fun E q9 hE => ?_) (fun v9 LP9 f9 h9 => ?_)
  · obtain ⟨⟨i9, hi, hc⟩, hzc⟩ := hE
    match i9, hi, hc with
    | 0, hi, hc =>
      cases hi
      refine ⟨[], (0, 9, 12, 21), [], rfl, fun z hz => absurd hz List.not_mem_nil, by decide, by decide, by decide, kl_L_21, by decide, ?_⟩
      refine pv_astore_n (lv' := [(3, .ref q9), (0, .ref (ρ (0, 0))), (1, .int u), (2, .ref oa)]) C d_L_label_12 rfl (by decide) rfl ?_
      refine pv_iconst (v := 1) C d_L_label_13 (by decide) ?_
      exact pv_iret C R0 d_L_label_14 (by decide) (by decide) (lP_x J ho (i := 0) hc (by decide) hzc rfl)
    | i9 + 1, hi, _ => simp at hi
  · obtain ⟨rfl, h0, ks', ρ', x', rfl, J', hρ, hL, hfr⟩ := h9
    have hod' := fr_ne hoL hod hfr
    refine pv_stf (f2 := cF γ ks' ρ' (m_label z u).2 x' f0) (st2 := [.int (m_label z u).1, .int 0, .ref oa]) (c2 := 1) (s2 := 6) rfl rfl rfl rfl ?_
    refine pv_i2l C d_L_label_7 ?_
    refine pv_last C 5 rfl (hL _ hoL) ((kf_not hod').trans ho) (j := 0) rfl (by decide) (by decide) d_L_label_8 ?_
    refine pk_fz (f2 := cF γ ks' ρ' (m_label z u).2 x' (va_up f0 oa (lo γ (vp_updL ov 0 (m_label z u).1.toInt64)))) (kf_out hod') ?_
    refine pv_goto (tgt := 15) C d_L_label_9 (by decide) ?_
    refine pv_iconst (v := 0) C d_L_label_15 (by decide) ?_
    exact pv_iret C R0 d_L_label_16 (by decide) (by decide) ⟨by rw [h0], ks', ρ', x', _, rfl, fun _ => rfl, J', hρ, hL, hfr⟩
abbrev rm_L_again : Room := { frames := 8, cells := 2, slots := 12, locals := 134 }
abbrev hh_L_again : List (Nat × Nat × Nat × Nat) := [(0, 9, 12, 21), (0, 9, 15, 23)]
set_option maxRecDepth 100000 in
set_option maxHeartbeats 4000000 in
theorem c_L_again {l0 : Launch} {D : va_G} {γ : Nat → ClassId} (hl0 : l0.stackTraces = false) {LP : List Nat} {ks : List kT} {ρ : kT → Nat} {z : zT} {x : xT} {f0 : Nat → va_E} (J : cI LP ks ρ z x) {oa : Nat} {ov : Nat → Int64} (hoL : oa ∈ LP) (ho : f0 oa = lo γ ov) (hod : ∀ k ∈ ks, ρ k ≠ oa) (u : Int32)  : pv_M l0 D (tys_ γ) y_L_again (Cond.codeWith y_L_again b_L_again 4 (Option.some FieldType.int) hh_L_again) rm_L_again [.ref (ρ (0, 0)), .int u, .ref oa] LP (cF γ ks ρ z x f0) (lPost γ LP ks ρ f0 oa (m_again z u)) (fun _ => False) := by
  refine pv_mkH hl0 (by decide) (Nat.le_of_ble_eq_true rfl) (fun κ C R0 hT => ?_)
  obtain ⟨H, hV, hz, hJ⟩ := id J
  have M0 : ((0, 0) : kT) ∈ ks := (hV _).mpr (Nat.zero_le _)
  show pv_V D κ 0 0 LP (cF γ ks ρ z x f0) 0 [(0, .ref (ρ (0, 0))), (1, .int u), (2, .ref oa)] []
  refine pv_aload_n C d_L_again_0 rfl 2 rfl ?_
  refine pv_iconst (v := 0) C d_L_again_1 (by decide) ?_
  refine pv_aload_n C d_L_again_2 rfl 0 rfl ?_
  refine pv_iload_n C d_L_again_3 rfl 1 rfl ?_
  refine pv_callVH (hh := hh_L_again) (n := 1) (As := [.int u]) (rest := [.int 0, .ref oa]) C (c_S_again hl0 J u) cd_S_again ml_L_64 in_S im_S_again se_S_again (H.1 _ M0) ((kf_at H M0).trans rfl) rfl rfl (by decide +kernel) (by decide) rfl (Nat.le_of_ble_eq_true rfl) rfl d_L_again_4 (by decide) hT (fun E q9 hE => ?_) (fun v9 LP9 f9 h9 => ?_)
  · obtain ⟨⟨i9, hi, hc⟩, hzc⟩ := hE
    match i9, hi, hc with
    | 0, hi, hc =>
      cases hi
      refine ⟨[], (0, 9, 12, 21), [(0, 9, 15, 23)], rfl, fun z hz => absurd hz List.not_mem_nil, by decide, by decide, by decide, kl_L_21, by decide, ?_⟩
      refine pv_astore_n (lv' := [(3, .ref q9), (0, .ref (ρ (0, 0))), (1, .int u), (2, .ref oa)]) C d_L_again_12 rfl (by decide) rfl ?_
      refine pv_iconst (v := 1) C d_L_again_13 (by decide) ?_
      exact pv_iret C R0 d_L_again_14 (by decide) (by decide) (lP_x J ho (i := 0) hc (by decide) hzc rfl)
    | 1, hi, hc =>
      cases hi
      refine ⟨[(0, 9, 12, 21)], (0, 9, 15, 23), [], rfl, List.forall_mem_cons.mpr ⟨⟨by decide, _, kl_L_21, by decide, by decide⟩, fun z hz => absurd hz List.not_mem_nil⟩, by decide, by decide, by decide, kl_L_23, by decide, ?_⟩
      refine pv_astore_n (lv' := [(3, .ref q9), (0, .ref (ρ (0, 0))), (1, .int u), (2, .ref oa)]) C d_L_again_15 rfl (by decide) rfl ?_
      refine pv_iconst (v := 2) C d_L_again_16 (by decide) ?_
      exact pv_iret C R0 d_L_again_17 (by decide) (by decide) (lP_x J ho (i := 1) hc (by decide) hzc rfl)
    | i9 + 2, hi, _ => simp at hi
  · obtain ⟨rfl, h0, ks', ρ', x', rfl, J', hρ, hL, hfr⟩ := h9
    have hod' := fr_ne hoL hod hfr
    refine pv_stf (f2 := cF γ ks' ρ' (m_again z u).2 x' f0) (st2 := [.int (m_again z u).1, .int 0, .ref oa]) (c2 := 2) (s2 := 12) rfl rfl rfl rfl ?_
    refine pv_i2l C d_L_again_7 ?_
    refine pv_last C 5 rfl (hL _ hoL) ((kf_not hod').trans ho) (j := 0) rfl (by decide) (by decide) d_L_again_8 ?_
    refine pk_fz (f2 := cF γ ks' ρ' (m_again z u).2 x' (va_up f0 oa (lo γ (vp_updL ov 0 (m_again z u).1.toInt64)))) (kf_out hod') ?_
    refine pv_goto (tgt := 18) C d_L_again_9 (by decide) ?_
    refine pv_iconst (v := 0) C d_L_again_18 (by decide) ?_
    exact pv_iret C R0 d_L_again_19 (by decide) (by decide) ⟨by rw [h0], ks', ρ', x', _, rfl, fun _ => rfl, J', hρ, hL, hfr⟩
abbrev rm_L_close : Room := { frames := 9, cells := 3, slots := 18, locals := 159 }
abbrev hh_L_close : List (Nat × Nat × Nat × Nat) := [(0, 10, 13, 21), (0, 10, 17, 23)]
set_option maxRecDepth 100000 in
set_option maxHeartbeats 4000000 in
theorem c_L_close {l0 : Launch} {D : va_G} {γ : Nat → ClassId} (hl0 : l0.stackTraces = false) {LP : List Nat} {ks : List kT} {ρ : kT → Nat} {z : zT} {x : xT} {f0 : Nat → va_E} (J : cI LP ks ρ z x) {oa : Nat} {ov : Nat → Int64} (hoL : oa ∈ LP) (ho : f0 oa = lo γ ov) (hod : ∀ k ∈ ks, ρ k ≠ oa) (a : Int32) (n : Int32) (hd : isL z a n = true → z 16 (4 * ix a + ix n) = 0 → zD z < 64) : pv_M l0 D (tys_ γ) y_L_close (Cond.codeWith y_L_close b_L_close 5 (Option.some FieldType.int) hh_L_close) rm_L_close [.ref (ρ (0, 0)), .int a, .int n, .ref oa] LP (cF γ ks ρ z x f0) (lPost γ LP ks ρ f0 oa (m_close z a n)) (fun _ => False) := by
  refine pv_mkH hl0 (by decide) (Nat.le_of_ble_eq_true rfl) (fun κ C R0 hT => ?_)
  obtain ⟨H, hV, hz, hJ⟩ := id J
  have M0 : ((0, 0) : kT) ∈ ks := (hV _).mpr (Nat.zero_le _)
  show pv_V D κ 0 0 LP (cF γ ks ρ z x f0) 0 [(0, .ref (ρ (0, 0))), (1, .int a), (2, .int n), (3, .ref oa)] []
  refine pv_aload_n C d_L_close_0 rfl 3 rfl ?_
  refine pv_iconst (v := 0) C d_L_close_1 (by decide) ?_
  refine pv_aload_n C d_L_close_2 rfl 0 rfl ?_
  refine pv_iload_n C d_L_close_3 rfl 1 rfl ?_
  refine pv_iload_n C d_L_close_4 rfl 2 rfl ?_
  refine pv_callVH (hh := hh_L_close) (n := 2) (As := [.int a, .int n]) (rest := [.int 0, .ref oa]) C (c_S_close hl0 J a n hd) cd_S_close ml_L_67 in_S im_S_close se_S_close (H.1 _ M0) ((kf_at H M0).trans rfl) rfl rfl (by decide +kernel) (by decide) rfl (Nat.le_of_ble_eq_true rfl) rfl d_L_close_5 (by decide) hT (fun E q9 hE => ?_) (fun v9 LP9 f9 h9 => ?_)
  · obtain ⟨⟨i9, hi, hc⟩, hzc⟩ := hE
    match i9, hi, hc with
    | 0, hi, hc =>
      cases hi
      refine ⟨[], (0, 10, 13, 21), [(0, 10, 17, 23)], rfl, fun z hz => absurd hz List.not_mem_nil, by decide, by decide, by decide, kl_L_21, by decide, ?_⟩
      refine pv_astore (lv' := [(4, .ref q9), (0, .ref (ρ (0, 0))), (1, .int a), (2, .int n), (3, .ref oa)]) C d_L_close_13 (by decide) rfl ?_
      refine pv_iconst (v := 1) C d_L_close_15 (by decide) ?_
      exact pv_iret C R0 d_L_close_16 (by decide) (by decide) (lP_x J ho (i := 0) hc (by decide) hzc rfl)
    | 1, hi, hc =>
      cases hi
      refine ⟨[(0, 10, 13, 21)], (0, 10, 17, 23), [], rfl, List.forall_mem_cons.mpr ⟨⟨by decide, _, kl_L_21, by decide, by decide⟩, fun z hz => absurd hz List.not_mem_nil⟩, by decide, by decide, by decide, kl_L_23, by decide, ?_⟩
      refine pv_astore (lv' := [(4, .ref q9), (0, .ref (ρ (0, 0))), (1, .int a), (2, .int n), (3, .ref oa)]) C d_L_close_17 (by decide) rfl ?_
      refine pv_iconst (v := 2) C d_L_close_19 (by decide) ?_
      exact pv_iret C R0 d_L_close_20 (by decide) (by decide) (lP_x J ho (i := 1) hc (by decide) hzc rfl)
    | i9 + 2, hi, _ => simp at hi
  · obtain ⟨rfl, h0, ks', ρ', x', rfl, J', hρ, hL, hfr⟩ := h9
    have hod' := fr_ne hoL hod hfr
    refine pv_stf (f2 := cF γ ks' ρ' (m_close z a n).2 x' f0) (st2 := [.int (m_close z a n).1, .int 0, .ref oa]) (c2 := 3) (s2 := 18) rfl rfl rfl rfl ?_
    refine pv_i2l C d_L_close_8 ?_
    refine pv_last C 5 rfl (hL _ hoL) ((kf_not hod').trans ho) (j := 0) rfl (by decide) (by decide) d_L_close_9 ?_
    refine pk_fz (f2 := cF γ ks' ρ' (m_close z a n).2 x' (va_up f0 oa (lo γ (vp_updL ov 0 (m_close z a n).1.toInt64)))) (kf_out hod') ?_
    refine pv_goto (tgt := 21) C d_L_close_10 (by decide) ?_
    refine pv_iconst (v := 0) C d_L_close_21 (by decide) ?_
    exact pv_iret C R0 d_L_close_22 (by decide) (by decide) ⟨by rw [h0], ks', ρ', x', _, rfl, fun _ => rfl, J', hρ, hL, hfr⟩
abbrev rm_L_closeAll : Room := { frames := 8, cells := 2, slots := 12, locals := 135 }
abbrev hh_L_closeAll : List (Nat × Nat × Nat × Nat) := [(0, 9, 12, 21), (0, 9, 15, 23)]
set_option maxRecDepth 100000 in
set_option maxHeartbeats 4000000 in
theorem c_L_closeAll {l0 : Launch} {D : va_G} {γ : Nat → ClassId} (hl0 : l0.stackTraces = false) {LP : List Nat} {ks : List kT} {ρ : kT → Nat} {z : zT} {x : xT} {f0 : Nat → va_E} (J : cI LP ks ρ z x) {oa : Nat} {ov : Nat → Int64} (hoL : oa ∈ LP) (ho : f0 oa = lo γ ov) (hod : ∀ k ∈ ks, ρ k ≠ oa) (a : Int32)  : pv_M l0 D (tys_ γ) y_L_closeAll (Cond.codeWith y_L_closeAll b_L_closeAll 4 (Option.some FieldType.int) hh_L_closeAll) rm_L_closeAll [.ref (ρ (0, 0)), .int a, .ref oa] LP (cF γ ks ρ z x f0) (lPost γ LP ks ρ f0 oa (m_closeAll z a)) (fun _ => False) := by
  refine pv_mkH hl0 (by decide) (Nat.le_of_ble_eq_true rfl) (fun κ C R0 hT => ?_)
  obtain ⟨H, hV, hz, hJ⟩ := id J
  have M0 : ((0, 0) : kT) ∈ ks := (hV _).mpr (Nat.zero_le _)
  show pv_V D κ 0 0 LP (cF γ ks ρ z x f0) 0 [(0, .ref (ρ (0, 0))), (1, .int a), (2, .ref oa)] []
  refine pv_aload_n C d_L_closeAll_0 rfl 2 rfl ?_
  refine pv_iconst (v := 0) C d_L_closeAll_1 (by decide) ?_
  refine pv_aload_n C d_L_closeAll_2 rfl 0 rfl ?_
  refine pv_iload_n C d_L_closeAll_3 rfl 1 rfl ?_
  refine pv_callVH (hh := hh_L_closeAll) (n := 1) (As := [.int a]) (rest := [.int 0, .ref oa]) C (c_S_closeAll hl0 J a) cd_S_closeAll ml_L_70 in_S im_S_closeAll se_S_closeAll (H.1 _ M0) ((kf_at H M0).trans rfl) rfl rfl (by decide +kernel) (by decide) rfl (Nat.le_of_ble_eq_true rfl) rfl d_L_closeAll_4 (by decide) hT (fun E q9 hE => ?_) (fun v9 LP9 f9 h9 => ?_)
  · obtain ⟨⟨i9, hi, hc⟩, hzc⟩ := hE
    match i9, hi, hc with
    | 0, hi, hc =>
      cases hi
      refine ⟨[], (0, 9, 12, 21), [(0, 9, 15, 23)], rfl, fun z hz => absurd hz List.not_mem_nil, by decide, by decide, by decide, kl_L_21, by decide, ?_⟩
      refine pv_astore_n (lv' := [(3, .ref q9), (0, .ref (ρ (0, 0))), (1, .int a), (2, .ref oa)]) C d_L_closeAll_12 rfl (by decide) rfl ?_
      refine pv_iconst (v := 1) C d_L_closeAll_13 (by decide) ?_
      exact pv_iret C R0 d_L_closeAll_14 (by decide) (by decide) (lP_x J ho (i := 0) hc (by decide) hzc rfl)
    | 1, hi, hc =>
      cases hi
      refine ⟨[(0, 9, 12, 21)], (0, 9, 15, 23), [], rfl, List.forall_mem_cons.mpr ⟨⟨by decide, _, kl_L_21, by decide, by decide⟩, fun z hz => absurd hz List.not_mem_nil⟩, by decide, by decide, by decide, kl_L_23, by decide, ?_⟩
      refine pv_astore_n (lv' := [(3, .ref q9), (0, .ref (ρ (0, 0))), (1, .int a), (2, .ref oa)]) C d_L_closeAll_15 rfl (by decide) rfl ?_
      refine pv_iconst (v := 2) C d_L_closeAll_16 (by decide) ?_
      exact pv_iret C R0 d_L_closeAll_17 (by decide) (by decide) (lP_x J ho (i := 1) hc (by decide) hzc rfl)
    | i9 + 2, hi, _ => simp at hi
  · obtain ⟨rfl, h0, ks', ρ', x', rfl, J', hρ, hL, hfr⟩ := h9
    have hod' := fr_ne hoL hod hfr
    refine pv_stf (f2 := cF γ ks' ρ' (m_closeAll z a).2 x' f0) (st2 := [.int (m_closeAll z a).1, .int 0, .ref oa]) (c2 := 2) (s2 := 12) rfl rfl rfl rfl ?_
    refine pv_i2l C d_L_closeAll_7 ?_
    refine pv_last C 5 rfl (hL _ hoL) ((kf_not hod').trans ho) (j := 0) rfl (by decide) (by decide) d_L_closeAll_8 ?_
    refine pk_fz (f2 := cF γ ks' ρ' (m_closeAll z a).2 x' (va_up f0 oa (lo γ (vp_updL ov 0 (m_closeAll z a).1.toInt64)))) (kf_out hod') ?_
    refine pv_goto (tgt := 18) C d_L_closeAll_9 (by decide) ?_
    refine pv_iconst (v := 0) C d_L_closeAll_18 (by decide) ?_
    exact pv_iret C R0 d_L_closeAll_19 (by decide) (by decide) ⟨by rw [h0], ks', ρ', x', _, rfl, fun _ => rfl, J', hρ, hL, hfr⟩
abbrev rm_L_day : Room := { frames := 8, cells := 2, slots := 12, locals := 133 }
abbrev hh_L_day : List (Nat × Nat × Nat × Nat) := [(0, 5, 8, 13), (0, 5, 11, 23)]
set_option maxRecDepth 100000 in
set_option maxHeartbeats 4000000 in
theorem c_L_day {l0 : Launch} {D : va_G} {γ : Nat → ClassId} (hl0 : l0.stackTraces = false) {LP : List Nat} {ks : List kT} {ρ : kT → Nat} {z : zT} {x : xT} {f0 : Nat → va_E} (J : cI LP ks ρ z x) (d : Int32)  : pv_M l0 D (tys_ γ) y_L_day (Cond.codeWith y_L_day b_L_day 3 (Option.some FieldType.int) hh_L_day) rm_L_day [.ref (ρ (0, 0)), .int d] LP (cF γ ks ρ z x f0) (lPostV γ LP ks ρ f0 (m_day z d)) (fun _ => False) := by
  refine pv_mkH hl0 (by decide) (Nat.le_of_ble_eq_true rfl) (fun κ C R0 hT => ?_)
  obtain ⟨H, hV, hz, hJ⟩ := id J
  have M0 : ((0, 0) : kT) ∈ ks := (hV _).mpr (Nat.zero_le _)
  show pv_V D κ 0 0 LP (cF γ ks ρ z x f0) 0 [(0, .ref (ρ (0, 0))), (1, .int d)] []
  refine pv_aload_n C d_L_day_0 rfl 0 rfl ?_
  refine pv_iload_n C d_L_day_1 rfl 1 rfl ?_
  refine pv_callVH (hh := hh_L_day) (n := 1) (As := [.int d]) (rest := []) C (c_S_day hl0 J d) cd_S_day ml_L_73 in_S im_S_day se_S_day (H.1 _ M0) ((kf_at H M0).trans rfl) rfl rfl (by decide +kernel) (by decide) rfl (Nat.le_of_ble_eq_true rfl) rfl d_L_day_2 (by decide) hT (fun E q9 hE => ?_) (fun v9 LP9 f9 h9 => ?_)
  · obtain ⟨⟨i9, hi, hc⟩, hzc⟩ := hE
    match i9, hi, hc with
    | 0, hi, hc =>
      cases hi
      refine ⟨[], (0, 5, 8, 13), [(0, 5, 11, 23)], rfl, fun z hz => absurd hz List.not_mem_nil, by decide, by decide, by decide, kl_L_13, by decide, ?_⟩
      refine pv_astore_n (lv' := [(2, .ref q9), (0, .ref (ρ (0, 0))), (1, .int d)]) C d_L_day_8 rfl (by decide) rfl ?_
      refine pv_iconst (v := 1) C d_L_day_9 (by decide) ?_
      exact pv_iret C R0 d_L_day_10 (by decide) (by decide) (lP_xv J (i := 0) hc hzc rfl)
    | 1, hi, hc =>
      cases hi
      refine ⟨[(0, 5, 8, 13)], (0, 5, 11, 23), [], rfl, List.forall_mem_cons.mpr ⟨⟨by decide, _, kl_L_13, by decide, by decide⟩, fun z hz => absurd hz List.not_mem_nil⟩, by decide, by decide, by decide, kl_L_23, by decide, ?_⟩
      refine pv_astore_n (lv' := [(2, .ref q9), (0, .ref (ρ (0, 0))), (1, .int d)]) C d_L_day_11 rfl (by decide) rfl ?_
      refine pv_iconst (v := 2) C d_L_day_12 (by decide) ?_
      exact pv_iret C R0 d_L_day_13 (by decide) (by decide) (lP_xv J (i := 1) hc hzc rfl)
    | i9 + 2, hi, _ => simp at hi
  · obtain ⟨rfl, h0, ks', ρ', x', rfl, J', hρ, hL, hfr⟩ := h9
    refine pv_stf (f2 := cF γ ks' ρ' (m_day z d) x' f0) (st2 := []) (c2 := 2) (s2 := 12) rfl rfl rfl rfl ?_
    refine pv_goto (tgt := 14) C d_L_day_5 (by decide) ?_
    refine pv_iconst (v := 0) C d_L_day_14 (by decide) ?_
    exact pv_iret C R0 d_L_day_15 (by decide) (by decide) ⟨by rw [h0], ks', ρ', x', rfl, J', hρ, hL, hfr⟩
abbrev rm_L_differ : Room := { frames := 8, cells := 2, slots := 12, locals := 135 }
abbrev hh_L_differ : List (Nat × Nat × Nat × Nat) := [(0, 10, 13, 21), (0, 10, 17, 13)]
set_option maxRecDepth 100000 in
set_option maxHeartbeats 4000000 in
theorem c_L_differ {l0 : Launch} {D : va_G} {γ : Nat → ClassId} (hl0 : l0.stackTraces = false) {LP : List Nat} {ks : List kT} {ρ : kT → Nat} {z : zT} {x : xT} {f0 : Nat → va_E} (J : cI LP ks ρ z x) {oa : Nat} {ov : Nat → Int64} (hoL : oa ∈ LP) (ho : f0 oa = lo γ ov) (hod : ∀ k ∈ ks, ρ k ≠ oa) (i : Int32) (w : Int32)  : pv_M l0 D (tys_ γ) y_L_differ (Cond.codeWith y_L_differ b_L_differ 5 (Option.some FieldType.int) hh_L_differ) rm_L_differ [.ref (ρ (0, 0)), .int i, .int w, .ref oa] LP (cF γ ks ρ z x f0) (lPost γ LP ks ρ f0 oa (m_differ z i w)) (fun _ => False) := by
  refine pv_mkH hl0 (by decide) (Nat.le_of_ble_eq_true rfl) (fun κ C R0 hT => ?_)
  obtain ⟨H, hV, hz, hJ⟩ := id J
  have M0 : ((0, 0) : kT) ∈ ks := (hV _).mpr (Nat.zero_le _)
  show pv_V D κ 0 0 LP (cF γ ks ρ z x f0) 0 [(0, .ref (ρ (0, 0))), (1, .int i), (2, .int w), (3, .ref oa)] []
  refine pv_aload_n C d_L_differ_0 rfl 3 rfl ?_
  refine pv_iconst (v := 0) C d_L_differ_1 (by decide) ?_
  refine pv_aload_n C d_L_differ_2 rfl 0 rfl ?_
  refine pv_iload_n C d_L_differ_3 rfl 1 rfl ?_
  refine pv_iload_n C d_L_differ_4 rfl 2 rfl ?_
  refine pv_callVH (hh := hh_L_differ) (n := 2) (As := [.int i, .int w]) (rest := [.int 0, .ref oa]) C (c_S_differ hl0 J i w) cd_S_differ ml_L_77 in_S im_S_differ se_S_differ (H.1 _ M0) ((kf_at H M0).trans rfl) rfl rfl (by decide +kernel) (by decide) rfl (Nat.le_of_ble_eq_true rfl) rfl d_L_differ_5 (by decide) hT (fun E q9 hE => ?_) (fun v9 LP9 f9 h9 => ?_)
  · obtain ⟨⟨i9, hi, hc⟩, hzc⟩ := hE
    match i9, hi, hc with
    | 0, hi, hc =>
      cases hi
      refine ⟨[], (0, 10, 13, 21), [(0, 10, 17, 13)], rfl, fun z hz => absurd hz List.not_mem_nil, by decide, by decide, by decide, kl_L_21, by decide, ?_⟩
      refine pv_astore (lv' := [(4, .ref q9), (0, .ref (ρ (0, 0))), (1, .int i), (2, .int w), (3, .ref oa)]) C d_L_differ_13 (by decide) rfl ?_
      refine pv_iconst (v := 1) C d_L_differ_15 (by decide) ?_
      exact pv_iret C R0 d_L_differ_16 (by decide) (by decide) (lP_x J ho (i := 0) hc (by decide) hzc rfl)
    | 1, hi, hc =>
      cases hi
      refine ⟨[(0, 10, 13, 21)], (0, 10, 17, 13), [], rfl, List.forall_mem_cons.mpr ⟨⟨by decide, _, kl_L_21, by decide, by decide⟩, fun z hz => absurd hz List.not_mem_nil⟩, by decide, by decide, by decide, kl_L_13, by decide, ?_⟩
      refine pv_astore (lv' := [(4, .ref q9), (0, .ref (ρ (0, 0))), (1, .int i), (2, .int w), (3, .ref oa)]) C d_L_differ_17 (by decide) rfl ?_
      refine pv_iconst (v := 2) C d_L_differ_19 (by decide) ?_
      exact pv_iret C R0 d_L_differ_20 (by decide) (by decide) (lP_x J ho (i := 1) hc (by decide) hzc rfl)
    | i9 + 2, hi, _ => simp at hi
  · obtain ⟨rfl, h0, ks', ρ', x', rfl, J', hρ, hL, hfr⟩ := h9
    have hod' := fr_ne hoL hod hfr
    refine pv_stf (f2 := cF γ ks' ρ' (m_differ z i w).2 x' f0) (st2 := [.int (m_differ z i w).1, .int 0, .ref oa]) (c2 := 2) (s2 := 12) rfl rfl rfl rfl ?_
    refine pv_i2l C d_L_differ_8 ?_
    refine pv_last C 5 rfl (hL _ hoL) ((kf_not hod').trans ho) (j := 0) rfl (by decide) (by decide) d_L_differ_9 ?_
    refine pk_fz (f2 := cF γ ks' ρ' (m_differ z i w).2 x' (va_up f0 oa (lo γ (vp_updL ov 0 (m_differ z i w).1.toInt64)))) (kf_out hod') ?_
    refine pv_goto (tgt := 21) C d_L_differ_10 (by decide) ?_
    refine pv_iconst (v := 0) C d_L_differ_21 (by decide) ?_
    exact pv_iret C R0 d_L_differ_22 (by decide) (by decide) ⟨by rw [h0], ks', ρ', x', _, rfl, fun _ => rfl, J', hρ, hL, hfr⟩
abbrev rm_L_claim : Room := { frames := 8, cells := 2, slots := 12, locals := 138 }
abbrev hh_L_claim : List (Nat × Nat × Nat × Nat) := [(0, 10, 13, 21), (0, 10, 17, 13)]
set_option maxRecDepth 100000 in
set_option maxHeartbeats 4000000 in
theorem c_L_claim {l0 : Launch} {D : va_G} {γ : Nat → ClassId} (hl0 : l0.stackTraces = false) {LP : List Nat} {ks : List kT} {ρ : kT → Nat} {z : zT} {x : xT} {f0 : Nat → va_E} (J : cI LP ks ρ z x) {oa : Nat} {ov : Nat → Int64} (hoL : oa ∈ LP) (ho : f0 oa = lo γ ov) (hod : ∀ k ∈ ks, ρ k ≠ oa) (a : Int32) (i : Int32)  : pv_M l0 D (tys_ γ) y_L_claim (Cond.codeWith y_L_claim b_L_claim 5 (Option.some FieldType.int) hh_L_claim) rm_L_claim [.ref (ρ (0, 0)), .int a, .int i, .ref oa] LP (cF γ ks ρ z x f0) (lPost γ LP ks ρ f0 oa (m_claim z a i)) (fun _ => False) := by
  refine pv_mkH hl0 (by decide) (Nat.le_of_ble_eq_true rfl) (fun κ C R0 hT => ?_)
  obtain ⟨H, hV, hz, hJ⟩ := id J
  have M0 : ((0, 0) : kT) ∈ ks := (hV _).mpr (Nat.zero_le _)
  show pv_V D κ 0 0 LP (cF γ ks ρ z x f0) 0 [(0, .ref (ρ (0, 0))), (1, .int a), (2, .int i), (3, .ref oa)] []
  refine pv_aload_n C d_L_claim_0 rfl 3 rfl ?_
  refine pv_iconst (v := 0) C d_L_claim_1 (by decide) ?_
  refine pv_aload_n C d_L_claim_2 rfl 0 rfl ?_
  refine pv_iload_n C d_L_claim_3 rfl 1 rfl ?_
  refine pv_iload_n C d_L_claim_4 rfl 2 rfl ?_
  refine pv_callVH (hh := hh_L_claim) (n := 2) (As := [.int a, .int i]) (rest := [.int 0, .ref oa]) C (c_S_claim hl0 J a i) cd_S_claim ml_L_80 in_S im_S_claim se_S_claim (H.1 _ M0) ((kf_at H M0).trans rfl) rfl rfl (by decide +kernel) (by decide) rfl (Nat.le_of_ble_eq_true rfl) rfl d_L_claim_5 (by decide) hT (fun E q9 hE => ?_) (fun v9 LP9 f9 h9 => ?_)
  · obtain ⟨⟨i9, hi, hc⟩, hzc⟩ := hE
    match i9, hi, hc with
    | 0, hi, hc =>
      cases hi
      refine ⟨[], (0, 10, 13, 21), [(0, 10, 17, 13)], rfl, fun z hz => absurd hz List.not_mem_nil, by decide, by decide, by decide, kl_L_21, by decide, ?_⟩
      refine pv_astore (lv' := [(4, .ref q9), (0, .ref (ρ (0, 0))), (1, .int a), (2, .int i), (3, .ref oa)]) C d_L_claim_13 (by decide) rfl ?_
      refine pv_iconst (v := 1) C d_L_claim_15 (by decide) ?_
      exact pv_iret C R0 d_L_claim_16 (by decide) (by decide) (lP_x J ho (i := 0) hc (by decide) hzc rfl)
    | 1, hi, hc =>
      cases hi
      refine ⟨[(0, 10, 13, 21)], (0, 10, 17, 13), [], rfl, List.forall_mem_cons.mpr ⟨⟨by decide, _, kl_L_21, by decide, by decide⟩, fun z hz => absurd hz List.not_mem_nil⟩, by decide, by decide, by decide, kl_L_13, by decide, ?_⟩
      refine pv_astore (lv' := [(4, .ref q9), (0, .ref (ρ (0, 0))), (1, .int a), (2, .int i), (3, .ref oa)]) C d_L_claim_17 (by decide) rfl ?_
      refine pv_iconst (v := 2) C d_L_claim_19 (by decide) ?_
      exact pv_iret C R0 d_L_claim_20 (by decide) (by decide) (lP_x J ho (i := 1) hc (by decide) hzc rfl)
    | i9 + 2, hi, _ => simp at hi
  · obtain ⟨rfl, h0, ks', ρ', x', rfl, J', hρ, hL, hfr⟩ := h9
    have hod' := fr_ne hoL hod hfr
    refine pv_stf (f2 := cF γ ks' ρ' (m_claim z a i).2 x' f0) (st2 := [.int (m_claim z a i).1, .int 0, .ref oa]) (c2 := 2) (s2 := 12) rfl rfl rfl rfl ?_
    refine pv_i2l C d_L_claim_8 ?_
    refine pv_last C 5 rfl (hL _ hoL) ((kf_not hod').trans ho) (j := 0) rfl (by decide) (by decide) d_L_claim_9 ?_
    refine pk_fz (f2 := cF γ ks' ρ' (m_claim z a i).2 x' (va_up f0 oa (lo γ (vp_updL ov 0 (m_claim z a i).1.toInt64)))) (kf_out hod') ?_
    refine pv_goto (tgt := 21) C d_L_claim_10 (by decide) ?_
    refine pv_iconst (v := 0) C d_L_claim_21 (by decide) ?_
    exact pv_iret C R0 d_L_claim_22 (by decide) (by decide) ⟨by rw [h0], ks', ρ', x', _, rfl, fun _ => rfl, J', hρ, hL, hfr⟩
abbrev rm_L_unit : Room := { frames := 8, cells := 2, slots := 12, locals := 135 }
abbrev hh_L_unit : List (Nat × Nat × Nat × Nat) := [(0, 10, 13, 21), (0, 10, 17, 13)]
set_option maxRecDepth 100000 in
set_option maxHeartbeats 4000000 in
theorem c_L_unit {l0 : Launch} {D : va_G} {γ : Nat → ClassId} (hl0 : l0.stackTraces = false) {LP : List Nat} {ks : List kT} {ρ : kT → Nat} {z : zT} {x : xT} {f0 : Nat → va_E} (J : cI LP ks ρ z x) {oa : Nat} {ov : Nat → Int64} (hoL : oa ∈ LP) (ho : f0 oa = lo γ ov) (hod : ∀ k ∈ ks, ρ k ≠ oa) (u : Int32) (w : Int32)  : pv_M l0 D (tys_ γ) y_L_unit (Cond.codeWith y_L_unit b_L_unit 5 (Option.some FieldType.int) hh_L_unit) rm_L_unit [.ref (ρ (0, 0)), .int u, .int w, .ref oa] LP (cF γ ks ρ z x f0) (lPost γ LP ks ρ f0 oa (m_unit z u w)) (fun _ => False) := by
  refine pv_mkH hl0 (by decide) (Nat.le_of_ble_eq_true rfl) (fun κ C R0 hT => ?_)
  obtain ⟨H, hV, hz, hJ⟩ := id J
  have M0 : ((0, 0) : kT) ∈ ks := (hV _).mpr (Nat.zero_le _)
  show pv_V D κ 0 0 LP (cF γ ks ρ z x f0) 0 [(0, .ref (ρ (0, 0))), (1, .int u), (2, .int w), (3, .ref oa)] []
  refine pv_aload_n C d_L_unit_0 rfl 3 rfl ?_
  refine pv_iconst (v := 0) C d_L_unit_1 (by decide) ?_
  refine pv_aload_n C d_L_unit_2 rfl 0 rfl ?_
  refine pv_iload_n C d_L_unit_3 rfl 1 rfl ?_
  refine pv_iload_n C d_L_unit_4 rfl 2 rfl ?_
  refine pv_callVH (hh := hh_L_unit) (n := 2) (As := [.int u, .int w]) (rest := [.int 0, .ref oa]) C (c_S_unit hl0 J u w) cd_S_unit ml_L_83 in_S im_S_unit se_S_unit (H.1 _ M0) ((kf_at H M0).trans rfl) rfl rfl (by decide +kernel) (by decide) rfl (Nat.le_of_ble_eq_true rfl) rfl d_L_unit_5 (by decide) hT (fun E q9 hE => ?_) (fun v9 LP9 f9 h9 => ?_)
  · obtain ⟨⟨i9, hi, hc⟩, hzc⟩ := hE
    match i9, hi, hc with
    | 0, hi, hc =>
      cases hi
      refine ⟨[], (0, 10, 13, 21), [(0, 10, 17, 13)], rfl, fun z hz => absurd hz List.not_mem_nil, by decide, by decide, by decide, kl_L_21, by decide, ?_⟩
      refine pv_astore (lv' := [(4, .ref q9), (0, .ref (ρ (0, 0))), (1, .int u), (2, .int w), (3, .ref oa)]) C d_L_unit_13 (by decide) rfl ?_
      refine pv_iconst (v := 1) C d_L_unit_15 (by decide) ?_
      exact pv_iret C R0 d_L_unit_16 (by decide) (by decide) (lP_x J ho (i := 0) hc (by decide) hzc rfl)
    | 1, hi, hc =>
      cases hi
      refine ⟨[(0, 10, 13, 21)], (0, 10, 17, 13), [], rfl, List.forall_mem_cons.mpr ⟨⟨by decide, _, kl_L_21, by decide, by decide⟩, fun z hz => absurd hz List.not_mem_nil⟩, by decide, by decide, by decide, kl_L_13, by decide, ?_⟩
      refine pv_astore (lv' := [(4, .ref q9), (0, .ref (ρ (0, 0))), (1, .int u), (2, .int w), (3, .ref oa)]) C d_L_unit_17 (by decide) rfl ?_
      refine pv_iconst (v := 2) C d_L_unit_19 (by decide) ?_
      exact pv_iret C R0 d_L_unit_20 (by decide) (by decide) (lP_x J ho (i := 1) hc (by decide) hzc rfl)
    | i9 + 2, hi, _ => simp at hi
  · obtain ⟨rfl, h0, ks', ρ', x', rfl, J', hρ, hL, hfr⟩ := h9
    have hod' := fr_ne hoL hod hfr
    refine pv_stf (f2 := cF γ ks' ρ' (m_unit z u w).2 x' f0) (st2 := [.int (m_unit z u w).1, .int 0, .ref oa]) (c2 := 2) (s2 := 12) rfl rfl rfl rfl ?_
    refine pv_i2l C d_L_unit_8 ?_
    refine pv_last C 5 rfl (hL _ hoL) ((kf_not hod').trans ho) (j := 0) rfl (by decide) (by decide) d_L_unit_9 ?_
    refine pk_fz (f2 := cF γ ks' ρ' (m_unit z u w).2 x' (va_up f0 oa (lo γ (vp_updL ov 0 (m_unit z u w).1.toInt64)))) (kf_out hod') ?_
    refine pv_goto (tgt := 21) C d_L_unit_10 (by decide) ?_
    refine pv_iconst (v := 0) C d_L_unit_21 (by decide) ?_
    exact pv_iret C R0 d_L_unit_22 (by decide) (by decide) ⟨by rw [h0], ks', ρ', x', _, rfl, fun _ => rfl, J', hρ, hL, hfr⟩
abbrev rm_L_told : Room := { frames := 9, cells := 3, slots := 18, locals := 160 }
abbrev hh_L_told : List (Nat × Nat × Nat × Nat) := [(0, 12, 15, 21), (0, 12, 19, 13)]
set_option maxRecDepth 100000 in
set_option maxHeartbeats 4000000 in
theorem c_L_told {l0 : Launch} {D : va_G} {γ : Nat → ClassId} (hl0 : l0.stackTraces = false) {LP : List Nat} {ks : List kT} {ρ : kT → Nat} {z : zT} {x : xT} {f0 : Nat → va_E} (J : cI LP ks ρ z x) {oa : Nat} {ov : Nat → Int64} (hoL : oa ∈ LP) (ho : f0 oa = lo γ ov) (hod : ∀ k ∈ ks, ρ k ≠ oa) (a : Int32) (n : Int32) (w : Int32)  : pv_M l0 D (tys_ γ) y_L_told (Cond.codeWith y_L_told b_L_told 6 (Option.some FieldType.int) hh_L_told) rm_L_told [.ref (ρ (0, 0)), .int a, .int n, .int w, .ref oa] LP (cF γ ks ρ z x f0) (lPost γ LP ks ρ f0 oa (m_told z a n w)) (fun _ => False) := by
  refine pv_mkH hl0 (by decide) (Nat.le_of_ble_eq_true rfl) (fun κ C R0 hT => ?_)
  obtain ⟨H, hV, hz, hJ⟩ := id J
  have M0 : ((0, 0) : kT) ∈ ks := (hV _).mpr (Nat.zero_le _)
  show pv_V D κ 0 0 LP (cF γ ks ρ z x f0) 0 [(0, .ref (ρ (0, 0))), (1, .int a), (2, .int n), (3, .int w), (4, .ref oa)] []
  refine pv_aload C d_L_told_0 4 rfl ?_
  refine pv_iconst (v := 0) C d_L_told_2 (by decide) ?_
  refine pv_aload_n C d_L_told_3 rfl 0 rfl ?_
  refine pv_iload_n C d_L_told_4 rfl 1 rfl ?_
  refine pv_iload_n C d_L_told_5 rfl 2 rfl ?_
  refine pv_iload_n C d_L_told_6 rfl 3 rfl ?_
  refine pv_callVH (hh := hh_L_told) (n := 3) (As := [.int a, .int n, .int w]) (rest := [.int 0, .ref oa]) C (c_S_told hl0 J a n w) cd_S_told ml_L_86 in_S im_S_told se_S_told (H.1 _ M0) ((kf_at H M0).trans rfl) rfl rfl (by decide +kernel) (by decide) rfl (Nat.le_of_ble_eq_true rfl) rfl d_L_told_7 (by decide) hT (fun E q9 hE => ?_) (fun v9 LP9 f9 h9 => ?_)
  · obtain ⟨⟨i9, hi, hc⟩, hzc⟩ := hE
    match i9, hi, hc with
    | 0, hi, hc =>
      cases hi
      refine ⟨[], (0, 12, 15, 21), [(0, 12, 19, 13)], rfl, fun z hz => absurd hz List.not_mem_nil, by decide, by decide, by decide, kl_L_21, by decide, ?_⟩
      refine pv_astore (lv' := [(5, .ref q9), (0, .ref (ρ (0, 0))), (1, .int a), (2, .int n), (3, .int w), (4, .ref oa)]) C d_L_told_15 (by decide) rfl ?_
      refine pv_iconst (v := 1) C d_L_told_17 (by decide) ?_
      exact pv_iret C R0 d_L_told_18 (by decide) (by decide) (lP_x J ho (i := 0) hc (by decide) hzc rfl)
    | 1, hi, hc =>
      cases hi
      refine ⟨[(0, 12, 15, 21)], (0, 12, 19, 13), [], rfl, List.forall_mem_cons.mpr ⟨⟨by decide, _, kl_L_21, by decide, by decide⟩, fun z hz => absurd hz List.not_mem_nil⟩, by decide, by decide, by decide, kl_L_13, by decide, ?_⟩
      refine pv_astore (lv' := [(5, .ref q9), (0, .ref (ρ (0, 0))), (1, .int a), (2, .int n), (3, .int w), (4, .ref oa)]) C d_L_told_19 (by decide) rfl ?_
      refine pv_iconst (v := 2) C d_L_told_21 (by decide) ?_
      exact pv_iret C R0 d_L_told_22 (by decide) (by decide) (lP_x J ho (i := 1) hc (by decide) hzc rfl)
    | i9 + 2, hi, _ => simp at hi
  · obtain ⟨rfl, h0, ks', ρ', x', rfl, J', hρ, hL, hfr⟩ := h9
    have hod' := fr_ne hoL hod hfr
    refine pv_stf (f2 := cF γ ks' ρ' (m_told z a n w).2 x' f0) (st2 := [.int (m_told z a n w).1, .int 0, .ref oa]) (c2 := 3) (s2 := 18) rfl rfl rfl rfl ?_
    refine pv_i2l C d_L_told_10 ?_
    refine pv_last C 5 rfl (hL _ hoL) ((kf_not hod').trans ho) (j := 0) rfl (by decide) (by decide) d_L_told_11 ?_
    refine pk_fz (f2 := cF γ ks' ρ' (m_told z a n w).2 x' (va_up f0 oa (lo γ (vp_updL ov 0 (m_told z a n w).1.toInt64)))) (kf_out hod') ?_
    refine pv_goto (tgt := 23) C d_L_told_12 (by decide) ?_
    refine pv_iconst (v := 0) C d_L_told_23 (by decide) ?_
    exact pv_iret C R0 d_L_told_24 (by decide) (by decide) ⟨by rw [h0], ks', ρ', x', _, rfl, fun _ => rfl, J', hρ, hL, hfr⟩
abbrev rm_L_state : Room := { frames := 8, cells := 2, slots := 12, locals := 135 }
abbrev hh_L_state : List (Nat × Nat × Nat × Nat) := [(0, 10, 13, 21), (0, 10, 17, 13)]
set_option maxRecDepth 100000 in
set_option maxHeartbeats 4000000 in
theorem c_L_state {l0 : Launch} {D : va_G} {γ : Nat → ClassId} (hl0 : l0.stackTraces = false) {LP : List Nat} {ks : List kT} {ρ : kT → Nat} {z : zT} {x : xT} {f0 : Nat → va_E} (J : cI LP ks ρ z x) {oa : Nat} {ov : Nat → Int64} (hoL : oa ∈ LP) (ho : f0 oa = lo γ ov) (hod : ∀ k ∈ ks, ρ k ≠ oa) (a : Int32) (w : Int32)  : pv_M l0 D (tys_ γ) y_L_state (Cond.codeWith y_L_state b_L_state 5 (Option.some FieldType.int) hh_L_state) rm_L_state [.ref (ρ (0, 0)), .int a, .int w, .ref oa] LP (cF γ ks ρ z x f0) (lPost γ LP ks ρ f0 oa (m_state z a w)) (fun _ => False) := by
  refine pv_mkH hl0 (by decide) (Nat.le_of_ble_eq_true rfl) (fun κ C R0 hT => ?_)
  obtain ⟨H, hV, hz, hJ⟩ := id J
  have M0 : ((0, 0) : kT) ∈ ks := (hV _).mpr (Nat.zero_le _)
  show pv_V D κ 0 0 LP (cF γ ks ρ z x f0) 0 [(0, .ref (ρ (0, 0))), (1, .int a), (2, .int w), (3, .ref oa)] []
  refine pv_aload_n C d_L_state_0 rfl 3 rfl ?_
  refine pv_iconst (v := 0) C d_L_state_1 (by decide) ?_
  refine pv_aload_n C d_L_state_2 rfl 0 rfl ?_
  refine pv_iload_n C d_L_state_3 rfl 1 rfl ?_
  refine pv_iload_n C d_L_state_4 rfl 2 rfl ?_
  refine pv_callVH (hh := hh_L_state) (n := 2) (As := [.int a, .int w]) (rest := [.int 0, .ref oa]) C (c_S_state hl0 J a w) cd_S_state ml_L_89 in_S im_S_state se_S_state (H.1 _ M0) ((kf_at H M0).trans rfl) rfl rfl (by decide +kernel) (by decide) rfl (Nat.le_of_ble_eq_true rfl) rfl d_L_state_5 (by decide) hT (fun E q9 hE => ?_) (fun v9 LP9 f9 h9 => ?_)
  · obtain ⟨⟨i9, hi, hc⟩, hzc⟩ := hE
    match i9, hi, hc with
    | 0, hi, hc =>
      cases hi
      refine ⟨[], (0, 10, 13, 21), [(0, 10, 17, 13)], rfl, fun z hz => absurd hz List.not_mem_nil, by decide, by decide, by decide, kl_L_21, by decide, ?_⟩
      refine pv_astore (lv' := [(4, .ref q9), (0, .ref (ρ (0, 0))), (1, .int a), (2, .int w), (3, .ref oa)]) C d_L_state_13 (by decide) rfl ?_
      refine pv_iconst (v := 1) C d_L_state_15 (by decide) ?_
      exact pv_iret C R0 d_L_state_16 (by decide) (by decide) (lP_x J ho (i := 0) hc (by decide) hzc rfl)
    | 1, hi, hc =>
      cases hi
      refine ⟨[(0, 10, 13, 21)], (0, 10, 17, 13), [], rfl, List.forall_mem_cons.mpr ⟨⟨by decide, _, kl_L_21, by decide, by decide⟩, fun z hz => absurd hz List.not_mem_nil⟩, by decide, by decide, by decide, kl_L_13, by decide, ?_⟩
      refine pv_astore (lv' := [(4, .ref q9), (0, .ref (ρ (0, 0))), (1, .int a), (2, .int w), (3, .ref oa)]) C d_L_state_17 (by decide) rfl ?_
      refine pv_iconst (v := 2) C d_L_state_19 (by decide) ?_
      exact pv_iret C R0 d_L_state_20 (by decide) (by decide) (lP_x J ho (i := 1) hc (by decide) hzc rfl)
    | i9 + 2, hi, _ => simp at hi
  · obtain ⟨rfl, h0, ks', ρ', x', rfl, J', hρ, hL, hfr⟩ := h9
    have hod' := fr_ne hoL hod hfr
    refine pv_stf (f2 := cF γ ks' ρ' (m_state z a w).2 x' f0) (st2 := [.int (m_state z a w).1, .int 0, .ref oa]) (c2 := 2) (s2 := 12) rfl rfl rfl rfl ?_
    refine pv_i2l C d_L_state_8 ?_
    refine pv_last C 5 rfl (hL _ hoL) ((kf_not hod').trans ho) (j := 0) rfl (by decide) (by decide) d_L_state_9 ?_
    refine pk_fz (f2 := cF γ ks' ρ' (m_state z a w).2 x' (va_up f0 oa (lo γ (vp_updL ov 0 (m_state z a w).1.toInt64)))) (kf_out hod') ?_
    refine pv_goto (tgt := 21) C d_L_state_10 (by decide) ?_
    refine pv_iconst (v := 0) C d_L_state_21 (by decide) ?_
    exact pv_iret C R0 d_L_state_22 (by decide) (by decide) ⟨by rw [h0], ks', ρ', x', _, rfl, fun _ => rfl, J', hρ, hL, hfr⟩
