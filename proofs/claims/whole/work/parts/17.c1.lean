/-! contracts of the component: helpers (by wip/whole/gen/c1.py, c2.py, cwalk.py) -/
theorem bN_fit (b : Bool) : fits .boolean (.int (bN b)) = true := by cases b <;> rfl
theorem gA_at {ρ : kT → Nat} {z : zT} {i : Nat} (h1 : 1 ≤ i) (h2 : i ≤ zA z) : gA ρ z (i - 1) = some (ρ (1, i)) := by
  unfold gA
  rw [if_pos (by omega), show i - 1 + 1 = i by omega]
theorem gU_at {ρ : kT → Nat} {z : zT} {i : Nat} (h1 : 1 ≤ i) (h2 : i ≤ zU z) : gU ρ z (i - 1) = some (ρ (4, i)) := by
  unfold gU
  rw [if_pos (by omega), show i - 1 + 1 = i by omega]
theorem gD_at {ρ : kT → Nat} {z : zT} {i : Nat} (h : i < zD z) : gD ρ z i = some (ρ (3, ix (z 30 i))) := if_pos h
theorem gL_at {ρ : kT → Nat} {z : zT} {i j : Nat} (h : j < zt z i) : gL ρ z i j = some (ρ (3, 4 * i + j)) := if_pos h
theorem pr_ix {a : Int32} (h : a = nI (ix a)) (h1 : 1 ≤ ix a) : a - 1 = nI (ix a - 1) := by
  obtain ⟨w, hw⟩ : ∃ w, ix a = w + 1 := ⟨ix a - 1, by omega⟩
  rw [hw] at h ⊢
  rw [h, nI_pred, Nat.add_sub_cancel]
abbrev rm_S_mustBeWithin : Room := { frames := 6, cells := 1, slots := 6, locals := 90 }
set_option maxRecDepth 100000 in
set_option maxHeartbeats 4000000 in
theorem c_S_mustBeWithin {l0 : Launch} {D : va_G} {γ : Nat → ClassId} (hl0 : l0.stackTraces = false) {LP : List Nat} {f : Nat → va_E} (n lo hi : Int32)  : pv_M l0 D (tys_ γ) y_S_mustBeWithin (Cond.code y_S_mustBeWithin b_S_mustBeWithin 3 (Option.none : Option FieldType)) rm_S_mustBeWithin [.int n, .int lo, .int hi] LP f (fun w LP1 f1 => rdP LP f none w LP1 f1 ∧ inB n lo hi = true) (fun E => E = eIA ∧ inB n lo hi = false) := by
  refine pv_mk hl0 (by decide) (Nat.le_of_ble_eq_true rfl) (fun κ C R0 hN _ => ?_)
  show pv_V D κ 0 0 LP f 0 [(0, .int n), (1, .int lo), (2, .int hi)] []
  refine pv_iload_n C d_S_mustBeWithin_0 rfl 0 rfl ?_
  refine pv_iload_n C d_S_mustBeWithin_1 rfl 1 rfl ?_
  refine pv_icmp_lt (tgt := 10) C d_S_mustBeWithin_2 (by decide) (fun h1 => ?_) (fun h1 => ?_)
  · exact pv_throw (LP0 := []) (f0 := fun _ => .inr (0, [])) (text := "a number outside its range") C hN R0 (by decide) (by decide) kl_S_203 in_IllegalArgumentException rfl (by decide) th1_IA th2_IA th3_IA d_S_mustBeWithin_10 d_S_mustBeWithin_13 d_S_mustBeWithin_14 d_S_mustBeWithin_16 d_S_mustBeWithin_19 (by decide) (Nat.le_of_ble_eq_true rfl) (by decide) (by decide) (⟨rfl, by simp [inB, ← Int32.not_lt, h1]⟩)
  · refine pv_iload_n C d_S_mustBeWithin_5 rfl 0 rfl ?_
    refine pv_iload_n C d_S_mustBeWithin_6 rfl 2 rfl ?_
    refine pv_icmp_le (tgt := 20) C d_S_mustBeWithin_7 (by decide) (fun h2 => ?_) (fun h2 => ?_)
    · exact pv_vret C R0 d_S_mustBeWithin_20 (by decide) (by decide) ⟨⟨rfl, rfl, rfl⟩, by simp [inB, ← Int32.not_lt, h1, h2]⟩
    · exact pv_throw (LP0 := []) (f0 := fun _ => .inr (0, [])) (text := "a number outside its range") C hN R0 (by decide) (by decide) kl_S_203 in_IllegalArgumentException rfl (by decide) th1_IA th2_IA th3_IA d_S_mustBeWithin_10 d_S_mustBeWithin_13 d_S_mustBeWithin_14 d_S_mustBeWithin_16 d_S_mustBeWithin_19 (by decide) (Nat.le_of_ble_eq_true rfl) (by decide) (by decide) (⟨rfl, by simp [inB, ← Int32.not_lt, h1, h2]⟩)
abbrev rm_S_mustHold : Room := { frames := 6, cells := 1, slots := 6, locals := 90 }
set_option maxRecDepth 100000 in
set_option maxHeartbeats 4000000 in
theorem c_S_mustHold {l0 : Launch} {D : va_G} {γ : Nat → ClassId} (hl0 : l0.stackTraces = false) {LP : List Nat} {f : Nat → va_E} (b : Bool)  : pv_M l0 D (tys_ γ) y_S_mustHold (Cond.code y_S_mustHold b_S_mustHold 1 (Option.none : Option FieldType)) rm_S_mustHold [.int (bN b)] LP f (fun w LP1 f1 => rdP LP f none w LP1 f1 ∧ b = true) (fun E => E = eIS ∧ b = false) := by
  refine pv_mk hl0 (by decide) (Nat.le_of_ble_eq_true rfl) (fun κ C R0 hN _ => ?_)
  show pv_V D κ 0 0 LP f 0 [(0, .int (bN b))] []
  refine pv_iload_n C d_S_mustHold_0 rfl 0 rfl ?_
  refine pv_ifb_ne (tgt := 14) C d_S_mustHold_1 (by decide) (fun h1 => ?_) (fun h1 => ?_)
  · exact pv_vret C R0 d_S_mustHold_14 (by decide) (by decide) ⟨⟨rfl, rfl, rfl⟩, by exact h1⟩
  · exact pv_throw (LP0 := []) (f0 := fun _ => .inr (0, [])) (text := "not as it is now") C hN R0 (by decide) (by decide) kl_S_233 in_IllegalStateException rfl (by decide) th1_IS th2_IS th3_IS d_S_mustHold_4 d_S_mustHold_7 d_S_mustHold_8 d_S_mustHold_10 d_S_mustHold_13 (by decide) (Nat.le_of_ble_eq_true rfl) (by decide) (by decide) (⟨rfl, h1⟩)
abbrev rm_S_bitOf : Room := { frames := 0, cells := 0, slots := 0, locals := 0 }
set_option maxRecDepth 100000 in
set_option maxHeartbeats 4000000 in
theorem c_S_bitOf {l0 : Launch} {D : va_G} {γ : Nat → ClassId} (hl0 : l0.stackTraces = false) {LP : List Nat} {f : Nat → va_E} (p : Int32)  : pv_M l0 D (tys_ γ) y_S_bitOf (Cond.code y_S_bitOf b_S_bitOf 1 (Option.some FieldType.int)) rm_S_bitOf [.int p] LP f (rdP LP f (some (.int (bitI p)))) (fun _ => False) := by
  refine pv_mk hl0 (by decide) (Nat.le_of_ble_eq_true rfl) (fun κ C R0 hN _ => ?_)
  show pv_V D κ 0 0 LP f 0 [(0, .int p)] []
  refine pv_iconst (v := 1) C d_S_bitOf_0 (by decide) ?_
  refine pv_iload_n C d_S_bitOf_1 rfl 0 rfl ?_
  refine pv_ishl C d_S_bitOf_2 ?_
  exact pv_iret C R0 d_S_bitOf_3 (by decide) (by decide) ⟨by rfl, rfl, rfl⟩
abbrev rm_A_hasArrived : Room := { frames := 0, cells := 0, slots := 0, locals := 0 }
set_option maxRecDepth 100000 in
set_option maxHeartbeats 4000000 in
theorem c_A_hasArrived {l0 : Launch} {D : va_G} {γ : Nat → ClassId} (hl0 : l0.stackTraces = false) {LP : List Nat} {ks : List kT} {ρ : kT → Nat} {z : zT} {x : xT} {f0 : Nat → va_E} (J : cI LP ks ρ z x) (i : Nat) (hi : 1 ≤ i ∧ i ≤ zA z) : pv_M l0 D (tys_ γ) y_A_hasArrived (Cond.code y_A_hasArrived b_A_hasArrived 1 (Option.some FieldType.boolean)) rm_A_hasArrived [.ref (ρ (1, i))] LP (cF γ ks ρ z x f0) (rdP LP (cF γ ks ρ z x f0) (some (.int (bN (decide (z 7 i = 1)))))) (fun _ => False) := by
  refine pv_mk hl0 (by decide) (Nat.le_of_ble_eq_true rfl) (fun κ C R0 hN _ => ?_)
  obtain ⟨H, hV, hz, hJ⟩ := id J
  have M0 : ((0, 0) : kT) ∈ ks := (hV _).mpr (Nat.zero_le _)
  have M1 : ((0, 1) : kT) ∈ ks := (hV _).mpr (by decide : 1 ≤ 3)
  have M2 : ((0, 2) : kT) ∈ ks := (hV _).mpr (by decide : 2 ≤ 3)
  have M3 : ((0, 3) : kT) ∈ ks := (hV _).mpr (by decide : 3 ≤ 3)
  show pv_V D κ 0 0 LP (cF γ ks ρ z x f0) 0 [(0, .ref (ρ (1, i)))] []
  have MA : ((1, i) : kT) ∈ ks := (hV _).mpr hi
  have ML : ((2, i) : kT) ∈ ks := (hV _).mpr hi
  refine pv_aload_n C d_A_hasArrived_0 rfl 0 rfl ?_
  refine pv_get (v := .int (z 7 i)) (ci := 0) C hin_A rfl (H.1 _ MA) ((kf_at H MA).trans rfl) 5 (by decide) fl_A_27 rfl rfl d_A_hasArrived_1 ?_
  refine pv_iconst (v := 1) C d_A_hasArrived_4 (by decide) ?_
  refine pv_icmp_ne (tgt := 12) C d_A_hasArrived_5 (by decide) (fun h1 => ?_) (fun h1 => ?_)
  · refine pv_iconst (v := 0) C d_A_hasArrived_12 (by decide) ?_
    exact pv_zret C rfl R0 d_A_hasArrived_13 (by decide) (by decide) ⟨by simp [bN, h1], rfl, rfl⟩
  · refine pv_iconst (v := 1) C d_A_hasArrived_8 (by decide) ?_
    refine pv_goto (tgt := 13) C d_A_hasArrived_9 (by decide) ?_
    exact pv_zret C rfl R0 d_A_hasArrived_13 (by decide) (by decide) ⟨by simp [bN, h1], rfl, rfl⟩
abbrev rm_A_hasAllLines : Room := { frames := 0, cells := 0, slots := 0, locals := 0 }
set_option maxRecDepth 100000 in
set_option maxHeartbeats 4000000 in
theorem c_A_hasAllLines {l0 : Launch} {D : va_G} {γ : Nat → ClassId} (hl0 : l0.stackTraces = false) {LP : List Nat} {ks : List kT} {ρ : kT → Nat} {z : zT} {x : xT} {f0 : Nat → va_E} (J : cI LP ks ρ z x) (i : Nat) (hi : 1 ≤ i ∧ i ≤ zA z) : pv_M l0 D (tys_ γ) y_A_hasAllLines (Cond.code y_A_hasAllLines b_A_hasAllLines 1 (Option.some FieldType.boolean)) rm_A_hasAllLines [.ref (ρ (1, i))] LP (cF γ ks ρ z x f0) (rdP LP (cF γ ks ρ z x f0) (some (.int (bN (decide (z 5 i ≤ z 6 i) || decide (4 ≤ z 6 i)))))) (fun _ => False) := by
  refine pv_mk hl0 (by decide) (Nat.le_of_ble_eq_true rfl) (fun κ C R0 hN _ => ?_)
  obtain ⟨H, hV, hz, hJ⟩ := id J
  have M0 : ((0, 0) : kT) ∈ ks := (hV _).mpr (Nat.zero_le _)
  have M1 : ((0, 1) : kT) ∈ ks := (hV _).mpr (by decide : 1 ≤ 3)
  have M2 : ((0, 2) : kT) ∈ ks := (hV _).mpr (by decide : 2 ≤ 3)
  have M3 : ((0, 3) : kT) ∈ ks := (hV _).mpr (by decide : 3 ≤ 3)
  show pv_V D κ 0 0 LP (cF γ ks ρ z x f0) 0 [(0, .ref (ρ (1, i)))] []
  have MA : ((1, i) : kT) ∈ ks := (hV _).mpr hi
  have ML : ((2, i) : kT) ∈ ks := (hV _).mpr hi
  refine pv_aload_n C d_A_hasAllLines_0 rfl 0 rfl ?_
  refine pv_get (v := .int (z 6 i)) (ci := 0) C hin_A rfl (H.1 _ MA) ((kf_at H MA).trans rfl) 4 (by decide) fl_A_33 rfl rfl d_A_hasAllLines_1 ?_
  refine pv_aload_n C d_A_hasAllLines_4 rfl 0 rfl ?_
  refine pv_get (v := .int (z 5 i)) (ci := 0) C hin_A rfl (H.1 _ MA) ((kf_at H MA).trans rfl) 2 (by decide) fl_A_18 rfl rfl d_A_hasAllLines_5 ?_
  refine pv_icmp_ge (tgt := 23) C d_A_hasAllLines_8 (by decide) (fun h1 => ?_) (fun h1 => ?_)
  · refine pv_iconst (v := 1) C d_A_hasAllLines_23 (by decide) ?_
    refine pv_goto (tgt := 28) C d_A_hasAllLines_24 (by decide) ?_
    exact pv_zret C rfl R0 d_A_hasAllLines_28 (by decide) (by decide) ⟨by simp [bN, ← Int32.not_lt, h1], rfl, rfl⟩
  · refine pv_aload_n C d_A_hasAllLines_11 rfl 0 rfl ?_
    refine pv_get (v := .int (z 6 i)) (ci := 0) C hin_A rfl (H.1 _ MA) ((kf_at H MA).trans rfl) 4 (by decide) fl_A_33 rfl rfl d_A_hasAllLines_12 ?_
    refine pv_aload_n C d_A_hasAllLines_15 rfl 0 rfl ?_
    refine pv_get (v := .ref (ρ (2, i))) (ci := 0) C hin_A rfl (H.1 _ MA) ((kf_at H MA).trans rfl) 3 (by decide) fl_A_23 rfl rfl d_A_hasAllLines_16 ?_
    refine pv_alen C 1 rfl (H.1 _ ML) ((kf_at H ML).trans rfl) (v := 4) rfl d_A_hasAllLines_19 ?_
    refine pv_icmp_lt (tgt := 27) C d_A_hasAllLines_20 (by decide) (fun h2 => ?_) (fun h2 => ?_)
    · refine pv_iconst (v := 0) C d_A_hasAllLines_27 (by decide) ?_
      exact pv_zret C rfl R0 d_A_hasAllLines_28 (by decide) (by decide) ⟨by simp [bN, ← Int32.not_lt, h1, h2], rfl, rfl⟩
    · refine pv_iconst (v := 1) C d_A_hasAllLines_23 (by decide) ?_
      refine pv_goto (tgt := 28) C d_A_hasAllLines_24 (by decide) ?_
      exact pv_zret C rfl R0 d_A_hasAllLines_28 (by decide) (by decide) ⟨by simp [bN, ← Int32.not_lt, h1, h2], rfl, rfl⟩
abbrev rm_A_standsAt : Room := { frames := 0, cells := 0, slots := 0, locals := 0 }
set_option maxRecDepth 100000 in
set_option maxHeartbeats 4000000 in
theorem c_A_standsAt {l0 : Launch} {D : va_G} {γ : Nat → ClassId} (hl0 : l0.stackTraces = false) {LP : List Nat} {ks : List kT} {ρ : kT → Nat} {z : zT} {x : xT} {f0 : Nat → va_E} (J : cI LP ks ρ z x) (i : Nat) (d : Int32) (hi : 1 ≤ i ∧ i ≤ zA z) : pv_M l0 D (tys_ γ) y_A_standsAt (Cond.code y_A_standsAt b_A_standsAt 2 (Option.some FieldType.boolean)) rm_A_standsAt [.ref (ρ (1, i)), .int d] LP (cF γ ks ρ z x f0) (rdP LP (cF γ ks ρ z x f0) (some (.int (bN (decide (z 8 i = d) && (!decide (z 7 i = 0) && !decide (z 7 i = 3))))))) (fun _ => False) := by
  refine pv_mk hl0 (by decide) (Nat.le_of_ble_eq_true rfl) (fun κ C R0 hN _ => ?_)
  obtain ⟨H, hV, hz, hJ⟩ := id J
  have M0 : ((0, 0) : kT) ∈ ks := (hV _).mpr (Nat.zero_le _)
  have M1 : ((0, 1) : kT) ∈ ks := (hV _).mpr (by decide : 1 ≤ 3)
  have M2 : ((0, 2) : kT) ∈ ks := (hV _).mpr (by decide : 2 ≤ 3)
  have M3 : ((0, 3) : kT) ∈ ks := (hV _).mpr (by decide : 3 ≤ 3)
  show pv_V D κ 0 0 LP (cF γ ks ρ z x f0) 0 [(0, .ref (ρ (1, i))), (1, .int d)] []
  have MA : ((1, i) : kT) ∈ ks := (hV _).mpr hi
  have ML : ((2, i) : kT) ∈ ks := (hV _).mpr hi
  refine pv_aload_n C d_A_standsAt_0 rfl 0 rfl ?_
  refine pv_get (v := .int (z 8 i)) (ci := 0) C hin_A rfl (H.1 _ MA) ((kf_at H MA).trans rfl) 6 (by decide) fl_A_30 rfl rfl d_A_standsAt_1 ?_
  refine pv_iload_n C d_A_standsAt_4 rfl 1 rfl ?_
  refine pv_icmp_ne (tgt := 27) C d_A_standsAt_5 (by decide) (fun h1 => ?_) (fun h1 => ?_)
  · refine pv_iconst (v := 0) C d_A_standsAt_27 (by decide) ?_
    exact pv_zret C rfl R0 d_A_standsAt_28 (by decide) (by decide) ⟨by simp [bN, h1], rfl, rfl⟩
  · refine pv_aload_n C d_A_standsAt_8 rfl 0 rfl ?_
    refine pv_get (v := .int (z 7 i)) (ci := 0) C hin_A rfl (H.1 _ MA) ((kf_at H MA).trans rfl) 5 (by decide) fl_A_27 rfl rfl d_A_standsAt_9 ?_
    refine pv_if_eq (tgt := 27) C d_A_standsAt_12 (by decide) (fun h2 => ?_) (fun h2 => ?_)
    · refine pv_iconst (v := 0) C d_A_standsAt_27 (by decide) ?_
      exact pv_zret C rfl R0 d_A_standsAt_28 (by decide) (by decide) ⟨by simp [bN, h1, h2], rfl, rfl⟩
    · refine pv_aload_n C d_A_standsAt_15 rfl 0 rfl ?_
      refine pv_get (v := .int (z 7 i)) (ci := 0) C hin_A rfl (H.1 _ MA) ((kf_at H MA).trans rfl) 5 (by decide) fl_A_27 rfl rfl d_A_standsAt_16 ?_
      refine pv_iconst (v := 3) C d_A_standsAt_19 (by decide) ?_
      refine pv_icmp_eq (tgt := 27) C d_A_standsAt_20 (by decide) (fun h3 => ?_) (fun h3 => ?_)
      · refine pv_iconst (v := 0) C d_A_standsAt_27 (by decide) ?_
        exact pv_zret C rfl R0 d_A_standsAt_28 (by decide) (by decide) ⟨by simp [bN, h1, h2, h3], rfl, rfl⟩
      · refine pv_iconst (v := 1) C d_A_standsAt_23 (by decide) ?_
        refine pv_goto (tgt := 28) C d_A_standsAt_24 (by decide) ?_
        exact pv_zret C rfl R0 d_A_standsAt_28 (by decide) (by decide) ⟨by simp [bN, h1, h2, h3], rfl, rfl⟩
abbrev rm_N_mostTaken : Room := { frames := 0, cells := 0, slots := 0, locals := 0 }
set_option maxRecDepth 100000 in
set_option maxHeartbeats 4000000 in
theorem c_N_mostTaken {l0 : Launch} {D : va_G} {γ : Nat → ClassId} (hl0 : l0.stackTraces = false) {LP : List Nat} {ks : List kT} {ρ : kT → Nat} {z : zT} {x : xT} {f0 : Nat → va_E} (J : cI LP ks ρ z x) (i : Nat) (hi : vK z (3, i)) : pv_M l0 D (tys_ γ) y_N_mostTaken (Cond.code y_N_mostTaken b_N_mostTaken 1 (Option.some FieldType.int)) rm_N_mostTaken [.ref (ρ (3, i))] LP (cF γ ks ρ z x f0) (rdP LP (cF γ ks ρ z x f0) (some (.int (z 10 i + z 10 i * z 11 i / 100)))) (fun _ => False) := by
  refine pv_mk hl0 (by decide) (Nat.le_of_ble_eq_true rfl) (fun κ C R0 hN _ => ?_)
  obtain ⟨H, hV, hz, hJ⟩ := id J
  have M0 : ((0, 0) : kT) ∈ ks := (hV _).mpr (Nat.zero_le _)
  have M1 : ((0, 1) : kT) ∈ ks := (hV _).mpr (by decide : 1 ≤ 3)
  have M2 : ((0, 2) : kT) ∈ ks := (hV _).mpr (by decide : 2 ≤ 3)
  have M3 : ((0, 3) : kT) ∈ ks := (hV _).mpr (by decide : 3 ≤ 3)
  show pv_V D κ 0 0 LP (cF γ ks ρ z x f0) 0 [(0, .ref (ρ (3, i)))] []
  have MN : ((3, i) : kT) ∈ ks := (hV _).mpr hi
  refine pv_aload_n C d_N_mostTaken_0 rfl 0 rfl ?_
  refine pv_get (v := .int (z 10 i)) (ci := 1) C hin_N rfl (H.1 _ MN) ((kf_at H MN).trans rfl) 3 (by decide) fl_N_20 rfl rfl d_N_mostTaken_1 ?_
  refine pv_aload_n C d_N_mostTaken_4 rfl 0 rfl ?_
  refine pv_get (v := .int (z 10 i)) (ci := 1) C hin_N rfl (H.1 _ MN) ((kf_at H MN).trans rfl) 3 (by decide) fl_N_20 rfl rfl d_N_mostTaken_5 ?_
  refine pv_aload_n C d_N_mostTaken_8 rfl 0 rfl ?_
  refine pv_get (v := .int (z 11 i)) (ci := 1) C hin_N rfl (H.1 _ MN) ((kf_at H MN).trans rfl) 4 (by decide) fl_N_23 rfl rfl d_N_mostTaken_9 ?_
  refine pv_imul C d_N_mostTaken_12 ?_
  refine pv_bipush (v := 100) C d_N_mostTaken_13 (by decide) ?_
  refine pv_idiv C d_N_mostTaken_15 (by decide) ?_
  refine pv_iadd C d_N_mostTaken_16 ?_
  exact pv_iret C R0 d_N_mostTaken_17 (by decide) (by decide) ⟨by rfl, rfl, rfl⟩
theorem open_eq {z : zT} {x : xT} {i : Nat} (hJ : zJ z x) (hi : i < 68) : (if z 13 i - z 14 i < 0 then 0 else z 13 i - z 14 i) = m_open z i := by
  obtain ⟨⟨a1, a2⟩, b1, b2⟩ := hJ.2.2.2.2.2.1 i hi
  unfold m_open
  rw [a1, b1]
  by_cases h : ix (z 13 i) ≤ ix (z 14 i)
  · rw [if_pos (nI_le h (by omega))]
    by_cases h2 : ix (z 13 i) = ix (z 14 i)
    · rw [h2, Int32.sub_self]; rfl
    · rw [if_pos (pk_sneg (by omega) (by omega))]
  · rw [if_neg (nI_ge (by omega) (by omega)), pk_sub (by omega), if_neg (nI_pos (by omega))]
abbrev rm_N_openSamples : Room := { frames := 1, cells := 0, slots := 0, locals := 16 }
set_option maxRecDepth 100000 in
set_option maxHeartbeats 4000000 in
theorem c_N_openSamples {l0 : Launch} {D : va_G} {γ : Nat → ClassId} (hl0 : l0.stackTraces = false) {LP : List Nat} {ks : List kT} {ρ : kT → Nat} {z : zT} {x : xT} {f0 : Nat → va_E} (J : cI LP ks ρ z x) (i : Nat) (hi : vK z (3, i)) : pv_M l0 D (tys_ γ) y_N_openSamples (Cond.code y_N_openSamples b_N_openSamples 1 (Option.some FieldType.int)) rm_N_openSamples [.ref (ρ (3, i))] LP (cF γ ks ρ z x f0) (rdP LP (cF γ ks ρ z x f0) (some (.int (m_open z i)))) (fun _ => False) := by
  refine pv_mk hl0 (by decide) (Nat.le_of_ble_eq_true rfl) (fun κ C R0 hN _ => ?_)
  obtain ⟨H, hV, hz, hJ⟩ := id J
  have M0 : ((0, 0) : kT) ∈ ks := (hV _).mpr (Nat.zero_le _)
  have M1 : ((0, 1) : kT) ∈ ks := (hV _).mpr (by decide : 1 ≤ 3)
  have M2 : ((0, 2) : kT) ∈ ks := (hV _).mpr (by decide : 2 ≤ 3)
  have M3 : ((0, 3) : kT) ∈ ks := (hV _).mpr (by decide : 3 ≤ 3)
  show pv_V D κ 0 0 LP (cF γ ks ρ z x f0) 0 [(0, .ref (ρ (3, i)))] []
  have MN : ((3, i) : kT) ∈ ks := (hV _).mpr hi
  refine pv_aload_n C d_N_openSamples_0 rfl 0 rfl ?_
  refine pv_get (v := .int (z 13 i)) (ci := 1) C hin_N rfl (H.1 _ MN) ((kf_at H MN).trans rfl) 5 (by decide) fl_N_26 rfl rfl d_N_openSamples_1 ?_
  refine pv_aload_n C d_N_openSamples_4 rfl 0 rfl ?_
  refine pv_get (v := .int (z 14 i)) (ci := 1) C hin_N rfl (H.1 _ MN) ((kf_at H MN).trans rfl) 6 (by decide) fl_N_29 rfl rfl d_N_openSamples_5 ?_
  refine pv_isub C d_N_openSamples_8 ?_
  refine pv_iconst (v := 0) C d_N_openSamples_9 (by decide) ?_
  refine pv_mmax C ml_N_32 (by decide) (Nat.le_of_ble_eq_true rfl) (by decide) (by decide) d_N_openSamples_10 ?_
  exact pv_iret C R0 d_N_openSamples_13 (by decide) (by decide) ⟨by rw [open_eq hJ (vK_lt hz hi)], rfl, rfl⟩
abbrev rm_U_isDamaged : Room := { frames := 0, cells := 0, slots := 0, locals := 0 }
set_option maxRecDepth 100000 in
set_option maxHeartbeats 4000000 in
theorem c_U_isDamaged {l0 : Launch} {D : va_G} {γ : Nat → ClassId} (hl0 : l0.stackTraces = false) {LP : List Nat} {ks : List kT} {ρ : kT → Nat} {z : zT} {x : xT} {f0 : Nat → va_E} (J : cI LP ks ρ z x) (u : Nat) (hu : 1 ≤ u ∧ u ≤ zU z) : pv_M l0 D (tys_ γ) y_U_isDamaged (Cond.code y_U_isDamaged b_U_isDamaged 1 (Option.some FieldType.boolean)) rm_U_isDamaged [.ref (ρ (4, u))] LP (cF γ ks ρ z x f0) (rdP LP (cF γ ks ρ z x f0) (some (.int (bN (!decide (z 24 u = 0)))))) (fun _ => False) := by
  refine pv_mk hl0 (by decide) (Nat.le_of_ble_eq_true rfl) (fun κ C R0 hN _ => ?_)
  obtain ⟨H, hV, hz, hJ⟩ := id J
  have M0 : ((0, 0) : kT) ∈ ks := (hV _).mpr (Nat.zero_le _)
  have M1 : ((0, 1) : kT) ∈ ks := (hV _).mpr (by decide : 1 ≤ 3)
  have M2 : ((0, 2) : kT) ∈ ks := (hV _).mpr (by decide : 2 ≤ 3)
  have M3 : ((0, 3) : kT) ∈ ks := (hV _).mpr (by decide : 3 ≤ 3)
  show pv_V D κ 0 0 LP (cF γ ks ρ z x f0) 0 [(0, .ref (ρ (4, u)))] []
  have MU : ((4, u) : kT) ∈ ks := (hV _).mpr hu
  have MN : ((3, zl z u) : kT) ∈ ks := (hV _).mpr (hJ.1 u hu.1 hu.2)
  refine pv_aload_n C d_U_isDamaged_0 rfl 0 rfl ?_
  refine pv_get (v := .int (z 24 u)) (ci := 2) C hin_U rfl (H.1 _ MU) ((kf_at H MU).trans rfl) 4 (by decide) fl_U_25 rfl rfl d_U_isDamaged_1 ?_
  refine pv_if_eq (tgt := 11) C d_U_isDamaged_4 (by decide) (fun h1 => ?_) (fun h1 => ?_)
  · refine pv_iconst (v := 0) C d_U_isDamaged_11 (by decide) ?_
    exact pv_zret C rfl R0 d_U_isDamaged_12 (by decide) (by decide) ⟨by simp [bN, h1], rfl, rfl⟩
  · refine pv_iconst (v := 1) C d_U_isDamaged_7 (by decide) ?_
    refine pv_goto (tgt := 12) C d_U_isDamaged_8 (by decide) ?_
    exact pv_zret C rfl R0 d_U_isDamaged_12 (by decide) (by decide) ⟨by simp [bN, h1], rfl, rfl⟩
abbrev rm_U_hasLabel : Room := { frames := 0, cells := 0, slots := 0, locals := 0 }
set_option maxRecDepth 100000 in
set_option maxHeartbeats 4000000 in
theorem c_U_hasLabel {l0 : Launch} {D : va_G} {γ : Nat → ClassId} (hl0 : l0.stackTraces = false) {LP : List Nat} {ks : List kT} {ρ : kT → Nat} {z : zT} {x : xT} {f0 : Nat → va_E} (J : cI LP ks ρ z x) (u : Nat) (hu : 1 ≤ u ∧ u ≤ zU z) : pv_M l0 D (tys_ γ) y_U_hasLabel (Cond.code y_U_hasLabel b_U_hasLabel 1 (Option.some FieldType.boolean)) rm_U_hasLabel [.ref (ρ (4, u))] LP (cF γ ks ρ z x f0) (rdP LP (cF γ ks ρ z x f0) (some (.int (bN (!decide (z 25 u = 0)))))) (fun _ => False) := by
  refine pv_mk hl0 (by decide) (Nat.le_of_ble_eq_true rfl) (fun κ C R0 hN _ => ?_)
  obtain ⟨H, hV, hz, hJ⟩ := id J
  have M0 : ((0, 0) : kT) ∈ ks := (hV _).mpr (Nat.zero_le _)
  have M1 : ((0, 1) : kT) ∈ ks := (hV _).mpr (by decide : 1 ≤ 3)
  have M2 : ((0, 2) : kT) ∈ ks := (hV _).mpr (by decide : 2 ≤ 3)
  have M3 : ((0, 3) : kT) ∈ ks := (hV _).mpr (by decide : 3 ≤ 3)
  show pv_V D κ 0 0 LP (cF γ ks ρ z x f0) 0 [(0, .ref (ρ (4, u)))] []
  have MU : ((4, u) : kT) ∈ ks := (hV _).mpr hu
  have MN : ((3, zl z u) : kT) ∈ ks := (hV _).mpr (hJ.1 u hu.1 hu.2)
  refine pv_aload_n C d_U_hasLabel_0 rfl 0 rfl ?_
  refine pv_get (v := .int (z 25 u)) (ci := 2) C hin_U rfl (H.1 _ MU) ((kf_at H MU).trans rfl) 5 (by decide) fl_U_28 rfl rfl d_U_hasLabel_1 ?_
  refine pv_if_eq (tgt := 11) C d_U_hasLabel_4 (by decide) (fun h1 => ?_) (fun h1 => ?_)
  · refine pv_iconst (v := 0) C d_U_hasLabel_11 (by decide) ?_
    exact pv_zret C rfl R0 d_U_hasLabel_12 (by decide) (by decide) ⟨by simp [bN, h1], rfl, rfl⟩
  · refine pv_iconst (v := 1) C d_U_hasLabel_7 (by decide) ?_
    refine pv_goto (tgt := 12) C d_U_hasLabel_8 (by decide) ?_
    exact pv_zret C rfl R0 d_U_hasLabel_12 (by decide) (by decide) ⟨by simp [bN, h1], rfl, rfl⟩
abbrev rm_U_stateNow : Room := { frames := 1, cells := 0, slots := 0, locals := 20 }
set_option maxRecDepth 100000 in
set_option maxHeartbeats 4000000 in
theorem c_U_stateNow {l0 : Launch} {D : va_G} {γ : Nat → ClassId} (hl0 : l0.stackTraces = false) {LP : List Nat} {ks : List kT} {ρ : kT → Nat} {z : zT} {x : xT} {f0 : Nat → va_E} (J : cI LP ks ρ z x) (u : Nat) (hu : 1 ≤ u ∧ u ≤ zU z) : pv_M l0 D (tys_ γ) y_U_stateNow (Cond.code y_U_stateNow b_U_stateNow 1 (Option.some FieldType.int)) rm_U_stateNow [.ref (ρ (4, u))] LP (cF γ ks ρ z x f0) (rdP LP (cF γ ks ρ z x f0) (some (.int (uS (z 24 u) (x.2.2 u) (z 15 (zl z u)))))) (fun _ => False) := by
  refine pv_mk hl0 (by decide) (Nat.le_of_ble_eq_true rfl) (fun κ C R0 hN _ => ?_)
  obtain ⟨H, hV, hz, hJ⟩ := id J
  have M0 : ((0, 0) : kT) ∈ ks := (hV _).mpr (Nat.zero_le _)
  have M1 : ((0, 1) : kT) ∈ ks := (hV _).mpr (by decide : 1 ≤ 3)
  have M2 : ((0, 2) : kT) ∈ ks := (hV _).mpr (by decide : 2 ≤ 3)
  have M3 : ((0, 3) : kT) ∈ ks := (hV _).mpr (by decide : 3 ≤ 3)
  show pv_V D κ 0 0 LP (cF γ ks ρ z x f0) 0 [(0, .ref (ρ (4, u)))] []
  have MU : ((4, u) : kT) ∈ ks := (hV _).mpr hu
  have MN : ((3, zl z u) : kT) ∈ ks := (hV _).mpr (hJ.1 u hu.1 hu.2)
  refine pv_aload_n C d_U_stateNow_0 rfl 0 rfl ?_
  refine pv_callV (n := 0) (As := []) (rest := []) C (c_U_isDamaged hl0 J u hu) cd_U_isDamaged ml_U_31 in_U im_U_isDamaged se_U_isDamaged (H.1 _ MU) ((kf_at H MU).trans rfl) rfl rfl (by decide +kernel) (by decide) rfl (Nat.le_of_ble_eq_true rfl) rfl d_U_stateNow_1 (by decide) hN R0 (fun _ h => h.elim) (fun v9 LP9 f9 h9 => ?_)
  obtain ⟨rfl, w9, w8⟩ := h9
  have w9 := w9.symm
  have w8 := w8.symm
  subst w9
  subst w8
  refine pv_stf (f2 := (kf ks ρ (cz γ ρ z x) f0)) (st2 := [.int (bN (!decide (z 24 u = 0)))]) (c2 := 0) (s2 := 0) rfl rfl rfl rfl ?_
  refine pv_ifb_eq (tgt := 9) C d_U_stateNow_4 (by decide) (fun h1 => ?_) (fun h1 => ?_)
  · refine pv_aload_n C d_U_stateNow_9 rfl 0 rfl ?_
    refine pv_get (v := .int (x.2.2 u)) (ci := 2) C hin_U rfl (H.1 _ MU) ((kf_at H MU).trans rfl) 7 (by decide) fl_U_35 rfl rfl d_U_stateNow_10 ?_
    refine pv_if_eq (tgt := 18) C d_U_stateNow_13 (by decide) (fun h2 => ?_) (fun h2 => ?_)
    · refine pv_aload_n C d_U_stateNow_18 rfl 0 rfl ?_
      refine pv_get (v := .ref (ρ (3, zl z u))) (ci := 2) C hin_U rfl (H.1 _ MU) ((kf_at H MU).trans rfl) 0 (by decide) fl_U_9 rfl rfl d_U_stateNow_19 ?_
      refine pv_get (v := .int (z 15 (zl z u))) (ci := 1) C hin_N rfl (H.1 _ MN) ((kf_at H MN).trans rfl) 9 (by decide) fl_U_39 rfl rfl d_U_stateNow_22 ?_
      refine pv_if_eq (tgt := 32) C d_U_stateNow_25 (by decide) (fun h3 => ?_) (fun h3 => ?_)
      · refine pv_iconst (v := 0) C d_U_stateNow_32 (by decide) ?_
        exact pv_iret C R0 d_U_stateNow_33 (by decide) (by decide) ⟨by simp [uS] at *; simp [uS, h1, h2, h3], rfl, rfl⟩
      · refine pv_iconst (v := 2) C d_U_stateNow_28 (by decide) ?_
        refine pv_goto (tgt := 33) C d_U_stateNow_29 (by decide) ?_
        exact pv_iret C R0 d_U_stateNow_33 (by decide) (by decide) ⟨by simp [uS] at *; simp [uS, h1, h2, h3], rfl, rfl⟩
    · refine pv_iconst (v := 3) C d_U_stateNow_16 (by decide) ?_
      exact pv_iret C R0 d_U_stateNow_17 (by decide) (by decide) ⟨by simp [uS] at *; simp [uS, h1, h2], rfl, rfl⟩
  · refine pv_iconst (v := 1) C d_U_stateNow_7 (by decide) ?_
    exact pv_iret C R0 d_U_stateNow_8 (by decide) (by decide) ⟨by simp [uS] at *; simp [uS, h1], rfl, rfl⟩
abbrev rm_S_announcementOf : Room := { frames := 6, cells := 1, slots := 6, locals := 90 }
set_option maxRecDepth 100000 in
set_option maxHeartbeats 4000000 in
theorem c_S_announcementOf {l0 : Launch} {D : va_G} {γ : Nat → ClassId} (hl0 : l0.stackTraces = false) {LP : List Nat} {ks : List kT} {ρ : kT → Nat} {z : zT} {x : xT} {f0 : Nat → va_E} (J : cI LP ks ρ z x) (a : Int32)  : pv_M l0 D (tys_ γ) y_S_announcementOf (Cond.code y_S_announcementOf b_S_announcementOf 3 (Option.some (FieldType.object "ReceiveSteps$Announcement"))) rm_S_announcementOf [.ref (ρ (0, 0)), .int a] LP (cF γ ks ρ z x f0) (fun w LP1 f1 => rdP LP (cF γ ks ρ z x f0) (some (.ref (ρ (1, ix a)))) w LP1 f1 ∧ isA z a = true) (fun E => E = eNS ∧ isA z a = false) := by
  refine pv_mk hl0 (by decide) (Nat.le_of_ble_eq_true rfl) (fun κ C R0 hN _ => ?_)
  obtain ⟨H, hV, hz, hJ⟩ := id J
  have M0 : ((0, 0) : kT) ∈ ks := (hV _).mpr (Nat.zero_le _)
  have M1 : ((0, 1) : kT) ∈ ks := (hV _).mpr (by decide : 1 ≤ 3)
  have M2 : ((0, 2) : kT) ∈ ks := (hV _).mpr (by decide : 2 ≤ 3)
  have M3 : ((0, 3) : kT) ∈ ks := (hV _).mpr (by decide : 3 ≤ 3)
  show pv_V D κ 0 0 LP (cF γ ks ρ z x f0) 0 [(0, .ref (ρ (0, 0))), (1, .int a)] []
  refine pv_iload_n C d_S_announcementOf_0 rfl 1 rfl ?_
  refine pv_iconst (v := 1) C d_S_announcementOf_1 (by decide) ?_
  refine pv_icmp_lt (tgt := 22) C d_S_announcementOf_2 (by decide) (fun h1 => ?_) (fun h1 => ?_)
  · exact pv_throwN (LP0 := []) (f0 := fun _ => .inr (0, [])) (text := "there is no such announcement") C hN R0 kl_S_238 in_NoSuchElementException rfl (by decide) th1_NS th2_NS th3_NS d_S_announcementOf_22 d_S_announcementOf_25 d_S_announcementOf_26 d_S_announcementOf_28 d_S_announcementOf_31 (by decide) (Nat.le_of_ble_eq_true rfl) (by decide) (by decide) (⟨rfl, by simp [isA, inB, ← Int32.not_lt, h1]⟩)
  · refine pv_iload_n C d_S_announcementOf_5 rfl 1 rfl ?_
    refine pv_aload_n C d_S_announcementOf_6 rfl 0 rfl ?_
    refine pv_get (v := .int (z 3 0)) (ci := 3) C hin_S rfl (H.1 _ M0) ((kf_at H M0).trans rfl) 3 (by decide) fl_S_31 rfl rfl d_S_announcementOf_7 ?_
    refine pv_icmp_gt (tgt := 22) C d_S_announcementOf_10 (by decide) (fun h2 => ?_) (fun h2 => ?_)
    · exact pv_throwN (LP0 := []) (f0 := fun _ => .inr (0, [])) (text := "there is no such announcement") C hN R0 kl_S_238 in_NoSuchElementException rfl (by decide) th1_NS th2_NS th3_NS d_S_announcementOf_22 d_S_announcementOf_25 d_S_announcementOf_26 d_S_announcementOf_28 d_S_announcementOf_31 (by decide) (Nat.le_of_ble_eq_true rfl) (by decide) (by decide) (⟨rfl, by simp [isA, inB, ← Int32.not_lt, h1, h2]⟩)
    · have hA0 : isA z a = true := by simp [isA, inB, ← Int32.not_lt, h1, h2]
      have hA := isA_ix hz hA0
      refine pv_iload_n C d_S_announcementOf_13 rfl 1 rfl ?_
      refine pv_aload_n C d_S_announcementOf_14 rfl 0 rfl ?_
      refine pv_get (v := .ref (ρ (0, 1))) (ci := 3) C hin_S rfl (H.1 _ M0) ((kf_at H M0).trans rfl) 0 (by decide) fl_S_11 rfl rfl d_S_announcementOf_15 ?_
      refine pv_alen C 0 rfl (H.1 _ M1) ((kf_at H M1).trans rfl) (v := 16) rfl d_S_announcementOf_18 ?_
      refine pv_icmp_le (tgt := 32) C d_S_announcementOf_19 (by decide) (fun h3 => ?_) (fun h3 => ?_)
      · have hA0 : isA z a = true := by simp [isA, inB, ← Int32.not_lt, h1, h2]
        have hA := isA_ix hz hA0
        have MA : ((1, ix a) : kT) ∈ ks := (hV _).mpr ⟨hA.2.1, hA.2.2.1⟩
        refine pv_aload_n C d_S_announcementOf_32 rfl 0 rfl ?_
        refine pv_get (v := .ref (ρ (0, 1))) (ci := 3) C hin_S rfl (H.1 _ M0) ((kf_at H M0).trans rfl) 0 (by decide) fl_S_11 rfl rfl d_S_announcementOf_33 ?_
        refine pv_iload_n C d_S_announcementOf_36 rfl 1 rfl ?_
        refine pv_iconst (v := 1) C d_S_announcementOf_37 (by decide) ?_
        refine pv_isub C d_S_announcementOf_38 ?_
        refine pv_aald C 0 rfl (H.1 _ M1) ((kf_at H M1).trans rfl) (j := (ix a - 1)) (b := (ρ (1, ix a))) (pr_ix hA.1 hA.2.1) (show (ix a - 1) < 16 by omega) (by decide) (gA_at hA.2.1 hA.2.2.1) d_S_announcementOf_39 ?_
        refine pv_astore_n (lv' := [(2, .ref (ρ (1, ix a))), (0, .ref (ρ (0, 0))), (1, .int a)]) C d_S_announcementOf_40 rfl (by decide) rfl ?_
        refine pv_aload_n C d_S_announcementOf_41 rfl 0 rfl ?_
        refine pv_ifnonnull (tgt := 55) C d_S_announcementOf_42 (by decide) ?_
        refine pv_aload_n C d_S_announcementOf_55 rfl 0 rfl ?_
        exact pv_aret C R0 d_S_announcementOf_56 (by decide) (by decide) ⟨⟨rfl, rfl, rfl⟩, hA0⟩
      · exact absurd (by rw [hA.1]; exact nI_le hA.2.2.2 (by decide)) h3
