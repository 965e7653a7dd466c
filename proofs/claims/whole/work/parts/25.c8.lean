/-! contracts of the component: constructors; what a new cell changes (by wip/whole/gen/c9.py) -/
theorem va_up2 {β : Type} {f : Nat → β} {q : Nat} {e0 e1 : β} : va_up (va_up f q e0) q e1 = va_up f q e1 := by
  funext a
  by_cases h : a = q
  · rw [h, va_up_self, va_up_self]
  · rw [va_up_ne _ _ h, va_up_ne _ _ h, va_up_ne _ _ h]
theorem va_upc {β : Type} {f : Nat → β} {q b : Nat} {e0 e1 : β} (h : q ≠ b) : va_up (va_up f b e0) q e1 = va_up (va_up f q e1) b e0 := by
  funext a
  by_cases h1 : a = q
  · rw [h1, va_up_self, va_up_ne _ _ h, va_up_self]
  · by_cases h2 : a = b
    · rw [h2, va_up_self, va_up_ne _ _ h.symm, va_up_self]
    · rw [va_up_ne _ _ h1, va_up_ne _ _ h2, va_up_ne _ _ h2, va_up_ne _ _ h1]
theorem kH.mono {ks : List kT} {ρ : kT → Nat} {LP LP' : List Nat} (H : kH ks ρ LP) (h : ∀ a ∈ LP, a ∈ LP') : kH ks ρ LP' := ⟨fun k hk => h _ (H.1 k hk), H.2⟩
/-- one new cell -/
theorem kf_new1 {ks : List kT} {ρ : kT → Nat} {c : kT → va_E} {f0 : Nat → va_E} {LP : List Nat} (H : kH ks ρ LP) {k : kT} {q : Nat} (e0 e1 : va_E) (hk : k ∉ ks) (hq : q ∉ LP) : ∃ ρ' : kT → Nat, (∀ i ∈ ks, ρ' i = ρ i) ∧ ρ' k = q ∧ kH (ks ++ [k]) ρ' (LP ++ [q]) ∧ va_up (va_up (kf ks ρ c f0) q e0) q e1 = kf (ks ++ [k]) ρ' (ku c k e1) f0 :=
  ⟨ku ρ k q, fun i hi => ku_ne _ _ (fun w => hk (w ▸ hi)), ku_eq _ _ _, H.push hk hq, by rw [va_up2, kf_push H hk hq]⟩
/-- a new cell and the array that it holds -/
theorem kf_new2 {ks : List kT} {ρ : kT → Nat} {c : kT → va_E} {f0 : Nat → va_E} {LP : List Nat} (H : kH ks ρ LP) {k k2 : kT} {q q2 : Nat} (e0 e1 e2 : va_E) (hk : k ∉ ks) (hk2 : k2 ∉ ks) (hkk : k ≠ k2) (hq : q ∉ LP) (hq2 : q2 ∉ LP ++ [q]) : ∃ ρ' : kT → Nat, (∀ i ∈ ks, ρ' i = ρ i) ∧ ρ' k = q ∧ ρ' k2 = q2 ∧ kH (ks ++ [k2] ++ [k]) ρ' (LP ++ [q] ++ [q2]) ∧ va_up (va_up (va_up (kf ks ρ c f0) q e0) q2 e2) q e1 = kf (ks ++ [k2] ++ [k]) ρ' (ku (ku c k2 e2) k e1) f0 := by
  have g1 : q2 ∉ LP := fun w => hq2 (List.mem_append_left _ w)
  have g2 : q2 ≠ q := fun w => hq2 (w ▸ List.mem_append_right _ (List.mem_singleton.mpr rfl))
  have H2 := H.push hk2 g1
  have hk3 : k ∉ ks ++ [k2] := fun w => (List.mem_append.mp w).elim hk (fun w => hkk (List.mem_singleton.mp w))
  have g3 : q ∉ LP ++ [q2] := fun w => (List.mem_append.mp w).elim hq (fun w => g2 (List.mem_singleton.mp w).symm)
  have H3 := H2.push hk3 g3
  refine ⟨ku (ku ρ k2 q2) k q, fun i hi => ?_, ku_eq _ _ _, ?_, H3.mono ?_, ?_⟩
  · have w1 : i ≠ k := fun w => hk (w ▸ hi)
    have w2 : i ≠ k2 := fun w => hk2 (w ▸ hi)
    rw [ku_ne _ _ w1, ku_ne _ _ w2]
  · rw [ku_ne _ _ hkk.symm, ku_eq]
  · intro a ha
    simp only [List.mem_append, List.mem_singleton] at ha ⊢
    rcases ha with (w | w) | w
    · exact Or.inl (Or.inl w)
    · exact Or.inr w
    · exact Or.inl (Or.inr w)
  · rw [va_upc g2, va_up2, kf_push H hk2 g1, kf_push H2 hk3 g3]
theorem vK_a {z : zT} {i : Nat} (h1 : 1 ≤ i) (h2 : i ≤ zA z) : vK z (1, i) := And.intro h1 h2
theorem vK_b {z : zT} {i : Nat} (h1 : 1 ≤ i) (h2 : i ≤ zA z) : vK z (2, i) := And.intro h1 h2
theorem vK_u {z : zT} {i : Nat} (h1 : 1 ≤ i) (h2 : i ≤ zU z) : vK z (4, i) := And.intro h1 h2
/-- where the addresses agree, the cells do -/
theorem cz_rho {γ : Nat → ClassId} {LP : List Nat} {ks : List kT} {ρ ρ' : kT → Nat} {z : zT} {x : xT} (J : cI LP ks ρ z x) (h : ∀ i ∈ ks, ρ' i = ρ i) {k : kT} (hk : k ∈ ks) : cz γ ρ z x k = cz γ ρ' z x k := by
  obtain ⟨H, hV, hz, hJ⟩ := J
  have g : ∀ i, vK z i → ρ i = ρ' i := fun i hi => (h i ((hV i).mpr hi)).symm
  have hv := (hV k).mp hk
  obtain ⟨p, i⟩ := k
  match p, i, hv with
  | 0, 0, _ =>
    show Sum.inr (3, cS ρ z x) = Sum.inr (3, cS ρ' z x)
    simp only [cS, g (0, 1) (by decide : 1 ≤ 3), g (0, 2) (by decide : 2 ≤ 3), g (0, 3) (by decide : 3 ≤ 3)]
  | 0, 1, _ =>
    show Sum.inl (γ 0, 16, _) = Sum.inl (γ 0, 16, _)
    rw [show gA ρ z = gA ρ' z by
      funext i
      unfold gA
      split
      · rw [g (1, i + 1) (vK_a (by omega) (by omega))]
      · rfl]
  | 0, 2, _ =>
    show Sum.inl (γ 2, 120, _) = Sum.inl (γ 2, 120, _)
    rw [show gU ρ z = gU ρ' z by
      funext i
      unfold gU
      split
      · rw [g (4, i + 1) (vK_u (by omega) (by omega))]
      · rfl]
  | 0, n + 3, _ =>
    show Sum.inl (γ 1, 64, _) = Sum.inl (γ 1, 64, _)
    rw [show gD ρ z = gD ρ' z by
      funext i
      unfold gD
      split
      · rename_i w
        rw [g _ (hJ.2.1 i w)]
      · rfl]
  | 1, i, hv =>
    show Sum.inr (0, cA ρ z i) = Sum.inr (0, cA ρ' z i)
    simp only [cA, g (2, i) hv]
  | 2, i, hv =>
    show Sum.inl (γ 1, 4, _) = Sum.inl (γ 1, 4, _)
    have hv : 1 ≤ i ∧ i ≤ zA z := hv
    have h3 := hz.1.2
    have h4 := (hz.2.2.2.1 i (by omega)).2.1
    rw [show gL ρ z i = gL ρ' z i by
      funext j
      unfold gL
      split
      · rename_i w
        rw [g _ (vK_line hv.1 hv.2 w (by omega))]
      · rfl]
  | 3, i, hv =>
    show Sum.inr (1, cN ρ z x i) = Sum.inr (1, cN ρ' z x i)
    simp only [cN, g (1, i / 4) (vK_a hv.1 hv.2.1)]
  | 4, i, hv =>
    show Sum.inr (2, cU ρ z x i) = Sum.inr (2, cU ρ' z x i)
    simp only [cU, g (3, zl z i) (hJ.1 i hv.1 hv.2)]
  | n + 5, i, hv => exact hv.elim
/-- the frame clause for a new cell -/
theorem fr_new {ks0 ks ks' : List kT} {ρ0 ρ ρ' : kT → Nat} {LP0 LP : List Nat} (hL : ∀ a ∈ LP0, a ∈ LP) (K : ∀ k ∈ ks, (∃ j ∈ ks0, ρ k = ρ0 j) ∨ ρ k ∉ LP0) (h : ∀ i ∈ ks, ρ' i = ρ i) (hn : ∀ k ∈ ks', k ∈ ks ∨ ρ' k ∉ LP) : ∀ k ∈ ks', (∃ j ∈ ks0, ρ' k = ρ0 j) ∨ ρ' k ∉ LP0 := by
  intro k hk
  rcases hn k hk with w | w
  · rw [h k w]; exact K k w
  · exact Or.inr (fun q => w (hL _ q))
abbrev n0A : List Value := [.int 0, .int 0, .int 0, .null, .int 0, .int 0, .int 0]
abbrev n0N : List Value := [.null, .int 0, .int 0, .int 0, .int 0, .int 0, .int 0, .int 0, .int 0, .int 0, .int 0]
abbrev n0U : List Value := [.null, .int 0, .int 0, .int 0, .int 0, .int 0, .int 0, .int 0]
abbrev n0S : List Value := [.null, .null, .null, .int 0, .int 0, .int 0, .int 0, .int 0, .int 0, .int 0]
theorem va_id {β : Type} {f : Nat → β} {q : Nat} {e : β} (h : f q = e) : f = va_up f q e := by
  funext a
  by_cases w : a = q
  · rw [w, va_up_self, h]
  · rw [va_up_ne _ _ w]
abbrev rm_N_init : Room := { frames := 1, cells := 0, slots := 0, locals := 12 }
set_option maxRecDepth 100000 in
set_option maxHeartbeats 4000000 in
theorem c_N_init {l0 : Launch} {D : va_G} {γ : Nat → ClassId} (hl0 : l0.stackTraces = false) {LP : List Nat} {f : Nat → va_E} {b : Nat} (hb0 : b ∈ LP) (hf : f b = .inr (1, n0N)) (a1 : Nat) (n g m : Int32) : pv_M l0 D (tys_ γ) y_N_init (Cond.code y_N_init b_N_init 5 none) rm_N_init [.ref b, .ref a1, .int n, .int g, .int m] LP f (fun w LP1 f1 => w = none ∧ LP1 = LP ∧ f1 = va_up f b (.inr (1, [.ref a1, .int n, .int g, .int m, .int 0, .int 0, .int 0, .int 0, .int 0, .int 0, .int 0]))) (fun _ => False) := by
  refine pv_mk hl0 (by decide) (Nat.le_of_ble_eq_true rfl) (fun κ C R0 hN hI => ?_)
  have hI := hI rfl
  show pv_V D κ 0 0 LP f 0 [(0, .ref b), (1, .ref a1), (2, .int n), (3, .int g), (4, .int m)] []
  refine pk_fz (f2 := va_up f b (.inr (1, n0N))) (va_id hf) ?_
  refine pv_aload_n C d_N_init_0 rfl 0 rfl ?_
  refine pv_objInit C ml_N_1 d_N_init_1 (by decide) (Nat.le_of_ble_eq_true rfl) ?_
  refine pv_aload_n C d_N_init_4 rfl 0 rfl ?_
  refine pv_aload_n C d_N_init_5 rfl 1 rfl ?_
  refine pv_putF (ci := 1) C hI hin_N tyN tyN_ok nmN rfl hb0 (va_up_self _ _ _) 0 (by decide) fl_N_7 rfl rfl rfl rfl rfl (Nat.le_of_ble_eq_true rfl) d_N_init_6 ?_ -- putfield
  refine pk_fz (f2 := va_up f b (.inr (1, [.ref a1, .int 0, .int 0, .int 0, .int 0, .int 0, .int 0, .int 0, .int 0, .int 0, .int 0]))) va_up2 ?_
  refine pv_aload_n C d_N_init_9 rfl 0 rfl ?_
  refine pv_iload_n C d_N_init_10 rfl 2 rfl ?_
  refine pv_putF (ci := 1) C hI hin_N tyN tyN_ok nmN rfl hb0 (va_up_self _ _ _) 1 (by decide) fl_N_13 rfl rfl rfl rfl rfl (Nat.le_of_ble_eq_true rfl) d_N_init_11 ?_ -- putfield
  refine pk_fz (f2 := va_up f b (.inr (1, [.ref a1, .int n, .int 0, .int 0, .int 0, .int 0, .int 0, .int 0, .int 0, .int 0, .int 0]))) va_up2 ?_
  refine pv_aload_n C d_N_init_14 rfl 0 rfl ?_
  refine pv_iload_n C d_N_init_15 rfl 3 rfl ?_
  refine pv_putF (ci := 1) C hI hin_N tyN tyN_ok nmN rfl hb0 (va_up_self _ _ _) 2 (by decide) fl_N_17 rfl rfl rfl rfl rfl (Nat.le_of_ble_eq_true rfl) d_N_init_16 ?_ -- putfield
  refine pk_fz (f2 := va_up f b (.inr (1, [.ref a1, .int n, .int g, .int 0, .int 0, .int 0, .int 0, .int 0, .int 0, .int 0, .int 0]))) va_up2 ?_
  refine pv_aload_n C d_N_init_19 rfl 0 rfl ?_
  refine pv_iload C d_N_init_20 4 rfl ?_
  refine pv_putF (ci := 1) C hI hin_N tyN tyN_ok nmN rfl hb0 (va_up_self _ _ _) 3 (by decide) fl_N_20 rfl rfl rfl rfl rfl (Nat.le_of_ble_eq_true rfl) d_N_init_22 ?_ -- putfield
  refine pk_fz (f2 := va_up f b (.inr (1, [.ref a1, .int n, .int g, .int m, .int 0, .int 0, .int 0, .int 0, .int 0, .int 0, .int 0]))) va_up2 ?_
  exact pv_vret C R0 d_N_init_25 (by decide) (by decide) ⟨rfl, rfl, rfl⟩
abbrev rm_U_init : Room := { frames := 1, cells := 0, slots := 0, locals := 12 }
set_option maxRecDepth 100000 in
set_option maxHeartbeats 4000000 in
theorem c_U_init {l0 : Launch} {D : va_G} {γ : Nat → ClassId} (hl0 : l0.stackTraces = false) {LP : List Nat} {f : Nat → va_E} {b : Nat} (hb0 : b ∈ LP) (hf : f b = .inr (2, n0U)) (a1 : Nat) (n g : Int32) : pv_M l0 D (tys_ γ) y_U_init (Cond.code y_U_init b_U_init 4 none) rm_U_init [.ref b, .ref a1, .int n, .int g] LP f (fun w LP1 f1 => w = none ∧ LP1 = LP ∧ f1 = va_up f b (.inr (2, [.ref a1, .int n, .int g, .int (-1), .int 0, .int 0, .int 0, .int 0]))) (fun _ => False) := by
  refine pv_mk hl0 (by decide) (Nat.le_of_ble_eq_true rfl) (fun κ C R0 hN hI => ?_)
  have hI := hI rfl
  show pv_V D κ 0 0 LP f 0 [(0, .ref b), (1, .ref a1), (2, .int n), (3, .int g)] []
  refine pk_fz (f2 := va_up f b (.inr (2, n0U))) (va_id hf) ?_
  refine pv_aload_n C d_U_init_0 rfl 0 rfl ?_
  refine pv_objInit C ml_U_3 d_U_init_1 (by decide) (Nat.le_of_ble_eq_true rfl) ?_
  refine pv_aload_n C d_U_init_4 rfl 0 rfl ?_
  refine pv_aload_n C d_U_init_5 rfl 1 rfl ?_
  refine pv_putF (ci := 2) C hI hin_U tyU tyU_ok nmU rfl hb0 (va_up_self _ _ _) 0 (by decide) fl_U_9 rfl rfl rfl rfl rfl (Nat.le_of_ble_eq_true rfl) d_U_init_6 ?_ -- putfield
  refine pk_fz (f2 := va_up f b (.inr (2, [.ref a1, .int 0, .int 0, .int 0, .int 0, .int 0, .int 0, .int 0]))) va_up2 ?_
  refine pv_aload_n C d_U_init_9 rfl 0 rfl ?_
  refine pv_iload_n C d_U_init_10 rfl 2 rfl ?_
  refine pv_putF (ci := 2) C hI hin_U tyU tyU_ok nmU rfl hb0 (va_up_self _ _ _) 1 (by decide) fl_U_15 rfl rfl rfl rfl rfl (Nat.le_of_ble_eq_true rfl) d_U_init_11 ?_ -- putfield
  refine pk_fz (f2 := va_up f b (.inr (2, [.ref a1, .int n, .int 0, .int 0, .int 0, .int 0, .int 0, .int 0]))) va_up2 ?_
  refine pv_aload_n C d_U_init_14 rfl 0 rfl ?_
  refine pv_iload_n C d_U_init_15 rfl 3 rfl ?_
  refine pv_putF (ci := 2) C hI hin_U tyU tyU_ok nmU rfl hb0 (va_up_self _ _ _) 2 (by decide) fl_U_19 rfl rfl rfl rfl rfl (Nat.le_of_ble_eq_true rfl) d_U_init_16 ?_ -- putfield
  refine pk_fz (f2 := va_up f b (.inr (2, [.ref a1, .int n, .int g, .int 0, .int 0, .int 0, .int 0, .int 0]))) va_up2 ?_
  refine pv_aload_n C d_U_init_19 rfl 0 rfl ?_
  refine pv_iconst (v := (-1)) C d_U_init_20 (by decide) ?_
  refine pv_put (ci := 2) C hin_U tyU tyU_ok nmU rfl hb0 (va_up_self _ _ _) 3 (by decide) fl_U_22 rfl rfl rfl rfl (Nat.le_of_ble_eq_true rfl) d_U_init_21 ?_ -- putfield
  refine pk_fz (f2 := va_up f b (.inr (2, [.ref a1, .int n, .int g, .int (-1), .int 0, .int 0, .int 0, .int 0]))) va_up2 ?_
  exact pv_vret C R0 d_U_init_24 (by decide) (by decide) ⟨rfl, rfl, rfl⟩
abbrev rm_A_init : Room := { frames := 1, cells := 1, slots := 4, locals := 12 }
set_option maxRecDepth 100000 in
set_option maxHeartbeats 4000000 in
theorem c_A_init {l0 : Launch} {D : va_G} {γ : Nat → ClassId} (hl0 : l0.stackTraces = false) {LP : List Nat} {f : Nat → va_E} {b : Nat} (hb0 : b ∈ LP) (hf : f b = .inr (0, n0A)) (n g m : Int32) : pv_M l0 D (tys_ γ) y_A_init (Cond.code y_A_init b_A_init 4 none) rm_A_init [.ref b, .int n, .int g, .int m] LP f (fun w LP1 f1 => w = none ∧ ∃ q1 : Nat, q1 ∉ LP ∧ LP1 = LP ++ [q1] ∧ f1 = va_up (va_up f q1 (.inl (γ 1, 4, .inr (.inr (.inr (.inr (fun _ => none))))))) b (.inr (0, [.int n, .int g, .int m, .ref q1, .int 0, .int 0, .int (-1)]))) (fun _ => False) := by
  refine pv_mk hl0 (by decide) (Nat.le_of_ble_eq_true rfl) (fun κ C R0 hN hI => ?_)
  have hI := hI rfl
  show pv_V D κ 0 0 LP f 0 [(0, .ref b), (1, .int n), (2, .int g), (3, .int m)] []
  refine pk_fz (f2 := va_up f b (.inr (0, n0A))) (va_id hf) ?_
  refine pv_aload_n C d_A_init_0 rfl 0 rfl ?_
  refine pv_objInit C ml_A_3 d_A_init_1 (by decide) (Nat.le_of_ble_eq_true rfl) ?_
  refine pv_aload_n C d_A_init_4 rfl 0 rfl ?_
  refine pv_iload_n C d_A_init_5 rfl 1 rfl ?_
  refine pv_putF (ci := 0) C hI hin_A tyA tyA_ok nmA rfl hb0 (va_up_self _ _ _) 0 (by decide) fl_A_9 rfl rfl rfl rfl rfl (Nat.le_of_ble_eq_true rfl) d_A_init_6 ?_ -- putfield
  refine pk_fz (f2 := va_up f b (.inr (0, [.int n, .int 0, .int 0, .null, .int 0, .int 0, .int 0]))) va_up2 ?_
  refine pv_aload_n C d_A_init_9 rfl 0 rfl ?_
  refine pv_iload_n C d_A_init_10 rfl 2 rfl ?_
  refine pv_putF (ci := 0) C hI hin_A tyA tyA_ok nmA rfl hb0 (va_up_self _ _ _) 1 (by decide) fl_A_15 rfl rfl rfl rfl rfl (Nat.le_of_ble_eq_true rfl) d_A_init_11 ?_ -- putfield
  refine pk_fz (f2 := va_up f b (.inr (0, [.int n, .int g, .int 0, .null, .int 0, .int 0, .int 0]))) va_up2 ?_
  refine pv_aload_n C d_A_init_14 rfl 0 rfl ?_
  refine pv_iload_n C d_A_init_15 rfl 3 rfl ?_
  refine pv_putF (ci := 0) C hI hin_A tyA tyA_ok nmA rfl hb0 (va_up_self _ _ _) 2 (by decide) fl_A_18 rfl rfl rfl rfl rfl (Nat.le_of_ble_eq_true rfl) d_A_init_16 ?_ -- putfield
  refine pk_fz (f2 := va_up f b (.inr (0, [.int n, .int g, .int m, .null, .int 0, .int 0, .int 0]))) va_up2 ?_
  refine pv_aload_n C d_A_init_19 rfl 0 rfl ?_
  refine pv_iconst (v := 4) C d_A_init_20 (by decide) ?_
  refine pv_newq C 1 rfl kl_A_21 (Or.inr (Or.inr rfl)) (N := 4) rfl (by decide) (by decide) (by decide) d_A_init_21 (fun q1 hq1 => ?_)
  have hn1 : q1 ≠ b := fun w => hq1 (w ▸ hb0)
  have hb1 : b ∈ (LP ++ [q1]) := List.mem_append_left _ hb0
  refine pk_fz (f2 := va_up (va_up f q1 (.inl (γ 1, 4, .inr (.inr (.inr (.inr (fun _ => none))))))) b (.inr (0, [.int n, .int g, .int m, .null, .int 0, .int 0, .int 0]))) (va_upc hn1) ?_
  refine pv_putF (ci := 0) C hI hin_A tyA tyA_ok nmA rfl hb1 (va_up_self _ _ _) 3 (by decide) fl_A_23 rfl rfl rfl rfl rfl (Nat.le_of_ble_eq_true rfl) d_A_init_24 ?_ -- putfield
  refine pk_fz (f2 := va_up (va_up f q1 (.inl (γ 1, 4, .inr (.inr (.inr (.inr (fun _ => none))))))) b (.inr (0, [.int n, .int g, .int m, .ref q1, .int 0, .int 0, .int 0]))) va_up2 ?_
  refine pv_aload_n C d_A_init_27 rfl 0 rfl ?_
  refine pv_iconst (v := 0) C d_A_init_28 (by decide) ?_
  refine pv_put (ci := 0) C hin_A tyA tyA_ok nmA rfl hb1 (va_up_self _ _ _) 5 (by decide) fl_A_27 rfl rfl rfl rfl (Nat.le_of_ble_eq_true rfl) d_A_init_29 ?_ -- putfield
  refine pk_fz (f2 := va_up (va_up f q1 (.inl (γ 1, 4, .inr (.inr (.inr (.inr (fun _ => none))))))) b (.inr (0, [.int n, .int g, .int m, .ref q1, .int 0, .int 0, .int 0]))) va_up2 ?_
  refine pv_aload_n C d_A_init_32 rfl 0 rfl ?_
  refine pv_iconst (v := (-1)) C d_A_init_33 (by decide) ?_
  refine pv_put (ci := 0) C hin_A tyA tyA_ok nmA rfl hb1 (va_up_self _ _ _) 6 (by decide) fl_A_30 rfl rfl rfl rfl (Nat.le_of_ble_eq_true rfl) d_A_init_34 ?_ -- putfield
  refine pk_fz (f2 := va_up (va_up f q1 (.inl (γ 1, 4, .inr (.inr (.inr (.inr (fun _ => none))))))) b (.inr (0, [.int n, .int g, .int m, .ref q1, .int 0, .int 0, .int (-1)]))) va_up2 ?_
  exact pv_vret C R0 d_A_init_37 (by decide) (by decide) ⟨rfl, q1, hq1, rfl, rfl⟩
abbrev rm_S_init : Room := { frames := 1, cells := 3, slots := 200, locals := 12 }
set_option maxRecDepth 100000 in
set_option maxHeartbeats 4000000 in
theorem c_S_init {l0 : Launch} {D : va_G} {γ : Nat → ClassId} (hl0 : l0.stackTraces = false) {LP : List Nat} {f : Nat → va_E} {b : Nat} (hb0 : b ∈ LP) (hf : f b = .inr (3, n0S))  : pv_M l0 D (tys_ γ) y_S_init (Cond.code y_S_init b_S_init 1 none) rm_S_init [.ref b] LP f (fun w LP1 f1 => w = none ∧ ∃ q1 q2 q3 : Nat, q1 ∉ LP ∧ q2 ∉ LP ++ [q1] ∧ q3 ∉ LP ++ [q1] ++ [q2] ∧ LP1 = LP ++ [q1] ++ [q2] ++ [q3] ∧ f1 = va_up (va_up (va_up (va_up f q1 (.inl (γ 0, 16, .inr (.inr (.inr (.inr (fun _ => none))))))) q2 (.inl (γ 2, 120, .inr (.inr (.inr (.inr (fun _ => none))))))) q3 (.inl (γ 1, 64, .inr (.inr (.inr (.inr (fun _ => none))))))) b (.inr (3, [.ref q1, .ref q2, .ref q3, .int 0, .int 0, .int 0, .int 0, .int 0, .int 0, .int 0]))) (fun _ => False) := by
  refine pv_mk hl0 (by decide) (Nat.le_of_ble_eq_true rfl) (fun κ C R0 hN hI => ?_)
  have hI := hI rfl
  show pv_V D κ 0 0 LP f 0 [(0, .ref b)] []
  refine pk_fz (f2 := va_up f b (.inr (3, n0S))) (va_id hf) ?_
  refine pv_aload_n C d_S_init_0 rfl 0 rfl ?_
  refine pv_objInit C ml_S_1 d_S_init_1 (by decide) (Nat.le_of_ble_eq_true rfl) ?_
  refine pv_aload_n C d_S_init_4 rfl 0 rfl ?_
  refine pv_bipush (v := 16) C d_S_init_5 (by decide) ?_
  refine pv_newq C 0 rfl kl_S_9 (Or.inl rfl) (N := 16) rfl (by decide) (by decide) (by decide) d_S_init_7 (fun q1 hq1 => ?_)
  have hn1 : q1 ≠ b := fun w => hq1 (w ▸ hb0)
  have hb1 : b ∈ (LP ++ [q1]) := List.mem_append_left _ hb0
  refine pk_fz (f2 := va_up (va_up f q1 (.inl (γ 0, 16, .inr (.inr (.inr (.inr (fun _ => none))))))) b (.inr (3, [.null, .null, .null, .int 0, .int 0, .int 0, .int 0, .int 0, .int 0, .int 0]))) (va_upc hn1) ?_
  refine pv_putF (ci := 3) C hI hin_S tyS tyS_ok nmS rfl hb1 (va_up_self _ _ _) 0 (by decide) fl_S_11 rfl rfl rfl rfl rfl (Nat.le_of_ble_eq_true rfl) d_S_init_10 ?_ -- putfield
  refine pk_fz (f2 := va_up (va_up f q1 (.inl (γ 0, 16, .inr (.inr (.inr (.inr (fun _ => none))))))) b (.inr (3, [.ref q1, .null, .null, .int 0, .int 0, .int 0, .int 0, .int 0, .int 0, .int 0]))) va_up2 ?_
  refine pv_aload_n C d_S_init_13 rfl 0 rfl ?_
  refine pv_bipush (v := 120) C d_S_init_14 (by decide) ?_
  refine pv_newq C 2 rfl kl_S_15 (Or.inr (Or.inl rfl)) (N := 120) rfl (by decide) (by decide) (by decide) d_S_init_16 (fun q2 hq2 => ?_)
  have hn2 : q2 ≠ b := fun w => hq2 (w ▸ hb1)
  have hb2 : b ∈ ((LP ++ [q1]) ++ [q2]) := List.mem_append_left _ hb1
  refine pk_fz (f2 := va_up (va_up (va_up f q1 (.inl (γ 0, 16, .inr (.inr (.inr (.inr (fun _ => none))))))) q2 (.inl (γ 2, 120, .inr (.inr (.inr (.inr (fun _ => none))))))) b (.inr (3, [.ref q1, .null, .null, .int 0, .int 0, .int 0, .int 0, .int 0, .int 0, .int 0]))) (va_upc hn2) ?_
  refine pv_putF (ci := 3) C hI hin_S tyS tyS_ok nmS rfl hb2 (va_up_self _ _ _) 1 (by decide) fl_S_17 rfl rfl rfl rfl rfl (Nat.le_of_ble_eq_true rfl) d_S_init_19 ?_ -- putfield
  refine pk_fz (f2 := va_up (va_up (va_up f q1 (.inl (γ 0, 16, .inr (.inr (.inr (.inr (fun _ => none))))))) q2 (.inl (γ 2, 120, .inr (.inr (.inr (.inr (fun _ => none))))))) b (.inr (3, [.ref q1, .ref q2, .null, .int 0, .int 0, .int 0, .int 0, .int 0, .int 0, .int 0]))) va_up2 ?_
  refine pv_aload_n C d_S_init_22 rfl 0 rfl ?_
  refine pv_bipush (v := 64) C d_S_init_23 (by decide) ?_
  refine pv_newq C 1 rfl kl_S_21 (Or.inr (Or.inr rfl)) (N := 64) rfl (by decide) (by decide) (by decide) d_S_init_25 (fun q3 hq3 => ?_)
  have hn3 : q3 ≠ b := fun w => hq3 (w ▸ hb2)
  have hb3 : b ∈ (((LP ++ [q1]) ++ [q2]) ++ [q3]) := List.mem_append_left _ hb2
  refine pk_fz (f2 := va_up (va_up (va_up (va_up f q1 (.inl (γ 0, 16, .inr (.inr (.inr (.inr (fun _ => none))))))) q2 (.inl (γ 2, 120, .inr (.inr (.inr (.inr (fun _ => none))))))) q3 (.inl (γ 1, 64, .inr (.inr (.inr (.inr (fun _ => none))))))) b (.inr (3, [.ref q1, .ref q2, .null, .int 0, .int 0, .int 0, .int 0, .int 0, .int 0, .int 0]))) (va_upc hn3) ?_
  refine pv_putF (ci := 3) C hI hin_S tyS tyS_ok nmS rfl hb3 (va_up_self _ _ _) 2 (by decide) fl_S_23 rfl rfl rfl rfl rfl (Nat.le_of_ble_eq_true rfl) d_S_init_28 ?_ -- putfield
  refine pk_fz (f2 := va_up (va_up (va_up (va_up f q1 (.inl (γ 0, 16, .inr (.inr (.inr (.inr (fun _ => none))))))) q2 (.inl (γ 2, 120, .inr (.inr (.inr (.inr (fun _ => none))))))) q3 (.inl (γ 1, 64, .inr (.inr (.inr (.inr (fun _ => none))))))) b (.inr (3, [.ref q1, .ref q2, .ref q3, .int 0, .int 0, .int 0, .int 0, .int 0, .int 0, .int 0]))) va_up2 ?_
  exact pv_vret C R0 d_S_init_31 (by decide) (by decide) ⟨rfl, q1, q2, q3, hq1, hq2, hq3, rfl, rfl⟩
