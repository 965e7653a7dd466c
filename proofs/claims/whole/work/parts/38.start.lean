/-! the law from its entry -/
section PI0
variable {l0 : Launch} {D : va_G} {tys : List (ClassId × FieldType)} {κ : pv_K} {cc : ByteArray} {own : String} {rm : Room} {nl : Nat} {cells slots : Nat} {LP : List Nat} {f : Nat → va_E} {pc : Nat} {lv lv' : List (Nat × Value)} {st : List Value}
theorem pv_callI0 (C : pv_C l0 D tys κ cc own rm nl) {y : MethodName} {bytes : ByteArray} {maxL : Nat} {rmy : Room} {index n : Nat} {As rest : List Value} {P : Option Value → List Nat → (Nat → va_E) → Prop} {b : Nat} (hM : pv_M l0 D tys y (Cond.code y bytes maxL none) rmy (.ref b :: As) LP f P (fun _ => False)) (hcd : Cond.code y bytes maxL none ∈ Wg) (hlk : Cond.methodLink own index y ∈ Wg) (hini : Cond.initialized y.cls ∈ Wg) (him : Cond.instanceMethod y ∈ Wg) (hy1 : y.name = "<init>")
    (hy : y.cls ≠ "java/lang/invoke/MethodHandle" ∧ y.cls ≠ "java/lang/invoke/VarHandle" ∧ (parseMethodDescriptor y.desc).map (fun d => d.parameters.length) = some n) (hR : rmy.frames + 1 ≤ rm.frames ∧ 8 + (maxL + 11) + rmy.locals ≤ rm.locals) (hn : As.length = n) (hsum : (rest.map fun v => v.category).sum ≤ 8) (hst : st = As.reverse ++ .ref b :: rest) (d : decode cc pc = .ok (.invokespecial index, 3)) (hf : cells + rmy.cells ≤ rm.cells ∧ slots + rmy.slots ≤ rm.slots)
    (kk : ∀ v LP1 f1, P v LP1 f1 → pv_V D κ (cells + rmy.cells) (slots + rmy.slots) LP1 f1 (pc + 3) lv (v.toList ++ rest)) : pv_V D κ cells slots LP f pc lv st := by
  obtain ⟨p, l, e, R, s, m, args, below, meth, c, A, nL, Q⟩ := κ
  obtain ⟨hx, hb, hml, hown, hts, hK, hA, hRe, hnl, hlocks, hE, htr, hl0⟩ := C
  subst hRe
  subst hl0
  subst hst
  intro H locs ls hP hD hS hl
  have hpre := pv_pre (args := args) (tys := tys) (av := .ref b :: As) hP hD hS hA hK hE
  exact pv_back (X := fun _ => False) hD hS hA (pv_run (va_runI (Ts := Wg) ⟨hx, hb, hml, hown, hts⟩ (hM.met H.size) ⟨callB_of n hts (wg_in hcd) rfl rfl rfl (hts _ hini) (hts _ hlk) hy hR, hy1, hts _ him⟩ hpre rfl hn hl.1 rfl (lv_room hsum) d hf)) (fun E ce q9 H1 locs1 hX => hX.elim) (fun v LP1 f1 H1 locs1 hp hP1 hD1 hS1 => kk v LP1 f1 hp H1 locs1 ls hP1 hD1 hS1 hl)
end PI0
abbrev z00 : zT := fun _ _ => 0
abbrev x00 : xT := (0, fun _ => 0, fun _ => 0)
abbrev ks0 : List kT := [] ++ [(0, 0)] ++ [(0, 1)] ++ [(0, 2)] ++ [(0, 3)]
theorem z00_vK (k : kT) : k ∈ ks0 ↔ vK z00 k := by
  obtain ⟨p, i⟩ := k
  match p with
  | 0 =>
    show _ ↔ i ≤ 3
    constructor
    · intro h
      simp at h
      omega
    · intro h
      rcases (show i = 0 ∨ i = 1 ∨ i = 2 ∨ i = 3 by omega) with rfl | rfl | rfl | rfl <;> decide
  | 1 =>
    show _ ↔ 1 ≤ i ∧ i ≤ 0
    exact ⟨fun h => by simp at h, fun h => by omega⟩
  | 2 =>
    show _ ↔ 1 ≤ i ∧ i ≤ 0
    exact ⟨fun h => by simp at h, fun h => by omega⟩
  | 3 =>
    show _ ↔ 1 ≤ i / 4 ∧ i / 4 ≤ 0 ∧ _
    exact ⟨fun h => by simp at h, fun h => by omega⟩
  | 4 =>
    show _ ↔ 1 ≤ i ∧ i ≤ 0
    exact ⟨fun h => by simp at h, fun h => by omega⟩
  | p + 5 => exact ⟨fun h => by simp at h, fun h => False.elim h⟩
theorem z00_zI : zI z00 := by
  refine ⟨⟨rfl, by decide⟩, ⟨rfl, by decide⟩, ⟨rfl, by decide⟩, fun i _ => ⟨rfl, (by decide : ix (0 : Int32) ≤ 4), rfl, (by decide : ix (0 : Int32) ≤ ix (0 : Int32)), (by decide : ix (0 : Int32) ≤ 4)⟩, fun u h1 h2 => ?_, fun i h => ?_⟩
  · have h2 : u ≤ 0 := h2
    omega
  · exact absurd (show i < 0 from h) (Nat.not_lt_zero i)
theorem z00_zJ : zJ z00 x00 := by
  refine ⟨fun u h1 h2 => ?_, fun i h => absurd (show i < 0 from h) (Nat.not_lt_zero i), fun p _ => ⟨fun _ => rfl, fun _ => Int32.zero_and⟩, fun i p _ _ => ⟨fun _ => rfl, fun _ => Int32.zero_and⟩, fun u h1 h2 => ?_, fun i _ => ⟨⟨rfl, (by decide : ix (0 : Int32) ≤ 5)⟩, rfl, (by decide : ix (0 : Int32) ≤ 5)⟩, fun i _ => Or.inl rfl, fun i _ _ => ⟨rfl, rfl⟩, fun i _ _ => ⟨rfl, rfl, rfl, rfl, rfl, rfl, fun _ _ => rfl⟩, fun u _ _ => ⟨rfl, rfl, rfl⟩⟩
  · have h2 : u ≤ 0 := h2
    omega
  · have h2 : u ≤ 0 := h2
    omega
/-- the component's cells behind its constructor -/
theorem st_new {γ : Nat → ClassId} {g : Nat → va_E} {xo q1 q2 q3 : Nat} {LP : List Nat} {e0 : va_E} (h0 : xo ∉ LP) (h1 : q1 ∉ LP ++ [xo]) (h2 : q2 ∉ LP ++ [xo] ++ [q1]) (h3 : q3 ∉ LP ++ [xo] ++ [q1] ++ [q2]) : ∃ ρ : kT → Nat, ρ (0, 0) = xo ∧ cI (LP ++ [xo] ++ [q1] ++ [q2] ++ [q3]) ks0 ρ z00 x00 ∧ (∀ k ∈ ks0, ρ k ∉ LP) ∧
    va_up (va_up (va_up (va_up (va_up g xo e0) q1 (.inl (γ 0, 16, .inr (.inr (.inr (.inr (fun _ => none))))))) q2 (.inl (γ 2, 120, .inr (.inr (.inr (.inr (fun _ => none))))))) q3 (.inl (γ 1, 64, .inr (.inr (.inr (.inr (fun _ => none))))))) xo (.inr (3, [.ref q1, .ref q2, .ref q3, .int 0, .int 0, .int 0, .int 0, .int 0, .int 0, .int 0])) = cF γ ks0 ρ z00 x00 g := by
  have m1 : ∀ {a : Nat} {A : List Nat}, a ∈ A ++ [a] := fun {a A} => List.mem_append_right _ (List.mem_singleton.mpr rfl)
  have n1 : q1 ≠ xo := fun w => h1 (w ▸ m1)
  have n2 : q2 ≠ xo := fun w => h2 (w ▸ List.mem_append_left _ m1)
  have n3 : q3 ≠ xo := fun w => h3 (w ▸ List.mem_append_left _ (List.mem_append_left _ m1))
  have H0 : kH [] (fun _ => 0) LP := ⟨fun k hk => absurd hk List.not_mem_nil, fun k hk => absurd hk List.not_mem_nil⟩
  have H1 := H0.push (k := (0, 0)) List.not_mem_nil h0
  have H2 := H1.push (k := (0, 1)) (by decide) h1
  have H3 := H2.push (k := (0, 2)) (by decide) h2
  have H4 := H3.push (k := (0, 3)) (by decide) h3
  obtain ⟨ρ, hρ⟩ : ∃ r : kT → Nat, r = ku (ku (ku (ku (fun _ => 0) (0, 0) xo) (0, 1) q1) (0, 2) q2) (0, 3) q3 := ⟨_, rfl⟩
  have r0 : ρ (0, 0) = xo := by rw [hρ]; rfl
  have r1 : ρ (0, 1) = q1 := by rw [hρ]; rfl
  have r2 : ρ (0, 2) = q2 := by rw [hρ]; rfl
  have r3 : ρ (0, 3) = q3 := by rw [hρ]; rfl
  rw [← hρ] at H4
  refine ⟨ρ, r0, ⟨H4, z00_vK, z00_zI, z00_zJ⟩, fun k hk => ?_, ?_⟩
  · rcases (show k = (0, 0) ∨ k = (0, 1) ∨ k = (0, 2) ∨ k = (0, 3) by simpa using hk) with rfl | rfl | rfl | rfl
    · rw [r0]; exact h0
    · rw [r1]; exact fun w => h1 (List.mem_append_left _ w)
    · rw [r2]; exact fun w => h2 (List.mem_append_left _ (List.mem_append_left _ w))
    · rw [r3]; exact fun w => h3 (List.mem_append_left _ (List.mem_append_left _ (List.mem_append_left _ w)))
  · rw [← va_upc n3, ← va_upc n2, ← va_upc n1, va_up2]
    rw [show g = kf [] (fun _ => 0) (fun _ => .inr (0, [])) g from rfl]
    rw [kf_push H0 (k := (0, 0)) List.not_mem_nil h0, kf_push H1 (k := (0, 1)) (by decide) h1, kf_push H2 (k := (0, 2)) (by decide) h2, kf_push H3 (k := (0, 3)) (by decide) h3, ← hρ]
    refine kf_eq (fun k hk => ?_)
    rcases (show k = (0, 0) ∨ k = (0, 1) ∨ k = (0, 2) ∨ k = (0, 3) by simpa using hk) with rfl | rfl | rfl | rfl
    · show Sum.inr (3, _) = Sum.inr (3, cS ρ z00 x00)
      simp only [cS, r1, r2, r3]
    · show Sum.inl (γ 0, 16, _) = Sum.inl (γ 0, 16, _)
      rw [show gA ρ z00 = fun _ => none from funext fun i => if_neg (Nat.not_lt_zero i)]
    · show Sum.inl (γ 2, 120, _) = Sum.inl (γ 2, 120, _)
      rw [show gU ρ z00 = fun _ => none from funext fun i => if_neg (Nat.not_lt_zero i)]
    · show Sum.inl (γ 1, 64, _) = Sum.inl (γ 1, 64, _)
      rw [show gD ρ z00 = fun _ => none from funext fun i => if_neg (Nat.not_lt_zero i)]
theorem mm_up0 {γ : Nat → ClassId} {g : Nat → va_E} {mo : Nat} {ad : Nat → Nat} {z : zT} {e : va_E} : mm_f γ (va_up g mo e) mo ad z = mm_f γ g mo ad z := by
  funext q
  unfold mm_f
  by_cases w : q = mo
  · rw [if_pos w, if_pos w]
  · rw [if_neg w, if_neg w]
    cases mm_arrs.find? (fun k => ad k == q) with
    | none => exact va_up_ne _ _ w
    | some k => rfl
set_option maxRecDepth 100000 in
set_option maxHeartbeats 4000000 in
theorem law_start {l0 : Launch} {D : va_G} {γ : Nat → ClassId} {κ : pv_K} {b L : Nat} {xs : Nat → Int32} (hl0 : l0.stackTraces = false) (C : pv_C l0 D (tys_ γ) κ code RL room_1 7) (Y : pv_Y κ b L xs) (g : Nat → va_E) : pv_V D κ 0 0 [] g 0 [(0, .ref b)] [] := by
  refine pv_new (ci := 3) (fs := n0S) C hin_S tyS tyS_ok rfl kl_L_8 is_S in_S (by decide) (by decide) (by decide) d_L_law_0 (fun xo hxo => ?_)
  refine pv_dup C d_L_law_3 rfl ?_
  refine pv_callI0 (n := 0) (As := []) (rest := [.ref xo]) C (c_S_init hl0 (List.mem_append_right _ (List.mem_singleton.mpr rfl)) (va_up_self _ _ _)) cd_S_init ml_L_92 in_S im_S_init rfl (by decide +kernel) (by decide) rfl (Nat.le_of_ble_eq_true rfl) rfl d_L_law_4 (by decide) (fun v9 LP9 f9 h9 => ?_)
  obtain ⟨rfl, q1, q2, q3, hq1, hq2, hq3, rfl, rfl⟩ := h9
  obtain ⟨ρ, r0, J, hfr, e1⟩ := st_new (γ := γ) (g := g) (e0 := .inr (3, n0S)) hxo hq1 hq2 hq3
  obtain ⟨LP1, hLP1⟩ : ∃ l : List Nat, l = [] ++ [xo] ++ [q1] ++ [q2] ++ [q3] := ⟨_, rfl⟩
  rw [← hLP1] at J ⊢
  refine pv_stf (f2 := cF γ ks0 ρ z00 x00 g) (st2 := [.ref xo]) (c2 := 4) (s2 := 210) e1 rfl rfl rfl ?_
  refine pv_astore_n (lv' := [(1, .ref xo), (0, .ref b)]) C d_L_law_7 rfl (by decide) rfl ?_
  refine pv_new (ci := 4) (fs := mi_o (fun _ => 0) []) C hin_M tyM tyM_ok rfl kl_L_93 is_M in_M (by decide) (by decide) (by decide) d_L_law_8 (fun mo hmo => ?_)
  refine pv_dup C d_L_law_11 rfl ?_
  refine pv_callI0 (n := 0) (As := []) (rest := [.ref mo]) C (c_M_init hl0 (List.mem_append_right _ (List.mem_singleton.mpr rfl)) (va_up_self _ _ _)) cd_M_init ml_L_95 in_M im_M_init rfl (by decide +kernel) (by decide) rfl (Nat.le_of_ble_eq_true rfl) rfl d_L_law_12 (by decide) (fun v9 LP9 f9 h9 => ?_)
  obtain ⟨rfl, ad, qs, rfl, rfl, G, hadn⟩ := h9
  have k1 : ∀ k ∈ ks0, ρ k ≠ mo := fun k hk w => hmo (w ▸ J.1.1 k hk)
  have k2 : ∀ k ∈ ks0, ∀ i ∈ mm_arrs, ρ k ≠ ad i := fun k hk i hi w => hadn i hi (w ▸ List.mem_append_left _ (J.1.1 k hk))
  refine pv_stf (f2 := kf ks0 ρ (cz γ ρ z00 x00) (mm_f γ g mo ad z00)) (st2 := [.ref mo]) (c2 := 29) (s2 := 2454) (by rw [mm_up0, cF, kf_mm k1 k2]) rfl rfl rfl ?_
  refine pv_astore_n (lv' := [(2, .ref mo), (1, .ref xo), (0, .ref b)]) C d_L_law_15 rfl (by decide) rfl ?_
  refine pv_iconst (v := 1) C d_L_law_16 (by decide) ?_
  refine pv_newal C 5 rfl ac_long (N := 1) rfl (by decide) (by decide) (by decide) d_L_law_17 (fun oa hoa => ?_)
  have k3 : ∀ k ∈ ks0, ρ k ≠ oa := fun k hk w => hoa (w ▸ List.mem_append_left _ (List.mem_append_left _ (J.1.1 k hk)))
  refine pk_fz (f2 := wf γ ks0 ρ x00 g mo ad oa (fun _ => 0) z00 z00) (kf_out k3) ?_
  refine pv_astore_n (lv' := [(3, .ref oa), (2, .ref mo), (1, .ref xo), (0, .ref b)]) C d_L_law_19 rfl (by decide) rfl ?_
  refine pv_iconst (v := 0) C d_L_law_20 (by decide) ?_
  refine pv_istore (lv' := [(4, .int 0), (3, .ref oa), (2, .ref mo), (1, .ref xo), (0, .ref b)]) C d_L_law_21 (by decide) rfl ?_
  refine pv_lvs (lv2 := [(4, .int (nI (6 * 0))), (0, .ref b), (1, .ref (ρ (0, 0))), (2, .ref mo), (3, .ref oa)]) [0, 4, 3, 2, 1] (by rw [r0]; rfl) ?_
  have hL1 : ∀ a ∈ LP1, a ∈ LP1 ++ [mo] ++ qs ++ [oa] := fun a h => List.mem_append_left _ (List.mem_append_left _ (List.mem_append_left _ h))
  have hL2 : ∀ a ∈ LP1 ++ [mo] ++ qs, a ∈ LP1 ++ [mo] ++ qs ++ [oa] := fun a h => List.mem_append_left _ h
  have hw : wI (LP1 ++ [mo] ++ qs ++ [oa]) ks0 ρ z00 x00 mo ad oa := ⟨⟨J.1.mono hL1, J.2⟩, ⟨hL2 _ G.1, fun k hk => hL2 _ (G.2.1 k hk), G.2.2⟩, List.mem_append_right _ (List.mem_singleton.mpr rfl), k3, ⟨k1, k2⟩, ⟨fun w => hoa (w ▸ G.1), fun i hi w => hoa (w ▸ G.2.1 i hi)⟩, Nat.zero_le _⟩
  exact pv_wide (by decide) (by decide) (law_loop hl0 C Y (L + 1) 0 _ ks0 ρ z00 x00 _ (by omega) (by omega) hw)
