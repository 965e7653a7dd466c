/-! whole_start: what the entry gives, and the law's walk -/
theorem en_str : ∀ q ∈ pv_strs, Cond.stringRef RS q.1 q.2 ∈ lw_tbl := by decide +kernel
theorem en_exa : ∀ q ∈ pv_strs, Cond.exactly (.string RS q.1) "java/lang/String" ∈ flatC (Jvm.Cond.and given_1 narrow_1) := by decide +kernel
theorem en_cast : ∀ E ∈ pv_exc, Cond.castable E E ∈ lw_tbl := by decide +kernel
theorem en_nc : ∀ E ∈ pv_exc, ∀ E' ∈ pv_exc, E ≠ E' → Cond.not (.castable E E') ∈ flatC (Jvm.Cond.and given_1 narrow_1) := by decide +kernel
theorem en_dec : ∀ N ∈ pv_sup, Cond.declares (Bundle.initS N) ∈ lw_tbl := by decide +kernel
theorem en_ao : ∀ C ∈ [RA, RU, RN], Cond.arrayOver (.object C) ∈ lw_tbl := by decide +kernel
theorem en_ls1 : Cond.laysStatic Bundle.tN "UNASSIGNED_STACK" Bundle.steD ∈ lw_tbl := by decide +kernel
theorem en_ls2 : Cond.laysStatic Bundle.tN "SUPPRESSED_SENTINEL" Bundle.listD ∈ lw_tbl := by decide +kernel
theorem en_in : Cond.initialized Bundle.tN ∈ lw_tbl := by decide +kernel
theorem en_rf1 : Cond.isRef (.static Bundle.tN "UNASSIGNED_STACK" Bundle.steD) ∈ flatC (Jvm.Cond.and given_1 narrow_1) := by decide +kernel
theorem en_rf2 : Cond.isRef (.static Bundle.tN "SUPPRESSED_SENTINEL" Bundle.listD) ∈ flatC (Jvm.Cond.and given_1 narrow_1) := by decide +kernel
theorem en_E {b : Nat} {s : State} (hts : ∀ w ∈ lw_tbl, w.before #[Value.ref b] s = true) (hgv : (Jvm.Cond.and given_1 narrow_1).before #[Value.ref b] s = true) : pv_E (fun q : Nat => s.heap.size ≤ q) s s.heap := by
  have hs := flat_of_before _ hgv
  have hA : ∀ a : Nat, a < s.heap.size → ¬ (fun q : Nat => s.heap.size ≤ q) a := fun a h => Nat.not_le.mpr h
  refine ⟨vx_Zqof (hts _ en_ls1) (hts _ en_in) (hs _ en_rf1) hA, vx_Zqof (hts _ en_ls2) (hts _ en_in) (hs _ en_rf2) hA, fun q hq => ?_, fun E hE => va_Nw.of rfl (hts _ (en_cast E hE)), fun E hE E' hE' hn => va_Nc.of (hs _ (en_nc E hE E' hE' hn)), va_AO.of (hts _ (en_ao RA (by decide))), va_AO.of (hts _ (en_ao RU (by decide))), va_AO.of (hts _ (en_ao RN (by decide))), fun N hN => va_Nw.of rfl (hts _ (en_dec N hN))⟩
  obtain ⟨a, c, cA, kA, q1, -⟩ := Cond.exactly_spec (args := #[Value.ref b]) (first := s) (o := none) (s := s) (idx := []) (hs _ (en_exa q hq))
  exact ⟨a, vk_R.of (hts _ (en_str q hq)) q1⟩
theorem en_ac {ty : FieldType} {b : Nat} {s : State} (h : (Cond.arrayClass ty).before #[Value.ref b] s = true) : ∃ cA : ClassId, ArrOfT s cA ty ∧ s.vm.findClass ("[" ++ ty.toString) = some cA := by
  obtain ⟨cA, kA, comp, h1, h2, h3⟩ := Cond.arrayClass_spec h
  exact ⟨cA, fun n z => ⟨fun k h => (by cases h), kA, h2, comp, h3⟩, h1⟩
theorem en_av {C : String} {b : Nat} {s : State} (h : (Cond.arrayOver (.object C)).before #[Value.ref b] s = true) : ∃ cA : ClassId, ArrOfT s cA (.object C) ∧ va_RA s cA (.object C) := by
  obtain ⟨comp, cA, kA, h1, -, h2, h3, h4⟩ := Cond.arrayOver_spec h
  exact ⟨cA, fun n z => ⟨fun k h => (by cases h), kA, h2, comp, h3⟩, kA, comp, h2, h3, h1, h4⟩
theorem en_K {b : Nat} {s : State} (hts : ∀ w ∈ lw_tbl, w.before #[Value.ref b] s = true) : ∃ (D : va_G) (γ : Nat → ClassId), va_K D cls_ (tys_ γ) s := by
  have hw : ∀ w ∈ Wg, w.before #[Value.ref b] s = true := fun w h => hts w (wg_tbl h)
  obtain ⟨c0, i0, h0⟩ := u_known (C := RA) (T := TA) (N := 7) hw hin_A (hw _ is_A)
  obtain ⟨c1, i1, h1⟩ := u_known (C := RN) (T := TN) (N := 11) hw hin_N (hw _ is_N)
  obtain ⟨c2, i2, h2⟩ := u_known (C := RU) (T := TU) (N := 8) hw hin_U (hw _ is_U)
  obtain ⟨c3, i3, h3⟩ := u_known (C := RS) (T := TS) (N := 10) hw hin_S (hw _ is_S)
  obtain ⟨c4, i4, h4⟩ := u_known (C := RM) (T := TM) (N := 31) hw hin_M (hw _ is_M)
  obtain ⟨g0, a0, b0⟩ := en_av (hts _ (en_ao RA (by decide)))
  obtain ⟨g1, a1, b1⟩ := en_av (hts _ (en_ao RN (by decide)))
  obtain ⟨g2, a2, b2⟩ := en_av (hts _ (en_ao RU (by decide)))
  obtain ⟨g3, a3, b3⟩ := en_ac (hw _ ac_int)
  obtain ⟨g4, a4, b4⟩ := en_ac (hw _ ac_boolean)
  obtain ⟨g5, a5, b5⟩ := en_ac (hw _ ac_long)
  refine ⟨(fun k => match k with | 0 => c0 | 1 => c1 | 2 => c2 | 3 => c3 | _ => c4, fun k => match k with | 0 => i0 | 1 => i1 | 2 => i2 | 3 => i3 | _ => i4), fun k => match k with | 0 => g0 | 1 => g1 | 2 => g2 | 3 => g3 | 4 => g4 | _ => g5, ?_, ?_⟩
  · intro k q hq
    match k, hq with
    | 0, hq => cases hq; exact h0
    | 1, hq => cases hq; exact h1
    | 2, hq => cases hq; exact h2
    | 3, hq => cases hq; exact h3
    | 4, hq => cases hq; exact h4
    | k + 5, hq => simp [cls_] at hq
  · intro k q hq
    match k, hq with
    | 0, hq => cases hq; exact ⟨a0, b0⟩
    | 1, hq => cases hq; exact ⟨a1, b1⟩
    | 2, hq => cases hq; exact ⟨a2, b2⟩
    | 3, hq => cases hq; exact ⟨a3, b3⟩
    | 4, hq => cases hq; exact ⟨a4, b4⟩
    | 5, hq => cases hq; exact ⟨a5, b5⟩
    | k + 6, hq => simp [tys_] at hq
theorem whole_start {p : Program} {e : Env} {s : State} {m : MethodId} {below : List Frame} {meth : Method} {c : Code} (l : Launch) (hl0 : l.stackTraces = false) {b L : Nat} {xs : Nat → Int32} (hL : L ≤ 3072) (C0 : lw_At p s m meth c b L xs) : W p l e room_1 s m #[Value.ref b] below meth c s.heap [] 0 0 (lw_Z below #[Value.ref b] s) (entryFrame m ([Value.ref b] : List Value).toArray 7) := by
  obtain ⟨hx, hb, hr, hml, hown, hts, hX, hbl, hlocks, hgv⟩ := id C0
  obtain ⟨D, γ, hK⟩ := en_K hts
  have hl := lv_entry ([.ref b]) (n := 7) (Nat.le_of_ble_eq_true rfl)
  rw [lg_entry_eq]
  have C : pv_C l D (tys_ γ) (p, l, e, room_1, s, m, #[Value.ref b], below, meth, c, (fun q : Nat => s.heap.size ≤ q), 7, lw_Z below #[Value.ref b] s) code RL room_1 7 :=
    ⟨hx, hb, hml, hown, fun w h => hts w (wg_tbl h), hK, fun q h => h, rfl, rfl, hlocks, en_E hts hgv, hl0, rfl⟩
  have Y : pv_Y (p, l, e, room_1, s, m, #[Value.ref b], below, meth, c, (fun q : Nat => s.heap.size ≤ q), 7, lw_Z below #[Value.ref b] s) b L xs := ⟨hX, hbl, rfl, rfl, rfl, hr, hL⟩
  exact law_start hl0 C Y (fun _ => .inr (0, [])) s.heap [] _ (fun k q h => by simp [va_pl] at h) ⟨fun i j p q h => by simp [va_pl] at h, fun k q h => by simp [va_pl] at h⟩ va_S.rf hl
theorem lw_flags {l : Launch} (h : l.flags = flags0) : l.stackTraces = false := by
  unfold Launch.stackTraces
  rw [h]
  decide +kernel
