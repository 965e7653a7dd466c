/-! contracts of the component: count (by wip/whole/gen/c12.py) -/
section CS
variable {q : zT} {ln lot c : Int32} {j : Nat}
theorem cs_row {w a : Nat} (h : a < 18 ∨ 23 < a) : m_cs q w ln lot c j a = q a := by
  unfold m_cs
  rw [zs_row _ _ (by omega), zs_row _ _ (by omega), zs_row _ _ (by omega), zs_row _ _ (by omega), zs_row _ _ (by omega), zs_row _ _ (by omega)]
theorem cs_U (hz : zI q) (h : zU q < 120) : m_cs q (zU q) ln lot c j 18 0 = nI (zU q + 1) ∧ zU (m_cs q (zU q) ln lot c j) = zU q + 1 := by
  have e : m_cs q (zU q) ln lot c j 18 0 = nI (zU q + 1) := by
    show q 18 0 + 1 = _
    rw [hz.2.1.1, nI_next]
  exact ⟨e, by rw [zU, e, ix_nI (by omega)]⟩
theorem cs_n {w a u : Nat} (ha : 19 ≤ a) (h : u ≠ w + 1) : m_cs q w ln lot c j a u = q a u := by
  have g : ∀ (z : zT) (k : Nat) (v : Int32), zs z k (w + 1) v a u = z a u := fun z k v => zs_j z v h
  unfold m_cs
  rw [g, g, g, g, g, zs_k _ _ (by omega)]
theorem cs_19 {w : Nat} : m_cs q w ln lot c j 19 (w + 1) = ln := by
  unfold m_cs
  rw [zs_k _ _ (by decide), zs_k _ _ (by decide), zs_k _ _ (by decide), zs_k _ _ (by decide), zs_eq]
theorem cs_20 {w : Nat} : m_cs q w ln lot c j 20 (w + 1) = if q 15 j = 0 then 0 else 2 := by
  unfold m_cs
  rw [zs_k _ _ (by decide), zs_k _ _ (by decide), zs_k _ _ (by decide), zs_eq]
theorem cs_21 {w : Nat} : m_cs q w ln lot c j 21 (w + 1) = if 50 ≤ c then 50 else c := by
  unfold m_cs
  rw [zs_k _ _ (by decide), zs_k _ _ (by decide), zs_eq]
theorem cs_22 {w : Nat} : m_cs q w ln lot c j 22 (w + 1) = lot := by
  unfold m_cs
  rw [zs_k _ _ (by decide), zs_eq]
theorem cs_23 {w : Nat} : m_cs q w ln lot c j 23 (w + 1) = -1 := by
  unfold m_cs
  rw [zs_eq]
theorem cs_vK (hz : zI q) (h : zU q < 120) (k : kT) : vK (m_cs q (zU q) ln lot c j) k ↔ vK q k ∨ k = (4, zU q + 1) := by
  have e := (cs_U (ln := ln) (lot := lot) (c := c) (j := j) hz h).2
  have r3 : zA (m_cs q (zU q) ln lot c j) = zA q := by rw [zA, cs_row (by decide)]
  have r6 : ∀ i, zt (m_cs q (zU q) ln lot c j) i = zt q i := fun i => by rw [zt, cs_row (by decide)]
  obtain ⟨p, m⟩ := k
  match p with
  | 0 =>
    show m ≤ 3 ↔ m ≤ 3 ∨ _
    exact ⟨Or.inl, fun w => w.elim id (fun w => absurd (congrArg Prod.fst w) (show ¬ (0 : Nat) = 4 by decide))⟩
  | 1 =>
    show 1 ≤ m ∧ m ≤ zA (m_cs q (zU q) ln lot c j) ↔ (1 ≤ m ∧ m ≤ zA q) ∨ _
    rw [r3]
    exact ⟨Or.inl, fun w => w.elim id (fun w => absurd (congrArg Prod.fst w) (show ¬ (1 : Nat) = 4 by decide))⟩
  | 2 =>
    show 1 ≤ m ∧ m ≤ zA (m_cs q (zU q) ln lot c j) ↔ (1 ≤ m ∧ m ≤ zA q) ∨ _
    rw [r3]
    exact ⟨Or.inl, fun w => w.elim id (fun w => absurd (congrArg Prod.fst w) (show ¬ (2 : Nat) = 4 by decide))⟩
  | 3 =>
    show (1 ≤ m / 4 ∧ m / 4 ≤ zA (m_cs q (zU q) ln lot c j) ∧ m % 4 < zt (m_cs q (zU q) ln lot c j) (m / 4)) ↔ (1 ≤ m / 4 ∧ m / 4 ≤ zA q ∧ m % 4 < zt q (m / 4)) ∨ _
    rw [r3, r6]
    exact ⟨Or.inl, fun w => w.elim id (fun w => absurd (congrArg Prod.fst w) (show ¬ (3 : Nat) = 4 by decide))⟩
  | 4 =>
    show 1 ≤ m ∧ m ≤ zU (m_cs q (zU q) ln lot c j) ↔ (1 ≤ m ∧ m ≤ zU q) ∨ _
    rw [e]
    constructor
    · intro w
      by_cases q2 : m = zU q + 1
      · exact Or.inr (by rw [q2])
      · exact Or.inl ⟨w.1, by omega⟩
    · rintro (w | w)
      · exact ⟨w.1, by omega⟩
      · have w2 : m = zU q + 1 := congrArg Prod.snd w
        omega
  | p + 5 => exact ⟨fun w => False.elim w, fun w => w.elim (fun w => False.elim w) (fun w => absurd (congrArg Prod.fst w) (show ¬ p + 5 = 4 by omega))⟩
theorem cs_cI {LP LP' : List Nat} {ks : List kT} {ρ ρ' : kT → Nat} {x : xT} (J : cI LP ks ρ q x) (h : zU q < 120) (hj : vK q (3, j)) (hl : ln = nI j) (H' : kH (ks ++ [(4, zU q + 1)]) ρ' LP') : cI LP' (ks ++ [(4, zU q + 1)]) ρ' (m_cs q (zU q) ln lot c j) (x.1, x.2.1, upd x.2.2 (zU q + 1) 0) := by
  obtain ⟨H, hV, hz, hJ⟩ := J
  have hF := hJ.2.2.2.2.2.2
  have r : ∀ a, (a < 18 ∨ 23 < a) → m_cs q (zU q) ln lot c j a = q a := fun a w => cs_row w
  have ev := cs_vK (ln := ln) (lot := lot) (c := c) (j := j) hz h
  obtain ⟨e0, e⟩ := cs_U (ln := ln) (lot := lot) (c := c) (j := j) hz h
  have hj68 := vK_lt hz hj
  have f24 := hF.2.2.2 (zU q + 1) (by omega) (by omega)
  have hj4 : 4 ≤ j := by have : 1 ≤ j / 4 := hj.1; omega
  have l19 : zl (m_cs q (zU q) ln lot c j) (zU q + 1) = j := by rw [zl, cs_19, hl, ix_nI (by omega)]
  have l19n : ∀ u, u ≠ zU q + 1 → zl (m_cs q (zU q) ln lot c j) u = zl q u := fun u w => by rw [zl, cs_n (by decide) w]
  refine ⟨H', fun k => ?_, ⟨?_, ?_, ?_, ?_, ?_, ?_⟩, ?_⟩
  · rw [ev, List.mem_append, List.mem_singleton, hV]
  · simp only [zA, r 3 (by decide)]; exact hz.1
  · rw [e]; exact ⟨e0, by omega⟩
  · simp only [zD, r 29 (by decide)]; exact hz.2.2.1
  · simp only [zt, r 6 (by decide), r 5 (by decide)]; exact hz.2.2.2.1
  · intro u h1 h2
    rw [e] at h2
    by_cases w : u = zU q + 1
    · rw [w, l19, cs_19]; exact ⟨hl, hj4, hj68⟩
    · rw [l19n u w, cs_n (by decide) w]; exact hz.2.2.2.2.1 u h1 (by omega)
  · simp only [zD, r 29 (by decide), r 30 (by decide)]; exact hz.2.2.2.2.2
  · refine ⟨fun u h1 h2 => (ev _).mpr (Or.inl ?_), fun i h1 => (ev _).mpr (Or.inl ?_), ?_, ?_, ?_, ?_, ?_, ?_, ?_, ?_⟩
    · rw [e] at h2
      by_cases w : u = zU q + 1
      · rw [w, l19]; exact hj
      · rw [l19n u w]; exact hJ.1 u h1 (by omega)
    · simp only [zD, r 29 (by decide), r 30 (by decide)] at h1 ⊢
      exact hJ.2.1 i h1
    · rw [r 2 (by decide)]; exact hJ.2.2.1
    · rw [r 17 (by decide)]; exact hJ.2.2.2.1
    · intro u h1 h2
      rw [e] at h2
      rw [r 24 (by decide), r 15 (by decide)]
      by_cases w : u = zU q + 1
      · rw [w, cs_20, l19, f24.1]
        show _ = uS 0 (upd x.2.2 (zU q + 1) 0 (zU q + 1)) (q 15 j)
        rw [pk_us]
        exact uS_p rfl
      · rw [cs_n (by decide) w, l19n u w]
        show _ = uS _ (upd x.2.2 (zU q + 1) 0 u) _
        rw [pk_un w]
        exact hJ.2.2.2.2.1 u h1 (by omega)
    · simp only [r 13 (by decide), r 14 (by decide)]
      exact hJ.2.2.2.2.2.1
    · rw [r 7 (by decide)]; exact hF.1
    · simp only [zA, r 3 (by decide), r 6 (by decide), r 7 (by decide)]; exact hF.2.1
    · intro i hi w
      simp only [r 11 (by decide), r 12 (by decide), r 13 (by decide), r 14 (by decide), r 15 (by decide), r 16 (by decide), r 17 (by decide)]
      exact hF.2.2.1 i hi (fun w2 => w ((ev _).mpr (Or.inl w2)))
    · intro u h1 h2
      rw [e] at h1
      simp only [r 24 (by decide), r 25 (by decide), r 26 (by decide)]
      exact hF.2.2.2 u (by omega) h2
theorem cs_cz {γ : Nat → ClassId} {LP : List Nat} {ks : List kT} {ρ ρ' : kT → Nat} {x : xT} (J : cI LP ks ρ q x) (h : zU q < 120) (hj : vK q (3, j)) (hl : ln = nI j) (a1 : ∀ i ∈ ks, ρ' i = ρ i) {k : kT} (hk : k ∈ ks ++ [(4, zU q + 1)]) : ku (ku (ku (cz γ ρ q x) (4, zU q + 1) (.inr (2, [.ref (ρ (3, j)), .int (if 50 < c then 50 else c), .int lot, .int (-1), .int 0, .int 0, .int 0, .int 0]))) (0, 2) (.inl (γ 2, 120, .inr (.inr (.inr (.inr (va_up (gU ρ q) (zU q) (some (ρ' (4, zU q + 1)))))))))) (0, 0) (.inr (3, [.ref (ρ (0, 1)), .ref (ρ (0, 2)), .ref (ρ (0, 3)), .int (q 3 0), .int (q 18 0 + 1), .int (q 27 0), .int (q 29 0), .int (q 28 0), .int (q 1 0), .int x.1])) k = cz γ ρ' (m_cs q (zU q) ln lot c j) (x.1, x.2.1, upd x.2.2 (zU q + 1) 0) k := by
  obtain ⟨H, hV, hz, hJ⟩ := id J
  have hF := hJ.2.2.2.2.2.2
  have r : ∀ a, (a < 18 ∨ 23 < a) → m_cs q (zU q) ln lot c j a = q a := fun a w => cs_row w
  obtain ⟨e0, e⟩ := cs_U (ln := ln) (lot := lot) (c := c) (j := j) hz h
  have gv : ∀ i, vK q i → ρ i = ρ' i := fun i hi => (a1 i ((hV i).mpr hi)).symm
  have hj68 := vK_lt hz hj
  have f24 := hF.2.2.2 (zU q + 1) (by omega) (by omega)
  have l19 : zl (m_cs q (zU q) ln lot c j) (zU q + 1) = j := by rw [zl, cs_19, hl, ix_nI (by omega)]
  have m50 : (if 50 < c then (50 : Int32) else c) = if 50 ≤ c then 50 else c := by
    by_cases w : 50 < c
    · rw [if_pos w, if_pos (Int32.le_of_lt w)]
    · rw [if_neg w]
      by_cases w2 : 50 ≤ c
      · rw [if_pos w2]; exact Int32.le_antisymm (Int32.not_lt.mp w) w2
      · rw [if_neg w2]
  by_cases q0 : k = (0, 0)
  · subst q0
    rw [ku_eq]
    show _ = Sum.inr (3, cS ρ' _ _)
    have e3 : q 18 0 + 1 = m_cs q (zU q) ln lot c j 18 0 := rfl
    simp only [cS, gv (0, 1) (by decide : 1 ≤ 3), gv (0, 2) (by decide : 2 ≤ 3), gv (0, 3) (by decide : 3 ≤ 3), e3, r 3 (by decide), r 27 (by decide), r 29 (by decide), r 28 (by decide), r 1 (by decide)]
  rw [ku_ne _ _ q0]
  by_cases q1 : k = (0, 2)
  · subst q1
    rw [ku_eq]
    show _ = Sum.inl (γ 2, 120, _)
    rw [show va_up (gU ρ q) (zU q) (some (ρ' (4, zU q + 1))) = gU ρ' (m_cs q (zU q) ln lot c j) by
      funext i
      unfold gU
      rw [e]
      by_cases w : i = zU q
      · rw [w, va_up_self, if_pos (by omega)]
      · rw [va_up_ne _ _ w]
        by_cases w2 : i < zU q
        · rw [if_pos w2, if_pos (by omega), gv (4, i + 1) (vK_u (by omega) (by omega))]
        · rw [if_neg w2, if_neg (by omega)]]
  rw [ku_ne _ _ q1]
  by_cases q3 : k = (4, zU q + 1)
  · subst q3
    rw [ku_eq]
    show _ = Sum.inr (2, cU ρ' _ _ (zU q + 1))
    simp only [cU, l19, cs_21, cs_22, cs_23, r 24 (by decide), r 25 (by decide), r 26 (by decide), f24.1, f24.2.1, f24.2.2, gv (3, j) hj, pk_us, m50]
  rw [ku_ne _ _ q3]
  have hk' : k ∈ ks := by
    simp only [List.mem_append, List.mem_singleton] at hk
    rcases hk with w | w
    · exact w
    · exact absurd w q3
  have hv := (hV k).mp hk'
  rw [cz_rho J a1 hk', cz_x3 q3 (vK_4 hv)]
  obtain ⟨p, m⟩ := k
  match p, m, hv with
  | 0, 0, _ => exact absurd rfl q0
  | 0, 1, _ =>
    show Sum.inl (γ 0, 16, _) = Sum.inl (γ 0, 16, _)
    rw [show gA ρ' (m_cs q (zU q) ln lot c j) = gA ρ' q by funext i; simp only [gA, zA, r 3 (by decide)]]
  | 0, 2, _ => exact absurd rfl q1
  | 0, m + 3, _ =>
    show Sum.inl (γ 1, 64, _) = Sum.inl (γ 1, 64, _)
    rw [show gD ρ' (m_cs q (zU q) ln lot c j) = gD ρ' q by funext i; simp only [gD, zD, r 29 (by decide), r 30 (by decide)]]
  | 1, m, _ =>
    show Sum.inr (0, cA ρ' q m) = Sum.inr (0, cA ρ' _ m)
    simp only [cA, r 6 (by decide), r 4 (by decide), r 5 (by decide), r 7 (by decide), r 8 (by decide)]
  | 2, m, _ =>
    show Sum.inl (γ 1, 4, _) = Sum.inl (γ 1, 4, _)
    rw [show gL ρ' (m_cs q (zU q) ln lot c j) m = gL ρ' q m by funext w; simp only [gL, zt, r 6 (by decide)]]
  | 3, m, _ =>
    show Sum.inr (1, cN ρ' q x m) = Sum.inr (1, cN ρ' _ x m)
    simp only [cN, r 9 (by decide), r 10 (by decide), r 11 (by decide), r 12 (by decide), r 13 (by decide), r 14 (by decide), r 15 (by decide), r 16 (by decide)]
  | 4, m, _ =>
    have w : m ≠ zU q + 1 := fun w => q3 (by rw [w])
    show Sum.inr (2, cU ρ' q x m) = Sum.inr (2, cU ρ' _ x m)
    simp only [cU, zl, cs_n (ln := ln) (lot := lot) (c := c) (j := j) (show 19 ≤ 19 by decide) w, cs_n (ln := ln) (lot := lot) (c := c) (j := j) (show 19 ≤ 21 by decide) w, cs_n (ln := ln) (lot := lot) (c := c) (j := j) (show 19 ≤ 22 by decide) w, cs_n (ln := ln) (lot := lot) (c := c) (j := j) (show 19 ≤ 23 by decide) w, r 24 (by decide), r 25 (by decide), r 26 (by decide)]
  | m + 5, _, hv => exact False.elim hv
end CS
theorem cu_row {ln lot : Int32} {j : Nat} {a : Nat} (h : a < 18 ∨ 23 < a) : ∀ (N w : Nat) (c : Int32) (q : zT), m_cu ln lot j N w c q a = q a
  | 0, _, _, _ => rfl
  | N + 1, w, c, q => by
    rw [m_cu]
    split
    · rfl
    · rw [cu_row h N, cs_row h]
theorem zs_comm {z : zT} {k k' j j' : Nat} {x x' : Int32} (h : k ≠ k') : zs (zs z k j x) k' j' x' = zs (zs z k' j' x') k j x := by
  funext a b
  unfold zs
  by_cases h1 : a = k' ∧ b = j'
  · rw [if_pos h1, if_neg (fun w => h (w.1.symm.trans h1.1)), if_pos h1]
  · rw [if_neg h1]
    by_cases h2 : a = k ∧ b = j
    · rw [if_pos h2, if_pos h2]
    · rw [if_neg h2, if_neg h2, if_neg h1]
theorem cs_comm {ln lot c : Int32} {j w k i : Nat} {v : Int32} {q : zT} (h : k = 12 ∨ k = 17) : m_cs (zs q k i v) w ln lot c j = zs (m_cs q w ln lot c j) k i v := by
  unfold m_cs
  rw [zs_k q v (show 18 ≠ k by omega), zs_k q v (show 15 ≠ k by omega)]
  rw [zs_comm (z := q) (show k ≠ 18 by omega), zs_comm (show k ≠ 19 by omega), zs_comm (show k ≠ 20 by omega), zs_comm (show k ≠ 21 by omega), zs_comm (show k ≠ 22 by omega), zs_comm (show k ≠ 23 by omega)]
theorem cu_comm {ln lot : Int32} {j k i : Nat} {v : Int32} (h : k = 12 ∨ k = 17) : ∀ (N w : Nat) (c : Int32) (q : zT), m_cu ln lot j N w c (zs q k i v) = zs (m_cu ln lot j N w c q) k i v
  | 0, _, _, _ => rfl
  | N + 1, w, c, q => by
    rw [m_cu, m_cu]
    split
    · rfl
    · rw [cs_comm h, cu_comm h N]
theorem ct_bits {y : Nat → Int32} {z : zT} {j : Nat} {p : Int32} (hj : j < 68) (hP : p = nI (ix p) ∧ ix p ≤ 7) (h : ∀ i q, i < 68 → q ≤ 7 → (y i &&& bitI (nI q) = 0 ↔ z 17 (8 * i + q) = 0)) : ∀ i q, i < 68 → q ≤ 7 → (upd y j (y j ||| bitI p) i &&& bitI (nI q) = 0 ↔ zs z 17 (8 * j + ix p) 1 17 (8 * i + q) = 0) := by
  intro i q hi hq
  obtain ⟨p1, p2⟩ := hP
  by_cases e : i = j
  · subst e
    rw [pk_us, gb_and (by omega), show bitI p = bitI (nI (ix p)) by rw [← p1], gb_or (by omega)]
    by_cases e2 : q = ix p
    · rw [e2, zs_eq]
      simp
    · rw [zs_j z _ (by omega), ← h i q hi hq, gb_and (by omega)]
      simp [Ne.symm e2]
  · rw [pk_un e, zs_j z _ (by omega)]
    exact h i q hi hq
/-- the first thing that a count breaks -/
def bk (z : zT) (i j : Nat) (n p : Int32) : Int32 := if z 7 i = 1 then (if z 16 j = 0 then (if z 17 (8 * j + ix p) = 0 then (if z 12 j + n ≤ z 10 j + z 10 j * z 11 j / 100 then 0 else -4) else -3) else -2) else -1
theorem bk_ge {z : zT} {i j : Nat} {n p : Int32} (h : 0 ≤ bk z i j n p) : z 7 i = 1 ∧ z 16 j = 0 ∧ z 17 (8 * j + ix p) = 0 ∧ z 12 j + n ≤ z 10 j + z 10 j * z 11 j / 100 := by
  unfold bk at h
  (repeat' split at h)
  · exact ⟨by assumption, by assumption, by assumption, by assumption⟩
  all_goals exact absurd h (by decide)
theorem bk_lt {z : zT} {i j : Nat} {n p : Int32} {w : zT} {X : Int32 × zT} (h : ¬ 0 ≤ bk z i j n p) : (if z 7 i = 1 then (if z 16 j = 0 then (if z 17 (8 * j + ix p) = 0 then (if z 12 j + n ≤ z 10 j + z 10 j * z 11 j / 100 then X else (-4, w)) else (-3, w)) else (-2, w)) else (-1, w)) = (bk z i j n p, w) := by
  unfold bk at h ⊢
  (repeat' split)
  · rename_i h1 h2 h3 h4
    rw [if_pos h1, if_pos h2, if_pos h3, if_pos h4] at h
    exact absurd (by decide) h
  all_goals rfl
theorem ct_room {z : zT} {d : Int32} (hz : zI z) (h : d = nI (ix d)) (h2 : ix d ≤ 400) : (d + 50 - 1) / 50 ≤ 120 - z 18 0 ↔ z 18 0 + (d + 50 - 1) / 50 ≤ 120 := by
  have hU := hz.2.1
  rw [(many_ix h h2).2, hU.1, nI_add, show (120 : Int32) = nI 120 from rfl, pk_sub (by omega), nI_leI (by omega) (by omega), nI_leI (by omega) (by omega)]
  omega
theorem ct_room2 {z : zT} {d : Int32} (hz : zI z) (h : d = nI (ix d)) (h2 : ix d ≤ 400) (h3 : z 18 0 + (d + 50 - 1) / 50 ≤ 120) : zU z + (ix d + 49) / 50 ≤ 120 := by
  have hU := hz.2.1
  rw [(many_ix h h2).2, hU.1, nI_add, show (120 : Int32) = nI 120 from rfl, nI_leI (by omega) (by omega)] at h3
  exact h3
abbrev rm_S_brokenByCounting : Room := { frames := 1, cells := 0, slots := 0, locals := 20 }
set_option maxRecDepth 100000 in
set_option maxHeartbeats 4000000 in
theorem c_S_brokenByCounting {l0 : Launch} {D : va_G} {γ : Nat → ClassId} (hl0 : l0.stackTraces = false) {LP : List Nat} {ks : List kT} {ρ : kT → Nat} {z : zT} {x : xT} {f0 : Nat → va_E} (J : cI LP ks ρ z x) (j : Nat) (n p : Int32) (hj : vK z (3, j)) (hp : isP p = true) : pv_M l0 D (tys_ γ) y_S_brokenByCounting (Cond.code y_S_brokenByCounting b_S_brokenByCounting 3 (Option.some FieldType.int)) rm_S_brokenByCounting [.ref (ρ (3, j)), .int n, .int p] LP (cF γ ks ρ z x f0) (rdP LP (cF γ ks ρ z x f0) (some (.int (bk z (j / 4) j n p)))) (fun _ => False) := by
  refine pv_mk hl0 (by decide) (Nat.le_of_ble_eq_true rfl) (fun κ C R0 hN _ => ?_)
  obtain ⟨H, hV, hz, hJ⟩ := id J
  have M0 : ((0, 0) : kT) ∈ ks := (hV _).mpr (Nat.zero_le _)
  have M1 : ((0, 1) : kT) ∈ ks := (hV _).mpr (by decide : 1 ≤ 3)
  have M2 : ((0, 2) : kT) ∈ ks := (hV _).mpr (by decide : 2 ≤ 3)
  have M3 : ((0, 3) : kT) ∈ ks := (hV _).mpr (by decide : 3 ≤ 3)
  show pv_V D κ 0 0 LP (cF γ ks ρ z x f0) 0 [(0, .ref (ρ (3, j))), (1, .int n), (2, .int p)] []
  have MN : ((3, j) : kT) ∈ ks := (hV _).mpr hj
  have MA : ((1, j / 4) : kT) ∈ ks := (hV _).mpr (vK_a hj.1 hj.2.1)
  have hj68 := vK_lt hz hj
  have hP := isP_ix hp
  have hb : (x.2.1 j &&& bitI p = 0) ↔ z 17 (8 * j + ix p) = 0 := by rw [show bitI p = bitI (nI (ix p)) by rw [← hP.1]]; exact hJ.2.2.2.1 j (ix p) hj68 hP.2
  refine pv_aload_n C d_S_brokenByCounting_0 rfl 0 rfl ?_
  refine pv_get (v := .ref (ρ (1, j / 4))) (ci := 1) C hin_N rfl (H.1 _ MN) ((kf_at H MN).trans rfl) 0 (by decide) fl_S_131 rfl rfl d_S_brokenByCounting_1 ?_
  refine pv_callV (n := 0) (As := []) (rest := []) C (c_A_hasArrived hl0 J (j / 4) ⟨hj.1, hj.2.1⟩) cd_A_hasArrived ml_S_135 in_A im_A_hasArrived se_A_hasArrived (H.1 _ MA) ((kf_at H MA).trans rfl) rfl rfl (by decide +kernel) (by decide) rfl (Nat.le_of_ble_eq_true rfl) rfl d_S_brokenByCounting_4 (by decide) hN R0 (fun _ h => h.elim) (fun v9 LP9 f9 h9 => ?_)
  obtain ⟨rfl, w9, w8⟩ := h9
  have w9 := w9.symm
  have w8 := w8.symm
  subst w9
  subst w8
  refine pv_stf (f2 := (kf ks ρ (cz γ ρ z x) f0)) (st2 := [.int (bN (decide (z 7 (j / 4) = 1)))]) (c2 := 0) (s2 := 0) rfl rfl rfl rfl ?_
  refine pv_ifb_ne (tgt := 12) C d_S_brokenByCounting_7 (by decide) (fun h1 => ?_) (fun h1 => ?_)
  · refine pv_aload_n C d_S_brokenByCounting_12 rfl 0 rfl ?_
    refine pv_get (v := .int (z 16 j)) (ci := 1) C hin_N rfl (H.1 _ MN) ((kf_at H MN).trans rfl) 10 (by decide) fl_S_84 rfl rfl d_S_brokenByCounting_13 ?_
    refine pv_if_eq (tgt := 22) C d_S_brokenByCounting_16 (by decide) (fun h2 => ?_) (fun h2 => ?_)
    · refine pv_aload_n C d_S_brokenByCounting_22 rfl 0 rfl ?_
      refine pv_get (v := .int (x.2.1 j)) (ci := 1) C hin_N rfl (H.1 _ MN) ((kf_at H MN).trans rfl) 8 (by decide) fl_S_110 rfl rfl d_S_brokenByCounting_23 ?_
      refine pv_iload_n C d_S_brokenByCounting_26 rfl 2 rfl ?_
      refine pv_callS (n := 1) (As := [.int p]) (rest := [.int (x.2.1 j)]) C (c_S_bitOf hl0 p) cd_S_bitOf ml_S_76 in_S sm_S_bitOf (by decide +kernel) (by decide) rfl (Nat.le_of_ble_eq_true rfl) rfl d_S_brokenByCounting_27 (by decide) hN R0 (fun _ h => h.elim) (fun v9 LP9 f9 h9 => ?_)
      obtain ⟨rfl, w9, w8⟩ := h9
      have w9 := w9.symm
      have w8 := w8.symm
      subst w9
      subst w8
      refine pv_stf (f2 := (kf ks ρ (cz γ ρ z x) f0)) (st2 := [.int (bitI p), .int (x.2.1 j)]) (c2 := 0) (s2 := 0) rfl rfl rfl rfl ?_
      refine pv_iand C d_S_brokenByCounting_30 ?_
      refine pv_if_eq (tgt := 37) C d_S_brokenByCounting_31 (by decide) (fun h3 => ?_) (fun h3 => ?_)
      · refine pv_aload_n C d_S_brokenByCounting_37 rfl 0 rfl ?_
        refine pv_get (v := .int (z 12 j)) (ci := 1) C hin_N rfl (H.1 _ MN) ((kf_at H MN).trans rfl) 7 (by decide) fl_S_107 rfl rfl d_S_brokenByCounting_38 ?_
        refine pv_iload_n C d_S_brokenByCounting_41 rfl 1 rfl ?_
        refine pv_iadd C d_S_brokenByCounting_42 ?_
        refine pv_aload_n C d_S_brokenByCounting_43 rfl 0 rfl ?_
        refine pv_callV (n := 0) (As := []) (rest := [.int ((z 12 j) + n)]) C (c_N_mostTaken hl0 J j hj) cd_N_mostTaken ml_S_221 in_N im_N_mostTaken se_N_mostTaken (H.1 _ MN) ((kf_at H MN).trans rfl) rfl rfl (by decide +kernel) (by decide) rfl (Nat.le_of_ble_eq_true rfl) rfl d_S_brokenByCounting_44 (by decide) hN R0 (fun _ h => h.elim) (fun v9 LP9 f9 h9 => ?_)
        obtain ⟨rfl, w9, w8⟩ := h9
        have w9 := w9.symm
        have w8 := w8.symm
        subst w9
        subst w8
        refine pv_stf (f2 := (kf ks ρ (cz γ ρ z x) f0)) (st2 := [.int (z 10 j + z 10 j * z 11 j / 100), .int ((z 12 j) + n)]) (c2 := 0) (s2 := 0) rfl rfl rfl rfl ?_
        refine pv_icmp_le (tgt := 55) C d_S_brokenByCounting_47 (by decide) (fun h4 => ?_) (fun h4 => ?_)
        · refine pv_iconst (v := 0) C d_S_brokenByCounting_55 (by decide) ?_
          exact pv_iret C R0 d_S_brokenByCounting_56 (by decide) (by decide) ⟨by unfold bk; rw [if_pos (of_decide_eq_true h1), if_pos h2, if_pos (hb.mp h3), if_pos h4], rfl, rfl⟩
        · refine pv_bipush (v := (-4)) C d_S_brokenByCounting_50 (by decide) ?_
          refine pv_goto (tgt := 56) C d_S_brokenByCounting_52 (by decide) ?_
          exact pv_iret C R0 d_S_brokenByCounting_56 (by decide) (by decide) ⟨by unfold bk; rw [if_pos (of_decide_eq_true h1), if_pos h2, if_pos (hb.mp h3), if_neg h4], rfl, rfl⟩
      · refine pv_bipush (v := (-3)) C d_S_brokenByCounting_34 (by decide) ?_
        exact pv_iret C R0 d_S_brokenByCounting_36 (by decide) (by decide) ⟨by unfold bk; rw [if_pos (of_decide_eq_true h1), if_pos h2, if_neg (fun q => h3 (hb.mpr q))], rfl, rfl⟩
    · refine pv_bipush (v := (-2)) C d_S_brokenByCounting_19 (by decide) ?_
      exact pv_iret C R0 d_S_brokenByCounting_21 (by decide) (by decide) ⟨by unfold bk; rw [if_pos (of_decide_eq_true h1), if_neg h2], rfl, rfl⟩
  · refine pv_iconst (v := (-1)) C d_S_brokenByCounting_10 (by decide) ?_
    exact pv_iret C R0 d_S_brokenByCounting_11 (by decide) (by decide) ⟨by unfold bk; rw [if_neg (of_decide_eq_false h1)], rfl, rfl⟩
abbrev rm_S_makeUnits : Room := { frames := 2, cells := 8, slots := 64, locals := 35 }
set_option maxRecDepth 100000 in
set_option maxHeartbeats 4000000 in
theorem c_S_makeUnits {l0 : Launch} {D : va_G} {γ : Nat → ClassId} (hl0 : l0.stackTraces = false) {LP0 : List Nat} {ks0 : List kT} {ρ0 : kT → Nat} {z0 : zT} {x0 : xT} {f0 : Nat → va_E} (J0 : cI LP0 ks0 ρ0 z0 x0) (j : Nat) (n lot ln : Int32) (N0 : Nat) (hj0 : vK z0 (3, j)) (hl : ln = nI j) (hn : n.toInt ≤ 50 * (N0 : Int)) (hn4 : n.toInt ≤ 400) (hU0 : zU z0 + N0 ≤ 120) (hN8 : N0 ≤ 8) : pv_M l0 D (tys_ γ) y_S_makeUnits (Cond.code y_S_makeUnits b_S_makeUnits 5 (Option.none : Option FieldType)) rm_S_makeUnits [.ref (ρ0 (0, 0)), .ref (ρ0 (3, j)), .int n, .int lot] LP0 (cF γ ks0 ρ0 z0 x0 f0) (fun w LP1 f1 => w = none ∧ ∃ (ks' : List kT) (ρ' : kT → Nat) (x' : xT), f1 = cF γ ks' ρ' (m_cu ln lot j N0 (zU z0) n z0) x' f0 ∧ cI LP1 ks' ρ' (m_cu ln lot j N0 (zU z0) n z0) x' ∧ x'.1 = x0.1 ∧ x'.2.1 = x0.2.1 ∧ (∀ k ∈ ks0, k ∈ ks' ∧ ρ' k = ρ0 k) ∧ (∀ a ∈ LP0, a ∈ LP1) ∧ ∀ k ∈ ks', (∃ i ∈ ks0, ρ' k = ρ0 i) ∨ ρ' k ∉ LP0) (fun _ => False) := by
  refine pv_mk hl0 (by decide) (Nat.le_of_ble_eq_true rfl) (fun κ C R0 hN _ => ?_)
  have loop : ∀ (N : Nat) (c : Int32) (LP : List Nat) (ks : List kT) (ρ : kT → Nat) (z : zT) (x : xT) (cl sl : Nat), cI LP ks ρ z x → vK z (3, j) → c.toInt ≤ 50 * (N : Int) → c.toInt ≤ 400 → zU z + N ≤ 120 → cl + N ≤ 8 → sl + 8 * N ≤ 64 → m_cu ln lot j N0 (zU z0) n z0 = m_cu ln lot j N (zU z) c z → (x.1 = x0.1 ∧ x.2.1 = x0.2.1) → (∀ k ∈ ks0, k ∈ ks ∧ ρ k = ρ0 k) → (∀ a ∈ LP0, a ∈ LP) → (∀ k ∈ ks, (∃ i ∈ ks0, ρ k = ρ0 i) ∨ ρ k ∉ LP0) → pv_V D κ cl sl LP (cF γ ks ρ z x f0) 3 [(4, .int c), (0, .ref (ρ (0, 0))), (1, .ref (ρ (3, j))), (3, .int lot)] [] := by
    intro N
    induction N with
    | zero =>
      intro c LP ks ρ z x cl sl J hj hc hc4 hU2 hcl hsl hr hx hk0 hL0 hfr
      obtain ⟨H, hV, hz, hJ⟩ := id J
      have M0 : ((0, 0) : kT) ∈ ks := (hV _).mpr (Nat.zero_le _)
      have M2 : ((0, 2) : kT) ∈ ks := (hV _).mpr (by decide : 2 ≤ 3)
      have MJ : ((3, j) : kT) ∈ ks := (hV _).mpr hj
      refine pv_iload C d_S_makeUnits_3 0 rfl ?_
      have hle : c ≤ 0 := Int32.le_iff_toInt_le.mpr (by rw [Int32.toInt_zero]; omega)
      refine pv_if_le (tgt := 61) C d_S_makeUnits_5 (by decide) (fun _ => ?_) (fun hgt => absurd hle hgt)
      exact pv_vret C R0 d_S_makeUnits_61 (show cl ≤ 8 by omega) (show sl ≤ 64 by omega) ⟨rfl, ks, ρ, x, by rw [hr, m_cu_0 hle], by rw [hr, m_cu_0 hle]; exact J, hx.1, hx.2, hk0, hL0, hfr⟩
    | succ N ih =>
      intro c LP ks ρ z x cl sl J hj hc hc4 hU2 hcl hsl hr hx hk0 hL0 hfr
      obtain ⟨H, hV, hz, hJ⟩ := id J
      have M0 : ((0, 0) : kT) ∈ ks := (hV _).mpr (Nat.zero_le _)
      have M2 : ((0, 2) : kT) ∈ ks := (hV _).mpr (by decide : 2 ≤ 3)
      have MJ : ((3, j) : kT) ∈ ks := (hV _).mpr hj
      refine pv_iload C d_S_makeUnits_3 0 rfl ?_
      refine pv_if_le (tgt := 61) C d_S_makeUnits_5 (by decide) (fun hle => ?_) (fun hgt => ?_)
      · exact pv_vret C R0 d_S_makeUnits_61 (show cl ≤ 8 by omega) (show sl ≤ 64 by omega) ⟨rfl, ks, ρ, x, by rw [hr, m_cu_0 hle], by rw [hr, m_cu_0 hle]; exact J, hx.1, hx.2, hk0, hL0, hfr⟩
      obtain ⟨c1, c2⟩ := c50 hgt hc4
      have hU : zU z < 120 := by omega
      refine pv_aload_n C d_S_makeUnits_8 rfl 1 rfl ?_
      refine pv_get (v := .int (z 18 0)) (ci := 3) C hin_S rfl (H.1 _ M0) ((kf_at H M0).trans rfl) 4 (by decide) fl_S_98 rfl rfl d_S_makeUnits_9 ?_
      refine pv_aload_n C d_S_makeUnits_12 rfl 1 rfl ?_
      refine pv_get (v := .ref (ρ (0, 2))) (ci := 3) C hin_S rfl (H.1 _ M0) ((kf_at H M0).trans rfl) 1 (by decide) fl_S_17 rfl rfl d_S_makeUnits_13 ?_
      refine pv_alen C 2 rfl (H.1 _ M2) ((kf_at H M2).trans rfl) (v := 120) rfl d_S_makeUnits_16 ?_
      refine pv_icmp_ge (tgt := 61) C d_S_makeUnits_17 (by decide) (fun hw => absurd ((nI_leI (a := 120) (by decide) (by omega)).mp (hz.2.1.1 ▸ hw)) (by omega)) (fun _ => ?_)
      refine pv_aload_n C d_S_makeUnits_20 rfl 1 rfl ?_
      refine pv_get (v := .ref (ρ (0, 2))) (ci := 3) C hin_S rfl (H.1 _ M0) ((kf_at H M0).trans rfl) 1 (by decide) fl_S_17 rfl rfl d_S_makeUnits_21 ?_
      refine pv_aload_n C d_S_makeUnits_24 rfl 1 rfl ?_
      refine pv_get (v := .int (z 18 0)) (ci := 3) C hin_S rfl (H.1 _ M0) ((kf_at H M0).trans rfl) 4 (by decide) fl_S_98 rfl rfl d_S_makeUnits_25 ?_
      refine pv_new (ci := 2) (fs := n0U) C hin_U tyU tyU_ok rfl kl_S_15 is_U in_U (by decide) (show cl + 1 ≤ 8 by omega) (show sl + 8 ≤ 64 by omega) d_S_makeUnits_28 (fun q0 hq0 => ?_)
      refine pv_dup C d_S_makeUnits_31 rfl ?_
      refine pv_aload_n C d_S_makeUnits_32 rfl 2 rfl ?_
      refine pv_iload C d_S_makeUnits_33 0 rfl ?_
      refine pv_bipush (v := 50) C d_S_makeUnits_35 (by decide) ?_
      refine pv_mmin C ml_S_258 (by decide) (Nat.le_of_ble_eq_true rfl) (show cl + 1 ≤ 8 by omega) (show sl + 8 ≤ 64 by omega) d_S_makeUnits_37 ?_
      refine pv_iload_n C d_S_makeUnits_40 rfl 3 rfl ?_
      refine pv_callI (X := fun _ => False) (ret := none) (n := 3) (As := [.ref (ρ (3, j)), .int (if 50 < c then 50 else c), .int lot]) (rest := [.ref q0, .int (z 18 0), .ref (ρ (0, 2))]) C (c_U_init hl0 (List.mem_append_right _ (List.mem_singleton.mpr rfl)) (va_up_self _ _ _) (ρ (3, j)) (if 50 < c then 50 else c) lot) cd_U_init ml_S_263 in_U im_U_init rfl (by decide +kernel) (by decide) rfl (Nat.le_of_ble_eq_true rfl) rfl d_S_makeUnits_41 (show cl + 1 + 0 ≤ 8 ∧ sl + 8 + 0 ≤ 64 from ⟨by omega, by omega⟩) hN R0 (fun _ h => h.elim) (fun v9 LP9 f9 h9 => ?_)
      obtain ⟨rfl, w9, w8⟩ := h9
      subst w9
      subst w8
      have k1 : ((4, zU z + 1) : kT) ∉ ks := fun w => by have w2 : 1 ≤ zU z + 1 ∧ zU z + 1 ≤ zU z := (hV _).mp w; omega
      obtain ⟨ρ', a1, a2, H', a4⟩ := kf_new1 (c := cz γ ρ z x) (f0 := f0) H (.inr (2, n0U)) (.inr (2, [.ref (ρ (3, j)), .int (if 50 < c then 50 else c), .int lot, .int (-1), .int 0, .int 0, .int 0, .int 0])) k1 hq0
      have m0 : ∀ k ∈ ks, k ∈ (ks ++ [(4, zU z + 1)]) := fun k w => List.mem_append_left _ w
      have m1 : ((4, zU z + 1) : kT) ∈ (ks ++ [(4, zU z + 1)]) := List.mem_append_right _ (List.mem_singleton.mpr rfl)
      refine pv_stf (f2 := kf (ks ++ [(4, zU z + 1)]) ρ' (ku (cz γ ρ z x) (4, zU z + 1) (.inr (2, [.ref (ρ (3, j)), .int (if 50 < c then 50 else c), .int lot, .int (-1), .int 0, .int 0, .int 0, .int 0]))) f0) (st2 := [.ref (ρ' (4, zU z + 1)), .int (z 18 0), .ref (ρ' (0, 2))]) (c2 := cl + 1) (s2 := sl + 8) a4 (by rw [a1 _ M2, a2]; rfl) rfl rfl ?_
      refine pv_lvs (lv2 := [(4, .int c), (0, .ref (ρ' (0, 0))), (1, .ref (ρ' (3, j))), (3, .int lot)]) [0, 1, 2, 3] (by rw [a1 _ M0, a1 _ MJ]; rfl) ?_
      refine pk_aast (r := (RU, TU, 8)) C H' 2 2 rfl (m0 _ M2) ((ku_ne _ _ (fun q => absurd (congrArg Prod.fst q) (show ¬ (0 : Nat) = 4 by decide))).trans rfl) m1 (ku_eq _ _ _) rfl (j := zU z) hz.2.1.1 (show zU z < 120 from hU) (by decide) d_S_makeUnits_44 ?_
      refine pv_aload_n C d_S_makeUnits_45 rfl 1 rfl ?_
      refine pv_dup C d_S_makeUnits_46 rfl ?_
      refine pv_get (v := .int (z 18 0)) (ci := 3) C hin_S rfl (H'.1 _ (m0 _ M0)) ((kf_at H' (m0 _ M0)).trans ((ku_ne _ _ (by decide)).trans ((ku_ne _ _ (fun q => absurd (congrArg Prod.fst q) (show ¬ (0 : Nat) = 4 by decide))).trans rfl))) 4 (by decide) fl_S_98 rfl rfl d_S_makeUnits_47 ?_
      refine pv_iconst (v := 1) C d_S_makeUnits_50 (by decide) ?_
      refine pv_iadd C d_S_makeUnits_51 ?_
      refine pk_put (ci := 3) (fs := [.ref (ρ (0, 1)), .ref (ρ (0, 2)), .ref (ρ (0, 3)), .int (z 3 0), .int (z 18 0), .int (z 27 0), .int (z 29 0), .int (z 28 0), .int (z 1 0), .int x.1]) C H' hin_S tyS tyS_ok nmS rfl (m0 _ M0) ((ku_ne _ _ (by decide)).trans ((ku_ne _ _ (fun q => absurd (congrArg Prod.fst q) (show ¬ (0 : Nat) = 4 by decide))).trans rfl)) 4 (by decide) fl_S_98 rfl rfl rfl rfl (Nat.le_of_ble_eq_true rfl) d_S_makeUnits_52 ?_
      refine pk_fz (f2 := cF γ (ks ++ [(4, zU z + 1)]) ρ' (m_cs z (zU z) ln lot c j) (x.1, x.2.1, upd x.2.2 (zU z + 1) 0) f0) (kf_eq (fun k hk => cs_cz J hU hj hl a1 hk)) ?_
      have J1 := cs_cI (lot := lot) (c := c) J hU hj hl H'
      have eU := (cs_U (ln := ln) (lot := lot) (c := c) (j := j) hz hU).2
      have hj1 : vK (m_cs z (zU z) ln lot c j) (3, j) := (cs_vK hz hU _).mpr (Or.inl hj)
      refine pv_iinc (v := (c + (-50))) (lv' := [(4, .int (c + (-50))), (0, .ref (ρ' (0, 0))), (1, .ref (ρ' (3, j))), (3, .int lot)]) C d_S_makeUnits_55 0 rfl rfl (by decide) rfl ?_
      refine pv_goto (tgt := 3) C d_S_makeUnits_58 (by decide) ?_
      refine ih (c + (-50)) _ _ ρ' _ _ (cl + 1) (sl + 8) J1 hj1 (by omega) (by omega) (by omega) (by omega) (by omega) ?_ hx (fun k hk => ⟨m0 _ (hk0 k hk).1, (a1 _ (hk0 k hk).1).trans (hk0 k hk).2⟩) (fun a ha => List.mem_append_left _ (hL0 a ha)) (fr_new hL0 hfr a1 ?_)
      · rw [hr, m_cu, if_neg hgt, eU]
      · intro k hk
        rcases List.mem_append.mp hk with w | w
        · exact Or.inl w
        · refine Or.inr ?_
          rw [List.mem_singleton.mp w, a2]
          exact hq0
  show pv_V D κ 0 0 LP0 (cF γ ks0 ρ0 z0 x0 f0) 0 [(0, .ref (ρ0 (0, 0))), (1, .ref (ρ0 (3, j))), (2, .int n), (3, .int lot)] []
  refine pv_iload_n C d_S_makeUnits_0 rfl 2 rfl ?_
  refine pv_istore (lv' := [(4, .int n), (0, .ref (ρ0 (0, 0))), (1, .ref (ρ0 (3, j))), (2, .int n), (3, .int lot)]) C d_S_makeUnits_1 (by decide) rfl ?_
  refine pv_lvs (lv2 := [(4, .int n), (0, .ref (ρ0 (0, 0))), (1, .ref (ρ0 (3, j))), (3, .int lot)]) [0, 1, 2, 4] rfl ?_
  exact loop N0 n LP0 ks0 ρ0 z0 x0 0 0 J0 hj0 hn hn4 hU0 (by omega) (by omega) rfl ⟨rfl, rfl⟩ (fun k hk => ⟨hk, rfl⟩) (fun _ h => h) (fun k hk => Or.inl ⟨k, hk, rfl⟩)
