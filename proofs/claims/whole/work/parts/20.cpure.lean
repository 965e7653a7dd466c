/-! what a change of the abstract state changes of the component's cells -/
section CZ
variable {γ : Nat → ClassId} {ρ : kT → Nat} {z : zT} {x : xT} {k : kT} {k0 j : Nat} {v : Int32}
theorem cz_non (h0 : k0 = 0 ∨ k0 = 2 ∨ k0 = 17 ∨ k0 = 20) : cz γ ρ (zs z k0 j v) x k = cz γ ρ z x k := by
  have r : ∀ a, (a ≠ 0 ∧ a ≠ 2 ∧ a ≠ 17 ∧ a ≠ 20) → zs z k0 j v a = z a := fun a h => zs_row z v (by omega)
  have hS : cS ρ (zs z k0 j v) x = cS ρ z x := by simp only [cS, r 3 (by decide), r 18 (by decide), r 27 (by decide), r 29 (by decide), r 28 (by decide), r 1 (by decide)]
  have hA : ∀ i, cA ρ (zs z k0 j v) i = cA ρ z i := fun i => by simp only [cA, r 4 (by decide), r 5 (by decide), r 6 (by decide), r 7 (by decide), r 8 (by decide)]
  have hN : ∀ i, cN ρ (zs z k0 j v) x i = cN ρ z x i := fun i => by simp only [cN, r 9 (by decide), r 10 (by decide), r 11 (by decide), r 12 (by decide), r 13 (by decide), r 14 (by decide), r 15 (by decide), r 16 (by decide)]
  have hU : ∀ i, cU ρ (zs z k0 j v) x i = cU ρ z x i := fun i => by simp only [cU, zl, r 19 (by decide), r 21 (by decide), r 22 (by decide), r 23 (by decide), r 24 (by decide), r 25 (by decide), r 26 (by decide)]
  have h1 : gA ρ (zs z k0 j v) = gA ρ z := by funext i; simp only [gA, zA, r 3 (by decide)]
  have h2 : gU ρ (zs z k0 j v) = gU ρ z := by funext i; simp only [gU, zU, r 18 (by decide)]
  have h3 : gD ρ (zs z k0 j v) = gD ρ z := by funext i; simp only [gD, zD, r 29 (by decide), r 30 (by decide)]
  have h4 : ∀ i, gL ρ (zs z k0 j v) i = gL ρ z i := fun i => by funext q; simp only [gL, zt, r 6 (by decide)]
  simp only [cz, hS, hA, hN, hU, h1, h2, h3, h4]
theorem cz_split {a b : kT → va_E} (h00 : a (0, 0) = b (0, 0)) (h01 : a (0, 1) = b (0, 1)) (h02 : a (0, 2) = b (0, 2)) (h03 : ∀ n, a (0, n + 3) = b (0, n + 3)) (h1 : ∀ i, a (1, i) = b (1, i)) (h2 : ∀ i, a (2, i) = b (2, i)) (h3 : ∀ i, k = (3, i) → a (3, i) = b (3, i)) (h4 : ∀ n i, k = (n + 4, i) → a (n + 4, i) = b (n + 4, i)) : a k = b k := by
  obtain ⟨p, i⟩ := k
  match p, i with
  | 0, 0 => exact h00
  | 0, 1 => exact h01
  | 0, 2 => exact h02
  | 0, n + 3 => exact h03 n
  | 1, i => exact h1 i
  | 2, i => exact h2 i
  | 3, i => exact h3 i rfl
  | n + 4, i => exact h4 n i rfl
theorem cz_line (h0 : 9 ≤ k0) (h1 : k0 ≤ 16) (hk : k ≠ (3, j)) : cz γ ρ (zs z k0 j v) x k = cz γ ρ z x k := by
  have r : ∀ a, (a < 9 ∨ 16 < a) → zs z k0 j v a = z a := fun a h => zs_row z v (by omega)
  refine cz_split (a := cz γ ρ (zs z k0 j v) x) (b := cz γ ρ z x) ?_ ?_ ?_ (fun n => ?_) (fun i => ?_) (fun i => ?_) (fun i hi => ?_) (fun n i hi => ?_)
  · show Sum.inr (3, cS ρ _ x) = Sum.inr (3, cS ρ z x)
    simp only [cS, r 3 (by decide), r 18 (by decide), r 27 (by decide), r 29 (by decide), r 28 (by decide), r 1 (by decide)]
  · show Sum.inl (γ 0, 16, _) = Sum.inl (γ 0, 16, _)
    rw [show gA ρ (zs z k0 j v) = gA ρ z by funext i; simp only [gA, zA, r 3 (by decide)]]
  · show Sum.inl (γ 2, 120, _) = Sum.inl (γ 2, 120, _)
    rw [show gU ρ (zs z k0 j v) = gU ρ z by funext i; simp only [gU, zU, r 18 (by decide)]]
  · show Sum.inl (γ 1, 64, _) = Sum.inl (γ 1, 64, _)
    rw [show gD ρ (zs z k0 j v) = gD ρ z by funext i; simp only [gD, zD, r 29 (by decide), r 30 (by decide)]]
  · show Sum.inr (0, cA ρ _ i) = Sum.inr (0, cA ρ z i)
    simp only [cA, r 4 (by decide), r 5 (by decide), r 6 (by decide), r 7 (by decide), r 8 (by decide)]
  · show Sum.inl (γ 1, 4, _) = Sum.inl (γ 1, 4, _)
    rw [show gL ρ (zs z k0 j v) i = gL ρ z i by funext q; simp only [gL, zt, r 6 (by decide)]]
  · have hij : i ≠ j := fun q => hk (by rw [hi, q])
    show Sum.inr (1, cN ρ _ x i) = Sum.inr (1, cN ρ z x i)
    simp only [cN, zs_j z v hij]
  · show Sum.inr (2, cU ρ _ x i) = Sum.inr (2, cU ρ z x i)
    simp only [cU, zl, r 19 (by decide), r 21 (by decide), r 22 (by decide), r 23 (by decide), r 24 (by decide), r 25 (by decide), r 26 (by decide)]
theorem cz_unit (h0 : 21 ≤ k0) (h1 : k0 ≤ 26) (hk : k ≠ (4, j)) (hv : k.1 ≤ 4) : cz γ ρ (zs z k0 j v) x k = cz γ ρ z x k := by
  have r : ∀ a, (a < 21 ∨ 26 < a) → zs z k0 j v a = z a := fun a h => zs_row z v (by omega)
  refine cz_split (a := cz γ ρ (zs z k0 j v) x) (b := cz γ ρ z x) ?_ ?_ ?_ (fun n => ?_) (fun i => ?_) (fun i => ?_) (fun i hi => ?_) (fun n i hi => ?_)
  · show Sum.inr (3, cS ρ _ x) = Sum.inr (3, cS ρ z x)
    simp only [cS, r 3 (by decide), r 18 (by decide), r 27 (by decide), r 29 (by decide), r 28 (by decide), r 1 (by decide)]
  · show Sum.inl (γ 0, 16, _) = Sum.inl (γ 0, 16, _)
    rw [show gA ρ (zs z k0 j v) = gA ρ z by funext i; simp only [gA, zA, r 3 (by decide)]]
  · show Sum.inl (γ 2, 120, _) = Sum.inl (γ 2, 120, _)
    rw [show gU ρ (zs z k0 j v) = gU ρ z by funext i; simp only [gU, zU, r 18 (by decide)]]
  · show Sum.inl (γ 1, 64, _) = Sum.inl (γ 1, 64, _)
    rw [show gD ρ (zs z k0 j v) = gD ρ z by funext i; simp only [gD, zD, r 29 (by decide), r 30 (by decide)]]
  · show Sum.inr (0, cA ρ _ i) = Sum.inr (0, cA ρ z i)
    simp only [cA, r 4 (by decide), r 5 (by decide), r 6 (by decide), r 7 (by decide), r 8 (by decide)]
  · show Sum.inl (γ 1, 4, _) = Sum.inl (γ 1, 4, _)
    rw [show gL ρ (zs z k0 j v) i = gL ρ z i by funext q; simp only [gL, zt, r 6 (by decide)]]
  · show Sum.inr (1, cN ρ _ x i) = Sum.inr (1, cN ρ z x i)
    simp only [cN, r 9 (by decide), r 10 (by decide), r 11 (by decide), r 12 (by decide), r 13 (by decide), r 14 (by decide), r 15 (by decide), r 16 (by decide)]
  · have hij : i ≠ j := fun q => hk (by
      have h5 : n = 0 := by rw [hi] at hv; exact Nat.le_zero.mp (by have : n + 4 ≤ 4 := hv; omega)
      rw [hi, q, h5])
    show Sum.inr (2, cU ρ _ x i) = Sum.inr (2, cU ρ z x i)
    simp only [cU, zl, zs_j z v hij]
theorem cz_ann (h0 : k0 = 4 ∨ k0 = 5 ∨ k0 = 7 ∨ k0 = 8) (hk : k ≠ (1, j)) : cz γ ρ (zs z k0 j v) x k = cz γ ρ z x k := by
  have r : ∀ a, (a ≠ 4 ∧ a ≠ 5 ∧ a ≠ 7 ∧ a ≠ 8) → zs z k0 j v a = z a := fun a h => zs_row z v (by omega)
  by_cases h1 : k.1 = 1
  · obtain ⟨p, i⟩ := k
    cases h1
    have hij : i ≠ j := fun q => hk (by rw [q])
    show Sum.inr (0, cA ρ _ i) = Sum.inr (0, cA ρ z i)
    simp only [cA, zs_j z v hij]
  · obtain ⟨p, i⟩ := k
    match p, i, h1 with
    | 0, 0, _ =>
      show Sum.inr (3, cS ρ _ x) = Sum.inr (3, cS ρ z x)
      simp only [cS, r 3 (by decide), r 18 (by decide), r 27 (by decide), r 29 (by decide), r 28 (by decide), r 1 (by decide)]
    | 0, 1, _ =>
      show Sum.inl (γ 0, 16, _) = Sum.inl (γ 0, 16, _)
      rw [show gA ρ (zs z k0 j v) = gA ρ z by funext i; simp only [gA, zA, r 3 (by decide)]]
    | 0, 2, _ =>
      show Sum.inl (γ 2, 120, _) = Sum.inl (γ 2, 120, _)
      rw [show gU ρ (zs z k0 j v) = gU ρ z by funext i; simp only [gU, zU, r 18 (by decide)]]
    | 0, n + 3, _ =>
      show Sum.inl (γ 1, 64, _) = Sum.inl (γ 1, 64, _)
      rw [show gD ρ (zs z k0 j v) = gD ρ z by funext i; simp only [gD, zD, r 29 (by decide), r 30 (by decide)]]
    | 1, i, h => exact absurd rfl h
    | 2, i, _ =>
      show Sum.inl (γ 1, 4, _) = Sum.inl (γ 1, 4, _)
      rw [show gL ρ (zs z k0 j v) i = gL ρ z i by funext q; simp only [gL, zt, r 6 (by decide)]]
    | 3, i, _ =>
      show Sum.inr (1, cN ρ _ x i) = Sum.inr (1, cN ρ z x i)
      simp only [cN, r 9 (by decide), r 10 (by decide), r 11 (by decide), r 12 (by decide), r 13 (by decide), r 14 (by decide), r 15 (by decide), r 16 (by decide)]
    | n + 4, i, _ =>
      show Sum.inr (2, cU ρ _ x i) = Sum.inr (2, cU ρ z x i)
      simp only [cU, zl, r 19 (by decide), r 21 (by decide), r 22 (by decide), r 23 (by decide), r 24 (by decide), r 25 (by decide), r 26 (by decide)]
theorem cz_obj (h0 : k0 = 1 ∨ k0 = 27 ∨ k0 = 28) (hk : k ≠ (0, 0)) : cz γ ρ (zs z k0 j v) x k = cz γ ρ z x k := by
  have r : ∀ a, (a ≠ 1 ∧ a ≠ 27 ∧ a ≠ 28) → zs z k0 j v a = z a := fun a h => zs_row z v (by omega)
  obtain ⟨p, i⟩ := k
  match p, i, hk with
  | 0, 0, h => exact absurd rfl h
  | 0, 1, _ =>
    show Sum.inl (γ 0, 16, _) = Sum.inl (γ 0, 16, _)
    rw [show gA ρ (zs z k0 j v) = gA ρ z by funext i; simp only [gA, zA, r 3 (by decide)]]
  | 0, 2, _ =>
    show Sum.inl (γ 2, 120, _) = Sum.inl (γ 2, 120, _)
    rw [show gU ρ (zs z k0 j v) = gU ρ z by funext i; simp only [gU, zU, r 18 (by decide)]]
  | 0, n + 3, _ =>
    show Sum.inl (γ 1, 64, _) = Sum.inl (γ 1, 64, _)
    rw [show gD ρ (zs z k0 j v) = gD ρ z by funext i; simp only [gD, zD, r 29 (by decide), r 30 (by decide)]]
  | 1, i, _ =>
    show Sum.inr (0, cA ρ _ i) = Sum.inr (0, cA ρ z i)
    simp only [cA, r 4 (by decide), r 5 (by decide), r 6 (by decide), r 7 (by decide), r 8 (by decide)]
  | 2, i, _ =>
    show Sum.inl (γ 1, 4, _) = Sum.inl (γ 1, 4, _)
    rw [show gL ρ (zs z k0 j v) i = gL ρ z i by funext q; simp only [gL, zt, r 6 (by decide)]]
  | 3, i, _ =>
    show Sum.inr (1, cN ρ _ x i) = Sum.inr (1, cN ρ z x i)
    simp only [cN, r 9 (by decide), r 10 (by decide), r 11 (by decide), r 12 (by decide), r 13 (by decide), r 14 (by decide), r 15 (by decide), r 16 (by decide)]
  | n + 4, i, _ =>
    show Sum.inr (2, cU ρ _ x i) = Sum.inr (2, cU ρ z x i)
    simp only [cU, zl, r 19 (by decide), r 21 (by decide), r 22 (by decide), r 23 (by decide), r 24 (by decide), r 25 (by decide), r 26 (by decide)]
/-- the extras: rights' bits in the object alone, count bits in their line alone, waiting in its unit alone -/
theorem cz_x1 {b : Int32} (hk : k ≠ (0, 0)) : cz γ ρ z (b, x.2) k = cz γ ρ z x k := by
  obtain ⟨p, i⟩ := k
  match p, i, hk with
  | 0, 0, h => exact absurd rfl h
  | 0, 1, _ => rfl
  | 0, 2, _ => rfl
  | 0, n + 3, _ => rfl
  | 1, i, _ => rfl
  | 2, i, _ => rfl
  | 3, i, _ => rfl
  | n + 4, i, _ => rfl
theorem cz_x2 {i0 : Nat} {b : Int32} (hk : k ≠ (3, i0)) : cz γ ρ z (x.1, upd x.2.1 i0 b, x.2.2) k = cz γ ρ z x k := by
  obtain ⟨p, i⟩ := k
  match p, i, hk with
  | 0, 0, _ => rfl
  | 0, 1, _ => rfl
  | 0, 2, _ => rfl
  | 0, n + 3, _ => rfl
  | 1, i, _ => rfl
  | 2, i, _ => rfl
  | 3, i, h =>
    have hij : i ≠ i0 := fun q => h (by rw [q])
    show Sum.inr (1, cN ρ z _ i) = Sum.inr (1, cN ρ z x i)
    simp only [cN, pk_un hij]
  | n + 4, i, _ => rfl
theorem cz_x3 {i0 : Nat} {b : Int32} (hk : k ≠ (4, i0)) (hv : k.1 ≤ 4) : cz γ ρ z (x.1, x.2.1, upd x.2.2 i0 b) k = cz γ ρ z x k := by
  obtain ⟨p, i⟩ := k
  match p, i, hk, hv with
  | 0, 0, _, _ => rfl
  | 0, 1, _, _ => rfl
  | 0, 2, _, _ => rfl
  | 0, n + 3, _, _ => rfl
  | 1, i, _, _ => rfl
  | 2, i, _, _ => rfl
  | 3, i, _, _ => rfl
  | n + 4, i, h, hv =>
    have h5 : n = 0 := by have : n + 4 ≤ 4 := hv; omega
    have hij : i ≠ i0 := fun q => h (by rw [q, h5])
    show Sum.inr (2, cU ρ z _ i) = Sum.inr (2, cU ρ z x i)
    simp only [cU, pk_un hij]
end CZ
theorem vK_4 {z : zT} {k : kT} (h : vK z k) : k.1 ≤ 4 := by
  obtain ⟨p, i⟩ := k
  match p, h with
  | 0, _ => exact Nat.zero_le 4
  | 1, _ => exact (by decide : 1 ≤ 4)
  | 2, _ => exact (by decide : 2 ≤ 4)
  | 3, _ => exact (by decide : 3 ≤ 4)
  | 4, _ => exact Nat.le_refl 4
  | n + 5, h => exact h.elim
/-! bits -/
abbrev gb (x : Int32) (q : Nat) : Bool := x.toBitVec.getLsbD q
theorem bit_tp : ∀ l, l < 32 → (bitI (nI l)).toBitVec = BitVec.twoPow 32 l := by decide +kernel
theorem gb_and {x : Int32} {q : Nat} (hq : q < 32) : (x &&& bitI (nI q) = 0) ↔ gb x q = false := by
  have e : (x &&& bitI (nI q)).toBitVec = x.toBitVec &&& BitVec.twoPow 32 q := by rw [← bit_tp q hq]; rfl
  have e2 : x.toBitVec &&& BitVec.twoPow 32 q = if gb x q then BitVec.twoPow 32 q else 0#32 := BitVec.and_twoPow ..
  have hne : BitVec.twoPow 32 q ≠ 0#32 := by
    intro h
    have := congrArg (fun w : BitVec 32 => w.getLsbD q) h
    simp [BitVec.getLsbD_twoPow, hq] at this
  constructor
  · intro h
    cases hg : gb x q with
    | false => rfl
    | true =>
      exfalso
      rw [hg, if_pos rfl, ← e, h] at e2
      exact hne e2.symm
  · intro h
    rw [h, ← e] at e2
    exact Int32.toBitVec_inj.mp e2
theorem gb_or {x : Int32} {p q : Nat} (hp : p < 32) : gb (x ||| bitI (nI p)) q = (gb x q || decide (p = q)) := by
  show (x ||| bitI (nI p)).toBitVec.getLsbD q = _
  rw [show (x ||| bitI (nI p)).toBitVec = x.toBitVec ||| BitVec.twoPow 32 p by rw [← bit_tp p hp]; rfl, BitVec.getLsbD_or, BitVec.getLsbD_twoPow]
  by_cases h : p = q
  · simp [h]; omega
  · simp [h]
theorem gb_clr {x : Int32} {p q : Nat} (hp : p < 32) (hq : q < 32) : gb (x &&& (bitI (nI p) ^^^ (-1))) q = (gb x q && !decide (p = q)) := by
  show (x &&& (bitI (nI p) ^^^ (-1))).toBitVec.getLsbD q = _
  rw [show (x &&& (bitI (nI p) ^^^ (-1))).toBitVec = x.toBitVec &&& (BitVec.twoPow 32 p ^^^ BitVec.allOnes 32) by rw [← bit_tp p hp]; rfl, BitVec.getLsbD_and, BitVec.getLsbD_xor, BitVec.getLsbD_twoPow, BitVec.getLsbD_allOnes]
  by_cases h : p = q
  · subst h; simp [hq]
  · simp [h, hq]
