/-! closed lines and differences over the reference's calls (by wip/whole/gen/l3.py) -/
theorem ca_row {z : zT} {a0 : Int32} {a : Nat} (h1 : a ≠ 0) (h2 : a ≠ 7) : ∀ n t, (m_ca z a0 n t).2 a = z a
  | 0, _ => by
    rw [m_ca]
    show zs (zs (zs z 0 0 0) 0 0 0) 7 (ix a0) 3 a = z a
    rw [zs_row _ _ h2, zs_row _ _ h1, zs_row _ _ h1]
  | n + 1, t => by
    rw [m_ca]
    split
    · show zs (zs z 0 0 0) 0 0 0 a = z a
      rw [zs_row _ _ h1, zs_row _ _ h1]
    · exact ca_row h1 h2 n (t + 1)
theorem zE_announce {z : zT} {o : Int32} {n : Int32} (h : zE z) : zE (m_announce z o n).2 := by
  unfold m_announce
  (repeat' split) <;> exact zE_of h rfl rfl
theorem zE_line {z : zT} {a : Int32} {g : Int32} {n : Int32} (h : zE z) : zE (m_line z a g n).2 := by
  unfold m_line
  (repeat' split) <;> exact zE_of h rfl rfl
theorem zE_arrive {z : zT} {a : Int32} {d : Int32} {b : Bool} (h : zE z) : zE (m_arrive z a d b).2 := by
  unfold m_arrive
  (repeat' split) <;> exact zE_of h rfl rfl
theorem zE_accept {z : zT} {a : Int32} {p : Int32} (h : zE z) : zE (m_accept z a p) := by
  unfold m_accept
  (repeat' split) <;> exact zE_of h rfl rfl
theorem zE_right {z : zT} {p : Int32} {b : Bool} (h : zE z) : zE (m_right z p b) := by
  unfold m_right
  (repeat' split) <;> exact zE_of h rfl rfl
theorem zE_tolerance {z : zT} {a : Int32} {n : Int32} {d : Int32} (h : zE z) : zE (m_tolerance z a n d) := by
  unfold m_tolerance
  (repeat' split) <;> exact zE_of h rfl rfl
theorem zE_wanted {z : zT} {a : Int32} {n : Int32} {d : Int32} (h : zE z) : zE (m_wanted z a n d) := by
  unfold m_wanted
  (repeat' split) <;> exact zE_of h rfl rfl
theorem zE_count {z : zT} {a : Int32} {n : Int32} {d : Int32} {e : Int32} {p : Int32} (h : zE z) : zE (m_count z a n d e p).2 := by
  unfold m_count
  (repeat' split) <;> first | exact zE_of h rfl rfl | exact zE_of h (cu_row (by decide) _ _ _ _) (cu_row (by decide) _ _ _ _)
theorem zE_damaged {z : zT} {u : Int32} {v : Int32} (h : zE z) : zE (m_damaged z u v).2 := by
  unfold m_damaged
  (repeat' split) <;> exact zE_of h rfl rfl
theorem zE_sample {z : zT} {a : Int32} {n : Int32} {b : Bool} (h : zE z) : zE (m_sample z a n b).2 := by
  unfold m_sample
  (repeat' split) <;> first | exact zE_of h rfl rfl | exact zE_of h (qn_row _ _ _ _ (by decide)) (qn_row _ _ _ _ (by decide))
theorem zE_date {z : zT} {u : Int32} {d : Int32} (h : zE z) : zE (m_date z u d).2 := by
  unfold m_date
  (repeat' split) <;> exact zE_of h rfl rfl
theorem zE_take {z : zT} {u : Int32} {p : Int32} (h : zE z) : zE (m_take z u p).2 := by
  unfold m_take
  (repeat' split) <;> exact zE_of h rfl rfl
theorem zE_label {z : zT} {u : Int32} (h : zE z) : zE (m_label z u).2 := by
  unfold m_label
  (repeat' split) <;> exact zE_of h rfl rfl
theorem zE_again {z : zT} {u : Int32} (h : zE z) : zE (m_again z u).2 := by
  unfold m_again
  (repeat' split) <;> exact zE_of h rfl rfl
theorem zE_close {z : zT} {a n : Int32} (hz : zI z) (h : zE z) : zE (m_close z a n).2 := by
  unfold m_close
  (repeat' split)
  any_goals exact zE_of h rfl rfl
  all_goals
    rename_i h1 h2 h3 h4 h5 h6 h7
    have hd := zE_64 h hz h1 h3
    obtain ⟨hA, hn, g4, g5⟩ := isL_ix hz h1
    have e : 4 * ix a + ix n = (4 * ix a + ix n - 4) + 4 := by omega
    unfold zE at h ⊢
  · have hc := cC_set (z := z) (z' := zs (zs (zs (zs z 0 0 0) 0 0 0) 16 (4 * ix a + ix n) 1) 28 0 (z 28 0 + 1)) (j := 4 * ix a + ix n - 4) (by rw [← e]; exact h3) (by rw [← e, zs_k _ _ (by decide), zs_eq]) (fun i hi => by rw [zs_k _ _ (by decide), zs_j _ _ (by omega)]; rfl) 64 (by omega)
    show zD z ≤ cC (zs (zs (zs (zs z 0 0 0) 0 0 0) 16 (4 * ix a + ix n) 1) 28 0 (z 28 0 + 1)) 64
    omega
  · have hc := cC_set (z := z) (z' := zs (zs (zs (zs (zs (zs z 0 0 0) 0 0 0) 16 (4 * ix a + ix n) 1) 28 0 (z 28 0 + 1)) 30 (zD z) (4 * a + n)) 29 0 (z 29 0 + 1)) (j := 4 * ix a + ix n - 4) (by rw [← e]; exact h3) (by rw [← e, zs_k _ _ (by decide), zs_k _ _ (by decide), zs_k _ _ (by decide), zs_eq]) (fun i hi => by rw [zs_k _ _ (by decide), zs_k _ _ (by decide), zs_k _ _ (by decide), zs_j _ _ (by omega)]; rfl) 64 (by omega)
    show ix (z 29 0 + 1) ≤ cC (zs (zs (zs (zs (zs (zs z 0 0 0) 0 0 0) 16 (4 * ix a + ix n) 1) 28 0 (z 28 0 + 1)) 30 (zD z) (4 * a + n)) 29 0 (z 29 0 + 1)) 64
    rw [hc, hz.2.2.1.1, nI_next, ix_nI (by omega)]
    omega
theorem zE_closeAll {z : zT} {a : Int32} (h : zE z) : zE (m_closeAll z a).2 := by
  unfold m_closeAll
  (repeat' split) <;> first | exact zE_of h rfl rfl | exact zE_of h (ca_row (by decide) (by decide) _ _) (ca_row (by decide) (by decide) _ _)
theorem zE_day {z : zT} {d : Int32} (h : zE z) : zE (m_day z d) := by
  unfold m_day
  (repeat' split) <;> exact zE_of h rfl rfl
theorem zE_differ {z : zT} {i : Int32} {w : Int32} (h : zE z) : zE (m_differ z i w).2 := by
  unfold m_differ
  (repeat' split) <;> exact zE_of h rfl rfl
theorem zE_claim {z : zT} {a : Int32} {i : Int32} (h : zE z) : zE (m_claim z a i).2 := by
  unfold m_claim
  (repeat' split) <;> exact zE_of h rfl rfl
theorem zE_unit {z : zT} {u : Int32} {w : Int32} (h : zE z) : zE (m_unit z u w).2 := by
  unfold m_unit
  (repeat' split) <;> exact zE_of h rfl rfl
theorem zE_told {z : zT} {a : Int32} {n : Int32} {w : Int32} (h : zE z) : zE (m_told z a n w).2 := by
  unfold m_told
  (repeat' split) <;> exact zE_of h rfl rfl
theorem zE_state {z : zT} {a : Int32} {w : Int32} (h : zE z) : zE (m_state z a w).2 := by
  unfold m_state
  (repeat' split) <;> exact zE_of h rfl rfl
