/-! contracts of the reference: count, the constructor (by wip/whole/gen/m4.py) -/
def m_cs (q : zT) (w : Nat) (ln lot c : Int32) (j : Nat) : zT := zs (zs (zs (zs (zs (zs q 18 0 (q 18 0 + 1)) 19 (w + 1) ln) 20 (w + 1) (if q 15 j = 0 then 0 else 2)) 21 (w + 1) (if 50 ≤ c then 50 else c)) 22 (w + 1) lot) 23 (w + 1) (-1)
def m_cu (ln lot : Int32) (j : Nat) : Nat → Nat → Int32 → zT → zT
  | 0, _, _, q => q
  | n + 1, w, c, q => if c ≤ 0 then q else m_cu ln lot j n (w + 1) (c + (-50)) (m_cs q w ln lot c j)
theorem m_cu_0 {ln lot c : Int32} {j N w : Nat} {q : zT} (h : c ≤ 0) : m_cu ln lot j N w c q = q := by
  cases N with
  | zero => rfl
  | succ n => rw [m_cu, if_pos h]
theorem c50 {c : Int32} (h1 : ¬ c ≤ 0) (h2 : c.toInt ≤ 400) : 0 < c.toInt ∧ (c + (-50)).toInt = c.toInt - 50 := by
  have h3 : 0 < c.toInt := by
    have := Int32.le_iff_toInt_le (x := c) (y := 0)
    rw [Int32.toInt_zero] at this
    have h4 : ¬ c.toInt ≤ 0 := fun q => h1 (this.mpr q)
    omega
  refine ⟨h3, ?_⟩
  rw [Int32.toInt_add, show ((-50 : Int32)).toInt = -50 by decide]
  unfold Int.bmod
  dsimp only
  split <;> omega
theorem many_ix {x : Int32} (h : x = nI (ix x)) (h2 : ix x ≤ 400) : x + 50 - 1 = nI (ix x + 49) ∧ (x + 50 - 1) / 50 = nI ((ix x + 49) / 50) := by
  have e : x + 50 - 1 = nI (ix x + 49) := by
    obtain ⟨j, hj⟩ : ∃ j, j = ix x := ⟨_, rfl⟩
    rw [← hj] at h h2 ⊢
    subst h
    rw [show (50 : Int32) = nI 50 from rfl, nI_add, show j + 50 = (j + 49) + 1 by omega, nI_pred]
  refine ⟨e, ?_⟩
  rw [e]
  exact pk_div (by omega) (by decide) (by decide)
abbrev rm_M_count : Room := { frames := 3, cells := 0, slots := 0, locals := 65 }
def m_count (z : zT) (a : Int32) (n : Int32) (x : Int32) (e : Int32) (p : Int32) : Int32 × zT :=
  (if (isL z a n) = true then (if (inB x 1 400) = true then (if (inB e 0 99) = true then (if (isP p) = true then (if (z 7 (ix a)) = 1 then (if (z 16 (4 * ix a + ix n)) = 0 then (if (z 17 (8 * (4 * ix a + ix n) + ix p)) = 0 then (if ((z 12 (4 * ix a + ix n)) + x) ≤ (z 10 (4 * ix a + ix n) + z 10 (4 * ix a + ix n) * z 11 (4 * ix a + ix n) / 100) then (if ((z 18 0) + (((x + 50) - 1) / 50)) ≤ 120 then ((((x + 50) - 1) / 50), m_cu ((4 * a) + n) e (4 * ix a + ix n) ((ix x + 49) / 50) (zU z) x (zs (zs (zs (zs z 0 0 0) 0 0 0) 17 (8 * (4 * ix a + ix n) + ix p) 1) 12 (4 * ix a + ix n) ((z 12 (4 * ix a + ix n)) + x))) else (0, (zs (zs z 0 0 0) 0 0 3))) else ((-4), (zs z 0 0 0))) else ((-3), (zs z 0 0 0))) else ((-2), (zs z 0 0 0))) else ((-1), (zs z 0 0 0))) else (0, (zs z 0 0 2))) else (0, (zs z 0 0 2))) else (0, (zs z 0 0 2))) else (0, (zs z 0 0 1)))
set_option maxRecDepth 100000 in
set_option maxHeartbeats 4000000 in
theorem c_M_count {l0 : Launch} {D : va_G} {γ : Nat → ClassId} (hl0 : l0.stackTraces = false) {LP : List Nat} {f0 : Nat → va_E} {mo : Nat} {ad : Nat → Nat} (G : mm_H mo ad LP) (z : zT) (a : Int32) (n : Int32) (x : Int32) (e : Int32) (p : Int32) (hz : zI z) : mM l0 D γ y_M_count (Cond.code y_M_count b_M_count 9 (Option.some FieldType.int)) rm_M_count [.ref mo, .int a, .int n, .int x, .int e, .int p] LP f0 mo ad z (some (.int (m_count z a n x e p).1)) (m_count z a n x e p).2 := by
  refine pv_mk hl0 (by decide) (Nat.le_of_ble_eq_true rfl) (fun κ C R0 hN _ => ?_)
  show pv_V D κ 0 0 LP (mm_f γ f0 mo ad z) 0 [(0, .ref mo), (1, .int a), (2, .int n), (3, .int x), (4, .int e), (5, .int p)] []
  have loop : ∀ (n9 : Nat) (N w : Nat) (c : Int32) (q : zT) (hq : q 18 0 = nI w) (hb : w + N ≤ 120) (hc1 : c.toInt ≤ 50 * N) (hc2 : -50 < c.toInt) (hc3 : c.toInt ≤ 400) (hL : (a = nI (ix a) ∧ 1 ≤ ix a ∧ ix a ≤ zA z ∧ ix a ≤ 16) ∧ n = nI (ix n) ∧ ix n < zt z (ix a) ∧ ix n < 4) (hP : p = nI (ix p) ∧ ix p ≤ 7) (hres : m_count z a n x e p = ((((x + 50) - 1) / 50), m_cu ((4 * a) + n) e (4 * ix a + ix n) N w c q)), N < n9 → pv_V D κ 0 0 LP (mm_f γ f0 mo ad q) 202 [(8, .int c), (7, .int (((x + 50) - 1) / 50)), (6, .int ((4 * a) + n)), (0, .ref mo), (1, .int a), (2, .int n), (3, .int x), (4, .int e), (5, .int p)] [] := by
    intro n9
    induction n9 with
    | zero => intro N w c q hq hb hc1 hc2 hc3 hL hP hres hm; exact absurd hm (Nat.not_lt_zero _)
    | succ n9 ih =>
      intro N w c q hq hb hc1 hc2 hc3 hL hP hres hm
      refine pv_iload C d_M_count_202 0 rfl ?_
      refine pv_if_le (tgt := 302) C d_M_count_204 (by decide) (fun h101 => ?_) (fun h101 => ?_)
      · refine pv_iload C d_M_count_302 1 rfl ?_
        exact pv_iret C R0 d_M_count_304 (by decide) (by decide) (mP_i (by rw [hres, m_cu_0 h101]))
      · have hcc := c50 h101 hc3
        obtain ⟨N, rfl⟩ : ∃ M9, N = M9 + 1 := ⟨N - 1, by omega⟩
        have hI : q 18 0 + 1 = nI (w + 1) := by rw [hq, nI_next]
        refine pv_aload_n C d_M_count_207 rfl 3 rfl ?_
        refine pv_dup C d_M_count_208 rfl ?_
        refine pm_get (v := .int (q 18 0)) C G 18 (by decide) fl_M_98 rfl rfl d_M_count_209 ?_
        refine pv_iconst (v := 1) C d_M_count_212 (by decide) ?_
        refine pv_iadd C d_M_count_213 ?_
        refine pm_put C G 18 (by decide) fl_M_98 rfl rfl rfl (by decide) rfl d_M_count_214 ?_
        refine pv_aload_n C d_M_count_217 rfl 3 rfl ?_
        refine pm_get (v := .ref (ad 19)) C G 19 (by decide) fl_M_56 rfl rfl d_M_count_218 ?_
        refine pv_aload_n C d_M_count_221 rfl 3 rfl ?_
        refine pm_get (v := .int ((q 18 0) + 1)) C G 18 (by decide) fl_M_98 rfl rfl d_M_count_222 ?_
        refine pv_iload C d_M_count_225 2 rfl ?_
        refine pm_ast C G 19 (by decide) rfl (j := (w + 1)) hI (show (w + 1) < 121 by omega) d_M_count_227 ?_
        refine pv_aload_n C d_M_count_228 rfl 3 rfl ?_
        refine pm_get (v := .ref (ad 20)) C G 20 (by decide) fl_M_59 rfl rfl d_M_count_229 ?_
        refine pv_aload_n C d_M_count_232 rfl 3 rfl ?_
        refine pm_get (v := .int ((q 18 0) + 1)) C G 18 (by decide) fl_M_98 rfl rfl d_M_count_233 ?_
        refine pv_aload_n C d_M_count_236 rfl 3 rfl ?_
        refine pm_get (v := .ref (ad 15)) C G 15 (by decide) fl_M_47 rfl rfl d_M_count_237 ?_
        refine pv_iload C d_M_count_240 2 rfl ?_
        refine pm_zld C G 15 (by decide) rfl (j := (4 * ix a + ix n)) (ln_ix hL.1.1 hL.2.1) (show (4 * ix a + ix n) < 68 by omega) d_M_count_242 ?_
        refine pv_top (y := (q 15 (4 * ix a + ix n))) ((zs_k _ _ (by decide)).trans (zs_k _ _ (by decide))) ?_
        refine pv_if_eq (tgt := 250) C d_M_count_243 (by decide) (fun h102 => ?_) (fun h102 => ?_)
        · refine pv_iconst (v := 0) C d_M_count_250 (by decide) ?_
          refine pm_ast C G 20 (by decide) rfl (j := (w + 1)) hI (show (w + 1) < 121 by omega) d_M_count_251 ?_
          refine pv_aload_n C d_M_count_252 rfl 3 rfl ?_
          refine pm_get (v := .ref (ad 21)) C G 21 (by decide) fl_M_62 rfl rfl d_M_count_253 ?_
          refine pv_aload_n C d_M_count_256 rfl 3 rfl ?_
          refine pm_get (v := .int ((q 18 0) + 1)) C G 18 (by decide) fl_M_98 rfl rfl d_M_count_257 ?_
          refine pv_iload C d_M_count_260 0 rfl ?_
          refine pv_bipush (v := 50) C d_M_count_262 (by decide) ?_
          refine pv_icmp_ge (tgt := 272) C d_M_count_264 (by decide) (fun h103 => ?_) (fun h103 => ?_)
          · refine pv_bipush (v := 50) C d_M_count_272 (by decide) ?_
            refine pm_ast C G 21 (by decide) rfl (j := (w + 1)) hI (show (w + 1) < 121 by omega) d_M_count_274 ?_
            refine pv_aload_n C d_M_count_275 rfl 3 rfl ?_
            refine pm_get (v := .ref (ad 22)) C G 22 (by decide) fl_M_65 rfl rfl d_M_count_276 ?_
            refine pv_aload_n C d_M_count_279 rfl 3 rfl ?_
            refine pm_get (v := .int ((q 18 0) + 1)) C G 18 (by decide) fl_M_98 rfl rfl d_M_count_280 ?_
            refine pv_iload C d_M_count_283 7 rfl ?_
            refine pm_ast C G 22 (by decide) rfl (j := (w + 1)) hI (show (w + 1) < 121 by omega) d_M_count_285 ?_
            refine pv_aload_n C d_M_count_286 rfl 3 rfl ?_
            refine pm_get (v := .ref (ad 23)) C G 23 (by decide) fl_M_68 rfl rfl d_M_count_287 ?_
            refine pv_aload_n C d_M_count_290 rfl 3 rfl ?_
            refine pm_get (v := .int ((q 18 0) + 1)) C G 18 (by decide) fl_M_98 rfl rfl d_M_count_291 ?_
            refine pv_iconst (v := (-1)) C d_M_count_294 (by decide) ?_
            refine pm_ast C G 23 (by decide) rfl (j := (w + 1)) hI (show (w + 1) < 121 by omega) d_M_count_295 ?_
            refine pv_iinc (v := (c + (-50))) (lv' := [(8, .int (c + (-50))), (7, .int (((x + 50) - 1) / 50)), (6, .int ((4 * a) + n)), (0, .ref mo), (1, .int a), (2, .int n), (3, .int x), (4, .int e), (5, .int p)]) C d_M_count_296 0 rfl rfl (by decide) rfl ?_
            refine pv_goto (tgt := 202) C d_M_count_299 (by decide) ?_
            refine pv_lvs (lv2 := [(8, .int (c + (-50))), (7, .int (((x + 50) - 1) / 50)), (6, .int ((4 * a) + n)), (0, .ref mo), (1, .int a), (2, .int n), (3, .int x), (4, .int e), (5, .int p)]) [0, 1, 2, 3, 4, 5, 6, 7, 8] rfl ?_
            exact ih N (w + 1) (c + (-50)) (zs (zs (zs (zs (zs (zs q 18 0 ((q 18 0) + 1)) 19 (w + 1) ((4 * a) + n)) 20 (w + 1) 0) 21 (w + 1) 50) 22 (w + 1) e) 23 (w + 1) (-1)) (hI) (by omega) (by omega) (by omega) (by omega) hL hP (by rw [hres, m_cu, if_neg h101, m_cs, if_pos h102, if_pos h103]) (by omega)
          · refine pv_iload C d_M_count_267 0 rfl ?_
            refine pv_goto (tgt := 274) C d_M_count_269 (by decide) ?_
            refine pm_ast C G 21 (by decide) rfl (j := (w + 1)) hI (show (w + 1) < 121 by omega) d_M_count_274 ?_
            refine pv_aload_n C d_M_count_275 rfl 3 rfl ?_
            refine pm_get (v := .ref (ad 22)) C G 22 (by decide) fl_M_65 rfl rfl d_M_count_276 ?_
            refine pv_aload_n C d_M_count_279 rfl 3 rfl ?_
            refine pm_get (v := .int ((q 18 0) + 1)) C G 18 (by decide) fl_M_98 rfl rfl d_M_count_280 ?_
            refine pv_iload C d_M_count_283 7 rfl ?_
            refine pm_ast C G 22 (by decide) rfl (j := (w + 1)) hI (show (w + 1) < 121 by omega) d_M_count_285 ?_
            refine pv_aload_n C d_M_count_286 rfl 3 rfl ?_
            refine pm_get (v := .ref (ad 23)) C G 23 (by decide) fl_M_68 rfl rfl d_M_count_287 ?_
            refine pv_aload_n C d_M_count_290 rfl 3 rfl ?_
            refine pm_get (v := .int ((q 18 0) + 1)) C G 18 (by decide) fl_M_98 rfl rfl d_M_count_291 ?_
            refine pv_iconst (v := (-1)) C d_M_count_294 (by decide) ?_
            refine pm_ast C G 23 (by decide) rfl (j := (w + 1)) hI (show (w + 1) < 121 by omega) d_M_count_295 ?_
            refine pv_iinc (v := (c + (-50))) (lv' := [(8, .int (c + (-50))), (7, .int (((x + 50) - 1) / 50)), (6, .int ((4 * a) + n)), (0, .ref mo), (1, .int a), (2, .int n), (3, .int x), (4, .int e), (5, .int p)]) C d_M_count_296 0 rfl rfl (by decide) rfl ?_
            refine pv_goto (tgt := 202) C d_M_count_299 (by decide) ?_
            refine pv_lvs (lv2 := [(8, .int (c + (-50))), (7, .int (((x + 50) - 1) / 50)), (6, .int ((4 * a) + n)), (0, .ref mo), (1, .int a), (2, .int n), (3, .int x), (4, .int e), (5, .int p)]) [0, 1, 2, 3, 4, 5, 6, 7, 8] rfl ?_
            exact ih N (w + 1) (c + (-50)) (zs (zs (zs (zs (zs (zs q 18 0 ((q 18 0) + 1)) 19 (w + 1) ((4 * a) + n)) 20 (w + 1) 0) 21 (w + 1) c) 22 (w + 1) e) 23 (w + 1) (-1)) (hI) (by omega) (by omega) (by omega) (by omega) hL hP (by rw [hres, m_cu, if_neg h101, m_cs, if_pos h102, if_neg h103]) (by omega)
        · refine pv_iconst (v := 2) C d_M_count_246 (by decide) ?_
          refine pv_goto (tgt := 251) C d_M_count_247 (by decide) ?_
          refine pm_ast C G 20 (by decide) rfl (j := (w + 1)) hI (show (w + 1) < 121 by omega) d_M_count_251 ?_
          refine pv_aload_n C d_M_count_252 rfl 3 rfl ?_
          refine pm_get (v := .ref (ad 21)) C G 21 (by decide) fl_M_62 rfl rfl d_M_count_253 ?_
          refine pv_aload_n C d_M_count_256 rfl 3 rfl ?_
          refine pm_get (v := .int ((q 18 0) + 1)) C G 18 (by decide) fl_M_98 rfl rfl d_M_count_257 ?_
          refine pv_iload C d_M_count_260 0 rfl ?_
          refine pv_bipush (v := 50) C d_M_count_262 (by decide) ?_
          refine pv_icmp_ge (tgt := 272) C d_M_count_264 (by decide) (fun h104 => ?_) (fun h104 => ?_)
          · refine pv_bipush (v := 50) C d_M_count_272 (by decide) ?_
            refine pm_ast C G 21 (by decide) rfl (j := (w + 1)) hI (show (w + 1) < 121 by omega) d_M_count_274 ?_
            refine pv_aload_n C d_M_count_275 rfl 3 rfl ?_
            refine pm_get (v := .ref (ad 22)) C G 22 (by decide) fl_M_65 rfl rfl d_M_count_276 ?_
            refine pv_aload_n C d_M_count_279 rfl 3 rfl ?_
            refine pm_get (v := .int ((q 18 0) + 1)) C G 18 (by decide) fl_M_98 rfl rfl d_M_count_280 ?_
            refine pv_iload C d_M_count_283 7 rfl ?_
            refine pm_ast C G 22 (by decide) rfl (j := (w + 1)) hI (show (w + 1) < 121 by omega) d_M_count_285 ?_
            refine pv_aload_n C d_M_count_286 rfl 3 rfl ?_
            refine pm_get (v := .ref (ad 23)) C G 23 (by decide) fl_M_68 rfl rfl d_M_count_287 ?_
            refine pv_aload_n C d_M_count_290 rfl 3 rfl ?_
            refine pm_get (v := .int ((q 18 0) + 1)) C G 18 (by decide) fl_M_98 rfl rfl d_M_count_291 ?_
            refine pv_iconst (v := (-1)) C d_M_count_294 (by decide) ?_
            refine pm_ast C G 23 (by decide) rfl (j := (w + 1)) hI (show (w + 1) < 121 by omega) d_M_count_295 ?_
            refine pv_iinc (v := (c + (-50))) (lv' := [(8, .int (c + (-50))), (7, .int (((x + 50) - 1) / 50)), (6, .int ((4 * a) + n)), (0, .ref mo), (1, .int a), (2, .int n), (3, .int x), (4, .int e), (5, .int p)]) C d_M_count_296 0 rfl rfl (by decide) rfl ?_
            refine pv_goto (tgt := 202) C d_M_count_299 (by decide) ?_
            refine pv_lvs (lv2 := [(8, .int (c + (-50))), (7, .int (((x + 50) - 1) / 50)), (6, .int ((4 * a) + n)), (0, .ref mo), (1, .int a), (2, .int n), (3, .int x), (4, .int e), (5, .int p)]) [0, 1, 2, 3, 4, 5, 6, 7, 8] rfl ?_
            exact ih N (w + 1) (c + (-50)) (zs (zs (zs (zs (zs (zs q 18 0 ((q 18 0) + 1)) 19 (w + 1) ((4 * a) + n)) 20 (w + 1) 2) 21 (w + 1) 50) 22 (w + 1) e) 23 (w + 1) (-1)) (hI) (by omega) (by omega) (by omega) (by omega) hL hP (by rw [hres, m_cu, if_neg h101, m_cs, if_neg h102, if_pos h104]) (by omega)
          · refine pv_iload C d_M_count_267 0 rfl ?_
            refine pv_goto (tgt := 274) C d_M_count_269 (by decide) ?_
            refine pm_ast C G 21 (by decide) rfl (j := (w + 1)) hI (show (w + 1) < 121 by omega) d_M_count_274 ?_
            refine pv_aload_n C d_M_count_275 rfl 3 rfl ?_
            refine pm_get (v := .ref (ad 22)) C G 22 (by decide) fl_M_65 rfl rfl d_M_count_276 ?_
            refine pv_aload_n C d_M_count_279 rfl 3 rfl ?_
            refine pm_get (v := .int ((q 18 0) + 1)) C G 18 (by decide) fl_M_98 rfl rfl d_M_count_280 ?_
            refine pv_iload C d_M_count_283 7 rfl ?_
            refine pm_ast C G 22 (by decide) rfl (j := (w + 1)) hI (show (w + 1) < 121 by omega) d_M_count_285 ?_
            refine pv_aload_n C d_M_count_286 rfl 3 rfl ?_
            refine pm_get (v := .ref (ad 23)) C G 23 (by decide) fl_M_68 rfl rfl d_M_count_287 ?_
            refine pv_aload_n C d_M_count_290 rfl 3 rfl ?_
            refine pm_get (v := .int ((q 18 0) + 1)) C G 18 (by decide) fl_M_98 rfl rfl d_M_count_291 ?_
            refine pv_iconst (v := (-1)) C d_M_count_294 (by decide) ?_
            refine pm_ast C G 23 (by decide) rfl (j := (w + 1)) hI (show (w + 1) < 121 by omega) d_M_count_295 ?_
            refine pv_iinc (v := (c + (-50))) (lv' := [(8, .int (c + (-50))), (7, .int (((x + 50) - 1) / 50)), (6, .int ((4 * a) + n)), (0, .ref mo), (1, .int a), (2, .int n), (3, .int x), (4, .int e), (5, .int p)]) C d_M_count_296 0 rfl rfl (by decide) rfl ?_
            refine pv_goto (tgt := 202) C d_M_count_299 (by decide) ?_
            refine pv_lvs (lv2 := [(8, .int (c + (-50))), (7, .int (((x + 50) - 1) / 50)), (6, .int ((4 * a) + n)), (0, .ref mo), (1, .int a), (2, .int n), (3, .int x), (4, .int e), (5, .int p)]) [0, 1, 2, 3, 4, 5, 6, 7, 8] rfl ?_
            exact ih N (w + 1) (c + (-50)) (zs (zs (zs (zs (zs (zs q 18 0 ((q 18 0) + 1)) 19 (w + 1) ((4 * a) + n)) 20 (w + 1) 2) 21 (w + 1) c) 22 (w + 1) e) 23 (w + 1) (-1)) (hI) (by omega) (by omega) (by omega) (by omega) hL hP (by rw [hres, m_cu, if_neg h101, m_cs, if_neg h102, if_neg h104]) (by omega)
  refine pv_aload_n C d_M_count_0 rfl 0 rfl ?_
  refine pv_aload_n C d_M_count_1 rfl 0 rfl ?_
  refine pv_iload_n C d_M_count_2 rfl 1 rfl ?_
  refine pv_iload_n C d_M_count_3 rfl 2 rfl ?_
  refine pv_callV (n := 2) (As := [.int a, .int n]) (rest := [.ref mo]) C (c_M_isLine hl0 G z a n hz) cd_M_isLine ml_M_107 in_M im_M_isLine se_M_isLine G.1 mm_obj rfl rfl (by decide +kernel) (by decide) rfl (Nat.le_of_ble_eq_true rfl) rfl d_M_count_4 (by decide) hN R0 (fun _ h => h.elim) (fun v9 LP9 f9 h9 => ?_)
  obtain ⟨rfl, rfl, rfl⟩ := h9
  refine pv_stf (f2 := mm_f γ f0 mo ad z) (st2 := [.int (bN (isL z a n)), .ref mo]) (c2 := 0) (s2 := 0) rfl rfl rfl rfl ?_
  refine pv_ifb_ne (tgt := 14) C d_M_count_7 (by decide) (fun h1 => ?_) (fun h1 => ?_)
  · have hL := isL_ix hz h1
    refine pv_iload_n C d_M_count_14 rfl 3 rfl ?_
    refine pv_iconst (v := 1) C d_M_count_15 (by decide) ?_
    refine pv_sipush (v := 400) C d_M_count_16 (by decide) ?_
    refine pv_callS (n := 3) (As := [.int x, .int 1, .int 400]) (rest := [.ref mo]) C (c_M_in hl0 G z x 1 400) cd_M_in ml_M_90 in_M sm_M_in (by decide +kernel) (by decide) rfl (Nat.le_of_ble_eq_true rfl) rfl d_M_count_19 (by decide) hN R0 (fun _ h => h.elim) (fun v9 LP9 f9 h9 => ?_)
    obtain ⟨rfl, rfl, rfl⟩ := h9
    refine pv_stf (f2 := mm_f γ f0 mo ad z) (st2 := [.int (bN (inB x 1 400)), .ref mo]) (c2 := 0) (s2 := 0) rfl rfl rfl rfl ?_
    refine pv_ifb_eq (tgt := 44) C d_M_count_22 (by decide) (fun h2 => ?_) (fun h2 => ?_)
    · refine pv_iconst (v := 2) C d_M_count_44 (by decide) ?_
      refine pv_goto (tgt := 49) C d_M_count_45 (by decide) ?_
      refine pm_put C G 0 (by decide) fl_M_83 rfl rfl rfl (by decide) rfl d_M_count_49 ?_
      refine pv_aload_n C d_M_count_52 rfl 0 rfl ?_
      refine pm_get (v := .int 2) C G 0 (by decide) fl_M_83 rfl rfl d_M_count_53 ?_
      refine pv_if_le (tgt := 61) C d_M_count_56 (by decide) (fun q => absurd q (by decide)) (fun _ => ?_)
      refine pv_iconst (v := 0) C d_M_count_59 (by decide) ?_
      exact pv_iret C R0 d_M_count_60 (by decide) (by decide) (mP_i (by unfold m_count; rw [if_pos h1, if_neg (nT h2)]))
    · refine pv_iload C d_M_count_25 4 rfl ?_
      refine pv_iconst (v := 0) C d_M_count_27 (by decide) ?_
      refine pv_bipush (v := 99) C d_M_count_28 (by decide) ?_
      refine pv_callS (n := 3) (As := [.int e, .int 0, .int 99]) (rest := [.ref mo]) C (c_M_in hl0 G z e 0 99) cd_M_in ml_M_90 in_M sm_M_in (by decide +kernel) (by decide) rfl (Nat.le_of_ble_eq_true rfl) rfl d_M_count_30 (by decide) hN R0 (fun _ h => h.elim) (fun v9 LP9 f9 h9 => ?_)
      obtain ⟨rfl, rfl, rfl⟩ := h9
      refine pv_stf (f2 := mm_f γ f0 mo ad z) (st2 := [.int (bN (inB e 0 99)), .ref mo]) (c2 := 0) (s2 := 0) rfl rfl rfl rfl ?_
      refine pv_ifb_eq (tgt := 44) C d_M_count_33 (by decide) (fun h3 => ?_) (fun h3 => ?_)
      · refine pv_iconst (v := 2) C d_M_count_44 (by decide) ?_
        refine pv_goto (tgt := 49) C d_M_count_45 (by decide) ?_
        refine pm_put C G 0 (by decide) fl_M_83 rfl rfl rfl (by decide) rfl d_M_count_49 ?_
        refine pv_aload_n C d_M_count_52 rfl 0 rfl ?_
        refine pm_get (v := .int 2) C G 0 (by decide) fl_M_83 rfl rfl d_M_count_53 ?_
        refine pv_if_le (tgt := 61) C d_M_count_56 (by decide) (fun q => absurd q (by decide)) (fun _ => ?_)
        refine pv_iconst (v := 0) C d_M_count_59 (by decide) ?_
        exact pv_iret C R0 d_M_count_60 (by decide) (by decide) (mP_i (by unfold m_count; rw [if_pos h1, if_pos h2, if_neg (nT h3)]))
      · refine pv_iload C d_M_count_36 5 rfl ?_
        refine pv_callS (n := 1) (As := [.int p]) (rest := [.ref mo]) C (c_M_isPerson hl0 G z p) cd_M_isPerson ml_M_104 in_M sm_M_isPerson (by decide +kernel) (by decide) rfl (Nat.le_of_ble_eq_true rfl) rfl d_M_count_38 (by decide) hN R0 (fun _ h => h.elim) (fun v9 LP9 f9 h9 => ?_)
        obtain ⟨rfl, rfl, rfl⟩ := h9
        refine pv_stf (f2 := mm_f γ f0 mo ad z) (st2 := [.int (bN (isP p)), .ref mo]) (c2 := 0) (s2 := 0) rfl rfl rfl rfl ?_
        refine pv_ifb_ne (tgt := 48) C d_M_count_41 (by decide) (fun h4 => ?_) (fun h4 => ?_)
        · have hP := isP_ix h4
          refine pv_iconst (v := 0) C d_M_count_48 (by decide) ?_
          refine pm_put C G 0 (by decide) fl_M_83 rfl rfl rfl (by decide) rfl d_M_count_49 ?_
          refine pv_aload_n C d_M_count_52 rfl 0 rfl ?_
          refine pm_get (v := .int 0) C G 0 (by decide) fl_M_83 rfl rfl d_M_count_53 ?_
          refine pv_if_le (tgt := 61) C d_M_count_56 (by decide) (fun _ => ?_) (fun q => absurd q (by decide))
          refine pv_iconst (v := 4) C d_M_count_61 (by decide) ?_
          refine pv_iload_n C d_M_count_62 rfl 1 rfl ?_
          refine pv_imul C d_M_count_63 ?_
          refine pv_iload_n C d_M_count_64 rfl 2 rfl ?_
          refine pv_iadd C d_M_count_65 ?_
          refine pv_istore (lv' := [(6, .int ((4 * a) + n)), (0, .ref mo), (1, .int a), (2, .int n), (3, .int x), (4, .int e), (5, .int p)]) C d_M_count_66 (by decide) rfl ?_
          refine pv_aload_n C d_M_count_68 rfl 1 rfl ?_
          refine pm_get (v := .ref (ad 7)) C G 7 (by decide) fl_M_23 rfl rfl d_M_count_69 ?_
          refine pv_iload_n C d_M_count_72 rfl 2 rfl ?_
          refine pm_ald C G 7 (by decide) rfl (j := (ix a)) hL.1.1 (show (ix a) < 17 by omega) d_M_count_73 ?_
          refine pv_top (y := (z 7 (ix a))) (zs_k _ _ (by decide)) ?_
          refine pv_iconst (v := 1) C d_M_count_74 (by decide) ?_
          refine pv_icmp_eq (tgt := 80) C d_M_count_75 (by decide) (fun h5 => ?_) (fun h5 => ?_)
          · refine pv_aload_n C d_M_count_80 rfl 1 rfl ?_
            refine pm_get (v := .ref (ad 16)) C G 16 (by decide) fl_M_50 rfl rfl d_M_count_81 ?_
            refine pv_iload C d_M_count_84 0 rfl ?_
            refine pm_zld C G 16 (by decide) rfl (j := (4 * ix a + ix n)) (ln_ix hL.1.1 hL.2.1) (show (4 * ix a + ix n) < 68 by omega) d_M_count_86 ?_
            refine pv_top (y := (z 16 (4 * ix a + ix n))) (zs_k _ _ (by decide)) ?_
            refine pv_if_eq (tgt := 93) C d_M_count_87 (by decide) (fun h6 => ?_) (fun h6 => ?_)
            · refine pv_aload_n C d_M_count_93 rfl 1 rfl ?_
              refine pm_get (v := .ref (ad 17)) C G 17 (by decide) fl_M_53 rfl rfl d_M_count_94 ?_
              refine pv_bipush (v := 8) C d_M_count_97 (by decide) ?_
              refine pv_iload C d_M_count_99 0 rfl ?_
              refine pv_imul C d_M_count_101 ?_
              refine pv_iload C d_M_count_102 6 rfl ?_
              refine pv_iadd C d_M_count_104 ?_
              refine pm_zld C G 17 (by decide) rfl (j := (8 * (4 * ix a + ix n) + ix p)) (pn_ix (ln_ix hL.1.1 hL.2.1) hP.1) (show (8 * (4 * ix a + ix n) + ix p) < 544 by omega) d_M_count_105 ?_
              refine pv_top (y := (z 17 (8 * (4 * ix a + ix n) + ix p))) (zs_k _ _ (by decide)) ?_
              refine pv_if_eq (tgt := 112) C d_M_count_106 (by decide) (fun h7 => ?_) (fun h7 => ?_)
              · refine pv_aload_n C d_M_count_112 rfl 1 rfl ?_
                refine pm_get (v := .ref (ad 12)) C G 12 (by decide) fl_M_38 rfl rfl d_M_count_113 ?_
                refine pv_iload C d_M_count_116 0 rfl ?_
                refine pm_ald C G 12 (by decide) rfl (j := (4 * ix a + ix n)) (ln_ix hL.1.1 hL.2.1) (show (4 * ix a + ix n) < 68 by omega) d_M_count_118 ?_
                refine pv_top (y := (z 12 (4 * ix a + ix n))) (zs_k _ _ (by decide)) ?_
                refine pv_iload_n C d_M_count_119 rfl 4 rfl ?_
                refine pv_iadd C d_M_count_120 ?_
                refine pv_aload_n C d_M_count_121 rfl 1 rfl ?_
                refine pv_iload C d_M_count_122 0 rfl ?_
                refine pv_callV (n := 1) (As := [.int ((4 * a) + n)]) (rest := [.int ((z 12 (4 * ix a + ix n)) + x)]) C (c_M_takes hl0 G (zs z 0 0 0) ((4 * a) + n) (4 * ix a + ix n) (by omega) (ln_ix hL.1.1 hL.2.1)) cd_M_takes ml_M_111 in_M im_M_takes se_M_takes G.1 mm_obj rfl rfl (by decide +kernel) (by decide) rfl (Nat.le_of_ble_eq_true rfl) rfl d_M_count_124 (by decide) hN R0 (fun _ h => h.elim) (fun v9 LP9 f9 h9 => ?_)
                obtain ⟨rfl, rfl, rfl⟩ := h9
                refine pv_stf (f2 := mm_f γ f0 mo ad (zs z 0 0 0)) (st2 := [.int (z 10 (4 * ix a + ix n) + z 10 (4 * ix a + ix n) * z 11 (4 * ix a + ix n) / 100), .int ((z 12 (4 * ix a + ix n)) + x)]) (c2 := 0) (s2 := 0) rfl rfl rfl rfl ?_
                refine pv_icmp_le (tgt := 133) C d_M_count_127 (by decide) (fun h8 => ?_) (fun h8 => ?_)
                · refine pv_iload_n C d_M_count_133 rfl 4 rfl ?_
                  refine pv_bipush (v := 50) C d_M_count_134 (by decide) ?_
                  refine pv_iadd C d_M_count_136 ?_
                  refine pv_iconst (v := 1) C d_M_count_137 (by decide) ?_
                  refine pv_isub C d_M_count_138 ?_
                  refine pv_bipush (v := 50) C d_M_count_139 (by decide) ?_
                  refine pv_idiv C d_M_count_141 (by decide) ?_
                  refine pv_istore (lv' := [(7, .int (((x + 50) - 1) / 50)), (6, .int ((4 * a) + n)), (0, .ref mo), (1, .int a), (2, .int n), (3, .int x), (4, .int e), (5, .int p)]) C d_M_count_142 (by decide) rfl ?_
                  refine pv_aload_n C d_M_count_144 rfl 2 rfl ?_
                  refine pv_aload_n C d_M_count_145 rfl 2 rfl ?_
                  refine pm_get (v := .int (z 18 0)) C G 18 (by decide) fl_M_98 rfl rfl d_M_count_146 ?_
                  refine pv_iload C d_M_count_149 0 rfl ?_
                  refine pv_iadd C d_M_count_151 ?_
                  refine pv_bipush (v := 120) C d_M_count_152 (by decide) ?_
                  refine pv_icmp_le (tgt := 161) C d_M_count_154 (by decide) (fun h9 => ?_) (fun h9 => ?_)
                  · refine pv_iconst (v := 0) C d_M_count_161 (by decide) ?_
                    refine pm_put C G 0 (by decide) fl_M_83 rfl rfl rfl (by decide) rfl d_M_count_162 ?_
                    refine pv_aload_n C d_M_count_165 rfl 2 rfl ?_
                    refine pm_get (v := .int 0) C G 0 (by decide) fl_M_83 rfl rfl d_M_count_166 ?_
                    refine pv_if_le (tgt := 174) C d_M_count_169 (by decide) (fun _ => ?_) (fun q => absurd q (by decide))
                    have hx := inB_ix (a := 1) (b := 400) h2 rfl rfl (by decide) (by decide)
                    have hx400 : x.toInt = (ix x : Int) := by rw [hx.1, ix_nI (by omega)]; exact nI_toInt (by omega)
                    have hmany := many_ix hx.1 hx.2.2
                    have hzu := hz.2.1.2
                    have hfit : zU z + (ix x + 49) / 50 ≤ 120 := by have hq := h9; rw [hmany.2, hz.2.1.1, nI_add] at hq; exact (nI_leI (by omega) (by decide)).mp hq
                    refine pv_aload_n C d_M_count_174 rfl 2 rfl ?_
                    refine pm_get (v := .ref (ad 17)) C G 17 (by decide) fl_M_53 rfl rfl d_M_count_175 ?_
                    refine pv_bipush (v := 8) C d_M_count_178 (by decide) ?_
                    refine pv_iload C d_M_count_180 1 rfl ?_
                    refine pv_imul C d_M_count_182 ?_
                    refine pv_iload C d_M_count_183 7 rfl ?_
                    refine pv_iadd C d_M_count_185 ?_
                    refine pv_iconst (v := 1) C d_M_count_186 (by decide) ?_
                    refine pm_zst C G 17 (by decide) rfl (j := (8 * (4 * ix a + ix n) + ix p)) (pn_ix (ln_ix hL.1.1 hL.2.1) hP.1) (show (8 * (4 * ix a + ix n) + ix p) < 544 by omega) rfl d_M_count_187 ?_
                    refine pv_aload_n C d_M_count_188 rfl 2 rfl ?_
                    refine pm_get (v := .ref (ad 12)) C G 12 (by decide) fl_M_38 rfl rfl d_M_count_189 ?_
                    refine pv_iload C d_M_count_192 1 rfl ?_
                    refine pv_dup2 C d_M_count_194 rfl rfl ?_
                    refine pm_ald C G 12 (by decide) rfl (j := (4 * ix a + ix n)) (ln_ix hL.1.1 hL.2.1) (show (4 * ix a + ix n) < 68 by omega) d_M_count_195 ?_
                    refine pv_top (y := (z 12 (4 * ix a + ix n))) ((zs_k _ _ (by decide)).trans ((zs_k _ _ (by decide)).trans (zs_k _ _ (by decide)))) ?_
                    refine pv_iload_n C d_M_count_196 rfl 5 rfl ?_
                    refine pv_iadd C d_M_count_197 ?_
                    refine pm_ast C G 12 (by decide) rfl (j := (4 * ix a + ix n)) (ln_ix hL.1.1 hL.2.1) (show (4 * ix a + ix n) < 68 by omega) d_M_count_198 ?_
                    refine pv_iload_n C d_M_count_199 rfl 5 rfl ?_
                    refine pv_istore (lv' := [(8, .int x), (7, .int (((x + 50) - 1) / 50)), (6, .int ((4 * a) + n)), (0, .ref mo), (1, .int a), (2, .int n), (3, .int x), (4, .int e), (5, .int p)]) C d_M_count_200 (by decide) rfl ?_
                    refine pv_lvs (lv2 := [(8, .int x), (7, .int (((x + 50) - 1) / 50)), (6, .int ((4 * a) + n)), (0, .ref mo), (1, .int a), (2, .int n), (3, .int x), (4, .int e), (5, .int p)]) [0, 1, 2, 3, 4, 5, 6, 7, 8] rfl ?_
                    exact loop ((ix x + 49) / 50 + 1) ((ix x + 49) / 50) (zU z) x (zs (zs (zs (zs z 0 0 0) 0 0 0) 17 (8 * (4 * ix a + ix n) + ix p) 1) 12 (4 * ix a + ix n) ((z 12 (4 * ix a + ix n)) + x)) (by simpa [zs] using hz.2.1.1) hfit (by rw [hx400]; omega) (by rw [hx400]; omega) (by rw [hx400]; omega) hL hP (by unfold m_count; rw [if_pos h1, if_pos h2, if_pos h3, if_pos h4, if_pos h5, if_pos h6, if_pos h7, if_pos h8, if_pos h9]) (by omega)
                  · refine pv_iconst (v := 3) C d_M_count_157 (by decide) ?_
                    refine pv_goto (tgt := 162) C d_M_count_158 (by decide) ?_
                    refine pm_put C G 0 (by decide) fl_M_83 rfl rfl rfl (by decide) rfl d_M_count_162 ?_
                    refine pv_aload_n C d_M_count_165 rfl 2 rfl ?_
                    refine pm_get (v := .int 3) C G 0 (by decide) fl_M_83 rfl rfl d_M_count_166 ?_
                    refine pv_if_le (tgt := 174) C d_M_count_169 (by decide) (fun q => absurd q (by decide)) (fun _ => ?_)
                    refine pv_iconst (v := 0) C d_M_count_172 (by decide) ?_
                    exact pv_iret C R0 d_M_count_173 (by decide) (by decide) (mP_i (by unfold m_count; rw [if_pos h1, if_pos h2, if_pos h3, if_pos h4, if_pos h5, if_pos h6, if_pos h7, if_pos h8, if_neg h9]))
                · refine pv_bipush (v := (-4)) C d_M_count_130 (by decide) ?_
                  exact pv_iret C R0 d_M_count_132 (by decide) (by decide) (mP_i (by unfold m_count; rw [if_pos h1, if_pos h2, if_pos h3, if_pos h4, if_pos h5, if_pos h6, if_pos h7, if_neg h8]))
              · refine pv_bipush (v := (-3)) C d_M_count_109 (by decide) ?_
                exact pv_iret C R0 d_M_count_111 (by decide) (by decide) (mP_i (by unfold m_count; rw [if_pos h1, if_pos h2, if_pos h3, if_pos h4, if_pos h5, if_pos h6, if_neg h7]))
            · refine pv_bipush (v := (-2)) C d_M_count_90 (by decide) ?_
              exact pv_iret C R0 d_M_count_92 (by decide) (by decide) (mP_i (by unfold m_count; rw [if_pos h1, if_pos h2, if_pos h3, if_pos h4, if_pos h5, if_neg h6]))
          · refine pv_iconst (v := (-1)) C d_M_count_78 (by decide) ?_
            exact pv_iret C R0 d_M_count_79 (by decide) (by decide) (mP_i (by unfold m_count; rw [if_pos h1, if_pos h2, if_pos h3, if_pos h4, if_neg h5]))
        · refine pv_iconst (v := 2) C d_M_count_44 (by decide) ?_
          refine pv_goto (tgt := 49) C d_M_count_45 (by decide) ?_
          refine pm_put C G 0 (by decide) fl_M_83 rfl rfl rfl (by decide) rfl d_M_count_49 ?_
          refine pv_aload_n C d_M_count_52 rfl 0 rfl ?_
          refine pm_get (v := .int 2) C G 0 (by decide) fl_M_83 rfl rfl d_M_count_53 ?_
          refine pv_if_le (tgt := 61) C d_M_count_56 (by decide) (fun q => absurd q (by decide)) (fun _ => ?_)
          refine pv_iconst (v := 0) C d_M_count_59 (by decide) ?_
          exact pv_iret C R0 d_M_count_60 (by decide) (by decide) (mP_i (by unfold m_count; rw [if_pos h1, if_pos h2, if_pos h3, if_neg (nT h4)]))
  · refine pv_iconst (v := 1) C d_M_count_10 (by decide) ?_
    refine pv_goto (tgt := 49) C d_M_count_11 (by decide) ?_
    refine pm_put C G 0 (by decide) fl_M_83 rfl rfl rfl (by decide) rfl d_M_count_49 ?_
    refine pv_aload_n C d_M_count_52 rfl 0 rfl ?_
    refine pm_get (v := .int 1) C G 0 (by decide) fl_M_83 rfl rfl d_M_count_53 ?_
    refine pv_if_le (tgt := 61) C d_M_count_56 (by decide) (fun q => absurd q (by decide)) (fun _ => ?_)
    refine pv_iconst (v := 0) C d_M_count_59 (by decide) ?_
    exact pv_iret C R0 d_M_count_60 (by decide) (by decide) (mP_i (by unfold m_count; rw [if_neg (nT h1)]))
/-! the constructor: arrays one by one -/
def mi_o (ad : Nat → Nat) (ks : List Nat) : List Value := (List.range 31).map (fun k => if k ∈ ks then .ref (ad k) else if k ∈ mm_arrs then .null else .int 0)
def mi_f (γ : Nat → ClassId) (f : Nat → va_E) (mo : Nat) (ad : Nat → Nat) (ks : List Nat) : Nat → va_E := fun a => if a = mo then .inr (4, mi_o ad ks) else match ks.find? (fun k => ad k == a) with
  | some k => .inl (mm_c γ k, mm_len k, .inl (fun _ => 0))
  | none => f a
def mi_H (mo : Nat) (ad : Nat → Nat) (ks LP : List Nat) : Prop := mo ∈ LP ∧ (∀ k ∈ ks, ad k ∈ LP) ∧ (∀ k ∈ ks, ad k ≠ mo) ∧ ∀ i ∈ ks, ∀ j ∈ ks, ad i = ad j → i = j
theorem mi_H.push {mo : Nat} {ad : Nat → Nat} {ks LP : List Nat} (h : mi_H mo ad ks LP) {k q : Nat} (hq : q ∉ LP) (hk : k ∉ ks) : mi_H mo (va_up ad k q) (ks ++ [k]) (LP ++ [q]) := by
  have e : ∀ i ∈ ks, va_up ad k q i = ad i := fun i hi => va_up_ne _ _ (fun w => hk (w ▸ hi))
  have hm : mo ≠ q := fun w => hq (w ▸ h.1)
  refine ⟨List.mem_append_left _ h.1, fun i hi => ?_, fun i hi => ?_, fun i hi j hj w => ?_⟩
  · rcases List.mem_append.mp hi with g | g
    · rw [e i g]; exact List.mem_append_left _ (h.2.1 i g)
    · rw [List.mem_singleton.mp g, va_up_self]; exact List.mem_append_right _ (List.mem_singleton.mpr rfl)
  · rcases List.mem_append.mp hi with g | g
    · rw [e i g]; exact h.2.2.1 i g
    · rw [List.mem_singleton.mp g, va_up_self]; exact hm.symm
  · rcases List.mem_append.mp hi with g | g <;> rcases List.mem_append.mp hj with g' | g'
    · rw [e i g, e j g'] at w; exact h.2.2.2 i g j g' w
    · rw [List.mem_singleton.mp g', va_up_self, e i g] at w; exact absurd (w ▸ h.2.1 i g) hq
    · rw [List.mem_singleton.mp g, va_up_self, e j g'] at w; exact absurd (w ▸ h.2.1 j g') hq
    · rw [List.mem_singleton.mp g, List.mem_singleton.mp g']
theorem mi_up {γ : Nat → ClassId} {f : Nat → va_E} {mo : Nat} {ad : Nat → Nat} {ks LP : List Nat} (h : mi_H mo ad ks LP) {k q : Nat} (hq : q ∉ LP) (hk : k ∉ ks) (ho : (mi_o ad ks).set k (.ref q) = mi_o (va_up ad k q) (ks ++ [k])) : va_up (va_up (mi_f γ f mo ad ks) q (.inl (mm_c γ k, mm_len k, .inl (fun _ => 0)))) mo (.inr (4, (mi_o ad ks).set k (.ref q))) = mi_f γ f mo (va_up ad k q) (ks ++ [k]) := by
  funext a
  have e : ∀ i ∈ ks, va_up ad k q i = ad i := fun i hi => va_up_ne _ _ (fun w => hk (w ▸ hi))
  by_cases h1 : a = mo
  · subst h1
    rw [va_up_self, ho]
    unfold mi_f
    rw [if_pos rfl]
  · rw [va_up_ne _ _ h1]
    unfold mi_f
    rw [if_neg h1]
    have ef : (ks ++ [k]).find? (fun i => va_up ad k q i == a) = if a = q then some k else ks.find? (fun i => ad i == a) := by
      rw [List.find?_append]
      have e2 : ks.find? (fun i => va_up ad k q i == a) = ks.find? (fun i => ad i == a) := by
        have : ∀ l : List Nat, (∀ i ∈ l, i ∈ ks) → l.find? (fun i => va_up ad k q i == a) = l.find? (fun i => ad i == a) := by
          intro l
          induction l with
          | nil => intro _; rfl
          | cons x l ih =>
            intro hl
            simp only [List.find?_cons, e x (hl x List.mem_cons_self)]
            rw [ih (fun i hi => hl i (List.mem_cons_of_mem _ hi))]
        exact this ks (fun _ w => w)
      rw [e2]
      by_cases h2 : a = q
      · rw [if_pos h2]
        have h3 : ks.find? (fun i => ad i == a) = none := by
          apply List.find?_eq_none.mpr
          intro i hi w
          have w2 : ad i = a := by simpa using w
          exact hq (by rw [← h2, ← w2]; exact h.2.1 i hi)
        rw [h3, h2]
        simp [va_up_self]
      · rw [if_neg h2]
        cases ks.find? (fun i => ad i == a) with
        | some i => rfl
        | none =>
          have : (va_up ad k q k == a) = false := by rw [va_up_self]; simpa using fun w : q = a => h2 w.symm
          simp [List.find?_cons, this]
    rw [ef]
    by_cases h2 : a = q
    · rw [h2, va_up_self, if_pos rfl]
    · rw [va_up_ne _ _ h2, if_neg h2, if_neg h1]
section MI
variable {l0 : Launch} {D : va_G} {γ : Nat → ClassId} {κ : pv_K} {cc : ByteArray} {rm : Room} {nl : Nat} {cells slots : Nat} {LP : List Nat} {f : Nat → va_E} {mo : Nat} {ad : Nat → Nat} {ks : List Nat} {pc : Nat} {lv : List (Nat × Value)}
theorem mi_put (C : pv_C l0 D (tys_ γ) κ cc RM rm nl) (hI : pv_I κ) (h : mi_H mo ad ks LP) {k q index : Nat} (hq : q ∉ LP) (hk : k ∉ ks) (ho : (mi_o ad ks).set k (.ref q) = mi_o (va_up ad k q) (ks ++ [k])) (hk31 : k < 31) (hlk : Cond.fieldLink RM index RM (TM k).2.1 (TM k).2.2.1 ∈ Wg) (hr : (TM k).1 = RM) (hfin : (TM k).2.2.2 = true) (hn : narrow (tyM k) (.ref q) = .ref q) (hft : fits (tyM k) (.ref q) = true) (d : decode cc pc = .ok (.putfield index, 3))
    (kk : pv_V D κ cells slots (LP ++ [q]) (mi_f γ f mo (va_up ad k q) (ks ++ [k])) (pc + 3) lv []) : pv_V D κ cells slots (LP ++ [q]) (va_up (mi_f γ f mo ad ks) q (.inl (mm_c γ k, mm_len k, .inl (fun _ => 0)))) pc lv [.ref q, .ref mo] := by
  have hm : mo ≠ q := fun w => hq (w ▸ h.1)
  refine pv_putF C hI hin_M tyM tyM_ok nmM (ci := 4) (fs := mi_o ad ks) rfl (List.mem_append_left _ h.1) (by rw [va_up_ne _ _ hm]; exact if_pos rfl) k hk31 hlk hr hfin hr hn hft (by rw [mi_o, List.length_map, List.length_range]; exact hk31) d ?_
  rw [mi_up h hq hk ho]
  exact kk
end MI
theorem mi_end {γ : Nat → ClassId} {f : Nat → va_E} {mo : Nat} {ad : Nat → Nat} : mi_f γ f mo ad mm_arrs = mm_f γ f mo ad (fun _ _ => 0) := by
  funext a
  unfold mi_f mm_f
  by_cases h : a = mo
  · rw [if_pos h, if_pos h]; rfl
  · rw [if_neg h, if_neg h]; rfl
theorem mi_0 {γ : Nat → ClassId} {f : Nat → va_E} {mo : Nat} {ad : Nat → Nat} (h : f mo = .inr (4, mi_o ad [])) : f = mi_f γ f mo ad [] := by
  funext a
  unfold mi_f
  by_cases h2 : a = mo
  · rw [if_pos h2, h2, h]
  · rw [if_neg h2]; rfl
theorem mi_E {LP0 LPc : List Nat} {ad : Nat → Nat} {ks : List Nat} {k q : Nat} (E : ∀ i ∈ ks, ad i ∉ LP0) (hs : ∀ a ∈ LP0, a ∈ LPc) (hq : q ∉ LPc) : ∀ i ∈ ks ++ [k], va_up ad k q i ∉ LP0 := by
  intro i hi
  by_cases e : i = k
  · rw [e, va_up_self]; exact fun w => hq (hs q w)
  · rw [va_up_ne _ _ e]
    rcases List.mem_append.mp hi with g | g
    · exact E i g
    · exact absurd (List.mem_singleton.mp g) e
theorem mi_L {LP0 LPc : List Nat} (hs : ∀ a ∈ LP0, a ∈ LPc) (q : Nat) : ∀ a ∈ LP0, a ∈ LPc ++ [q] := fun a h => List.mem_append_left _ (hs a h)
abbrev rm_M_init : Room := { frames := 1, cells := 24, slots := 2213, locals := 12 }
set_option maxRecDepth 100000 in
set_option maxHeartbeats 4000000 in
theorem c_M_init {l0 : Launch} {D : va_G} {γ : Nat → ClassId} (hl0 : l0.stackTraces = false) {LP : List Nat} {f : Nat → va_E} {mo : Nat} (hmo : mo ∈ LP) (hf : f mo = .inr (4, mi_o (fun _ => 0) [])) : pv_M l0 D (tys_ γ) y_M_init (Cond.code y_M_init b_M_init 1 none) rm_M_init [.ref mo] LP f (fun v LP1 f1 => v = none ∧ ∃ (ad : Nat → Nat) (qs : List Nat), LP1 = LP ++ qs ∧ f1 = mm_f γ f mo ad (fun _ _ => 0) ∧ mm_H mo ad LP1 ∧ ∀ k ∈ mm_arrs, ad k ∉ LP) (fun _ => False) := by
  refine pv_mk hl0 (by decide) (Nat.le_of_ble_eq_true rfl) (fun κ C R0 hN hI => ?_)
  have hI := hI rfl
  show pv_V D κ 0 0 LP f 0 [(0, .ref mo)] []
  have H : mi_H mo (fun _ => 0) [] LP := ⟨hmo, fun _ h => absurd h List.not_mem_nil, fun _ h => absurd h List.not_mem_nil, fun _ h => absurd h List.not_mem_nil⟩
  have E0 : ∀ i ∈ ([] : List Nat), (fun _ : Nat => 0) i ∉ LP := fun _ h => absurd h List.not_mem_nil
  have L0 : ∀ a ∈ LP, a ∈ LP := fun _ h => h
  refine pv_aload_n C d_M_init_0 rfl 0 rfl ?_
  refine pv_objInit C ml_M_1 d_M_init_1 (by decide) (Nat.le_of_ble_eq_true rfl) ?_
  rw [mi_0 (γ := γ) hf]
  refine pv_aload_n C d_M_init_4 rfl 0 rfl ?_
  refine pv_bipush (v := 8) C d_M_init_5 (by decide) ?_
  refine pv_newaz C 4 rfl ac_boolean (N := 8) rfl (by decide) (by decide) (by decide) d_M_init_7 (fun q1 hq1 => ?_)
  refine mi_put C hI (k := 2) H hq1 (by decide) rfl (by decide) fl_M_7 rfl rfl rfl rfl d_M_init_9 ?_
  replace E0 := mi_E (k := 2) E0 L0 hq1
  replace L0 := mi_L L0 q1
  replace H := H.push (k := 2) hq1 (by decide)
  refine pv_aload_n C d_M_init_12 rfl 0 rfl ?_
  refine pv_bipush (v := 17) C d_M_init_13 (by decide) ?_
  refine pv_newai C 3 rfl ac_int (N := 17) rfl (by decide) (by decide) (by decide) d_M_init_15 (fun q2 hq2 => ?_)
  refine mi_put C hI (k := 4) H hq2 (by decide) rfl (by decide) fl_M_13 rfl rfl rfl rfl d_M_init_17 ?_
  replace E0 := mi_E (k := 4) E0 L0 hq2
  replace L0 := mi_L L0 q2
  replace H := H.push (k := 4) hq2 (by decide)
  refine pv_aload_n C d_M_init_20 rfl 0 rfl ?_
  refine pv_bipush (v := 17) C d_M_init_21 (by decide) ?_
  refine pv_newai C 3 rfl ac_int (N := 17) rfl (by decide) (by decide) (by decide) d_M_init_23 (fun q3 hq3 => ?_)
  refine mi_put C hI (k := 5) H hq3 (by decide) rfl (by decide) fl_M_17 rfl rfl rfl rfl d_M_init_25 ?_
  replace E0 := mi_E (k := 5) E0 L0 hq3
  replace L0 := mi_L L0 q3
  replace H := H.push (k := 5) hq3 (by decide)
  refine pv_aload_n C d_M_init_28 rfl 0 rfl ?_
  refine pv_bipush (v := 17) C d_M_init_29 (by decide) ?_
  refine pv_newai C 3 rfl ac_int (N := 17) rfl (by decide) (by decide) (by decide) d_M_init_31 (fun q4 hq4 => ?_)
  refine mi_put C hI (k := 6) H hq4 (by decide) rfl (by decide) fl_M_20 rfl rfl rfl rfl d_M_init_33 ?_
  replace E0 := mi_E (k := 6) E0 L0 hq4
  replace L0 := mi_L L0 q4
  replace H := H.push (k := 6) hq4 (by decide)
  refine pv_aload_n C d_M_init_36 rfl 0 rfl ?_
  refine pv_bipush (v := 17) C d_M_init_37 (by decide) ?_
  refine pv_newai C 3 rfl ac_int (N := 17) rfl (by decide) (by decide) (by decide) d_M_init_39 (fun q5 hq5 => ?_)
  refine mi_put C hI (k := 7) H hq5 (by decide) rfl (by decide) fl_M_23 rfl rfl rfl rfl d_M_init_41 ?_
  replace E0 := mi_E (k := 7) E0 L0 hq5
  replace L0 := mi_L L0 q5
  replace H := H.push (k := 7) hq5 (by decide)
  refine pv_aload_n C d_M_init_44 rfl 0 rfl ?_
  refine pv_bipush (v := 17) C d_M_init_45 (by decide) ?_
  refine pv_newai C 3 rfl ac_int (N := 17) rfl (by decide) (by decide) (by decide) d_M_init_47 (fun q6 hq6 => ?_)
  refine mi_put C hI (k := 8) H hq6 (by decide) rfl (by decide) fl_M_26 rfl rfl rfl rfl d_M_init_49 ?_
  replace E0 := mi_E (k := 8) E0 L0 hq6
  replace L0 := mi_L L0 q6
  replace H := H.push (k := 8) hq6 (by decide)
  refine pv_aload_n C d_M_init_52 rfl 0 rfl ?_
  refine pv_bipush (v := 68) C d_M_init_53 (by decide) ?_
  refine pv_newai C 3 rfl ac_int (N := 68) rfl (by decide) (by decide) (by decide) d_M_init_55 (fun q7 hq7 => ?_)
  refine mi_put C hI (k := 9) H hq7 (by decide) rfl (by decide) fl_M_29 rfl rfl rfl rfl d_M_init_57 ?_
  replace E0 := mi_E (k := 9) E0 L0 hq7
  replace L0 := mi_L L0 q7
  replace H := H.push (k := 9) hq7 (by decide)
  refine pv_aload_n C d_M_init_60 rfl 0 rfl ?_
  refine pv_bipush (v := 68) C d_M_init_61 (by decide) ?_
  refine pv_newai C 3 rfl ac_int (N := 68) rfl (by decide) (by decide) (by decide) d_M_init_63 (fun q8 hq8 => ?_)
  refine mi_put C hI (k := 10) H hq8 (by decide) rfl (by decide) fl_M_32 rfl rfl rfl rfl d_M_init_65 ?_
  replace E0 := mi_E (k := 10) E0 L0 hq8
  replace L0 := mi_L L0 q8
  replace H := H.push (k := 10) hq8 (by decide)
  refine pv_aload_n C d_M_init_68 rfl 0 rfl ?_
  refine pv_bipush (v := 68) C d_M_init_69 (by decide) ?_
  refine pv_newai C 3 rfl ac_int (N := 68) rfl (by decide) (by decide) (by decide) d_M_init_71 (fun q9 hq9 => ?_)
  refine mi_put C hI (k := 11) H hq9 (by decide) rfl (by decide) fl_M_35 rfl rfl rfl rfl d_M_init_73 ?_
  replace E0 := mi_E (k := 11) E0 L0 hq9
  replace L0 := mi_L L0 q9
  replace H := H.push (k := 11) hq9 (by decide)
  refine pv_aload_n C d_M_init_76 rfl 0 rfl ?_
  refine pv_bipush (v := 68) C d_M_init_77 (by decide) ?_
  refine pv_newai C 3 rfl ac_int (N := 68) rfl (by decide) (by decide) (by decide) d_M_init_79 (fun q10 hq10 => ?_)
  refine mi_put C hI (k := 12) H hq10 (by decide) rfl (by decide) fl_M_38 rfl rfl rfl rfl d_M_init_81 ?_
  replace E0 := mi_E (k := 12) E0 L0 hq10
  replace L0 := mi_L L0 q10
  replace H := H.push (k := 12) hq10 (by decide)
  refine pv_aload_n C d_M_init_84 rfl 0 rfl ?_
  refine pv_bipush (v := 68) C d_M_init_85 (by decide) ?_
  refine pv_newai C 3 rfl ac_int (N := 68) rfl (by decide) (by decide) (by decide) d_M_init_87 (fun q11 hq11 => ?_)
  refine mi_put C hI (k := 13) H hq11 (by decide) rfl (by decide) fl_M_41 rfl rfl rfl rfl d_M_init_89 ?_
  replace E0 := mi_E (k := 13) E0 L0 hq11
  replace L0 := mi_L L0 q11
  replace H := H.push (k := 13) hq11 (by decide)
  refine pv_aload_n C d_M_init_92 rfl 0 rfl ?_
  refine pv_bipush (v := 68) C d_M_init_93 (by decide) ?_
  refine pv_newai C 3 rfl ac_int (N := 68) rfl (by decide) (by decide) (by decide) d_M_init_95 (fun q12 hq12 => ?_)
  refine mi_put C hI (k := 14) H hq12 (by decide) rfl (by decide) fl_M_44 rfl rfl rfl rfl d_M_init_97 ?_
  replace E0 := mi_E (k := 14) E0 L0 hq12
  replace L0 := mi_L L0 q12
  replace H := H.push (k := 14) hq12 (by decide)
  refine pv_aload_n C d_M_init_100 rfl 0 rfl ?_
  refine pv_bipush (v := 68) C d_M_init_101 (by decide) ?_
  refine pv_newaz C 4 rfl ac_boolean (N := 68) rfl (by decide) (by decide) (by decide) d_M_init_103 (fun q13 hq13 => ?_)
  refine mi_put C hI (k := 15) H hq13 (by decide) rfl (by decide) fl_M_47 rfl rfl rfl rfl d_M_init_105 ?_
  replace E0 := mi_E (k := 15) E0 L0 hq13
  replace L0 := mi_L L0 q13
  replace H := H.push (k := 15) hq13 (by decide)
  refine pv_aload_n C d_M_init_108 rfl 0 rfl ?_
  refine pv_bipush (v := 68) C d_M_init_109 (by decide) ?_
  refine pv_newaz C 4 rfl ac_boolean (N := 68) rfl (by decide) (by decide) (by decide) d_M_init_111 (fun q14 hq14 => ?_)
  refine mi_put C hI (k := 16) H hq14 (by decide) rfl (by decide) fl_M_50 rfl rfl rfl rfl d_M_init_113 ?_
  replace E0 := mi_E (k := 16) E0 L0 hq14
  replace L0 := mi_L L0 q14
  replace H := H.push (k := 16) hq14 (by decide)
  refine pv_aload_n C d_M_init_116 rfl 0 rfl ?_
  refine pv_sipush (v := 544) C d_M_init_117 (by decide) ?_
  refine pv_newaz C 4 rfl ac_boolean (N := 544) rfl (by decide) (by decide) (by decide) d_M_init_120 (fun q15 hq15 => ?_)
  refine mi_put C hI (k := 17) H hq15 (by decide) rfl (by decide) fl_M_53 rfl rfl rfl rfl d_M_init_122 ?_
  replace E0 := mi_E (k := 17) E0 L0 hq15
  replace L0 := mi_L L0 q15
  replace H := H.push (k := 17) hq15 (by decide)
  refine pv_aload_n C d_M_init_125 rfl 0 rfl ?_
  refine pv_bipush (v := 121) C d_M_init_126 (by decide) ?_
  refine pv_newai C 3 rfl ac_int (N := 121) rfl (by decide) (by decide) (by decide) d_M_init_128 (fun q16 hq16 => ?_)
  refine mi_put C hI (k := 19) H hq16 (by decide) rfl (by decide) fl_M_56 rfl rfl rfl rfl d_M_init_130 ?_
  replace E0 := mi_E (k := 19) E0 L0 hq16
  replace L0 := mi_L L0 q16
  replace H := H.push (k := 19) hq16 (by decide)
  refine pv_aload_n C d_M_init_133 rfl 0 rfl ?_
  refine pv_bipush (v := 121) C d_M_init_134 (by decide) ?_
  refine pv_newai C 3 rfl ac_int (N := 121) rfl (by decide) (by decide) (by decide) d_M_init_136 (fun q17 hq17 => ?_)
  refine mi_put C hI (k := 20) H hq17 (by decide) rfl (by decide) fl_M_59 rfl rfl rfl rfl d_M_init_138 ?_
  replace E0 := mi_E (k := 20) E0 L0 hq17
  replace L0 := mi_L L0 q17
  replace H := H.push (k := 20) hq17 (by decide)
  refine pv_aload_n C d_M_init_141 rfl 0 rfl ?_
  refine pv_bipush (v := 121) C d_M_init_142 (by decide) ?_
  refine pv_newai C 3 rfl ac_int (N := 121) rfl (by decide) (by decide) (by decide) d_M_init_144 (fun q18 hq18 => ?_)
  refine mi_put C hI (k := 21) H hq18 (by decide) rfl (by decide) fl_M_62 rfl rfl rfl rfl d_M_init_146 ?_
  replace E0 := mi_E (k := 21) E0 L0 hq18
  replace L0 := mi_L L0 q18
  replace H := H.push (k := 21) hq18 (by decide)
  refine pv_aload_n C d_M_init_149 rfl 0 rfl ?_
  refine pv_bipush (v := 121) C d_M_init_150 (by decide) ?_
  refine pv_newai C 3 rfl ac_int (N := 121) rfl (by decide) (by decide) (by decide) d_M_init_152 (fun q19 hq19 => ?_)
  refine mi_put C hI (k := 22) H hq19 (by decide) rfl (by decide) fl_M_65 rfl rfl rfl rfl d_M_init_154 ?_
  replace E0 := mi_E (k := 22) E0 L0 hq19
  replace L0 := mi_L L0 q19
  replace H := H.push (k := 22) hq19 (by decide)
  refine pv_aload_n C d_M_init_157 rfl 0 rfl ?_
  refine pv_bipush (v := 121) C d_M_init_158 (by decide) ?_
  refine pv_newai C 3 rfl ac_int (N := 121) rfl (by decide) (by decide) (by decide) d_M_init_160 (fun q20 hq20 => ?_)
  refine mi_put C hI (k := 23) H hq20 (by decide) rfl (by decide) fl_M_68 rfl rfl rfl rfl d_M_init_162 ?_
  replace E0 := mi_E (k := 23) E0 L0 hq20
  replace L0 := mi_L L0 q20
  replace H := H.push (k := 23) hq20 (by decide)
  refine pv_aload_n C d_M_init_165 rfl 0 rfl ?_
  refine pv_bipush (v := 121) C d_M_init_166 (by decide) ?_
  refine pv_newai C 3 rfl ac_int (N := 121) rfl (by decide) (by decide) (by decide) d_M_init_168 (fun q21 hq21 => ?_)
  refine mi_put C hI (k := 24) H hq21 (by decide) rfl (by decide) fl_M_71 rfl rfl rfl rfl d_M_init_170 ?_
  replace E0 := mi_E (k := 24) E0 L0 hq21
  replace L0 := mi_L L0 q21
  replace H := H.push (k := 24) hq21 (by decide)
  refine pv_aload_n C d_M_init_173 rfl 0 rfl ?_
  refine pv_bipush (v := 121) C d_M_init_174 (by decide) ?_
  refine pv_newai C 3 rfl ac_int (N := 121) rfl (by decide) (by decide) (by decide) d_M_init_176 (fun q22 hq22 => ?_)
  refine mi_put C hI (k := 25) H hq22 (by decide) rfl (by decide) fl_M_74 rfl rfl rfl rfl d_M_init_178 ?_
  replace E0 := mi_E (k := 25) E0 L0 hq22
  replace L0 := mi_L L0 q22
  replace H := H.push (k := 25) hq22 (by decide)
  refine pv_aload_n C d_M_init_181 rfl 0 rfl ?_
  refine pv_bipush (v := 121) C d_M_init_182 (by decide) ?_
  refine pv_newai C 3 rfl ac_int (N := 121) rfl (by decide) (by decide) (by decide) d_M_init_184 (fun q23 hq23 => ?_)
  refine mi_put C hI (k := 26) H hq23 (by decide) rfl (by decide) fl_M_77 rfl rfl rfl rfl d_M_init_186 ?_
  replace E0 := mi_E (k := 26) E0 L0 hq23
  replace L0 := mi_L L0 q23
  replace H := H.push (k := 26) hq23 (by decide)
  refine pv_aload_n C d_M_init_189 rfl 0 rfl ?_
  refine pv_bipush (v := 64) C d_M_init_190 (by decide) ?_
  refine pv_newai C 3 rfl ac_int (N := 64) rfl (by decide) (by decide) (by decide) d_M_init_192 (fun q24 hq24 => ?_)
  refine mi_put C hI (k := 30) H hq24 (by decide) rfl (by decide) fl_M_80 rfl rfl rfl rfl d_M_init_194 ?_
  replace E0 := mi_E (k := 30) E0 L0 hq24
  replace L0 := mi_L L0 q24
  replace H := H.push (k := 30) hq24 (by decide)
  refine pv_vret C R0 d_M_init_197 (by decide) (by decide) ⟨rfl, _, [q1, q2, q3, q4, q5, q6, q7, q8, q9, q10, q11, q12, q13, q14, q15, q16, q17, q18, q19, q20, q21, q22, q23, q24], ?_, mi_end, H, E0⟩
  simp only [List.append_assoc, List.cons_append, List.nil_append]
