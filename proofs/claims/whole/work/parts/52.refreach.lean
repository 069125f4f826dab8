/-! reach and grows of the reference -/
def kf (X Y : mm_M) : Prop := (∀ c, c ≠ 51 → c ≠ 69 → c ≠ 70 → c ≠ 71 → Y c = X c) ∧ ∀ f, f ≠ 26 → Y 51 f = X 51 f
theorem kf.rf {X : mm_M} : kf X X := ⟨fun _ _ _ _ _ => rfl, fun _ _ => rfl⟩
theorem kf.tr {X Y Z : mm_M} (h : kf X Y) (h2 : kf Y Z) : kf X Z := ⟨fun c a b d e => (h2.1 c a b d e).trans (h.1 c a b d e), fun f a => (h2.2 f a).trans (h.2 f a)⟩
theorem kf.up {X Y : mm_M} (h : kf X Y) {c a : Nat} {v : Int32} (hc : c = 69 ∨ c = 70 ∨ c = 71) : kf X (mm_up Y c a v) := ⟨fun c' q1 q2 q3 q4 => by rw [mm_upn _ _ _ (by omega)]; exact h.1 c' q1 q2 q3 q4, fun f q => by rw [mm_upn _ _ _ (by omega)]; exact h.2 f q⟩
theorem kf.u26 {X Y : mm_M} (h : kf X Y) {v : Int32} : kf X (mm_up Y 51 26 v) := ⟨fun c' q1 q2 q3 q4 => by rw [mm_upn _ _ _ q1]; exact h.1 c' q1 q2 q3 q4, fun f q => by rw [mm_upc]; simp only [upd, if_neg q]; exact h.2 f q⟩
theorem r_x.kf {A X Y : mm_M} (h : r_x A X) (k : kf X Y) : r_x A Y := h.of ⟨fun c q => k.1 c (fun e => by rw [e] at q; exact absurd q (by decide)) (fun e => by rw [e] at q; exact absurd q (by decide)) (fun e => by rw [e] at q; exact absurd q (by decide)) (fun e => by rw [e] at q; exact absurd q (by decide)), k.2 4 (by decide), k.2 13 (by decide), k.2 29 (by decide)⟩ (k.1 58 (by decide) (by decide) (by decide) (by decide)) (k.1 59 (by decide) (by decide) (by decide) (by decide)) (k.2 8 (by decide)) (k.2 10 (by decide))
theorem e_w.kf {A X Y Z : mm_M} (h : e_w A X Z) (k : kf X Y) : e_w A Y Z := by
  unfold e_w at h ⊢
  rw [k.1 62 (by decide) (by decide) (by decide) (by decide), k.1 63 (by decide) (by decide) (by decide) (by decide), k.1 66 (by decide) (by decide) (by decide) (by decide), k.1 67 (by decide) (by decide) (by decide) (by decide), k.2 21 (by decide), k.2 23 (by decide), k.2 24 (by decide)]
  exact h

set_option maxHeartbeats 4000000 in
theorem w_X12_fA {l : Launch} {G : mm_G} {d : Nat} {M : mm_M} {Q : mm_T → mm_M → Prop} {A : mm_M} (hi : iv A) (hx : r_x A M) (hw : e_w A M (zE A)) {j : Nat} (hj : j < a_nl A) {x3 x4 : Value} (h : ∀ X, kf M X → X 51 26 = nI (cnt (io A j) 12) → (∀ q, io A j q = true → X 69 (cnt (io A j) q) = nI q) → mm_wp l G (d + 5) k_X12_findMost (mm_pv Q) 67 [.ref 51, .int (nI j), .int (nI (a_np A)), x3, x4] [] T0 X 0 0) : ∀ (z p : Nat) (Xi : mm_M), a_np A - p ≤ z → p ≤ a_np A → kf M Xi → Xi 51 26 = nI (cnt (io A j) p) → (∀ q, q < p → io A j q = true → Xi 69 (cnt (io A j) q) = nI q) → mm_wp l G (d + 5) k_X12_findMost (mm_pv Q) 11 [.ref 51, .int (nI j), .int (nI p), x3, x4] [] T0 Xi 0 0 := by
  have n6 := hi.1.nl
  have n12 := hi.1.np
  have okC := zC_ok hi hj
  have hni : (nI (a_np A)).toInt = a_np A := mm_ti (by omega)
  intro z
  induction z using Nat.strongRecOn with | _ z ih => ?_
  intro p Xi hze hpn hk hc hs
  have hpi : (nI p).toInt = p := mm_ti (by omega)
  have xi := hx.kf hk
  have wi := hw.kf hk
  refine mm_iload_2 12 dX12_findMost_11 rfl ?_
  refine mm_aload_0 13 dX12_findMost_12 rfl ?_
  refine mm_getI 16 dX12_findMost_13 f_X12_144 rfl t_51 rfl ?_
  rw [xi.2.2.2.1]
  refine mm_ic_ge 67 19 dX12_findMost_16 (by decide) rfl (fun h1 => ?_) (fun h1 => ?_)
  · have hz : p = a_np A := by (try simp only [hpi, hni, Int32.lt_iff_toInt_lt, Int32.le_iff_toInt_le, ← Int32.toInt_inj, vp_in_iff, Int32.reduceToInt, mm_t1, mm_t2, mm_t3, mm_t4, mm_t10] at h1); omega
    rw [hz]
    rw [hz] at hc hs
    exact h Xi hk (by rw [hc, io_12 hi]) (fun q qio => hs q (io_i qio).1 qio)
  · have hlt : p < a_np A := by (try simp only [hpi, hni, Int32.lt_iff_toInt_lt, Int32.le_iff_toInt_le, ← Int32.toInt_inj, vp_in_iff, Int32.reduceToInt, mm_t1, mm_t2, mm_t3, mm_t4, mm_t10] at h1); omega
    have ep : Xi 59 (4 * p + 1) = z_w A p 1 := xi.2.2.2.2 p 1 hlt (by decide)
    have cp := cnt_le (f := io A j) p
    refine mm_aload_0 20 dX12_findMost_19 rfl ?_
    refine mm_getR 23 dX12_findMost_20 f_X12_31 rfl t_51 rfl ?_
    refine mm_iconst 24 4 dX12_findMost_23 rfl (by decide) ?_
    refine mm_iload_2 25 dX12_findMost_24 rfl ?_
    refine mm_imul 26 dX12_findMost_25 rfl ?_
    refine mm_iconst 27 1 dX12_findMost_26 rfl (by decide) ?_
    refine mm_iadd 28 dX12_findMost_27 rfl ?_
    refine mm_ialoadn 29 (4 * p + 1) dX12_findMost_28 rfl t_59 (by decide) (by rw [mm_l4, pk_mul, mm_l1, nI_add]) (by omega) ?_
    refine mm_iload_1 30 dX12_findMost_29 rfl ?_
    refine mm_ic_ne 61 33 dX12_findMost_30 (by decide) rfl (fun h2 => ?_) (fun h2 => ?_)
    · refine mm_iinc_2 64 1 dX12_findMost_61 rfl (by decide) rfl ?_
      refine mm_goto 11 dX12_findMost_64 (by decide) ?_
      rw [nI_1]
      have no : ¬ io A j p = true := fun q => h2 (by rw [ep]; exact (io_i q).2.1)
      refine ih (a_np A - (p + 1)) (by omega) (p + 1) Xi (Nat.le_refl _) (by omega) hk (by rw [cnt_f no]; exact hc) (fun q hq qio => ?_)
      by_cases z : q = p
      · rw [z] at qio; exact absurd qio no
      · exact hs q (by omega) qio
    · refine mm_aload_0 34 dX12_findMost_33 rfl ?_
      refine mm_iload_2 35 dX12_findMost_34 rfl ?_
      refine mm_cV1i 38 dX12_findMost_35 v_X12_212 rfl t_51 (by decide) rfl rfl (Nat.le_of_ble_eq_true rfl) ⟨rfl, rfl⟩ ⟨Nat.zero_le _, Nat.zero_le _⟩ (c_X12_isFree rfl (by omega) (fun h3 => ?_) (fun h3 => ?_))
      · refine mm_if_eq 61 41 dX12_findMost_38 (by decide) rfl (fun h => absurd h (by decide)) (fun _ => ?_)
        refine mm_aload_0 42 dX12_findMost_41 rfl ?_
        refine mm_getR 45 dX12_findMost_42 f_X12_61 rfl t_51 rfl ?_
        refine mm_aload_0 46 dX12_findMost_45 rfl ?_
        refine mm_getI 49 dX12_findMost_46 f_X12_257 rfl t_51 rfl ?_
        refine mm_iload_2 50 dX12_findMost_49 rfl ?_
        refine mm_iastoren 51 (cnt (io A j) p) dX12_findMost_50 rfl t_69 (by decide) (hc) (by omega) ?_
        refine mm_aload_0 52 dX12_findMost_51 rfl ?_
        refine mm_dup 53 dX12_findMost_52 rfl rfl ?_
        refine mm_getI 56 dX12_findMost_53 f_X12_257 rfl t_51 rfl ?_
        refine mm_iconst 57 1 dX12_findMost_56 rfl (by decide) ?_
        refine mm_iadd 58 dX12_findMost_57 rfl ?_
        refine mm_putI 61 dX12_findMost_58 p_X12_257 ⟨rfl, rfl⟩ rfl t_51 rfl ?_
        refine mm_iinc_2 64 1 dX12_findMost_61 rfl (by decide) rfl ?_
        refine mm_goto 11 dX12_findMost_64 (by decide) ?_
        rw [nI_1]
        have yes : io A j p = true := io_t hlt (by rw [← ep]; exact h2) (by rw [← gfz wi hlt]; exact h3)
        rw [mm_upn _ _ _ (show (51 : Nat) ≠ 69 by decide), hc, nI_1]
        refine ih (a_np A - (p + 1)) (by omega) (p + 1) _ (Nat.le_refl _) (by omega) ((hk.up (by decide)).u26) (by rw [mm_upv, cnt_t yes]) (fun q hq qio => ?_)
        rw [mm_upn _ _ _ (show (69 : Nat) ≠ 51 by decide), mm_upc]
        by_cases z : q = p
        · rw [z]; simp only [upd, if_true]
        · have := cnt_ltn qio (show q < p by omega)
          simp only [upd, if_neg (show ¬ cnt (io A j) q = cnt (io A j) p by omega)]
          exact hs q (by omega) qio
      · refine mm_if_eq 61 41 dX12_findMost_38 (by decide) rfl (fun _ => ?_) (fun h => absurd h (by decide))
        refine mm_iinc_2 64 1 dX12_findMost_61 rfl (by decide) rfl ?_
        refine mm_goto 11 dX12_findMost_64 (by decide) ?_
        rw [nI_1]
        have no : ¬ io A j p = true := fun q => h3 (by rw [gfz wi hlt]; exact (io_i q).2.2)
        refine ih (a_np A - (p + 1)) (by omega) (p + 1) Xi (Nat.le_refl _) (by omega) hk (by rw [cnt_f no]; exact hc) (fun q hq qio => ?_)
        by_cases z : q = p
        · rw [z] at qio; exact absurd qio no
        · exact hs q (by omega) qio

set_option maxHeartbeats 4000000 in
theorem w_X12_fB {l : Launch} {G : mm_G} {d : Nat} {M : mm_M} {Q : mm_T → mm_M → Prop} {A : mm_M} (hi : iv A) (hx : r_x A M) (hw : e_w A M (zE A)) {j : Nat} (hj : j < a_nl A) {x3 x4 : Value} (h : ∀ X, (∀ c, c ≠ 71 → X c = M c) → (∀ i, i ≤ 12 → X 71 i = M 62 j) → mm_wp l G (d + 5) k_X12_findMost (mm_pv Q) 93 [.ref 51, .int (nI j), .int (nI 13), x3, x4] [] T0 X 0 0) : ∀ (z k : Nat) (Xi : mm_M), 13 - k ≤ z → k ≤ 13 → (∀ c, c ≠ 71 → Xi c = M c) → (∀ i, i < k → Xi 71 i = M 62 j) → mm_wp l G (d + 5) k_X12_findMost (mm_pv Q) 69 [.ref 51, .int (nI j), .int (nI k), x3, x4] [] T0 Xi 0 0 := by
  have n6 := hi.1.nl
  have n12 := hi.1.np
  have okC := zC_ok hi hj
  intro z
  induction z using Nat.strongRecOn with | _ z ih => ?_
  intro k Xi hze hkn hk hs
  have hki : (nI k).toInt = k := mm_ti (by omega)
  refine mm_iload_2 70 dX12_findMost_69 rfl ?_
  refine mm_bipush 72 13 dX12_findMost_70 rfl (by decide) ?_
  refine mm_ic_ge 93 75 dX12_findMost_72 (by decide) rfl (fun h1 => ?_) (fun h1 => ?_)
  · have hz : k = 13 := by (try simp only [hki, Int32.lt_iff_toInt_lt, Int32.le_iff_toInt_le, ← Int32.toInt_inj, vp_in_iff, Int32.reduceToInt, mm_t1, mm_t2, mm_t3, mm_t4, mm_t10] at h1); omega
    rw [hz]
    rw [hz] at hs
    exact h Xi hk (fun i q => hs i (by omega))
  · have hlt : k < 13 := by (try simp only [hki, Int32.lt_iff_toInt_lt, Int32.le_iff_toInt_le, ← Int32.toInt_inj, vp_in_iff, Int32.reduceToInt, mm_t1, mm_t2, mm_t3, mm_t4, mm_t10] at h1); omega
    refine mm_aload_0 76 dX12_findMost_75 rfl ?_
    refine mm_getR 79 dX12_findMost_76 f_X12_67 rfl t_51 rfl ?_
    refine mm_iload_2 80 dX12_findMost_79 rfl ?_
    refine mm_aload_0 81 dX12_findMost_80 rfl ?_
    refine mm_getR 84 dX12_findMost_81 f_X12_40 rfl t_51 rfl ?_
    refine mm_iload_1 85 dX12_findMost_84 rfl ?_
    refine mm_ialoadn 86 (j) dX12_findMost_85 rfl t_62 (by decide) (rfl) (by omega) ?_
    refine mm_iastoren 87 (k) dX12_findMost_86 rfl t_71 (by decide) (rfl) (by omega) ?_
    refine mm_iinc_2 90 1 dX12_findMost_87 rfl (by decide) rfl ?_
    refine mm_goto 69 dX12_findMost_90 (by decide) ?_
    rw [nI_1]
    refine ih (13 - (k + 1)) (by omega) (k + 1) _ (Nat.le_refl _) (by omega) (fun c q => by rw [mm_upn _ _ _ q]; exact hk c q) (fun i hi2 => ?_)
    rw [mm_upc, hk 62 (by decide)]
    by_cases z : i = k
    · simp only [upd, if_pos z]
    · simp only [upd, if_neg z]; exact hs i (by omega)

set_option maxHeartbeats 4000000 in
theorem w_X12_fE {l : Launch} {G : mm_G} {d : Nat} {Q : mm_T → mm_M → Prop} {A X : mm_M} (hi : iv A) (hx : r_x A X) {j : Nat} (hj : j < a_nl A) (hr : rsd (zC A j) (wm X)) (ha : ∀ g, ms (zC A j) g → vl (zC A j) g ≤ wm X (sz g)) (h : ∀ M1 W, r_x A M1 → rsd (zC A j) W → (∀ g, ms (zC A j) g → vl (zC A j) g ≤ W (sz g)) → (∀ k, k ≤ 12 → (M1 71 k).toInt = pmx W k) → Q T0 M1) {x2 : Value} {v : Int32} : ∀ (z k : Nat) (Xi : mm_M), 13 - k ≤ z → 1 ≤ k → k ≤ 13 → kf X Xi → (∀ i, i < k → (Xi 71 i).toInt = pmx (wm X) i) → (∀ i, k ≤ i → Xi 71 i = X 71 i) → mm_wp l G (d + 5) k_X12_findMost (mm_pv Q) 279 [.ref 51, .int (nI j), x2, .int v, .int (nI k)] [] T0 Xi 0 0 := by
  have n6 := hi.1.nl
  have n12 := hi.1.np
  have okC := zC_ok hi hj
  intro z
  induction z using Nat.strongRecOn with | _ z ih => ?_
  intro k Xi hze hk1 hkn hk s1 s2
  have hki : (nI k).toInt = k := mm_ti (by omega)
  have km : nI k - 1 = nI (k - 1) := mm_ii (by rw [nI_sb (by omega), mm_ti (by omega)]; omega)
  refine mm_iload_4 281 dX12_findMost_279 rfl ?_
  refine mm_bipush 283 13 dX12_findMost_281 rfl (by decide) ?_
  refine mm_ic_ge 337 286 dX12_findMost_283 (by decide) rfl (fun h1 => ?_) (fun h1 => ?_)
  · refine mm_vret dX12_findMost_337 rfl ⟨rfl, Nat.zero_le _⟩ ?_
    have hz : k = 13 := by (try simp only [hki, Int32.lt_iff_toInt_lt, Int32.le_iff_toInt_le, ← Int32.toInt_inj, vp_in_iff, Int32.reduceToInt, mm_t1, mm_t2, mm_t3, mm_t4, mm_t10] at h1); omega
    exact h Xi (wm X) (hx.kf hk) hr ha (fun i q => s1 i (by omega))
  · have hlt : k < 13 := by (try simp only [hki, Int32.lt_iff_toInt_lt, Int32.le_iff_toInt_le, ← Int32.toInt_inj, vp_in_iff, Int32.reduceToInt, mm_t1, mm_t2, mm_t3, mm_t4, mm_t10] at h1); omega
    refine mm_aload_0 287 dX12_findMost_286 rfl ?_
    refine mm_getR 290 dX12_findMost_287 f_X12_67 rfl t_51 rfl ?_
    refine mm_iload_4 292 dX12_findMost_290 rfl ?_
    refine mm_aload_0 293 dX12_findMost_292 rfl ?_
    refine mm_getR 296 dX12_findMost_293 f_X12_67 rfl t_51 rfl ?_
    refine mm_iload_4 298 dX12_findMost_296 rfl ?_
    refine mm_iconst 299 1 dX12_findMost_298 rfl (by decide) ?_
    refine mm_isub 300 dX12_findMost_299 rfl ?_
    refine mm_ialoadn 301 (k - 1) dX12_findMost_300 rfl t_71 (by decide) (km) (by omega) ?_
    refine mm_aload_0 302 dX12_findMost_301 rfl ?_
    refine mm_getR 305 dX12_findMost_302 f_X12_67 rfl t_51 rfl ?_
    refine mm_iload_4 307 dX12_findMost_305 rfl ?_
    refine mm_ialoadn 308 (k) dX12_findMost_307 rfl t_71 (by decide) (rfl) (by omega) ?_
    refine mm_ic_le 323 311 dX12_findMost_308 (by decide) rfl (fun h2 => ?_) (fun h2 => ?_)
    · refine mm_aload_0 324 dX12_findMost_323 rfl ?_
      refine mm_getR 327 dX12_findMost_324 f_X12_67 rfl t_51 rfl ?_
      refine mm_iload_4 329 dX12_findMost_327 rfl ?_
      refine mm_ialoadn 330 (k) dX12_findMost_329 rfl t_71 (by decide) (rfl) (by omega) ?_
      refine mm_iastoren 331 (k) dX12_findMost_330 rfl t_71 (by decide) (rfl) (by omega) ?_
      refine mm_iinc_4 334 1 dX12_findMost_331 rfl (by decide) rfl ?_
      refine mm_goto 279 dX12_findMost_334 (by decide) ?_
      have q := h2
      rw [mm_le, s1 (k - 1) (by omega), s2 k (Nat.le_refl _)] at q
      rw [nI_1]
      refine ih (13 - (k + 1)) (by omega) (k + 1) _ (Nat.le_refl _) (by omega) (by omega) (hk.up (by decide)) (fun i hi2 => ?_) (fun i hi2 => ?_)
      · rw [mm_upc]
        by_cases z : i = k
        · subst z
          obtain ⟨m, rfl⟩ : ∃ m, i = m + 1 := ⟨i - 1, by omega⟩
          simp only [upd, if_true]
          show _ = if wm X (m + 1) < pmx (wm X) m then pmx (wm X) m else wm X (m + 1)
          rw [show m + 1 - 1 = m by omega] at q
          have wk : wm X (m + 1) = (X 71 (m + 1)).toInt := rfl
          rw [if_neg (by omega), s2 (m + 1) (Nat.le_refl _)]
          rfl
        · simp only [upd, if_neg z]; exact s1 i (by omega)
      · rw [mm_upc]
        simp only [upd, if_neg (show ¬ i = k by omega)]
        exact s2 i (by omega)
    · refine mm_aload_0 312 dX12_findMost_311 rfl ?_
      refine mm_getR 315 dX12_findMost_312 f_X12_67 rfl t_51 rfl ?_
      refine mm_iload_4 317 dX12_findMost_315 rfl ?_
      refine mm_iconst 318 1 dX12_findMost_317 rfl (by decide) ?_
      refine mm_isub 319 dX12_findMost_318 rfl ?_
      refine mm_ialoadn 320 (k - 1) dX12_findMost_319 rfl t_71 (by decide) (km) (by omega) ?_
      refine mm_goto 330 dX12_findMost_320 (by decide) ?_
      refine mm_iastoren 331 (k) dX12_findMost_330 rfl t_71 (by decide) (rfl) (by omega) ?_
      refine mm_iinc_4 334 1 dX12_findMost_331 rfl (by decide) rfl ?_
      refine mm_goto 279 dX12_findMost_334 (by decide) ?_
      have q := h2
      rw [mm_le, s1 (k - 1) (by omega), s2 k (Nat.le_refl _)] at q
      rw [nI_1]
      refine ih (13 - (k + 1)) (by omega) (k + 1) _ (Nat.le_refl _) (by omega) (by omega) (hk.up (by decide)) (fun i hi2 => ?_) (fun i hi2 => ?_)
      · rw [mm_upc]
        by_cases z : i = k
        · subst z
          obtain ⟨m, rfl⟩ : ∃ m, i = m + 1 := ⟨i - 1, by omega⟩
          simp only [upd, if_true]
          show _ = if wm X (m + 1) < pmx (wm X) m then pmx (wm X) m else wm X (m + 1)
          rw [show m + 1 - 1 = m by omega] at q
          have wk : wm X (m + 1) = (X 71 (m + 1)).toInt := rfl
          rw [if_pos (by omega), show m + 1 - 1 = m by omega, s1 m (by omega)]
        · simp only [upd, if_neg z]; exact s1 i (by omega)
      · rw [mm_upc]
        simp only [upd, if_neg (show ¬ i = k by omega)]
        exact s2 i (by omega)

set_option maxHeartbeats 4000000 in
theorem w_X12_fD {l : Launch} {G : mm_G} {d : Nat} {Q : mm_T → mm_M → Prop} {A X : mm_M} (hi : iv A) (hx : r_x A X) {j : Nat} (hj : j < a_nl A) (hr : rsd (zC A j) (wm X)) (ha : ∀ g, ms (zC A j) g → vl (zC A j) g ≤ wm X (sz g)) (h : ∀ M1 W, r_x A M1 → rsd (zC A j) W → (∀ g, ms (zC A j) g → vl (zC A j) g ≤ W (sz g)) → (∀ k, k ≤ 12 → (M1 71 k).toInt = pmx W k) → Q T0 M1) {x4 : Value} {v : Int32} : mm_wp l G (d + 5) k_X12_findMost (mm_pv Q) 105 [.ref 51, .int (nI j), .int (nI 0 + -1), .int v, x4] [] T0 X 0 0 := by
  refine mm_iload_2 106 dX12_findMost_105 rfl ?_
  refine mm_if_lt 276 109 dX12_findMost_106 (by decide) rfl (fun h1 => ?_) (fun h1 => absurd (by decide) h1)
  refine mm_iconst 277 1 dX12_findMost_276 rfl (by decide) ?_
  refine mm_istore_4 279 dX12_findMost_277 rfl rfl ?_
  exact w_X12_fE hi hx hj hr ha h 13 1 X (by omega) (by omega) (by omega) kf.rf (fun i q => by rw [show i = 0 by omega]; rfl) (fun _ _ => rfl)

set_option maxHeartbeats 4000000 in
theorem w_X12_fC {l : Launch} {G : mm_G} {d : Nat} {M : mm_M} {Q : mm_T → mm_M → Prop} {A : mm_M} (hi : iv A) (hx : r_x A M) (hw : e_w A M (zE A)) {j : Nat} (hj : j < a_nl A) (hN : M 51 26 = nI (cnt (io A j) 12)) (ho : ∀ q, io A j q = true → M 69 (cnt (io A j) q) = nI q) (hm : ∀ i, i ≤ 12 → M 71 i = M 62 j) (h : ∀ M1 W, r_x A M1 → rsd (zC A j) W → (∀ g, ms (zC A j) g → vl (zC A j) g ≤ W (sz g)) → (∀ k, k ≤ 12 → (M1 71 k).toInt = pmx W k) → Q T0 M1) {x2 x3 x4 : Value} : mm_wp l G (d + 5) k_X12_findMost (mm_pv Q) 93 [.ref 51, .int (nI j), x2, x3, x4] [] T0 M 0 0 := by
  refine mm_iconst 94 0 dX12_findMost_93 rfl (by decide) ?_
  refine mm_istore_2 95 dX12_findMost_94 rfl rfl ?_
  refine mm_iconst 96 0 dX12_findMost_95 rfl (by decide) ?_
  refine mm_istore_3 97 dX12_findMost_96 rfl rfl ?_
  refine mm_aload_0 98 dX12_findMost_97 rfl ?_
  refine mm_getR 101 dX12_findMost_98 f_X12_64 rfl t_51 rfl ?_
  refine mm_iconst 102 0 dX12_findMost_101 rfl (by decide) ?_
  refine mm_bipush 104 (-2) dX12_findMost_102 rfl (by decide) ?_
  refine mm_iastoren 105 (0) dX12_findMost_104 rfl t_70 (by decide) (rfl) (by decide) ?_
  have hk : kf M (mm_up M 70 0 (-2)) := kf.rf.up (by decide)
  have we : wm (mm_up M 70 0 (-2)) = wm M := by funext k; unfold wm; rw [mm_upn _ _ _ (by decide)]
  refine w_X12_fm hi hj (cnt (io A j) 12) Q 0 _ 0 f0 x4 (by omega) ⟨hx.kf hk, hw.kf hk, by rw [mm_upn _ _ _ (by decide)]; exact hN, by rw [mm_upn _ _ _ (by decide)]; exact ho⟩ (fun k q => ?_) ms_f0 (fun p y e => absurd e (by simp [f0])) (fun p q1 q2 => by omega) tkr_f0 (by rw [mm_upv]; decide) (fun Y v y1 y2 y3 y4 y5 y6 => ?_)
  · rw [we]
    have e : wm M k = (zC A j).ow := by unfold wm; rw [hm k q, hw.1 j hj]; rfl
    rw [e]
    exact ⟨Int.le_refl _, Or.inl rfl⟩
  · have k2 : kf (mm_up M 70 0 (-2)) Y := ⟨fun c _ _ a b => y1 c a b, fun f _ => by rw [y1 51 (by decide) (by decide)]⟩
    exact w_X12_fD hi ((hx.kf hk).kf k2) hj y3 (fun g m => y5 g m (fun p _ q => by omega)) h

set_option maxHeartbeats 4000000 in
theorem w_X12_fF {l : Launch} {G : mm_G} {d : Nat} {M : mm_M} {Q : mm_T → mm_M → Prop} {A : mm_M} (hi : iv A) (hx : r_x A M) (hw : e_w A M (zE A)) {j : Nat} (hj : j < a_nl A) (hN : M 51 26 = nI (cnt (io A j) 12)) (ho : ∀ q, io A j q = true → M 69 (cnt (io A j) q) = nI q) (h : ∀ M1 W, r_x A M1 → rsd (zC A j) W → (∀ g, ms (zC A j) g → vl (zC A j) g ≤ W (sz g)) → (∀ k, k ≤ 12 → (M1 71 k).toInt = pmx W k) → Q T0 M1) {x2 x3 x4 : Value} : mm_wp l G (d + 5) k_X12_findMost (mm_pv Q) 67 [.ref 51, .int (nI j), x2, x3, x4] [] T0 M 0 0 := by
  refine mm_iconst 68 0 dX12_findMost_67 rfl (by decide) ?_
  refine mm_istore_2 69 dX12_findMost_68 rfl rfl ?_
  refine w_X12_fB hi hx hw hj (fun X b1 b2 => ?_) 13 0 M (by omega) (by omega) (fun _ _ => rfl) (fun i q => by omega)
  have kb : kf M X := ⟨fun c _ _ _ q => b1 c q, fun f _ => by rw [b1 51 (by decide)]⟩
  exact w_X12_fC hi (hx.kf kb) (hw.kf kb) hj (by rw [b1 51 (by decide)]; exact hN) (by rw [b1 69 (by decide)]; exact ho) (fun i q => by rw [b2 i q, b1 62 (by decide)]) h

set_option maxHeartbeats 4000000 in
theorem c_X12_findMost {l : Launch} {G : mm_G} {d : Nat} {M : mm_M} {Q : mm_T → mm_M → Prop} {A : mm_M} (hi : iv A) (hx : r_x A M) {j : Nat} (hj : j < a_nl A) {x : Int32} (hxj : x = nI j) (h : ∀ M1 W, r_x A M1 → rsd (zC A j) W → (∀ g, ms (zC A j) g → vl (zC A j) g ≤ W (sz g)) → (∀ k, k ≤ 12 → (M1 71 k).toInt = pmx W k) → Q T0 M1) : mm_met l G (d + 5) k_X12_findMost [.ref 51, .int x] T0 M (mm_pv Q) := by
  subst hxj
  refine mm_enter 3 [.ref 51, .int (nI j), .double 0, .double 0, .double 0] o_X12_findMost rfl rfl ?_
  refine mm_aload_0 1 dX12_findMost_0 rfl ?_
  refine mm_cV0v 4 dX12_findMost_1 v_X12_242 rfl t_51 (by decide) rfl rfl (Nat.le_of_ble_eq_true rfl) ⟨rfl, rfl⟩ ⟨Nat.zero_le _, Nat.zero_le _⟩ (b_goesAll hi hx (fun M1 g1 w1 X1 => ?_))
  refine mm_aload_0 5 dX12_findMost_4 rfl ?_
  refine mm_iconst 6 0 dX12_findMost_5 rfl (by decide) ?_
  refine mm_putI 9 dX12_findMost_6 p_X12_257 ⟨rfl, rfl⟩ rfl t_51 rfl ?_
  refine mm_iconst 10 0 dX12_findMost_9 rfl (by decide) ?_
  refine mm_istore_2 11 dX12_findMost_10 rfl rfl ?_
  refine w_X12_fA hi X1 w1 hj (fun X a1 a2 a3 => ?_) (a_np A) 0 _ (by omega) (by omega) (kf.rf.u26) (by rw [mm_upv]; rfl) (fun q hq _ => by omega)
  exact w_X12_fF hi (X1.kf a1) (e_w.kf w1 a1) hj a2 a3 h

set_option maxHeartbeats 4000000 in
theorem w_X12_reachOf {l : Launch} {G : mm_G} {d : Nat} {M : mm_M} {Q : Int32 → mm_T → mm_M → Prop} {A : mm_M} (hi : iv A) {j : Nat} (hj : j < a_nl A) {W : Nat → Int} (hr : rsd (zC A j) W) (ha : ∀ g, ms (zC A j) g → vl (zC A j) g ≤ W (sz g)) (hp : ∀ k, k ≤ 12 → (M 71 k).toInt = pmx W k) {x w : Int32} (h : ∀ r, isR (zC A j) w.toInt r → Q r T0 M) : ∀ (z i : Nat), 13 - i ≤ z → i ≤ 13 → (∀ t, t < i → ¬ w.toInt ≤ pmx W t) → mm_wp l G (d + 6) k_X12_reachOf (mm_pi Q) 7 [.ref 51, .int x, .int w, .int (nI i)] [] T0 M 0 0 := by
  have okC := zC_ok hi hj
  intro z
  induction z using Nat.strongRecOn with | _ z ih => ?_
  intro i hze hen no
  have hei : (nI i).toInt = i := mm_ti (by omega)
  refine mm_iload_3 8 dX12_reachOf_7 rfl ?_
  refine mm_bipush 10 13 dX12_reachOf_8 rfl (by decide) ?_
  refine mm_ic_ge 31 13 dX12_reachOf_10 (by decide) rfl (fun h1 => ?_) (fun h1 => ?_)
  · refine mm_iconst 32 (-1) dX12_reachOf_31 rfl (by decide) ?_
    refine mm_iret dX12_reachOf_32 rfl ⟨rfl, Nat.zero_le _⟩ ?_
    have hz : i = 13 := by (try simp only [hei, Int32.lt_iff_toInt_lt, Int32.le_iff_toInt_le, ← Int32.toInt_inj, vp_in_iff, Int32.reduceToInt, mm_t1, mm_t2, mm_t3, mm_t4, mm_t10] at h1); omega
    exact h _ (r_isRn okC ha (fun t ht => no t (by omega)))
  · have hlt : i < 13 := by (try simp only [hei, Int32.lt_iff_toInt_lt, Int32.le_iff_toInt_le, ← Int32.toInt_inj, vp_in_iff, Int32.reduceToInt, mm_t1, mm_t2, mm_t3, mm_t4, mm_t10] at h1); omega
    refine mm_aload_0 14 dX12_reachOf_13 rfl ?_
    refine mm_getR 17 dX12_reachOf_14 f_X12_67 rfl t_51 rfl ?_
    refine mm_iload_3 18 dX12_reachOf_17 rfl ?_
    refine mm_ialoadn 19 (i) dX12_reachOf_18 rfl t_71 (by decide) (rfl) (by omega) ?_
    refine mm_iload_2 20 dX12_reachOf_19 rfl ?_
    refine mm_ic_lt 25 23 dX12_reachOf_20 (by decide) rfl (fun h2 => ?_) (fun h2 => ?_)
    · refine mm_iinc_3 28 1 dX12_reachOf_25 rfl (by decide) rfl ?_
      refine mm_goto 7 dX12_reachOf_28 (by decide) ?_
      rw [nI_1]
      refine ih (13 - (i + 1)) (by omega) (i + 1) (Nat.le_refl _) (by omega) (fun t ht => ?_)
      by_cases q : t = i
      · subst q
        rw [mm_lt, hp t (by omega)] at h2
        omega
      · exact no t (by omega)
    · refine mm_iload_3 24 dX12_reachOf_23 rfl ?_
      refine mm_iret dX12_reachOf_24 rfl ⟨rfl, Nat.zero_le _⟩ ?_
      refine h _ (r_isR okC hr ha (by omega) ?_ no)
      rw [mm_lt, hp i (by omega)] at h2
      omega

set_option maxHeartbeats 4000000 in
theorem c_X12_reachOf {l : Launch} {G : mm_G} {d : Nat} {M : mm_M} {Q : Int32 → mm_T → mm_M → Prop} {A : mm_M} (hi : iv A) (hx : r_x A M) {j : Nat} (hj : j < a_nl A) {x w : Int32} (hxj : x = nI j) (h : ∀ r M1, isR (zC A j) w.toInt r → r_x A M1 → Q r T0 M1) : mm_met l G (d + 6) k_X12_reachOf [.ref 51, .int x, .int w] T0 M (mm_pi Q) := by
  subst hxj
  refine mm_enter 1 [.ref 51, .int (nI j), .int w, .double 0] o_X12_reachOf rfl rfl ?_
  refine mm_aload_0 1 dX12_reachOf_0 rfl ?_
  refine mm_iload_1 2 dX12_reachOf_1 rfl ?_
  refine mm_cV1v 5 dX12_reachOf_2 v_X12_270 rfl t_51 (by decide) rfl rfl (Nat.le_of_ble_eq_true rfl) ⟨rfl, rfl⟩ ⟨Nat.zero_le _, Nat.zero_le _⟩ (c_X12_findMost hi hx hj rfl (fun M1 W m1 m2 m3 m4 => ?_))
  refine mm_iconst 6 0 dX12_reachOf_5 rfl (by decide) ?_
  refine mm_istore_3 7 dX12_reachOf_6 rfl rfl ?_
  exact w_X12_reachOf hi hj m2 m3 m4 (fun r q => h r M1 q m1) 13 0 (by omega) (by omega) (fun t ht => by omega)

set_option maxHeartbeats 4000000 in
theorem c_X12_growsOf {l : Launch} {G : mm_G} {d : Nat} {M : mm_M} {Q : Int32 → mm_T → mm_M → Prop} {A : mm_M} (hi : iv A) (hx : r_x A M) {j k : Nat} (hj : j < a_nl A) {x w : Int32} (hxj : x = nI j) (hwk : w = nI k) (hk : k ≤ 12) (h : ∀ r M1, isG (zC A j) k r → r_x A M1 → Q r T0 M1) : mm_met l G (d + 6) k_X12_growsOf [.ref 51, .int x, .int w] T0 M (mm_pi Q) := by
  subst hxj
  subst hwk
  refine mm_enter 0 [.ref 51, .int (nI j), .int (nI k)] o_X12_growsOf rfl rfl ?_
  refine mm_aload_0 1 dX12_growsOf_0 rfl ?_
  refine mm_iload_1 2 dX12_growsOf_1 rfl ?_
  refine mm_cV1v 5 dX12_growsOf_2 v_X12_270 rfl t_51 (by decide) rfl rfl (Nat.le_of_ble_eq_true rfl) ⟨rfl, rfl⟩ ⟨Nat.zero_le _, Nat.zero_le _⟩ (c_X12_findMost hi hx hj rfl (fun M1 W m1 m2 m3 m4 => ?_))
  refine mm_aload_0 6 dX12_growsOf_5 rfl ?_
  refine mm_getR 9 dX12_growsOf_6 f_X12_67 rfl t_51 rfl ?_
  refine mm_iload_2 10 dX12_growsOf_9 rfl ?_
  refine mm_ialoadn 11 (k) dX12_growsOf_10 rfl t_71 (by decide) (rfl) (by omega) ?_
  refine mm_iret dX12_growsOf_11 rfl ⟨rfl, Nat.zero_le _⟩ ?_
  exact h _ M1 (r_isG (zC_ok hi hj) hk m2 m3 (m4 k hk)) m1

set_option maxHeartbeats 4000000 in
theorem c_X12_reach {l : Launch} {G : mm_G} {d : Nat} {M : mm_M} {Q : Int32 → mm_T → mm_M → Prop} {A : mm_M} (hi : iv A) (hf : fr A M) {x w : Int32} (h : ∀ r M1, r = z_reach A x w → fr A M1 → Q r T0 M1) : mm_met l G (d + 7) k_X12_reach [.ref 51, .int x, .int w] T0 M (mm_pi Q) := by
  have n6 := hi.1.nl
  have n12 := hi.1.np
  have n24 := hi.1.ne.2
  refine mm_enter 0 [.ref 51, .int x, .int w] o_X12_reach rfl rfl ?_
  refine mm_aload_0 1 dX12_reach_0 rfl ?_
  refine mm_iload_1 2 dX12_reach_1 rfl ?_
  refine mm_cV1i 5 dX12_reach_2 v_X12_245 rfl t_51 (by decide) rfl rfl (Nat.le_of_ble_eq_true rfl) ⟨rfl, rfl⟩ ⟨Nat.zero_le _, Nat.zero_le _⟩ (c_X12_isLand hi hf (fun M1 X1 h1 => ?_) (fun M1 X1 h1 => ?_))
  · refine mm_if_eq 29 8 dX12_reach_5 (by decide) rfl (fun h => absurd h (by decide)) (fun _ => ?_)
    refine mm_iload_2 9 dX12_reach_8 rfl ?_
    refine mm_i2l 10 dX12_reach_9 rfl ?_
    refine mm_lconst 11 0 dX12_reach_10 rfl (by decide) ?_
    refine mm_ldc2 14 999 dX12_reach_11 rfl j_X12_273 ?_
    refine mm_cS3i 17 dX12_reach_14 v_X12_95 rfl (Nat.le_of_ble_eq_true rfl) ⟨rfl, rfl⟩ ⟨Nat.zero_le _, Nat.zero_le _⟩ (c_X12_in  (fun h2 => ?_) (fun h2 => ?_))
    · refine mm_if_eq 29 20 dX12_reach_17 (by decide) rfl (fun h => absurd h (by decide)) (fun _ => ?_)
      have cx := mm_cl2 (x := x) (n := a_nl A) (by (try simp only [lg_cmp_lt, lg_cmp_gt, lg_cmp_le, lg_cmp_ge] at h1 h2); (try simp only [Int32.lt_iff_toInt_lt, Int32.le_iff_toInt_le, ← Int32.toInt_inj, vp_in_iff, Int32.reduceToInt, mm_t1, mm_t2, mm_t3, mm_t4, mm_t10, Int64.lt_iff_toInt_lt, Int64.le_iff_toInt_le, Int64.reduceToInt, Int32.toInt_toInt64] at h1 h2 ⊢); omega)
      refine mm_aload_0 21 dX12_reach_20 rfl ?_
      refine mm_iload_1 22 dX12_reach_21 rfl ?_
      refine mm_iload_2 23 dX12_reach_22 rfl ?_
      refine mm_cV2i 26 dX12_reach_23 v_X12_275 rfl t_51 (by decide) rfl rfl (Nat.le_of_ble_eq_true rfl) ⟨rfl, rfl⟩ ⟨Nat.zero_le _, Nat.zero_le _⟩ (c_X12_reachOf hi X1 cx.2.1 cx.1 (fun r3 M3 e3 X3 => ?_))
      refine mm_goto 31 dX12_reach_26 (by decide) ?_
      refine mm_iret dX12_reach_31 rfl ⟨rfl, Nat.zero_le _⟩ ?_
      refine h _ _ ?_ X3.1
      unfold z_reach
      rw [if_pos (by (try simp only [lg_cmp_lt, lg_cmp_gt, lg_cmp_le, lg_cmp_ge] at h1 h2); (try simp only [Int32.lt_iff_toInt_lt, Int32.le_iff_toInt_le, ← Int32.toInt_inj, vp_in_iff, Int32.reduceToInt, mm_t1, mm_t2, mm_t3, mm_t4, mm_t10, Int64.lt_iff_toInt_lt, Int64.le_iff_toInt_le, Int64.reduceToInt, Int32.toInt_toInt64] at h1 h2 ⊢); omega)]
      exact isR_e e3
    · refine mm_if_eq 29 20 dX12_reach_17 (by decide) rfl (fun _ => ?_) (fun h => absurd h (by decide))
      refine mm_bipush 31 (-2) dX12_reach_29 rfl (by decide) ?_
      refine mm_iret dX12_reach_31 rfl ⟨rfl, Nat.zero_le _⟩ ?_
      refine h _ _ ?_ X1.1
      unfold z_reach
      rw [if_neg (by (try simp only [lg_cmp_lt, lg_cmp_gt, lg_cmp_le, lg_cmp_ge] at h1 h2); (try simp only [Int32.lt_iff_toInt_lt, Int32.le_iff_toInt_le, ← Int32.toInt_inj, vp_in_iff, Int32.reduceToInt, mm_t1, mm_t2, mm_t3, mm_t4, mm_t10, Int64.lt_iff_toInt_lt, Int64.le_iff_toInt_le, Int64.reduceToInt, Int32.toInt_toInt64] at h1 h2); omega)]
  · refine mm_if_eq 29 8 dX12_reach_5 (by decide) rfl (fun _ => ?_) (fun h => absurd h (by decide))
    refine mm_bipush 31 (-2) dX12_reach_29 rfl (by decide) ?_
    refine mm_iret dX12_reach_31 rfl ⟨rfl, Nat.zero_le _⟩ ?_
    refine h _ _ ?_ X1.1
    unfold z_reach
    rw [if_neg (by (try simp only [lg_cmp_lt, lg_cmp_gt, lg_cmp_le, lg_cmp_ge] at h1); (try simp only [Int32.lt_iff_toInt_lt, Int32.le_iff_toInt_le, ← Int32.toInt_inj, vp_in_iff, Int32.reduceToInt, mm_t1, mm_t2, mm_t3, mm_t4, mm_t10, Int64.lt_iff_toInt_lt, Int64.le_iff_toInt_le, Int64.reduceToInt, Int32.toInt_toInt64] at h1); omega)]

set_option maxHeartbeats 4000000 in
theorem c_X12_grows {l : Launch} {G : mm_G} {d : Nat} {M : mm_M} {Q : Int32 → mm_T → mm_M → Prop} {A : mm_M} (hi : iv A) (hf : fr A M) {x w : Int32} (h : ∀ r M1, r = z_grows A x w → fr A M1 → Q r T0 M1) : mm_met l G (d + 7) k_X12_grows [.ref 51, .int x, .int w] T0 M (mm_pi Q) := by
  have n6 := hi.1.nl
  have n12 := hi.1.np
  have n24 := hi.1.ne.2
  refine mm_enter 0 [.ref 51, .int x, .int w] o_X12_grows rfl rfl ?_
  refine mm_aload_0 1 dX12_grows_0 rfl ?_
  refine mm_iload_1 2 dX12_grows_1 rfl ?_
  refine mm_cV1i 5 dX12_grows_2 v_X12_245 rfl t_51 (by decide) rfl rfl (Nat.le_of_ble_eq_true rfl) ⟨rfl, rfl⟩ ⟨Nat.zero_le _, Nat.zero_le _⟩ (c_X12_isLand hi hf (fun M1 X1 h1 => ?_) (fun M1 X1 h1 => ?_))
  · refine mm_if_eq 29 8 dX12_grows_5 (by decide) rfl (fun h => absurd h (by decide)) (fun _ => ?_)
    refine mm_iload_2 9 dX12_grows_8 rfl ?_
    refine mm_i2l 10 dX12_grows_9 rfl ?_
    refine mm_lconst 11 0 dX12_grows_10 rfl (by decide) ?_
    refine mm_ldc2 14 4 dX12_grows_11 rfl j_X12_278 ?_
    refine mm_cS3i 17 dX12_grows_14 v_X12_95 rfl (Nat.le_of_ble_eq_true rfl) ⟨rfl, rfl⟩ ⟨Nat.zero_le _, Nat.zero_le _⟩ (c_X12_in  (fun h2 => ?_) (fun h2 => ?_))
    · refine mm_if_eq 29 20 dX12_grows_17 (by decide) rfl (fun h => absurd h (by decide)) (fun _ => ?_)
      have cx := mm_cl2 (x := x) (n := a_nl A) (by (try simp only [lg_cmp_lt, lg_cmp_gt, lg_cmp_le, lg_cmp_ge] at h1 h2); (try simp only [Int32.lt_iff_toInt_lt, Int32.le_iff_toInt_le, ← Int32.toInt_inj, vp_in_iff, Int32.reduceToInt, mm_t1, mm_t2, mm_t3, mm_t4, mm_t10, Int64.lt_iff_toInt_lt, Int64.le_iff_toInt_le, Int64.reduceToInt, Int32.toInt_toInt64] at h1 h2 ⊢); omega)
      have cw := mm_cl2 (x := w) (n := 5) (by (try simp only [lg_cmp_lt, lg_cmp_gt, lg_cmp_le, lg_cmp_ge] at h1 h2); (try simp only [Int32.lt_iff_toInt_lt, Int32.le_iff_toInt_le, ← Int32.toInt_inj, vp_in_iff, Int32.reduceToInt, mm_t1, mm_t2, mm_t3, mm_t4, mm_t10, Int64.lt_iff_toInt_lt, Int64.le_iff_toInt_le, Int64.reduceToInt, Int32.toInt_toInt64] at h1 h2 ⊢); omega)
      refine mm_aload_0 21 dX12_grows_20 rfl ?_
      refine mm_iload_1 22 dX12_grows_21 rfl ?_
      refine mm_iload_2 23 dX12_grows_22 rfl ?_
      refine mm_cV2i 26 dX12_grows_23 v_X12_280 rfl t_51 (by decide) rfl rfl (Nat.le_of_ble_eq_true rfl) ⟨rfl, rfl⟩ ⟨Nat.zero_le _, Nat.zero_le _⟩ (c_X12_growsOf hi X1 cx.2.1 cx.1 cw.1 (by omega) (fun r3 M3 e3 X3 => ?_))
      refine mm_goto 31 dX12_grows_26 (by decide) ?_
      refine mm_iret dX12_grows_31 rfl ⟨rfl, Nat.zero_le _⟩ ?_
      refine h _ _ ?_ X3.1
      unfold z_grows
      rw [if_pos (by (try simp only [lg_cmp_lt, lg_cmp_gt, lg_cmp_le, lg_cmp_ge] at h1 h2); (try simp only [Int32.lt_iff_toInt_lt, Int32.le_iff_toInt_le, ← Int32.toInt_inj, vp_in_iff, Int32.reduceToInt, mm_t1, mm_t2, mm_t3, mm_t4, mm_t10, Int64.lt_iff_toInt_lt, Int64.le_iff_toInt_le, Int64.reduceToInt, Int32.toInt_toInt64] at h1 h2 ⊢); omega)]
      exact isG_e e3
    · refine mm_if_eq 29 20 dX12_grows_17 (by decide) rfl (fun _ => ?_) (fun h => absurd h (by decide))
      refine mm_bipush 31 (-2) dX12_grows_29 rfl (by decide) ?_
      refine mm_iret dX12_grows_31 rfl ⟨rfl, Nat.zero_le _⟩ ?_
      refine h _ _ ?_ X1.1
      unfold z_grows
      rw [if_neg (by (try simp only [lg_cmp_lt, lg_cmp_gt, lg_cmp_le, lg_cmp_ge] at h1 h2); (try simp only [Int32.lt_iff_toInt_lt, Int32.le_iff_toInt_le, ← Int32.toInt_inj, vp_in_iff, Int32.reduceToInt, mm_t1, mm_t2, mm_t3, mm_t4, mm_t10, Int64.lt_iff_toInt_lt, Int64.le_iff_toInt_le, Int64.reduceToInt, Int32.toInt_toInt64] at h1 h2); omega)]
  · refine mm_if_eq 29 8 dX12_grows_5 (by decide) rfl (fun _ => ?_) (fun h => absurd h (by decide))
    refine mm_bipush 31 (-2) dX12_grows_29 rfl (by decide) ?_
    refine mm_iret dX12_grows_31 rfl ⟨rfl, Nat.zero_le _⟩ ?_
    refine h _ _ ?_ X1.1
    unfold z_grows
    rw [if_neg (by (try simp only [lg_cmp_lt, lg_cmp_gt, lg_cmp_le, lg_cmp_ge] at h1); (try simp only [Int32.lt_iff_toInt_lt, Int32.le_iff_toInt_le, ← Int32.toInt_inj, vp_in_iff, Int32.reduceToInt, mm_t1, mm_t2, mm_t3, mm_t4, mm_t10, Int64.lt_iff_toInt_lt, Int64.le_iff_toInt_le, Int64.reduceToInt, Int32.toInt_toInt64] at h1); omega)]

