/-! digest of the reference -/
theorem zq_moved {A : mm_M} (hi : iv A) {k : Nat} (hk : k < a_ne A) : zm A k = z_moved A (nI k) := by
  have n24 := hi.1.ne.2
  unfold z_moved
  rw [mm_ti (by omega), mm_cn (by omega), if_pos ⟨by omega, by omega⟩]
theorem zq_width {A : mm_M} (hi : iv A) {k : Nat} (hk : k < a_nl A) : zr A (-1) (a_ne A) 62 (nI k).toNatClampNeg = z_width A (nI k) (nI (a_ne A)) := by
  have n24 := hi.1.ne.2
  have n6 := hi.1.nl
  unfold z_width
  rw [mm_ti (show k < 2147483648 by omega), mm_ti (show a_ne A < 2147483648 by omega), if_pos ⟨⟨by omega, by omega⟩, by omega, by omega⟩, mm_cn (show a_ne A < 2147483648 by omega)]
theorem zq_reach {A : mm_M} (hi : iv A) {k : Nat} (hk : k < a_nl A) {r : Int32} (h : isR (zC A k) (150 : Int32).toInt r) : r = z_reach A (nI k) 150 := by
  have n6 := hi.1.nl
  unfold z_reach
  rw [mm_ti (show k < 2147483648 by omega), if_pos ⟨⟨by omega, by omega⟩, by decide, by decide⟩, mm_cn (show k < 2147483648 by omega)]
  exact isR_e h
theorem zq_grows {A : mm_M} (hi : iv A) {k : Nat} (hk : k < a_nl A) {r : Int32} (h : isG (zC A k) 2 r) : r = z_grows A (nI k) 2 := by
  have n6 := hi.1.nl
  unfold z_grows
  rw [mm_ti (show k < 2147483648 by omega), if_pos ⟨⟨by omega, by omega⟩, by decide, by decide⟩, mm_cn (show k < 2147483648 by omega)]
  exact isG_e h
theorem zq_blame {A : mm_M} (hi : iv A) {k : Nat} (hk : k < a_nl A) : (z_bl A (nI k).toNatClampNeg (a_ne A)).1 = z_blame A (nI k) := by
  have n6 := hi.1.nl
  unfold z_blame
  rw [mm_ti (show k < 2147483648 by omega), if_pos ⟨by omega, by omega⟩]
theorem zq_person {A : mm_M} (hi : iv A) {p k : Nat} (hp : p < a_np A) (hk : k < 4) : q_wh (a_b1 A) p k = z_person A (nI p) (nI k) := by
  have n12 := hi.1.np
  unfold z_person
  rw [mm_ti (show p < 2147483648 by omega), mm_ti (show k < 2147483648 by omega), if_pos ⟨⟨by omega, by omega⟩, by omega, by omega⟩, mm_cn (by omega), mm_cn (by omega)]
theorem zq_shadow {A : mm_M} (hi : iv A) {p : Nat} (hp : p < a_np A) : z_sh A p 6 = z_shadow A (nI p) 6 := by
  have n12 := hi.1.np
  unfold z_shadow
  rw [mm_ti (show p < 2147483648 by omega), if_pos ⟨⟨by omega, by omega⟩, by decide, by decide⟩, mm_cn (by omega)]
theorem zq_state {A : mm_M} (hi : iv A) {p k : Nat} (hp : p < a_np A) (hk : k < 3) : z_now (zr A (-1) (a_ne A)) p (nI k) = z_state A (nI p) (nI (a_ne A)) (nI k) := by
  have n12 := hi.1.np
  have n24 := hi.1.ne.2
  unfold z_state
  rw [mm_ti (show p < 2147483648 by omega), mm_ti (show k < 2147483648 by omega), mm_ti (show a_ne A < 2147483648 by omega), if_pos ⟨⟨by omega, by omega⟩, ⟨by omega, by omega⟩, by omega, by omega⟩, mm_cn (show p < 2147483648 by omega), mm_cn (show a_ne A < 2147483648 by omega)]
theorem zq_forged {A : mm_M} (hi : iv A) {p : Nat} (hp : p < a_np A) : z_fb A (nI p).toNatClampNeg 9 = z_forged A (nI p) := by
  have n12 := hi.1.np
  unfold z_forged
  rw [mm_ti (show p < 2147483648 by omega), if_pos ⟨by omega, by omega⟩]
theorem zq_nobody {A : mm_M} (hi : iv A) : zr A (-1) (a_ne A) 51 21 = z_nobody A (nI (a_ne A)) := by
  have n24 := hi.1.ne.2
  unfold z_nobody
  rw [mm_ti (show a_ne A < 2147483648 by omega), if_pos ⟨by omega, by omega⟩, mm_cn (by omega)]

set_option maxHeartbeats 4000000 in
theorem w_X12_d1 {l : Launch} {G : mm_G} {d : Nat} {Q : Int64 → mm_T → mm_M → Prop} {A : mm_M} (hi : iv A) {h0 : Int64} (K : ∀ (M1 : mm_M) (x4 : Value), fr A M1 → mm_wp l G (d + 7) k_X12_digest (mm_pl Q) 31 [.ref 51, .long (dgl (dg1 A) 8 h0), .double 0, .int (nI 8), x4] [] T0 M1 0 0) : ∀ (z k : Nat) (Mi : mm_M) (x4 : Value), 8 - k ≤ z → k ≤ 8 → fr A Mi → mm_wp l G (d + 7) k_X12_digest (mm_pl Q) 6 [.ref 51, .long (dgl (dg1 A) k h0), .double 0, .int (nI k), x4] [] T0 Mi 0 0 := by
  have n6 := hi.1.nl
  have n12 := hi.1.np
  have n24 := hi.1.ne.2
  have hNi : (nI 8).toInt = 8 := mm_ti (by omega)
  intro z
  induction z using Nat.strongRecOn with | _ z ih => ?_
  intro k Mi x4 hze hkn hq
  have hki : (nI k).toInt = k := mm_ti (by omega)
  refine mm_iload_3 7 dX12_digest_6 rfl ?_
  refine mm_bipush 9 8 dX12_digest_7 rfl (by decide) ?_
  refine mm_ic_ge 31 12 dX12_digest_9 (by decide) rfl (fun h1 => ?_) (fun h1 => ?_)
  · have hz : k = 8 := by (try simp only [hki, hNi, Int32.lt_iff_toInt_lt, Int32.le_iff_toInt_le, ← Int32.toInt_inj, vp_in_iff, Int32.reduceToInt, mm_t1, mm_t2, mm_t3, mm_t4, mm_t10] at h1); omega
    rw [hz]
    exact K Mi x4 hq
  · have hlt : k < 8 := by (try simp only [hki, hNi, Int32.lt_iff_toInt_lt, Int32.le_iff_toInt_le, ← Int32.toInt_inj, vp_in_iff, Int32.reduceToInt, mm_t1, mm_t2, mm_t3, mm_t4, mm_t10] at h1); omega
    refine mm_ldc2 15 31 dX12_digest_12 rfl j_X12_349 ?_
    refine mm_lload_1 16 dX12_digest_15 rfl ?_
    refine mm_lmul 17 dX12_digest_16 rfl ?_
    refine mm_aload_0 18 dX12_digest_17 rfl ?_
    refine mm_iload_3 19 dX12_digest_18 rfl ?_
    refine mm_cV1i 22 dX12_digest_19 v_X12_351 rfl t_51 (by decide) rfl rfl (Nat.le_of_ble_eq_true rfl) ⟨rfl, rfl⟩ ⟨Nat.zero_le _, Nat.zero_le _⟩ (c_X12_count hi hq (fun r2 M2 e2 X2 => ?_))
    refine mm_i2l 23 dX12_digest_22 rfl ?_
    refine mm_ladd 24 dX12_digest_23 rfl ?_
    refine mm_lstore_1 25 dX12_digest_24 rfl rfl ?_
    refine mm_iinc_3 28 1 dX12_digest_25 rfl (by decide) rfl ?_
    refine mm_goto 6 dX12_digest_28 (by decide) ?_
    rw [nI_1, e2]
    exact ih (8 - (k + 1)) (by omega) (k + 1) _ _ (Nat.le_refl _) (by omega) X2.1

set_option maxHeartbeats 4000000 in
theorem w_X12_d10 {l : Launch} {G : mm_G} {d : Nat} {Q : Int64 → mm_T → mm_M → Prop} {A : mm_M} (hi : iv A) {x4 : Value} {k : Int32} {Mi : mm_M} (hq : fr A Mi) (K : ∀ M1 : mm_M, r_x A M1 → mm_wp l G (d + 7) k_X12_digest (mm_pl Q) 75 [.ref 51, .long (dgA A), .double 0, .int (nI 0), x4] [] T0 M1 0 0) : mm_wp l G (d + 7) k_X12_digest (mm_pl Q) 31 [.ref 51, .long (dgl (dg1 A) 8 17), .double 0, .int k, x4] [] T0 Mi 0 0 := by
  have n6 := hi.1.nl
  have n12 := hi.1.np
  have n24 := hi.1.ne.2
  refine mm_ldc2 34 31 dX12_digest_31 rfl j_X12_349 ?_
  refine mm_lload_1 35 dX12_digest_34 rfl ?_
  refine mm_lmul 36 dX12_digest_35 rfl ?_
  refine mm_aload_0 37 dX12_digest_36 rfl ?_
  refine mm_iconst 38 0 dX12_digest_37 rfl (by decide) ?_
  refine mm_cV1i 41 dX12_digest_38 v_X12_160 rfl t_51 (by decide) rfl rfl (Nat.le_of_ble_eq_true rfl) ⟨rfl, rfl⟩ ⟨Nat.zero_le _, Nat.zero_le _⟩ (c_X12_faultOf' hi hq (by decide) (fun r1 M1 e1 X1 => ?_))
  refine mm_i2l 42 dX12_digest_41 rfl ?_
  refine mm_ladd 43 dX12_digest_42 rfl ?_
  refine mm_lstore_1 44 dX12_digest_43 rfl rfl ?_
  refine mm_ldc2 47 31 dX12_digest_44 rfl j_X12_349 ?_
  refine mm_lload_1 48 dX12_digest_47 rfl ?_
  refine mm_lmul 49 dX12_digest_48 rfl ?_
  refine mm_aload_0 50 dX12_digest_49 rfl ?_
  refine mm_iconst 51 1 dX12_digest_50 rfl (by decide) ?_
  refine mm_cV1i 54 dX12_digest_51 v_X12_160 rfl t_51 (by decide) rfl rfl (Nat.le_of_ble_eq_true rfl) ⟨rfl, rfl⟩ ⟨Nat.zero_le _, Nat.zero_le _⟩ (c_X12_faultOf' hi X1.1 (by decide) (fun r2 M2 e2 X2 => ?_))
  refine mm_i2l 55 dX12_digest_54 rfl ?_
  refine mm_ladd 56 dX12_digest_55 rfl ?_
  refine mm_lstore_1 57 dX12_digest_56 rfl rfl ?_
  refine mm_aload_0 58 dX12_digest_57 rfl ?_
  refine mm_cV0v 61 dX12_digest_58 v_X12_242 rfl t_51 (by decide) rfl rfl (Nat.le_of_ble_eq_true rfl) ⟨rfl, rfl⟩ ⟨Nat.zero_le _, Nat.zero_le _⟩ (b_goesAll hi X2 (fun M3 g3 w3 X3 => ?_))
  refine mm_ldc2 64 31 dX12_digest_61 rfl j_X12_349 ?_
  refine mm_lload_1 65 dX12_digest_64 rfl ?_
  refine mm_lmul 66 dX12_digest_65 rfl ?_
  refine mm_aload_0 67 dX12_digest_66 rfl ?_
  refine mm_getI 70 dX12_digest_67 f_X12_209 rfl t_51 rfl ?_
  refine mm_i2l 71 dX12_digest_70 rfl ?_
  refine mm_ladd 72 dX12_digest_71 rfl ?_
  refine mm_lstore_1 73 dX12_digest_72 rfl rfl ?_
  refine mm_iconst 74 0 dX12_digest_73 rfl (by decide) ?_
  refine mm_istore_3 75 dX12_digest_74 rfl rfl ?_
  rw [e1, e2, w3.2.2.2.2]
  exact K _ X3

set_option maxHeartbeats 4000000 in
theorem w_X12_d2 {l : Launch} {G : mm_G} {d : Nat} {Q : Int64 → mm_T → mm_M → Prop} {A : mm_M} (hi : iv A) {h0 : Int64} (K : ∀ (M1 : mm_M) (x4 : Value), r_x A M1 → mm_wp l G (d + 7) k_X12_digest (mm_pl Q) 121 [.ref 51, .long (dgl (dg2 A) (a_ne A) h0), .double 0, .int (nI (a_ne A)), x4] [] T0 M1 0 0) : ∀ (z k : Nat) (Mi : mm_M) (x4 : Value), (a_ne A) - k ≤ z → k ≤ (a_ne A) → r_x A Mi → mm_wp l G (d + 7) k_X12_digest (mm_pl Q) 75 [.ref 51, .long (dgl (dg2 A) k h0), .double 0, .int (nI k), x4] [] T0 Mi 0 0 := by
  have n6 := hi.1.nl
  have n12 := hi.1.np
  have n24 := hi.1.ne.2
  have hNi : (nI (a_ne A)).toInt = (a_ne A) := mm_ti (by omega)
  intro z
  induction z using Nat.strongRecOn with | _ z ih => ?_
  intro k Mi x4 hze hkn hq
  have hki : (nI k).toInt = k := mm_ti (by omega)
  refine mm_iload_3 76 dX12_digest_75 rfl ?_
  refine mm_aload_0 77 dX12_digest_76 rfl ?_
  refine mm_getI 80 dX12_digest_77 f_X12_184 rfl t_51 rfl ?_
  rw [hq.1.2.2.1, hi.1.ne.1]
  refine mm_ic_ge 121 83 dX12_digest_80 (by decide) rfl (fun h1 => ?_) (fun h1 => ?_)
  · have hz : k = (a_ne A) := by (try simp only [hki, hNi, Int32.lt_iff_toInt_lt, Int32.le_iff_toInt_le, ← Int32.toInt_inj, vp_in_iff, Int32.reduceToInt, mm_t1, mm_t2, mm_t3, mm_t4, mm_t10] at h1); omega
    rw [hz]
    exact K Mi x4 hq
  · have hlt : k < (a_ne A) := by (try simp only [hki, hNi, Int32.lt_iff_toInt_lt, Int32.le_iff_toInt_le, ← Int32.toInt_inj, vp_in_iff, Int32.reduceToInt, mm_t1, mm_t2, mm_t3, mm_t4, mm_t10] at h1); omega
    refine mm_aload_0 84 dX12_digest_83 rfl ?_
    refine mm_cV0v 87 dX12_digest_84 v_X12_242 rfl t_51 (by decide) rfl rfl (Nat.le_of_ble_eq_true rfl) ⟨rfl, rfl⟩ ⟨Nat.zero_le _, Nat.zero_le _⟩ (b_goesAll hi hq (fun M2 g2 w2 X2 => ?_))
    refine mm_ldc2 90 31 dX12_digest_87 rfl j_X12_349 ?_
    refine mm_lload_1 91 dX12_digest_90 rfl ?_
    refine mm_lmul 92 dX12_digest_91 rfl ?_
    refine mm_aload_0 93 dX12_digest_92 rfl ?_
    refine mm_getR 96 dX12_digest_93 f_X12_58 rfl t_51 rfl ?_
    refine mm_iload_3 97 dX12_digest_96 rfl ?_
    refine mm_ialoadn 98 (k) dX12_digest_97 rfl t_68 (by decide) (rfl) (by omega) ?_
    refine mm_i2l 99 dX12_digest_98 rfl ?_
    refine mm_ladd 100 dX12_digest_99 rfl ?_
    refine mm_lstore_1 101 dX12_digest_100 rfl rfl ?_
    refine mm_ldc2 104 31 dX12_digest_101 rfl j_X12_349 ?_
    refine mm_lload_1 105 dX12_digest_104 rfl ?_
    refine mm_lmul 106 dX12_digest_105 rfl ?_
    refine mm_aload_0 107 dX12_digest_106 rfl ?_
    refine mm_iload_3 108 dX12_digest_107 rfl ?_
    refine mm_iconst 109 0 dX12_digest_108 rfl (by decide) ?_
    refine mm_cV2i 112 dX12_digest_109 v_X12_309 rfl t_51 (by decide) rfl rfl (Nat.le_of_ble_eq_true rfl) ⟨rfl, rfl⟩ ⟨Nat.zero_le _, Nat.zero_le _⟩ (c_X12_withoutOf hi X2 (by rw [hki]; omega) (fun r3 M3 e3 X3 => ?_))
    refine mm_i2l 113 dX12_digest_112 rfl ?_
    refine mm_ladd 114 dX12_digest_113 rfl ?_
    refine mm_lstore_1 115 dX12_digest_114 rfl rfl ?_
    refine mm_iinc_3 118 1 dX12_digest_115 rfl (by decide) rfl ?_
    refine mm_goto 75 dX12_digest_118 (by decide) ?_
    have mv : M2 68 k = z_moved A (nI k) := by rw [g2, zm_r hi hq hlt (Nat.le_refl _)]; exact zq_moved hi hlt
    rw [nI_1, mv, e3]
    exact ih (a_ne A - (k + 1)) (by omega) (k + 1) _ _ (Nat.le_refl _) (by omega) X3

set_option maxHeartbeats 4000000 in
theorem w_X12_dL {l : Launch} {G : mm_G} {d : Nat} {Q : Int64 → mm_T → mm_M → Prop} {A : mm_M} (hi : iv A) {p : Nat} {h0 : Int64} (K : ∀ M1 : mm_M, r_x A M1 → mm_wp l G (d + 7) k_X12_digest (mm_pl Q) 225 [.ref 51, .long (dgl (fun j h => hz h (z_lords A (nI p) (nI (p + 1)) (nI j))) 2 h0), .double 0, .int (nI p), .int (nI 2)] [] T0 M1 0 0) : ∀ (z k : Nat) (Mi : mm_M), 2 - k ≤ z → k ≤ 2 → r_x A Mi → mm_wp l G (d + 7) k_X12_digest (mm_pl Q) 195 [.ref 51, .long (dgl (fun j h => hz h (z_lords A (nI p) (nI (p + 1)) (nI j))) k h0), .double 0, .int (nI p), .int (nI k)] [] T0 Mi 0 0 := by
  have n6 := hi.1.nl
  have n12 := hi.1.np
  have n24 := hi.1.ne.2
  have hNi : (nI 2).toInt = 2 := by decide
  intro z
  induction z using Nat.strongRecOn with | _ z ih => ?_
  intro k Mi hze hkn hq
  have hki : (nI k).toInt = k := mm_ti (by omega)
  refine mm_iload_4 197 dX12_digest_195 rfl ?_
  refine mm_iconst 198 2 dX12_digest_197 rfl (by decide) ?_
  refine mm_ic_ge 225 201 dX12_digest_198 (by decide) rfl (fun h1 => ?_) (fun h1 => ?_)
  · have hz : k = 2 := by (try simp only [hki, hNi, Int32.lt_iff_toInt_lt, Int32.le_iff_toInt_le, ← Int32.toInt_inj, vp_in_iff, Int32.reduceToInt, mm_t1, mm_t2, mm_t3, mm_t4, mm_t10] at h1); omega
    rw [hz]
    exact K Mi hq
  · have hlt : k < 2 := by (try simp only [hki, hNi, Int32.lt_iff_toInt_lt, Int32.le_iff_toInt_le, ← Int32.toInt_inj, vp_in_iff, Int32.reduceToInt, mm_t1, mm_t2, mm_t3, mm_t4, mm_t10] at h1); omega
    refine mm_ldc2 204 31 dX12_digest_201 rfl j_X12_349 ?_
    refine mm_lload_1 205 dX12_digest_204 rfl ?_
    refine mm_lmul 206 dX12_digest_205 rfl ?_
    refine mm_aload_0 207 dX12_digest_206 rfl ?_
    refine mm_iload_3 208 dX12_digest_207 rfl ?_
    refine mm_iload_3 209 dX12_digest_208 rfl ?_
    refine mm_iconst 210 1 dX12_digest_209 rfl (by decide) ?_
    refine mm_iadd 211 dX12_digest_210 rfl ?_
    refine mm_iload_4 213 dX12_digest_211 rfl ?_
    rw [nI_1]
    refine mm_cV3i 216 dX12_digest_213 v_X12_344 rfl t_51 (by decide) rfl rfl (Nat.le_of_ble_eq_true rfl) ⟨rfl, rfl⟩ ⟨Nat.zero_le _, Nat.zero_le _⟩ (c_X12_turnsBy hi hq (by rw [hki]; omega) (fun r2 M2 e2 X2 => ?_))
    refine mm_i2l 217 dX12_digest_216 rfl ?_
    refine mm_ladd 218 dX12_digest_217 rfl ?_
    refine mm_lstore_1 219 dX12_digest_218 rfl rfl ?_
    refine mm_iinc_4 222 1 dX12_digest_219 rfl (by decide) rfl ?_
    refine mm_goto 195 dX12_digest_222 (by decide) ?_
    rw [nI_1, e2]
    exact ih (2 - (k + 1)) (by omega) (k + 1) _ (Nat.le_refl _) (by omega) X2

theorem s_X12_dL {l : Launch} {G : mm_G} {d : Nat} {Q : Int64 → mm_T → mm_M → Prop} {A : mm_M} (hi : iv A) {p : Nat} {h0 : Int64} (K : ∀ M1 : mm_M, r_x A M1 → mm_wp l G (d + 7) k_X12_digest (mm_pl Q) 225 [.ref 51, .long (hz (hz h0 (z_lords A (nI p) (nI (p + 1)) 0)) (z_lords A (nI p) (nI (p + 1)) 1)), .double 0, .int (nI p), .int (nI 2)] [] T0 M1 0 0) {Mi : mm_M} (hq : r_x A Mi) : mm_wp l G (d + 7) k_X12_digest (mm_pl Q) 195 [.ref 51, .long (h0), .double 0, .int (nI p), .int (nI 0)] [] T0 Mi 0 0 := w_X12_dL hi K 2 0 Mi (Nat.le_refl _) (Nat.zero_le _) hq

set_option maxHeartbeats 4000000 in
theorem w_X12_dM {l : Launch} {G : mm_G} {d : Nat} {Q : Int64 → mm_T → mm_M → Prop} {p : Nat} {h0 : Int64} {x4 : Value} {Mi : mm_M} (K : mm_wp l G (d + 7) k_X12_digest (mm_pl Q) 123 [.ref 51, .long (h0), .double 0, .int (nI (p + 1)), x4] [] T0 Mi 0 0) : mm_wp l G (d + 7) k_X12_digest (mm_pl Q) 225 [.ref 51, .long (h0), .double 0, .int (nI p), x4] [] T0 Mi 0 0 := by
  refine mm_iinc_3 228 1 dX12_digest_225 rfl (by decide) rfl ?_
  refine mm_goto 123 dX12_digest_228 (by decide) ?_
  rw [nI_1]
  exact K

set_option maxHeartbeats 4000000 in
theorem w_X12_d3 {l : Launch} {G : mm_G} {d : Nat} {Q : Int64 → mm_T → mm_M → Prop} {A : mm_M} (hi : iv A) {h0 : Int64} (K : ∀ (M1 : mm_M) (x4 : Value), r_x A M1 → mm_wp l G (d + 7) k_X12_digest (mm_pl Q) 231 [.ref 51, .long (dgl (dg3 A) (a_nl A) h0), .double 0, .int (nI (a_nl A)), x4] [] T0 M1 0 0) : ∀ (z k : Nat) (Mi : mm_M) (x4 : Value), (a_nl A) - k ≤ z → k ≤ (a_nl A) → r_x A Mi → mm_wp l G (d + 7) k_X12_digest (mm_pl Q) 123 [.ref 51, .long (dgl (dg3 A) k h0), .double 0, .int (nI k), x4] [] T0 Mi 0 0 := by
  have n6 := hi.1.nl
  have n12 := hi.1.np
  have n24 := hi.1.ne.2
  have hNi : (nI (a_nl A)).toInt = (a_nl A) := mm_ti (by omega)
  intro z
  induction z using Nat.strongRecOn with | _ z ih => ?_
  intro k Mi x4 hze hkn hq
  have hki : (nI k).toInt = k := mm_ti (by omega)
  refine mm_iload_3 124 dX12_digest_123 rfl ?_
  refine mm_aload_0 125 dX12_digest_124 rfl ?_
  refine mm_getI 128 dX12_digest_125 f_X12_138 rfl t_51 rfl ?_
  rw [hq.2.1]
  refine mm_ic_ge 231 131 dX12_digest_128 (by decide) rfl (fun h1 => ?_) (fun h1 => ?_)
  · have hz : k = (a_nl A) := by (try simp only [hki, hNi, Int32.lt_iff_toInt_lt, Int32.le_iff_toInt_le, ← Int32.toInt_inj, vp_in_iff, Int32.reduceToInt, mm_t1, mm_t2, mm_t3, mm_t4, mm_t10] at h1); omega
    rw [hz]
    exact K Mi x4 hq
  · have hlt : k < (a_nl A) := by (try simp only [hki, hNi, Int32.lt_iff_toInt_lt, Int32.le_iff_toInt_le, ← Int32.toInt_inj, vp_in_iff, Int32.reduceToInt, mm_t1, mm_t2, mm_t3, mm_t4, mm_t10] at h1); omega
    refine mm_ldc2 134 31 dX12_digest_131 rfl j_X12_349 ?_
    refine mm_lload_1 135 dX12_digest_134 rfl ?_
    refine mm_lmul 136 dX12_digest_135 rfl ?_
    refine mm_aload_0 137 dX12_digest_136 rfl ?_
    refine mm_iload_3 138 dX12_digest_137 rfl ?_
    refine mm_aload_0 139 dX12_digest_138 rfl ?_
    refine mm_getI 142 dX12_digest_139 f_X12_184 rfl t_51 rfl ?_
    refine mm_iconst 143 (-1) dX12_digest_142 rfl (by decide) ?_
    refine mm_cV3i 146 dX12_digest_143 v_X12_251 rfl t_51 (by decide) rfl rfl (Nat.le_of_ble_eq_true rfl) ⟨rfl, rfl⟩ ⟨Nat.zero_le _, Nat.zero_le _⟩ (c_X12_widthOf hi hq (by rw [hki]; omega) (hq.1.2.2.1.trans hi.1.ne.1) (Nat.le_refl _) (fun r2 M2 e2 X2 => ?_))
    refine mm_i2l 147 dX12_digest_146 rfl ?_
    refine mm_ladd 148 dX12_digest_147 rfl ?_
    refine mm_lstore_1 149 dX12_digest_148 rfl rfl ?_
    refine mm_ldc2 152 31 dX12_digest_149 rfl j_X12_349 ?_
    refine mm_lload_1 153 dX12_digest_152 rfl ?_
    refine mm_lmul 154 dX12_digest_153 rfl ?_
    refine mm_aload_0 155 dX12_digest_154 rfl ?_
    refine mm_iload_3 156 dX12_digest_155 rfl ?_
    refine mm_sipush 159 150 dX12_digest_156 rfl (by decide) ?_
    refine mm_cV2i 162 dX12_digest_159 v_X12_275 rfl t_51 (by decide) rfl rfl (Nat.le_of_ble_eq_true rfl) ⟨rfl, rfl⟩ ⟨Nat.zero_le _, Nat.zero_le _⟩ (c_X12_reachOf hi X2 hlt rfl (fun r3 M3 e3 X3 => ?_))
    refine mm_i2l 163 dX12_digest_162 rfl ?_
    refine mm_ladd 164 dX12_digest_163 rfl ?_
    refine mm_lstore_1 165 dX12_digest_164 rfl rfl ?_
    refine mm_ldc2 168 31 dX12_digest_165 rfl j_X12_349 ?_
    refine mm_lload_1 169 dX12_digest_168 rfl ?_
    refine mm_lmul 170 dX12_digest_169 rfl ?_
    refine mm_aload_0 171 dX12_digest_170 rfl ?_
    refine mm_iload_3 172 dX12_digest_171 rfl ?_
    refine mm_iconst 173 2 dX12_digest_172 rfl (by decide) ?_
    refine mm_cV2i 176 dX12_digest_173 v_X12_280 rfl t_51 (by decide) rfl rfl (Nat.le_of_ble_eq_true rfl) ⟨rfl, rfl⟩ ⟨Nat.zero_le _, Nat.zero_le _⟩ (c_X12_growsOf hi X3 (k := 2) hlt rfl rfl (by omega) (fun r4 M4 e4 X4 => ?_))
    refine mm_i2l 177 dX12_digest_176 rfl ?_
    refine mm_ladd 178 dX12_digest_177 rfl ?_
    refine mm_lstore_1 179 dX12_digest_178 rfl rfl ?_
    refine mm_ldc2 182 31 dX12_digest_179 rfl j_X12_349 ?_
    refine mm_lload_1 183 dX12_digest_182 rfl ?_
    refine mm_lmul 184 dX12_digest_183 rfl ?_
    refine mm_aload_0 185 dX12_digest_184 rfl ?_
    refine mm_iload_3 186 dX12_digest_185 rfl ?_
    refine mm_cV1i 189 dX12_digest_186 v_X12_312 rfl t_51 (by decide) rfl rfl (Nat.le_of_ble_eq_true rfl) ⟨rfl, rfl⟩ ⟨Nat.zero_le _, Nat.zero_le _⟩ (c_X12_blameOf hi X4 (by rw [hki]; omega) (fun r5 M5 e5 X5 => ?_))
    refine mm_i2l 190 dX12_digest_189 rfl ?_
    refine mm_ladd 191 dX12_digest_190 rfl ?_
    refine mm_lstore_1 192 dX12_digest_191 rfl rfl ?_
    refine mm_iconst 193 0 dX12_digest_192 rfl (by decide) ?_
    refine mm_istore_4 195 dX12_digest_193 rfl rfl ?_
    have q1 : r2 = z_width A (nI k) (nI (a_ne A)) := by rw [e2]; exact zq_width hi hlt
    have q2 : r3 = z_reach A (nI k) 150 := zq_reach hi hlt e3
    have q3 : r4 = z_grows A (nI k) 2 := zq_grows hi hlt e4
    have q4 : r5 = z_blame A (nI k) := by rw [e5]; exact zq_blame hi hlt
    rw [q1, q2, q3, q4]
    exact s_X12_dL hi (h0 := hz (hz (hz (hz (dgl (dg3 A) k h0) (z_width A (nI k) (nI (a_ne A)))) (z_reach A (nI k) 150)) (z_grows A (nI k) 2)) (z_blame A (nI k))) (fun Ma qa => w_X12_dM (ih (a_nl A - (k + 1)) (by omega) (k + 1) Ma _ (Nat.le_refl _) (by omega) qa)) X5

set_option maxHeartbeats 4000000 in
theorem w_X12_d4 {l : Launch} {G : mm_G} {d : Nat} {Q : Int64 → mm_T → mm_M → Prop} {A : mm_M} (hi : iv A) {p : Nat} (hp : p < a_np A) {h0 : Int64} (K : ∀ M1 : mm_M, r_x A M1 → mm_wp l G (d + 7) k_X12_digest (mm_pl Q) 275 [.ref 51, .long (dgl (dg4 A p) 4 h0), .double 0, .int (nI p), .int (nI 4)] [] T0 M1 0 0) : ∀ (z k : Nat) (Mi : mm_M), 4 - k ≤ z → k ≤ 4 → r_x A Mi → mm_wp l G (d + 7) k_X12_digest (mm_pl Q) 244 [.ref 51, .long (dgl (dg4 A p) k h0), .double 0, .int (nI p), .int (nI k)] [] T0 Mi 0 0 := by
  have n6 := hi.1.nl
  have n12 := hi.1.np
  have n24 := hi.1.ne.2
  have hNi : (nI 4).toInt = 4 := mm_ti (by omega)
  intro z
  induction z using Nat.strongRecOn with | _ z ih => ?_
  intro k Mi hze hkn hq
  have hki : (nI k).toInt = k := mm_ti (by omega)
  refine mm_iload_4 246 dX12_digest_244 rfl ?_
  refine mm_iconst 247 4 dX12_digest_246 rfl (by decide) ?_
  refine mm_ic_ge 275 250 dX12_digest_247 (by decide) rfl (fun h1 => ?_) (fun h1 => ?_)
  · have hz : k = 4 := by (try simp only [hki, hNi, Int32.lt_iff_toInt_lt, Int32.le_iff_toInt_le, ← Int32.toInt_inj, vp_in_iff, Int32.reduceToInt, mm_t1, mm_t2, mm_t3, mm_t4, mm_t10] at h1); omega
    rw [hz]
    exact K Mi hq
  · have hlt : k < 4 := by (try simp only [hki, hNi, Int32.lt_iff_toInt_lt, Int32.le_iff_toInt_le, ← Int32.toInt_inj, vp_in_iff, Int32.reduceToInt, mm_t1, mm_t2, mm_t3, mm_t4, mm_t10] at h1); omega
    refine mm_ldc2 253 31 dX12_digest_250 rfl j_X12_349 ?_
    refine mm_lload_1 254 dX12_digest_253 rfl ?_
    refine mm_lmul 255 dX12_digest_254 rfl ?_
    refine mm_aload_0 256 dX12_digest_255 rfl ?_
    refine mm_getR 259 dX12_digest_256 f_X12_31 rfl t_51 rfl ?_
    refine mm_iconst 260 4 dX12_digest_259 rfl (by decide) ?_
    refine mm_iload_3 261 dX12_digest_260 rfl ?_
    refine mm_imul 262 dX12_digest_261 rfl ?_
    refine mm_iload_4 264 dX12_digest_262 rfl ?_
    refine mm_iadd 265 dX12_digest_264 rfl ?_
    refine mm_ialoadn 266 (4 * p + k) dX12_digest_265 rfl t_59 (by decide) (by rw [mm_l4, pk_mul, nI_add]) (by omega) ?_
    refine mm_i2l 267 dX12_digest_266 rfl ?_
    refine mm_ladd 268 dX12_digest_267 rfl ?_
    refine mm_lstore_1 269 dX12_digest_268 rfl rfl ?_
    refine mm_iinc_4 272 1 dX12_digest_269 rfl (by decide) rfl ?_
    refine mm_goto 244 dX12_digest_272 (by decide) ?_
    rw [nI_1, hq.2.2.2.2 p k hp hlt, zq_person hi hp hlt]
    exact ih (4 - (k + 1)) (by omega) (k + 1) _ (Nat.le_refl _) (by omega) hq

set_option maxHeartbeats 4000000 in
theorem w_X12_d6 {l : Launch} {G : mm_G} {d : Nat} {Q : Int64 → mm_T → mm_M → Prop} {A : mm_M} (hi : iv A) {p : Nat} (hp : p < a_np A) {x4 : Value} {h0 : Int64} {Mi : mm_M} (hq : r_x A Mi) (K : ∀ M1 : mm_M, r_x A M1 → e_w A M1 (zr A (-1) (a_ne A)) → mm_wp l G (d + 7) k_X12_digest (mm_pl Q) 297 [.ref 51, .long (hz h0 (z_shadow A (nI p) 6)), .double 0, .int (nI p), .int (nI 0)] [] T0 M1 0 0) : mm_wp l G (d + 7) k_X12_digest (mm_pl Q) 275 [.ref 51, .long (h0), .double 0, .int (nI p), x4] [] T0 Mi 0 0 := by
  have n6 := hi.1.nl
  have n12 := hi.1.np
  have n24 := hi.1.ne.2
  refine mm_ldc2 278 31 dX12_digest_275 rfl j_X12_349 ?_
  refine mm_lload_1 279 dX12_digest_278 rfl ?_
  refine mm_lmul 280 dX12_digest_279 rfl ?_
  refine mm_aload_0 281 dX12_digest_280 rfl ?_
  refine mm_iload_3 282 dX12_digest_281 rfl ?_
  refine mm_bipush 284 6 dX12_digest_282 rfl (by decide) ?_
  refine mm_cV2i 287 dX12_digest_284 v_X12_176 rfl t_51 (by decide) rfl rfl (Nat.le_of_ble_eq_true rfl) ⟨rfl, rfl⟩ ⟨Nat.zero_le _, Nat.zero_le _⟩ (c_X12_shadowOf rfl (by omega) (fun r1 e1 => ?_))
  refine mm_i2l 288 dX12_digest_287 rfl ?_
  refine mm_ladd 289 dX12_digest_288 rfl ?_
  refine mm_lstore_1 290 dX12_digest_289 rfl rfl ?_
  refine mm_aload_0 291 dX12_digest_290 rfl ?_
  refine mm_cV0v 294 dX12_digest_291 v_X12_242 rfl t_51 (by decide) rfl rfl (Nat.le_of_ble_eq_true rfl) ⟨rfl, rfl⟩ ⟨Nat.zero_le _, Nat.zero_le _⟩ (b_goesAll hi hq (fun M2 g2 w2 X2 => ?_))
  refine mm_iconst 295 0 dX12_digest_294 rfl (by decide) ?_
  refine mm_istore_4 297 dX12_digest_295 rfl rfl ?_
  rw [e1, hq.sh hp, zq_shadow hi hp]
  exact K _ X2 w2

set_option maxHeartbeats 4000000 in
theorem w_X12_d5 {l : Launch} {G : mm_G} {d : Nat} {Q : Int64 → mm_T → mm_M → Prop} {A : mm_M} (hi : iv A) {p : Nat} (hp : p < a_np A) {h0 : Int64} {Mi : mm_M} (hq : r_x A Mi) (hw : e_w A Mi (zr A (-1) (a_ne A))) (K : mm_wp l G (d + 7) k_X12_digest (mm_pl Q) 324 [.ref 51, .long (dgl (dg5 A p) 3 h0), .double 0, .int (nI p), .int (nI 3)] [] T0 Mi 0 0) : ∀ (z k : Nat), 3 - k ≤ z → k ≤ 3 → mm_wp l G (d + 7) k_X12_digest (mm_pl Q) 297 [.ref 51, .long (dgl (dg5 A p) k h0), .double 0, .int (nI p), .int (nI k)] [] T0 Mi 0 0 := by
  have n6 := hi.1.nl
  have n12 := hi.1.np
  have n24 := hi.1.ne.2
  have hNi : (nI 3).toInt = 3 := by decide
  intro z
  induction z using Nat.strongRecOn with | _ z ih => ?_
  intro k hze hkn
  have hki : (nI k).toInt = k := mm_ti (by omega)
  refine mm_iload_4 299 dX12_digest_297 rfl ?_
  refine mm_iconst 300 3 dX12_digest_299 rfl (by decide) ?_
  refine mm_ic_ge 324 303 dX12_digest_300 (by decide) rfl (fun h1 => ?_) (fun h1 => ?_)
  · have hz : k = 3 := by (try simp only [hki, hNi, Int32.lt_iff_toInt_lt, Int32.le_iff_toInt_le, ← Int32.toInt_inj, vp_in_iff, Int32.reduceToInt, mm_t1, mm_t2, mm_t3, mm_t4, mm_t10] at h1); omega
    rw [hz]
    exact K
  · have hlt : k < 3 := by (try simp only [hki, hNi, Int32.lt_iff_toInt_lt, Int32.le_iff_toInt_le, ← Int32.toInt_inj, vp_in_iff, Int32.reduceToInt, mm_t1, mm_t2, mm_t3, mm_t4, mm_t10] at h1); omega
    refine mm_ldc2 306 31 dX12_digest_303 rfl j_X12_349 ?_
    refine mm_lload_1 307 dX12_digest_306 rfl ?_
    refine mm_lmul 308 dX12_digest_307 rfl ?_
    refine mm_aload_0 309 dX12_digest_308 rfl ?_
    refine mm_iload_3 310 dX12_digest_309 rfl ?_
    refine mm_iload_4 312 dX12_digest_310 rfl ?_
    refine mm_cV2i 315 dX12_digest_312 v_X12_254 rfl t_51 (by decide) rfl rfl (Nat.le_of_ble_eq_true rfl) ⟨rfl, rfl⟩ ⟨Nat.zero_le _, Nat.zero_le _⟩ (c_X12_stateNow rfl (by omega) (fun r2 e2 => ?_))
    refine mm_i2l 316 dX12_digest_315 rfl ?_
    refine mm_ladd 317 dX12_digest_316 rfl ?_
    refine mm_lstore_1 318 dX12_digest_317 rfl rfl ?_
    refine mm_iinc_4 321 1 dX12_digest_318 rfl (by decide) rfl ?_
    refine mm_goto 297 dX12_digest_321 (by decide) ?_
    rw [nI_1, e2, hw.now hp, zq_state hi hp hlt]
    exact ih (3 - (k + 1)) (by omega) (k + 1) (Nat.le_refl _) (by omega)

set_option maxHeartbeats 4000000 in
theorem w_X12_d7 {l : Launch} {G : mm_G} {d : Nat} {Q : Int64 → mm_T → mm_M → Prop} {A : mm_M} (hi : iv A) {p : Nat} (hp : p < a_np A) {h0 : Int64} {Mi : mm_M} {x4 : Value} (hq : r_x A Mi) (K : ∀ M1 : mm_M, r_x A M1 → mm_wp l G (d + 7) k_X12_digest (mm_pl Q) 233 [.ref 51, .long (hz h0 (z_forged A (nI p))), .double 0, .int (nI (p + 1)), x4] [] T0 M1 0 0) : mm_wp l G (d + 7) k_X12_digest (mm_pl Q) 324 [.ref 51, .long (h0), .double 0, .int (nI p), x4] [] T0 Mi 0 0 := by
  have n6 := hi.1.nl
  have n12 := hi.1.np
  have n24 := hi.1.ne.2
  have hpi : (nI p).toInt = p := mm_ti (by omega)
  refine mm_ldc2 327 31 dX12_digest_324 rfl j_X12_349 ?_
  refine mm_lload_1 328 dX12_digest_327 rfl ?_
  refine mm_lmul 329 dX12_digest_328 rfl ?_
  refine mm_aload_0 330 dX12_digest_329 rfl ?_
  refine mm_iload_3 331 dX12_digest_330 rfl ?_
  refine mm_cV1i 334 dX12_digest_331 v_X12_303 rfl t_51 (by decide) rfl rfl (Nat.le_of_ble_eq_true rfl) ⟨rfl, rfl⟩ ⟨Nat.zero_le _, Nat.zero_le _⟩ (c_X12_forgedOf hi hq (by rw [hpi]; omega) (fun r1 M1 e1 X1 => ?_))
  refine mm_i2l 335 dX12_digest_334 rfl ?_
  refine mm_ladd 336 dX12_digest_335 rfl ?_
  refine mm_lstore_1 337 dX12_digest_336 rfl rfl ?_
  refine mm_iinc_3 340 1 dX12_digest_337 rfl (by decide) rfl ?_
  refine mm_goto 233 dX12_digest_340 (by decide) ?_
  rw [nI_1, e1, zq_forged hi hp]
  exact K _ X1

theorem w_X12_dP {l : Launch} {G : mm_G} {d : Nat} {Q : Int64 → mm_T → mm_M → Prop} {A : mm_M} (hi : iv A) {p : Nat} (hp : p < a_np A) {h0 : Int64} (K : ∀ M1 : mm_M, r_x A M1 → mm_wp l G (d + 7) k_X12_digest (mm_pl Q) 233 [.ref 51, .long (dg6 A p h0), .double 0, .int (nI (p + 1)), .int (nI 3)] [] T0 M1 0 0) {Mi : mm_M} (hq : r_x A Mi) : mm_wp l G (d + 7) k_X12_digest (mm_pl Q) 244 [.ref 51, .long (h0), .double 0, .int (nI p), .int (nI 0)] [] T0 Mi 0 0 := w_X12_d4 hi hp (fun Ma qa => w_X12_d6 hi hp qa (fun Mb qb wb => w_X12_d5 hi hp qb wb (w_X12_d7 hi hp qb K) 3 0 (Nat.le_refl _) (Nat.zero_le _))) 4 0 Mi (Nat.le_refl _) (Nat.zero_le _) hq

set_option maxHeartbeats 4000000 in
theorem w_X12_d8 {l : Launch} {G : mm_G} {d : Nat} {Q : Int64 → mm_T → mm_M → Prop} {A : mm_M} (hi : iv A) {h0 : Int64} (K : ∀ (M1 : mm_M) (x4 : Value), r_x A M1 → mm_wp l G (d + 7) k_X12_digest (mm_pl Q) 343 [.ref 51, .long (dgl (dg6 A) (a_np A) h0), .double 0, .int (nI (a_np A)), x4] [] T0 M1 0 0) : ∀ (z k : Nat) (Mi : mm_M) (x4 : Value), (a_np A) - k ≤ z → k ≤ (a_np A) → r_x A Mi → mm_wp l G (d + 7) k_X12_digest (mm_pl Q) 233 [.ref 51, .long (dgl (dg6 A) k h0), .double 0, .int (nI k), x4] [] T0 Mi 0 0 := by
  have n6 := hi.1.nl
  have n12 := hi.1.np
  have n24 := hi.1.ne.2
  have hNi : (nI (a_np A)).toInt = (a_np A) := mm_ti (by omega)
  intro z
  induction z using Nat.strongRecOn with | _ z ih => ?_
  intro k Mi x4 hze hkn hq
  have hki : (nI k).toInt = k := mm_ti (by omega)
  refine mm_iload_3 234 dX12_digest_233 rfl ?_
  refine mm_aload_0 235 dX12_digest_234 rfl ?_
  refine mm_getI 238 dX12_digest_235 f_X12_144 rfl t_51 rfl ?_
  rw [hq.2.2.2.1]
  refine mm_ic_ge 343 241 dX12_digest_238 (by decide) rfl (fun h1 => ?_) (fun h1 => ?_)
  · have hz : k = (a_np A) := by (try simp only [hki, hNi, Int32.lt_iff_toInt_lt, Int32.le_iff_toInt_le, ← Int32.toInt_inj, vp_in_iff, Int32.reduceToInt, mm_t1, mm_t2, mm_t3, mm_t4, mm_t10] at h1); omega
    rw [hz]
    exact K Mi x4 hq
  · have hlt : k < (a_np A) := by (try simp only [hki, hNi, Int32.lt_iff_toInt_lt, Int32.le_iff_toInt_le, ← Int32.toInt_inj, vp_in_iff, Int32.reduceToInt, mm_t1, mm_t2, mm_t3, mm_t4, mm_t10] at h1); omega
    refine mm_iconst 242 0 dX12_digest_241 rfl (by decide) ?_
    refine mm_istore_4 244 dX12_digest_242 rfl rfl ?_
    exact w_X12_dP hi hlt (fun Md qd => ih (a_np A - (k + 1)) (by omega) (k + 1) Md _ (Nat.le_refl _) (by omega) qd) hq

set_option maxHeartbeats 4000000 in
theorem w_X12_d9 {l : Launch} {G : mm_G} {d : Nat} {Q : Int64 → mm_T → mm_M → Prop} {A : mm_M} (hi : iv A) {h0 : Int64} {x3 x4 : Value} {Mi : mm_M} (hq : r_x A Mi) (h : ∀ r M1, r = hz (hz (hz h0 (z_nobody A (nI (a_ne A)))) (z_leave A)) (z_unlike A) → fr A M1 → Q r T0 M1) : mm_wp l G (d + 7) k_X12_digest (mm_pl Q) 343 [.ref 51, .long (h0), .double 0, x3, x4] [] T0 Mi 0 0 := by
  have n6 := hi.1.nl
  have n12 := hi.1.np
  have n24 := hi.1.ne.2
  refine mm_aload_0 344 dX12_digest_343 rfl ?_
  refine mm_cV0v 347 dX12_digest_344 v_X12_242 rfl t_51 (by decide) rfl rfl (Nat.le_of_ble_eq_true rfl) ⟨rfl, rfl⟩ ⟨Nat.zero_le _, Nat.zero_le _⟩ (b_goesAll hi hq (fun M1 g1 w1 X1 => ?_))
  refine mm_ldc2 350 31 dX12_digest_347 rfl j_X12_349 ?_
  refine mm_lload_1 351 dX12_digest_350 rfl ?_
  refine mm_lmul 352 dX12_digest_351 rfl ?_
  refine mm_aload_0 353 dX12_digest_352 rfl ?_
  refine mm_getI 356 dX12_digest_353 f_X12_203 rfl t_51 rfl ?_
  refine mm_i2l 357 dX12_digest_356 rfl ?_
  refine mm_ladd 358 dX12_digest_357 rfl ?_
  refine mm_lstore_1 359 dX12_digest_358 rfl rfl ?_
  refine mm_ldc2 362 31 dX12_digest_359 rfl j_X12_349 ?_
  refine mm_lload_1 363 dX12_digest_362 rfl ?_
  refine mm_lmul 364 dX12_digest_363 rfl ?_
  refine mm_aload_0 365 dX12_digest_364 rfl ?_
  refine mm_cV0i 368 dX12_digest_365 v_X12_286 rfl t_51 (by decide) rfl rfl (Nat.le_of_ble_eq_true rfl) ⟨rfl, rfl⟩ ⟨Nat.zero_le _, Nat.zero_le _⟩ (c_X12_leaveNow hi X1 (fun r2 M2 e2 X2 => ?_))
  refine mm_i2l 369 dX12_digest_368 rfl ?_
  refine mm_ladd 370 dX12_digest_369 rfl ?_
  refine mm_lstore_1 371 dX12_digest_370 rfl rfl ?_
  refine mm_ldc2 374 31 dX12_digest_371 rfl j_X12_349 ?_
  refine mm_lload_1 375 dX12_digest_374 rfl ?_
  refine mm_lmul 376 dX12_digest_375 rfl ?_
  refine mm_aload_0 377 dX12_digest_376 rfl ?_
  refine mm_cV0i 380 dX12_digest_377 v_X12_306 rfl t_51 (by decide) rfl rfl (Nat.le_of_ble_eq_true rfl) ⟨rfl, rfl⟩ ⟨Nat.zero_le _, Nat.zero_le _⟩ (c_X12_unlikeNow hi X2 (fun r3 M3 e3 X3 => ?_))
  refine mm_i2l 381 dX12_digest_380 rfl ?_
  refine mm_ladd 382 dX12_digest_381 rfl ?_
  refine mm_lret dX12_digest_382 rfl ⟨rfl, Nat.zero_le _⟩ ?_
  refine h _ _ ?_ X3
  rw [w1.2.2.1, zq_nobody hi, e2, e3]
  rfl

set_option maxHeartbeats 4000000 in
theorem w_X12_d11 {l : Launch} {G : mm_G} {d : Nat} {Q : Int64 → mm_T → mm_M → Prop} {h0 : Int64} {x3 x4 : Value} {Mi : mm_M} (K : mm_wp l G (d + 7) k_X12_digest (mm_pl Q) 123 [.ref 51, .long (h0), .double 0, .int (nI 0), x4] [] T0 Mi 0 0) : mm_wp l G (d + 7) k_X12_digest (mm_pl Q) 121 [.ref 51, .long (h0), .double 0, x3, x4] [] T0 Mi 0 0 := by
  refine mm_iconst 122 0 dX12_digest_121 rfl (by decide) ?_
  refine mm_istore_3 123 dX12_digest_122 rfl rfl ?_
  exact K

set_option maxHeartbeats 4000000 in
theorem w_X12_d12 {l : Launch} {G : mm_G} {d : Nat} {Q : Int64 → mm_T → mm_M → Prop} {h0 : Int64} {x3 x4 : Value} {Mi : mm_M} (K : mm_wp l G (d + 7) k_X12_digest (mm_pl Q) 233 [.ref 51, .long (h0), .double 0, .int (nI 0), x4] [] T0 Mi 0 0) : mm_wp l G (d + 7) k_X12_digest (mm_pl Q) 231 [.ref 51, .long (h0), .double 0, x3, x4] [] T0 Mi 0 0 := by
  refine mm_iconst 232 0 dX12_digest_231 rfl (by decide) ?_
  refine mm_istore_3 233 dX12_digest_232 rfl rfl ?_
  exact K

theorem s_X12_d1 {l : Launch} {G : mm_G} {d : Nat} {Q : Int64 → mm_T → mm_M → Prop} {A : mm_M} (hi : iv A) {h0 : Int64} (K : ∀ (M1 : mm_M) (x4 : Value), fr A M1 → mm_wp l G (d + 7) k_X12_digest (mm_pl Q) 31 [.ref 51, .long (dgl (dg1 A) 8 h0), .double 0, .int (nI 8), x4] [] T0 M1 0 0) {Mi : mm_M} {x4 : Value} (hq : fr A Mi) : mm_wp l G (d + 7) k_X12_digest (mm_pl Q) 6 [.ref 51, .long (h0), .double 0, .int (nI 0), x4] [] T0 Mi 0 0 := w_X12_d1 hi K 8 0 Mi x4 (Nat.le_refl _) (Nat.zero_le _) hq

theorem s_X12_d2 {l : Launch} {G : mm_G} {d : Nat} {Q : Int64 → mm_T → mm_M → Prop} {A : mm_M} (hi : iv A) {h0 : Int64} (K : ∀ (M1 : mm_M) (x4 : Value), r_x A M1 → mm_wp l G (d + 7) k_X12_digest (mm_pl Q) 121 [.ref 51, .long (dgl (dg2 A) (a_ne A) h0), .double 0, .int (nI (a_ne A)), x4] [] T0 M1 0 0) {Mi : mm_M} {x4 : Value} (hq : r_x A Mi) : mm_wp l G (d + 7) k_X12_digest (mm_pl Q) 75 [.ref 51, .long (h0), .double 0, .int (nI 0), x4] [] T0 Mi 0 0 := w_X12_d2 hi K (a_ne A) 0 Mi x4 (Nat.le_refl _) (Nat.zero_le _) hq

theorem s_X12_d3 {l : Launch} {G : mm_G} {d : Nat} {Q : Int64 → mm_T → mm_M → Prop} {A : mm_M} (hi : iv A) {h0 : Int64} (K : ∀ (M1 : mm_M) (x4 : Value), r_x A M1 → mm_wp l G (d + 7) k_X12_digest (mm_pl Q) 231 [.ref 51, .long (dgl (dg3 A) (a_nl A) h0), .double 0, .int (nI (a_nl A)), x4] [] T0 M1 0 0) {Mi : mm_M} {x4 : Value} (hq : r_x A Mi) : mm_wp l G (d + 7) k_X12_digest (mm_pl Q) 123 [.ref 51, .long (h0), .double 0, .int (nI 0), x4] [] T0 Mi 0 0 := w_X12_d3 hi K (a_nl A) 0 Mi x4 (Nat.le_refl _) (Nat.zero_le _) hq

theorem s_X12_d8 {l : Launch} {G : mm_G} {d : Nat} {Q : Int64 → mm_T → mm_M → Prop} {A : mm_M} (hi : iv A) {h0 : Int64} (K : ∀ (M1 : mm_M) (x4 : Value), r_x A M1 → mm_wp l G (d + 7) k_X12_digest (mm_pl Q) 343 [.ref 51, .long (dgl (dg6 A) (a_np A) h0), .double 0, .int (nI (a_np A)), x4] [] T0 M1 0 0) {Mi : mm_M} {x4 : Value} (hq : r_x A Mi) : mm_wp l G (d + 7) k_X12_digest (mm_pl Q) 233 [.ref 51, .long (h0), .double 0, .int (nI 0), x4] [] T0 Mi 0 0 := w_X12_d8 hi K (a_np A) 0 Mi x4 (Nat.le_refl _) (Nat.zero_le _) hq

set_option maxHeartbeats 4000000 in
theorem c_X12_digest {l : Launch} {G : mm_G} {d : Nat} {M : mm_M} {Q : Int64 → mm_T → mm_M → Prop} {A : mm_M} (hi : iv A) (hf : fr A M) (h : ∀ r M1, r = z_digest A → fr A M1 → Q r T0 M1) : mm_met l G (d + 7) k_X12_digest [.ref 51] T0 M (mm_pl Q) := by
  unfold z_digest at h
  refine mm_enter 4 [.ref 51, .double 0, .double 0, .double 0, .double 0] o_X12_digest rfl rfl ?_
  refine mm_ldc2 3 17 dX12_digest_0 rfl j_X12_347 ?_
  refine mm_lstore_1 4 dX12_digest_3 rfl rfl ?_
  refine mm_iconst 5 0 dX12_digest_4 rfl (by decide) ?_
  refine mm_istore_3 6 dX12_digest_5 rfl rfl ?_
  refine s_X12_d1 hi (h0 := 17) (fun Ma x qa => w_X12_d10 hi qa (fun Mb qb => ?_)) hf
  refine s_X12_d2 hi (h0 := dgA A) (fun Mc x2 qc => ?_) qb
  refine w_X12_d11 (s_X12_d3 hi (h0 := dgl (dg2 A) (a_ne A) (dgA A)) (fun Md x3 qd => ?_) qc)
  refine w_X12_d12 (s_X12_d8 hi (h0 := dgl (dg3 A) (a_nl A) (dgl (dg2 A) (a_ne A) (dgA A))) (fun Me x4 qe => ?_) qd)
  exact w_X12_d9 hi qe h

