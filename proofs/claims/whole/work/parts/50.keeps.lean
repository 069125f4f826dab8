/-! The reference's search: a choice told -/
theorem gfz {A X : mm_M} (hw : e_w A X (zE A)) {p : Nat} (hp : p < a_np A) : g_free X p = g_free (zE A) p := by
  unfold g_free
  rw [(hw.2.1 p hp).1, (hw.2.1 p hp).2.2]
theorem gmz {A X : mm_M} (hi : iv A) (hx : r_x A X) (hw : e_w A X (zE A)) {a b : Nat} (ha : a < a_np A) (hb : b < a_np A) : g_may X a b = z_may A a b := by
  have hz := zE_x hi
  have q : ∀ p k, p < a_np A → k < 4 → X 59 (4 * p + k) = zE A 59 (4 * p + k) := fun p k h1 h2 => by rw [hx.2.2.2.2 p k h1 h2, hz.2.2.2.2 p k h1 h2]
  have q0 := q a 0 ha (by decide)
  have q1 := q b 0 hb (by decide)
  rw [Nat.add_zero] at q0 q1
  unfold z_may g_may g_next
  rw [gfz hw ha, gfz hw hb, q0, q1, q a 1 ha (by decide), q b 1 hb (by decide), hx.2.2.2.1, hz.2.2.2.1]
def wm (X : mm_M) (k : Nat) : Int := (X 71 k).toInt

set_option maxHeartbeats 4000000 in
theorem c_X12_gain {l : Launch} {G : mm_G} {d : Nat} {M : mm_M} {Q : Int32 → mm_T → mm_M → Prop} {A : mm_M} (hi : iv A) (hx : r_x A M) {x y : Int32} {a b : Nat} (hxa : x = nI a) (ha : a < a_np A) (hyb : y = nI b) (hb : b < a_np A) (h : ∀ r, r = zgi A a b → Q r T0 (M)) : mm_met l G (d + 1) k_X12_gain [.ref 51, .int x, .int y] T0 M (mm_pi Q) := by
  have n12 := hi.1.np
  refine mm_enter 0 [.ref 51, .int x, .int y] o_X12_gain rfl rfl ?_
  refine mm_aload_0 1 dX12_gain_0 rfl ?_
  refine mm_iload_1 2 dX12_gain_1 rfl ?_
  refine mm_bipush 4 6 dX12_gain_2 rfl (by decide) ?_
  refine mm_cV2i 7 dX12_gain_4 v_X12_176 rfl t_51 (by decide) rfl rfl (Nat.le_of_ble_eq_true rfl) ⟨rfl, rfl⟩ ⟨Nat.zero_le _, Nat.zero_le _⟩ (c_X12_shadowOf hxa (by omega) (fun r1 e1 => ?_))
  refine mm_aload_0 8 dX12_gain_7 rfl ?_
  refine mm_iload_2 9 dX12_gain_8 rfl ?_
  refine mm_bipush 11 6 dX12_gain_9 rfl (by decide) ?_
  refine mm_cV2i 14 dX12_gain_11 v_X12_176 rfl t_51 (by decide) rfl rfl (Nat.le_of_ble_eq_true rfl) ⟨rfl, rfl⟩ ⟨Nat.zero_le _, Nat.zero_le _⟩ (c_X12_shadowOf hyb (by omega) (fun r2 e2 => ?_))
  refine mm_isub 15 dX12_gain_14 rfl ?_
  refine mm_iret dX12_gain_15 rfl ⟨rfl, Nat.zero_le _⟩ ?_
  refine h _ ?_
  rw [e1, e2, hx.sh ha, hx.sh hb]
  rfl

set_option maxHeartbeats 4000000 in
theorem c_X12_isUseful {l : Launch} {G : mm_G} {d : Nat} {M : mm_M} {Q : Int32 → mm_T → mm_M → Prop} {A : mm_M} (hi : iv A) (hx : r_x A M) (hw : e_w A M (zE A)) {x y u : Int32} {a b : Nat} (hxa : x = nI a) (ha : a < a_np A) (hyb : y = nI b) (hb : b < a_np A) (ht : (u >>> (y &&& 31)) &&& 1 = 0 ∧ z_may A a b = true ∧ 0 < zg A a b → Q 1 T0 M) (hf : ¬ ((u >>> (y &&& 31)) &&& 1 = 0 ∧ z_may A a b = true ∧ 0 < zg A a b) → Q 0 T0 M) : mm_met l G (d + 2) k_X12_isUseful [.ref 51, .int x, .int y, .int u] T0 M (mm_pi Q) := by
  have n12 := hi.1.np
  refine mm_enter 0 [.ref 51, .int x, .int y, .int u] o_X12_isUseful rfl rfl ?_
  refine mm_iload_3 1 dX12_isUseful_0 rfl ?_
  refine mm_iload_2 2 dX12_isUseful_1 rfl ?_
  
  refine mm_ishr 3 dX12_isUseful_2 rfl ?_
  refine mm_iconst 4 1 dX12_isUseful_3 rfl (by decide) ?_
  refine mm_iand 5 dX12_isUseful_4 rfl ?_
  refine mm_if_ne 30 8 dX12_isUseful_5 (by decide) rfl (fun h1 => ?_) (fun h1 => ?_)
  · refine mm_iconst 31 0 dX12_isUseful_30 rfl (by decide) ?_
    refine mm_zret dX12_isUseful_31 rfl ⟨rfl, Nat.zero_le _⟩ (Or.inl rfl) ?_
    exact hf (fun q => h1 q.1)
  · refine mm_aload_0 9 dX12_isUseful_8 rfl ?_
    refine mm_iload_1 10 dX12_isUseful_9 rfl ?_
    refine mm_iload_2 11 dX12_isUseful_10 rfl ?_
    refine mm_cV2i 14 dX12_isUseful_11 v_X12_215 rfl t_51 (by decide) rfl rfl (Nat.le_of_ble_eq_true rfl) ⟨rfl, rfl⟩ ⟨Nat.zero_le _, Nat.zero_le _⟩ (c_X12_mayWed hxa (by omega) hyb (by omega) (fun h2 => ?_) (fun h2 => ?_))
    · rw [gmz hi hx hw ha hb] at h2
      refine mm_if_eq 30 17 dX12_isUseful_14 (by decide) rfl (fun h => absurd h (by decide)) (fun _ => ?_)
      refine mm_aload_0 18 dX12_isUseful_17 rfl ?_
      refine mm_iload_1 19 dX12_isUseful_18 rfl ?_
      refine mm_iload_2 20 dX12_isUseful_19 rfl ?_
      refine mm_cV2i 23 dX12_isUseful_20 v_X12_267 rfl t_51 (by decide) rfl rfl (Nat.le_of_ble_eq_true rfl) ⟨rfl, rfl⟩ ⟨Nat.zero_le _, Nat.zero_le _⟩ (c_X12_gain hi hx hxa ha hyb hb (fun r3 e3 => ?_))
      refine mm_if_le 30 26 dX12_isUseful_23 (by decide) rfl (fun h4 => ?_) (fun h4 => ?_)
      · refine mm_iconst 31 0 dX12_isUseful_30 rfl (by decide) ?_
        refine mm_zret dX12_isUseful_31 rfl ⟨rfl, Nat.zero_le _⟩ (Or.inl rfl) ?_
        refine hf (fun q => ?_)
        rw [mm_le, e3] at h4
        have q := q.2.2
        unfold zg at q
        simp only [Int32.reduceToInt] at h4
        omega
      · refine mm_iconst 27 1 dX12_isUseful_26 rfl (by decide) ?_
        refine mm_goto 31 dX12_isUseful_27 (by decide) ?_
        refine mm_zret dX12_isUseful_31 rfl ⟨rfl, Nat.zero_le _⟩ (Or.inr rfl) ?_
        refine ht ⟨h1, h2, ?_⟩
        rw [mm_le, e3] at h4
        unfold zg
        simp only [Int32.reduceToInt] at h4
        omega
    · rw [gmz hi hx hw ha hb] at h2
      refine mm_if_eq 30 17 dX12_isUseful_14 (by decide) rfl (fun _ => ?_) (fun h => absurd h (by decide))
      refine mm_iconst 31 0 dX12_isUseful_30 rfl (by decide) ?_
      refine mm_zret dX12_isUseful_31 rfl ⟨rfl, Nat.zero_le _⟩ (Or.inl rfl) ?_
      exact hf (fun q => h2 q.2.1)

theorem sm_bp {C : mcx} (hC : c_ok C) {f : Nat → Option Nat} (h : ∀ a b, f a = some b → C.us a b = true) (p : Nat) (hp : p < 12) : (0 ≤ sm (lf C f) p ∧ sm (lf C f) p ≤ 1512) ∧ 0 ≤ sm (rf C f) p ∧ sm (rf C f) p ≤ 1512 := by
  have h1 := sm_bd (g := lf C f) p (fun i _ => by
    unfold lf
    cases e : f i with
    | none => exact ⟨Int.le_refl _, show (0 : Int) ≤ 126 by decide⟩
    | some b =>
      have := hC.1 i b (h i b e)
      show (0 : Int) ≤ (if C.lo b = true then C.gn i b else 0) ∧ (if C.lo b = true then C.gn i b else 0) ≤ 126
      split <;> omega)
  have h2 := sm_bd (g := rf C f) p (fun i _ => by
    unfold rf
    cases e : f i with
    | none => exact ⟨Int.le_refl _, show (0 : Int) ≤ 126 by decide⟩
    | some b =>
      have := hC.1 i b (h i b e)
      show (0 : Int) ≤ (if C.lo b = true then 0 else C.gn i b) ∧ (if C.lo b = true then 0 else C.gn i b) ≤ 126
      split <;> omega)
  omega

set_option maxHeartbeats 4000000 in
theorem w_X12_keeps1 {l : Launch} {G : mm_G} {d : Nat} {M : mm_M} {Q : mm_T → mm_M → Prop} {A : mm_M} (hi : iv A) (hx : r_x A M) (hw : e_w A M (zE A)) {j : Nat} (hj : j < a_nl A) (hN : M 51 26 = nI (cnt (io A j) 12)) (ho : ∀ p, io A j p = true → M 69 (cnt (io A j) p) = nI p) {f : Nat → Option Nat} (hf : ms (zC A j) f) (hp : ∀ p, io A j p = true → M 70 (cnt (io A j) p) = pe (f p)) (h : ∀ (le ri : Int32) (x5 x6 : Value), le.toInt = sm (lf (zC A j) f) 12 → ri.toInt = sm (rf (zC A j) f) 12 → mm_wp l G (d + 2) k_X12_keepsMost (mm_pv Q) 125 [.ref 51, .int (nI j), .int le, .int ri, .int (nI (sz f)), x5, x6] [] T0 M 0 0) : ∀ (z k : Nat) (le ri : Int32) (n : Nat) {x6 : Value}, cnt (io A j) 12 - k ≤ z → k ≤ cnt (io A j) 12 → (∀ p, cnt (io A j) p = k → le.toInt = sm (lf (zC A j) f) p ∧ ri.toInt = sm (rf (zC A j) f) p ∧ n = cnt (dm f) p) → mm_wp l G (d + 2) k_X12_keepsMost (mm_pv Q) 10 [.ref 51, .int (nI j), .int le, .int ri, .int (nI n), .int (nI k), x6] [] T0 M 0 0 := by
  have n6 := hi.1.nl
  have n12 := hi.1.np
  have c12 := cnt_le (f := io A j) 12
  have hni : (nI (cnt (io A j) 12)).toInt = cnt (io A j) 12 := mm_ti (by omega)
  have okC := zC_ok hi hj
  have smb := fun (f2 : Nat → Option Nat) (h2 : ∀ a b, f2 a = some b → (zC A j).us a b = true) => sm_bp okC h2
  intro z
  induction z using Nat.strongRecOn with | _ z ih => ?_
  intro k le ri n x6 hze hkn hs
  have hki : (nI k).toInt = k := mm_ti (by omega)
  refine mm_iload_5 12 dX12_keepsMost_10 rfl ?_
  refine mm_aload_0 13 dX12_keepsMost_12 rfl ?_
  refine mm_getI 16 dX12_keepsMost_13 f_X12_257 rfl t_51 rfl ?_
  rw [hN]
  refine mm_ic_ge 125 19 dX12_keepsMost_16 (by decide) rfl (fun h1 => ?_) (fun h1 => ?_)
  · have hz : k = cnt (io A j) 12 := by (try simp only [hki, hni, Int32.lt_iff_toInt_lt, Int32.le_iff_toInt_le, ← Int32.toInt_inj, vp_in_iff, Int32.reduceToInt, mm_t1, mm_t2, mm_t3, mm_t4, mm_t10] at h1); omega
    obtain ⟨s1, s2, s3⟩ := hs 12 hz.symm
    rw [s3]
    exact h le ri _ _ s1 s2
  · have hlt : k < cnt (io A j) 12 := by (try simp only [hki, hni, Int32.lt_iff_toInt_lt, Int32.le_iff_toInt_le, ← Int32.toInt_inj, vp_in_iff, Int32.reduceToInt, mm_t1, mm_t2, mm_t3, mm_t4, mm_t10] at h1); omega
    obtain ⟨p, p12, pio, pk⟩ := cnt_ex 12 hlt
    have pn := (io_i pio).1
    have ep : M 70 k = pe (f p) := by rw [← pk]; exact hp p pio
    have eo : M 69 k = nI p := by rw [← pk]; exact ho p pio
    obtain ⟨s1, s2, s3⟩ := hs p pk
    refine mm_aload_0 20 dX12_keepsMost_19 rfl ?_
    refine mm_getR 23 dX12_keepsMost_20 f_X12_64 rfl t_51 rfl ?_
    refine mm_iload_5 25 dX12_keepsMost_23 rfl ?_
    refine mm_ialoadn 26 (k) dX12_keepsMost_25 rfl t_70 (by decide) (rfl) (by omega) ?_
    refine mm_if_lt 119 29 dX12_keepsMost_26 (by decide) rfl (fun h2 => ?_) (fun h2 => ?_)
    · refine mm_iinc_5 122 1 dX12_keepsMost_119 rfl (by decide) rfl ?_
      refine mm_goto 10 dX12_keepsMost_122 (by decide) ?_
      have fn : f p = none := by
        cases e : f p with
        | none => rfl
        | some b =>
          have b12 := (zC_ok hi hj).1 p b (hf.1 p b e)
          rw [ep, e, show pe (some b) = nI b from rfl, mm_lt, mm_ti (by omega)] at h2
          simp only [Int32.reduceToInt] at h2
          omega
      rw [nI_1]
      refine ih (cnt (io A j) 12 - (k + 1)) (by omega) (k + 1) le ri n (Nat.le_refl _) (by omega) (fun q hq => ?_)
      have cp1 : cnt (io A j) (p + 1) = k + 1 := by rw [cnt_t pio, pk]
      have e := hq.trans cp1.symm
      rw [sm_gap (lf_io hi hf) e, sm_gap (rf_io hi hf) e, cnt_gap (dm_io hi hf) e]
      have l0 : lf (zC A j) f p = 0 := by unfold lf; rw [fn]
      have r0 : rf (zC A j) f p = 0 := by unfold rf; rw [fn]
      refine ⟨?_, ?_, ?_⟩
      · show _ = sm (lf (zC A j) f) p + lf (zC A j) f p
        omega
      · show _ = sm (rf (zC A j) f) p + rf (zC A j) f p
        omega
      · rw [cnt_f (by rw [dm_n fn]; decide)]
        exact s3
    · obtain ⟨b, fb⟩ : ∃ b, f p = some b := by
        cases e : f p with
        | none => rw [ep, e] at h2; exact absurd (by decide) h2
        | some b => exact ⟨b, rfl⟩
      have eb : M 70 k = nI b := by rw [ep, fb]; rfl
      have us := hf.1 p b fb
      have mb := z_may_i hi (zC_us us).2.1
      have hb := mb.2.1
      have hmb : M 59 (4 * b + 1) = z_w A b 1 := hx.2.2.2.2 b 1 hb (by decide)
      have gb := (zC_ok hi hj).1 p b us
      have lp : sm (lf (zC A j) f) (p + 1) = sm (lf (zC A j) f) p + lf (zC A j) f p := rfl
      have rp : sm (rf (zC A j) f) (p + 1) = sm (rf (zC A j) f) p + rf (zC A j) f p := rfl
      have lpe : lf (zC A j) f p = if (zC A j).lo b = true then zg A p b else 0 := by unfold lf; rw [fb]; rfl
      have rpe : rf (zC A j) f p = if (zC A j).lo b = true then 0 else zg A p b := by unfold rf; rw [fb]; rfl
      have lo : (zC A j).lo b = true ↔ (z_w A b 1).toInt < j := decide_eq_true_iff
      have lb := smb _ hf.1 p p12
      have cp1 : cnt (io A j) (p + 1) = k + 1 := by rw [cnt_t pio, pk]
      have dp1 : cnt (dm f) (p + 1) = cnt (dm f) p + 1 := cnt_t (dm_s fb)
      have gpb : zg A p b = (zgi A p b).toInt := rfl
      have gb2 : 0 < (zgi A p b).toInt ∧ (zgi A p b).toInt ≤ 126 := ⟨gb.2.2.1, gb.2.2.2⟩
      refine mm_aload_0 30 dX12_keepsMost_29 rfl ?_
      refine mm_getR 33 dX12_keepsMost_30 f_X12_31 rfl t_51 rfl ?_
      refine mm_iconst 34 4 dX12_keepsMost_33 rfl (by decide) ?_
      refine mm_aload_0 35 dX12_keepsMost_34 rfl ?_
      refine mm_getR 38 dX12_keepsMost_35 f_X12_64 rfl t_51 rfl ?_
      refine mm_iload_5 40 dX12_keepsMost_38 rfl ?_
      refine mm_ialoadn 41 (k) dX12_keepsMost_40 rfl t_70 (by decide) (rfl) (by omega) ?_
      refine mm_imul 42 dX12_keepsMost_41 rfl ?_
      refine mm_iconst 43 1 dX12_keepsMost_42 rfl (by decide) ?_
      refine mm_iadd 44 dX12_keepsMost_43 rfl ?_
      refine mm_ialoadn 45 (4 * b + 1) dX12_keepsMost_44 rfl t_59 (by decide) (by rw [eb, mm_l4, pk_mul, mm_l1, nI_add]) (by omega) ?_
      refine mm_iload_1 46 dX12_keepsMost_45 rfl ?_
      refine mm_ic_ge 53 49 dX12_keepsMost_46 (by decide) rfl (fun h3 => ?_) (fun h3 => ?_)
      · refine mm_iconst 54 0 dX12_keepsMost_53 rfl (by decide) ?_
        refine mm_istore_6 56 dX12_keepsMost_54 rfl rfl ?_
        refine mm_iload_2 57 dX12_keepsMost_56 rfl ?_
        refine mm_iload_6 59 dX12_keepsMost_57 rfl ?_
        refine mm_if_eq 83 62 dX12_keepsMost_59 (by decide) rfl (fun _ => ?_) (fun h => absurd h (by decide))
        refine mm_iconst 84 0 dX12_keepsMost_83 rfl (by decide) ?_
        refine mm_iadd 85 dX12_keepsMost_84 rfl ?_
        refine mm_istore_2 86 dX12_keepsMost_85 rfl rfl ?_
        refine mm_iload_3 87 dX12_keepsMost_86 rfl ?_
        refine mm_iload_6 89 dX12_keepsMost_87 rfl ?_
        refine mm_if_eq 96 92 dX12_keepsMost_89 (by decide) rfl (fun _ => ?_) (fun h => absurd h (by decide))
        refine mm_aload_0 97 dX12_keepsMost_96 rfl ?_
        refine mm_aload_0 98 dX12_keepsMost_97 rfl ?_
        refine mm_getR 101 dX12_keepsMost_98 f_X12_61 rfl t_51 rfl ?_
        refine mm_iload_5 103 dX12_keepsMost_101 rfl ?_
        refine mm_ialoadn 104 (k) dX12_keepsMost_103 rfl t_69 (by decide) (rfl) (by omega) ?_
        refine mm_aload_0 105 dX12_keepsMost_104 rfl ?_
        refine mm_getR 108 dX12_keepsMost_105 f_X12_64 rfl t_51 rfl ?_
        refine mm_iload_5 110 dX12_keepsMost_108 rfl ?_
        refine mm_ialoadn 111 (k) dX12_keepsMost_110 rfl t_70 (by decide) (rfl) (by omega) ?_
        refine mm_cV2i 114 dX12_keepsMost_111 v_X12_267 rfl t_51 (by decide) rfl rfl (Nat.le_of_ble_eq_true rfl) ⟨rfl, rfl⟩ ⟨Nat.zero_le _, Nat.zero_le _⟩ (c_X12_gain hi hx eo pn eb hb (fun r4 e4 => ?_))
        refine mm_iadd 115 dX12_keepsMost_114 rfl ?_
        refine mm_istore_3 116 dX12_keepsMost_115 rfl rfl ?_
        refine mm_iinc_4 119 1 dX12_keepsMost_116 rfl (by decide) rfl ?_
        refine mm_iinc_5 122 1 dX12_keepsMost_119 rfl (by decide) rfl ?_
        refine mm_goto 10 dX12_keepsMost_122 (by decide) ?_
        rw [hmb, mm_le] at h3
        have xj : (nI j).toInt = j := mm_ti (by omega)
        rw [xj] at h3
        rw [nI_1, nI_1, e4]
        refine ih (cnt (io A j) 12 - (k + 1)) (by omega) (k + 1) _ _ (n + 1) (Nat.le_refl _) (by omega) (fun q hq => ?_)
        have e := hq.trans cp1.symm
        rw [sm_gap (lf_io hi hf) e, sm_gap (rf_io hi hf) e, cnt_gap (dm_io hi hf) e, lp, rp, dp1, lpe, rpe]
        have l1 : ¬ (zC A j).lo b = true := fun q => by have := lo.mp q; omega
        rw [if_neg l1, if_neg l1, Int32.add_zero, mm_add (by omega)]
        omega
      · refine mm_iconst 50 1 dX12_keepsMost_49 rfl (by decide) ?_
        refine mm_goto 54 dX12_keepsMost_50 (by decide) ?_
        refine mm_istore_6 56 dX12_keepsMost_54 rfl rfl ?_
        refine mm_iload_2 57 dX12_keepsMost_56 rfl ?_
        refine mm_iload_6 59 dX12_keepsMost_57 rfl ?_
        refine mm_if_eq 83 62 dX12_keepsMost_59 (by decide) rfl (fun h => absurd h (by decide)) (fun _ => ?_)
        refine mm_aload_0 63 dX12_keepsMost_62 rfl ?_
        refine mm_aload_0 64 dX12_keepsMost_63 rfl ?_
        refine mm_getR 67 dX12_keepsMost_64 f_X12_61 rfl t_51 rfl ?_
        refine mm_iload_5 69 dX12_keepsMost_67 rfl ?_
        refine mm_ialoadn 70 (k) dX12_keepsMost_69 rfl t_69 (by decide) (rfl) (by omega) ?_
        refine mm_aload_0 71 dX12_keepsMost_70 rfl ?_
        refine mm_getR 74 dX12_keepsMost_71 f_X12_64 rfl t_51 rfl ?_
        refine mm_iload_5 76 dX12_keepsMost_74 rfl ?_
        refine mm_ialoadn 77 (k) dX12_keepsMost_76 rfl t_70 (by decide) (rfl) (by omega) ?_
        refine mm_cV2i 80 dX12_keepsMost_77 v_X12_267 rfl t_51 (by decide) rfl rfl (Nat.le_of_ble_eq_true rfl) ⟨rfl, rfl⟩ ⟨Nat.zero_le _, Nat.zero_le _⟩ (c_X12_gain hi hx eo pn eb hb (fun r5 e5 => ?_))
        refine mm_goto 84 dX12_keepsMost_80 (by decide) ?_
        refine mm_iadd 85 dX12_keepsMost_84 rfl ?_
        refine mm_istore_2 86 dX12_keepsMost_85 rfl rfl ?_
        refine mm_iload_3 87 dX12_keepsMost_86 rfl ?_
        refine mm_iload_6 89 dX12_keepsMost_87 rfl ?_
        refine mm_if_eq 96 92 dX12_keepsMost_89 (by decide) rfl (fun h => absurd h (by decide)) (fun _ => ?_)
        refine mm_iconst 93 0 dX12_keepsMost_92 rfl (by decide) ?_
        refine mm_goto 114 dX12_keepsMost_93 (by decide) ?_
        refine mm_iadd 115 dX12_keepsMost_114 rfl ?_
        refine mm_istore_3 116 dX12_keepsMost_115 rfl rfl ?_
        refine mm_iinc_4 119 1 dX12_keepsMost_116 rfl (by decide) rfl ?_
        refine mm_iinc_5 122 1 dX12_keepsMost_119 rfl (by decide) rfl ?_
        refine mm_goto 10 dX12_keepsMost_122 (by decide) ?_
        rw [hmb, mm_le] at h3
        have xj : (nI j).toInt = j := mm_ti (by omega)
        rw [xj] at h3
        rw [nI_1, nI_1, e5]
        refine ih (cnt (io A j) 12 - (k + 1)) (by omega) (k + 1) _ _ (n + 1) (Nat.le_refl _) (by omega) (fun q hq => ?_)
        have e := hq.trans cp1.symm
        rw [sm_gap (lf_io hi hf) e, sm_gap (rf_io hi hf) e, cnt_gap (dm_io hi hf) e, lp, rp, dp1, lpe, rpe]
        have l1 := lo.mpr (by omega)
        rw [if_pos l1, if_pos l1, Int32.add_zero, mm_add (by omega)]
        omega

set_option maxHeartbeats 4000000 in
theorem w_X12_keeps2 {l : Launch} {G : mm_G} {d : Nat} {M : mm_M} {Q : mm_T → mm_M → Prop} {A : mm_M} (hi : iv A) (hw : e_w A M (zE A)) {j : Nat} (hj : j < a_nl A) {f : Nat → Option Nat} (hf : ms (zC A j) f) (h : ∀ M1, (∀ c, c ≠ 71 → M1 c = M c) → (∀ i, i ≤ 12 → wm M1 i = if i = sz f ∧ wm M i ≤ vl (zC A j) f then vl (zC A j) f else wm M i) → Q T0 M1) {le ri : Int32} {x5 x6 : Value} (hl : le.toInt = sm (lf (zC A j) f) 12) (hr : ri.toInt = sm (rf (zC A j) f) 12) : mm_wp l G (d + 2) k_X12_keepsMost (mm_pv Q) 125 [.ref 51, .int (nI j), .int le, .int ri, .int (nI (sz f)), x5, x6] [] T0 M 0 0 := by
  have n6 := hi.1.nl
  have n12 := hi.1.np
  have c12 := cnt_le (f := io A j) 12
  have hn2 : (nI (cnt (io A j) 12)).toInt = cnt (io A j) 12 := mm_ti (by omega)
  have okC := zC_ok hi hj
  have s12 := sz_12 f
  have owe : (M 62 j).toInt = (zC A j).ow := by rw [hw.1 j hj]; rfl
  have b1 := lf_bd okC hf
  have b2 := rf_bd okC hf
  have m1 := mi_le (sm (lf (zC A j) f) 12) (zC A j).wb
  have m2 := mi_le (sm (rf (zC A j) f) 12) (zC A j).wa
  have m3 := mi_n b1.1 okC.2.2.2.1.1
  have m4 := mi_n b2.1 okC.2.2.2.2.1
  have ww := okC.2.2
  refine mm_aload_0 126 dX12_keepsMost_125 rfl ?_
  refine mm_getR 129 dX12_keepsMost_126 f_X12_40 rfl t_51 rfl ?_
  refine mm_iload_1 130 dX12_keepsMost_129 rfl ?_
  refine mm_ialoadn 131 (j) dX12_keepsMost_130 rfl t_62 (by decide) (rfl) (by omega) ?_
  refine mm_istore_5 133 dX12_keepsMost_131 rfl rfl ?_
  refine mm_iload_5 135 dX12_keepsMost_133 rfl ?_
  refine mm_iload_2 136 dX12_keepsMost_135 rfl ?_
  refine mm_if_ne 143 139 dX12_keepsMost_136 (by decide) rfl (fun h1 => ?_) (fun h1 => ?_)
  · have j0 : ¬ j = 0 := fun q => h1 (mm_ii (by rw [hl, lf_z hi hf q]; rfl))
    have wbe : (zC A j).wb = (M 62 (j - 1)).toInt := by
      show (if j = 0 then 0 else (zE A 62 (j - 1)).toInt) = _
      rw [if_neg j0, hw.1 (j - 1) (by omega)]
    have jm : nI j - 1 = nI (j - 1) := mm_ii (by rw [nI_sb (by omega), mm_ti (by omega)]; omega)
    refine mm_iload_2 144 dX12_keepsMost_143 rfl ?_
    refine mm_aload_0 145 dX12_keepsMost_144 rfl ?_
    refine mm_getR 148 dX12_keepsMost_145 f_X12_40 rfl t_51 rfl ?_
    refine mm_iload_1 149 dX12_keepsMost_148 rfl ?_
    refine mm_iconst 150 1 dX12_keepsMost_149 rfl (by decide) ?_
    refine mm_isub 151 dX12_keepsMost_150 rfl ?_
    refine mm_ialoadn 152 (j - 1) dX12_keepsMost_151 rfl t_62 (by decide) (jm) (by omega) ?_
    refine mm_ic_ge 159 155 dX12_keepsMost_152 (by decide) rfl (fun h2 => ?_) (fun h2 => ?_)
    · refine mm_aload_0 160 dX12_keepsMost_159 rfl ?_
      refine mm_getR 163 dX12_keepsMost_160 f_X12_40 rfl t_51 rfl ?_
      refine mm_iload_1 164 dX12_keepsMost_163 rfl ?_
      refine mm_iconst 165 1 dX12_keepsMost_164 rfl (by decide) ?_
      refine mm_isub 166 dX12_keepsMost_165 rfl ?_
      refine mm_ialoadn 167 (j - 1) dX12_keepsMost_166 rfl t_62 (by decide) (jm) (by omega) ?_
      have v1 : (M 62 (j - 1) : Int32).toInt = mi (sm (lf (zC A j) f) 12) (zC A j).wb := by
        rw [← hl]
        have q := h2
        rw [mm_le] at q
        rw [wbe]
        unfold mi
        split <;> omega
      refine mm_iadd 168 dX12_keepsMost_167 rfl ?_
      refine mm_istore_5 170 dX12_keepsMost_168 rfl rfl ?_
      refine mm_iload_5 172 dX12_keepsMost_170 rfl ?_
      refine mm_iload_3 173 dX12_keepsMost_172 rfl ?_
      refine mm_if_ne 180 176 dX12_keepsMost_173 (by decide) rfl (fun h3 => ?_) (fun h3 => ?_)
      · have j1 : j + 1 < a_nl A := Classical.byContradiction (fun q => h3 (mm_ii (by rw [hr, rf_z hi hf q hj]; rfl)))
        have wae : (zC A j).wa = (M 62 (j + 1)).toInt := by
          show (if j + 1 < a_nl A then (zE A 62 (j + 1)).toInt else 0) = _
          rw [if_pos j1, hw.1 (j + 1) j1]
        refine mm_iload_3 181 dX12_keepsMost_180 rfl ?_
        refine mm_aload_0 182 dX12_keepsMost_181 rfl ?_
        refine mm_getR 185 dX12_keepsMost_182 f_X12_40 rfl t_51 rfl ?_
        refine mm_iload_1 186 dX12_keepsMost_185 rfl ?_
        refine mm_iconst 187 1 dX12_keepsMost_186 rfl (by decide) ?_
        refine mm_iadd 188 dX12_keepsMost_187 rfl ?_
        refine mm_ialoadn 189 (j + 1) dX12_keepsMost_188 rfl t_62 (by decide) (nI_1 j) (by omega) ?_
        refine mm_ic_ge 196 192 dX12_keepsMost_189 (by decide) rfl (fun h4 => ?_) (fun h4 => ?_)
        · refine mm_aload_0 197 dX12_keepsMost_196 rfl ?_
          refine mm_getR 200 dX12_keepsMost_197 f_X12_40 rfl t_51 rfl ?_
          refine mm_iload_1 201 dX12_keepsMost_200 rfl ?_
          refine mm_iconst 202 1 dX12_keepsMost_201 rfl (by decide) ?_
          refine mm_iadd 203 dX12_keepsMost_202 rfl ?_
          refine mm_ialoadn 204 (j + 1) dX12_keepsMost_203 rfl t_62 (by decide) (nI_1 j) (by omega) ?_
          have v2 : (M 62 (j + 1) : Int32).toInt = mi (sm (rf (zC A j) f) 12) (zC A j).wa := by
            rw [← hr]
            have q := h4
            rw [mm_le] at q
            rw [wae]
            unfold mi
            split <;> omega
          refine mm_iadd 205 dX12_keepsMost_204 rfl ?_
          refine mm_istore_5 207 dX12_keepsMost_205 rfl rfl ?_
          have vv : (M 62 j + M 62 (j - 1) + M 62 (j + 1)).toInt = vl (zC A j) f := by
            have s1 := mm_add (a := M 62 j) (b := M 62 (j - 1)) (by omega)
            have s2 := mm_add (a := M 62 j + M 62 (j - 1)) (b := M 62 (j + 1)) (by omega)
            unfold vl
            omega
          refine mm_aload_0 208 dX12_keepsMost_207 rfl ?_
          refine mm_getR 211 dX12_keepsMost_208 f_X12_67 rfl t_51 rfl ?_
          refine mm_iload_4 213 dX12_keepsMost_211 rfl ?_
          refine mm_iload_5 215 dX12_keepsMost_213 rfl ?_
          refine mm_aload_0 216 dX12_keepsMost_215 rfl ?_
          refine mm_getR 219 dX12_keepsMost_216 f_X12_67 rfl t_51 rfl ?_
          refine mm_iload_4 221 dX12_keepsMost_219 rfl ?_
          refine mm_ialoadn 222 (sz f) dX12_keepsMost_221 rfl t_71 (by decide) (rfl) (by omega) ?_
          refine mm_ic_le 230 225 dX12_keepsMost_222 (by decide) rfl (fun h5 => ?_) (fun h5 => ?_)
          · refine mm_aload_0 231 dX12_keepsMost_230 rfl ?_
            refine mm_getR 234 dX12_keepsMost_231 f_X12_67 rfl t_51 rfl ?_
            refine mm_iload_4 236 dX12_keepsMost_234 rfl ?_
            refine mm_ialoadn 237 (sz f) dX12_keepsMost_236 rfl t_71 (by decide) (rfl) (by omega) ?_
            refine mm_iastoren 238 (sz f) dX12_keepsMost_237 rfl t_71 (by decide) (rfl) (by omega) ?_
            refine mm_vret dX12_keepsMost_238 rfl ⟨rfl, Nat.zero_le _⟩ ?_
            have q := h5
            rw [mm_le] at q
            refine h _ (fun c hc => mm_upn _ _ _ hc) (fun i hi2 => ?_)
            unfold wm
            rw [mm_upc]
            by_cases z : i = sz f
            · subst z
              simp only [upd, if_true]
              rw [vv] at q
              split
              · rename_i z2; omega
              · rfl
            · simp only [upd, if_neg z]
              rw [if_neg (fun y => z y.1)]
          · refine mm_iload_5 227 dX12_keepsMost_225 rfl ?_
            refine mm_goto 237 dX12_keepsMost_227 (by decide) ?_
            refine mm_iastoren 238 (sz f) dX12_keepsMost_237 rfl t_71 (by decide) (rfl) (by omega) ?_
            refine mm_vret dX12_keepsMost_238 rfl ⟨rfl, Nat.zero_le _⟩ ?_
            have q := h5
            rw [mm_le] at q
            refine h _ (fun c hc => mm_upn _ _ _ hc) (fun i hi2 => ?_)
            unfold wm
            rw [mm_upc]
            by_cases z : i = sz f
            · subst z
              simp only [upd, if_true]
              rw [vv] at q
              rw [vv, if_pos ⟨trivial, by omega⟩]
            · simp only [upd, if_neg z]
              rw [if_neg (fun y => z y.1)]
        · refine mm_iload_3 193 dX12_keepsMost_192 rfl ?_
          refine mm_goto 204 dX12_keepsMost_193 (by decide) ?_
          have v2 : (ri : Int32).toInt = mi (sm (rf (zC A j) f) 12) (zC A j).wa := by
            rw [← hr]
            have q := h4
            rw [mm_le] at q
            rw [wae]
            unfold mi
            rw [if_pos (by omega)]
          refine mm_iadd 205 dX12_keepsMost_204 rfl ?_
          refine mm_istore_5 207 dX12_keepsMost_205 rfl rfl ?_
          have vv : (M 62 j + M 62 (j - 1) + ri).toInt = vl (zC A j) f := by
            have s1 := mm_add (a := M 62 j) (b := M 62 (j - 1)) (by omega)
            have s2 := mm_add (a := M 62 j + M 62 (j - 1)) (b := ri) (by omega)
            unfold vl
            omega
          refine mm_aload_0 208 dX12_keepsMost_207 rfl ?_
          refine mm_getR 211 dX12_keepsMost_208 f_X12_67 rfl t_51 rfl ?_
          refine mm_iload_4 213 dX12_keepsMost_211 rfl ?_
          refine mm_iload_5 215 dX12_keepsMost_213 rfl ?_
          refine mm_aload_0 216 dX12_keepsMost_215 rfl ?_
          refine mm_getR 219 dX12_keepsMost_216 f_X12_67 rfl t_51 rfl ?_
          refine mm_iload_4 221 dX12_keepsMost_219 rfl ?_
          refine mm_ialoadn 222 (sz f) dX12_keepsMost_221 rfl t_71 (by decide) (rfl) (by omega) ?_
          refine mm_ic_le 230 225 dX12_keepsMost_222 (by decide) rfl (fun h6 => ?_) (fun h6 => ?_)
          · refine mm_aload_0 231 dX12_keepsMost_230 rfl ?_
            refine mm_getR 234 dX12_keepsMost_231 f_X12_67 rfl t_51 rfl ?_
            refine mm_iload_4 236 dX12_keepsMost_234 rfl ?_
            refine mm_ialoadn 237 (sz f) dX12_keepsMost_236 rfl t_71 (by decide) (rfl) (by omega) ?_
            refine mm_iastoren 238 (sz f) dX12_keepsMost_237 rfl t_71 (by decide) (rfl) (by omega) ?_
            refine mm_vret dX12_keepsMost_238 rfl ⟨rfl, Nat.zero_le _⟩ ?_
            have q := h6
            rw [mm_le] at q
            refine h _ (fun c hc => mm_upn _ _ _ hc) (fun i hi2 => ?_)
            unfold wm
            rw [mm_upc]
            by_cases z : i = sz f
            · subst z
              simp only [upd, if_true]
              rw [vv] at q
              split
              · rename_i z2; omega
              · rfl
            · simp only [upd, if_neg z]
              rw [if_neg (fun y => z y.1)]
          · refine mm_iload_5 227 dX12_keepsMost_225 rfl ?_
            refine mm_goto 237 dX12_keepsMost_227 (by decide) ?_
            refine mm_iastoren 238 (sz f) dX12_keepsMost_237 rfl t_71 (by decide) (rfl) (by omega) ?_
            refine mm_vret dX12_keepsMost_238 rfl ⟨rfl, Nat.zero_le _⟩ ?_
            have q := h6
            rw [mm_le] at q
            refine h _ (fun c hc => mm_upn _ _ _ hc) (fun i hi2 => ?_)
            unfold wm
            rw [mm_upc]
            by_cases z : i = sz f
            · subst z
              simp only [upd, if_true]
              rw [vv] at q
              rw [vv, if_pos ⟨trivial, by omega⟩]
            · simp only [upd, if_neg z]
              rw [if_neg (fun y => z y.1)]
      · refine mm_iconst 177 0 dX12_keepsMost_176 rfl (by decide) ?_
        refine mm_goto 204 dX12_keepsMost_177 (by decide) ?_
        have v2 : (0 : Int32).toInt = mi (sm (rf (zC A j) f) 12) (zC A j).wa := by
          rw [← hr]
          rw [h3]
          exact (mi_0 okC.2.2.2.2.1).symm
        refine mm_iadd 205 dX12_keepsMost_204 rfl ?_
        refine mm_istore_5 207 dX12_keepsMost_205 rfl rfl ?_
        have vv : (M 62 j + M 62 (j - 1) + 0).toInt = vl (zC A j) f := by
          have s1 := mm_add (a := M 62 j) (b := M 62 (j - 1)) (by omega)
          have s2 := mm_add (a := M 62 j + M 62 (j - 1)) (b := 0) (by omega)
          unfold vl
          omega
        refine mm_aload_0 208 dX12_keepsMost_207 rfl ?_
        refine mm_getR 211 dX12_keepsMost_208 f_X12_67 rfl t_51 rfl ?_
        refine mm_iload_4 213 dX12_keepsMost_211 rfl ?_
        refine mm_iload_5 215 dX12_keepsMost_213 rfl ?_
        refine mm_aload_0 216 dX12_keepsMost_215 rfl ?_
        refine mm_getR 219 dX12_keepsMost_216 f_X12_67 rfl t_51 rfl ?_
        refine mm_iload_4 221 dX12_keepsMost_219 rfl ?_
        refine mm_ialoadn 222 (sz f) dX12_keepsMost_221 rfl t_71 (by decide) (rfl) (by omega) ?_
        refine mm_ic_le 230 225 dX12_keepsMost_222 (by decide) rfl (fun h7 => ?_) (fun h7 => ?_)
        · refine mm_aload_0 231 dX12_keepsMost_230 rfl ?_
          refine mm_getR 234 dX12_keepsMost_231 f_X12_67 rfl t_51 rfl ?_
          refine mm_iload_4 236 dX12_keepsMost_234 rfl ?_
          refine mm_ialoadn 237 (sz f) dX12_keepsMost_236 rfl t_71 (by decide) (rfl) (by omega) ?_
          refine mm_iastoren 238 (sz f) dX12_keepsMost_237 rfl t_71 (by decide) (rfl) (by omega) ?_
          refine mm_vret dX12_keepsMost_238 rfl ⟨rfl, Nat.zero_le _⟩ ?_
          have q := h7
          rw [mm_le] at q
          refine h _ (fun c hc => mm_upn _ _ _ hc) (fun i hi2 => ?_)
          unfold wm
          rw [mm_upc]
          by_cases z : i = sz f
          · subst z
            simp only [upd, if_true]
            rw [vv] at q
            split
            · rename_i z2; omega
            · rfl
          · simp only [upd, if_neg z]
            rw [if_neg (fun y => z y.1)]
        · refine mm_iload_5 227 dX12_keepsMost_225 rfl ?_
          refine mm_goto 237 dX12_keepsMost_227 (by decide) ?_
          refine mm_iastoren 238 (sz f) dX12_keepsMost_237 rfl t_71 (by decide) (rfl) (by omega) ?_
          refine mm_vret dX12_keepsMost_238 rfl ⟨rfl, Nat.zero_le _⟩ ?_
          have q := h7
          rw [mm_le] at q
          refine h _ (fun c hc => mm_upn _ _ _ hc) (fun i hi2 => ?_)
          unfold wm
          rw [mm_upc]
          by_cases z : i = sz f
          · subst z
            simp only [upd, if_true]
            rw [vv] at q
            rw [vv, if_pos ⟨trivial, by omega⟩]
          · simp only [upd, if_neg z]
            rw [if_neg (fun y => z y.1)]
    · refine mm_iload_2 156 dX12_keepsMost_155 rfl ?_
      refine mm_goto 167 dX12_keepsMost_156 (by decide) ?_
      have v1 : (le : Int32).toInt = mi (sm (lf (zC A j) f) 12) (zC A j).wb := by
        rw [← hl]
        have q := h2
        rw [mm_le] at q
        rw [wbe]
        unfold mi
        rw [if_pos (by omega)]
      refine mm_iadd 168 dX12_keepsMost_167 rfl ?_
      refine mm_istore_5 170 dX12_keepsMost_168 rfl rfl ?_
      refine mm_iload_5 172 dX12_keepsMost_170 rfl ?_
      refine mm_iload_3 173 dX12_keepsMost_172 rfl ?_
      refine mm_if_ne 180 176 dX12_keepsMost_173 (by decide) rfl (fun h8 => ?_) (fun h8 => ?_)
      · have j1 : j + 1 < a_nl A := Classical.byContradiction (fun q => h8 (mm_ii (by rw [hr, rf_z hi hf q hj]; rfl)))
        have wae : (zC A j).wa = (M 62 (j + 1)).toInt := by
          show (if j + 1 < a_nl A then (zE A 62 (j + 1)).toInt else 0) = _
          rw [if_pos j1, hw.1 (j + 1) j1]
        refine mm_iload_3 181 dX12_keepsMost_180 rfl ?_
        refine mm_aload_0 182 dX12_keepsMost_181 rfl ?_
        refine mm_getR 185 dX12_keepsMost_182 f_X12_40 rfl t_51 rfl ?_
        refine mm_iload_1 186 dX12_keepsMost_185 rfl ?_
        refine mm_iconst 187 1 dX12_keepsMost_186 rfl (by decide) ?_
        refine mm_iadd 188 dX12_keepsMost_187 rfl ?_
        refine mm_ialoadn 189 (j + 1) dX12_keepsMost_188 rfl t_62 (by decide) (nI_1 j) (by omega) ?_
        refine mm_ic_ge 196 192 dX12_keepsMost_189 (by decide) rfl (fun h9 => ?_) (fun h9 => ?_)
        · refine mm_aload_0 197 dX12_keepsMost_196 rfl ?_
          refine mm_getR 200 dX12_keepsMost_197 f_X12_40 rfl t_51 rfl ?_
          refine mm_iload_1 201 dX12_keepsMost_200 rfl ?_
          refine mm_iconst 202 1 dX12_keepsMost_201 rfl (by decide) ?_
          refine mm_iadd 203 dX12_keepsMost_202 rfl ?_
          refine mm_ialoadn 204 (j + 1) dX12_keepsMost_203 rfl t_62 (by decide) (nI_1 j) (by omega) ?_
          have v2 : (M 62 (j + 1) : Int32).toInt = mi (sm (rf (zC A j) f) 12) (zC A j).wa := by
            rw [← hr]
            have q := h9
            rw [mm_le] at q
            rw [wae]
            unfold mi
            split <;> omega
          refine mm_iadd 205 dX12_keepsMost_204 rfl ?_
          refine mm_istore_5 207 dX12_keepsMost_205 rfl rfl ?_
          have vv : (M 62 j + le + M 62 (j + 1)).toInt = vl (zC A j) f := by
            have s1 := mm_add (a := M 62 j) (b := le) (by omega)
            have s2 := mm_add (a := M 62 j + le) (b := M 62 (j + 1)) (by omega)
            unfold vl
            omega
          refine mm_aload_0 208 dX12_keepsMost_207 rfl ?_
          refine mm_getR 211 dX12_keepsMost_208 f_X12_67 rfl t_51 rfl ?_
          refine mm_iload_4 213 dX12_keepsMost_211 rfl ?_
          refine mm_iload_5 215 dX12_keepsMost_213 rfl ?_
          refine mm_aload_0 216 dX12_keepsMost_215 rfl ?_
          refine mm_getR 219 dX12_keepsMost_216 f_X12_67 rfl t_51 rfl ?_
          refine mm_iload_4 221 dX12_keepsMost_219 rfl ?_
          refine mm_ialoadn 222 (sz f) dX12_keepsMost_221 rfl t_71 (by decide) (rfl) (by omega) ?_
          refine mm_ic_le 230 225 dX12_keepsMost_222 (by decide) rfl (fun h10 => ?_) (fun h10 => ?_)
          · refine mm_aload_0 231 dX12_keepsMost_230 rfl ?_
            refine mm_getR 234 dX12_keepsMost_231 f_X12_67 rfl t_51 rfl ?_
            refine mm_iload_4 236 dX12_keepsMost_234 rfl ?_
            refine mm_ialoadn 237 (sz f) dX12_keepsMost_236 rfl t_71 (by decide) (rfl) (by omega) ?_
            refine mm_iastoren 238 (sz f) dX12_keepsMost_237 rfl t_71 (by decide) (rfl) (by omega) ?_
            refine mm_vret dX12_keepsMost_238 rfl ⟨rfl, Nat.zero_le _⟩ ?_
            have q := h10
            rw [mm_le] at q
            refine h _ (fun c hc => mm_upn _ _ _ hc) (fun i hi2 => ?_)
            unfold wm
            rw [mm_upc]
            by_cases z : i = sz f
            · subst z
              simp only [upd, if_true]
              rw [vv] at q
              split
              · rename_i z2; omega
              · rfl
            · simp only [upd, if_neg z]
              rw [if_neg (fun y => z y.1)]
          · refine mm_iload_5 227 dX12_keepsMost_225 rfl ?_
            refine mm_goto 237 dX12_keepsMost_227 (by decide) ?_
            refine mm_iastoren 238 (sz f) dX12_keepsMost_237 rfl t_71 (by decide) (rfl) (by omega) ?_
            refine mm_vret dX12_keepsMost_238 rfl ⟨rfl, Nat.zero_le _⟩ ?_
            have q := h10
            rw [mm_le] at q
            refine h _ (fun c hc => mm_upn _ _ _ hc) (fun i hi2 => ?_)
            unfold wm
            rw [mm_upc]
            by_cases z : i = sz f
            · subst z
              simp only [upd, if_true]
              rw [vv] at q
              rw [vv, if_pos ⟨trivial, by omega⟩]
            · simp only [upd, if_neg z]
              rw [if_neg (fun y => z y.1)]
        · refine mm_iload_3 193 dX12_keepsMost_192 rfl ?_
          refine mm_goto 204 dX12_keepsMost_193 (by decide) ?_
          have v2 : (ri : Int32).toInt = mi (sm (rf (zC A j) f) 12) (zC A j).wa := by
            rw [← hr]
            have q := h9
            rw [mm_le] at q
            rw [wae]
            unfold mi
            rw [if_pos (by omega)]
          refine mm_iadd 205 dX12_keepsMost_204 rfl ?_
          refine mm_istore_5 207 dX12_keepsMost_205 rfl rfl ?_
          have vv : (M 62 j + le + ri).toInt = vl (zC A j) f := by
            have s1 := mm_add (a := M 62 j) (b := le) (by omega)
            have s2 := mm_add (a := M 62 j + le) (b := ri) (by omega)
            unfold vl
            omega
          refine mm_aload_0 208 dX12_keepsMost_207 rfl ?_
          refine mm_getR 211 dX12_keepsMost_208 f_X12_67 rfl t_51 rfl ?_
          refine mm_iload_4 213 dX12_keepsMost_211 rfl ?_
          refine mm_iload_5 215 dX12_keepsMost_213 rfl ?_
          refine mm_aload_0 216 dX12_keepsMost_215 rfl ?_
          refine mm_getR 219 dX12_keepsMost_216 f_X12_67 rfl t_51 rfl ?_
          refine mm_iload_4 221 dX12_keepsMost_219 rfl ?_
          refine mm_ialoadn 222 (sz f) dX12_keepsMost_221 rfl t_71 (by decide) (rfl) (by omega) ?_
          refine mm_ic_le 230 225 dX12_keepsMost_222 (by decide) rfl (fun h11 => ?_) (fun h11 => ?_)
          · refine mm_aload_0 231 dX12_keepsMost_230 rfl ?_
            refine mm_getR 234 dX12_keepsMost_231 f_X12_67 rfl t_51 rfl ?_
            refine mm_iload_4 236 dX12_keepsMost_234 rfl ?_
            refine mm_ialoadn 237 (sz f) dX12_keepsMost_236 rfl t_71 (by decide) (rfl) (by omega) ?_
            refine mm_iastoren 238 (sz f) dX12_keepsMost_237 rfl t_71 (by decide) (rfl) (by omega) ?_
            refine mm_vret dX12_keepsMost_238 rfl ⟨rfl, Nat.zero_le _⟩ ?_
            have q := h11
            rw [mm_le] at q
            refine h _ (fun c hc => mm_upn _ _ _ hc) (fun i hi2 => ?_)
            unfold wm
            rw [mm_upc]
            by_cases z : i = sz f
            · subst z
              simp only [upd, if_true]
              rw [vv] at q
              split
              · rename_i z2; omega
              · rfl
            · simp only [upd, if_neg z]
              rw [if_neg (fun y => z y.1)]
          · refine mm_iload_5 227 dX12_keepsMost_225 rfl ?_
            refine mm_goto 237 dX12_keepsMost_227 (by decide) ?_
            refine mm_iastoren 238 (sz f) dX12_keepsMost_237 rfl t_71 (by decide) (rfl) (by omega) ?_
            refine mm_vret dX12_keepsMost_238 rfl ⟨rfl, Nat.zero_le _⟩ ?_
            have q := h11
            rw [mm_le] at q
            refine h _ (fun c hc => mm_upn _ _ _ hc) (fun i hi2 => ?_)
            unfold wm
            rw [mm_upc]
            by_cases z : i = sz f
            · subst z
              simp only [upd, if_true]
              rw [vv] at q
              rw [vv, if_pos ⟨trivial, by omega⟩]
            · simp only [upd, if_neg z]
              rw [if_neg (fun y => z y.1)]
      · refine mm_iconst 177 0 dX12_keepsMost_176 rfl (by decide) ?_
        refine mm_goto 204 dX12_keepsMost_177 (by decide) ?_
        have v2 : (0 : Int32).toInt = mi (sm (rf (zC A j) f) 12) (zC A j).wa := by
          rw [← hr]
          rw [h8]
          exact (mi_0 okC.2.2.2.2.1).symm
        refine mm_iadd 205 dX12_keepsMost_204 rfl ?_
        refine mm_istore_5 207 dX12_keepsMost_205 rfl rfl ?_
        have vv : (M 62 j + le + 0).toInt = vl (zC A j) f := by
          have s1 := mm_add (a := M 62 j) (b := le) (by omega)
          have s2 := mm_add (a := M 62 j + le) (b := 0) (by omega)
          unfold vl
          omega
        refine mm_aload_0 208 dX12_keepsMost_207 rfl ?_
        refine mm_getR 211 dX12_keepsMost_208 f_X12_67 rfl t_51 rfl ?_
        refine mm_iload_4 213 dX12_keepsMost_211 rfl ?_
        refine mm_iload_5 215 dX12_keepsMost_213 rfl ?_
        refine mm_aload_0 216 dX12_keepsMost_215 rfl ?_
        refine mm_getR 219 dX12_keepsMost_216 f_X12_67 rfl t_51 rfl ?_
        refine mm_iload_4 221 dX12_keepsMost_219 rfl ?_
        refine mm_ialoadn 222 (sz f) dX12_keepsMost_221 rfl t_71 (by decide) (rfl) (by omega) ?_
        refine mm_ic_le 230 225 dX12_keepsMost_222 (by decide) rfl (fun h12 => ?_) (fun h12 => ?_)
        · refine mm_aload_0 231 dX12_keepsMost_230 rfl ?_
          refine mm_getR 234 dX12_keepsMost_231 f_X12_67 rfl t_51 rfl ?_
          refine mm_iload_4 236 dX12_keepsMost_234 rfl ?_
          refine mm_ialoadn 237 (sz f) dX12_keepsMost_236 rfl t_71 (by decide) (rfl) (by omega) ?_
          refine mm_iastoren 238 (sz f) dX12_keepsMost_237 rfl t_71 (by decide) (rfl) (by omega) ?_
          refine mm_vret dX12_keepsMost_238 rfl ⟨rfl, Nat.zero_le _⟩ ?_
          have q := h12
          rw [mm_le] at q
          refine h _ (fun c hc => mm_upn _ _ _ hc) (fun i hi2 => ?_)
          unfold wm
          rw [mm_upc]
          by_cases z : i = sz f
          · subst z
            simp only [upd, if_true]
            rw [vv] at q
            split
            · rename_i z2; omega
            · rfl
          · simp only [upd, if_neg z]
            rw [if_neg (fun y => z y.1)]
        · refine mm_iload_5 227 dX12_keepsMost_225 rfl ?_
          refine mm_goto 237 dX12_keepsMost_227 (by decide) ?_
          refine mm_iastoren 238 (sz f) dX12_keepsMost_237 rfl t_71 (by decide) (rfl) (by omega) ?_
          refine mm_vret dX12_keepsMost_238 rfl ⟨rfl, Nat.zero_le _⟩ ?_
          have q := h12
          rw [mm_le] at q
          refine h _ (fun c hc => mm_upn _ _ _ hc) (fun i hi2 => ?_)
          unfold wm
          rw [mm_upc]
          by_cases z : i = sz f
          · subst z
            simp only [upd, if_true]
            rw [vv] at q
            rw [vv, if_pos ⟨trivial, by omega⟩]
          · simp only [upd, if_neg z]
            rw [if_neg (fun y => z y.1)]
  · refine mm_iconst 140 0 dX12_keepsMost_139 rfl (by decide) ?_
    refine mm_goto 167 dX12_keepsMost_140 (by decide) ?_
    have v1 : (0 : Int32).toInt = mi (sm (lf (zC A j) f) 12) (zC A j).wb := by
      rw [← hl]
      rw [h1]
      exact (mi_0 okC.2.2.2.1.1).symm
    refine mm_iadd 168 dX12_keepsMost_167 rfl ?_
    refine mm_istore_5 170 dX12_keepsMost_168 rfl rfl ?_
    refine mm_iload_5 172 dX12_keepsMost_170 rfl ?_
    refine mm_iload_3 173 dX12_keepsMost_172 rfl ?_
    refine mm_if_ne 180 176 dX12_keepsMost_173 (by decide) rfl (fun h13 => ?_) (fun h13 => ?_)
    · have j1 : j + 1 < a_nl A := Classical.byContradiction (fun q => h13 (mm_ii (by rw [hr, rf_z hi hf q hj]; rfl)))
      have wae : (zC A j).wa = (M 62 (j + 1)).toInt := by
        show (if j + 1 < a_nl A then (zE A 62 (j + 1)).toInt else 0) = _
        rw [if_pos j1, hw.1 (j + 1) j1]
      refine mm_iload_3 181 dX12_keepsMost_180 rfl ?_
      refine mm_aload_0 182 dX12_keepsMost_181 rfl ?_
      refine mm_getR 185 dX12_keepsMost_182 f_X12_40 rfl t_51 rfl ?_
      refine mm_iload_1 186 dX12_keepsMost_185 rfl ?_
      refine mm_iconst 187 1 dX12_keepsMost_186 rfl (by decide) ?_
      refine mm_iadd 188 dX12_keepsMost_187 rfl ?_
      refine mm_ialoadn 189 (j + 1) dX12_keepsMost_188 rfl t_62 (by decide) (nI_1 j) (by omega) ?_
      refine mm_ic_ge 196 192 dX12_keepsMost_189 (by decide) rfl (fun h14 => ?_) (fun h14 => ?_)
      · refine mm_aload_0 197 dX12_keepsMost_196 rfl ?_
        refine mm_getR 200 dX12_keepsMost_197 f_X12_40 rfl t_51 rfl ?_
        refine mm_iload_1 201 dX12_keepsMost_200 rfl ?_
        refine mm_iconst 202 1 dX12_keepsMost_201 rfl (by decide) ?_
        refine mm_iadd 203 dX12_keepsMost_202 rfl ?_
        refine mm_ialoadn 204 (j + 1) dX12_keepsMost_203 rfl t_62 (by decide) (nI_1 j) (by omega) ?_
        have v2 : (M 62 (j + 1) : Int32).toInt = mi (sm (rf (zC A j) f) 12) (zC A j).wa := by
          rw [← hr]
          have q := h14
          rw [mm_le] at q
          rw [wae]
          unfold mi
          split <;> omega
        refine mm_iadd 205 dX12_keepsMost_204 rfl ?_
        refine mm_istore_5 207 dX12_keepsMost_205 rfl rfl ?_
        have vv : (M 62 j + 0 + M 62 (j + 1)).toInt = vl (zC A j) f := by
          have s1 := mm_add (a := M 62 j) (b := 0) (by omega)
          have s2 := mm_add (a := M 62 j + 0) (b := M 62 (j + 1)) (by omega)
          unfold vl
          omega
        refine mm_aload_0 208 dX12_keepsMost_207 rfl ?_
        refine mm_getR 211 dX12_keepsMost_208 f_X12_67 rfl t_51 rfl ?_
        refine mm_iload_4 213 dX12_keepsMost_211 rfl ?_
        refine mm_iload_5 215 dX12_keepsMost_213 rfl ?_
        refine mm_aload_0 216 dX12_keepsMost_215 rfl ?_
        refine mm_getR 219 dX12_keepsMost_216 f_X12_67 rfl t_51 rfl ?_
        refine mm_iload_4 221 dX12_keepsMost_219 rfl ?_
        refine mm_ialoadn 222 (sz f) dX12_keepsMost_221 rfl t_71 (by decide) (rfl) (by omega) ?_
        refine mm_ic_le 230 225 dX12_keepsMost_222 (by decide) rfl (fun h15 => ?_) (fun h15 => ?_)
        · refine mm_aload_0 231 dX12_keepsMost_230 rfl ?_
          refine mm_getR 234 dX12_keepsMost_231 f_X12_67 rfl t_51 rfl ?_
          refine mm_iload_4 236 dX12_keepsMost_234 rfl ?_
          refine mm_ialoadn 237 (sz f) dX12_keepsMost_236 rfl t_71 (by decide) (rfl) (by omega) ?_
          refine mm_iastoren 238 (sz f) dX12_keepsMost_237 rfl t_71 (by decide) (rfl) (by omega) ?_
          refine mm_vret dX12_keepsMost_238 rfl ⟨rfl, Nat.zero_le _⟩ ?_
          have q := h15
          rw [mm_le] at q
          refine h _ (fun c hc => mm_upn _ _ _ hc) (fun i hi2 => ?_)
          unfold wm
          rw [mm_upc]
          by_cases z : i = sz f
          · subst z
            simp only [upd, if_true]
            rw [vv] at q
            split
            · rename_i z2; omega
            · rfl
          · simp only [upd, if_neg z]
            rw [if_neg (fun y => z y.1)]
        · refine mm_iload_5 227 dX12_keepsMost_225 rfl ?_
          refine mm_goto 237 dX12_keepsMost_227 (by decide) ?_
          refine mm_iastoren 238 (sz f) dX12_keepsMost_237 rfl t_71 (by decide) (rfl) (by omega) ?_
          refine mm_vret dX12_keepsMost_238 rfl ⟨rfl, Nat.zero_le _⟩ ?_
          have q := h15
          rw [mm_le] at q
          refine h _ (fun c hc => mm_upn _ _ _ hc) (fun i hi2 => ?_)
          unfold wm
          rw [mm_upc]
          by_cases z : i = sz f
          · subst z
            simp only [upd, if_true]
            rw [vv] at q
            rw [vv, if_pos ⟨trivial, by omega⟩]
          · simp only [upd, if_neg z]
            rw [if_neg (fun y => z y.1)]
      · refine mm_iload_3 193 dX12_keepsMost_192 rfl ?_
        refine mm_goto 204 dX12_keepsMost_193 (by decide) ?_
        have v2 : (ri : Int32).toInt = mi (sm (rf (zC A j) f) 12) (zC A j).wa := by
          rw [← hr]
          have q := h14
          rw [mm_le] at q
          rw [wae]
          unfold mi
          rw [if_pos (by omega)]
        refine mm_iadd 205 dX12_keepsMost_204 rfl ?_
        refine mm_istore_5 207 dX12_keepsMost_205 rfl rfl ?_
        have vv : (M 62 j + 0 + ri).toInt = vl (zC A j) f := by
          have s1 := mm_add (a := M 62 j) (b := 0) (by omega)
          have s2 := mm_add (a := M 62 j + 0) (b := ri) (by omega)
          unfold vl
          omega
        refine mm_aload_0 208 dX12_keepsMost_207 rfl ?_
        refine mm_getR 211 dX12_keepsMost_208 f_X12_67 rfl t_51 rfl ?_
        refine mm_iload_4 213 dX12_keepsMost_211 rfl ?_
        refine mm_iload_5 215 dX12_keepsMost_213 rfl ?_
        refine mm_aload_0 216 dX12_keepsMost_215 rfl ?_
        refine mm_getR 219 dX12_keepsMost_216 f_X12_67 rfl t_51 rfl ?_
        refine mm_iload_4 221 dX12_keepsMost_219 rfl ?_
        refine mm_ialoadn 222 (sz f) dX12_keepsMost_221 rfl t_71 (by decide) (rfl) (by omega) ?_
        refine mm_ic_le 230 225 dX12_keepsMost_222 (by decide) rfl (fun h16 => ?_) (fun h16 => ?_)
        · refine mm_aload_0 231 dX12_keepsMost_230 rfl ?_
          refine mm_getR 234 dX12_keepsMost_231 f_X12_67 rfl t_51 rfl ?_
          refine mm_iload_4 236 dX12_keepsMost_234 rfl ?_
          refine mm_ialoadn 237 (sz f) dX12_keepsMost_236 rfl t_71 (by decide) (rfl) (by omega) ?_
          refine mm_iastoren 238 (sz f) dX12_keepsMost_237 rfl t_71 (by decide) (rfl) (by omega) ?_
          refine mm_vret dX12_keepsMost_238 rfl ⟨rfl, Nat.zero_le _⟩ ?_
          have q := h16
          rw [mm_le] at q
          refine h _ (fun c hc => mm_upn _ _ _ hc) (fun i hi2 => ?_)
          unfold wm
          rw [mm_upc]
          by_cases z : i = sz f
          · subst z
            simp only [upd, if_true]
            rw [vv] at q
            split
            · rename_i z2; omega
            · rfl
          · simp only [upd, if_neg z]
            rw [if_neg (fun y => z y.1)]
        · refine mm_iload_5 227 dX12_keepsMost_225 rfl ?_
          refine mm_goto 237 dX12_keepsMost_227 (by decide) ?_
          refine mm_iastoren 238 (sz f) dX12_keepsMost_237 rfl t_71 (by decide) (rfl) (by omega) ?_
          refine mm_vret dX12_keepsMost_238 rfl ⟨rfl, Nat.zero_le _⟩ ?_
          have q := h16
          rw [mm_le] at q
          refine h _ (fun c hc => mm_upn _ _ _ hc) (fun i hi2 => ?_)
          unfold wm
          rw [mm_upc]
          by_cases z : i = sz f
          · subst z
            simp only [upd, if_true]
            rw [vv] at q
            rw [vv, if_pos ⟨trivial, by omega⟩]
          · simp only [upd, if_neg z]
            rw [if_neg (fun y => z y.1)]
    · refine mm_iconst 177 0 dX12_keepsMost_176 rfl (by decide) ?_
      refine mm_goto 204 dX12_keepsMost_177 (by decide) ?_
      have v2 : (0 : Int32).toInt = mi (sm (rf (zC A j) f) 12) (zC A j).wa := by
        rw [← hr]
        rw [h13]
        exact (mi_0 okC.2.2.2.2.1).symm
      refine mm_iadd 205 dX12_keepsMost_204 rfl ?_
      refine mm_istore_5 207 dX12_keepsMost_205 rfl rfl ?_
      have vv : (M 62 j + 0 + 0).toInt = vl (zC A j) f := by
        have s1 := mm_add (a := M 62 j) (b := 0) (by omega)
        have s2 := mm_add (a := M 62 j + 0) (b := 0) (by omega)
        unfold vl
        omega
      refine mm_aload_0 208 dX12_keepsMost_207 rfl ?_
      refine mm_getR 211 dX12_keepsMost_208 f_X12_67 rfl t_51 rfl ?_
      refine mm_iload_4 213 dX12_keepsMost_211 rfl ?_
      refine mm_iload_5 215 dX12_keepsMost_213 rfl ?_
      refine mm_aload_0 216 dX12_keepsMost_215 rfl ?_
      refine mm_getR 219 dX12_keepsMost_216 f_X12_67 rfl t_51 rfl ?_
      refine mm_iload_4 221 dX12_keepsMost_219 rfl ?_
      refine mm_ialoadn 222 (sz f) dX12_keepsMost_221 rfl t_71 (by decide) (rfl) (by omega) ?_
      refine mm_ic_le 230 225 dX12_keepsMost_222 (by decide) rfl (fun h17 => ?_) (fun h17 => ?_)
      · refine mm_aload_0 231 dX12_keepsMost_230 rfl ?_
        refine mm_getR 234 dX12_keepsMost_231 f_X12_67 rfl t_51 rfl ?_
        refine mm_iload_4 236 dX12_keepsMost_234 rfl ?_
        refine mm_ialoadn 237 (sz f) dX12_keepsMost_236 rfl t_71 (by decide) (rfl) (by omega) ?_
        refine mm_iastoren 238 (sz f) dX12_keepsMost_237 rfl t_71 (by decide) (rfl) (by omega) ?_
        refine mm_vret dX12_keepsMost_238 rfl ⟨rfl, Nat.zero_le _⟩ ?_
        have q := h17
        rw [mm_le] at q
        refine h _ (fun c hc => mm_upn _ _ _ hc) (fun i hi2 => ?_)
        unfold wm
        rw [mm_upc]
        by_cases z : i = sz f
        · subst z
          simp only [upd, if_true]
          rw [vv] at q
          split
          · rename_i z2; omega
          · rfl
        · simp only [upd, if_neg z]
          rw [if_neg (fun y => z y.1)]
      · refine mm_iload_5 227 dX12_keepsMost_225 rfl ?_
        refine mm_goto 237 dX12_keepsMost_227 (by decide) ?_
        refine mm_iastoren 238 (sz f) dX12_keepsMost_237 rfl t_71 (by decide) (rfl) (by omega) ?_
        refine mm_vret dX12_keepsMost_238 rfl ⟨rfl, Nat.zero_le _⟩ ?_
        have q := h17
        rw [mm_le] at q
        refine h _ (fun c hc => mm_upn _ _ _ hc) (fun i hi2 => ?_)
        unfold wm
        rw [mm_upc]
        by_cases z : i = sz f
        · subst z
          simp only [upd, if_true]
          rw [vv] at q
          rw [vv, if_pos ⟨trivial, by omega⟩]
        · simp only [upd, if_neg z]
          rw [if_neg (fun y => z y.1)]

set_option maxHeartbeats 4000000 in
theorem c_X12_keepsMost {l : Launch} {G : mm_G} {d : Nat} {M : mm_M} {Q : mm_T → mm_M → Prop} {A : mm_M} (hi : iv A) (hx : r_x A M) (hw : e_w A M (zE A)) {j : Nat} (hj : j < a_nl A) (hN : M 51 26 = nI (cnt (io A j) 12)) (ho : ∀ p, io A j p = true → M 69 (cnt (io A j) p) = nI p) {f : Nat → Option Nat} (hf : ms (zC A j) f) (hp : ∀ p, io A j p = true → M 70 (cnt (io A j) p) = pe (f p)) {x : Int32} (hxj : x = nI j) (h : ∀ M1, (∀ c, c ≠ 71 → M1 c = M c) → (∀ i, i ≤ 12 → wm M1 i = if i = sz f ∧ wm M i ≤ vl (zC A j) f then vl (zC A j) f else wm M i) → Q T0 M1) : mm_met l G (d + 2) k_X12_keepsMost [.ref 51, .int x] T0 M (mm_pv Q) := by
  subst hxj
  refine mm_enter 5 [.ref 51, .int (nI j), .double 0, .double 0, .double 0, .double 0, .double 0] o_X12_keepsMost rfl rfl ?_
  refine mm_iconst 1 0 dX12_keepsMost_0 rfl (by decide) ?_
  refine mm_istore_2 2 dX12_keepsMost_1 rfl rfl ?_
  refine mm_iconst 3 0 dX12_keepsMost_2 rfl (by decide) ?_
  refine mm_istore_3 4 dX12_keepsMost_3 rfl rfl ?_
  refine mm_iconst 5 0 dX12_keepsMost_4 rfl (by decide) ?_
  refine mm_istore_4 7 dX12_keepsMost_5 rfl rfl ?_
  refine mm_iconst 8 0 dX12_keepsMost_7 rfl (by decide) ?_
  refine mm_istore_5 10 dX12_keepsMost_8 rfl rfl ?_
  exact w_X12_keeps1 hi hx hw hj hN ho hf hp (fun le ri x5 x6 e1 e2 => w_X12_keeps2 hi hw hj hf h e1 e2) (cnt (io A j) 12) 0 0 0 0 (by omega) (by omega) (fun p hp0 => by rw [sm_gap (lf_io hi hf) (p := p) (q := 0) hp0, sm_gap (rf_io hi hf) (p := p) (q := 0) hp0, cnt_gap (dm_io hi hf) (p := p) (q := 0) hp0]; exact ⟨rfl, rfl, rfl⟩)

