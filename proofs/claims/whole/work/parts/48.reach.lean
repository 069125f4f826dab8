/-! reach and grows of the class -/
noncomputable def z_reach (A : mm_M) (x w : Int32) : Int32 := if (0 ≤ x.toInt ∧ x.toInt < a_nl A) ∧ 0 ≤ w.toInt ∧ w.toInt ≤ 999 then Classical.epsilon (isR (zC A x.toNatClampNeg) w.toInt) else -2
noncomputable def z_grows (A : mm_M) (x k : Int32) : Int32 := if (0 ≤ x.toInt ∧ x.toInt < a_nl A) ∧ 0 ≤ k.toInt ∧ k.toInt ≤ 4 then Classical.epsilon (isG (zC A x.toNatClampNeg) k.toNatClampNeg) else -2
theorem isR_e {C : mcx} {w : Int} {r : Int32} (h : isR C w r) : r = Classical.epsilon (isR C w) := isR_u h (Classical.epsilon_spec ⟨r, h⟩)
theorem isG_e {C : mcx} {k : Nat} {r : Int32} (h : isG C k r) : r = Classical.epsilon (isG C k) := isG_u h (Classical.epsilon_spec ⟨r, h⟩)

set_option maxHeartbeats 4000000 in
theorem w_X1_fewest {l : Launch} {G : mm_G} {d : Nat} {M : mm_M} {Q : Int32 → mm_T → mm_M → Prop} {C : mcx} (hC : c_ok C) (sn : snd_ C 6 (wd M)) (al : ∀ g, ms C g → sz g ≤ 6 → cvd C (wd M) g) {x w : Int32} (hw : 0 ≤ w.toInt) (h : ∀ r, isR C w.toInt r → Q r T0 M) : ∀ (z i : Nat), 7 - i ≤ z → i ≤ 7 → (∀ t, t < i → ¬ w.toInt ≤ wd M t) → mm_wp l G (d + 10) k_X1_fewestFor (mm_pi Q) 9 [.ref 27, .int x, .int w, .int (nI i)] [] T0 M 0 0 := by
  intro z
  induction z using Nat.strongRecOn with | _ z ih => ?_
  intro i hze hen no
  have hei : (nI i).toInt = i := mm_ti (by omega)
  refine mm_iload_3 10 dX1_fewestFor_9 rfl ?_
  refine mm_bipush 12 6 dX1_fewestFor_10 rfl (by decide) ?_
  refine mm_ic_gt 33 15 dX1_fewestFor_12 (by decide) rfl (fun h1 => ?_) (fun h1 => ?_)
  · refine mm_iconst 34 (-1) dX1_fewestFor_33 rfl (by decide) ?_
    refine mm_iret dX1_fewestFor_34 rfl ⟨rfl, Nat.zero_le _⟩ ?_
    have hz : i = 7 := by (try simp only [hei, Int32.lt_iff_toInt_lt, Int32.le_iff_toInt_le, ← Int32.toInt_inj, vp_in_iff, Int32.reduceToInt, mm_t1, mm_t2, mm_t3, mm_t4, mm_t10] at h1); omega
    exact h _ (c_isRn hC al (fun t ht => no t (by omega)))
  · have hlt : i ≤ 6 := by (try simp only [hei, Int32.lt_iff_toInt_lt, Int32.le_iff_toInt_le, ← Int32.toInt_inj, vp_in_iff, Int32.reduceToInt, mm_t1, mm_t2, mm_t3, mm_t4, mm_t10] at h1); omega
    refine mm_aload_0 16 dX1_fewestFor_15 rfl ?_
    refine mm_getR 19 dX1_fewestFor_16 f_X1_18 rfl t_27 rfl ?_
    refine mm_iload_3 20 dX1_fewestFor_19 rfl ?_
    refine mm_ialoadn 21 (i) dX1_fewestFor_20 rfl t_30 (by decide) (rfl) (by omega) ?_
    refine mm_iload_2 22 dX1_fewestFor_21 rfl ?_
    refine mm_ic_lt 27 25 dX1_fewestFor_22 (by decide) rfl (fun h2 => ?_) (fun h2 => ?_)
    · refine mm_iinc_3 30 1 dX1_fewestFor_27 rfl (by decide) rfl ?_
      refine mm_goto 9 dX1_fewestFor_30 (by decide) ?_
      rw [nI_1]
      refine ih (7 - (i + 1)) (by omega) (i + 1) (Nat.le_refl _) (by omega) (fun t ht => ?_)
      by_cases q : t = i
      · subst q
        rw [mm_lt] at h2
        unfold wd
        omega
      · exact no t (by omega)
    · refine mm_iload_3 26 dX1_fewestFor_25 rfl ?_
      refine mm_iret dX1_fewestFor_26 rfl ⟨rfl, Nat.zero_le _⟩ ?_
      refine h _ (c_isR hC hw sn al hlt ?_ no)
      rw [mm_lt] at h2
      unfold wd
      omega

set_option maxHeartbeats 4000000 in
theorem c_X1_fewestFor {l : Launch} {G : mm_G} {d : Nat} {M : mm_M} {Q : Int32 → mm_T → mm_M → Prop} {A : mm_M} (hi : iv A) (hf : fr A M) {B : Nat} (hw : v_w M (zE A) (a_nl A) (a_np A) B) {j : Nat} (hj : j < a_nl A) {x w : Int32} (hx : x = nI j) (h0 : 0 ≤ w.toInt) (h : ∀ r M1, isR (zC A j) w.toInt r → kk M M1 → Q r T0 M1) : mm_met l G (d + 10) k_X1_fewestFor [.ref 27, .int x, .int w] T0 M (mm_pi Q) := by
  subst hx
  refine mm_enter 1 [.ref 27, .int (nI j), .int w, .double 0] o_X1_fewestFor rfl rfl ?_
  refine mm_aload_0 1 dX1_fewestFor_0 rfl ?_
  refine mm_iload_1 2 dX1_fewestFor_1 rfl ?_
  refine mm_bipush 4 6 dX1_fewestFor_2 rfl (by decide) ?_
  refine mm_cV2v 7 dX1_fewestFor_4 v_X1_50 rfl t_27 (by decide) rfl rfl (Nat.le_of_ble_eq_true rfl) ⟨rfl, rfl⟩ ⟨Nat.zero_le _, Nat.zero_le _⟩ (c_X1_search hi hf hw hj (by decide) rfl (k := 6) rfl (fun M1 s1 s2 s3 => ?_))
  refine mm_iconst 8 0 dX1_fewestFor_7 rfl (by decide) ?_
  refine mm_istore_3 9 dX1_fewestFor_8 rfl rfl ?_
  exact w_X1_fewest (zC_ok hi hj) s2 s3 h0 (fun r q => h r M1 q s1) 7 0 (by omega) (by omega) (fun t ht => by omega)

set_option maxHeartbeats 4000000 in
theorem w_X1_widest {l : Launch} {G : mm_G} {d : Nat} {M : mm_M} {Q : Int32 → mm_T → mm_M → Prop} {C : mcx} (hC : c_ok C) {k : Nat} (hk : k ≤ 6) (sn : snd_ C k (wd M)) (al : ∀ g, ms C g → sz g ≤ k → cvd C (wd M) g) {x m : Int32} (h : ∀ r, isG C k r → Q r T0 M) : ∀ (z i : Nat) (best : Int32) {x7 : Value}, 7 - i ≤ z → i ≤ 7 → (best.toInt = -1 ∨ ∃ t, t ≤ 6 ∧ best.toInt = wd M t) → (∀ t, t < i → wd M t ≤ best.toInt) → mm_wp l G (d + 10) k_X1_widestBy (mm_pi Q) 22 [.ref 27, .int x, .int m, .int best, .ref 30, .int (nI 7), .int (nI i), x7] [] T0 M 0 0 := by
  have h7i : (nI 7).toInt = 7 := by decide
  intro z
  induction z using Nat.strongRecOn with | _ z ih => ?_
  intro i best x7 hze hen b1 b2
  have hei : (nI i).toInt = i := mm_ti (by omega)
  refine mm_iload_6 24 dX1_widestBy_22 rfl ?_
  refine mm_iload_5 26 dX1_widestBy_24 rfl ?_
  refine mm_ic_ge 49 29 dX1_widestBy_26 (by decide) rfl (fun h1 => ?_) (fun h1 => ?_)
  · refine mm_iload_3 50 dX1_widestBy_49 rfl ?_
    refine mm_iret dX1_widestBy_50 rfl ⟨rfl, Nat.zero_le _⟩ ?_
    have hz : i = 7 := by (try simp only [hei, h7i, Int32.lt_iff_toInt_lt, Int32.le_iff_toInt_le, ← Int32.toInt_inj, vp_in_iff, Int32.reduceToInt, mm_t1, mm_t2, mm_t3, mm_t4, mm_t10] at h1); omega
    exact h _ (c_isG hC hk sn al b1 (fun t ht => b2 t (by omega)))
  · have hlt : i < 7 := by (try simp only [hei, h7i, Int32.lt_iff_toInt_lt, Int32.le_iff_toInt_le, ← Int32.toInt_inj, vp_in_iff, Int32.reduceToInt, mm_t1, mm_t2, mm_t3, mm_t4, mm_t10] at h1); omega
    refine mm_aload_4 31 dX1_widestBy_29 rfl ?_
    refine mm_iload_6 33 dX1_widestBy_31 rfl ?_
    refine mm_ialoadn 34 (i) dX1_widestBy_33 rfl t_30 (by decide) (rfl) (by omega) ?_
    refine mm_istore_7 36 dX1_widestBy_34 rfl rfl ?_
    refine mm_iload_3 37 dX1_widestBy_36 rfl ?_
    refine mm_iload_7 39 dX1_widestBy_37 rfl ?_
    refine mm_mmax 42 dX1_widestBy_39 j_X1_54 rfl (Nat.le_of_ble_eq_true rfl) ⟨Nat.zero_le _, Nat.zero_le _⟩ ?_
    refine mm_istore_3 43 dX1_widestBy_42 rfl rfl ?_
    refine mm_iinc_6 46 1 dX1_widestBy_43 rfl (by decide) rfl ?_
    refine mm_goto 22 dX1_widestBy_46 (by decide) ?_
    rw [nI_1]
    refine ih (7 - (i + 1)) (by omega) (i + 1) _ (Nat.le_refl _) (by omega) ?_ (fun t ht => ?_)
    · rw [mxi]
      split
      · exact Or.inr ⟨i, by omega, rfl⟩
      · exact b1
    · rw [mxi]
      by_cases q : t = i
      · subst q
        unfold wd
        split <;> omega
      · have := b2 t (by omega)
        split <;> omega

set_option maxHeartbeats 4000000 in
theorem c_X1_widestBy {l : Launch} {G : mm_G} {d : Nat} {M : mm_M} {Q : Int32 → mm_T → mm_M → Prop} {A : mm_M} (hi : iv A) (hf : fr A M) {B : Nat} (hw : v_w M (zE A) (a_nl A) (a_np A) B) {j : Nat} (hj : j < a_nl A) {x m : Int32} {k : Nat} (hx : x = nI j) (hm : m = nI k) (hk : k ≤ 6) (h : ∀ r M1, isG (zC A j) k r → kk M M1 → Q r T0 M1) : mm_met l G (d + 10) k_X1_widestBy [.ref 27, .int x, .int m] T0 M (mm_pi Q) := by
  subst hx
  subst hm
  refine mm_enter 5 [.ref 27, .int (nI j), .int (nI k), .double 0, .double 0, .double 0, .double 0, .double 0] o_X1_widestBy rfl rfl ?_
  refine mm_aload_0 1 dX1_widestBy_0 rfl ?_
  refine mm_iload_1 2 dX1_widestBy_1 rfl ?_
  refine mm_iload_2 3 dX1_widestBy_2 rfl ?_
  refine mm_cV2v 6 dX1_widestBy_3 v_X1_50 rfl t_27 (by decide) rfl rfl (Nat.le_of_ble_eq_true rfl) ⟨rfl, rfl⟩ ⟨Nat.zero_le _, Nat.zero_le _⟩ (c_X1_search hi hf hw hj hk rfl rfl (fun M1 s1 s2 s3 => ?_))
  refine mm_iconst 7 (-1) dX1_widestBy_6 rfl (by decide) ?_
  refine mm_istore_3 8 dX1_widestBy_7 rfl rfl ?_
  refine mm_aload_0 9 dX1_widestBy_8 rfl ?_
  refine mm_getR 12 dX1_widestBy_9 f_X1_18 rfl t_27 rfl ?_
  refine mm_astore_4 14 dX1_widestBy_12 rfl rfl ?_
  refine mm_aload_4 16 dX1_widestBy_14 rfl ?_
  refine mm_alenI 17 dX1_widestBy_16 rfl t_30 ?_
  refine mm_istore_5 19 dX1_widestBy_17 rfl rfl ?_
  refine mm_iconst 20 0 dX1_widestBy_19 rfl (by decide) ?_
  refine mm_istore_6 22 dX1_widestBy_20 rfl rfl ?_
  exact w_X1_widest (zC_ok hi hj) hk s2 s3 (fun r q => h r M1 q s1) 7 0 (-1) (by omega) (by omega) (Or.inl (by decide)) (fun t ht => by omega)

set_option maxHeartbeats 4000000 in
theorem c_X11_reach {l : Launch} {G : mm_G} {d : Nat} {M : mm_M} {Q : Int32 → mm_T → mm_M → Prop} {A : mm_M} (hi : iv A) (hf : fr A M) {x w : Int32} (h : ∀ r M1, r = z_reach A x w → fr A M1 → Q r T0 M1) : mm_met l G (d + 11) k_X11_reach [.ref 0, .int x, .int w] T0 M (mm_pi Q) := by
  have n6 := hi.1.nl
  have n12 := hi.1.np
  have n24 := hi.1.ne.2
  have hd := hf.vd hi
  have k5 := hd.1.li
  have k7 := hd.1.pi
  have k14 := hd.1.ei
  refine mm_enter 0 [.ref 0, .int x, .int w] o_X11_reach rfl rfl ?_
  refine mm_aload_0 1 dX11_reach_0 rfl ?_
  refine mm_getR 4 dX11_reach_1 f_X11_26 rfl t_0 rfl ?_
  refine mm_iload_1 5 dX11_reach_4 rfl ?_
  refine mm_cV1i 8 dX11_reach_5 v_X11_200 rfl t_5 (by decide) rfl rfl (Nat.le_of_ble_eq_true rfl) ⟨rfl, rfl⟩ ⟨Nat.zero_le _, Nat.zero_le _⟩ (c_X3_has  (fun h1 => ?_) (fun h1 => ?_))
  · refine mm_if_eq 22 11 dX11_reach_8 (by decide) rfl (fun h => absurd h (by decide)) (fun _ => ?_)
    refine mm_iload_2 12 dX11_reach_11 rfl ?_
    refine mm_iconst 13 0 dX11_reach_12 rfl (by decide) ?_
    refine mm_sipush 16 999 dX11_reach_13 rfl (by decide) ?_
    refine mm_cS3i 19 dX11_reach_16 v_X11_98 rfl (Nat.le_of_ble_eq_true rfl) ⟨rfl, rfl⟩ ⟨Nat.zero_le _, Nat.zero_le _⟩ (c_X11_isWithin  (fun h2 => ?_) (fun h2 => ?_))
    · refine mm_if_ne 25 22 dX11_reach_19 (by decide) rfl (fun _ => ?_) (fun h => absurd h (by decide))
      have cx := mm_cl2 (x := x) (n := a_nl A) (by (try simp only [Int32.lt_iff_toInt_lt, Int32.le_iff_toInt_le, ← Int32.toInt_inj, vp_in_iff, Int32.reduceToInt, mm_t1, mm_t2, mm_t3, mm_t4, mm_t10] at h1 h2 k5 k7 k14 ⊢); omega)
      have w0 : 0 ≤ w.toInt := by (try simp only [Int32.lt_iff_toInt_lt, Int32.le_iff_toInt_le, ← Int32.toInt_inj, vp_in_iff, Int32.reduceToInt, mm_t1, mm_t2, mm_t3, mm_t4, mm_t10] at h1 h2 k5 k7 k14 ⊢); omega
      refine mm_aload_0 26 dX11_reach_25 rfl ?_
      refine mm_getR 29 dX11_reach_26 f_X11_56 rfl t_0 rfl ?_
      refine mm_aload_0 30 dX11_reach_29 rfl ?_
      refine mm_getR 33 dX11_reach_30 f_X11_47 rfl t_0 rfl ?_
      refine mm_cV0i 36 dX11_reach_33 v_X11_165 rfl t_14 (by decide) rfl rfl (Nat.le_of_ble_eq_true rfl) ⟨rfl, rfl⟩ ⟨Nat.zero_le _, Nat.zero_le _⟩ (b_eno hi hf (fun r3 e3 => ?_))
      refine mm_iconst 37 (-1) dX11_reach_36 rfl (by decide) ?_
      refine mm_cV2v 40 dX11_reach_37 v_X11_190 rfl t_20 (by decide) rfl rfl (Nat.le_of_ble_eq_true rfl) ⟨rfl, rfl⟩ ⟨Nat.zero_le _, Nat.zero_le _⟩ (b_play hi hf e3 (Nat.le_refl _) (fun M4 g4 w4 X4 => ?_))
      refine mm_aload_0 41 dX11_reach_40 rfl ?_
      refine mm_getR 44 dX11_reach_41 f_X11_65 rfl t_0 rfl ?_
      refine mm_iload_1 45 dX11_reach_44 rfl ?_
      refine mm_iload_2 46 dX11_reach_45 rfl ?_
      refine mm_cV2i 49 dX11_reach_46 v_X11_219 rfl t_27 (by decide) rfl rfl (Nat.le_of_ble_eq_true rfl) ⟨rfl, rfl⟩ ⟨Nat.zero_le _, Nat.zero_le _⟩ (c_X1_fewestFor hi X4 w4 cx.2.1 cx.1 (by omega) (fun r5 M5 e5 k5 => ?_))
      refine mm_iret dX11_reach_49 rfl ⟨rfl, Nat.zero_le _⟩ ?_
      refine h _ _ ?_ (X4.kk k5)
      unfold z_reach
      rw [if_pos (by (try simp only [Int32.lt_iff_toInt_lt, Int32.le_iff_toInt_le, ← Int32.toInt_inj, vp_in_iff, Int32.reduceToInt, mm_t1, mm_t2, mm_t3, mm_t4, mm_t10] at h1 h2 k5 k7 k14 ⊢); omega)]
      exact isR_e e5
    · refine mm_if_ne 25 22 dX11_reach_19 (by decide) rfl (fun h => absurd h (by decide)) (fun _ => ?_)
      refine mm_bipush 24 (-2) dX11_reach_22 rfl (by decide) ?_
      refine mm_iret dX11_reach_24 rfl ⟨rfl, Nat.zero_le _⟩ ?_
      refine h _ _ ?_ hf
      unfold z_reach
      rw [if_neg (by (try simp only [Int32.lt_iff_toInt_lt, Int32.le_iff_toInt_le, ← Int32.toInt_inj, vp_in_iff, Int32.reduceToInt, mm_t1, mm_t2, mm_t3, mm_t4, mm_t10] at h1 h2 k5 k7 k14); omega)]
  · refine mm_if_eq 22 11 dX11_reach_8 (by decide) rfl (fun _ => ?_) (fun h => absurd h (by decide))
    refine mm_bipush 24 (-2) dX11_reach_22 rfl (by decide) ?_
    refine mm_iret dX11_reach_24 rfl ⟨rfl, Nat.zero_le _⟩ ?_
    refine h _ _ ?_ hf
    unfold z_reach
    rw [if_neg (by (try simp only [Int32.lt_iff_toInt_lt, Int32.le_iff_toInt_le, ← Int32.toInt_inj, vp_in_iff, Int32.reduceToInt, mm_t1, mm_t2, mm_t3, mm_t4, mm_t10] at h1 k5 k7 k14); omega)]

set_option maxHeartbeats 4000000 in
theorem c_X11_grows {l : Launch} {G : mm_G} {d : Nat} {M : mm_M} {Q : Int32 → mm_T → mm_M → Prop} {A : mm_M} (hi : iv A) (hf : fr A M) {x w : Int32} (h : ∀ r M1, r = z_grows A x w → fr A M1 → Q r T0 M1) : mm_met l G (d + 11) k_X11_grows [.ref 0, .int x, .int w] T0 M (mm_pi Q) := by
  have n6 := hi.1.nl
  have n12 := hi.1.np
  have n24 := hi.1.ne.2
  have hd := hf.vd hi
  have k5 := hd.1.li
  have k7 := hd.1.pi
  have k14 := hd.1.ei
  refine mm_enter 0 [.ref 0, .int x, .int w] o_X11_grows rfl rfl ?_
  refine mm_aload_0 1 dX11_grows_0 rfl ?_
  refine mm_getR 4 dX11_grows_1 f_X11_26 rfl t_0 rfl ?_
  refine mm_iload_1 5 dX11_grows_4 rfl ?_
  refine mm_cV1i 8 dX11_grows_5 v_X11_200 rfl t_5 (by decide) rfl rfl (Nat.le_of_ble_eq_true rfl) ⟨rfl, rfl⟩ ⟨Nat.zero_le _, Nat.zero_le _⟩ (c_X3_has  (fun h1 => ?_) (fun h1 => ?_))
  · refine mm_if_eq 20 11 dX11_grows_8 (by decide) rfl (fun h => absurd h (by decide)) (fun _ => ?_)
    refine mm_iload_2 12 dX11_grows_11 rfl ?_
    refine mm_iconst 13 0 dX11_grows_12 rfl (by decide) ?_
    refine mm_iconst 14 4 dX11_grows_13 rfl (by decide) ?_
    refine mm_cS3i 17 dX11_grows_14 v_X11_98 rfl (Nat.le_of_ble_eq_true rfl) ⟨rfl, rfl⟩ ⟨Nat.zero_le _, Nat.zero_le _⟩ (c_X11_isWithin  (fun h2 => ?_) (fun h2 => ?_))
    · refine mm_if_ne 23 20 dX11_grows_17 (by decide) rfl (fun _ => ?_) (fun h => absurd h (by decide))
      have cx := mm_cl2 (x := x) (n := a_nl A) (by (try simp only [Int32.lt_iff_toInt_lt, Int32.le_iff_toInt_le, ← Int32.toInt_inj, vp_in_iff, Int32.reduceToInt, mm_t1, mm_t2, mm_t3, mm_t4, mm_t10] at h1 h2 k5 k7 k14 ⊢); omega)
      have cw := mm_cl2 (x := w) (n := 5) (by (try simp only [Int32.lt_iff_toInt_lt, Int32.le_iff_toInt_le, ← Int32.toInt_inj, vp_in_iff, Int32.reduceToInt, mm_t1, mm_t2, mm_t3, mm_t4, mm_t10] at h1 h2 k5 k7 k14 ⊢); omega)
      refine mm_aload_0 24 dX11_grows_23 rfl ?_
      refine mm_getR 27 dX11_grows_24 f_X11_56 rfl t_0 rfl ?_
      refine mm_aload_0 28 dX11_grows_27 rfl ?_
      refine mm_getR 31 dX11_grows_28 f_X11_47 rfl t_0 rfl ?_
      refine mm_cV0i 34 dX11_grows_31 v_X11_165 rfl t_14 (by decide) rfl rfl (Nat.le_of_ble_eq_true rfl) ⟨rfl, rfl⟩ ⟨Nat.zero_le _, Nat.zero_le _⟩ (b_eno hi hf (fun r3 e3 => ?_))
      refine mm_iconst 35 (-1) dX11_grows_34 rfl (by decide) ?_
      refine mm_cV2v 38 dX11_grows_35 v_X11_190 rfl t_20 (by decide) rfl rfl (Nat.le_of_ble_eq_true rfl) ⟨rfl, rfl⟩ ⟨Nat.zero_le _, Nat.zero_le _⟩ (b_play hi hf e3 (Nat.le_refl _) (fun M4 g4 w4 X4 => ?_))
      refine mm_aload_0 39 dX11_grows_38 rfl ?_
      refine mm_getR 42 dX11_grows_39 f_X11_65 rfl t_0 rfl ?_
      refine mm_iload_1 43 dX11_grows_42 rfl ?_
      refine mm_iload_2 44 dX11_grows_43 rfl ?_
      refine mm_cV2i 47 dX11_grows_44 v_X11_222 rfl t_27 (by decide) rfl rfl (Nat.le_of_ble_eq_true rfl) ⟨rfl, rfl⟩ ⟨Nat.zero_le _, Nat.zero_le _⟩ (c_X1_widestBy hi X4 w4 cx.2.1 cx.1 cw.1 (by omega) (fun r5 M5 e5 k5 => ?_))
      refine mm_iret dX11_grows_47 rfl ⟨rfl, Nat.zero_le _⟩ ?_
      refine h _ _ ?_ (X4.kk k5)
      unfold z_grows
      rw [if_pos (by (try simp only [Int32.lt_iff_toInt_lt, Int32.le_iff_toInt_le, ← Int32.toInt_inj, vp_in_iff, Int32.reduceToInt, mm_t1, mm_t2, mm_t3, mm_t4, mm_t10] at h1 h2 k5 k7 k14 ⊢); omega)]
      exact isG_e e5
    · refine mm_if_ne 23 20 dX11_grows_17 (by decide) rfl (fun h => absurd h (by decide)) (fun _ => ?_)
      refine mm_bipush 22 (-2) dX11_grows_20 rfl (by decide) ?_
      refine mm_iret dX11_grows_22 rfl ⟨rfl, Nat.zero_le _⟩ ?_
      refine h _ _ ?_ hf
      unfold z_grows
      rw [if_neg (by (try simp only [Int32.lt_iff_toInt_lt, Int32.le_iff_toInt_le, ← Int32.toInt_inj, vp_in_iff, Int32.reduceToInt, mm_t1, mm_t2, mm_t3, mm_t4, mm_t10] at h1 h2 k5 k7 k14); omega)]
  · refine mm_if_eq 20 11 dX11_grows_8 (by decide) rfl (fun _ => ?_) (fun h => absurd h (by decide))
    refine mm_bipush 22 (-2) dX11_grows_20 rfl (by decide) ?_
    refine mm_iret dX11_grows_22 rfl ⟨rfl, Nat.zero_le _⟩ ?_
    refine h _ _ ?_ hf
    unfold z_grows
    rw [if_neg (by (try simp only [Int32.lt_iff_toInt_lt, Int32.le_iff_toInt_le, ← Int32.toInt_inj, vp_in_iff, Int32.reduceToInt, mm_t1, mm_t2, mm_t3, mm_t4, mm_t10] at h1 k5 k7 k14); omega)]

