/-! wed and ends -/
theorem c14_w {A M : mm_M} (hi : iv A) (hf : fr A M) : (if s_X2_weekOf M (M 14 5 - 1) < 0 then 0 else s_X2_weekOf M (M 14 5 - 1)).toInt = z_lt A := by
  have n24 := hi.1.ne.2
  have c14 : M 14 5 = nI (a_ne A) := (hf.vd hi).1.2.2.2.2.2.1
  have z0 : (0 : Int32).toInt = 0 := by decide
  have e : s_X2_weekOf M (M 14 5 - 1) = if a_ne A = 0 then -1 else A 61 (5 * (a_ne A - 1) + 1) := by
    unfold s_X2_weekOf
    rw [c14, nI_m1 (by omega), mm_ti (by omega)]
    by_cases q : a_ne A = 0
    · rw [if_neg (by omega), if_pos q]
    · rw [if_pos (by omega), if_neg q, show nI (a_ne A) - 1 = nI (a_ne A - 1) by apply mm_ii; rw [nI_m1 (by omega), mm_ti (by omega)]; omega]
      rw [mm_cn (by omega), hf.a 15, (hi.2.2.2.2.1.2 (a_ne A - 1) (by omega)).2.1]
  rw [e]
  unfold z_lt
  by_cases q : a_ne A = 0
  · rw [if_pos q, if_pos q]; decide
  · rw [if_neg q, if_neg q]
    have b := (hi.1.2.2.2.2.1 (a_ne A - 1) (by rw [hi.1.ne.1, mm_ti (by omega)]; omega)).2.1
    rw [if_neg (by rw [mm_lt]; omega)]

set_option maxHeartbeats 4000000 in
theorem c_X2_mayComeIn {l : Launch} {G : mm_G} {d : Nat} {M : mm_M} {Q : Int32 → mm_T → mm_M → Prop} {A : mm_M} (hi : iv A) (hf : fr A M) {w : Int32} (ht : z_lb A w = true → Q 1 T0 M) (hn : ¬ z_lb A w = true → Q 0 T0 M) : mm_met l G (d + 2) k_X2_mayComeIn [.ref 14, .int w] T0 M (mm_pi Q) := by
  have n24 := hi.1.ne.2
  have c14 : M 14 5 = nI (a_ne A) := (hf.vd hi).1.2.2.2.2.2.1
  have c14i : (M 14 5).toInt = a_ne A := (hf.vd hi).1.ei
  refine mm_enter 0 [.ref 14, .int w] o_X2_mayComeIn rfl rfl ?_
  refine mm_iload_1 1 dX2_mayComeIn_0 rfl ?_
  refine mm_aload_0 2 dX2_mayComeIn_1 rfl ?_
  refine mm_aload_0 3 dX2_mayComeIn_2 rfl ?_
  refine mm_getI 6 dX2_mayComeIn_3 f_X2_27 rfl t_14 rfl ?_
  refine mm_iconst 7 1 dX2_mayComeIn_6 rfl (by decide) ?_
  refine mm_isub 8 dX2_mayComeIn_7 rfl ?_
  refine mm_cV1i 11 dX2_mayComeIn_8 v_X2_31 rfl t_14 (by decide) rfl rfl (Nat.le_of_ble_eq_true rfl) ⟨rfl, rfl⟩ ⟨Nat.zero_le _, Nat.zero_le _⟩ (c_X2_weekOf (by rw [c14i]; omega) (fun r1 e1 => ?_))
  refine mm_iconst 12 0 dX2_mayComeIn_11 rfl (by decide) ?_
  refine mm_mmax 15 dX2_mayComeIn_12 j_X2_35 rfl (Nat.le_of_ble_eq_true rfl) ⟨Nat.zero_le _, Nat.zero_le _⟩ ?_
  refine mm_bipush 17 51 dX2_mayComeIn_15 rfl (by decide) ?_
  refine mm_cSN3i 20 dX2_mayComeIn_17 v_X2_41 rfl (Nat.le_of_ble_eq_true rfl) ⟨rfl, rfl⟩ ⟨Nat.zero_le _, Nat.zero_le _⟩ (c_X11_isWithin  (fun h2 => ?_) (fun h2 => ?_))
  · refine mm_zret dX2_mayComeIn_20 rfl ⟨rfl, Nat.zero_le _⟩ (Or.inr rfl) ?_
    rw [e1, c14_w hi hf] at h2
    refine ht ?_
    unfold z_lb
    rw [decide_eq_true_eq]
    exact h2
  · refine mm_zret dX2_mayComeIn_20 rfl ⟨rfl, Nat.zero_le _⟩ (Or.inl rfl) ?_
    rw [e1, c14_w hi hf] at h2
    refine hn ?_
    unfold z_lb
    rw [decide_eq_true_eq]
    exact h2

set_option maxHeartbeats 4000000 in
theorem c_X2_add {l : Launch} {G : mm_G} {d : Nat} {M : mm_M} {Q : mm_T → mm_M → Prop} {w k a b t : Int32} {n : Nat} (hn : M 14 5 = nI n) (h24 : n < 24) (h : Q T0 (ec M n k w a b t)) : mm_met l G (d + 1) k_X2_add [.ref 14, .int w, .int k, .int a, .int b, .int t] T0 M (mm_pv Q) := by
  refine mm_enter 0 [.ref 14, .int w, .int k, .int a, .int b, .int t] o_X2_add rfl rfl ?_
  refine mm_aload_0 1 dX2_add_0 rfl ?_
  refine mm_cV0i 4 dX2_add_1 v_X2_45 rfl t_14 (by decide) rfl rfl (Nat.le_of_ble_eq_true rfl) ⟨rfl, rfl⟩ ⟨Nat.zero_le _, Nat.zero_le _⟩ (c_X2_isFull (fun h1 => absurd h1 (by rw [hn, mm_ti (by omega)]; omega)) (fun h1 => ?_))
  refine mm_if_eq 8 7 dX2_add_4 (by decide) rfl (fun _ => ?_) (fun h => absurd h (by decide))
  refine mm_aload_0 9 dX2_add_8 rfl ?_
  refine mm_getR 12 dX2_add_9 f_X2_9 rfl t_14 rfl ?_
  refine mm_aload_0 13 dX2_add_12 rfl ?_
  refine mm_getI 16 dX2_add_13 f_X2_27 rfl t_14 rfl ?_
  refine mm_iload_1 17 dX2_add_16 rfl ?_
  refine mm_iastoren 18 (n) dX2_add_17 rfl t_15 (by decide) (hn) (by omega) ?_
  refine mm_aload_0 19 dX2_add_18 rfl ?_
  refine mm_getR 22 dX2_add_19 f_X2_15 rfl t_14 rfl ?_
  refine mm_aload_0 23 dX2_add_22 rfl ?_
  refine mm_getI 26 dX2_add_23 f_X2_27 rfl t_14 rfl ?_
  refine mm_iload_2 27 dX2_add_26 rfl ?_
  refine mm_iastoren 28 (n) dX2_add_27 rfl t_16 (by decide) (by rw [mm_upn _ _ _ (by decide)] ; exact hn) (by omega) ?_
  refine mm_aload_0 29 dX2_add_28 rfl ?_
  refine mm_getR 32 dX2_add_29 f_X2_18 rfl t_14 rfl ?_
  refine mm_aload_0 33 dX2_add_32 rfl ?_
  refine mm_getI 36 dX2_add_33 f_X2_27 rfl t_14 rfl ?_
  refine mm_iload_3 37 dX2_add_36 rfl ?_
  refine mm_iastoren 38 (n) dX2_add_37 rfl t_17 (by decide) (by rw [mm_upn _ _ _ (by decide), mm_upn _ _ _ (by decide)] ; exact hn) (by omega) ?_
  refine mm_aload_0 39 dX2_add_38 rfl ?_
  refine mm_getR 42 dX2_add_39 f_X2_21 rfl t_14 rfl ?_
  refine mm_aload_0 43 dX2_add_42 rfl ?_
  refine mm_getI 46 dX2_add_43 f_X2_27 rfl t_14 rfl ?_
  refine mm_iload_4 48 dX2_add_46 rfl ?_
  refine mm_iastoren 49 (n) dX2_add_48 rfl t_18 (by decide) (by rw [mm_upn _ _ _ (by decide), mm_upn _ _ _ (by decide), mm_upn _ _ _ (by decide)] ; exact hn) (by omega) ?_
  refine mm_aload_0 50 dX2_add_49 rfl ?_
  refine mm_getR 53 dX2_add_50 f_X2_24 rfl t_14 rfl ?_
  refine mm_aload_0 54 dX2_add_53 rfl ?_
  refine mm_getI 57 dX2_add_54 f_X2_27 rfl t_14 rfl ?_
  refine mm_iload_5 59 dX2_add_57 rfl ?_
  refine mm_iastoren 60 (n) dX2_add_59 rfl t_19 (by decide) (by rw [mm_upn _ _ _ (by decide), mm_upn _ _ _ (by decide), mm_upn _ _ _ (by decide), mm_upn _ _ _ (by decide)] ; exact hn) (by omega) ?_
  refine mm_aload_0 61 dX2_add_60 rfl ?_
  refine mm_dup 62 dX2_add_61 rfl rfl ?_
  refine mm_getI 65 dX2_add_62 f_X2_27 rfl t_14 rfl ?_
  rw [mm_upn _ _ _ (by decide), mm_upn _ _ _ (by decide), mm_upn _ _ _ (by decide), mm_upn _ _ _ (by decide), mm_upn _ _ _ (by decide), hn]
  refine mm_iconst 66 1 dX2_add_65 rfl (by decide) ?_
  refine mm_iadd 67 dX2_add_66 rfl ?_
  rw [nI_1]
  refine mm_putI 70 dX2_add_67 p_X2_27 ⟨rfl, rfl⟩ rfl t_14 rfl ?_
  refine mm_vret dX2_add_70 rfl ⟨rfl, Nat.zero_le _⟩ ?_
  exact h

set_option maxHeartbeats 4000000 in
theorem c_X11_wed {l : Launch} {G : mm_G} {d : Nat} {M : mm_M} {Q : Int32 → mm_T → mm_M → Prop} {A : mm_M} (hi : iv A) (hf : fr A M) {w a b t : Int32} (h : ∀ r M1, r = z_tell A (z_lb A w && okw a b t) → fr (te A (ec A (a_ne A) 0 w a b t) (z_lb A w && okw a b t)) M1 → Q r T0 M1) : mm_met l G (d + 3) k_X11_wed [.ref 0, .int w, .int a, .int b, .int t] T0 M (mm_pi Q) := by
  have n24 := hi.1.ne.2
  have c14 : M 14 5 = nI (a_ne A) := (hf.vd hi).1.2.2.2.2.2.1
  have c14i : (M 14 5).toInt = a_ne A := (hf.vd hi).1.ei
  refine mm_enter 0 [.ref 0, .int w, .int a, .int b, .int t] o_X11_wed rfl rfl ?_
  refine mm_aload_0 1 dX11_wed_0 rfl ?_
  refine mm_getR 4 dX11_wed_1 f_X11_47 rfl t_0 rfl ?_
  refine mm_iload_1 5 dX11_wed_4 rfl ?_
  refine mm_cV1i 8 dX11_wed_5 v_X11_154 rfl t_14 (by decide) rfl rfl (Nat.le_of_ble_eq_true rfl) ⟨rfl, rfl⟩ ⟨Nat.zero_le _, Nat.zero_le _⟩ (c_X2_mayComeIn hi hf (fun h1 => ?_) (fun h1 => ?_))
  · refine mm_if_eq 21 11 dX11_wed_8 (by decide) rfl (fun h => absurd h (by decide)) (fun _ => ?_)
    refine mm_iload_2 12 dX11_wed_11 rfl ?_
    refine mm_iload_3 13 dX11_wed_12 rfl ?_
    refine mm_iload_4 15 dX11_wed_13 rfl ?_
    refine mm_cS3i 18 dX11_wed_15 v_X11_157 rfl (Nat.le_of_ble_eq_true rfl) ⟨rfl, rfl⟩ ⟨Nat.zero_le _, Nat.zero_le _⟩ (c_X11_mayBeWedding  (fun h2 => ?_) (fun h2 => ?_))
    · refine mm_if_ne 24 21 dX11_wed_18 (by decide) rfl (fun _ => ?_) (fun h => absurd h (by decide))
      refine mm_aload_0 25 dX11_wed_24 rfl ?_
      refine mm_getR 28 dX11_wed_25 f_X11_47 rfl t_0 rfl ?_
      refine mm_cV0i 31 dX11_wed_28 v_X11_160 rfl t_14 (by decide) rfl rfl (Nat.le_of_ble_eq_true rfl) ⟨rfl, rfl⟩ ⟨Nat.zero_le _, Nat.zero_le _⟩ (c_X2_isFull  (fun h3 => ?_) (fun h3 => ?_))
      · refine mm_if_eq 37 34 dX11_wed_31 (by decide) rfl (fun h => absurd h (by decide)) (fun _ => ?_)
        refine mm_bipush 36 (-4) dX11_wed_34 rfl (by decide) ?_
        refine mm_iret dX11_wed_36 rfl ⟨rfl, Nat.zero_le _⟩ ?_
        refine h _ _ ?_ ?_
        · unfold z_tell
          rw [if_pos (by rw [Bool.and_eq_true]; exact ⟨h1, by simp only [okw, decide_eq_true_eq]; (try simp only [Int32.lt_iff_toInt_lt, Int32.le_iff_toInt_le, ← Int32.toInt_inj, vp_in_iff, Int32.reduceToInt, mm_t1, mm_t2, mm_t3, mm_t4, mm_t10] at h2 ⊢); omega⟩), if_neg (by (try simp only [Int32.lt_iff_toInt_lt, Int32.le_iff_toInt_le, ← Int32.toInt_inj, vp_in_iff, Int32.reduceToInt, mm_t1, mm_t2, mm_t3, mm_t4, mm_t10] at h3 c14i ⊢); omega)]
        · unfold te
          rw [if_pos (by rw [Bool.and_eq_true]; exact ⟨h1, by simp only [okw, decide_eq_true_eq]; (try simp only [Int32.lt_iff_toInt_lt, Int32.le_iff_toInt_le, ← Int32.toInt_inj, vp_in_iff, Int32.reduceToInt, mm_t1, mm_t2, mm_t3, mm_t4, mm_t10] at h2 ⊢); omega⟩), if_neg (by (try simp only [Int32.lt_iff_toInt_lt, Int32.le_iff_toInt_le, ← Int32.toInt_inj, vp_in_iff, Int32.reduceToInt, mm_t1, mm_t2, mm_t3, mm_t4, mm_t10] at h3 c14i ⊢); omega)]
          exact hf
      · refine mm_if_eq 37 34 dX11_wed_31 (by decide) rfl (fun _ => ?_) (fun h => absurd h (by decide))
        refine mm_aload_0 38 dX11_wed_37 rfl ?_
        refine mm_getR 41 dX11_wed_38 f_X11_47 rfl t_0 rfl ?_
        refine mm_iload_1 42 dX11_wed_41 rfl ?_
        refine mm_iconst 43 0 dX11_wed_42 rfl (by decide) ?_
        refine mm_iload_2 44 dX11_wed_43 rfl ?_
        refine mm_iload_3 45 dX11_wed_44 rfl ?_
        refine mm_iload_4 47 dX11_wed_45 rfl ?_
        refine mm_cV5v 50 dX11_wed_47 v_X11_161 rfl t_14 (by decide) rfl rfl (Nat.le_of_ble_eq_true rfl) ⟨rfl, rfl⟩ ⟨Nat.zero_le _, Nat.zero_le _⟩ (c_X2_add c14 (by (try simp only [Int32.lt_iff_toInt_lt, Int32.le_iff_toInt_le, ← Int32.toInt_inj, vp_in_iff, Int32.reduceToInt, mm_t1, mm_t2, mm_t3, mm_t4, mm_t10] at h3 c14i ⊢); omega) ?_)
        refine mm_aload_0 51 dX11_wed_50 rfl ?_
        refine mm_getR 54 dX11_wed_51 f_X11_47 rfl t_0 rfl ?_
        refine mm_cV0i 57 dX11_wed_54 v_X11_165 rfl t_14 (by decide) rfl rfl (Nat.le_of_ble_eq_true rfl) ⟨rfl, rfl⟩ ⟨Nat.zero_le _, Nat.zero_le _⟩ (c_X2_number  (fun r4 e4 => ?_))
        refine mm_iret dX11_wed_57 rfl ⟨rfl, Nat.zero_le _⟩ ?_
        refine h _ _ ?_ ?_
        · unfold z_tell
          rw [if_pos (by rw [Bool.and_eq_true]; exact ⟨h1, by simp only [okw, decide_eq_true_eq]; (try simp only [Int32.lt_iff_toInt_lt, Int32.le_iff_toInt_le, ← Int32.toInt_inj, vp_in_iff, Int32.reduceToInt, mm_t1, mm_t2, mm_t3, mm_t4, mm_t10] at h2 ⊢); omega⟩), if_pos (by (try simp only [Int32.lt_iff_toInt_lt, Int32.le_iff_toInt_le, ← Int32.toInt_inj, vp_in_iff, Int32.reduceToInt, mm_t1, mm_t2, mm_t3, mm_t4, mm_t10] at h3 c14i ⊢); omega), e4]
          unfold ec
          rw [mm_upv]
        · unfold te
          rw [if_pos (by rw [Bool.and_eq_true]; exact ⟨h1, by simp only [okw, decide_eq_true_eq]; (try simp only [Int32.lt_iff_toInt_lt, Int32.le_iff_toInt_le, ← Int32.toInt_inj, vp_in_iff, Int32.reduceToInt, mm_t1, mm_t2, mm_t3, mm_t4, mm_t10] at h2 ⊢); omega⟩), if_pos (by (try simp only [Int32.lt_iff_toInt_lt, Int32.le_iff_toInt_le, ← Int32.toInt_inj, vp_in_iff, Int32.reduceToInt, mm_t1, mm_t2, mm_t3, mm_t4, mm_t10] at h3 c14i ⊢); omega)]
          exact hf.ec _ _ _ _ _ _
    · refine mm_if_ne 24 21 dX11_wed_18 (by decide) rfl (fun h => absurd h (by decide)) (fun _ => ?_)
      refine mm_bipush 23 (-2) dX11_wed_21 rfl (by decide) ?_
      refine mm_iret dX11_wed_23 rfl ⟨rfl, Nat.zero_le _⟩ ?_
      refine h _ _ ?_ ?_
      · unfold z_tell
        rw [if_neg (by rw [Bool.and_eq_true]; intro q; have q := q.2; simp only [okw, decide_eq_true_eq] at q; (try simp only [Int32.lt_iff_toInt_lt, Int32.le_iff_toInt_le, ← Int32.toInt_inj, vp_in_iff, Int32.reduceToInt, mm_t1, mm_t2, mm_t3, mm_t4, mm_t10] at h2); omega)]
      · unfold te
        rw [if_neg (by rw [Bool.and_eq_true]; intro q; have q := q.2; simp only [okw, decide_eq_true_eq] at q; (try simp only [Int32.lt_iff_toInt_lt, Int32.le_iff_toInt_le, ← Int32.toInt_inj, vp_in_iff, Int32.reduceToInt, mm_t1, mm_t2, mm_t3, mm_t4, mm_t10] at h2); omega)]
        exact hf
  · refine mm_if_eq 21 11 dX11_wed_8 (by decide) rfl (fun _ => ?_) (fun h => absurd h (by decide))
    refine mm_bipush 23 (-2) dX11_wed_21 rfl (by decide) ?_
    refine mm_iret dX11_wed_23 rfl ⟨rfl, Nat.zero_le _⟩ ?_
    refine h _ _ ?_ ?_
    · unfold z_tell
      rw [if_neg (by rw [Bool.and_eq_true]; exact fun q => h1 q.1)]
    · unfold te
      rw [if_neg (by rw [Bool.and_eq_true]; exact fun q => h1 q.1)]
      exact hf

set_option maxHeartbeats 4000000 in
theorem c_X11_ends {l : Launch} {G : mm_G} {d : Nat} {M : mm_M} {Q : Int32 → mm_T → mm_M → Prop} {A : mm_M} (hi : iv A) (hf : fr A M) {w k p : Int32} (h : ∀ r M1, r = z_tell A (z_lb A w && okd k p) → fr (te A (ec A (a_ne A) (if k.toInt = 0 then 1 else 2) w p (-1) 12) (z_lb A w && okd k p)) M1 → Q r T0 M1) : mm_met l G (d + 3) k_X11_ends [.ref 0, .int w, .int k, .int p] T0 M (mm_pi Q) := by
  have n24 := hi.1.ne.2
  have c14 : M 14 5 = nI (a_ne A) := (hf.vd hi).1.2.2.2.2.2.1
  have c14i : (M 14 5).toInt = a_ne A := (hf.vd hi).1.ei
  refine mm_enter 0 [.ref 0, .int w, .int k, .int p] o_X11_ends rfl rfl ?_
  refine mm_aload_0 1 dX11_ends_0 rfl ?_
  refine mm_getR 4 dX11_ends_1 f_X11_47 rfl t_0 rfl ?_
  refine mm_iload_1 5 dX11_ends_4 rfl ?_
  refine mm_cV1i 8 dX11_ends_5 v_X11_154 rfl t_14 (by decide) rfl rfl (Nat.le_of_ble_eq_true rfl) ⟨rfl, rfl⟩ ⟨Nat.zero_le _, Nat.zero_le _⟩ (c_X2_mayComeIn hi hf (fun h1 => ?_) (fun h1 => ?_))
  · refine mm_if_eq 27 11 dX11_ends_8 (by decide) rfl (fun h => absurd h (by decide)) (fun _ => ?_)
    refine mm_iload_2 12 dX11_ends_11 rfl ?_
    refine mm_iconst 13 0 dX11_ends_12 rfl (by decide) ?_
    refine mm_iconst 14 1 dX11_ends_13 rfl (by decide) ?_
    refine mm_cS3i 17 dX11_ends_14 v_X11_98 rfl (Nat.le_of_ble_eq_true rfl) ⟨rfl, rfl⟩ ⟨Nat.zero_le _, Nat.zero_le _⟩ (c_X11_isWithin  (fun h2 => ?_) (fun h2 => ?_))
    · refine mm_if_eq 27 20 dX11_ends_17 (by decide) rfl (fun h => absurd h (by decide)) (fun _ => ?_)
      refine mm_iload_3 21 dX11_ends_20 rfl ?_
      refine mm_cS1i 24 dX11_ends_21 v_X11_168 rfl (Nat.le_of_ble_eq_true rfl) ⟨rfl, rfl⟩ ⟨Nat.zero_le _, Nat.zero_le _⟩ (c_X11_isPersonNumber  (fun h3 => ?_) (fun h3 => ?_))
      · refine mm_if_ne 30 27 dX11_ends_24 (by decide) rfl (fun _ => ?_) (fun h => absurd h (by decide))
        refine mm_aload_0 31 dX11_ends_30 rfl ?_
        refine mm_getR 34 dX11_ends_31 f_X11_47 rfl t_0 rfl ?_
        refine mm_cV0i 37 dX11_ends_34 v_X11_160 rfl t_14 (by decide) rfl rfl (Nat.le_of_ble_eq_true rfl) ⟨rfl, rfl⟩ ⟨Nat.zero_le _, Nat.zero_le _⟩ (c_X2_isFull  (fun h4 => ?_) (fun h4 => ?_))
        · refine mm_if_eq 43 40 dX11_ends_37 (by decide) rfl (fun h => absurd h (by decide)) (fun _ => ?_)
          refine mm_bipush 42 (-4) dX11_ends_40 rfl (by decide) ?_
          refine mm_iret dX11_ends_42 rfl ⟨rfl, Nat.zero_le _⟩ ?_
          refine h _ _ ?_ ?_
          · unfold z_tell
            rw [if_pos (by rw [Bool.and_eq_true]; exact ⟨h1, by simp only [okd, decide_eq_true_eq]; (try simp only [Int32.lt_iff_toInt_lt, Int32.le_iff_toInt_le, ← Int32.toInt_inj, vp_in_iff, Int32.reduceToInt, mm_t1, mm_t2, mm_t3, mm_t4, mm_t10] at h2 h3 ⊢); omega⟩), if_neg (by (try simp only [Int32.lt_iff_toInt_lt, Int32.le_iff_toInt_le, ← Int32.toInt_inj, vp_in_iff, Int32.reduceToInt, mm_t1, mm_t2, mm_t3, mm_t4, mm_t10] at h4 c14i ⊢); omega)]
          · unfold te
            rw [if_pos (by rw [Bool.and_eq_true]; exact ⟨h1, by simp only [okd, decide_eq_true_eq]; (try simp only [Int32.lt_iff_toInt_lt, Int32.le_iff_toInt_le, ← Int32.toInt_inj, vp_in_iff, Int32.reduceToInt, mm_t1, mm_t2, mm_t3, mm_t4, mm_t10] at h2 h3 ⊢); omega⟩), if_neg (by (try simp only [Int32.lt_iff_toInt_lt, Int32.le_iff_toInt_le, ← Int32.toInt_inj, vp_in_iff, Int32.reduceToInt, mm_t1, mm_t2, mm_t3, mm_t4, mm_t10] at h4 c14i ⊢); omega)]
            exact hf
        · refine mm_if_eq 43 40 dX11_ends_37 (by decide) rfl (fun _ => ?_) (fun h => absurd h (by decide))
          refine mm_aload_0 44 dX11_ends_43 rfl ?_
          refine mm_getR 47 dX11_ends_44 f_X11_47 rfl t_0 rfl ?_
          refine mm_iload_1 48 dX11_ends_47 rfl ?_
          refine mm_iload_2 49 dX11_ends_48 rfl ?_
          refine mm_if_ne 56 52 dX11_ends_49 (by decide) rfl (fun h5 => ?_) (fun h5 => ?_)
          · refine mm_iconst 57 2 dX11_ends_56 rfl (by decide) ?_
            refine mm_iload_3 58 dX11_ends_57 rfl ?_
            refine mm_iconst 59 (-1) dX11_ends_58 rfl (by decide) ?_
            refine mm_bipush 61 12 dX11_ends_59 rfl (by decide) ?_
            refine mm_cV5v 64 dX11_ends_61 v_X11_161 rfl t_14 (by decide) rfl rfl (Nat.le_of_ble_eq_true rfl) ⟨rfl, rfl⟩ ⟨Nat.zero_le _, Nat.zero_le _⟩ (c_X2_add c14 (by (try simp only [Int32.lt_iff_toInt_lt, Int32.le_iff_toInt_le, ← Int32.toInt_inj, vp_in_iff, Int32.reduceToInt, mm_t1, mm_t2, mm_t3, mm_t4, mm_t10] at h4 c14i ⊢); omega) ?_)
            refine mm_aload_0 65 dX11_ends_64 rfl ?_
            refine mm_getR 68 dX11_ends_65 f_X11_47 rfl t_0 rfl ?_
            refine mm_cV0i 71 dX11_ends_68 v_X11_165 rfl t_14 (by decide) rfl rfl (Nat.le_of_ble_eq_true rfl) ⟨rfl, rfl⟩ ⟨Nat.zero_le _, Nat.zero_le _⟩ (c_X2_number  (fun r6 e6 => ?_))
            refine mm_iret dX11_ends_71 rfl ⟨rfl, Nat.zero_le _⟩ ?_
            refine h _ _ ?_ ?_
            · unfold z_tell
              rw [if_pos (by rw [Bool.and_eq_true]; exact ⟨h1, by simp only [okd, decide_eq_true_eq]; (try simp only [Int32.lt_iff_toInt_lt, Int32.le_iff_toInt_le, ← Int32.toInt_inj, vp_in_iff, Int32.reduceToInt, mm_t1, mm_t2, mm_t3, mm_t4, mm_t10] at h2 h3 ⊢); omega⟩), if_pos (by (try simp only [Int32.lt_iff_toInt_lt, Int32.le_iff_toInt_le, ← Int32.toInt_inj, vp_in_iff, Int32.reduceToInt, mm_t1, mm_t2, mm_t3, mm_t4, mm_t10] at h4 c14i ⊢); omega), e6]
              unfold ec
              rw [mm_upv]
            · unfold te
              rw [if_pos (by rw [Bool.and_eq_true]; exact ⟨h1, by simp only [okd, decide_eq_true_eq]; (try simp only [Int32.lt_iff_toInt_lt, Int32.le_iff_toInt_le, ← Int32.toInt_inj, vp_in_iff, Int32.reduceToInt, mm_t1, mm_t2, mm_t3, mm_t4, mm_t10] at h2 h3 ⊢); omega⟩), if_pos (by (try simp only [Int32.lt_iff_toInt_lt, Int32.le_iff_toInt_le, ← Int32.toInt_inj, vp_in_iff, Int32.reduceToInt, mm_t1, mm_t2, mm_t3, mm_t4, mm_t10] at h4 c14i ⊢); omega)]
              rw [if_neg (by (try simp only [Int32.lt_iff_toInt_lt, Int32.le_iff_toInt_le, ← Int32.toInt_inj, vp_in_iff, Int32.reduceToInt, mm_t1, mm_t2, mm_t3, mm_t4, mm_t10] at h5 ⊢); omega)]
              exact hf.ec _ _ _ _ _ _
          · refine mm_iconst 53 1 dX11_ends_52 rfl (by decide) ?_
            refine mm_goto 57 dX11_ends_53 (by decide) ?_
            refine mm_iload_3 58 dX11_ends_57 rfl ?_
            refine mm_iconst 59 (-1) dX11_ends_58 rfl (by decide) ?_
            refine mm_bipush 61 12 dX11_ends_59 rfl (by decide) ?_
            refine mm_cV5v 64 dX11_ends_61 v_X11_161 rfl t_14 (by decide) rfl rfl (Nat.le_of_ble_eq_true rfl) ⟨rfl, rfl⟩ ⟨Nat.zero_le _, Nat.zero_le _⟩ (c_X2_add c14 (by (try simp only [Int32.lt_iff_toInt_lt, Int32.le_iff_toInt_le, ← Int32.toInt_inj, vp_in_iff, Int32.reduceToInt, mm_t1, mm_t2, mm_t3, mm_t4, mm_t10] at h4 c14i ⊢); omega) ?_)
            refine mm_aload_0 65 dX11_ends_64 rfl ?_
            refine mm_getR 68 dX11_ends_65 f_X11_47 rfl t_0 rfl ?_
            refine mm_cV0i 71 dX11_ends_68 v_X11_165 rfl t_14 (by decide) rfl rfl (Nat.le_of_ble_eq_true rfl) ⟨rfl, rfl⟩ ⟨Nat.zero_le _, Nat.zero_le _⟩ (c_X2_number  (fun r7 e7 => ?_))
            refine mm_iret dX11_ends_71 rfl ⟨rfl, Nat.zero_le _⟩ ?_
            refine h _ _ ?_ ?_
            · unfold z_tell
              rw [if_pos (by rw [Bool.and_eq_true]; exact ⟨h1, by simp only [okd, decide_eq_true_eq]; (try simp only [Int32.lt_iff_toInt_lt, Int32.le_iff_toInt_le, ← Int32.toInt_inj, vp_in_iff, Int32.reduceToInt, mm_t1, mm_t2, mm_t3, mm_t4, mm_t10] at h2 h3 ⊢); omega⟩), if_pos (by (try simp only [Int32.lt_iff_toInt_lt, Int32.le_iff_toInt_le, ← Int32.toInt_inj, vp_in_iff, Int32.reduceToInt, mm_t1, mm_t2, mm_t3, mm_t4, mm_t10] at h4 c14i ⊢); omega), e7]
              unfold ec
              rw [mm_upv]
            · unfold te
              rw [if_pos (by rw [Bool.and_eq_true]; exact ⟨h1, by simp only [okd, decide_eq_true_eq]; (try simp only [Int32.lt_iff_toInt_lt, Int32.le_iff_toInt_le, ← Int32.toInt_inj, vp_in_iff, Int32.reduceToInt, mm_t1, mm_t2, mm_t3, mm_t4, mm_t10] at h2 h3 ⊢); omega⟩), if_pos (by (try simp only [Int32.lt_iff_toInt_lt, Int32.le_iff_toInt_le, ← Int32.toInt_inj, vp_in_iff, Int32.reduceToInt, mm_t1, mm_t2, mm_t3, mm_t4, mm_t10] at h4 c14i ⊢); omega)]
              rw [if_pos (by (try simp only [Int32.lt_iff_toInt_lt, Int32.le_iff_toInt_le, ← Int32.toInt_inj, vp_in_iff, Int32.reduceToInt, mm_t1, mm_t2, mm_t3, mm_t4, mm_t10] at h5 ⊢); omega)]
              exact hf.ec _ _ _ _ _ _
      · refine mm_if_ne 30 27 dX11_ends_24 (by decide) rfl (fun h => absurd h (by decide)) (fun _ => ?_)
        refine mm_bipush 29 (-2) dX11_ends_27 rfl (by decide) ?_
        refine mm_iret dX11_ends_29 rfl ⟨rfl, Nat.zero_le _⟩ ?_
        refine h _ _ ?_ ?_
        · unfold z_tell
          rw [if_neg (by rw [Bool.and_eq_true]; intro q; have q := q.2; simp only [okd, decide_eq_true_eq] at q; (try simp only [Int32.lt_iff_toInt_lt, Int32.le_iff_toInt_le, ← Int32.toInt_inj, vp_in_iff, Int32.reduceToInt, mm_t1, mm_t2, mm_t3, mm_t4, mm_t10] at h2 h3); omega)]
        · unfold te
          rw [if_neg (by rw [Bool.and_eq_true]; intro q; have q := q.2; simp only [okd, decide_eq_true_eq] at q; (try simp only [Int32.lt_iff_toInt_lt, Int32.le_iff_toInt_le, ← Int32.toInt_inj, vp_in_iff, Int32.reduceToInt, mm_t1, mm_t2, mm_t3, mm_t4, mm_t10] at h2 h3); omega)]
          exact hf
    · refine mm_if_eq 27 20 dX11_ends_17 (by decide) rfl (fun _ => ?_) (fun h => absurd h (by decide))
      refine mm_bipush 29 (-2) dX11_ends_27 rfl (by decide) ?_
      refine mm_iret dX11_ends_29 rfl ⟨rfl, Nat.zero_le _⟩ ?_
      refine h _ _ ?_ ?_
      · unfold z_tell
        rw [if_neg (by rw [Bool.and_eq_true]; intro q; have q := q.2; simp only [okd, decide_eq_true_eq] at q; (try simp only [Int32.lt_iff_toInt_lt, Int32.le_iff_toInt_le, ← Int32.toInt_inj, vp_in_iff, Int32.reduceToInt, mm_t1, mm_t2, mm_t3, mm_t4, mm_t10] at h2); omega)]
      · unfold te
        rw [if_neg (by rw [Bool.and_eq_true]; intro q; have q := q.2; simp only [okd, decide_eq_true_eq] at q; (try simp only [Int32.lt_iff_toInt_lt, Int32.le_iff_toInt_le, ← Int32.toInt_inj, vp_in_iff, Int32.reduceToInt, mm_t1, mm_t2, mm_t3, mm_t4, mm_t10] at h2); omega)]
        exact hf
  · refine mm_if_eq 27 11 dX11_ends_8 (by decide) rfl (fun _ => ?_) (fun h => absurd h (by decide))
    refine mm_bipush 29 (-2) dX11_ends_27 rfl (by decide) ?_
    refine mm_iret dX11_ends_29 rfl ⟨rfl, Nat.zero_le _⟩ ?_
    refine h _ _ ?_ ?_
    · unfold z_tell
      rw [if_neg (by rw [Bool.and_eq_true]; exact fun q => h1 q.1)]
    · unfold te
      rw [if_neg (by rw [Bool.and_eq_true]; exact fun q => h1 q.1)]
      exact hf

theorem c13_l {B M : mm_M} (hB : a_ok B) (hf : fr B M) (q : ¬ a_ne B = 0) : 5 * M 51 13 - 4 = nI (5 * (a_ne B - 1) + 1) := by
  have n24 := hB.ne.2
  have t5 : (5 : Int32).toInt = 5 := by decide
  have t4 : (4 : Int32).toInt = 4 := by decide
  have tn := mm_ti (n := a_ne B) (by omega)
  rw [hf.2.2.1, hB.ne.1]
  apply mm_ii
  have m := mm_mul (a := 5) (b := nI (a_ne B)) (by rw [t5, tn]; omega)
  rw [t5, tn] at m
  rw [mm_sub (by rw [m, t4]; omega), m, t4, mm_ti (by omega)]
  omega

set_option maxHeartbeats 4000000 in
theorem c_X12_isLate {l : Launch} {G : mm_G} {d : Nat} {M : mm_M} {Q : Int32 → mm_T → mm_M → Prop} {B : mm_M} (hB : a_ok B) (hf : fr B M) {w : Int32} (ht : z_lb B w = true → Q 1 T0 M) (hn : ¬ z_lb B w = true → Q 0 T0 M) : mm_met l G (d + 1) k_X12_isLate [.ref 51, .int w] T0 M (mm_pi Q) := by
  have n24 := hB.ne.2
  have c13 : M 51 13 = nI (a_ne B) := by rw [hf.2.2.1]; exact hB.ne.1
  have c13i : (M 51 13).toInt = a_ne B := by rw [c13]; exact mm_ti (by omega)
  refine mm_enter 0 [.ref 51, .int w] o_X12_isLate rfl rfl ?_
  refine mm_iload_1 1 dX12_isLate_0 rfl ?_
  refine mm_i2l 2 dX12_isLate_1 rfl ?_
  refine mm_aload_0 3 dX12_isLate_2 rfl ?_
  refine mm_getI 6 dX12_isLate_3 f_X12_184 rfl t_51 rfl ?_
  refine mm_if_ne 13 9 dX12_isLate_6 (by decide) rfl (fun h1 => ?_) (fun h1 => ?_)
  · refine mm_aload_0 14 dX12_isLate_13 rfl ?_
    refine mm_getR 17 dX12_isLate_14 f_X12_37 rfl t_51 rfl ?_
    refine mm_iconst 18 5 dX12_isLate_17 rfl (by decide) ?_
    refine mm_aload_0 19 dX12_isLate_18 rfl ?_
    refine mm_getI 22 dX12_isLate_19 f_X12_184 rfl t_51 rfl ?_
    refine mm_imul 23 dX12_isLate_22 rfl ?_
    refine mm_iconst 24 4 dX12_isLate_23 rfl (by decide) ?_
    refine mm_isub 25 dX12_isLate_24 rfl ?_
    refine mm_ialoadn 26 (5 * (a_ne B - 1) + 1) dX12_isLate_25 rfl t_61 (by decide) (c13_l hB hf (by (try simp only [Int32.lt_iff_toInt_lt, Int32.le_iff_toInt_le, ← Int32.toInt_inj, vp_in_iff, Int32.reduceToInt, mm_t1, mm_t2, mm_t3, mm_t4, mm_t10] at h1 c13i ⊢); omega)) (by omega) ?_
    refine mm_i2l 27 dX12_isLate_26 rfl ?_
    refine mm_ldc2 30 51 dX12_isLate_27 rfl j_X12_179 ?_
    refine mm_cS3i 33 dX12_isLate_30 v_X12_95 rfl (Nat.le_of_ble_eq_true rfl) ⟨rfl, rfl⟩ ⟨Nat.zero_le _, Nat.zero_le _⟩ (c_X12_in (fun h2 => ?_) (fun h2 => ?_))
    · refine mm_zret dX12_isLate_33 rfl ⟨rfl, Nat.zero_le _⟩ (Or.inr rfl) ?_
      have hne : ¬ a_ne B = 0 := by (try simp only [Int32.lt_iff_toInt_lt, Int32.le_iff_toInt_le, ← Int32.toInt_inj, vp_in_iff, Int32.reduceToInt, mm_t1, mm_t2, mm_t3, mm_t4, mm_t10] at h1 c13i ⊢); omega
      have zl : z_lt B = (B 61 (5 * (a_ne B - 1) + 1)).toInt := by unfold z_lt; rw [if_neg hne]
      rw [hf.a 61] at h2
      refine ht ?_
      unfold z_lb
      rw [decide_eq_true_eq, zl]
      (try simp only [lg_cmp_lt, lg_cmp_gt, lg_cmp_le, lg_cmp_ge] at h2); (try simp only [Int32.lt_iff_toInt_lt, Int32.le_iff_toInt_le, ← Int32.toInt_inj, vp_in_iff, Int32.reduceToInt, mm_t1, mm_t2, mm_t3, mm_t4, mm_t10, Int64.lt_iff_toInt_lt, Int64.le_iff_toInt_le, Int64.reduceToInt, Int32.toInt_toInt64] at h2 ⊢); omega
    · refine mm_zret dX12_isLate_33 rfl ⟨rfl, Nat.zero_le _⟩ (Or.inl rfl) ?_
      have hne : ¬ a_ne B = 0 := by (try simp only [Int32.lt_iff_toInt_lt, Int32.le_iff_toInt_le, ← Int32.toInt_inj, vp_in_iff, Int32.reduceToInt, mm_t1, mm_t2, mm_t3, mm_t4, mm_t10] at h1 c13i ⊢); omega
      have zl : z_lt B = (B 61 (5 * (a_ne B - 1) + 1)).toInt := by unfold z_lt; rw [if_neg hne]
      rw [hf.a 61] at h2
      refine hn ?_
      unfold z_lb
      rw [decide_eq_true_eq, zl]
      (try simp only [lg_cmp_lt, lg_cmp_gt, lg_cmp_le, lg_cmp_ge] at h2); (try simp only [Int32.lt_iff_toInt_lt, Int32.le_iff_toInt_le, ← Int32.toInt_inj, vp_in_iff, Int32.reduceToInt, mm_t1, mm_t2, mm_t3, mm_t4, mm_t10, Int64.lt_iff_toInt_lt, Int64.le_iff_toInt_le, Int64.reduceToInt, Int32.toInt_toInt64] at h2 ⊢); omega
  · refine mm_lconst 10 0 dX12_isLate_9 rfl (by decide) ?_
    refine mm_goto 27 dX12_isLate_10 (by decide) ?_
    refine mm_ldc2 30 51 dX12_isLate_27 rfl j_X12_179 ?_
    refine mm_cS3i 33 dX12_isLate_30 v_X12_95 rfl (Nat.le_of_ble_eq_true rfl) ⟨rfl, rfl⟩ ⟨Nat.zero_le _, Nat.zero_le _⟩ (c_X12_in (fun h3 => ?_) (fun h3 => ?_))
    · refine mm_zret dX12_isLate_33 rfl ⟨rfl, Nat.zero_le _⟩ (Or.inr rfl) ?_
      have hz : a_ne B = 0 := by (try simp only [Int32.lt_iff_toInt_lt, Int32.le_iff_toInt_le, ← Int32.toInt_inj, vp_in_iff, Int32.reduceToInt, mm_t1, mm_t2, mm_t3, mm_t4, mm_t10] at h1 c13i ⊢); omega
      have zl : z_lt B = 0 := by unfold z_lt; rw [if_pos hz]
      refine ht ?_
      unfold z_lb
      rw [decide_eq_true_eq, zl]
      (try simp only [lg_cmp_lt, lg_cmp_gt, lg_cmp_le, lg_cmp_ge] at h3); (try simp only [Int32.lt_iff_toInt_lt, Int32.le_iff_toInt_le, ← Int32.toInt_inj, vp_in_iff, Int32.reduceToInt, mm_t1, mm_t2, mm_t3, mm_t4, mm_t10, Int64.lt_iff_toInt_lt, Int64.le_iff_toInt_le, Int64.reduceToInt, Int32.toInt_toInt64] at h3 ⊢); omega
    · refine mm_zret dX12_isLate_33 rfl ⟨rfl, Nat.zero_le _⟩ (Or.inl rfl) ?_
      have hz : a_ne B = 0 := by (try simp only [Int32.lt_iff_toInt_lt, Int32.le_iff_toInt_le, ← Int32.toInt_inj, vp_in_iff, Int32.reduceToInt, mm_t1, mm_t2, mm_t3, mm_t4, mm_t10] at h1 c13i ⊢); omega
      have zl : z_lt B = 0 := by unfold z_lt; rw [if_pos hz]
      refine hn ?_
      unfold z_lb
      rw [decide_eq_true_eq, zl]
      (try simp only [lg_cmp_lt, lg_cmp_gt, lg_cmp_le, lg_cmp_ge] at h3); (try simp only [Int32.lt_iff_toInt_lt, Int32.le_iff_toInt_le, ← Int32.toInt_inj, vp_in_iff, Int32.reduceToInt, mm_t1, mm_t2, mm_t3, mm_t4, mm_t10, Int64.lt_iff_toInt_lt, Int64.le_iff_toInt_le, Int64.reduceToInt, Int32.toInt_toInt64] at h3 ⊢); omega

set_option maxHeartbeats 4000000 in
theorem c_X12_tells {l : Launch} {G : mm_G} {d : Nat} {M : mm_M} {Q : Int32 → mm_T → mm_M → Prop} {B : mm_M} (hB : a_ok B) (hf : fr B M) {k w a b t : Int32} (k1 : a_ne B < 24 → Q (nI (a_ne B + 1)) T0 (er M (a_ne B) k w a b t)) (k2 : ¬ a_ne B < 24 → Q (-4) T0 M) : mm_met l G d k_X12_tells [.ref 51, .int k, .int w, .int a, .int b, .int t] T0 M (mm_pi Q) := by
  have n24 := hB.ne.2
  have c13 : M 51 13 = nI (a_ne B) := by rw [hf.2.2.1]; exact hB.ne.1
  have c13i : (M 51 13).toInt = a_ne B := by rw [c13]; exact mm_ti (by omega)
  refine mm_enter 0 [.ref 51, .int k, .int w, .int a, .int b, .int t] o_X12_tells rfl rfl ?_
  refine mm_aload_0 1 dX12_tells_0 rfl ?_
  refine mm_getI 4 dX12_tells_1 f_X12_184 rfl t_51 rfl ?_
  refine mm_bipush 6 24 dX12_tells_4 rfl (by decide) ?_
  refine mm_ic_ne 12 9 dX12_tells_6 (by decide) rfl (fun h1 => ?_) (fun h1 => ?_)
  · have hlt : a_ne B < 24 := by (try simp only [Int32.lt_iff_toInt_lt, Int32.le_iff_toInt_le, ← Int32.toInt_inj, vp_in_iff, Int32.reduceToInt, mm_t1, mm_t2, mm_t3, mm_t4, mm_t10] at h1 c13i ⊢); omega
    refine mm_aload_0 13 dX12_tells_12 rfl ?_
    refine mm_getR 16 dX12_tells_13 f_X12_37 rfl t_51 rfl ?_
    refine mm_iconst 17 5 dX12_tells_16 rfl (by decide) ?_
    refine mm_aload_0 18 dX12_tells_17 rfl ?_
    refine mm_getI 21 dX12_tells_18 f_X12_184 rfl t_51 rfl ?_
    rw [c13]
    refine mm_imul 22 dX12_tells_21 rfl ?_
    refine mm_iload_1 23 dX12_tells_22 rfl ?_
    refine mm_iastoren 24 (5 * a_ne B) dX12_tells_23 rfl t_61 (by decide) (by rw [mm_l5, pk_mul]) (by omega) ?_
    refine mm_aload_0 25 dX12_tells_24 rfl ?_
    refine mm_getR 28 dX12_tells_25 f_X12_37 rfl t_51 rfl ?_
    refine mm_iconst 29 5 dX12_tells_28 rfl (by decide) ?_
    refine mm_aload_0 30 dX12_tells_29 rfl ?_
    refine mm_getI 33 dX12_tells_30 f_X12_184 rfl t_51 rfl ?_
    rw [mm_upn _ _ _ (by decide), c13]
    refine mm_imul 34 dX12_tells_33 rfl ?_
    refine mm_iconst 35 1 dX12_tells_34 rfl (by decide) ?_
    refine mm_iadd 36 dX12_tells_35 rfl ?_
    refine mm_iload_2 37 dX12_tells_36 rfl ?_
    refine mm_iastoren 38 (5 * a_ne B + 1) dX12_tells_37 rfl t_61 (by decide) (by rw [mm_l5, pk_mul, mm_l1, nI_add]) (by omega) ?_
    refine mm_aload_0 39 dX12_tells_38 rfl ?_
    refine mm_getR 42 dX12_tells_39 f_X12_37 rfl t_51 rfl ?_
    refine mm_iconst 43 5 dX12_tells_42 rfl (by decide) ?_
    refine mm_aload_0 44 dX12_tells_43 rfl ?_
    refine mm_getI 47 dX12_tells_44 f_X12_184 rfl t_51 rfl ?_
    rw [mm_upn _ _ _ (by decide), mm_upn _ _ _ (by decide), c13]
    refine mm_imul 48 dX12_tells_47 rfl ?_
    refine mm_iconst 49 2 dX12_tells_48 rfl (by decide) ?_
    refine mm_iadd 50 dX12_tells_49 rfl ?_
    refine mm_iload_3 51 dX12_tells_50 rfl ?_
    refine mm_iastoren 52 (5 * a_ne B + 2) dX12_tells_51 rfl t_61 (by decide) (by rw [mm_l5, pk_mul, mm_l2, nI_add]) (by omega) ?_
    refine mm_aload_0 53 dX12_tells_52 rfl ?_
    refine mm_getR 56 dX12_tells_53 f_X12_37 rfl t_51 rfl ?_
    refine mm_iconst 57 5 dX12_tells_56 rfl (by decide) ?_
    refine mm_aload_0 58 dX12_tells_57 rfl ?_
    refine mm_getI 61 dX12_tells_58 f_X12_184 rfl t_51 rfl ?_
    rw [mm_upn _ _ _ (by decide), mm_upn _ _ _ (by decide), mm_upn _ _ _ (by decide), c13]
    refine mm_imul 62 dX12_tells_61 rfl ?_
    refine mm_iconst 63 3 dX12_tells_62 rfl (by decide) ?_
    refine mm_iadd 64 dX12_tells_63 rfl ?_
    refine mm_iload_4 66 dX12_tells_64 rfl ?_
    refine mm_iastoren 67 (5 * a_ne B + 3) dX12_tells_66 rfl t_61 (by decide) (by rw [mm_l5, pk_mul, mm_l3, nI_add]) (by omega) ?_
    refine mm_aload_0 68 dX12_tells_67 rfl ?_
    refine mm_getR 71 dX12_tells_68 f_X12_37 rfl t_51 rfl ?_
    refine mm_iconst 72 5 dX12_tells_71 rfl (by decide) ?_
    refine mm_aload_0 73 dX12_tells_72 rfl ?_
    refine mm_getI 76 dX12_tells_73 f_X12_184 rfl t_51 rfl ?_
    rw [mm_upn _ _ _ (by decide), mm_upn _ _ _ (by decide), mm_upn _ _ _ (by decide), mm_upn _ _ _ (by decide), c13]
    refine mm_imul 77 dX12_tells_76 rfl ?_
    refine mm_iconst 78 4 dX12_tells_77 rfl (by decide) ?_
    refine mm_iadd 79 dX12_tells_78 rfl ?_
    refine mm_iload_5 81 dX12_tells_79 rfl ?_
    refine mm_iastoren 82 (5 * a_ne B + 4) dX12_tells_81 rfl t_61 (by decide) (by rw [mm_l5, pk_mul, mm_l4, nI_add]) (by omega) ?_
    refine mm_aload_0 83 dX12_tells_82 rfl ?_
    refine mm_dup 84 dX12_tells_83 rfl rfl ?_
    refine mm_getI 87 dX12_tells_84 f_X12_184 rfl t_51 rfl ?_
    rw [mm_upn _ _ _ (by decide), mm_upn _ _ _ (by decide), mm_upn _ _ _ (by decide), mm_upn _ _ _ (by decide), mm_upn _ _ _ (by decide), c13]
    refine mm_iconst 88 1 dX12_tells_87 rfl (by decide) ?_
    refine mm_iadd 89 dX12_tells_88 rfl ?_
    rw [nI_1]
    refine mm_putI 92 dX12_tells_89 p_X12_184 ⟨rfl, rfl⟩ rfl t_51 rfl ?_
    refine mm_aload_0 93 dX12_tells_92 rfl ?_
    refine mm_getI 96 dX12_tells_93 f_X12_184 rfl t_51 rfl ?_
    refine mm_iret dX12_tells_96 rfl ⟨rfl, Nat.zero_le _⟩ ?_
    rw [mm_upv]
    exact k1 hlt
  · refine mm_bipush 11 (-4) dX12_tells_9 rfl (by decide) ?_
    refine mm_iret dX12_tells_11 rfl ⟨rfl, Nat.zero_le _⟩ ?_
    exact k2 (by (try simp only [Int32.lt_iff_toInt_lt, Int32.le_iff_toInt_le, ← Int32.toInt_inj, vp_in_iff, Int32.reduceToInt, mm_t1, mm_t2, mm_t3, mm_t4, mm_t10] at h1 c13i ⊢); omega)

set_option maxHeartbeats 4000000 in
theorem c_X12_wed {l : Launch} {G : mm_G} {d : Nat} {M : mm_M} {Q : Int32 → mm_T → mm_M → Prop} {B : mm_M} (hB : a_ok B) (hf : fr B M) {w a b t : Int32} (h : ∀ r M1, r = z_tell B (z_lb B w && okw a b t) → fr (te B (er B (a_ne B) 0 w a b t) (z_lb B w && okw a b t)) M1 → Q r T0 M1) : mm_met l G (d + 2) k_X12_wed [.ref 51, .int w, .int a, .int b, .int t] T0 M (mm_pi Q) := by
  have n24 := hB.ne.2
  have c13 : M 51 13 = nI (a_ne B) := by rw [hf.2.2.1]; exact hB.ne.1
  have c13i : (M 51 13).toInt = a_ne B := by rw [c13]; exact mm_ti (by omega)
  refine mm_enter 0 [.ref 51, .int w, .int a, .int b, .int t] o_X12_wed rfl rfl ?_
  refine mm_aload_0 1 dX12_wed_0 rfl ?_
  refine mm_iload_1 2 dX12_wed_1 rfl ?_
  refine mm_cV1i 5 dX12_wed_2 v_X12_189 rfl t_51 (by decide) rfl rfl (Nat.le_of_ble_eq_true rfl) ⟨rfl, rfl⟩ ⟨Nat.zero_le _, Nat.zero_le _⟩ (c_X12_isLate hB hf (fun h1 => ?_) (fun h1 => ?_))
  · refine mm_if_eq 43 8 dX12_wed_5 (by decide) rfl (fun h => absurd h (by decide)) (fun _ => ?_)
    refine mm_iload_2 9 dX12_wed_8 rfl ?_
    refine mm_cS1i 12 dX12_wed_9 v_X12_192 rfl (Nat.le_of_ble_eq_true rfl) ⟨rfl, rfl⟩ ⟨Nat.zero_le _, Nat.zero_le _⟩ (c_X12_isAnyone  (fun h2 => ?_) (fun h2 => ?_))
    · refine mm_if_eq 43 15 dX12_wed_12 (by decide) rfl (fun h => absurd h (by decide)) (fun _ => ?_)
      refine mm_iload_3 16 dX12_wed_15 rfl ?_
      refine mm_cS1i 19 dX12_wed_16 v_X12_192 rfl (Nat.le_of_ble_eq_true rfl) ⟨rfl, rfl⟩ ⟨Nat.zero_le _, Nat.zero_le _⟩ (c_X12_isAnyone  (fun h3 => ?_) (fun h3 => ?_))
      · refine mm_if_eq 43 22 dX12_wed_19 (by decide) rfl (fun h => absurd h (by decide)) (fun _ => ?_)
        refine mm_iload_4 24 dX12_wed_22 rfl ?_
        refine mm_cS1i 27 dX12_wed_24 v_X12_173 rfl (Nat.le_of_ble_eq_true rfl) ⟨rfl, rfl⟩ ⟨Nat.zero_le _, Nat.zero_le _⟩ (c_X12_isHour  (fun h4 => ?_) (fun h4 => ?_))
        · refine mm_if_eq 43 30 dX12_wed_27 (by decide) rfl (fun h => absurd h (by decide)) (fun _ => ?_)
          refine mm_aload_0 31 dX12_wed_30 rfl ?_
          refine mm_iconst 32 0 dX12_wed_31 rfl (by decide) ?_
          refine mm_iload_1 33 dX12_wed_32 rfl ?_
          refine mm_iload_2 34 dX12_wed_33 rfl ?_
          refine mm_iload_3 35 dX12_wed_34 rfl ?_
          refine mm_iload_4 37 dX12_wed_35 rfl ?_
          refine mm_cV5i 40 dX12_wed_37 v_X12_195 rfl t_51 (by decide) rfl rfl (Nat.le_of_ble_eq_true rfl) ⟨rfl, rfl⟩ ⟨Nat.zero_le _, Nat.zero_le _⟩ (c_X12_tells hB hf (fun h5 => ?_) (fun h5 => ?_))
          · refine mm_goto 45 dX12_wed_40 (by decide) ?_
            refine mm_iret dX12_wed_45 rfl ⟨rfl, Nat.zero_le _⟩ ?_
            refine h _ _ ?_ ?_
            · unfold z_tell
              rw [if_pos (by rw [Bool.and_eq_true]; exact ⟨h1, by simp only [okw, decide_eq_true_eq]; (try simp only [Int32.lt_iff_toInt_lt, Int32.le_iff_toInt_le, ← Int32.toInt_inj, vp_in_iff, Int32.reduceToInt, mm_t1, mm_t2, mm_t3, mm_t4, mm_t10] at h2 h3 h4 ⊢); omega⟩), if_pos h5]
            · unfold te
              rw [if_pos (by rw [Bool.and_eq_true]; exact ⟨h1, by simp only [okw, decide_eq_true_eq]; (try simp only [Int32.lt_iff_toInt_lt, Int32.le_iff_toInt_le, ← Int32.toInt_inj, vp_in_iff, Int32.reduceToInt, mm_t1, mm_t2, mm_t3, mm_t4, mm_t10] at h2 h3 h4 ⊢); omega⟩), if_pos h5]
              exact hf.er _ _ _ _ _ _
          · refine mm_goto 45 dX12_wed_40 (by decide) ?_
            refine mm_iret dX12_wed_45 rfl ⟨rfl, Nat.zero_le _⟩ ?_
            refine h _ _ ?_ ?_
            · unfold z_tell
              rw [if_pos (by rw [Bool.and_eq_true]; exact ⟨h1, by simp only [okw, decide_eq_true_eq]; (try simp only [Int32.lt_iff_toInt_lt, Int32.le_iff_toInt_le, ← Int32.toInt_inj, vp_in_iff, Int32.reduceToInt, mm_t1, mm_t2, mm_t3, mm_t4, mm_t10] at h2 h3 h4 ⊢); omega⟩), if_neg h5]
            · unfold te
              rw [if_pos (by rw [Bool.and_eq_true]; exact ⟨h1, by simp only [okw, decide_eq_true_eq]; (try simp only [Int32.lt_iff_toInt_lt, Int32.le_iff_toInt_le, ← Int32.toInt_inj, vp_in_iff, Int32.reduceToInt, mm_t1, mm_t2, mm_t3, mm_t4, mm_t10] at h2 h3 h4 ⊢); omega⟩), if_neg h5]
              exact hf
        · refine mm_if_eq 43 30 dX12_wed_27 (by decide) rfl (fun _ => ?_) (fun h => absurd h (by decide))
          refine mm_bipush 45 (-2) dX12_wed_43 rfl (by decide) ?_
          refine mm_iret dX12_wed_45 rfl ⟨rfl, Nat.zero_le _⟩ ?_
          refine h _ _ ?_ ?_
          · unfold z_tell
            rw [if_neg (by rw [Bool.and_eq_true]; intro q; have q := q.2; simp only [okw, decide_eq_true_eq] at q; (try simp only [Int32.lt_iff_toInt_lt, Int32.le_iff_toInt_le, ← Int32.toInt_inj, vp_in_iff, Int32.reduceToInt, mm_t1, mm_t2, mm_t3, mm_t4, mm_t10] at h2 h3 h4); omega)]
          · unfold te
            rw [if_neg (by rw [Bool.and_eq_true]; intro q; have q := q.2; simp only [okw, decide_eq_true_eq] at q; (try simp only [Int32.lt_iff_toInt_lt, Int32.le_iff_toInt_le, ← Int32.toInt_inj, vp_in_iff, Int32.reduceToInt, mm_t1, mm_t2, mm_t3, mm_t4, mm_t10] at h2 h3 h4); omega)]
            exact hf
      · refine mm_if_eq 43 22 dX12_wed_19 (by decide) rfl (fun _ => ?_) (fun h => absurd h (by decide))
        refine mm_bipush 45 (-2) dX12_wed_43 rfl (by decide) ?_
        refine mm_iret dX12_wed_45 rfl ⟨rfl, Nat.zero_le _⟩ ?_
        refine h _ _ ?_ ?_
        · unfold z_tell
          rw [if_neg (by rw [Bool.and_eq_true]; intro q; have q := q.2; simp only [okw, decide_eq_true_eq] at q; (try simp only [Int32.lt_iff_toInt_lt, Int32.le_iff_toInt_le, ← Int32.toInt_inj, vp_in_iff, Int32.reduceToInt, mm_t1, mm_t2, mm_t3, mm_t4, mm_t10] at h2 h3); omega)]
        · unfold te
          rw [if_neg (by rw [Bool.and_eq_true]; intro q; have q := q.2; simp only [okw, decide_eq_true_eq] at q; (try simp only [Int32.lt_iff_toInt_lt, Int32.le_iff_toInt_le, ← Int32.toInt_inj, vp_in_iff, Int32.reduceToInt, mm_t1, mm_t2, mm_t3, mm_t4, mm_t10] at h2 h3); omega)]
          exact hf
    · refine mm_if_eq 43 15 dX12_wed_12 (by decide) rfl (fun _ => ?_) (fun h => absurd h (by decide))
      refine mm_bipush 45 (-2) dX12_wed_43 rfl (by decide) ?_
      refine mm_iret dX12_wed_45 rfl ⟨rfl, Nat.zero_le _⟩ ?_
      refine h _ _ ?_ ?_
      · unfold z_tell
        rw [if_neg (by rw [Bool.and_eq_true]; intro q; have q := q.2; simp only [okw, decide_eq_true_eq] at q; (try simp only [Int32.lt_iff_toInt_lt, Int32.le_iff_toInt_le, ← Int32.toInt_inj, vp_in_iff, Int32.reduceToInt, mm_t1, mm_t2, mm_t3, mm_t4, mm_t10] at h2); omega)]
      · unfold te
        rw [if_neg (by rw [Bool.and_eq_true]; intro q; have q := q.2; simp only [okw, decide_eq_true_eq] at q; (try simp only [Int32.lt_iff_toInt_lt, Int32.le_iff_toInt_le, ← Int32.toInt_inj, vp_in_iff, Int32.reduceToInt, mm_t1, mm_t2, mm_t3, mm_t4, mm_t10] at h2); omega)]
        exact hf
  · refine mm_if_eq 43 8 dX12_wed_5 (by decide) rfl (fun _ => ?_) (fun h => absurd h (by decide))
    refine mm_bipush 45 (-2) dX12_wed_43 rfl (by decide) ?_
    refine mm_iret dX12_wed_45 rfl ⟨rfl, Nat.zero_le _⟩ ?_
    refine h _ _ ?_ ?_
    · unfold z_tell
      rw [if_neg (by rw [Bool.and_eq_true]; exact fun q => h1 q.1)]
    · unfold te
      rw [if_neg (by rw [Bool.and_eq_true]; exact fun q => h1 q.1)]
      exact hf

set_option maxHeartbeats 4000000 in
theorem c_X12_ends {l : Launch} {G : mm_G} {d : Nat} {M : mm_M} {Q : Int32 → mm_T → mm_M → Prop} {B : mm_M} (hB : a_ok B) (hf : fr B M) {w k p : Int32} (h : ∀ r M1, r = z_tell B (z_lb B w && okd k p) → fr (te B (er B (a_ne B) (1 + k) w p p 12) (z_lb B w && okd k p)) M1 → Q r T0 M1) : mm_met l G (d + 2) k_X12_ends [.ref 51, .int w, .int k, .int p] T0 M (mm_pi Q) := by
  have n24 := hB.ne.2
  have c13 : M 51 13 = nI (a_ne B) := by rw [hf.2.2.1]; exact hB.ne.1
  have c13i : (M 51 13).toInt = a_ne B := by rw [c13]; exact mm_ti (by omega)
  refine mm_enter 0 [.ref 51, .int w, .int k, .int p] o_X12_ends rfl rfl ?_
  refine mm_aload_0 1 dX12_ends_0 rfl ?_
  refine mm_iload_1 2 dX12_ends_1 rfl ?_
  refine mm_cV1i 5 dX12_ends_2 v_X12_189 rfl t_51 (by decide) rfl rfl (Nat.le_of_ble_eq_true rfl) ⟨rfl, rfl⟩ ⟨Nat.zero_le _, Nat.zero_le _⟩ (c_X12_isLate hB hf (fun h1 => ?_) (fun h1 => ?_))
  · refine mm_if_eq 37 8 dX12_ends_5 (by decide) rfl (fun h => absurd h (by decide)) (fun _ => ?_)
    refine mm_iload_2 9 dX12_ends_8 rfl ?_
    refine mm_cS1i 12 dX12_ends_9 v_X12_124 rfl (Nat.le_of_ble_eq_true rfl) ⟨rfl, rfl⟩ ⟨Nat.zero_le _, Nat.zero_le _⟩ (c_X12_isTwo  (fun h2 => ?_) (fun h2 => ?_))
    · refine mm_if_eq 37 15 dX12_ends_12 (by decide) rfl (fun h => absurd h (by decide)) (fun _ => ?_)
      refine mm_iload_3 16 dX12_ends_15 rfl ?_
      refine mm_cS1i 19 dX12_ends_16 v_X12_192 rfl (Nat.le_of_ble_eq_true rfl) ⟨rfl, rfl⟩ ⟨Nat.zero_le _, Nat.zero_le _⟩ (c_X12_isAnyone  (fun h3 => ?_) (fun h3 => ?_))
      · refine mm_if_eq 37 22 dX12_ends_19 (by decide) rfl (fun h => absurd h (by decide)) (fun _ => ?_)
        refine mm_aload_0 23 dX12_ends_22 rfl ?_
        refine mm_iconst 24 1 dX12_ends_23 rfl (by decide) ?_
        refine mm_iload_2 25 dX12_ends_24 rfl ?_
        refine mm_iadd 26 dX12_ends_25 rfl ?_
        refine mm_iload_1 27 dX12_ends_26 rfl ?_
        refine mm_iload_3 28 dX12_ends_27 rfl ?_
        refine mm_iload_3 29 dX12_ends_28 rfl ?_
        refine mm_bipush 31 12 dX12_ends_29 rfl (by decide) ?_
        refine mm_cV5i 34 dX12_ends_31 v_X12_195 rfl t_51 (by decide) rfl rfl (Nat.le_of_ble_eq_true rfl) ⟨rfl, rfl⟩ ⟨Nat.zero_le _, Nat.zero_le _⟩ (c_X12_tells hB hf (fun h4 => ?_) (fun h4 => ?_))
        · refine mm_goto 39 dX12_ends_34 (by decide) ?_
          refine mm_iret dX12_ends_39 rfl ⟨rfl, Nat.zero_le _⟩ ?_
          refine h _ _ ?_ ?_
          · unfold z_tell
            rw [if_pos (by rw [Bool.and_eq_true]; exact ⟨h1, by simp only [okd, decide_eq_true_eq]; (try simp only [Int32.lt_iff_toInt_lt, Int32.le_iff_toInt_le, ← Int32.toInt_inj, vp_in_iff, Int32.reduceToInt, mm_t1, mm_t2, mm_t3, mm_t4, mm_t10] at h2 h3 ⊢); omega⟩), if_pos h4]
          · unfold te
            rw [if_pos (by rw [Bool.and_eq_true]; exact ⟨h1, by simp only [okd, decide_eq_true_eq]; (try simp only [Int32.lt_iff_toInt_lt, Int32.le_iff_toInt_le, ← Int32.toInt_inj, vp_in_iff, Int32.reduceToInt, mm_t1, mm_t2, mm_t3, mm_t4, mm_t10] at h2 h3 ⊢); omega⟩), if_pos h4]
            exact hf.er _ _ _ _ _ _
        · refine mm_goto 39 dX12_ends_34 (by decide) ?_
          refine mm_iret dX12_ends_39 rfl ⟨rfl, Nat.zero_le _⟩ ?_
          refine h _ _ ?_ ?_
          · unfold z_tell
            rw [if_pos (by rw [Bool.and_eq_true]; exact ⟨h1, by simp only [okd, decide_eq_true_eq]; (try simp only [Int32.lt_iff_toInt_lt, Int32.le_iff_toInt_le, ← Int32.toInt_inj, vp_in_iff, Int32.reduceToInt, mm_t1, mm_t2, mm_t3, mm_t4, mm_t10] at h2 h3 ⊢); omega⟩), if_neg h4]
          · unfold te
            rw [if_pos (by rw [Bool.and_eq_true]; exact ⟨h1, by simp only [okd, decide_eq_true_eq]; (try simp only [Int32.lt_iff_toInt_lt, Int32.le_iff_toInt_le, ← Int32.toInt_inj, vp_in_iff, Int32.reduceToInt, mm_t1, mm_t2, mm_t3, mm_t4, mm_t10] at h2 h3 ⊢); omega⟩), if_neg h4]
            exact hf
      · refine mm_if_eq 37 22 dX12_ends_19 (by decide) rfl (fun _ => ?_) (fun h => absurd h (by decide))
        refine mm_bipush 39 (-2) dX12_ends_37 rfl (by decide) ?_
        refine mm_iret dX12_ends_39 rfl ⟨rfl, Nat.zero_le _⟩ ?_
        refine h _ _ ?_ ?_
        · unfold z_tell
          rw [if_neg (by rw [Bool.and_eq_true]; intro q; have q := q.2; simp only [okd, decide_eq_true_eq] at q; (try simp only [Int32.lt_iff_toInt_lt, Int32.le_iff_toInt_le, ← Int32.toInt_inj, vp_in_iff, Int32.reduceToInt, mm_t1, mm_t2, mm_t3, mm_t4, mm_t10] at h2 h3); omega)]
        · unfold te
          rw [if_neg (by rw [Bool.and_eq_true]; intro q; have q := q.2; simp only [okd, decide_eq_true_eq] at q; (try simp only [Int32.lt_iff_toInt_lt, Int32.le_iff_toInt_le, ← Int32.toInt_inj, vp_in_iff, Int32.reduceToInt, mm_t1, mm_t2, mm_t3, mm_t4, mm_t10] at h2 h3); omega)]
          exact hf
    · refine mm_if_eq 37 15 dX12_ends_12 (by decide) rfl (fun _ => ?_) (fun h => absurd h (by decide))
      refine mm_bipush 39 (-2) dX12_ends_37 rfl (by decide) ?_
      refine mm_iret dX12_ends_39 rfl ⟨rfl, Nat.zero_le _⟩ ?_
      refine h _ _ ?_ ?_
      · unfold z_tell
        rw [if_neg (by rw [Bool.and_eq_true]; intro q; have q := q.2; simp only [okd, decide_eq_true_eq] at q; (try simp only [Int32.lt_iff_toInt_lt, Int32.le_iff_toInt_le, ← Int32.toInt_inj, vp_in_iff, Int32.reduceToInt, mm_t1, mm_t2, mm_t3, mm_t4, mm_t10] at h2); omega)]
      · unfold te
        rw [if_neg (by rw [Bool.and_eq_true]; intro q; have q := q.2; simp only [okd, decide_eq_true_eq] at q; (try simp only [Int32.lt_iff_toInt_lt, Int32.le_iff_toInt_le, ← Int32.toInt_inj, vp_in_iff, Int32.reduceToInt, mm_t1, mm_t2, mm_t3, mm_t4, mm_t10] at h2); omega)]
        exact hf
  · refine mm_if_eq 37 8 dX12_ends_5 (by decide) rfl (fun _ => ?_) (fun h => absurd h (by decide))
    refine mm_bipush 39 (-2) dX12_ends_37 rfl (by decide) ?_
    refine mm_iret dX12_ends_39 rfl ⟨rfl, Nat.zero_le _⟩ ?_
    refine h _ _ ?_ ?_
    · unfold z_tell
      rw [if_neg (by rw [Bool.and_eq_true]; exact fun q => h1 q.1)]
    · unfold te
      rw [if_neg (by rw [Bool.and_eq_true]; exact fun q => h1 q.1)]
      exact hf

