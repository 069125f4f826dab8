set_option maxHeartbeats 4000000 in
theorem c_X12_here {l : Launch} {G : mm_G} {d : Nat} {M : mm_M} {Q : Int32 → mm_T → mm_M → Prop} {t n a : Nat} (ht : t ≤ 1) (hn : M 57 t = nI n) (hc : n ≤ 60 ∧ 20 * t + n ≤ 80) (ha : M 51 7 = nI a) (hb : a ≤ 60) {x : Int32} (hx : x = nI t) (h : ∀ r, r = (if a < n then M 56 (20 * t + a) else -1) → Q r T0 (M)) : mm_met l G d k_X12_here [.ref 51, .int x] T0 M (mm_pi Q) := by
  have ai : (M 51 7).toInt = a := by rw [ha]; exact mm_ti (by omega)
  have ni : (M 57 t).toInt = n := by rw [hn]; exact mm_ti (by omega)
  refine mm_enter 0 [.ref 51, .int x] o_X12_here rfl rfl ?_
  refine mm_aload_0 1 dX12_here_0 rfl ?_
  refine mm_getI 4 dX12_here_1 f_X12_132 rfl t_51 rfl ?_
  refine mm_aload_0 5 dX12_here_4 rfl ?_
  refine mm_getR 8 dX12_here_5 f_X12_25 rfl t_51 rfl ?_
  refine mm_iload_1 9 dX12_here_8 rfl ?_
  refine mm_ialoadn 10 (t) dX12_here_9 rfl t_57 (by decide) (hx) (by omega) ?_
  refine mm_ic_ge 30 13 dX12_here_10 (by decide) rfl (fun h1 => ?_) (fun h1 => ?_)
  · refine mm_iconst 31 (-1) dX12_here_30 rfl (by decide) ?_
    refine mm_iret dX12_here_31 rfl ⟨rfl, Nat.zero_le _⟩ ?_
    refine h _ ?_
    (try simp only [ai, ni, Int32.lt_iff_toInt_lt, Int32.le_iff_toInt_le, ← Int32.toInt_inj, vp_in_iff, Int32.reduceToInt, mm_t1, mm_t2, mm_t3, mm_t4, mm_t10] at h1)
    rw [if_neg (by omega)]
  · refine mm_aload_0 14 dX12_here_13 rfl ?_
    refine mm_getR 17 dX12_here_14 f_X12_22 rfl t_51 rfl ?_
    refine mm_bipush 19 20 dX12_here_17 rfl (by decide) ?_
    refine mm_iload_1 20 dX12_here_19 rfl ?_
    refine mm_imul 21 dX12_here_20 rfl ?_
    refine mm_aload_0 22 dX12_here_21 rfl ?_
    refine mm_getI 25 dX12_here_22 f_X12_132 rfl t_51 rfl ?_
    refine mm_iadd 26 dX12_here_25 rfl ?_
    refine mm_ialoadn 27 (20 * t + a) dX12_here_26 rfl t_56 (by decide) (by rw [hx, ha, mm_l20, pk_mul, nI_add]) (by (try simp only [ai, ni, Int32.lt_iff_toInt_lt, Int32.le_iff_toInt_le, ← Int32.toInt_inj, vp_in_iff, Int32.reduceToInt, mm_t1, mm_t2, mm_t3, mm_t4, mm_t10] at h1); omega) ?_
    refine mm_goto 31 dX12_here_27 (by decide) ?_
    refine mm_iret dX12_here_31 rfl ⟨rfl, Nat.zero_le _⟩ ?_
    refine h _ ?_
    (try simp only [ai, ni, Int32.lt_iff_toInt_lt, Int32.le_iff_toInt_le, ← Int32.toInt_inj, vp_in_iff, Int32.reduceToInt, mm_t1, mm_t2, mm_t3, mm_t4, mm_t10] at h1)
    rw [if_pos (by omega)]

set_option maxHeartbeats 4000000 in
theorem c_X12_figure {l : Launch} {G : mm_G} {d : Nat} {M : mm_M} {Q : Int32 → mm_T → mm_M → Prop} {t n a : Nat} (ht : t ≤ 1) (hn : M 57 t = nI n) (hc : n ≤ 60 ∧ 20 * t + n ≤ 80) (ha : M 51 7 = nI a) (hb : a ≤ 60) {x lo hi : Int32} (hx : x = nI t) (hB : ∀ j, j < n → 0 ≤ (M 56 (20 * t + j)).toInt ∧ (M 56 (20 * t + j)).toInt ≤ 255) (hlo : 0 ≤ lo.toInt) (h1 : a < n ∧ lo.toInt ≤ (M 56 (20 * t + a)).toInt - 48 ∧ (M 56 (20 * t + a)).toInt - 48 ≤ hi.toInt → Q (M 56 (20 * t + a) - 48) T0 (mm_up M 51 7 (nI (a + 1)))) (h2 : ¬ (a < n ∧ lo.toInt ≤ (M 56 (20 * t + a)).toInt - 48 ∧ (M 56 (20 * t + a)).toInt - 48 ≤ hi.toInt) → Q (-1) T0 M) : mm_met l G (d + 1) k_X12_figure [.ref 51, .int x, .int lo, .int hi] T0 M (mm_pi Q) := by
  refine mm_enter 1 [.ref 51, .int x, .int lo, .int hi, .double 0] o_X12_figure rfl rfl ?_
  refine mm_aload_0 1 dX12_figure_0 rfl ?_
  refine mm_iload_1 2 dX12_figure_1 rfl ?_
  refine mm_cV1i 5 dX12_figure_2 v_X12_135 rfl t_51 (by decide) rfl rfl (Nat.le_of_ble_eq_true rfl) ⟨rfl, rfl⟩ ⟨Nat.zero_le _, Nat.zero_le _⟩ (c_X12_here ht hn hc ha hb hx (fun r1 e2 => ?_))
  refine mm_bipush 7 48 dX12_figure_5 rfl (by decide) ?_
  refine mm_isub 8 dX12_figure_7 rfl ?_
  refine mm_istore_4 10 dX12_figure_8 rfl rfl ?_
  refine mm_iload_4 12 dX12_figure_10 rfl ?_
  refine mm_i2l 13 dX12_figure_12 rfl ?_
  refine mm_iload_2 14 dX12_figure_13 rfl ?_
  refine mm_i2l 15 dX12_figure_14 rfl ?_
  refine mm_iload_3 16 dX12_figure_15 rfl ?_
  refine mm_i2l 17 dX12_figure_16 rfl ?_
  refine mm_cS3i 20 dX12_figure_17 v_X12_95 rfl (Nat.le_of_ble_eq_true rfl) ⟨rfl, rfl⟩ ⟨Nat.zero_le _, Nat.zero_le _⟩ (c_X12_in (fun h3 => ?_) (fun h3 => ?_))
  · refine mm_if_ne 25 23 dX12_figure_20 (by decide) rfl (fun _ => ?_) (fun h => absurd h (by decide))
    refine mm_aload_0 26 dX12_figure_25 rfl ?_
    refine mm_dup 27 dX12_figure_26 rfl rfl ?_
    refine mm_getI 30 dX12_figure_27 f_X12_132 rfl t_51 rfl ?_
    refine mm_iconst 31 1 dX12_figure_30 rfl (by decide) ?_
    refine mm_iadd 32 dX12_figure_31 rfl ?_
    refine mm_putI 35 dX12_figure_32 p_X12_132 ⟨rfl, rfl⟩ rfl t_51 rfl ?_
    refine mm_iload_4 37 dX12_figure_35 rfl ?_
    refine mm_iret dX12_figure_37 rfl ⟨rfl, Nat.zero_le _⟩ ?_
    simp only [Int32.toInt_toInt64] at h3
    by_cases hq : a < n
    · have hBa := hB a hq
      rw [if_pos hq] at e2
      rw [e2, mm_sub (by simp only [Int32.reduceToInt]; omega)] at h3
      simp only [Int32.reduceToInt] at h3
      rw [e2, ha, nI_1]
      exact h1 ⟨hq, h3⟩
    · rw [if_neg hq] at e2
      rw [e2] at h3
      have : ((-1 : Int32) - 48).toInt = -49 := by decide
      rw [this] at h3
      omega
  · refine mm_if_ne 25 23 dX12_figure_20 (by decide) rfl (fun h => absurd h (by decide)) (fun _ => ?_)
    refine mm_iconst 24 (-1) dX12_figure_23 rfl (by decide) ?_
    refine mm_iret dX12_figure_24 rfl ⟨rfl, Nat.zero_le _⟩ ?_
    simp only [Int32.toInt_toInt64] at h3
    by_cases hq : a < n
    · have hBa := hB a hq
      rw [if_pos hq] at e2
      rw [e2, mm_sub (by simp only [Int32.reduceToInt]; omega)] at h3
      simp only [Int32.reduceToInt] at h3
      exact h2 (fun q => h3 q.2)
    · rw [if_neg hq] at e2
      rw [e2] at h3
      have : ((-1 : Int32) - 48).toInt = -49 := by decide
      rw [this] at h3
      exact h2 (fun q => hq q.1)

set_option maxHeartbeats 4000000 in
theorem c_X12_readsLand {l : Launch} {G : mm_G} {d : Nat} {M : mm_M} {Q : Int32 → mm_T → mm_M → Prop} {n i : Nat} (hn : M 57 0 = nI n) (h20 : n ≤ 20) (ha : M 51 7 = nI (3 * i)) (hl : M 51 8 = nI i) (hi : i ≤ 6) (hB : ∀ j, j < n → 0 ≤ (M 56 j).toInt ∧ (M 56 j).toInt ≤ 255) (kA : 3 * i + 1 < n → q_lg (M 56) (3 * i) = true → q_lg (M 56) (3 * i + 1) = true → Q 1 T0 (mm_up (mm_up (mm_up (mm_up M 51 7 (nI (3 * i + 1))) 51 7 (nI (3 * i + 2))) 58 i (q_lw (M 56) i)) 51 8 (nI (i + 1)))) (kB : (n ≤ 3 * i ∨ q_lg (M 56) (3 * i) = false) → Q 0 T0 M) (kC : 3 * i < n → q_lg (M 56) (3 * i) = true → (n ≤ 3 * i + 1 ∨ q_lg (M 56) (3 * i + 1) = false) → Q 0 T0 (mm_up M 51 7 (nI (3 * i + 1)))) : mm_met l G (d + 2) k_X12_readsLand [.ref 51] T0 M (mm_pi Q) := by
  have li : (M 51 8).toInt = i := by rw [hl]; exact mm_ti (by omega)
  have g0 : ∀ e, e = 3 * i ∨ e = 3 * i + 1 → i < 6 → (48 ≤ (M 56 e).toInt ∧ (M 56 e).toInt ≤ 57) → q_lg (M 56) e = true := by
    intro e he h6 hd
    unfold q_lg
    rw [if_neg (by omega)]
    exact decide_eq_true (by omega)
  have g1 : ∀ e, e = 3 * i ∨ e = 3 * i + 1 → ¬ (i < 6 ∧ 48 ≤ (M 56 e).toInt ∧ (M 56 e).toInt ≤ 57) → q_lg (M 56) e = false := by
    intro e he hd
    unfold q_lg
    rw [if_neg (by omega)]
    exact decide_eq_false (by omega)
  refine mm_enter 2 [.ref 51, .double 0, .double 0] o_X12_readsLand rfl rfl ?_
  refine mm_aload_0 1 dX12_readsLand_0 rfl ?_
  refine mm_getI 4 dX12_readsLand_1 f_X12_138 rfl t_51 rfl ?_
  refine mm_bipush 6 6 dX12_readsLand_4 rfl (by decide) ?_
  refine mm_ic_ne 11 9 dX12_readsLand_6 (by decide) rfl (fun h1 => ?_) (fun h1 => ?_)
  · refine mm_aload_0 12 dX12_readsLand_11 rfl ?_
    refine mm_iconst 13 0 dX12_readsLand_12 rfl (by decide) ?_
    refine mm_iconst 14 0 dX12_readsLand_13 rfl (by decide) ?_
    refine mm_bipush 16 9 dX12_readsLand_14 rfl (by decide) ?_
    refine mm_cV3i 19 dX12_readsLand_16 v_X12_141 rfl t_51 (by decide) rfl rfl (Nat.le_of_ble_eq_true rfl) ⟨rfl, rfl⟩ ⟨Nat.zero_le _, Nat.zero_le _⟩ (c_X12_figure (t := 0) (n := n) (a := 3 * i) (by omega) hn (by omega) ha (by omega) rfl (fun j hj => by rw [Nat.mul_zero, Nat.zero_add]; exact hB j hj) (by decide) (fun h2 => ?_) (fun h2 => ?_))
    · refine mm_istore_1 20 dX12_readsLand_19 rfl rfl ?_
      refine mm_iload_1 21 dX12_readsLand_20 rfl ?_
      refine mm_iconst 22 (-1) dX12_readsLand_21 rfl (by decide) ?_
      refine mm_ic_ne 29 25 dX12_readsLand_22 (by decide) rfl (fun h3 => ?_) (fun h3 => ?_)
      · refine mm_aload_0 30 dX12_readsLand_29 rfl ?_
        refine mm_iconst 31 0 dX12_readsLand_30 rfl (by decide) ?_
        refine mm_iconst 32 0 dX12_readsLand_31 rfl (by decide) ?_
        refine mm_bipush 34 9 dX12_readsLand_32 rfl (by decide) ?_
        refine mm_cV3i 37 dX12_readsLand_34 v_X12_141 rfl t_51 (by decide) rfl rfl (Nat.le_of_ble_eq_true rfl) ⟨rfl, rfl⟩ ⟨Nat.zero_le _, Nat.zero_le _⟩ (c_X12_figure (t := 0) (n := n) (a := 3 * i + 1) (by omega) (by rw [mm_upn _ _ _ (by decide)]; exact hn) (by omega) (by rw [mm_upv]) (by omega) rfl (fun j hj => by rw [mm_upn _ _ _ (by decide), Nat.mul_zero, Nat.zero_add]; exact hB j hj) (by decide) (fun h4 => ?_) (fun h4 => ?_))
        · refine mm_istore_2 38 dX12_readsLand_37 rfl rfl ?_
          refine mm_iload_2 39 dX12_readsLand_38 rfl ?_
          refine mm_iconst 40 (-1) dX12_readsLand_39 rfl (by decide) ?_
          refine mm_ic_ne 45 43 dX12_readsLand_40 (by decide) rfl (fun h5 => ?_) (fun h5 => ?_)
          · refine mm_aload_0 46 dX12_readsLand_45 rfl ?_
            refine mm_getR 49 dX12_readsLand_46 f_X12_28 rfl t_51 rfl ?_
            refine mm_aload_0 50 dX12_readsLand_49 rfl ?_
            refine mm_getI 53 dX12_readsLand_50 f_X12_138 rfl t_51 rfl ?_
            refine mm_bipush 55 10 dX12_readsLand_53 rfl (by decide) ?_
            refine mm_iload_1 56 dX12_readsLand_55 rfl ?_
            refine mm_imul 57 dX12_readsLand_56 rfl ?_
            refine mm_iload_2 58 dX12_readsLand_57 rfl ?_
            refine mm_iadd 59 dX12_readsLand_58 rfl ?_
            refine mm_iastoren 60 (i) dX12_readsLand_59 rfl t_58 (by decide) (by simp [mm_up, va_up, upd, hl]) (by (try simp only [li, Int32.lt_iff_toInt_lt, Int32.le_iff_toInt_le, ← Int32.toInt_inj, vp_in_iff, Int32.reduceToInt, mm_t1, mm_t2, mm_t3, mm_t4, mm_t10] at h1); omega) ?_
            refine mm_aload_0 61 dX12_readsLand_60 rfl ?_
            refine mm_dup 62 dX12_readsLand_61 rfl rfl ?_
            refine mm_getI 65 dX12_readsLand_62 f_X12_138 rfl t_51 rfl ?_
            refine mm_iconst 66 1 dX12_readsLand_65 rfl (by decide) ?_
            refine mm_iadd 67 dX12_readsLand_66 rfl ?_
            refine mm_putI 70 dX12_readsLand_67 p_X12_138 ⟨rfl, rfl⟩ rfl t_51 rfl ?_
            refine mm_iconst 71 1 dX12_readsLand_70 rfl (by decide) ?_
            refine mm_zret dX12_readsLand_71 rfl ⟨rfl, Nat.zero_le _⟩ (Or.inr rfl) ?_
            (try simp only [li, Int32.lt_iff_toInt_lt, Int32.le_iff_toInt_le, ← Int32.toInt_inj, vp_in_iff, Int32.reduceToInt, mm_t1, mm_t2, mm_t3, mm_t4, mm_t10] at h1)
            simp only [Nat.mul_zero, Nat.zero_add, Int32.reduceToInt] at h2
            rw [mm_upn _ _ _ (by decide)] at h4
            simp only [Nat.mul_zero, Nat.zero_add, Int32.reduceToInt] at h4
            have d0 := g0 _ (Or.inl rfl) (by omega) ⟨by omega, by omega⟩
            have d1 := g0 _ (Or.inr rfl) (by omega) ⟨by omega, by omega⟩
            have hh := kA h4.1 d0 d1
            have e8 : (mm_up (mm_up (mm_up M 51 7 (nI (3 * i + 1))) 51 7 (nI (3 * i + 1 + 1))) 58 i (10 * (M 56 (20 * 0 + 3 * i) - 48) + (mm_up M 51 7 (nI (3 * i + 1)) 56 (20 * 0 + (3 * i + 1)) - 48))) 51 8 + 1 = nI (i + 1) := by
              simp [mm_up, va_up, upd, hl, nI_1]
            rw [e8, mm_upn _ _ _ (by decide)]
            simp only [Nat.mul_zero, Nat.zero_add]
            exact hh
          · refine mm_iconst 44 0 dX12_readsLand_43 rfl (by decide) ?_
            refine mm_zret dX12_readsLand_44 rfl ⟨rfl, Nat.zero_le _⟩ (Or.inl rfl) ?_
            (try simp only [li, Int32.lt_iff_toInt_lt, Int32.le_iff_toInt_le, ← Int32.toInt_inj, vp_in_iff, Int32.reduceToInt, mm_t1, mm_t2, mm_t3, mm_t4, mm_t10] at h1)
            simp only [Nat.mul_zero, Nat.zero_add, Int32.reduceToInt] at h2
            rw [mm_upn _ _ _ (by decide)] at h4
            simp only [Nat.mul_zero, Nat.zero_add, Int32.reduceToInt] at h4
            exfalso
            have q := congrArg Int32.toInt h5
            have hBa := hB (3 * i + 1) h4.1
            rw [mm_upn _ _ _ (by decide), mm_sub (by simp only [Nat.mul_zero, Nat.zero_add, Int32.reduceToInt]; omega)] at q
            simp only [Nat.mul_zero, Nat.zero_add, Int32.reduceToInt, mm_t1] at q
            omega
        · refine mm_istore_2 38 dX12_readsLand_37 rfl rfl ?_
          refine mm_iload_2 39 dX12_readsLand_38 rfl ?_
          refine mm_iconst 40 (-1) dX12_readsLand_39 rfl (by decide) ?_
          refine mm_ic_ne 45 43 dX12_readsLand_40 (by decide) rfl (fun h => absurd h (by decide)) (fun _ => ?_)
          refine mm_iconst 44 0 dX12_readsLand_43 rfl (by decide) ?_
          refine mm_zret dX12_readsLand_44 rfl ⟨rfl, Nat.zero_le _⟩ (Or.inl rfl) ?_
          (try simp only [li, Int32.lt_iff_toInt_lt, Int32.le_iff_toInt_le, ← Int32.toInt_inj, vp_in_iff, Int32.reduceToInt, mm_t1, mm_t2, mm_t3, mm_t4, mm_t10] at h1)
          simp only [Nat.mul_zero, Nat.zero_add, Int32.reduceToInt] at h2
          rw [mm_upn _ _ _ (by decide)] at h4
          simp only [Nat.mul_zero, Nat.zero_add, Int32.reduceToInt] at h4
          have d0 := g0 _ (Or.inl rfl) (by omega) ⟨by omega, by omega⟩
          refine kC h2.1 d0 ?_
          by_cases q : 3 * i + 1 < n
          · exact Or.inr (g1 _ (Or.inr rfl) (by omega))
          · exact Or.inl (by omega)
      · refine mm_iconst 26 (-1) dX12_readsLand_25 rfl (by decide) ?_
        refine mm_goto 37 dX12_readsLand_26 (by decide) ?_
        refine mm_istore_2 38 dX12_readsLand_37 rfl rfl ?_
        refine mm_iload_2 39 dX12_readsLand_38 rfl ?_
        refine mm_iconst 40 (-1) dX12_readsLand_39 rfl (by decide) ?_
        refine mm_ic_ne 45 43 dX12_readsLand_40 (by decide) rfl (fun h => absurd h (by decide)) (fun _ => ?_)
        refine mm_iconst 44 0 dX12_readsLand_43 rfl (by decide) ?_
        refine mm_zret dX12_readsLand_44 rfl ⟨rfl, Nat.zero_le _⟩ (Or.inl rfl) ?_
        (try simp only [li, Int32.lt_iff_toInt_lt, Int32.le_iff_toInt_le, ← Int32.toInt_inj, vp_in_iff, Int32.reduceToInt, mm_t1, mm_t2, mm_t3, mm_t4, mm_t10] at h1)
        simp only [Nat.mul_zero, Nat.zero_add, Int32.reduceToInt] at h2
        exfalso
        have q := congrArg Int32.toInt h3
        have hBa := hB (3 * i) h2.1
        rw [mm_sub (by simp only [Nat.mul_zero, Nat.zero_add, Int32.reduceToInt]; omega)] at q
        simp only [Nat.mul_zero, Nat.zero_add, Int32.reduceToInt, mm_t1] at q
        omega
    · refine mm_istore_1 20 dX12_readsLand_19 rfl rfl ?_
      refine mm_iload_1 21 dX12_readsLand_20 rfl ?_
      refine mm_iconst 22 (-1) dX12_readsLand_21 rfl (by decide) ?_
      refine mm_ic_ne 29 25 dX12_readsLand_22 (by decide) rfl (fun h => absurd h (by decide)) (fun _ => ?_)
      refine mm_iconst 26 (-1) dX12_readsLand_25 rfl (by decide) ?_
      refine mm_goto 37 dX12_readsLand_26 (by decide) ?_
      refine mm_istore_2 38 dX12_readsLand_37 rfl rfl ?_
      refine mm_iload_2 39 dX12_readsLand_38 rfl ?_
      refine mm_iconst 40 (-1) dX12_readsLand_39 rfl (by decide) ?_
      refine mm_ic_ne 45 43 dX12_readsLand_40 (by decide) rfl (fun h => absurd h (by decide)) (fun _ => ?_)
      refine mm_iconst 44 0 dX12_readsLand_43 rfl (by decide) ?_
      refine mm_zret dX12_readsLand_44 rfl ⟨rfl, Nat.zero_le _⟩ (Or.inl rfl) ?_
      (try simp only [li, Int32.lt_iff_toInt_lt, Int32.le_iff_toInt_le, ← Int32.toInt_inj, vp_in_iff, Int32.reduceToInt, mm_t1, mm_t2, mm_t3, mm_t4, mm_t10] at h1)
      simp only [Nat.mul_zero, Nat.zero_add, Int32.reduceToInt] at h2
      refine kB ?_
      by_cases q : 3 * i < n
      · exact Or.inr (g1 _ (Or.inl rfl) (by omega))
      · exact Or.inl (by omega)
  · refine mm_iconst 10 0 dX12_readsLand_9 rfl (by decide) ?_
    refine mm_zret dX12_readsLand_10 rfl ⟨rfl, Nat.zero_le _⟩ (Or.inl rfl) ?_
    (try simp only [li, Int32.lt_iff_toInt_lt, Int32.le_iff_toInt_le, ← Int32.toInt_inj, vp_in_iff, Int32.reduceToInt, mm_t1, mm_t2, mm_t3, mm_t4, mm_t10] at h1)
    exact kB (Or.inr (g1 _ (Or.inl rfl) (by omega)))

