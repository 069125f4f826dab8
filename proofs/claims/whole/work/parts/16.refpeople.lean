set_option maxHeartbeats 4000000 in
theorem c_X12_reads0 {l : Launch} {G : mm_G} {d : Nat} {M : mm_M} {Q : Int32 → mm_T → mm_M → Prop} {n : Nat} (hn : M 57 0 = nI n) (h20 : n ≤ 20) (hB : ∀ j, j < n → 0 ≤ (M 56 j).toInt ∧ (M 56 j).toInt ≤ 255) (h : ∀ M1 : mm_M, M1 51 8 = nI (q_nl n (M 56)) → (∀ j, j < q_nl n (M 56) → M1 58 j = q_lw (M 56) j) → (∀ c, c ≠ 51 → c ≠ 58 → M1 c = M c) → (∀ f, f ≠ 7 → f ≠ 8 → M1 51 f = M 51 f) → Q (q_f0 n (M 56)) T0 M1) : mm_met l G (d + 3) k_X12_reads [.ref 51, .int 0] T0 M (mm_pi Q) := by
  refine mm_enter 2 [.ref 51, .int 0, .double 0, .double 0] o_X12_reads rfl rfl ?_
  refine mm_aload_0 1 dX12_reads_0 rfl ?_
  refine mm_iconst 2 0 dX12_reads_1 rfl (by decide) ?_
  refine mm_putI 5 dX12_reads_2 p_X12_132 ⟨rfl, rfl⟩ rfl t_51 rfl ?_
  refine mm_iload_1 6 dX12_reads_5 rfl ?_
  refine mm_if_ne 17 9 dX12_reads_6 (by decide) rfl (fun h => absurd h (by decide)) (fun _ => ?_)
  refine mm_aload_0 10 dX12_reads_9 rfl ?_
  refine mm_iconst 11 0 dX12_reads_10 rfl (by decide) ?_
  refine mm_putI 14 dX12_reads_11 p_X12_138 ⟨rfl, rfl⟩ rfl t_51 rfl ?_
  refine mm_goto 22 dX12_reads_14 (by decide) ?_
  refine mm_aload_0 23 dX12_reads_22 rfl ?_
  refine mm_getR 26 dX12_reads_23 f_X12_25 rfl t_51 rfl ?_
  refine mm_iload_1 27 dX12_reads_26 rfl ?_
  refine mm_ialoadn 28 (0) dX12_reads_27 rfl t_57 (by decide) (rfl) (by decide) ?_
  refine mm_if_le 35 31 dX12_reads_28 (by decide) rfl (fun h1 => ?_) (fun h1 => ?_)
  · refine mm_iconst 36 0 dX12_reads_35 rfl (by decide) ?_
    refine mm_istore_2 37 dX12_reads_36 rfl rfl ?_
    refine mm_iload_2 38 dX12_reads_37 rfl ?_
    refine mm_if_eq 127 41 dX12_reads_38 (by decide) rfl (fun _ => ?_) (fun h => absurd h (by decide))
    refine mm_iconst 128 (-1) dX12_reads_127 rfl (by decide) ?_
    refine mm_iret dX12_reads_128 rfl ⟨rfl, Nat.zero_le _⟩ ?_
    have h0 : n = 0 := by
      rw [mm_upn _ _ _ (by decide), mm_upn _ _ _ (by decide), hn] at h1
      have t2 : (nI n).toInt = n := mm_ti (by omega)
      (try simp only [t2, Int32.lt_iff_toInt_lt, Int32.le_iff_toInt_le, ← Int32.toInt_inj, vp_in_iff, Int32.reduceToInt, mm_t1, mm_t2, mm_t3, mm_t4, mm_t10] at h1)
      omega
    have hf := q_f0_end (n := n) (b := M 56) (fun j hj => by omega) (Or.inl h0)
    have hz : q_nl n (M 56) = 0 := by rw [hf.2]; omega
    rw [← hf.1]
    exact h _ (by rw [hz]; simp [mm_up, va_up, upd]; rfl) (fun j hj => by omega) (fun c c1 c2 => by rw [mm_upn _ _ _ c1, mm_upn _ _ _ c1]) (fun f f1 f2 => by simp [mm_up, va_up, upd, f1, f2])
  · refine mm_iconst 32 1 dX12_reads_31 rfl (by decide) ?_
    refine mm_goto 36 dX12_reads_32 (by decide) ?_
    refine mm_istore_2 37 dX12_reads_36 rfl rfl ?_
    have h0 : 0 < n := by
      rw [mm_upn _ _ _ (by decide), mm_upn _ _ _ (by decide), hn] at h1
      have t2 : (nI n).toInt = n := mm_ti (by omega)
      (try simp only [t2, Int32.lt_iff_toInt_lt, Int32.le_iff_toInt_le, ← Int32.toInt_inj, vp_in_iff, Int32.reduceToInt, mm_t1, mm_t2, mm_t3, mm_t4, mm_t10] at h1)
      omega
    refine w_X12_reads0 hn h20 h0 hB h _ 0 _ (Nat.le_refl _) (by simp [mm_up, va_up, upd]; rfl) (by simp [mm_up, va_up, upd]; rfl) (by omega) (by omega) (fun j hj => by omega) (fun j hj => by omega) (fun c c1 c2 => by rw [mm_upn _ _ _ c1, mm_upn _ _ _ c1]) (fun f f1 f2 => by simp [mm_up, va_up, upd, f1, f2])

theorem q_pg0 (nl : Nat) (b : Nat → Int32) (p : Nat) : q_pg nl b (5 * p) = decide (p < 12 ∧ ((b (5 * p)).toInt = 109 ∨ (b (5 * p)).toInt = 119)) := by
  unfold q_pg
  rw [if_pos (by omega), show 5 * p / 5 = p by omega]
theorem q_pg1 (nl : Nat) (b : Nat → Int32) (p : Nat) : q_pg nl b (5 * p + 1) = decide (48 ≤ (b (5 * p + 1)).toInt ∧ (b (5 * p + 1)).toInt ≤ 57 ∧ (b (5 * p + 1)).toInt - 48 < nl) := by
  unfold q_pg
  rw [if_neg (by omega), if_pos (by omega)]
theorem q_pg2 (nl : Nat) (b : Nat → Int32) (p : Nat) : q_pg nl b (5 * p + 2) = decide (49 ≤ (b (5 * p + 2)).toInt ∧ (b (5 * p + 2)).toInt ≤ 57) := by
  unfold q_pg
  rw [if_neg (by omega), if_neg (by omega), if_pos (by omega)]
theorem q_pg3 (nl : Nat) (b : Nat → Int32) (p : Nat) : q_pg nl b (5 * p + 3) = decide (48 ≤ (b (5 * p + 3)).toInt ∧ (b (5 * p + 3)).toInt ≤ 57) := by
  unfold q_pg
  rw [if_neg (by omega), if_neg (by omega), if_neg (by omega), if_pos (by omega)]
theorem q_pg4 (nl : Nat) (b : Nat → Int32) (p : Nat) : q_pg nl b (5 * p + 4) = decide ((b (5 * p + 4)).toInt = 59) := by
  unfold q_pg
  rw [if_neg (by omega), if_neg (by omega), if_neg (by omega), if_neg (by omega)]
theorem q_5 {P : Nat → Prop} {p k : Nat} (h : ∀ j, j < k → P (5 * p + j)) : ∀ j, 5 * p ≤ j → j < 5 * p + k → P j := by
  intro j a b
  have := h (j - 5 * p) (by omega)
  rw [show 5 * p + (j - 5 * p) = j by omega] at this
  exact this
theorem q_4 {P : Nat → Prop} (h0 : P 0) (h1 : P 1) (h2 : P 2) (h3 : P 3) : ∀ j, j < 4 → P j := by
  intro j hj
  rcases (show j = 0 ∨ j = 1 ∨ j = 2 ∨ j = 3 by omega) with rfl | rfl | rfl | rfl <;> assumption

set_option maxHeartbeats 4000000 in
theorem c_X12_readsPerson {l : Launch} {G : mm_G} {d : Nat} {M : mm_M} {Q : Int32 → mm_T → mm_M → Prop} {n nl p : Nat} {b : Nat → Int32} (hn : M 57 1 = nI n) (h60 : n ≤ 60) (hb : ∀ j, M 56 (20 + j) = b j) (ha : M 51 7 = nI (5 * p)) (hpn : 5 * p ≤ n) (hp : M 51 10 = nI p) (hp12 : p ≤ 12) (hl : M 51 8 = nI nl) (hnl : nl ≤ 6) (hB : ∀ j, j < n → 0 ≤ (b j).toInt ∧ (b j).toInt ≤ 255) (kA : ∀ M2 : mm_M, 5 * p + 3 < n → (∀ j, j < 4 → q_pg nl b (5 * p + j) = true) → M2 51 7 = nI (5 * p + 4) → M2 51 10 = nI (p + 1) → (∀ k, k < 4 → M2 59 (4 * p + k) = q_wh b p k) → (∀ j, j < 4 * p → M2 59 j = M 59 j) → (∀ c, c ≠ 51 → c ≠ 59 → M2 c = M c) → (∀ f, f ≠ 7 → f ≠ 10 → M2 51 f = M 51 f) → Q 1 T0 M2) (kB : ∀ (M2 : mm_M) (a : Nat), a ≤ 3 → 5 * p + a ≤ n → (∀ j, j < a → q_pg nl b (5 * p + j) = true) → (n ≤ 5 * p + a ∨ q_pg nl b (5 * p + a) = false) → M2 51 7 = nI (5 * p + a) → (∀ c, c ≠ 51 → c ≠ 59 → M2 c = M c) → (∀ f, f ≠ 7 → M2 51 f = M 51 f) → Q 0 T0 M2) : mm_met l G (d + 2) k_X12_readsPerson [.ref 51] T0 M (mm_pi Q) := by
  have pi : (M 51 10).toInt = p := by rw [hp]; exact mm_ti (by omega)
  have hi : (M 51 8 - 1).toInt = (nl : Int) - 1 := by rw [mm_sub (by rw [hl, mm_ti (by omega)]; simp only [Int32.reduceToInt]; omega), hl, mm_ti (by omega)]; simp only [Int32.reduceToInt]
  have hB20 : ∀ j, j < n → 0 ≤ (M 56 (20 * 1 + j)).toInt ∧ (M 56 (20 * 1 + j)).toInt ≤ 255 := fun j hj => by rw [Nat.mul_one, hb]; exact hB j hj
  refine mm_enter 3 [.ref 51, .double 0, .double 0, .double 0] o_X12_readsPerson rfl rfl ?_
  refine mm_aload_0 1 dX12_readsPerson_0 rfl ?_
  refine mm_getI 4 dX12_readsPerson_1 f_X12_144 rfl t_51 rfl ?_
  refine mm_bipush 6 12 dX12_readsPerson_4 rfl (by decide) ?_
  refine mm_ic_ne 11 9 dX12_readsPerson_6 (by decide) rfl (fun h1 => ?_) (fun h1 => ?_)
  · have hp11 : p < 12 := by (try simp only [pi, Int32.lt_iff_toInt_lt, Int32.le_iff_toInt_le, ← Int32.toInt_inj, vp_in_iff, Int32.reduceToInt, mm_t1, mm_t2, mm_t3, mm_t4, mm_t10] at h1); omega
    refine mm_aload_0 12 dX12_readsPerson_11 rfl ?_
    refine mm_iconst 13 1 dX12_readsPerson_12 rfl (by decide) ?_
    refine mm_cV1i 16 dX12_readsPerson_13 v_X12_135 rfl t_51 (by decide) rfl rfl (Nat.le_of_ble_eq_true rfl) ⟨rfl, rfl⟩ ⟨Nat.zero_le _, Nat.zero_le _⟩ (c_X12_here (t := 1) (n := n) (a := 5 * p) (by omega) hn (by omega) ha (by omega) rfl (fun r2 e3 => ?_))
    refine mm_bipush 18 109 dX12_readsPerson_16 rfl (by decide) ?_
    refine mm_ic_ne 25 21 dX12_readsPerson_18 (by decide) rfl (fun h4 => ?_) (fun h4 => ?_)
    · refine mm_aload_0 26 dX12_readsPerson_25 rfl ?_
      refine mm_iconst 27 1 dX12_readsPerson_26 rfl (by decide) ?_
      refine mm_cV1i 30 dX12_readsPerson_27 v_X12_135 rfl t_51 (by decide) rfl rfl (Nat.le_of_ble_eq_true rfl) ⟨rfl, rfl⟩ ⟨Nat.zero_le _, Nat.zero_le _⟩ (c_X12_here (t := 1) (n := n) (a := 5 * p) (by omega) hn (by omega) ha (by omega) rfl (fun r5 e6 => ?_))
      refine mm_bipush 32 119 dX12_readsPerson_30 rfl (by decide) ?_
      refine mm_ic_ne 39 35 dX12_readsPerson_32 (by decide) rfl (fun h7 => ?_) (fun h7 => ?_)
      · refine mm_iconst 40 (-1) dX12_readsPerson_39 rfl (by decide) ?_
        refine mm_istore_1 41 dX12_readsPerson_40 rfl rfl ?_
        refine mm_iload_1 42 dX12_readsPerson_41 rfl ?_
        refine mm_iconst 43 (-1) dX12_readsPerson_42 rfl (by decide) ?_
        refine mm_ic_ne 48 46 dX12_readsPerson_43 (by decide) rfl (fun h => absurd h (by decide)) (fun _ => ?_)
        refine mm_iconst 47 0 dX12_readsPerson_46 rfl (by decide) ?_
        refine mm_zret dX12_readsPerson_47 rfl ⟨rfl, Nat.zero_le _⟩ (Or.inl rfl) ?_
        (try simp only [pi, Int32.lt_iff_toInt_lt, Int32.le_iff_toInt_le, ← Int32.toInt_inj, vp_in_iff, Int32.reduceToInt, mm_t1, mm_t2, mm_t3, mm_t4, mm_t10] at h1)
        have q1 := congrArg Int32.toInt e3
        (try simp only [Int32.lt_iff_toInt_lt, Int32.le_iff_toInt_le, ← Int32.toInt_inj, vp_in_iff, Int32.reduceToInt, mm_t1, mm_t2, mm_t3, mm_t4, mm_t10] at h4)
        have q2 := congrArg Int32.toInt e6
        (try simp only [Int32.lt_iff_toInt_lt, Int32.le_iff_toInt_le, ← Int32.toInt_inj, vp_in_iff, Int32.reduceToInt, mm_t1, mm_t2, mm_t3, mm_t4, mm_t10] at h7)
        rw [Nat.mul_one, hb] at q1 q2
        refine kB M 0 (by omega) (by omega) (fun j hj => by omega) ?_ ha (fun _ _ _ => rfl) (fun _ _ => rfl)
        by_cases w : 5 * p < n
        · rw [if_pos w] at q1 q2
          refine Or.inr ?_
          rw [Nat.add_zero, q_pg0]
          exact decide_eq_false (by omega)
        · exact Or.inl (by omega)
      · refine mm_iconst 36 1 dX12_readsPerson_35 rfl (by decide) ?_
        refine mm_goto 40 dX12_readsPerson_36 (by decide) ?_
        refine mm_istore_1 41 dX12_readsPerson_40 rfl rfl ?_
        refine mm_iload_1 42 dX12_readsPerson_41 rfl ?_
        refine mm_iconst 43 (-1) dX12_readsPerson_42 rfl (by decide) ?_
        refine mm_ic_ne 48 46 dX12_readsPerson_43 (by decide) rfl (fun _ => ?_) (fun h => absurd h (by decide))
        refine mm_aload_0 49 dX12_readsPerson_48 rfl ?_
        refine mm_dup 50 dX12_readsPerson_49 rfl rfl ?_
        refine mm_getI 53 dX12_readsPerson_50 f_X12_132 rfl t_51 rfl ?_
        refine mm_iconst 54 1 dX12_readsPerson_53 rfl (by decide) ?_
        refine mm_iadd 55 dX12_readsPerson_54 rfl ?_
        refine mm_putI 58 dX12_readsPerson_55 p_X12_132 ⟨rfl, rfl⟩ rfl t_51 rfl ?_
        refine mm_aload_0 59 dX12_readsPerson_58 rfl ?_
        refine mm_getR 62 dX12_readsPerson_59 f_X12_31 rfl t_51 rfl ?_
        refine mm_iconst 63 4 dX12_readsPerson_62 rfl (by decide) ?_
        refine mm_aload_0 64 dX12_readsPerson_63 rfl ?_
        refine mm_getI 67 dX12_readsPerson_64 f_X12_144 rfl t_51 rfl ?_
        refine mm_imul 68 dX12_readsPerson_67 rfl ?_
        refine mm_iload_1 69 dX12_readsPerson_68 rfl ?_
        refine mm_iastoren 70 (4 * p) dX12_readsPerson_69 rfl t_59 (by decide) (by simp [mm_up, va_up, upd, hp, mm_l4, pk_mul]) (by (try simp only [pi, Int32.lt_iff_toInt_lt, Int32.le_iff_toInt_le, ← Int32.toInt_inj, vp_in_iff, Int32.reduceToInt, mm_t1, mm_t2, mm_t3, mm_t4, mm_t10] at h1); omega) ?_
        refine mm_iconst 71 1 dX12_readsPerson_70 rfl (by decide) ?_
        refine mm_istore_2 72 dX12_readsPerson_71 rfl rfl ?_
        refine mm_iload_2 73 dX12_readsPerson_72 rfl ?_
        refine mm_iconst 74 4 dX12_readsPerson_73 rfl (by decide) ?_
        refine mm_ic_ge 136 77 dX12_readsPerson_74 (by decide) rfl (fun h => absurd h (by decide)) (fun _ => ?_)
        refine mm_aload_0 78 dX12_readsPerson_77 rfl ?_
        refine mm_iconst 79 1 dX12_readsPerson_78 rfl (by decide) ?_
        refine mm_iload_2 80 dX12_readsPerson_79 rfl ?_
        refine mm_iconst 81 2 dX12_readsPerson_80 rfl (by decide) ?_
        refine mm_ic_ne 88 84 dX12_readsPerson_81 (by decide) rfl (fun _ => ?_) (fun h => absurd h (by decide))
        refine mm_iconst 89 0 dX12_readsPerson_88 rfl (by decide) ?_
        refine mm_iload_2 90 dX12_readsPerson_89 rfl ?_
        refine mm_iconst 91 1 dX12_readsPerson_90 rfl (by decide) ?_
        refine mm_ic_ne 103 94 dX12_readsPerson_91 (by decide) rfl (fun h => absurd h (by decide)) (fun _ => ?_)
        refine mm_aload_0 95 dX12_readsPerson_94 rfl ?_
        refine mm_getI 98 dX12_readsPerson_95 f_X12_138 rfl t_51 rfl ?_
        refine mm_iconst 99 1 dX12_readsPerson_98 rfl (by decide) ?_
        refine mm_isub 100 dX12_readsPerson_99 rfl ?_
        refine mm_goto 105 dX12_readsPerson_100 (by decide) ?_
        refine mm_cV3i 108 dX12_readsPerson_105 v_X12_141 rfl t_51 (by decide) rfl rfl (Nat.le_of_ble_eq_true rfl) ⟨rfl, rfl⟩ ⟨Nat.zero_le _, Nat.zero_le _⟩ (c_X12_figure (t := 1) (n := n) (a := 5 * p + 1) (by omega) (by simp [mm_up, va_up, upd, hn]) (by omega) (by simp [mm_up, va_up, upd, ha, nI_1]) (by omega) rfl (fun j hj => by simp [mm_up, va_up, upd]; simpa using hB20 j hj) (by decide) (fun h8 => ?_) (fun h8 => ?_))
        · refine mm_istore_3 109 dX12_readsPerson_108 rfl rfl ?_
          refine mm_iload_3 110 dX12_readsPerson_109 rfl ?_
          refine mm_iconst 111 (-1) dX12_readsPerson_110 rfl (by decide) ?_
          refine mm_ic_ne 116 114 dX12_readsPerson_111 (by decide) rfl (fun h9 => ?_) (fun h9 => ?_)
          · refine mm_aload_0 117 dX12_readsPerson_116 rfl ?_
            refine mm_getR 120 dX12_readsPerson_117 f_X12_31 rfl t_51 rfl ?_
            refine mm_iconst 121 4 dX12_readsPerson_120 rfl (by decide) ?_
            refine mm_aload_0 122 dX12_readsPerson_121 rfl ?_
            refine mm_getI 125 dX12_readsPerson_122 f_X12_144 rfl t_51 rfl ?_
            refine mm_imul 126 dX12_readsPerson_125 rfl ?_
            refine mm_iload_2 127 dX12_readsPerson_126 rfl ?_
            refine mm_iadd 128 dX12_readsPerson_127 rfl ?_
            refine mm_iload_3 129 dX12_readsPerson_128 rfl ?_
            refine mm_iastoren 130 (4 * p + 1) dX12_readsPerson_129 rfl t_59 (by decide) (by simp [mm_up, va_up, upd, hp]; rw [mm_l4, pk_mul]; exact nI_add _ 1) (by (try simp only [pi, Int32.lt_iff_toInt_lt, Int32.le_iff_toInt_le, ← Int32.toInt_inj, vp_in_iff, Int32.reduceToInt, mm_t1, mm_t2, mm_t3, mm_t4, mm_t10] at h1); omega) ?_
            refine mm_iinc_2 133 1 dX12_readsPerson_130 rfl (by decide) rfl ?_
            refine mm_goto 72 dX12_readsPerson_133 (by decide) ?_
            refine mm_iload_2 73 dX12_readsPerson_72 rfl ?_
            refine mm_iconst 74 4 dX12_readsPerson_73 rfl (by decide) ?_
            refine mm_ic_ge 136 77 dX12_readsPerson_74 (by decide) rfl (fun h => absurd h (by decide)) (fun _ => ?_)
            refine mm_aload_0 78 dX12_readsPerson_77 rfl ?_
            refine mm_iconst 79 1 dX12_readsPerson_78 rfl (by decide) ?_
            refine mm_iload_2 80 dX12_readsPerson_79 rfl ?_
            refine mm_iconst 81 2 dX12_readsPerson_80 rfl (by decide) ?_
            refine mm_ic_ne 88 84 dX12_readsPerson_81 (by decide) rfl (fun h => absurd h (by decide)) (fun _ => ?_)
            refine mm_iconst 85 1 dX12_readsPerson_84 rfl (by decide) ?_
            refine mm_goto 89 dX12_readsPerson_85 (by decide) ?_
            refine mm_iload_2 90 dX12_readsPerson_89 rfl ?_
            refine mm_iconst 91 1 dX12_readsPerson_90 rfl (by decide) ?_
            refine mm_ic_ne 103 94 dX12_readsPerson_91 (by decide) rfl (fun _ => ?_) (fun h => absurd h (by decide))
            refine mm_bipush 105 9 dX12_readsPerson_103 rfl (by decide) ?_
            refine mm_cV3i 108 dX12_readsPerson_105 v_X12_141 rfl t_51 (by decide) rfl rfl (Nat.le_of_ble_eq_true rfl) ⟨rfl, rfl⟩ ⟨Nat.zero_le _, Nat.zero_le _⟩ (c_X12_figure (t := 1) (n := n) (a := 5 * p + 2) (by omega) (by simp [mm_up, va_up, upd, hn]) (by omega) (by simp [mm_up, va_up, upd, ha, nI_1]) (by omega) rfl (fun j hj => by simp [mm_up, va_up, upd]; simpa using hB20 j hj) (by decide) (fun h10 => ?_) (fun h10 => ?_))
            · refine mm_istore_3 109 dX12_readsPerson_108 rfl rfl ?_
              refine mm_iload_3 110 dX12_readsPerson_109 rfl ?_
              refine mm_iconst 111 (-1) dX12_readsPerson_110 rfl (by decide) ?_
              refine mm_ic_ne 116 114 dX12_readsPerson_111 (by decide) rfl (fun h11 => ?_) (fun h11 => ?_)
              · refine mm_aload_0 117 dX12_readsPerson_116 rfl ?_
                refine mm_getR 120 dX12_readsPerson_117 f_X12_31 rfl t_51 rfl ?_
                refine mm_iconst 121 4 dX12_readsPerson_120 rfl (by decide) ?_
                refine mm_aload_0 122 dX12_readsPerson_121 rfl ?_
                refine mm_getI 125 dX12_readsPerson_122 f_X12_144 rfl t_51 rfl ?_
                refine mm_imul 126 dX12_readsPerson_125 rfl ?_
                refine mm_iload_2 127 dX12_readsPerson_126 rfl ?_
                refine mm_iadd 128 dX12_readsPerson_127 rfl ?_
                refine mm_iload_3 129 dX12_readsPerson_128 rfl ?_
                refine mm_iastoren 130 (4 * p + 2) dX12_readsPerson_129 rfl t_59 (by decide) (by simp [mm_up, va_up, upd, hp]; rw [mm_l4, pk_mul]; exact nI_add _ 2) (by (try simp only [pi, Int32.lt_iff_toInt_lt, Int32.le_iff_toInt_le, ← Int32.toInt_inj, vp_in_iff, Int32.reduceToInt, mm_t1, mm_t2, mm_t3, mm_t4, mm_t10] at h1); omega) ?_
                refine mm_iinc_2 133 1 dX12_readsPerson_130 rfl (by decide) rfl ?_
                refine mm_goto 72 dX12_readsPerson_133 (by decide) ?_
                refine mm_iload_2 73 dX12_readsPerson_72 rfl ?_
                refine mm_iconst 74 4 dX12_readsPerson_73 rfl (by decide) ?_
                refine mm_ic_ge 136 77 dX12_readsPerson_74 (by decide) rfl (fun h => absurd h (by decide)) (fun _ => ?_)
                refine mm_aload_0 78 dX12_readsPerson_77 rfl ?_
                refine mm_iconst 79 1 dX12_readsPerson_78 rfl (by decide) ?_
                refine mm_iload_2 80 dX12_readsPerson_79 rfl ?_
                refine mm_iconst 81 2 dX12_readsPerson_80 rfl (by decide) ?_
                refine mm_ic_ne 88 84 dX12_readsPerson_81 (by decide) rfl (fun _ => ?_) (fun h => absurd h (by decide))
                refine mm_iconst 89 0 dX12_readsPerson_88 rfl (by decide) ?_
                refine mm_iload_2 90 dX12_readsPerson_89 rfl ?_
                refine mm_iconst 91 1 dX12_readsPerson_90 rfl (by decide) ?_
                refine mm_ic_ne 103 94 dX12_readsPerson_91 (by decide) rfl (fun _ => ?_) (fun h => absurd h (by decide))
                refine mm_bipush 105 9 dX12_readsPerson_103 rfl (by decide) ?_
                refine mm_cV3i 108 dX12_readsPerson_105 v_X12_141 rfl t_51 (by decide) rfl rfl (Nat.le_of_ble_eq_true rfl) ⟨rfl, rfl⟩ ⟨Nat.zero_le _, Nat.zero_le _⟩ (c_X12_figure (t := 1) (n := n) (a := 5 * p + 3) (by omega) (by simp [mm_up, va_up, upd, hn]) (by omega) (by simp [mm_up, va_up, upd, ha, nI_1]) (by omega) rfl (fun j hj => by simp [mm_up, va_up, upd]; simpa using hB20 j hj) (by decide) (fun h12 => ?_) (fun h12 => ?_))
                · refine mm_istore_3 109 dX12_readsPerson_108 rfl rfl ?_
                  refine mm_iload_3 110 dX12_readsPerson_109 rfl ?_
                  refine mm_iconst 111 (-1) dX12_readsPerson_110 rfl (by decide) ?_
                  refine mm_ic_ne 116 114 dX12_readsPerson_111 (by decide) rfl (fun h13 => ?_) (fun h13 => ?_)
                  · refine mm_aload_0 117 dX12_readsPerson_116 rfl ?_
                    refine mm_getR 120 dX12_readsPerson_117 f_X12_31 rfl t_51 rfl ?_
                    refine mm_iconst 121 4 dX12_readsPerson_120 rfl (by decide) ?_
                    refine mm_aload_0 122 dX12_readsPerson_121 rfl ?_
                    refine mm_getI 125 dX12_readsPerson_122 f_X12_144 rfl t_51 rfl ?_
                    refine mm_imul 126 dX12_readsPerson_125 rfl ?_
                    refine mm_iload_2 127 dX12_readsPerson_126 rfl ?_
                    refine mm_iadd 128 dX12_readsPerson_127 rfl ?_
                    refine mm_iload_3 129 dX12_readsPerson_128 rfl ?_
                    refine mm_iastoren 130 (4 * p + 3) dX12_readsPerson_129 rfl t_59 (by decide) (by simp [mm_up, va_up, upd, hp]; rw [mm_l4, pk_mul]; exact nI_add _ 3) (by (try simp only [pi, Int32.lt_iff_toInt_lt, Int32.le_iff_toInt_le, ← Int32.toInt_inj, vp_in_iff, Int32.reduceToInt, mm_t1, mm_t2, mm_t3, mm_t4, mm_t10] at h1); omega) ?_
                    refine mm_iinc_2 133 1 dX12_readsPerson_130 rfl (by decide) rfl ?_
                    refine mm_goto 72 dX12_readsPerson_133 (by decide) ?_
                    refine mm_iload_2 73 dX12_readsPerson_72 rfl ?_
                    refine mm_iconst 74 4 dX12_readsPerson_73 rfl (by decide) ?_
                    refine mm_ic_ge 136 77 dX12_readsPerson_74 (by decide) rfl (fun _ => ?_) (fun h => absurd h (by decide))
                    refine mm_aload_0 137 dX12_readsPerson_136 rfl ?_
                    refine mm_dup 138 dX12_readsPerson_137 rfl rfl ?_
                    refine mm_getI 141 dX12_readsPerson_138 f_X12_144 rfl t_51 rfl ?_
                    refine mm_iconst 142 1 dX12_readsPerson_141 rfl (by decide) ?_
                    refine mm_iadd 143 dX12_readsPerson_142 rfl ?_
                    refine mm_putI 146 dX12_readsPerson_143 p_X12_144 ⟨rfl, rfl⟩ rfl t_51 rfl ?_
                    refine mm_iconst 147 1 dX12_readsPerson_146 rfl (by decide) ?_
                    refine mm_zret dX12_readsPerson_147 rfl ⟨rfl, Nat.zero_le _⟩ (Or.inr rfl) ?_
                    (try simp only [pi, Int32.lt_iff_toInt_lt, Int32.le_iff_toInt_le, ← Int32.toInt_inj, vp_in_iff, Int32.reduceToInt, mm_t1, mm_t2, mm_t3, mm_t4, mm_t10] at h1)
                    have q1 := congrArg Int32.toInt e3
                    (try simp only [Int32.lt_iff_toInt_lt, Int32.le_iff_toInt_le, ← Int32.toInt_inj, vp_in_iff, Int32.reduceToInt, mm_t1, mm_t2, mm_t3, mm_t4, mm_t10] at h4)
                    have q2 := congrArg Int32.toInt e6
                    (try simp only [Int32.lt_iff_toInt_lt, Int32.le_iff_toInt_le, ← Int32.toInt_inj, vp_in_iff, Int32.reduceToInt, mm_t1, mm_t2, mm_t3, mm_t4, mm_t10] at h7)
                    rw [Nat.mul_one, hb] at q1 q2
                    have w : 5 * p < n := by
                      by_cases w : 5 * p < n
                      · exact w
                      · exfalso
                        rw [if_neg w] at q2
                        simp only [mm_t1] at q2
                        omega
                    rw [if_pos w] at q1 q2
                    have d0 : q_pg nl b (5 * p) = true := by rw [q_pg0]; exact decide_eq_true (by omega)
                    have f1 := h8
                    simp only [mm_upn _ _ _ (show (56:Nat) ≠ 51 by decide), mm_upn _ _ _ (show (56:Nat) ≠ 59 by decide), Nat.mul_one, hb, Int32.reduceToInt] at f1
                    have hi2 : ∀ x, (mm_up (mm_up M 51 7 (M 51 7 + 1)) 59 (4 * p) x 51 8 - 1).toInt = (nl : Int) - 1 := fun x => by rw [mm_upn _ _ _ (by decide)]; simp only [mm_up, va_up, upd, if_true, if_neg (show ¬ (8:Nat) = 7 by decide)]; exact hi
                    simp only [hi2] at f1
                    have f2 := h10
                    simp only [mm_upn _ _ _ (show (56:Nat) ≠ 51 by decide), mm_upn _ _ _ (show (56:Nat) ≠ 59 by decide), Nat.mul_one, hb, Int32.reduceToInt] at f2
                    have f3 := h12
                    simp only [mm_upn _ _ _ (show (56:Nat) ≠ 51 by decide), mm_upn _ _ _ (show (56:Nat) ≠ 59 by decide), Nat.mul_one, hb, Int32.reduceToInt] at f3
                    have d1 : q_pg nl b (5 * p + 1) = true := by rw [q_pg1]; exact decide_eq_true (by omega)
                    have d2 : q_pg nl b (5 * p + 2) = true := by rw [q_pg2]; exact decide_eq_true (by omega)
                    have d3 : q_pg nl b (5 * p + 3) = true := by rw [q_pg3]; exact decide_eq_true (by omega)
                    refine kA _ (by omega) (q_4 d0 d1 d2 d3) (by simp [mm_up, va_up, upd]) (by simp [mm_up, va_up, upd, hp, nI_1]) (q_4 ?_ ?_ ?_ ?_) (fun j hj => by simp [mm_up, va_up, upd, show j ≠ 4 * p by omega, show j ≠ 4 * p + 1 by omega, show j ≠ 4 * p + 2 by omega, show j ≠ 4 * p + 3 by omega]) (fun c c1 c2 => by simp [mm_up, va_up, upd, c1, c2]) (fun f f1 f2 => by simp [mm_up, va_up, upd, f1, f2])
                    · simp [mm_up, va_up, upd, q_wh]
                      omega
                    · simp [mm_up, va_up, upd, q_wh, hb, show ∀ x, 20 + (5 * p + x) = 20 + (5 * p + x) from fun _ => rfl]
                    · simp [mm_up, va_up, upd, q_wh, hb, show ∀ x, 20 + (5 * p + x) = 20 + (5 * p + x) from fun _ => rfl]
                    · simp [mm_up, va_up, upd, q_wh, hb, show ∀ x, 20 + (5 * p + x) = 20 + (5 * p + x) from fun _ => rfl]
                  · refine mm_iconst 115 0 dX12_readsPerson_114 rfl (by decide) ?_
                    refine mm_zret dX12_readsPerson_115 rfl ⟨rfl, Nat.zero_le _⟩ (Or.inl rfl) ?_
                    (try simp only [pi, Int32.lt_iff_toInt_lt, Int32.le_iff_toInt_le, ← Int32.toInt_inj, vp_in_iff, Int32.reduceToInt, mm_t1, mm_t2, mm_t3, mm_t4, mm_t10] at h1)
                    have q1 := congrArg Int32.toInt e3
                    (try simp only [Int32.lt_iff_toInt_lt, Int32.le_iff_toInt_le, ← Int32.toInt_inj, vp_in_iff, Int32.reduceToInt, mm_t1, mm_t2, mm_t3, mm_t4, mm_t10] at h4)
                    have q2 := congrArg Int32.toInt e6
                    (try simp only [Int32.lt_iff_toInt_lt, Int32.le_iff_toInt_le, ← Int32.toInt_inj, vp_in_iff, Int32.reduceToInt, mm_t1, mm_t2, mm_t3, mm_t4, mm_t10] at h7)
                    rw [Nat.mul_one, hb] at q1 q2
                    have w : 5 * p < n := by
                      by_cases w : 5 * p < n
                      · exact w
                      · exfalso
                        rw [if_neg w] at q2
                        simp only [mm_t1] at q2
                        omega
                    rw [if_pos w] at q1 q2
                    have d0 : q_pg nl b (5 * p) = true := by rw [q_pg0]; exact decide_eq_true (by omega)
                    have f1 := h8
                    simp only [mm_upn _ _ _ (show (56:Nat) ≠ 51 by decide), mm_upn _ _ _ (show (56:Nat) ≠ 59 by decide), Nat.mul_one, hb, Int32.reduceToInt] at f1
                    have hi2 : ∀ x, (mm_up (mm_up M 51 7 (M 51 7 + 1)) 59 (4 * p) x 51 8 - 1).toInt = (nl : Int) - 1 := fun x => by rw [mm_upn _ _ _ (by decide)]; simp only [mm_up, va_up, upd, if_true, if_neg (show ¬ (8:Nat) = 7 by decide)]; exact hi
                    simp only [hi2] at f1
                    have f2 := h10
                    simp only [mm_upn _ _ _ (show (56:Nat) ≠ 51 by decide), mm_upn _ _ _ (show (56:Nat) ≠ 59 by decide), Nat.mul_one, hb, Int32.reduceToInt] at f2
                    have f3 := h12
                    simp only [mm_upn _ _ _ (show (56:Nat) ≠ 51 by decide), mm_upn _ _ _ (show (56:Nat) ≠ 59 by decide), Nat.mul_one, hb, Int32.reduceToInt] at f3
                    exfalso
                    have z := congrArg Int32.toInt h13
                    have hBa := hB (5 * p + 3) f3.1
                    simp only [mm_upn _ _ _ (show (56:Nat) ≠ 51 by decide), mm_upn _ _ _ (show (56:Nat) ≠ 59 by decide), Nat.mul_one, hb] at z
                    rw [mm_sub (by simp only [Int32.reduceToInt]; omega)] at z
                    simp only [Int32.reduceToInt, mm_t1] at z
                    omega
                · refine mm_istore_3 109 dX12_readsPerson_108 rfl rfl ?_
                  refine mm_iload_3 110 dX12_readsPerson_109 rfl ?_
                  refine mm_iconst 111 (-1) dX12_readsPerson_110 rfl (by decide) ?_
                  refine mm_ic_ne 116 114 dX12_readsPerson_111 (by decide) rfl (fun h => absurd h (by decide)) (fun _ => ?_)
                  refine mm_iconst 115 0 dX12_readsPerson_114 rfl (by decide) ?_
                  refine mm_zret dX12_readsPerson_115 rfl ⟨rfl, Nat.zero_le _⟩ (Or.inl rfl) ?_
                  (try simp only [pi, Int32.lt_iff_toInt_lt, Int32.le_iff_toInt_le, ← Int32.toInt_inj, vp_in_iff, Int32.reduceToInt, mm_t1, mm_t2, mm_t3, mm_t4, mm_t10] at h1)
                  have q1 := congrArg Int32.toInt e3
                  (try simp only [Int32.lt_iff_toInt_lt, Int32.le_iff_toInt_le, ← Int32.toInt_inj, vp_in_iff, Int32.reduceToInt, mm_t1, mm_t2, mm_t3, mm_t4, mm_t10] at h4)
                  have q2 := congrArg Int32.toInt e6
                  (try simp only [Int32.lt_iff_toInt_lt, Int32.le_iff_toInt_le, ← Int32.toInt_inj, vp_in_iff, Int32.reduceToInt, mm_t1, mm_t2, mm_t3, mm_t4, mm_t10] at h7)
                  rw [Nat.mul_one, hb] at q1 q2
                  have w : 5 * p < n := by
                    by_cases w : 5 * p < n
                    · exact w
                    · exfalso
                      rw [if_neg w] at q2
                      simp only [mm_t1] at q2
                      omega
                  rw [if_pos w] at q1 q2
                  have d0 : q_pg nl b (5 * p) = true := by rw [q_pg0]; exact decide_eq_true (by omega)
                  have f1 := h8
                  simp only [mm_upn _ _ _ (show (56:Nat) ≠ 51 by decide), mm_upn _ _ _ (show (56:Nat) ≠ 59 by decide), Nat.mul_one, hb, Int32.reduceToInt] at f1
                  have hi2 : ∀ x, (mm_up (mm_up M 51 7 (M 51 7 + 1)) 59 (4 * p) x 51 8 - 1).toInt = (nl : Int) - 1 := fun x => by rw [mm_upn _ _ _ (by decide)]; simp only [mm_up, va_up, upd, if_true, if_neg (show ¬ (8:Nat) = 7 by decide)]; exact hi
                  simp only [hi2] at f1
                  have f2 := h10
                  simp only [mm_upn _ _ _ (show (56:Nat) ≠ 51 by decide), mm_upn _ _ _ (show (56:Nat) ≠ 59 by decide), Nat.mul_one, hb, Int32.reduceToInt] at f2
                  have f3 := h12
                  simp only [mm_upn _ _ _ (show (56:Nat) ≠ 51 by decide), mm_upn _ _ _ (show (56:Nat) ≠ 59 by decide), Nat.mul_one, hb, Int32.reduceToInt] at f3
                  have d1 : q_pg nl b (5 * p + 1) = true := by rw [q_pg1]; exact decide_eq_true (by omega)
                  have d2 : q_pg nl b (5 * p + 2) = true := by rw [q_pg2]; exact decide_eq_true (by omega)
                  refine kB _ 3 (by omega) (by omega) (fun j hj => by rcases (show j = 0 ∨ j = 1 ∨ j = 2 by omega) with rfl | rfl | rfl <;> assumption) ?_ (by simp [mm_up, va_up, upd, ha, nI_1]) (fun c c1 c2 => by simp [mm_up, va_up, upd, c1, c2]) (fun f f1 => by simp [mm_up, va_up, upd, f1])
                  by_cases w2 : 5 * p + 3 < n
                  · refine Or.inr ?_
                    rw [q_pg3]
                    exact decide_eq_false (by omega)
                  · exact Or.inl (by omega)
              · refine mm_iconst 115 0 dX12_readsPerson_114 rfl (by decide) ?_
                refine mm_zret dX12_readsPerson_115 rfl ⟨rfl, Nat.zero_le _⟩ (Or.inl rfl) ?_
                (try simp only [pi, Int32.lt_iff_toInt_lt, Int32.le_iff_toInt_le, ← Int32.toInt_inj, vp_in_iff, Int32.reduceToInt, mm_t1, mm_t2, mm_t3, mm_t4, mm_t10] at h1)
                have q1 := congrArg Int32.toInt e3
                (try simp only [Int32.lt_iff_toInt_lt, Int32.le_iff_toInt_le, ← Int32.toInt_inj, vp_in_iff, Int32.reduceToInt, mm_t1, mm_t2, mm_t3, mm_t4, mm_t10] at h4)
                have q2 := congrArg Int32.toInt e6
                (try simp only [Int32.lt_iff_toInt_lt, Int32.le_iff_toInt_le, ← Int32.toInt_inj, vp_in_iff, Int32.reduceToInt, mm_t1, mm_t2, mm_t3, mm_t4, mm_t10] at h7)
                rw [Nat.mul_one, hb] at q1 q2
                have w : 5 * p < n := by
                  by_cases w : 5 * p < n
                  · exact w
                  · exfalso
                    rw [if_neg w] at q2
                    simp only [mm_t1] at q2
                    omega
                rw [if_pos w] at q1 q2
                have d0 : q_pg nl b (5 * p) = true := by rw [q_pg0]; exact decide_eq_true (by omega)
                have f1 := h8
                simp only [mm_upn _ _ _ (show (56:Nat) ≠ 51 by decide), mm_upn _ _ _ (show (56:Nat) ≠ 59 by decide), Nat.mul_one, hb, Int32.reduceToInt] at f1
                have hi2 : ∀ x, (mm_up (mm_up M 51 7 (M 51 7 + 1)) 59 (4 * p) x 51 8 - 1).toInt = (nl : Int) - 1 := fun x => by rw [mm_upn _ _ _ (by decide)]; simp only [mm_up, va_up, upd, if_true, if_neg (show ¬ (8:Nat) = 7 by decide)]; exact hi
                simp only [hi2] at f1
                have f2 := h10
                simp only [mm_upn _ _ _ (show (56:Nat) ≠ 51 by decide), mm_upn _ _ _ (show (56:Nat) ≠ 59 by decide), Nat.mul_one, hb, Int32.reduceToInt] at f2
                exfalso
                have z := congrArg Int32.toInt h11
                have hBa := hB (5 * p + 2) f2.1
                simp only [mm_upn _ _ _ (show (56:Nat) ≠ 51 by decide), mm_upn _ _ _ (show (56:Nat) ≠ 59 by decide), Nat.mul_one, hb] at z
                rw [mm_sub (by simp only [Int32.reduceToInt]; omega)] at z
                simp only [Int32.reduceToInt, mm_t1] at z
                omega
            · refine mm_istore_3 109 dX12_readsPerson_108 rfl rfl ?_
              refine mm_iload_3 110 dX12_readsPerson_109 rfl ?_
              refine mm_iconst 111 (-1) dX12_readsPerson_110 rfl (by decide) ?_
              refine mm_ic_ne 116 114 dX12_readsPerson_111 (by decide) rfl (fun h => absurd h (by decide)) (fun _ => ?_)
              refine mm_iconst 115 0 dX12_readsPerson_114 rfl (by decide) ?_
              refine mm_zret dX12_readsPerson_115 rfl ⟨rfl, Nat.zero_le _⟩ (Or.inl rfl) ?_
              (try simp only [pi, Int32.lt_iff_toInt_lt, Int32.le_iff_toInt_le, ← Int32.toInt_inj, vp_in_iff, Int32.reduceToInt, mm_t1, mm_t2, mm_t3, mm_t4, mm_t10] at h1)
              have q1 := congrArg Int32.toInt e3
              (try simp only [Int32.lt_iff_toInt_lt, Int32.le_iff_toInt_le, ← Int32.toInt_inj, vp_in_iff, Int32.reduceToInt, mm_t1, mm_t2, mm_t3, mm_t4, mm_t10] at h4)
              have q2 := congrArg Int32.toInt e6
              (try simp only [Int32.lt_iff_toInt_lt, Int32.le_iff_toInt_le, ← Int32.toInt_inj, vp_in_iff, Int32.reduceToInt, mm_t1, mm_t2, mm_t3, mm_t4, mm_t10] at h7)
              rw [Nat.mul_one, hb] at q1 q2
              have w : 5 * p < n := by
                by_cases w : 5 * p < n
                · exact w
                · exfalso
                  rw [if_neg w] at q2
                  simp only [mm_t1] at q2
                  omega
              rw [if_pos w] at q1 q2
              have d0 : q_pg nl b (5 * p) = true := by rw [q_pg0]; exact decide_eq_true (by omega)
              have f1 := h8
              simp only [mm_upn _ _ _ (show (56:Nat) ≠ 51 by decide), mm_upn _ _ _ (show (56:Nat) ≠ 59 by decide), Nat.mul_one, hb, Int32.reduceToInt] at f1
              have hi2 : ∀ x, (mm_up (mm_up M 51 7 (M 51 7 + 1)) 59 (4 * p) x 51 8 - 1).toInt = (nl : Int) - 1 := fun x => by rw [mm_upn _ _ _ (by decide)]; simp only [mm_up, va_up, upd, if_true, if_neg (show ¬ (8:Nat) = 7 by decide)]; exact hi
              simp only [hi2] at f1
              have f2 := h10
              simp only [mm_upn _ _ _ (show (56:Nat) ≠ 51 by decide), mm_upn _ _ _ (show (56:Nat) ≠ 59 by decide), Nat.mul_one, hb, Int32.reduceToInt] at f2
              have d1 : q_pg nl b (5 * p + 1) = true := by rw [q_pg1]; exact decide_eq_true (by omega)
              refine kB _ 2 (by omega) (by omega) (fun j hj => by rcases (show j = 0 ∨ j = 1 by omega) with rfl | rfl <;> assumption) ?_ (by simp [mm_up, va_up, upd, ha, nI_1]) (fun c c1 c2 => by simp [mm_up, va_up, upd, c1, c2]) (fun f f1 => by simp [mm_up, va_up, upd, f1])
              by_cases w2 : 5 * p + 2 < n
              · refine Or.inr ?_
                rw [q_pg2]
                exact decide_eq_false (by omega)
              · exact Or.inl (by omega)
          · refine mm_iconst 115 0 dX12_readsPerson_114 rfl (by decide) ?_
            refine mm_zret dX12_readsPerson_115 rfl ⟨rfl, Nat.zero_le _⟩ (Or.inl rfl) ?_
            (try simp only [pi, Int32.lt_iff_toInt_lt, Int32.le_iff_toInt_le, ← Int32.toInt_inj, vp_in_iff, Int32.reduceToInt, mm_t1, mm_t2, mm_t3, mm_t4, mm_t10] at h1)
            have q1 := congrArg Int32.toInt e3
            (try simp only [Int32.lt_iff_toInt_lt, Int32.le_iff_toInt_le, ← Int32.toInt_inj, vp_in_iff, Int32.reduceToInt, mm_t1, mm_t2, mm_t3, mm_t4, mm_t10] at h4)
            have q2 := congrArg Int32.toInt e6
            (try simp only [Int32.lt_iff_toInt_lt, Int32.le_iff_toInt_le, ← Int32.toInt_inj, vp_in_iff, Int32.reduceToInt, mm_t1, mm_t2, mm_t3, mm_t4, mm_t10] at h7)
            rw [Nat.mul_one, hb] at q1 q2
            have w : 5 * p < n := by
              by_cases w : 5 * p < n
              · exact w
              · exfalso
                rw [if_neg w] at q2
                simp only [mm_t1] at q2
                omega
            rw [if_pos w] at q1 q2
            have d0 : q_pg nl b (5 * p) = true := by rw [q_pg0]; exact decide_eq_true (by omega)
            have f1 := h8
            simp only [mm_upn _ _ _ (show (56:Nat) ≠ 51 by decide), mm_upn _ _ _ (show (56:Nat) ≠ 59 by decide), Nat.mul_one, hb, Int32.reduceToInt] at f1
            have hi2 : ∀ x, (mm_up (mm_up M 51 7 (M 51 7 + 1)) 59 (4 * p) x 51 8 - 1).toInt = (nl : Int) - 1 := fun x => by rw [mm_upn _ _ _ (by decide)]; simp only [mm_up, va_up, upd, if_true, if_neg (show ¬ (8:Nat) = 7 by decide)]; exact hi
            simp only [hi2] at f1
            exfalso
            have z := congrArg Int32.toInt h9
            have hBa := hB (5 * p + 1) f1.1
            simp only [mm_upn _ _ _ (show (56:Nat) ≠ 51 by decide), mm_upn _ _ _ (show (56:Nat) ≠ 59 by decide), Nat.mul_one, hb] at z
            rw [mm_sub (by simp only [Int32.reduceToInt]; omega)] at z
            simp only [Int32.reduceToInt, mm_t1] at z
            omega
        · refine mm_istore_3 109 dX12_readsPerson_108 rfl rfl ?_
          refine mm_iload_3 110 dX12_readsPerson_109 rfl ?_
          refine mm_iconst 111 (-1) dX12_readsPerson_110 rfl (by decide) ?_
          refine mm_ic_ne 116 114 dX12_readsPerson_111 (by decide) rfl (fun h => absurd h (by decide)) (fun _ => ?_)
          refine mm_iconst 115 0 dX12_readsPerson_114 rfl (by decide) ?_
          refine mm_zret dX12_readsPerson_115 rfl ⟨rfl, Nat.zero_le _⟩ (Or.inl rfl) ?_
          (try simp only [pi, Int32.lt_iff_toInt_lt, Int32.le_iff_toInt_le, ← Int32.toInt_inj, vp_in_iff, Int32.reduceToInt, mm_t1, mm_t2, mm_t3, mm_t4, mm_t10] at h1)
          have q1 := congrArg Int32.toInt e3
          (try simp only [Int32.lt_iff_toInt_lt, Int32.le_iff_toInt_le, ← Int32.toInt_inj, vp_in_iff, Int32.reduceToInt, mm_t1, mm_t2, mm_t3, mm_t4, mm_t10] at h4)
          have q2 := congrArg Int32.toInt e6
          (try simp only [Int32.lt_iff_toInt_lt, Int32.le_iff_toInt_le, ← Int32.toInt_inj, vp_in_iff, Int32.reduceToInt, mm_t1, mm_t2, mm_t3, mm_t4, mm_t10] at h7)
          rw [Nat.mul_one, hb] at q1 q2
          have w : 5 * p < n := by
            by_cases w : 5 * p < n
            · exact w
            · exfalso
              rw [if_neg w] at q2
              simp only [mm_t1] at q2
              omega
          rw [if_pos w] at q1 q2
          have d0 : q_pg nl b (5 * p) = true := by rw [q_pg0]; exact decide_eq_true (by omega)
          have f1 := h8
          simp only [mm_upn _ _ _ (show (56:Nat) ≠ 51 by decide), mm_upn _ _ _ (show (56:Nat) ≠ 59 by decide), Nat.mul_one, hb, Int32.reduceToInt] at f1
          have hi2 : ∀ x, (mm_up (mm_up M 51 7 (M 51 7 + 1)) 59 (4 * p) x 51 8 - 1).toInt = (nl : Int) - 1 := fun x => by rw [mm_upn _ _ _ (by decide)]; simp only [mm_up, va_up, upd, if_true, if_neg (show ¬ (8:Nat) = 7 by decide)]; exact hi
          simp only [hi2] at f1
          refine kB _ 1 (by omega) (by omega) (fun j hj => by rw [show j = 0 by omega]; exact d0) ?_ (by simp [mm_up, va_up, upd, ha, nI_1]) (fun c c1 c2 => by simp [mm_up, va_up, upd, c1, c2]) (fun f f1 => by simp [mm_up, va_up, upd, f1])
          by_cases w2 : 5 * p + 1 < n
          · refine Or.inr ?_
            rw [q_pg1]
            exact decide_eq_false (by omega)
          · exact Or.inl (by omega)
    · refine mm_iconst 22 0 dX12_readsPerson_21 rfl (by decide) ?_
      refine mm_goto 40 dX12_readsPerson_22 (by decide) ?_
      refine mm_istore_1 41 dX12_readsPerson_40 rfl rfl ?_
      refine mm_iload_1 42 dX12_readsPerson_41 rfl ?_
      refine mm_iconst 43 (-1) dX12_readsPerson_42 rfl (by decide) ?_
      refine mm_ic_ne 48 46 dX12_readsPerson_43 (by decide) rfl (fun _ => ?_) (fun h => absurd h (by decide))
      refine mm_aload_0 49 dX12_readsPerson_48 rfl ?_
      refine mm_dup 50 dX12_readsPerson_49 rfl rfl ?_
      refine mm_getI 53 dX12_readsPerson_50 f_X12_132 rfl t_51 rfl ?_
      refine mm_iconst 54 1 dX12_readsPerson_53 rfl (by decide) ?_
      refine mm_iadd 55 dX12_readsPerson_54 rfl ?_
      refine mm_putI 58 dX12_readsPerson_55 p_X12_132 ⟨rfl, rfl⟩ rfl t_51 rfl ?_
      refine mm_aload_0 59 dX12_readsPerson_58 rfl ?_
      refine mm_getR 62 dX12_readsPerson_59 f_X12_31 rfl t_51 rfl ?_
      refine mm_iconst 63 4 dX12_readsPerson_62 rfl (by decide) ?_
      refine mm_aload_0 64 dX12_readsPerson_63 rfl ?_
      refine mm_getI 67 dX12_readsPerson_64 f_X12_144 rfl t_51 rfl ?_
      refine mm_imul 68 dX12_readsPerson_67 rfl ?_
      refine mm_iload_1 69 dX12_readsPerson_68 rfl ?_
      refine mm_iastoren 70 (4 * p) dX12_readsPerson_69 rfl t_59 (by decide) (by simp [mm_up, va_up, upd, hp, mm_l4, pk_mul]) (by (try simp only [pi, Int32.lt_iff_toInt_lt, Int32.le_iff_toInt_le, ← Int32.toInt_inj, vp_in_iff, Int32.reduceToInt, mm_t1, mm_t2, mm_t3, mm_t4, mm_t10] at h1); omega) ?_
      refine mm_iconst 71 1 dX12_readsPerson_70 rfl (by decide) ?_
      refine mm_istore_2 72 dX12_readsPerson_71 rfl rfl ?_
      refine mm_iload_2 73 dX12_readsPerson_72 rfl ?_
      refine mm_iconst 74 4 dX12_readsPerson_73 rfl (by decide) ?_
      refine mm_ic_ge 136 77 dX12_readsPerson_74 (by decide) rfl (fun h => absurd h (by decide)) (fun _ => ?_)
      refine mm_aload_0 78 dX12_readsPerson_77 rfl ?_
      refine mm_iconst 79 1 dX12_readsPerson_78 rfl (by decide) ?_
      refine mm_iload_2 80 dX12_readsPerson_79 rfl ?_
      refine mm_iconst 81 2 dX12_readsPerson_80 rfl (by decide) ?_
      refine mm_ic_ne 88 84 dX12_readsPerson_81 (by decide) rfl (fun _ => ?_) (fun h => absurd h (by decide))
      refine mm_iconst 89 0 dX12_readsPerson_88 rfl (by decide) ?_
      refine mm_iload_2 90 dX12_readsPerson_89 rfl ?_
      refine mm_iconst 91 1 dX12_readsPerson_90 rfl (by decide) ?_
      refine mm_ic_ne 103 94 dX12_readsPerson_91 (by decide) rfl (fun h => absurd h (by decide)) (fun _ => ?_)
      refine mm_aload_0 95 dX12_readsPerson_94 rfl ?_
      refine mm_getI 98 dX12_readsPerson_95 f_X12_138 rfl t_51 rfl ?_
      refine mm_iconst 99 1 dX12_readsPerson_98 rfl (by decide) ?_
      refine mm_isub 100 dX12_readsPerson_99 rfl ?_
      refine mm_goto 105 dX12_readsPerson_100 (by decide) ?_
      refine mm_cV3i 108 dX12_readsPerson_105 v_X12_141 rfl t_51 (by decide) rfl rfl (Nat.le_of_ble_eq_true rfl) ⟨rfl, rfl⟩ ⟨Nat.zero_le _, Nat.zero_le _⟩ (c_X12_figure (t := 1) (n := n) (a := 5 * p + 1) (by omega) (by simp [mm_up, va_up, upd, hn]) (by omega) (by simp [mm_up, va_up, upd, ha, nI_1]) (by omega) rfl (fun j hj => by simp [mm_up, va_up, upd]; simpa using hB20 j hj) (by decide) (fun h14 => ?_) (fun h14 => ?_))
      · refine mm_istore_3 109 dX12_readsPerson_108 rfl rfl ?_
        refine mm_iload_3 110 dX12_readsPerson_109 rfl ?_
        refine mm_iconst 111 (-1) dX12_readsPerson_110 rfl (by decide) ?_
        refine mm_ic_ne 116 114 dX12_readsPerson_111 (by decide) rfl (fun h15 => ?_) (fun h15 => ?_)
        · refine mm_aload_0 117 dX12_readsPerson_116 rfl ?_
          refine mm_getR 120 dX12_readsPerson_117 f_X12_31 rfl t_51 rfl ?_
          refine mm_iconst 121 4 dX12_readsPerson_120 rfl (by decide) ?_
          refine mm_aload_0 122 dX12_readsPerson_121 rfl ?_
          refine mm_getI 125 dX12_readsPerson_122 f_X12_144 rfl t_51 rfl ?_
          refine mm_imul 126 dX12_readsPerson_125 rfl ?_
          refine mm_iload_2 127 dX12_readsPerson_126 rfl ?_
          refine mm_iadd 128 dX12_readsPerson_127 rfl ?_
          refine mm_iload_3 129 dX12_readsPerson_128 rfl ?_
          refine mm_iastoren 130 (4 * p + 1) dX12_readsPerson_129 rfl t_59 (by decide) (by simp [mm_up, va_up, upd, hp]; rw [mm_l4, pk_mul]; exact nI_add _ 1) (by (try simp only [pi, Int32.lt_iff_toInt_lt, Int32.le_iff_toInt_le, ← Int32.toInt_inj, vp_in_iff, Int32.reduceToInt, mm_t1, mm_t2, mm_t3, mm_t4, mm_t10] at h1); omega) ?_
          refine mm_iinc_2 133 1 dX12_readsPerson_130 rfl (by decide) rfl ?_
          refine mm_goto 72 dX12_readsPerson_133 (by decide) ?_
          refine mm_iload_2 73 dX12_readsPerson_72 rfl ?_
          refine mm_iconst 74 4 dX12_readsPerson_73 rfl (by decide) ?_
          refine mm_ic_ge 136 77 dX12_readsPerson_74 (by decide) rfl (fun h => absurd h (by decide)) (fun _ => ?_)
          refine mm_aload_0 78 dX12_readsPerson_77 rfl ?_
          refine mm_iconst 79 1 dX12_readsPerson_78 rfl (by decide) ?_
          refine mm_iload_2 80 dX12_readsPerson_79 rfl ?_
          refine mm_iconst 81 2 dX12_readsPerson_80 rfl (by decide) ?_
          refine mm_ic_ne 88 84 dX12_readsPerson_81 (by decide) rfl (fun h => absurd h (by decide)) (fun _ => ?_)
          refine mm_iconst 85 1 dX12_readsPerson_84 rfl (by decide) ?_
          refine mm_goto 89 dX12_readsPerson_85 (by decide) ?_
          refine mm_iload_2 90 dX12_readsPerson_89 rfl ?_
          refine mm_iconst 91 1 dX12_readsPerson_90 rfl (by decide) ?_
          refine mm_ic_ne 103 94 dX12_readsPerson_91 (by decide) rfl (fun _ => ?_) (fun h => absurd h (by decide))
          refine mm_bipush 105 9 dX12_readsPerson_103 rfl (by decide) ?_
          refine mm_cV3i 108 dX12_readsPerson_105 v_X12_141 rfl t_51 (by decide) rfl rfl (Nat.le_of_ble_eq_true rfl) ⟨rfl, rfl⟩ ⟨Nat.zero_le _, Nat.zero_le _⟩ (c_X12_figure (t := 1) (n := n) (a := 5 * p + 2) (by omega) (by simp [mm_up, va_up, upd, hn]) (by omega) (by simp [mm_up, va_up, upd, ha, nI_1]) (by omega) rfl (fun j hj => by simp [mm_up, va_up, upd]; simpa using hB20 j hj) (by decide) (fun h16 => ?_) (fun h16 => ?_))
          · refine mm_istore_3 109 dX12_readsPerson_108 rfl rfl ?_
            refine mm_iload_3 110 dX12_readsPerson_109 rfl ?_
            refine mm_iconst 111 (-1) dX12_readsPerson_110 rfl (by decide) ?_
            refine mm_ic_ne 116 114 dX12_readsPerson_111 (by decide) rfl (fun h17 => ?_) (fun h17 => ?_)
            · refine mm_aload_0 117 dX12_readsPerson_116 rfl ?_
              refine mm_getR 120 dX12_readsPerson_117 f_X12_31 rfl t_51 rfl ?_
              refine mm_iconst 121 4 dX12_readsPerson_120 rfl (by decide) ?_
              refine mm_aload_0 122 dX12_readsPerson_121 rfl ?_
              refine mm_getI 125 dX12_readsPerson_122 f_X12_144 rfl t_51 rfl ?_
              refine mm_imul 126 dX12_readsPerson_125 rfl ?_
              refine mm_iload_2 127 dX12_readsPerson_126 rfl ?_
              refine mm_iadd 128 dX12_readsPerson_127 rfl ?_
              refine mm_iload_3 129 dX12_readsPerson_128 rfl ?_
              refine mm_iastoren 130 (4 * p + 2) dX12_readsPerson_129 rfl t_59 (by decide) (by simp [mm_up, va_up, upd, hp]; rw [mm_l4, pk_mul]; exact nI_add _ 2) (by (try simp only [pi, Int32.lt_iff_toInt_lt, Int32.le_iff_toInt_le, ← Int32.toInt_inj, vp_in_iff, Int32.reduceToInt, mm_t1, mm_t2, mm_t3, mm_t4, mm_t10] at h1); omega) ?_
              refine mm_iinc_2 133 1 dX12_readsPerson_130 rfl (by decide) rfl ?_
              refine mm_goto 72 dX12_readsPerson_133 (by decide) ?_
              refine mm_iload_2 73 dX12_readsPerson_72 rfl ?_
              refine mm_iconst 74 4 dX12_readsPerson_73 rfl (by decide) ?_
              refine mm_ic_ge 136 77 dX12_readsPerson_74 (by decide) rfl (fun h => absurd h (by decide)) (fun _ => ?_)
              refine mm_aload_0 78 dX12_readsPerson_77 rfl ?_
              refine mm_iconst 79 1 dX12_readsPerson_78 rfl (by decide) ?_
              refine mm_iload_2 80 dX12_readsPerson_79 rfl ?_
              refine mm_iconst 81 2 dX12_readsPerson_80 rfl (by decide) ?_
              refine mm_ic_ne 88 84 dX12_readsPerson_81 (by decide) rfl (fun _ => ?_) (fun h => absurd h (by decide))
              refine mm_iconst 89 0 dX12_readsPerson_88 rfl (by decide) ?_
              refine mm_iload_2 90 dX12_readsPerson_89 rfl ?_
              refine mm_iconst 91 1 dX12_readsPerson_90 rfl (by decide) ?_
              refine mm_ic_ne 103 94 dX12_readsPerson_91 (by decide) rfl (fun _ => ?_) (fun h => absurd h (by decide))
              refine mm_bipush 105 9 dX12_readsPerson_103 rfl (by decide) ?_
              refine mm_cV3i 108 dX12_readsPerson_105 v_X12_141 rfl t_51 (by decide) rfl rfl (Nat.le_of_ble_eq_true rfl) ⟨rfl, rfl⟩ ⟨Nat.zero_le _, Nat.zero_le _⟩ (c_X12_figure (t := 1) (n := n) (a := 5 * p + 3) (by omega) (by simp [mm_up, va_up, upd, hn]) (by omega) (by simp [mm_up, va_up, upd, ha, nI_1]) (by omega) rfl (fun j hj => by simp [mm_up, va_up, upd]; simpa using hB20 j hj) (by decide) (fun h18 => ?_) (fun h18 => ?_))
              · refine mm_istore_3 109 dX12_readsPerson_108 rfl rfl ?_
                refine mm_iload_3 110 dX12_readsPerson_109 rfl ?_
                refine mm_iconst 111 (-1) dX12_readsPerson_110 rfl (by decide) ?_
                refine mm_ic_ne 116 114 dX12_readsPerson_111 (by decide) rfl (fun h19 => ?_) (fun h19 => ?_)
                · refine mm_aload_0 117 dX12_readsPerson_116 rfl ?_
                  refine mm_getR 120 dX12_readsPerson_117 f_X12_31 rfl t_51 rfl ?_
                  refine mm_iconst 121 4 dX12_readsPerson_120 rfl (by decide) ?_
                  refine mm_aload_0 122 dX12_readsPerson_121 rfl ?_
                  refine mm_getI 125 dX12_readsPerson_122 f_X12_144 rfl t_51 rfl ?_
                  refine mm_imul 126 dX12_readsPerson_125 rfl ?_
                  refine mm_iload_2 127 dX12_readsPerson_126 rfl ?_
                  refine mm_iadd 128 dX12_readsPerson_127 rfl ?_
                  refine mm_iload_3 129 dX12_readsPerson_128 rfl ?_
                  refine mm_iastoren 130 (4 * p + 3) dX12_readsPerson_129 rfl t_59 (by decide) (by simp [mm_up, va_up, upd, hp]; rw [mm_l4, pk_mul]; exact nI_add _ 3) (by (try simp only [pi, Int32.lt_iff_toInt_lt, Int32.le_iff_toInt_le, ← Int32.toInt_inj, vp_in_iff, Int32.reduceToInt, mm_t1, mm_t2, mm_t3, mm_t4, mm_t10] at h1); omega) ?_
                  refine mm_iinc_2 133 1 dX12_readsPerson_130 rfl (by decide) rfl ?_
                  refine mm_goto 72 dX12_readsPerson_133 (by decide) ?_
                  refine mm_iload_2 73 dX12_readsPerson_72 rfl ?_
                  refine mm_iconst 74 4 dX12_readsPerson_73 rfl (by decide) ?_
                  refine mm_ic_ge 136 77 dX12_readsPerson_74 (by decide) rfl (fun _ => ?_) (fun h => absurd h (by decide))
                  refine mm_aload_0 137 dX12_readsPerson_136 rfl ?_
                  refine mm_dup 138 dX12_readsPerson_137 rfl rfl ?_
                  refine mm_getI 141 dX12_readsPerson_138 f_X12_144 rfl t_51 rfl ?_
                  refine mm_iconst 142 1 dX12_readsPerson_141 rfl (by decide) ?_
                  refine mm_iadd 143 dX12_readsPerson_142 rfl ?_
                  refine mm_putI 146 dX12_readsPerson_143 p_X12_144 ⟨rfl, rfl⟩ rfl t_51 rfl ?_
                  refine mm_iconst 147 1 dX12_readsPerson_146 rfl (by decide) ?_
                  refine mm_zret dX12_readsPerson_147 rfl ⟨rfl, Nat.zero_le _⟩ (Or.inr rfl) ?_
                  (try simp only [pi, Int32.lt_iff_toInt_lt, Int32.le_iff_toInt_le, ← Int32.toInt_inj, vp_in_iff, Int32.reduceToInt, mm_t1, mm_t2, mm_t3, mm_t4, mm_t10] at h1)
                  have q1 := congrArg Int32.toInt e3
                  (try simp only [Int32.lt_iff_toInt_lt, Int32.le_iff_toInt_le, ← Int32.toInt_inj, vp_in_iff, Int32.reduceToInt, mm_t1, mm_t2, mm_t3, mm_t4, mm_t10] at h4)
                  rw [Nat.mul_one, hb] at q1
                  have w : 5 * p < n := by
                    by_cases w : 5 * p < n
                    · exact w
                    · exfalso
                      rw [if_neg w] at q1
                      simp only [mm_t1] at q1
                      omega
                  rw [if_pos w] at q1
                  have d0 : q_pg nl b (5 * p) = true := by rw [q_pg0]; exact decide_eq_true (by omega)
                  have f1 := h14
                  simp only [mm_upn _ _ _ (show (56:Nat) ≠ 51 by decide), mm_upn _ _ _ (show (56:Nat) ≠ 59 by decide), Nat.mul_one, hb, Int32.reduceToInt] at f1
                  have hi2 : ∀ x, (mm_up (mm_up M 51 7 (M 51 7 + 1)) 59 (4 * p) x 51 8 - 1).toInt = (nl : Int) - 1 := fun x => by rw [mm_upn _ _ _ (by decide)]; simp only [mm_up, va_up, upd, if_true, if_neg (show ¬ (8:Nat) = 7 by decide)]; exact hi
                  simp only [hi2] at f1
                  have f2 := h16
                  simp only [mm_upn _ _ _ (show (56:Nat) ≠ 51 by decide), mm_upn _ _ _ (show (56:Nat) ≠ 59 by decide), Nat.mul_one, hb, Int32.reduceToInt] at f2
                  have f3 := h18
                  simp only [mm_upn _ _ _ (show (56:Nat) ≠ 51 by decide), mm_upn _ _ _ (show (56:Nat) ≠ 59 by decide), Nat.mul_one, hb, Int32.reduceToInt] at f3
                  have d1 : q_pg nl b (5 * p + 1) = true := by rw [q_pg1]; exact decide_eq_true (by omega)
                  have d2 : q_pg nl b (5 * p + 2) = true := by rw [q_pg2]; exact decide_eq_true (by omega)
                  have d3 : q_pg nl b (5 * p + 3) = true := by rw [q_pg3]; exact decide_eq_true (by omega)
                  refine kA _ (by omega) (q_4 d0 d1 d2 d3) (by simp [mm_up, va_up, upd]) (by simp [mm_up, va_up, upd, hp, nI_1]) (q_4 ?_ ?_ ?_ ?_) (fun j hj => by simp [mm_up, va_up, upd, show j ≠ 4 * p by omega, show j ≠ 4 * p + 1 by omega, show j ≠ 4 * p + 2 by omega, show j ≠ 4 * p + 3 by omega]) (fun c c1 c2 => by simp [mm_up, va_up, upd, c1, c2]) (fun f f1 f2 => by simp [mm_up, va_up, upd, f1, f2])
                  · simp [mm_up, va_up, upd, q_wh]
                    omega
                  · simp [mm_up, va_up, upd, q_wh, hb, show ∀ x, 20 + (5 * p + x) = 20 + (5 * p + x) from fun _ => rfl]
                  · simp [mm_up, va_up, upd, q_wh, hb, show ∀ x, 20 + (5 * p + x) = 20 + (5 * p + x) from fun _ => rfl]
                  · simp [mm_up, va_up, upd, q_wh, hb, show ∀ x, 20 + (5 * p + x) = 20 + (5 * p + x) from fun _ => rfl]
                · refine mm_iconst 115 0 dX12_readsPerson_114 rfl (by decide) ?_
                  refine mm_zret dX12_readsPerson_115 rfl ⟨rfl, Nat.zero_le _⟩ (Or.inl rfl) ?_
                  (try simp only [pi, Int32.lt_iff_toInt_lt, Int32.le_iff_toInt_le, ← Int32.toInt_inj, vp_in_iff, Int32.reduceToInt, mm_t1, mm_t2, mm_t3, mm_t4, mm_t10] at h1)
                  have q1 := congrArg Int32.toInt e3
                  (try simp only [Int32.lt_iff_toInt_lt, Int32.le_iff_toInt_le, ← Int32.toInt_inj, vp_in_iff, Int32.reduceToInt, mm_t1, mm_t2, mm_t3, mm_t4, mm_t10] at h4)
                  rw [Nat.mul_one, hb] at q1
                  have w : 5 * p < n := by
                    by_cases w : 5 * p < n
                    · exact w
                    · exfalso
                      rw [if_neg w] at q1
                      simp only [mm_t1] at q1
                      omega
                  rw [if_pos w] at q1
                  have d0 : q_pg nl b (5 * p) = true := by rw [q_pg0]; exact decide_eq_true (by omega)
                  have f1 := h14
                  simp only [mm_upn _ _ _ (show (56:Nat) ≠ 51 by decide), mm_upn _ _ _ (show (56:Nat) ≠ 59 by decide), Nat.mul_one, hb, Int32.reduceToInt] at f1
                  have hi2 : ∀ x, (mm_up (mm_up M 51 7 (M 51 7 + 1)) 59 (4 * p) x 51 8 - 1).toInt = (nl : Int) - 1 := fun x => by rw [mm_upn _ _ _ (by decide)]; simp only [mm_up, va_up, upd, if_true, if_neg (show ¬ (8:Nat) = 7 by decide)]; exact hi
                  simp only [hi2] at f1
                  have f2 := h16
                  simp only [mm_upn _ _ _ (show (56:Nat) ≠ 51 by decide), mm_upn _ _ _ (show (56:Nat) ≠ 59 by decide), Nat.mul_one, hb, Int32.reduceToInt] at f2
                  have f3 := h18
                  simp only [mm_upn _ _ _ (show (56:Nat) ≠ 51 by decide), mm_upn _ _ _ (show (56:Nat) ≠ 59 by decide), Nat.mul_one, hb, Int32.reduceToInt] at f3
                  exfalso
                  have z := congrArg Int32.toInt h19
                  have hBa := hB (5 * p + 3) f3.1
                  simp only [mm_upn _ _ _ (show (56:Nat) ≠ 51 by decide), mm_upn _ _ _ (show (56:Nat) ≠ 59 by decide), Nat.mul_one, hb] at z
                  rw [mm_sub (by simp only [Int32.reduceToInt]; omega)] at z
                  simp only [Int32.reduceToInt, mm_t1] at z
                  omega
              · refine mm_istore_3 109 dX12_readsPerson_108 rfl rfl ?_
                refine mm_iload_3 110 dX12_readsPerson_109 rfl ?_
                refine mm_iconst 111 (-1) dX12_readsPerson_110 rfl (by decide) ?_
                refine mm_ic_ne 116 114 dX12_readsPerson_111 (by decide) rfl (fun h => absurd h (by decide)) (fun _ => ?_)
                refine mm_iconst 115 0 dX12_readsPerson_114 rfl (by decide) ?_
                refine mm_zret dX12_readsPerson_115 rfl ⟨rfl, Nat.zero_le _⟩ (Or.inl rfl) ?_
                (try simp only [pi, Int32.lt_iff_toInt_lt, Int32.le_iff_toInt_le, ← Int32.toInt_inj, vp_in_iff, Int32.reduceToInt, mm_t1, mm_t2, mm_t3, mm_t4, mm_t10] at h1)
                have q1 := congrArg Int32.toInt e3
                (try simp only [Int32.lt_iff_toInt_lt, Int32.le_iff_toInt_le, ← Int32.toInt_inj, vp_in_iff, Int32.reduceToInt, mm_t1, mm_t2, mm_t3, mm_t4, mm_t10] at h4)
                rw [Nat.mul_one, hb] at q1
                have w : 5 * p < n := by
                  by_cases w : 5 * p < n
                  · exact w
                  · exfalso
                    rw [if_neg w] at q1
                    simp only [mm_t1] at q1
                    omega
                rw [if_pos w] at q1
                have d0 : q_pg nl b (5 * p) = true := by rw [q_pg0]; exact decide_eq_true (by omega)
                have f1 := h14
                simp only [mm_upn _ _ _ (show (56:Nat) ≠ 51 by decide), mm_upn _ _ _ (show (56:Nat) ≠ 59 by decide), Nat.mul_one, hb, Int32.reduceToInt] at f1
                have hi2 : ∀ x, (mm_up (mm_up M 51 7 (M 51 7 + 1)) 59 (4 * p) x 51 8 - 1).toInt = (nl : Int) - 1 := fun x => by rw [mm_upn _ _ _ (by decide)]; simp only [mm_up, va_up, upd, if_true, if_neg (show ¬ (8:Nat) = 7 by decide)]; exact hi
                simp only [hi2] at f1
                have f2 := h16
                simp only [mm_upn _ _ _ (show (56:Nat) ≠ 51 by decide), mm_upn _ _ _ (show (56:Nat) ≠ 59 by decide), Nat.mul_one, hb, Int32.reduceToInt] at f2
                have f3 := h18
                simp only [mm_upn _ _ _ (show (56:Nat) ≠ 51 by decide), mm_upn _ _ _ (show (56:Nat) ≠ 59 by decide), Nat.mul_one, hb, Int32.reduceToInt] at f3
                have d1 : q_pg nl b (5 * p + 1) = true := by rw [q_pg1]; exact decide_eq_true (by omega)
                have d2 : q_pg nl b (5 * p + 2) = true := by rw [q_pg2]; exact decide_eq_true (by omega)
                refine kB _ 3 (by omega) (by omega) (fun j hj => by rcases (show j = 0 ∨ j = 1 ∨ j = 2 by omega) with rfl | rfl | rfl <;> assumption) ?_ (by simp [mm_up, va_up, upd, ha, nI_1]) (fun c c1 c2 => by simp [mm_up, va_up, upd, c1, c2]) (fun f f1 => by simp [mm_up, va_up, upd, f1])
                by_cases w2 : 5 * p + 3 < n
                · refine Or.inr ?_
                  rw [q_pg3]
                  exact decide_eq_false (by omega)
                · exact Or.inl (by omega)
            · refine mm_iconst 115 0 dX12_readsPerson_114 rfl (by decide) ?_
              refine mm_zret dX12_readsPerson_115 rfl ⟨rfl, Nat.zero_le _⟩ (Or.inl rfl) ?_
              (try simp only [pi, Int32.lt_iff_toInt_lt, Int32.le_iff_toInt_le, ← Int32.toInt_inj, vp_in_iff, Int32.reduceToInt, mm_t1, mm_t2, mm_t3, mm_t4, mm_t10] at h1)
              have q1 := congrArg Int32.toInt e3
              (try simp only [Int32.lt_iff_toInt_lt, Int32.le_iff_toInt_le, ← Int32.toInt_inj, vp_in_iff, Int32.reduceToInt, mm_t1, mm_t2, mm_t3, mm_t4, mm_t10] at h4)
              rw [Nat.mul_one, hb] at q1
              have w : 5 * p < n := by
                by_cases w : 5 * p < n
                · exact w
                · exfalso
                  rw [if_neg w] at q1
                  simp only [mm_t1] at q1
                  omega
              rw [if_pos w] at q1
              have d0 : q_pg nl b (5 * p) = true := by rw [q_pg0]; exact decide_eq_true (by omega)
              have f1 := h14
              simp only [mm_upn _ _ _ (show (56:Nat) ≠ 51 by decide), mm_upn _ _ _ (show (56:Nat) ≠ 59 by decide), Nat.mul_one, hb, Int32.reduceToInt] at f1
              have hi2 : ∀ x, (mm_up (mm_up M 51 7 (M 51 7 + 1)) 59 (4 * p) x 51 8 - 1).toInt = (nl : Int) - 1 := fun x => by rw [mm_upn _ _ _ (by decide)]; simp only [mm_up, va_up, upd, if_true, if_neg (show ¬ (8:Nat) = 7 by decide)]; exact hi
              simp only [hi2] at f1
              have f2 := h16
              simp only [mm_upn _ _ _ (show (56:Nat) ≠ 51 by decide), mm_upn _ _ _ (show (56:Nat) ≠ 59 by decide), Nat.mul_one, hb, Int32.reduceToInt] at f2
              exfalso
              have z := congrArg Int32.toInt h17
              have hBa := hB (5 * p + 2) f2.1
              simp only [mm_upn _ _ _ (show (56:Nat) ≠ 51 by decide), mm_upn _ _ _ (show (56:Nat) ≠ 59 by decide), Nat.mul_one, hb] at z
              rw [mm_sub (by simp only [Int32.reduceToInt]; omega)] at z
              simp only [Int32.reduceToInt, mm_t1] at z
              omega
          · refine mm_istore_3 109 dX12_readsPerson_108 rfl rfl ?_
            refine mm_iload_3 110 dX12_readsPerson_109 rfl ?_
            refine mm_iconst 111 (-1) dX12_readsPerson_110 rfl (by decide) ?_
            refine mm_ic_ne 116 114 dX12_readsPerson_111 (by decide) rfl (fun h => absurd h (by decide)) (fun _ => ?_)
            refine mm_iconst 115 0 dX12_readsPerson_114 rfl (by decide) ?_
            refine mm_zret dX12_readsPerson_115 rfl ⟨rfl, Nat.zero_le _⟩ (Or.inl rfl) ?_
            (try simp only [pi, Int32.lt_iff_toInt_lt, Int32.le_iff_toInt_le, ← Int32.toInt_inj, vp_in_iff, Int32.reduceToInt, mm_t1, mm_t2, mm_t3, mm_t4, mm_t10] at h1)
            have q1 := congrArg Int32.toInt e3
            (try simp only [Int32.lt_iff_toInt_lt, Int32.le_iff_toInt_le, ← Int32.toInt_inj, vp_in_iff, Int32.reduceToInt, mm_t1, mm_t2, mm_t3, mm_t4, mm_t10] at h4)
            rw [Nat.mul_one, hb] at q1
            have w : 5 * p < n := by
              by_cases w : 5 * p < n
              · exact w
              · exfalso
                rw [if_neg w] at q1
                simp only [mm_t1] at q1
                omega
            rw [if_pos w] at q1
            have d0 : q_pg nl b (5 * p) = true := by rw [q_pg0]; exact decide_eq_true (by omega)
            have f1 := h14
            simp only [mm_upn _ _ _ (show (56:Nat) ≠ 51 by decide), mm_upn _ _ _ (show (56:Nat) ≠ 59 by decide), Nat.mul_one, hb, Int32.reduceToInt] at f1
            have hi2 : ∀ x, (mm_up (mm_up M 51 7 (M 51 7 + 1)) 59 (4 * p) x 51 8 - 1).toInt = (nl : Int) - 1 := fun x => by rw [mm_upn _ _ _ (by decide)]; simp only [mm_up, va_up, upd, if_true, if_neg (show ¬ (8:Nat) = 7 by decide)]; exact hi
            simp only [hi2] at f1
            have f2 := h16
            simp only [mm_upn _ _ _ (show (56:Nat) ≠ 51 by decide), mm_upn _ _ _ (show (56:Nat) ≠ 59 by decide), Nat.mul_one, hb, Int32.reduceToInt] at f2
            have d1 : q_pg nl b (5 * p + 1) = true := by rw [q_pg1]; exact decide_eq_true (by omega)
            refine kB _ 2 (by omega) (by omega) (fun j hj => by rcases (show j = 0 ∨ j = 1 by omega) with rfl | rfl <;> assumption) ?_ (by simp [mm_up, va_up, upd, ha, nI_1]) (fun c c1 c2 => by simp [mm_up, va_up, upd, c1, c2]) (fun f f1 => by simp [mm_up, va_up, upd, f1])
            by_cases w2 : 5 * p + 2 < n
            · refine Or.inr ?_
              rw [q_pg2]
              exact decide_eq_false (by omega)
            · exact Or.inl (by omega)
        · refine mm_iconst 115 0 dX12_readsPerson_114 rfl (by decide) ?_
          refine mm_zret dX12_readsPerson_115 rfl ⟨rfl, Nat.zero_le _⟩ (Or.inl rfl) ?_
          (try simp only [pi, Int32.lt_iff_toInt_lt, Int32.le_iff_toInt_le, ← Int32.toInt_inj, vp_in_iff, Int32.reduceToInt, mm_t1, mm_t2, mm_t3, mm_t4, mm_t10] at h1)
          have q1 := congrArg Int32.toInt e3
          (try simp only [Int32.lt_iff_toInt_lt, Int32.le_iff_toInt_le, ← Int32.toInt_inj, vp_in_iff, Int32.reduceToInt, mm_t1, mm_t2, mm_t3, mm_t4, mm_t10] at h4)
          rw [Nat.mul_one, hb] at q1
          have w : 5 * p < n := by
            by_cases w : 5 * p < n
            · exact w
            · exfalso
              rw [if_neg w] at q1
              simp only [mm_t1] at q1
              omega
          rw [if_pos w] at q1
          have d0 : q_pg nl b (5 * p) = true := by rw [q_pg0]; exact decide_eq_true (by omega)
          have f1 := h14
          simp only [mm_upn _ _ _ (show (56:Nat) ≠ 51 by decide), mm_upn _ _ _ (show (56:Nat) ≠ 59 by decide), Nat.mul_one, hb, Int32.reduceToInt] at f1
          have hi2 : ∀ x, (mm_up (mm_up M 51 7 (M 51 7 + 1)) 59 (4 * p) x 51 8 - 1).toInt = (nl : Int) - 1 := fun x => by rw [mm_upn _ _ _ (by decide)]; simp only [mm_up, va_up, upd, if_true, if_neg (show ¬ (8:Nat) = 7 by decide)]; exact hi
          simp only [hi2] at f1
          exfalso
          have z := congrArg Int32.toInt h15
          have hBa := hB (5 * p + 1) f1.1
          simp only [mm_upn _ _ _ (show (56:Nat) ≠ 51 by decide), mm_upn _ _ _ (show (56:Nat) ≠ 59 by decide), Nat.mul_one, hb] at z
          rw [mm_sub (by simp only [Int32.reduceToInt]; omega)] at z
          simp only [Int32.reduceToInt, mm_t1] at z
          omega
      · refine mm_istore_3 109 dX12_readsPerson_108 rfl rfl ?_
        refine mm_iload_3 110 dX12_readsPerson_109 rfl ?_
        refine mm_iconst 111 (-1) dX12_readsPerson_110 rfl (by decide) ?_
        refine mm_ic_ne 116 114 dX12_readsPerson_111 (by decide) rfl (fun h => absurd h (by decide)) (fun _ => ?_)
        refine mm_iconst 115 0 dX12_readsPerson_114 rfl (by decide) ?_
        refine mm_zret dX12_readsPerson_115 rfl ⟨rfl, Nat.zero_le _⟩ (Or.inl rfl) ?_
        (try simp only [pi, Int32.lt_iff_toInt_lt, Int32.le_iff_toInt_le, ← Int32.toInt_inj, vp_in_iff, Int32.reduceToInt, mm_t1, mm_t2, mm_t3, mm_t4, mm_t10] at h1)
        have q1 := congrArg Int32.toInt e3
        (try simp only [Int32.lt_iff_toInt_lt, Int32.le_iff_toInt_le, ← Int32.toInt_inj, vp_in_iff, Int32.reduceToInt, mm_t1, mm_t2, mm_t3, mm_t4, mm_t10] at h4)
        rw [Nat.mul_one, hb] at q1
        have w : 5 * p < n := by
          by_cases w : 5 * p < n
          · exact w
          · exfalso
            rw [if_neg w] at q1
            simp only [mm_t1] at q1
            omega
        rw [if_pos w] at q1
        have d0 : q_pg nl b (5 * p) = true := by rw [q_pg0]; exact decide_eq_true (by omega)
        have f1 := h14
        simp only [mm_upn _ _ _ (show (56:Nat) ≠ 51 by decide), mm_upn _ _ _ (show (56:Nat) ≠ 59 by decide), Nat.mul_one, hb, Int32.reduceToInt] at f1
        have hi2 : ∀ x, (mm_up (mm_up M 51 7 (M 51 7 + 1)) 59 (4 * p) x 51 8 - 1).toInt = (nl : Int) - 1 := fun x => by rw [mm_upn _ _ _ (by decide)]; simp only [mm_up, va_up, upd, if_true, if_neg (show ¬ (8:Nat) = 7 by decide)]; exact hi
        simp only [hi2] at f1
        refine kB _ 1 (by omega) (by omega) (fun j hj => by rw [show j = 0 by omega]; exact d0) ?_ (by simp [mm_up, va_up, upd, ha, nI_1]) (fun c c1 c2 => by simp [mm_up, va_up, upd, c1, c2]) (fun f f1 => by simp [mm_up, va_up, upd, f1])
        by_cases w2 : 5 * p + 1 < n
        · refine Or.inr ?_
          rw [q_pg1]
          exact decide_eq_false (by omega)
        · exact Or.inl (by omega)
  · refine mm_iconst 10 0 dX12_readsPerson_9 rfl (by decide) ?_
    refine mm_zret dX12_readsPerson_10 rfl ⟨rfl, Nat.zero_le _⟩ (Or.inl rfl) ?_
    (try simp only [pi, Int32.lt_iff_toInt_lt, Int32.le_iff_toInt_le, ← Int32.toInt_inj, vp_in_iff, Int32.reduceToInt, mm_t1, mm_t2, mm_t3, mm_t4, mm_t10] at h1)
    exact kB M 0 (by omega) (by omega) (fun j hj => by omega) (Or.inl (by omega)) ha (fun _ _ _ => rfl) (fun _ _ => rfl)

