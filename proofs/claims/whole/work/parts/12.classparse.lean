set_option maxHeartbeats 4000000 in
theorem c_X8_length {l : Launch} {G : mm_G} {d : Nat} {M : mm_M} {Q : Int32 → mm_T → mm_M → Prop} {c b cap : Nat} (hc : T0[c]? = some (8, 0, [some (some b), none])) (hb : T0[b]? = some (13, cap, [])) (h : ∀ r, r = M c 1 → Q r T0 (M)) : mm_met l G d k_X8_length [.ref c] T0 M (mm_pi Q) := by
  refine mm_enter 0 [.ref c] o_X8_length rfl rfl ?_
  refine mm_aload_0 1 dX8_length_0 rfl ?_
  refine mm_getI 4 dX8_length_1 f_X8_9 rfl hc rfl ?_
  refine mm_iret dX8_length_4 rfl ⟨rfl, Nat.zero_le _⟩ ?_
  exact h _ rfl

set_option maxHeartbeats 4000000 in
theorem c_X8_isFull {l : Launch} {G : mm_G} {d : Nat} {M : mm_M} {Q : Int32 → mm_T → mm_M → Prop} {c b cap : Nat} (hc : T0[c]? = some (8, 0, [some (some b), none])) (hb : T0[b]? = some (13, cap, [])) (ht : (nI cap).toInt ≤ (M c 1).toInt → Q 1 T0 M) (hf : ¬ ((nI cap).toInt ≤ (M c 1).toInt) → Q 0 T0 M) : mm_met l G d k_X8_isFull [.ref c] T0 M (mm_pi Q) := by
  refine mm_enter 0 [.ref c] o_X8_isFull rfl rfl ?_
  refine mm_aload_0 1 dX8_isFull_0 rfl ?_
  refine mm_getI 4 dX8_isFull_1 f_X8_9 rfl hc rfl ?_
  refine mm_aload_0 5 dX8_isFull_4 rfl ?_
  refine mm_getR 8 dX8_isFull_5 f_X8_21 rfl hc rfl ?_
  refine mm_alenI 9 dX8_isFull_8 rfl hb ?_
  refine mm_ic_lt 16 12 dX8_isFull_9 (by decide) rfl (fun h1 => ?_) (fun h1 => ?_)
  · refine mm_iconst 17 0 dX8_isFull_16 rfl (by decide) ?_
    refine mm_zret dX8_isFull_17 rfl ⟨rfl, Nat.zero_le _⟩ (Or.inl rfl) ?_
    refine hf ?_
    try simp only [Int32.lt_iff_toInt_lt, Int32.le_iff_toInt_le, ← Int32.toInt_inj, vp_in_iff, Int32.reduceToInt, mm_t1, mm_t2, mm_t3, mm_t4, mm_t10] at h1 ⊢
    omega
  · refine mm_iconst 13 1 dX8_isFull_12 rfl (by decide) ?_
    refine mm_goto 17 dX8_isFull_13 (by decide) ?_
    refine mm_zret dX8_isFull_17 rfl ⟨rfl, Nat.zero_le _⟩ (Or.inr rfl) ?_
    refine ht ?_
    try simp only [Int32.lt_iff_toInt_lt, Int32.le_iff_toInt_le, ← Int32.toInt_inj, vp_in_iff, Int32.reduceToInt, mm_t1, mm_t2, mm_t3, mm_t4, mm_t10] at h1 ⊢
    omega

set_option maxHeartbeats 4000000 in
theorem c_X8_clear {l : Launch} {G : mm_G} {d : Nat} {M : mm_M} {Q : mm_T → mm_M → Prop} {c b cap : Nat} (hc : T0[c]? = some (8, 0, [some (some b), none])) (hb : T0[b]? = some (13, cap, [])) (h : Q T0 (mm_up M c 1 0)) : mm_met l G d k_X8_clear [.ref c] T0 M (mm_pv Q) := by
  refine mm_enter 0 [.ref c] o_X8_clear rfl rfl ?_
  refine mm_aload_0 1 dX8_clear_0 rfl ?_
  refine mm_iconst 2 0 dX8_clear_1 rfl (by decide) ?_
  refine mm_putI 5 dX8_clear_2 p_X8_9 ⟨rfl, rfl⟩ rfl hc rfl ?_
  refine mm_vret dX8_clear_5 rfl ⟨rfl, Nat.zero_le _⟩ ?_
  exact h

set_option maxHeartbeats 4000000 in
theorem c_X8_append {l : Launch} {G : mm_G} {d : Nat} {M : mm_M} {Q : mm_T → mm_M → Prop} {c b cap : Nat} (hc : T0[c]? = some (8, 0, [some (some b), none])) (hb : T0[b]? = some (13, cap, [])) {n : Nat} (hn : M c 1 = nI n) (hcap : n < cap) (hs : cap < 2147483648) (hbc : b ≠ c) {v : Int32} (h : Q T0 (mm_up (mm_up M b n v) c 1 (nI (n + 1)))) : mm_met l G (d + 1) k_X8_append [.ref c, .int v] T0 M (mm_pv Q) := by
  have hni : (M c 1).toInt = n := by rw [hn]; exact mm_ti (by omega)
  have hci : (nI cap).toInt = cap := mm_ti (by omega)
  refine mm_enter 0 [.ref c, .int v] o_X8_append rfl rfl ?_
  refine mm_aload_0 1 dX8_append_0 rfl ?_
  refine mm_cV0i 4 dX8_append_1 v_X8_25 rfl hc (by decide) rfl rfl (Nat.le_of_ble_eq_true rfl) ⟨rfl, rfl⟩ ⟨Nat.zero_le _, Nat.zero_le _⟩ (c_X8_isFull hc hb (fun h1 => ?_) (fun h1 => ?_))
  · refine mm_if_ne 27 7 dX8_append_4 (by decide) rfl (fun _ => ?_) (fun h => absurd h (by decide))
    refine mm_vret dX8_append_27 rfl ⟨rfl, Nat.zero_le _⟩ ?_
    exfalso
    omega
  · refine mm_if_ne 27 7 dX8_append_4 (by decide) rfl (fun h => absurd h (by decide)) (fun _ => ?_)
    refine mm_aload_0 8 dX8_append_7 rfl ?_
    refine mm_getR 11 dX8_append_8 f_X8_21 rfl hc rfl ?_
    refine mm_aload_0 12 dX8_append_11 rfl ?_
    refine mm_getI 15 dX8_append_12 f_X8_9 rfl hc rfl ?_
    refine mm_iload_1 16 dX8_append_15 rfl ?_
    refine mm_iastoren 17 (n) dX8_append_16 rfl hb hs (hn) (by omega) ?_
    refine mm_aload_0 18 dX8_append_17 rfl ?_
    refine mm_dup 19 dX8_append_18 rfl rfl ?_
    refine mm_getI 22 dX8_append_19 f_X8_9 rfl hc rfl ?_
    refine mm_iconst 23 1 dX8_append_22 rfl (by decide) ?_
    refine mm_iadd 24 dX8_append_23 rfl ?_
    refine mm_putI 27 dX8_append_24 p_X8_9 ⟨rfl, rfl⟩ rfl hc rfl ?_
    refine mm_vret dX8_append_27 rfl ⟨rfl, Nat.zero_le _⟩ ?_
    have e1 : mm_up M b n v c 1 + 1 = nI (n + 1) := by rw [mm_upn _ _ _ (Ne.symm hbc), hn]; exact nI_1 n
    rw [e1]
    exact h

set_option maxHeartbeats 4000000 in
theorem c_X8_at {l : Launch} {G : mm_G} {d : Nat} {M : mm_M} {Q : Int32 → mm_T → mm_M → Prop} {c b cap : Nat} (hc : T0[c]? = some (8, 0, [some (some b), none])) (hb : T0[b]? = some (13, cap, [])) {n : Nat} (hn : M c 1 = nI n) (hcap : n ≤ cap) (hs : cap < 2147483648) {x : Int32} {k : Nat} (hx : x = nI k) (hk : k < 2147483648) (h : ∀ r, r = (if k < n then M b k else -1) → Q r T0 (M)) : mm_met l G d k_X8_at [.ref c, .int x] T0 M (mm_pi Q) := by
  have hni : (M c 1).toInt = n := by rw [hn]; exact mm_ti (by omega)
  have hxi : x.toInt = k := by rw [hx]; exact mm_ti hk
  refine mm_enter 0 [.ref c, .int x] o_X8_at rfl rfl ?_
  refine mm_iload_1 1 dX8_at_0 rfl ?_
  refine mm_if_lt 21 4 dX8_at_1 (by decide) rfl (fun h1 => ?_) (fun h1 => ?_)
  · refine mm_iconst 22 (-1) dX8_at_21 rfl (by decide) ?_
    refine mm_iret dX8_at_22 rfl ⟨rfl, Nat.zero_le _⟩ ?_
    refine h _ ?_
    rw [if_neg (by try simp only [Int32.lt_iff_toInt_lt, Int32.le_iff_toInt_le, ← Int32.toInt_inj, vp_in_iff, Int32.reduceToInt, mm_t1, mm_t2, mm_t3, mm_t4, mm_t10] at h1; omega)]
  · refine mm_iload_1 5 dX8_at_4 rfl ?_
    refine mm_aload_0 6 dX8_at_5 rfl ?_
    refine mm_getI 9 dX8_at_6 f_X8_9 rfl hc rfl ?_
    refine mm_ic_ge 21 12 dX8_at_9 (by decide) rfl (fun h2 => ?_) (fun h2 => ?_)
    · refine mm_iconst 22 (-1) dX8_at_21 rfl (by decide) ?_
      refine mm_iret dX8_at_22 rfl ⟨rfl, Nat.zero_le _⟩ ?_
      refine h _ ?_
      rw [if_neg (by try simp only [Int32.lt_iff_toInt_lt, Int32.le_iff_toInt_le, ← Int32.toInt_inj, vp_in_iff, Int32.reduceToInt, mm_t1, mm_t2, mm_t3, mm_t4, mm_t10] at h1 h2; omega)]
    · refine mm_aload_0 13 dX8_at_12 rfl ?_
      refine mm_getR 16 dX8_at_13 f_X8_21 rfl hc rfl ?_
      refine mm_iload_1 17 dX8_at_16 rfl ?_
      refine mm_ialoadn 18 (k) dX8_at_17 rfl hb hs (hx) (by try simp only [Int32.lt_iff_toInt_lt, Int32.le_iff_toInt_le, ← Int32.toInt_inj, vp_in_iff, Int32.reduceToInt, mm_t1, mm_t2, mm_t3, mm_t4, mm_t10] at h1 h2; omega) ?_
      refine mm_goto 22 dX8_at_18 (by decide) ?_
      refine mm_iret dX8_at_22 rfl ⟨rfl, Nat.zero_le _⟩ ?_
      refine h _ ?_
      rw [if_pos (by try simp only [Int32.lt_iff_toInt_lt, Int32.le_iff_toInt_le, ← Int32.toInt_inj, vp_in_iff, Int32.reduceToInt, mm_t1, mm_t2, mm_t3, mm_t4, mm_t10] at h1 h2; omega)]

set_option maxHeartbeats 4000000 in
theorem c_X8_figureAt {l : Launch} {G : mm_G} {d : Nat} {M : mm_M} {Q : Int32 → mm_T → mm_M → Prop} {c b cap : Nat} (hc : T0[c]? = some (8, 0, [some (some b), none])) (hb : T0[b]? = some (13, cap, [])) {n : Nat} (hn : M c 1 = nI n) (hcap : n ≤ cap) (hs : cap < 2147483648) {x : Int32} {k : Nat} (hx : x = nI k) (hk : k < 2147483648) (h : ∀ r, r = q_fig n (M b) k → Q r T0 (M)) : mm_met l G (d + 1) k_X8_figureAt [.ref c, .int x] T0 M (mm_pi Q) := by
  refine mm_enter 1 [.ref c, .int x, .double 0] o_X8_figureAt rfl rfl ?_
  refine mm_aload_0 1 dX8_figureAt_0 rfl ?_
  refine mm_iload_1 2 dX8_figureAt_1 rfl ?_
  refine mm_cV1i 5 dX8_figureAt_2 v_X8_29 rfl hc (by decide) rfl rfl (Nat.le_of_ble_eq_true rfl) ⟨rfl, rfl⟩ ⟨Nat.zero_le _, Nat.zero_le _⟩ (c_X8_at hc hb hn hcap hs hx hk (fun r1 e2 => ?_))
  refine mm_istore_2 6 dX8_figureAt_5 rfl rfl ?_
  refine mm_iload_2 7 dX8_figureAt_6 rfl ?_
  refine mm_bipush 9 48 dX8_figureAt_7 rfl (by decide) ?_
  refine mm_ic_lt 25 12 dX8_figureAt_9 (by decide) rfl (fun h3 => ?_) (fun h3 => ?_)
  · refine mm_iconst 26 (-1) dX8_figureAt_25 rfl (by decide) ?_
    refine mm_iret dX8_figureAt_26 rfl ⟨rfl, Nat.zero_le _⟩ ?_
    refine h _ ?_
    unfold q_fig
    split at e2 <;> subst e2 <;> (try simp only [Int32.lt_iff_toInt_lt, Int32.le_iff_toInt_le, ← Int32.toInt_inj, vp_in_iff, Int32.reduceToInt, mm_t1, mm_t2, mm_t3, mm_t4, mm_t10] at h3) <;> first | (exfalso; omega) | rw [if_pos (by omega)] | rw [if_neg (by omega)]
  · refine mm_iload_2 13 dX8_figureAt_12 rfl ?_
    refine mm_bipush 15 57 dX8_figureAt_13 rfl (by decide) ?_
    refine mm_ic_gt 25 18 dX8_figureAt_15 (by decide) rfl (fun h4 => ?_) (fun h4 => ?_)
    · refine mm_iconst 26 (-1) dX8_figureAt_25 rfl (by decide) ?_
      refine mm_iret dX8_figureAt_26 rfl ⟨rfl, Nat.zero_le _⟩ ?_
      refine h _ ?_
      unfold q_fig
      split at e2 <;> subst e2 <;> (try simp only [Int32.lt_iff_toInt_lt, Int32.le_iff_toInt_le, ← Int32.toInt_inj, vp_in_iff, Int32.reduceToInt, mm_t1, mm_t2, mm_t3, mm_t4, mm_t10] at h3 h4) <;> first | (exfalso; omega) | rw [if_pos (by omega)] | rw [if_neg (by omega)]
    · refine mm_iload_2 19 dX8_figureAt_18 rfl ?_
      refine mm_bipush 21 48 dX8_figureAt_19 rfl (by decide) ?_
      refine mm_isub 22 dX8_figureAt_21 rfl ?_
      refine mm_goto 26 dX8_figureAt_22 (by decide) ?_
      refine mm_iret dX8_figureAt_26 rfl ⟨rfl, Nat.zero_le _⟩ ?_
      refine h _ ?_
      unfold q_fig
      split at e2 <;> subst e2 <;> (try simp only [Int32.lt_iff_toInt_lt, Int32.le_iff_toInt_le, ← Int32.toInt_inj, vp_in_iff, Int32.reduceToInt, mm_t1, mm_t2, mm_t3, mm_t4, mm_t10] at h3 h4) <;> first | (exfalso; omega) | rw [if_pos (by omega)] | rw [if_neg (by omega)]

set_option maxHeartbeats 4000000 in
theorem c_X3_goesOn {l : Launch} {G : mm_G} {d : Nat} {M : mm_M} {Q : Int32 → mm_T → mm_M → Prop} {n : Nat} (hn : M 1 1 = nI n) (h20 : n ≤ 20) {x : Int32} {k : Nat} (hx : x = nI k) (hk : k < n) (ht : q_lg (M 2) k = true → Q 1 T0 M) (hf : ¬ (q_lg (M 2) k = true) → Q 0 T0 M) : mm_met l G (d + 2) k_X3_goesOn [.ref 1, .int x] T0 M (mm_pi Q) := by
  have hr := mm_rem 3 hx (by omega) mm_l3 (by omega) (by omega)
  have hv := mm_div 3 hx (by omega) mm_l3 (by omega) (by omega)
  have t1 : (nI (k % 3)).toInt = ((k % 3 : Nat) : Int) := mm_ti (by omega)
  have t2 : (nI (k / 3)).toInt = ((k / 3 : Nat) : Int) := mm_ti (by omega)
  refine mm_enter 0 [.ref 1, .int x] o_X3_goesOn rfl rfl ?_
  refine mm_iload_1 1 dX3_goesOn_0 rfl ?_
  refine mm_iconst 2 3 dX3_goesOn_1 rfl (by decide) ?_
  refine mm_irem 3 dX3_goesOn_2 rfl (by decide) ?_
  refine mm_iconst 4 2 dX3_goesOn_3 rfl (by decide) ?_
  refine mm_ic_ne 23 7 dX3_goesOn_4 (by decide) rfl (fun h1 => ?_) (fun h1 => ?_)
  · refine mm_iload_1 24 dX3_goesOn_23 rfl ?_
    refine mm_iconst 25 3 dX3_goesOn_24 rfl (by decide) ?_
    refine mm_idiv 26 dX3_goesOn_25 rfl (by decide) ?_
    refine mm_bipush 28 6 dX3_goesOn_26 rfl (by decide) ?_
    refine mm_ic_ge 44 31 dX3_goesOn_28 (by decide) rfl (fun h2 => ?_) (fun h2 => ?_)
    · refine mm_iconst 45 0 dX3_goesOn_44 rfl (by decide) ?_
      refine mm_zret dX3_goesOn_45 rfl ⟨rfl, Nat.zero_le _⟩ (Or.inl rfl) ?_
      (try simp only [hr] at h1 h2) <;> (try simp only [hv] at h1 h2) <;> (try simp only [t1, t2, Int32.lt_iff_toInt_lt, Int32.le_iff_toInt_le, ← Int32.toInt_inj, vp_in_iff, Int32.reduceToInt, mm_t1, mm_t2, mm_t3, mm_t4, mm_t10] at h1 h2)
      refine hf (fun hq => ?_); unfold q_lg at hq; first | (rw [if_pos (by omega)] at hq; have hq := of_decide_eq_true hq; omega) | (rw [if_neg (by omega)] at hq; have hq := of_decide_eq_true hq; omega)
    · refine mm_aload_0 32 dX3_goesOn_31 rfl ?_
      refine mm_iload_1 33 dX3_goesOn_32 rfl ?_
      refine mm_cV1i 36 dX3_goesOn_33 v_X3_42 rfl t_1 (by decide) rfl rfl (Nat.le_of_ble_eq_true rfl) ⟨rfl, rfl⟩ ⟨Nat.zero_le _, Nat.zero_le _⟩ (c_X8_figureAt t_1 t_2 hn h20 (by decide) hx (by omega) (fun r3 e4 => ?_))
      refine mm_iconst 37 (-1) dX3_goesOn_36 rfl (by decide) ?_
      refine mm_ic_eq 44 40 dX3_goesOn_37 (by decide) rfl (fun h5 => ?_) (fun h5 => ?_)
      · refine mm_iconst 45 0 dX3_goesOn_44 rfl (by decide) ?_
        refine mm_zret dX3_goesOn_45 rfl ⟨rfl, Nat.zero_le _⟩ (Or.inl rfl) ?_
        have ei := congrArg Int32.toInt e4
        try rw [q_fig_i] at ei
        try rw [if_pos hk] at ei
        (try simp only [hr] at h1 h2 h5) <;> (try simp only [hv] at h1 h2 h5) <;> (try simp only [t1, t2, Int32.lt_iff_toInt_lt, Int32.le_iff_toInt_le, ← Int32.toInt_inj, vp_in_iff, Int32.reduceToInt, mm_t1, mm_t2, mm_t3, mm_t4, mm_t10] at h1 h2 h5)
        first | (split at ei <;> first | (exfalso; omega) | (refine hf (fun hq => ?_); unfold q_lg at hq; first | (rw [if_pos (by omega)] at hq; have hq := of_decide_eq_true hq; omega) | (rw [if_neg (by omega)] at hq; have hq := of_decide_eq_true hq; omega))) | (refine hf (fun hq => ?_); unfold q_lg at hq; first | (rw [if_pos (by omega)] at hq; have hq := of_decide_eq_true hq; omega) | (rw [if_neg (by omega)] at hq; have hq := of_decide_eq_true hq; omega))
      · refine mm_iconst 41 1 dX3_goesOn_40 rfl (by decide) ?_
        refine mm_goto 45 dX3_goesOn_41 (by decide) ?_
        refine mm_zret dX3_goesOn_45 rfl ⟨rfl, Nat.zero_le _⟩ (Or.inr rfl) ?_
        have ei := congrArg Int32.toInt e4
        try rw [q_fig_i] at ei
        try rw [if_pos hk] at ei
        (try simp only [hr] at h1 h2 h5) <;> (try simp only [hv] at h1 h2 h5) <;> (try simp only [t1, t2, Int32.lt_iff_toInt_lt, Int32.le_iff_toInt_le, ← Int32.toInt_inj, vp_in_iff, Int32.reduceToInt, mm_t1, mm_t2, mm_t3, mm_t4, mm_t10] at h1 h2 h5)
        first | (split at ei <;> first | (exfalso; omega) | (refine ht ?_; unfold q_lg; first | (rw [if_pos (by omega)]; exact decide_eq_true (by omega)) | (rw [if_neg (by omega)]; exact decide_eq_true (by omega)))) | (refine ht ?_; unfold q_lg; first | (rw [if_pos (by omega)]; exact decide_eq_true (by omega)) | (rw [if_neg (by omega)]; exact decide_eq_true (by omega)))
  · refine mm_aload_0 8 dX3_goesOn_7 rfl ?_
    refine mm_iload_1 9 dX3_goesOn_8 rfl ?_
    refine mm_cV1i 12 dX3_goesOn_9 v_X3_50 rfl t_1 (by decide) rfl rfl (Nat.le_of_ble_eq_true rfl) ⟨rfl, rfl⟩ ⟨Nat.zero_le _, Nat.zero_le _⟩ (c_X8_at t_1 t_2 hn h20 (by decide) hx (by omega) (fun r6 e7 => ?_))
    refine mm_bipush 14 59 dX3_goesOn_12 rfl (by decide) ?_
    refine mm_ic_ne 21 17 dX3_goesOn_14 (by decide) rfl (fun h8 => ?_) (fun h8 => ?_)
    · refine mm_iconst 22 0 dX3_goesOn_21 rfl (by decide) ?_
      refine mm_zret dX3_goesOn_22 rfl ⟨rfl, Nat.zero_le _⟩ (Or.inl rfl) ?_
      have ei := congrArg Int32.toInt e7
      try rw [q_fig_i] at ei
      try rw [if_pos hk] at ei
      (try simp only [hr] at h1 h8) <;> (try simp only [hv] at h1 h8) <;> (try simp only [t1, t2, Int32.lt_iff_toInt_lt, Int32.le_iff_toInt_le, ← Int32.toInt_inj, vp_in_iff, Int32.reduceToInt, mm_t1, mm_t2, mm_t3, mm_t4, mm_t10] at h1 h8)
      first | (split at ei <;> first | (exfalso; omega) | (refine hf (fun hq => ?_); unfold q_lg at hq; first | (rw [if_pos (by omega)] at hq; have hq := of_decide_eq_true hq; omega) | (rw [if_neg (by omega)] at hq; have hq := of_decide_eq_true hq; omega))) | (refine hf (fun hq => ?_); unfold q_lg at hq; first | (rw [if_pos (by omega)] at hq; have hq := of_decide_eq_true hq; omega) | (rw [if_neg (by omega)] at hq; have hq := of_decide_eq_true hq; omega))
    · refine mm_iconst 18 1 dX3_goesOn_17 rfl (by decide) ?_
      refine mm_goto 22 dX3_goesOn_18 (by decide) ?_
      refine mm_zret dX3_goesOn_22 rfl ⟨rfl, Nat.zero_le _⟩ (Or.inr rfl) ?_
      have ei := congrArg Int32.toInt e7
      try rw [q_fig_i] at ei
      try rw [if_pos hk] at ei
      (try simp only [hr] at h1 h8) <;> (try simp only [hv] at h1 h8) <;> (try simp only [t1, t2, Int32.lt_iff_toInt_lt, Int32.le_iff_toInt_le, ← Int32.toInt_inj, vp_in_iff, Int32.reduceToInt, mm_t1, mm_t2, mm_t3, mm_t4, mm_t10] at h1 h8)
      first | (split at ei <;> first | (exfalso; omega) | (refine ht ?_; unfold q_lg; first | (rw [if_pos (by omega)]; exact decide_eq_true (by omega)) | (rw [if_neg (by omega)]; exact decide_eq_true (by omega)))) | (refine ht ?_; unfold q_lg; first | (rw [if_pos (by omega)]; exact decide_eq_true (by omega)) | (rw [if_neg (by omega)]; exact decide_eq_true (by omega)))

set_option maxHeartbeats 4000000 in
theorem w_X3_firstFault {l : Launch} {G : mm_G} {d : Nat} {M : mm_M} {Q : Int32 → mm_T → mm_M → Prop} {n : Nat} (hn : M 1 1 = nI n) (h20 : n ≤ 20) : ∀ (k i : Nat), n - i ≤ k → i ≤ n → (∀ r, r = q_ff (q_lg (M 2)) (q_fin 3 n) (n - i) i → Q r T0 M) → mm_wp l G (d + 3) k_X3_firstFault (mm_pi Q) 7 [.ref 1, .int (nI n), .int (nI i)] [] T0 M 0 0 := by
  intro k
  induction k using Nat.strongRecOn with | _ k ih => ?_
  intro i hki hi h
  have hni : (nI n).toInt = n := mm_ti (by omega)
  have hii : (nI i).toInt = i := mm_ti (by omega)
  have hr := mm_rem 3 (rfl : nI n = nI n) (by omega) mm_l3 (by omega) (by omega)
  have t1 : (nI (n % 3)).toInt = ((n % 3 : Nat) : Int) := mm_ti (by omega)
  refine mm_iload_2 8 dX3_firstFault_7 rfl ?_
  refine mm_iload_1 9 dX3_firstFault_8 rfl ?_
  refine mm_ic_ge 28 12 dX3_firstFault_9 (by decide) rfl (fun h1 => ?_) (fun h1 => ?_)
  · refine mm_iload_1 29 dX3_firstFault_28 rfl ?_
    refine mm_if_eq 39 32 dX3_firstFault_29 (by decide) rfl (fun h2 => ?_) (fun h2 => ?_)
    · refine mm_iconst 40 (-1) dX3_firstFault_39 rfl (by decide) ?_
      refine mm_goto 44 dX3_firstFault_40 (by decide) ?_
      refine mm_iret dX3_firstFault_44 rfl ⟨rfl, Nat.zero_le _⟩ ?_
      try simp only [hr, t1, hni, hii, Int32.lt_iff_toInt_lt, Int32.le_iff_toInt_le, ← Int32.toInt_inj, vp_in_iff, Int32.reduceToInt, mm_t1, mm_t2, mm_t3, mm_t4, mm_t10] at h1 h2
      refine h _ ?_
      rw [show n - i = 0 by omega, q_ff_z]
      unfold q_fin
      rw [if_pos (by omega)]
    · refine mm_iload_1 33 dX3_firstFault_32 rfl ?_
      refine mm_iconst 34 3 dX3_firstFault_33 rfl (by decide) ?_
      refine mm_irem 35 dX3_firstFault_34 rfl (by decide) ?_
      refine mm_iconst 36 2 dX3_firstFault_35 rfl (by decide) ?_
      refine mm_ic_ne 43 39 dX3_firstFault_36 (by decide) rfl (fun h3 => ?_) (fun h3 => ?_)
      · refine mm_iload_1 44 dX3_firstFault_43 rfl ?_
        refine mm_iret dX3_firstFault_44 rfl ⟨rfl, Nat.zero_le _⟩ ?_
        try simp only [hr, t1, hni, hii, Int32.lt_iff_toInt_lt, Int32.le_iff_toInt_le, ← Int32.toInt_inj, vp_in_iff, Int32.reduceToInt, mm_t1, mm_t2, mm_t3, mm_t4, mm_t10] at h1 h2 h3
        refine h _ ?_
        rw [show n - i = 0 by omega, q_ff_z]
        unfold q_fin
        rw [if_neg (by omega)]
      · refine mm_iconst 40 (-1) dX3_firstFault_39 rfl (by decide) ?_
        refine mm_goto 44 dX3_firstFault_40 (by decide) ?_
        refine mm_iret dX3_firstFault_44 rfl ⟨rfl, Nat.zero_le _⟩ ?_
        try simp only [hr, t1, hni, hii, Int32.lt_iff_toInt_lt, Int32.le_iff_toInt_le, ← Int32.toInt_inj, vp_in_iff, Int32.reduceToInt, mm_t1, mm_t2, mm_t3, mm_t4, mm_t10] at h1 h2 h3
        refine h _ ?_
        rw [show n - i = 0 by omega, q_ff_z]
        unfold q_fin
        rw [if_pos (by omega)]
  · have hlt : i < n := by (try simp only [hni, hii, Int32.lt_iff_toInt_lt, Int32.le_iff_toInt_le, ← Int32.toInt_inj, vp_in_iff, Int32.reduceToInt, mm_t1, mm_t2, mm_t3, mm_t4, mm_t10] at h1); omega
    refine mm_aload_0 13 dX3_firstFault_12 rfl ?_
    refine mm_iload_2 14 dX3_firstFault_13 rfl ?_
    refine mm_cS2i 17 dX3_firstFault_14 v_X3_46 rfl (Nat.le_of_ble_eq_true rfl) ⟨rfl, rfl⟩ ⟨Nat.zero_le _, Nat.zero_le _⟩ (c_X3_goesOn hn h20 rfl hlt (fun h4 => ?_) (fun h4 => ?_))
    · refine mm_if_ne 22 20 dX3_firstFault_17 (by decide) rfl (fun _ => ?_) (fun h => absurd h (by decide))
      refine mm_iinc_2 25 1 dX3_firstFault_22 rfl (by decide) rfl ?_
      refine mm_goto 7 dX3_firstFault_25 (by decide) ?_
      rw [nI_1]
      exact ih (n - (i + 1)) (by omega) (i + 1) (Nat.le_refl _) (by omega) (fun r hr => h r (by rw [hr, show n - i = (n - (i + 1)) + 1 by omega]; rw [q_ff_s, if_pos h4]))
    · refine mm_if_ne 22 20 dX3_firstFault_17 (by decide) rfl (fun h => absurd h (by decide)) (fun _ => ?_)
      refine mm_iload_2 21 dX3_firstFault_20 rfl ?_
      refine mm_iret dX3_firstFault_21 rfl ⟨rfl, Nat.zero_le _⟩ ?_
      refine h _ ?_
      rw [show n - i = (n - (i + 1)) + 1 by omega, q_ff_s, if_neg h4]

set_option maxHeartbeats 4000000 in
theorem c_X3_firstFault {l : Launch} {G : mm_G} {d : Nat} {M : mm_M} {Q : Int32 → mm_T → mm_M → Prop} {n : Nat} (hn : M 1 1 = nI n) (h20 : n ≤ 20) (h : ∀ r, r = q_f0 n (M 2) → Q r T0 (M)) : mm_met l G (d + 3) k_X3_firstFault [.ref 1] T0 M (mm_pi Q) := by
  refine mm_enter 2 [.ref 1, .double 0, .double 0] o_X3_firstFault rfl rfl ?_
  refine mm_aload_0 1 dX3_firstFault_0 rfl ?_
  refine mm_cV0i 4 dX3_firstFault_1 v_X3_30 rfl t_1 (by decide) rfl rfl (Nat.le_of_ble_eq_true rfl) ⟨rfl, rfl⟩ ⟨Nat.zero_le _, Nat.zero_le _⟩ (c_X8_length t_1 t_2 (fun r1 e2 => ?_))
  refine mm_istore_1 5 dX3_firstFault_4 rfl rfl ?_
  refine mm_iconst 6 0 dX3_firstFault_5 rfl (by decide) ?_
  refine mm_istore_2 7 dX3_firstFault_6 rfl rfl ?_
  rw [e2, hn]
  exact w_X3_firstFault hn h20 n 0 (by omega) (by omega) (fun r hr => h r hr)

set_option maxHeartbeats 4000000 in
theorem w_X3_parse {l : Launch} {G : mm_G} {d : Nat} {M : mm_M} {Q : mm_T → mm_M → Prop} {n N : Nat} (hn : M 1 1 = nI n) (h20 : n ≤ 20) (hN : N = q_nl n (M 2)) (h : ∀ M1 : mm_M, M1 5 1 = nI (q_nl n (M 2)) → M1 5 2 = q_f0 n (M 2) → (∀ c, c ≠ 5 → c ≠ 6 → M1 c = M c) → (∀ j, j < q_nl n (M 2) → M1 6 j = q_lw (M 2) j) → Q T0 M1) : ∀ (k i : Nat) (Mi : mm_M) {x3 : Value}, N - i ≤ k → i ≤ N → Mi 5 1 = nI N → Mi 5 2 = q_f0 n (M 2) → (∀ c, c ≠ 5 → c ≠ 6 → Mi c = M c) → (∀ j, j < i → Mi 6 j = q_lw (M 2) j) → mm_wp l G (d + 4) k_X3_parse (mm_pv Q) 39 [.ref 5, .ref 1, .int (nI i), x3] [] T0 Mi 0 0 := by
  intro k
  induction k using Nat.strongRecOn with | _ k ih => ?_
  intro i Mi x3 hki hi h5 h6 hK hw
  have hN6 : N ≤ 6 := by rw [hN]; exact q_nl_le h20
  have hni : (nI N).toInt = N := mm_ti (by omega)
  have hii : (nI i).toInt = i := mm_ti (by omega)
  refine mm_iload_2 40 dX3_parse_39 rfl ?_
  refine mm_aload_0 41 dX3_parse_40 rfl ?_
  refine mm_getI 44 dX3_parse_41 f_X3_15 rfl t_5 rfl ?_
  refine mm_ic_ge 79 47 dX3_parse_44 (by decide) rfl (fun h1 => ?_) (fun h1 => ?_)
  · refine mm_vret dX3_parse_79 rfl ⟨rfl, Nat.zero_le _⟩ ?_
    have hz : i = N := by (try simp only [h5, hni, hii, Int32.lt_iff_toInt_lt, Int32.le_iff_toInt_le, ← Int32.toInt_inj, vp_in_iff, Int32.reduceToInt, mm_t1, mm_t2, mm_t3, mm_t4, mm_t10] at h1); omega
    subst hz
    rw [hN] at h5 hw
    exact h Mi h5 h6 hK hw
  · have hlt : i < N := by (try simp only [h5, hni, hii, Int32.lt_iff_toInt_lt, Int32.le_iff_toInt_le, ← Int32.toInt_inj, vp_in_iff, Int32.reduceToInt, mm_t1, mm_t2, mm_t3, mm_t4, mm_t10] at h1); omega
    refine mm_iconst 48 3 dX3_parse_47 rfl (by decide) ?_
    refine mm_iload_2 49 dX3_parse_48 rfl ?_
    refine mm_imul 50 dX3_parse_49 rfl ?_
    refine mm_istore_3 51 dX3_parse_50 rfl rfl ?_
    refine mm_aload_0 52 dX3_parse_51 rfl ?_
    refine mm_getR 55 dX3_parse_52 f_X3_9 rfl t_5 rfl ?_
    refine mm_iload_2 56 dX3_parse_55 rfl ?_
    refine mm_bipush 58 10 dX3_parse_56 rfl (by decide) ?_
    refine mm_aload_1 59 dX3_parse_58 rfl ?_
    refine mm_iload_3 60 dX3_parse_59 rfl ?_
    refine mm_cV1i 63 dX3_parse_60 v_X3_42 rfl t_1 (by decide) rfl rfl (Nat.le_of_ble_eq_true rfl) ⟨rfl, rfl⟩ ⟨Nat.zero_le _, Nat.zero_le _⟩ (c_X8_figureAt t_1 t_2 (by rw [hK 1 (by decide) (by decide)]; exact hn) h20 (by decide) (by rw [mm_l3, pk_mul]) (by omega) (fun r2 e3 => ?_))
    refine mm_imul 64 dX3_parse_63 rfl ?_
    refine mm_aload_1 65 dX3_parse_64 rfl ?_
    refine mm_iload_3 66 dX3_parse_65 rfl ?_
    refine mm_iconst 67 1 dX3_parse_66 rfl (by decide) ?_
    refine mm_iadd 68 dX3_parse_67 rfl ?_
    refine mm_cV1i 71 dX3_parse_68 v_X3_42 rfl t_1 (by decide) rfl rfl (Nat.le_of_ble_eq_true rfl) ⟨rfl, rfl⟩ ⟨Nat.zero_le _, Nat.zero_le _⟩ (c_X8_figureAt t_1 t_2 (by rw [hK 1 (by decide) (by decide)]; exact hn) h20 (by decide) (by rw [mm_l3, mm_l1, pk_mul, nI_add]) (by omega) (fun r4 e5 => ?_))
    refine mm_iadd 72 dX3_parse_71 rfl ?_
    refine mm_iastoren 73 (i) dX3_parse_72 rfl t_6 (by decide) (rfl) (by omega) ?_
    refine mm_iinc_2 76 1 dX3_parse_73 rfl (by decide) rfl ?_
    refine mm_goto 39 dX3_parse_76 (by decide) ?_
    have g := q_nl_g h20 (j := i) (by rw [← hN]; exact hlt)
    have v1 : r2 = M 2 (3 * i) - 48 := by rw [e3, hK 2 (by decide) (by decide)]; unfold q_fig; rw [if_pos ⟨by omega, g.2.1.1, g.2.1.2⟩]
    have v2 : r4 = M 2 (3 * i + 1) - 48 := by rw [e5, hK 2 (by decide) (by decide)]; unfold q_fig; rw [if_pos ⟨by omega, g.2.2.1, g.2.2.2⟩]
    rw [nI_1]
    refine ih (N - (i + 1)) (by omega) (i + 1) _ (Nat.le_refl _) (by omega) (by rw [mm_upn _ _ _ (by decide)]; exact h5) (by rw [mm_upn _ _ _ (by decide)]; exact h6) (fun c c1 c2 => by rw [mm_upn _ _ _ c2]; exact hK c c1 c2) ?_
    rw [mm_upc]
    exact mm_updlt hw (by rw [v1, v2]; rfl)

set_option maxHeartbeats 4000000 in
theorem c_X3_parse {l : Launch} {G : mm_G} {d : Nat} {M : mm_M} {Q : mm_T → mm_M → Prop} {n : Nat} (hn : M 1 1 = nI n) (h20 : n ≤ 20) (h : ∀ M1 : mm_M, M1 5 1 = nI (q_nl n (M 2)) → M1 5 2 = q_f0 n (M 2) → (∀ c, c ≠ 5 → c ≠ 6 → M1 c = M c) → (∀ j, j < q_nl n (M 2) → M1 6 j = q_lw (M 2) j) → Q T0 M1) : mm_met l G (d + 4) k_X3_parse [.ref 5, .ref 1] T0 M (mm_pv Q) := by
  refine mm_enter 2 [.ref 5, .ref 1, .double 0, .double 0] o_X3_parse rfl rfl ?_
  refine mm_aload_0 1 dX3_parse_0 rfl ?_
  refine mm_aload_1 2 dX3_parse_1 rfl ?_
  refine mm_cS1i 5 dX3_parse_2 v_X3_26 rfl (Nat.le_of_ble_eq_true rfl) ⟨rfl, rfl⟩ ⟨Nat.zero_le _, Nat.zero_le _⟩ (c_X3_firstFault hn h20 (fun r1 e2 => ?_))
  refine mm_putI 8 dX3_parse_5 p_X3_19 ⟨rfl, rfl⟩ rfl t_5 rfl ?_
  refine mm_aload_0 9 dX3_parse_8 rfl ?_
  refine mm_aload_0 10 dX3_parse_9 rfl ?_
  refine mm_getI 13 dX3_parse_10 f_X3_19 rfl t_5 rfl ?_
  refine mm_iconst 14 (-1) dX3_parse_13 rfl (by decide) ?_
  refine mm_ic_ne 33 17 dX3_parse_14 (by decide) rfl (fun h3 => ?_) (fun h3 => ?_)
  · refine mm_iconst 34 0 dX3_parse_33 rfl (by decide) ?_
    refine mm_putI 37 dX3_parse_34 p_X3_15 ⟨rfl, rfl⟩ rfl t_5 rfl ?_
    refine mm_iconst 38 0 dX3_parse_37 rfl (by decide) ?_
    refine mm_istore_2 39 dX3_parse_38 rfl rfl ?_
    have hf : ¬ q_f0 n (M 2) = -1 := by rw [← e2]; simpa [mm_upv] using h3
    have hN : q_nl n (M 2) = 0 := by unfold q_nl; rw [if_neg hf]
    refine w_X3_parse hn h20 rfl h _ 0 _ (Nat.le_refl _) (by omega) (by rw [mm_upv, hN]; rfl) (by rw [mm_upc, mm_upc]; simp [upd, e2]) (fun c c1 c2 => by rw [mm_upn _ _ _ c1, mm_upn _ _ _ c1]) (fun j hj => absurd hj (by omega))
  · refine mm_aload_1 18 dX3_parse_17 rfl ?_
    refine mm_cV0i 21 dX3_parse_18 v_X3_30 rfl t_1 (by decide) rfl rfl (Nat.le_of_ble_eq_true rfl) ⟨rfl, rfl⟩ ⟨Nat.zero_le _, Nat.zero_le _⟩ (c_X8_length t_1 t_2 (fun r4 e5 => ?_))
    refine mm_iconst 22 1 dX3_parse_21 rfl (by decide) ?_
    refine mm_iadd 23 dX3_parse_22 rfl ?_
    refine mm_iconst 24 3 dX3_parse_23 rfl (by decide) ?_
    refine mm_idiv 25 dX3_parse_24 rfl (by decide) ?_
    refine mm_bipush 27 6 dX3_parse_25 rfl (by decide) ?_
    refine mm_mmin 30 dX3_parse_27 j_X3_36 rfl (Nat.le_of_ble_eq_true rfl) ⟨Nat.zero_le _, Nat.zero_le _⟩ ?_
    refine mm_goto 34 dX3_parse_30 (by decide) ?_
    refine mm_putI 37 dX3_parse_34 p_X3_15 ⟨rfl, rfl⟩ rfl t_5 rfl ?_
    refine mm_iconst 38 0 dX3_parse_37 rfl (by decide) ?_
    refine mm_istore_2 39 dX3_parse_38 rfl rfl ?_
    have hf : q_f0 n (M 2) = -1 := by rw [← e2]; simpa [mm_upv] using h3
    have hN : q_nl n (M 2) = (n + 1) / 3 := by unfold q_nl; rw [if_pos hf]
    have h6 := q_nl_le (b := M 2) h20
    have hv : (if (6 : Int32) < (r4 + 1) / 3 then (6 : Int32) else (r4 + 1) / 3) = nI (q_nl n (M 2)) := by
      rw [e5, mm_upn _ _ _ (by decide), hn, nI_1, mm_div 3 (rfl : nI (n + 1) = nI (n + 1)) (by omega) mm_l3 (by omega) (by omega), hN, if_neg]
      intro hc
      have hc := Int32.lt_iff_toInt_lt.mp hc
      rw [mm_ti (by omega)] at hc
      simp only [Int32.reduceToInt] at hc
      omega
    rw [hv]
    refine w_X3_parse hn h20 rfl h _ 0 _ (Nat.le_refl _) (by omega) (by rw [mm_upv]) (by rw [mm_upc, mm_upc]; simp [upd, e2]) (fun c c1 c2 => by rw [mm_upn _ _ _ c1, mm_upn _ _ _ c1]) (fun j hj => absurd hj (by omega))

