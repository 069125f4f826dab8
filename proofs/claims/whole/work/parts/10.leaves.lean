set_option maxHeartbeats 4000000 in
theorem c_X12_in {l : Launch} {G : mm_G} {d : Nat} {M : mm_M} {Q : Int32 → mm_T → mm_M → Prop} {v a b : Int64} (ht : a.toInt ≤ v.toInt ∧ v.toInt ≤ b.toInt → Q 1 T0 M) (hf : ¬ (a.toInt ≤ v.toInt ∧ v.toInt ≤ b.toInt) → Q 0 T0 M) : mm_met l G d k_X12_in [.long v, .long a, .long b] T0 M (mm_pi Q) := by
  refine mm_enter 0 [.long v, .double 0, .long a, .double 0, .long b, .double 0] o_X12_in rfl rfl ?_
  refine mm_lload_0 1 dX12_in_0 rfl ?_
  refine mm_lload_2 2 dX12_in_1 rfl ?_
  refine mm_lcmp 3 dX12_in_2 rfl ?_
  refine mm_if_lt 17 6 dX12_in_3 (by decide) rfl (fun h1 => ?_) (fun h1 => ?_)
  · refine mm_iconst 18 0 dX12_in_17 rfl (by decide) ?_
    refine mm_zret dX12_in_18 rfl ⟨rfl, Nat.zero_le _⟩ (Or.inl rfl) ?_
    refine hf ?_
    try simp only [lg_cmp_lt, lg_cmp_gt, lg_cmp_le, lg_cmp_ge] at h1
    try simp only [Int32.lt_iff_toInt_lt, Int32.le_iff_toInt_le, ← Int32.toInt_inj, vp_in_iff, Int32.reduceToInt, mm_t1, mm_t2, mm_t3, mm_t4, mm_t10, Int64.lt_iff_toInt_lt, Int64.le_iff_toInt_le, Int64.reduceToInt, Int32.toInt_toInt64] at h1 ⊢
    omega
  · refine mm_lload_0 7 dX12_in_6 rfl ?_
    refine mm_lload_4 9 dX12_in_7 rfl ?_
    refine mm_lcmp 10 dX12_in_9 rfl ?_
    refine mm_if_gt 17 13 dX12_in_10 (by decide) rfl (fun h2 => ?_) (fun h2 => ?_)
    · refine mm_iconst 18 0 dX12_in_17 rfl (by decide) ?_
      refine mm_zret dX12_in_18 rfl ⟨rfl, Nat.zero_le _⟩ (Or.inl rfl) ?_
      refine hf ?_
      try simp only [lg_cmp_lt, lg_cmp_gt, lg_cmp_le, lg_cmp_ge] at h1 h2
      try simp only [Int32.lt_iff_toInt_lt, Int32.le_iff_toInt_le, ← Int32.toInt_inj, vp_in_iff, Int32.reduceToInt, mm_t1, mm_t2, mm_t3, mm_t4, mm_t10, Int64.lt_iff_toInt_lt, Int64.le_iff_toInt_le, Int64.reduceToInt, Int32.toInt_toInt64] at h1 h2 ⊢
      omega
    · refine mm_iconst 14 1 dX12_in_13 rfl (by decide) ?_
      refine mm_goto 18 dX12_in_14 (by decide) ?_
      refine mm_zret dX12_in_18 rfl ⟨rfl, Nat.zero_le _⟩ (Or.inr rfl) ?_
      refine ht ?_
      try simp only [lg_cmp_lt, lg_cmp_gt, lg_cmp_le, lg_cmp_ge] at h1 h2
      try simp only [Int32.lt_iff_toInt_lt, Int32.le_iff_toInt_le, ← Int32.toInt_inj, vp_in_iff, Int32.reduceToInt, mm_t1, mm_t2, mm_t3, mm_t4, mm_t10, Int64.lt_iff_toInt_lt, Int64.le_iff_toInt_le, Int64.reduceToInt, Int32.toInt_toInt64] at h1 h2 ⊢
      omega

set_option maxHeartbeats 4000000 in
theorem c_X12_isTwo {l : Launch} {G : mm_G} {d : Nat} {M : mm_M} {Q : Int32 → mm_T → mm_M → Prop} {v : Int32} (ht : 0 ≤ v.toInt ∧ v.toInt ≤ 1 → Q 1 T0 M) (hf : ¬ (0 ≤ v.toInt ∧ v.toInt ≤ 1) → Q 0 T0 M) : mm_met l G (d + 1) k_X12_isTwo [.int v] T0 M (mm_pi Q) := by
  refine mm_enter 0 [.int v] o_X12_isTwo rfl rfl ?_
  refine mm_iload_0 1 dX12_isTwo_0 rfl ?_
  refine mm_i2l 2 dX12_isTwo_1 rfl ?_
  refine mm_lconst 3 0 dX12_isTwo_2 rfl (by decide) ?_
  refine mm_lconst 4 1 dX12_isTwo_3 rfl (by decide) ?_
  refine mm_cS3i 7 dX12_isTwo_4 v_X12_95 rfl (Nat.le_of_ble_eq_true rfl) ⟨rfl, rfl⟩ ⟨Nat.zero_le _, Nat.zero_le _⟩ (c_X12_in (fun h1 => ?_) (fun h1 => ?_))
  · refine mm_zret dX12_isTwo_7 rfl ⟨rfl, Nat.zero_le _⟩ (Or.inr rfl) ?_
    refine ht ?_
    try simp only [lg_cmp_lt, lg_cmp_gt, lg_cmp_le, lg_cmp_ge] at h1
    try simp only [Int32.lt_iff_toInt_lt, Int32.le_iff_toInt_le, ← Int32.toInt_inj, vp_in_iff, Int32.reduceToInt, mm_t1, mm_t2, mm_t3, mm_t4, mm_t10, Int64.lt_iff_toInt_lt, Int64.le_iff_toInt_le, Int64.reduceToInt, Int32.toInt_toInt64] at h1 ⊢
    omega
  · refine mm_zret dX12_isTwo_7 rfl ⟨rfl, Nat.zero_le _⟩ (Or.inl rfl) ?_
    refine hf ?_
    try simp only [lg_cmp_lt, lg_cmp_gt, lg_cmp_le, lg_cmp_ge] at h1
    try simp only [Int32.lt_iff_toInt_lt, Int32.le_iff_toInt_le, ← Int32.toInt_inj, vp_in_iff, Int32.reduceToInt, mm_t1, mm_t2, mm_t3, mm_t4, mm_t10, Int64.lt_iff_toInt_lt, Int64.le_iff_toInt_le, Int64.reduceToInt, Int32.toInt_toInt64] at h1 ⊢
    omega

set_option maxHeartbeats 4000000 in
theorem c_X12_isSheet {l : Launch} {G : mm_G} {d : Nat} {M : mm_M} {Q : Int32 → mm_T → mm_M → Prop} {v : Int32} (ht : 0 ≤ v.toInt ∧ v.toInt ≤ 3 → Q 1 T0 M) (hf : ¬ (0 ≤ v.toInt ∧ v.toInt ≤ 3) → Q 0 T0 M) : mm_met l G (d + 1) k_X12_isSheet [.int v] T0 M (mm_pi Q) := by
  refine mm_enter 0 [.int v] o_X12_isSheet rfl rfl ?_
  refine mm_iload_0 1 dX12_isSheet_0 rfl ?_
  refine mm_i2l 2 dX12_isSheet_1 rfl ?_
  refine mm_lconst 3 0 dX12_isSheet_2 rfl (by decide) ?_
  refine mm_ldc2 6 3 dX12_isSheet_3 rfl j_X12_103 ?_
  refine mm_cS3i 9 dX12_isSheet_6 v_X12_95 rfl (Nat.le_of_ble_eq_true rfl) ⟨rfl, rfl⟩ ⟨Nat.zero_le _, Nat.zero_le _⟩ (c_X12_in (fun h1 => ?_) (fun h1 => ?_))
  · refine mm_zret dX12_isSheet_9 rfl ⟨rfl, Nat.zero_le _⟩ (Or.inr rfl) ?_
    refine ht ?_
    try simp only [lg_cmp_lt, lg_cmp_gt, lg_cmp_le, lg_cmp_ge] at h1
    try simp only [Int32.lt_iff_toInt_lt, Int32.le_iff_toInt_le, ← Int32.toInt_inj, vp_in_iff, Int32.reduceToInt, mm_t1, mm_t2, mm_t3, mm_t4, mm_t10, Int64.lt_iff_toInt_lt, Int64.le_iff_toInt_le, Int64.reduceToInt, Int32.toInt_toInt64] at h1 ⊢
    omega
  · refine mm_zret dX12_isSheet_9 rfl ⟨rfl, Nat.zero_le _⟩ (Or.inl rfl) ?_
    refine hf ?_
    try simp only [lg_cmp_lt, lg_cmp_gt, lg_cmp_le, lg_cmp_ge] at h1
    try simp only [Int32.lt_iff_toInt_lt, Int32.le_iff_toInt_le, ← Int32.toInt_inj, vp_in_iff, Int32.reduceToInt, mm_t1, mm_t2, mm_t3, mm_t4, mm_t10, Int64.lt_iff_toInt_lt, Int64.le_iff_toInt_le, Int64.reduceToInt, Int32.toInt_toInt64] at h1 ⊢
    omega

set_option maxHeartbeats 4000000 in
theorem c_X12_isHour {l : Launch} {G : mm_G} {d : Nat} {M : mm_M} {Q : Int32 → mm_T → mm_M → Prop} {v : Int32} (ht : 6 ≤ v.toInt ∧ v.toInt ≤ 18 → Q 1 T0 M) (hf : ¬ (6 ≤ v.toInt ∧ v.toInt ≤ 18) → Q 0 T0 M) : mm_met l G (d + 1) k_X12_isHour [.int v] T0 M (mm_pi Q) := by
  refine mm_enter 0 [.int v] o_X12_isHour rfl rfl ?_
  refine mm_iload_0 1 dX12_isHour_0 rfl ?_
  refine mm_i2l 2 dX12_isHour_1 rfl ?_
  refine mm_ldc2 5 6 dX12_isHour_2 rfl j_X12_169 ?_
  refine mm_ldc2 8 18 dX12_isHour_5 rfl j_X12_171 ?_
  refine mm_cS3i 11 dX12_isHour_8 v_X12_95 rfl (Nat.le_of_ble_eq_true rfl) ⟨rfl, rfl⟩ ⟨Nat.zero_le _, Nat.zero_le _⟩ (c_X12_in (fun h1 => ?_) (fun h1 => ?_))
  · refine mm_zret dX12_isHour_11 rfl ⟨rfl, Nat.zero_le _⟩ (Or.inr rfl) ?_
    refine ht ?_
    try simp only [lg_cmp_lt, lg_cmp_gt, lg_cmp_le, lg_cmp_ge] at h1
    try simp only [Int32.lt_iff_toInt_lt, Int32.le_iff_toInt_le, ← Int32.toInt_inj, vp_in_iff, Int32.reduceToInt, mm_t1, mm_t2, mm_t3, mm_t4, mm_t10, Int64.lt_iff_toInt_lt, Int64.le_iff_toInt_le, Int64.reduceToInt, Int32.toInt_toInt64] at h1 ⊢
    omega
  · refine mm_zret dX12_isHour_11 rfl ⟨rfl, Nat.zero_le _⟩ (Or.inl rfl) ?_
    refine hf ?_
    try simp only [lg_cmp_lt, lg_cmp_gt, lg_cmp_le, lg_cmp_ge] at h1
    try simp only [Int32.lt_iff_toInt_lt, Int32.le_iff_toInt_le, ← Int32.toInt_inj, vp_in_iff, Int32.reduceToInt, mm_t1, mm_t2, mm_t3, mm_t4, mm_t10, Int64.lt_iff_toInt_lt, Int64.le_iff_toInt_le, Int64.reduceToInt, Int32.toInt_toInt64] at h1 ⊢
    omega

set_option maxHeartbeats 4000000 in
theorem c_X12_isWeek {l : Launch} {G : mm_G} {d : Nat} {M : mm_M} {Q : Int32 → mm_T → mm_M → Prop} {v : Int32} (ht : 0 ≤ v.toInt ∧ v.toInt ≤ 51 → Q 1 T0 M) (hf : ¬ (0 ≤ v.toInt ∧ v.toInt ≤ 51) → Q 0 T0 M) : mm_met l G (d + 1) k_X12_isWeek [.int v] T0 M (mm_pi Q) := by
  refine mm_enter 0 [.int v] o_X12_isWeek rfl rfl ?_
  refine mm_iload_0 1 dX12_isWeek_0 rfl ?_
  refine mm_i2l 2 dX12_isWeek_1 rfl ?_
  refine mm_lconst 3 0 dX12_isWeek_2 rfl (by decide) ?_
  refine mm_ldc2 6 51 dX12_isWeek_3 rfl j_X12_179 ?_
  refine mm_cS3i 9 dX12_isWeek_6 v_X12_95 rfl (Nat.le_of_ble_eq_true rfl) ⟨rfl, rfl⟩ ⟨Nat.zero_le _, Nat.zero_le _⟩ (c_X12_in (fun h1 => ?_) (fun h1 => ?_))
  · refine mm_zret dX12_isWeek_9 rfl ⟨rfl, Nat.zero_le _⟩ (Or.inr rfl) ?_
    refine ht ?_
    try simp only [lg_cmp_lt, lg_cmp_gt, lg_cmp_le, lg_cmp_ge] at h1
    try simp only [Int32.lt_iff_toInt_lt, Int32.le_iff_toInt_le, ← Int32.toInt_inj, vp_in_iff, Int32.reduceToInt, mm_t1, mm_t2, mm_t3, mm_t4, mm_t10, Int64.lt_iff_toInt_lt, Int64.le_iff_toInt_le, Int64.reduceToInt, Int32.toInt_toInt64] at h1 ⊢
    omega
  · refine mm_zret dX12_isWeek_9 rfl ⟨rfl, Nat.zero_le _⟩ (Or.inl rfl) ?_
    refine hf ?_
    try simp only [lg_cmp_lt, lg_cmp_gt, lg_cmp_le, lg_cmp_ge] at h1
    try simp only [Int32.lt_iff_toInt_lt, Int32.le_iff_toInt_le, ← Int32.toInt_inj, vp_in_iff, Int32.reduceToInt, mm_t1, mm_t2, mm_t3, mm_t4, mm_t10, Int64.lt_iff_toInt_lt, Int64.le_iff_toInt_le, Int64.reduceToInt, Int32.toInt_toInt64] at h1 ⊢
    omega

set_option maxHeartbeats 4000000 in
theorem c_X12_isAnyone {l : Launch} {G : mm_G} {d : Nat} {M : mm_M} {Q : Int32 → mm_T → mm_M → Prop} {v : Int32} (ht : 0 ≤ v.toInt ∧ v.toInt ≤ 11 → Q 1 T0 M) (hf : ¬ (0 ≤ v.toInt ∧ v.toInt ≤ 11) → Q 0 T0 M) : mm_met l G (d + 1) k_X12_isAnyone [.int v] T0 M (mm_pi Q) := by
  refine mm_enter 0 [.int v] o_X12_isAnyone rfl rfl ?_
  refine mm_iload_0 1 dX12_isAnyone_0 rfl ?_
  refine mm_i2l 2 dX12_isAnyone_1 rfl ?_
  refine mm_lconst 3 0 dX12_isAnyone_2 rfl (by decide) ?_
  refine mm_ldc2 6 11 dX12_isAnyone_3 rfl j_X12_187 ?_
  refine mm_cS3i 9 dX12_isAnyone_6 v_X12_95 rfl (Nat.le_of_ble_eq_true rfl) ⟨rfl, rfl⟩ ⟨Nat.zero_le _, Nat.zero_le _⟩ (c_X12_in (fun h1 => ?_) (fun h1 => ?_))
  · refine mm_zret dX12_isAnyone_9 rfl ⟨rfl, Nat.zero_le _⟩ (Or.inr rfl) ?_
    refine ht ?_
    try simp only [lg_cmp_lt, lg_cmp_gt, lg_cmp_le, lg_cmp_ge] at h1
    try simp only [Int32.lt_iff_toInt_lt, Int32.le_iff_toInt_le, ← Int32.toInt_inj, vp_in_iff, Int32.reduceToInt, mm_t1, mm_t2, mm_t3, mm_t4, mm_t10, Int64.lt_iff_toInt_lt, Int64.le_iff_toInt_le, Int64.reduceToInt, Int32.toInt_toInt64] at h1 ⊢
    omega
  · refine mm_zret dX12_isAnyone_9 rfl ⟨rfl, Nat.zero_le _⟩ (Or.inl rfl) ?_
    refine hf ?_
    try simp only [lg_cmp_lt, lg_cmp_gt, lg_cmp_le, lg_cmp_ge] at h1
    try simp only [Int32.lt_iff_toInt_lt, Int32.le_iff_toInt_le, ← Int32.toInt_inj, vp_in_iff, Int32.reduceToInt, mm_t1, mm_t2, mm_t3, mm_t4, mm_t10, Int64.lt_iff_toInt_lt, Int64.le_iff_toInt_le, Int64.reduceToInt, Int32.toInt_toInt64] at h1 ⊢
    omega

set_option maxHeartbeats 4000000 in
theorem c_X12_met {l : Launch} {G : mm_G} {d : Nat} {M : mm_M} {Q : Int32 → mm_T → mm_M → Prop} {f : Int32} (h : ∀ r, r = -10 - f → Q r T0 (mm_up M 51 4 f)) : mm_met l G d k_X12_met [.ref 51, .int f] T0 M (mm_pi Q) := by
  refine mm_enter 0 [.ref 51, .int f] o_X12_met rfl rfl ?_
  refine mm_aload_0 1 dX12_met_0 rfl ?_
  refine mm_iload_1 2 dX12_met_1 rfl ?_
  refine mm_putI 5 dX12_met_2 p_X12_99 ⟨rfl, rfl⟩ rfl t_51 rfl ?_
  refine mm_bipush 7 (-10) dX12_met_5 rfl (by decide) ?_
  refine mm_iload_1 8 dX12_met_7 rfl ?_
  refine mm_isub 9 dX12_met_8 rfl ?_
  refine mm_iret dX12_met_9 rfl ⟨rfl, Nat.zero_le _⟩ ?_
  exact h _ rfl

def g_room (t : Int32) : Int32 := if t.toInt = 0 then 20 else 60

set_option maxHeartbeats 4000000 in
theorem c_X12_room {l : Launch} {G : mm_G} {d : Nat} {M : mm_M} {Q : Int32 → mm_T → mm_M → Prop} {t : Int32} (h : ∀ r, r = g_room t → Q r T0 (M)) : mm_met l G d k_X12_room [.int t] T0 M (mm_pi Q) := by
  refine mm_enter 0 [.int t] o_X12_room rfl rfl ?_
  refine mm_iload_0 1 dX12_room_0 rfl ?_
  refine mm_if_ne 9 4 dX12_room_1 (by decide) rfl (fun h1 => ?_) (fun h1 => ?_)
  · refine mm_bipush 11 60 dX12_room_9 rfl (by decide) ?_
    refine mm_iret dX12_room_11 rfl ⟨rfl, Nat.zero_le _⟩ ?_
    refine h _ ?_
    unfold g_room
    simp only [Int32.lt_iff_toInt_lt, Int32.le_iff_toInt_le, ← Int32.toInt_inj, vp_in_iff, Int32.reduceToInt, mm_t1, mm_t2, mm_t3, mm_t4, mm_t10] at h1
    first | rfl | (simp [h1]; done)
  · refine mm_bipush 6 20 dX12_room_4 rfl (by decide) ?_
    refine mm_goto 11 dX12_room_6 (by decide) ?_
    refine mm_iret dX12_room_11 rfl ⟨rfl, Nat.zero_le _⟩ ?_
    refine h _ ?_
    unfold g_room
    simp only [Int32.lt_iff_toInt_lt, Int32.le_iff_toInt_le, ← Int32.toInt_inj, vp_in_iff, Int32.reduceToInt, mm_t1, mm_t2, mm_t3, mm_t4, mm_t10] at h1
    first | rfl | (simp [h1]; done)

def g_cut (f v : Int32) : Int32 := if f.toInt = 0 then v.toInt8.toInt32 else if f.toInt = 1 then v.toInt16.toInt32 else v

set_option maxHeartbeats 4000000 in
theorem c_X12_cut {l : Launch} {G : mm_G} {d : Nat} {M : mm_M} {Q : Int32 → mm_T → mm_M → Prop} {f v : Int32} (h : ∀ r, r = g_cut f v → Q r T0 (M)) : mm_met l G d k_X12_cut [.int f, .int v] T0 M (mm_pi Q) := by
  refine mm_enter 0 [.int f, .int v] o_X12_cut rfl rfl ?_
  refine mm_iload_0 1 dX12_cut_0 rfl ?_
  refine mm_if_ne 9 4 dX12_cut_1 (by decide) rfl (fun h1 => ?_) (fun h1 => ?_)
  · refine mm_iload_0 10 dX12_cut_9 rfl ?_
    refine mm_iconst 11 1 dX12_cut_10 rfl (by decide) ?_
    refine mm_ic_ne 19 14 dX12_cut_11 (by decide) rfl (fun h2 => ?_) (fun h2 => ?_)
    · refine mm_iload_1 20 dX12_cut_19 rfl ?_
      refine mm_iret dX12_cut_20 rfl ⟨rfl, Nat.zero_le _⟩ ?_
      refine h _ ?_
      unfold g_cut
      simp only [Int32.lt_iff_toInt_lt, Int32.le_iff_toInt_le, ← Int32.toInt_inj, vp_in_iff, Int32.reduceToInt, mm_t1, mm_t2, mm_t3, mm_t4, mm_t10] at h1 h2
      first | rfl | (simp [h1, h2]; done)
    · refine mm_iload_1 15 dX12_cut_14 rfl ?_
      refine mm_i2s 16 dX12_cut_15 rfl ?_
      refine mm_goto 20 dX12_cut_16 (by decide) ?_
      refine mm_iret dX12_cut_20 rfl ⟨rfl, Nat.zero_le _⟩ ?_
      refine h _ ?_
      unfold g_cut
      simp only [Int32.lt_iff_toInt_lt, Int32.le_iff_toInt_le, ← Int32.toInt_inj, vp_in_iff, Int32.reduceToInt, mm_t1, mm_t2, mm_t3, mm_t4, mm_t10] at h1 h2
      first | rfl | (simp [h1, h2]; done)
  · refine mm_iload_1 5 dX12_cut_4 rfl ?_
    refine mm_i2b 6 dX12_cut_5 rfl ?_
    refine mm_goto 20 dX12_cut_6 (by decide) ?_
    refine mm_iret dX12_cut_20 rfl ⟨rfl, Nat.zero_le _⟩ ?_
    refine h _ ?_
    unfold g_cut
    simp only [Int32.lt_iff_toInt_lt, Int32.le_iff_toInt_le, ← Int32.toInt_inj, vp_in_iff, Int32.reduceToInt, mm_t1, mm_t2, mm_t3, mm_t4, mm_t10] at h1
    first | rfl | (simp [h1]; done)

set_option maxHeartbeats 4000000 in
theorem c_X11_isWithin {l : Launch} {G : mm_G} {d : Nat} {M : mm_M} {Q : Int32 → mm_T → mm_M → Prop} {v a b : Int32} (ht : a.toInt ≤ v.toInt ∧ v.toInt ≤ b.toInt → Q 1 T0 M) (hf : ¬ (a.toInt ≤ v.toInt ∧ v.toInt ≤ b.toInt) → Q 0 T0 M) : mm_met l G d k_X11_isWithin [.int v, .int a, .int b] T0 M (mm_pi Q) := by
  refine mm_enter 0 [.int v, .int a, .int b] o_X11_isWithin rfl rfl ?_
  refine mm_iload_0 1 dX11_isWithin_0 rfl ?_
  refine mm_iload_1 2 dX11_isWithin_1 rfl ?_
  refine mm_ic_lt 14 5 dX11_isWithin_2 (by decide) rfl (fun h1 => ?_) (fun h1 => ?_)
  · refine mm_iconst 15 0 dX11_isWithin_14 rfl (by decide) ?_
    refine mm_zret dX11_isWithin_15 rfl ⟨rfl, Nat.zero_le _⟩ (Or.inl rfl) ?_
    refine hf ?_
    try simp only [Int32.lt_iff_toInt_lt, Int32.le_iff_toInt_le, ← Int32.toInt_inj, vp_in_iff, Int32.reduceToInt, mm_t1, mm_t2, mm_t3, mm_t4, mm_t10] at h1 ⊢
    omega
  · refine mm_iload_0 6 dX11_isWithin_5 rfl ?_
    refine mm_iload_2 7 dX11_isWithin_6 rfl ?_
    refine mm_ic_gt 14 10 dX11_isWithin_7 (by decide) rfl (fun h2 => ?_) (fun h2 => ?_)
    · refine mm_iconst 15 0 dX11_isWithin_14 rfl (by decide) ?_
      refine mm_zret dX11_isWithin_15 rfl ⟨rfl, Nat.zero_le _⟩ (Or.inl rfl) ?_
      refine hf ?_
      try simp only [Int32.lt_iff_toInt_lt, Int32.le_iff_toInt_le, ← Int32.toInt_inj, vp_in_iff, Int32.reduceToInt, mm_t1, mm_t2, mm_t3, mm_t4, mm_t10] at h1 h2 ⊢
      omega
    · refine mm_iconst 11 1 dX11_isWithin_10 rfl (by decide) ?_
      refine mm_goto 15 dX11_isWithin_11 (by decide) ?_
      refine mm_zret dX11_isWithin_15 rfl ⟨rfl, Nat.zero_le _⟩ (Or.inr rfl) ?_
      refine ht ?_
      try simp only [Int32.lt_iff_toInt_lt, Int32.le_iff_toInt_le, ← Int32.toInt_inj, vp_in_iff, Int32.reduceToInt, mm_t1, mm_t2, mm_t3, mm_t4, mm_t10] at h1 h2 ⊢
      omega

set_option maxHeartbeats 4000000 in
theorem c_X11_isHour {l : Launch} {G : mm_G} {d : Nat} {M : mm_M} {Q : Int32 → mm_T → mm_M → Prop} {v : Int32} (ht : 6 ≤ v.toInt ∧ v.toInt ≤ 18 → Q 1 T0 M) (hf : ¬ (6 ≤ v.toInt ∧ v.toInt ≤ 18) → Q 0 T0 M) : mm_met l G (d + 1) k_X11_isHour [.int v] T0 M (mm_pi Q) := by
  refine mm_enter 0 [.int v] o_X11_isHour rfl rfl ?_
  refine mm_iload_0 1 dX11_isHour_0 rfl ?_
  refine mm_bipush 3 6 dX11_isHour_1 rfl (by decide) ?_
  refine mm_bipush 5 18 dX11_isHour_3 rfl (by decide) ?_
  refine mm_cS3i 8 dX11_isHour_5 v_X11_98 rfl (Nat.le_of_ble_eq_true rfl) ⟨rfl, rfl⟩ ⟨Nat.zero_le _, Nat.zero_le _⟩ (c_X11_isWithin (fun h1 => ?_) (fun h1 => ?_))
  · refine mm_zret dX11_isHour_8 rfl ⟨rfl, Nat.zero_le _⟩ (Or.inr rfl) ?_
    refine ht ?_
    try simp only [Int32.lt_iff_toInt_lt, Int32.le_iff_toInt_le, ← Int32.toInt_inj, vp_in_iff, Int32.reduceToInt, mm_t1, mm_t2, mm_t3, mm_t4, mm_t10] at h1 ⊢
    omega
  · refine mm_zret dX11_isHour_8 rfl ⟨rfl, Nat.zero_le _⟩ (Or.inl rfl) ?_
    refine hf ?_
    try simp only [Int32.lt_iff_toInt_lt, Int32.le_iff_toInt_le, ← Int32.toInt_inj, vp_in_iff, Int32.reduceToInt, mm_t1, mm_t2, mm_t3, mm_t4, mm_t10] at h1 ⊢
    omega

set_option maxHeartbeats 4000000 in
theorem c_X11_isPersonNumber {l : Launch} {G : mm_G} {d : Nat} {M : mm_M} {Q : Int32 → mm_T → mm_M → Prop} {v : Int32} (ht : 0 ≤ v.toInt ∧ v.toInt ≤ 11 → Q 1 T0 M) (hf : ¬ (0 ≤ v.toInt ∧ v.toInt ≤ 11) → Q 0 T0 M) : mm_met l G (d + 1) k_X11_isPersonNumber [.int v] T0 M (mm_pi Q) := by
  refine mm_enter 0 [.int v] o_X11_isPersonNumber rfl rfl ?_
  refine mm_iload_0 1 dX11_isPersonNumber_0 rfl ?_
  refine mm_iconst 2 0 dX11_isPersonNumber_1 rfl (by decide) ?_
  refine mm_bipush 4 11 dX11_isPersonNumber_2 rfl (by decide) ?_
  refine mm_cS3i 7 dX11_isPersonNumber_4 v_X11_98 rfl (Nat.le_of_ble_eq_true rfl) ⟨rfl, rfl⟩ ⟨Nat.zero_le _, Nat.zero_le _⟩ (c_X11_isWithin (fun h1 => ?_) (fun h1 => ?_))
  · refine mm_zret dX11_isPersonNumber_7 rfl ⟨rfl, Nat.zero_le _⟩ (Or.inr rfl) ?_
    refine ht ?_
    try simp only [Int32.lt_iff_toInt_lt, Int32.le_iff_toInt_le, ← Int32.toInt_inj, vp_in_iff, Int32.reduceToInt, mm_t1, mm_t2, mm_t3, mm_t4, mm_t10] at h1 ⊢
    omega
  · refine mm_zret dX11_isPersonNumber_7 rfl ⟨rfl, Nat.zero_le _⟩ (Or.inl rfl) ?_
    refine hf ?_
    try simp only [Int32.lt_iff_toInt_lt, Int32.le_iff_toInt_le, ← Int32.toInt_inj, vp_in_iff, Int32.reduceToInt, mm_t1, mm_t2, mm_t3, mm_t4, mm_t10] at h1 ⊢
    omega

set_option maxHeartbeats 4000000 in
theorem c_X11_isForm {l : Launch} {G : mm_G} {d : Nat} {M : mm_M} {Q : Int32 → mm_T → mm_M → Prop} {v : Int32} (ht : 0 ≤ v.toInt ∧ v.toInt ≤ 2 → Q 1 T0 M) (hf : ¬ (0 ≤ v.toInt ∧ v.toInt ≤ 2) → Q 0 T0 M) : mm_met l G (d + 1) k_X11_isForm [.int v] T0 M (mm_pi Q) := by
  refine mm_enter 0 [.int v] o_X11_isForm rfl rfl ?_
  refine mm_iload_0 1 dX11_isForm_0 rfl ?_
  refine mm_iconst 2 0 dX11_isForm_1 rfl (by decide) ?_
  refine mm_iconst 3 2 dX11_isForm_2 rfl (by decide) ?_
  refine mm_cS3i 6 dX11_isForm_3 v_X11_98 rfl (Nat.le_of_ble_eq_true rfl) ⟨rfl, rfl⟩ ⟨Nat.zero_le _, Nat.zero_le _⟩ (c_X11_isWithin (fun h1 => ?_) (fun h1 => ?_))
  · refine mm_zret dX11_isForm_6 rfl ⟨rfl, Nat.zero_le _⟩ (Or.inr rfl) ?_
    refine ht ?_
    try simp only [Int32.lt_iff_toInt_lt, Int32.le_iff_toInt_le, ← Int32.toInt_inj, vp_in_iff, Int32.reduceToInt, mm_t1, mm_t2, mm_t3, mm_t4, mm_t10] at h1 ⊢
    omega
  · refine mm_zret dX11_isForm_6 rfl ⟨rfl, Nat.zero_le _⟩ (Or.inl rfl) ?_
    refine hf ?_
    try simp only [Int32.lt_iff_toInt_lt, Int32.le_iff_toInt_le, ← Int32.toInt_inj, vp_in_iff, Int32.reduceToInt, mm_t1, mm_t2, mm_t3, mm_t4, mm_t10] at h1 ⊢
    omega

set_option maxHeartbeats 4000000 in
theorem c_X11_mayBeWedding {l : Launch} {G : mm_G} {d : Nat} {M : mm_M} {Q : Int32 → mm_T → mm_M → Prop} {a b h : Int32} (ht : (0 ≤ a.toInt ∧ a.toInt ≤ 11) ∧ (0 ≤ b.toInt ∧ b.toInt ≤ 11) ∧ 6 ≤ h.toInt ∧ h.toInt ≤ 18 → Q 1 T0 M) (hf : ¬ ((0 ≤ a.toInt ∧ a.toInt ≤ 11) ∧ (0 ≤ b.toInt ∧ b.toInt ≤ 11) ∧ 6 ≤ h.toInt ∧ h.toInt ≤ 18) → Q 0 T0 M) : mm_met l G (d + 2) k_X11_mayBeWedding [.int a, .int b, .int h] T0 M (mm_pi Q) := by
  refine mm_enter 0 [.int a, .int b, .int h] o_X11_mayBeWedding rfl rfl ?_
  refine mm_iload_0 1 dX11_mayBeWedding_0 rfl ?_
  refine mm_cS1i 4 dX11_mayBeWedding_1 v_X11_168 rfl (Nat.le_of_ble_eq_true rfl) ⟨rfl, rfl⟩ ⟨Nat.zero_le _, Nat.zero_le _⟩ (c_X11_isPersonNumber (fun h1 => ?_) (fun h1 => ?_))
  · refine mm_if_eq 25 7 dX11_mayBeWedding_4 (by decide) rfl (fun h => absurd h (by decide)) (fun _ => ?_)
    refine mm_iload_1 8 dX11_mayBeWedding_7 rfl ?_
    refine mm_cS1i 11 dX11_mayBeWedding_8 v_X11_168 rfl (Nat.le_of_ble_eq_true rfl) ⟨rfl, rfl⟩ ⟨Nat.zero_le _, Nat.zero_le _⟩ (c_X11_isPersonNumber (fun h2 => ?_) (fun h2 => ?_))
    · refine mm_if_eq 25 14 dX11_mayBeWedding_11 (by decide) rfl (fun h => absurd h (by decide)) (fun _ => ?_)
      refine mm_iload_2 15 dX11_mayBeWedding_14 rfl ?_
      refine mm_cS1i 18 dX11_mayBeWedding_15 v_X11_140 rfl (Nat.le_of_ble_eq_true rfl) ⟨rfl, rfl⟩ ⟨Nat.zero_le _, Nat.zero_le _⟩ (c_X11_isHour (fun h3 => ?_) (fun h3 => ?_))
      · refine mm_if_eq 25 21 dX11_mayBeWedding_18 (by decide) rfl (fun h => absurd h (by decide)) (fun _ => ?_)
        refine mm_iconst 22 1 dX11_mayBeWedding_21 rfl (by decide) ?_
        refine mm_goto 26 dX11_mayBeWedding_22 (by decide) ?_
        refine mm_zret dX11_mayBeWedding_26 rfl ⟨rfl, Nat.zero_le _⟩ (Or.inr rfl) ?_
        refine ht ?_
        try simp only [Int32.lt_iff_toInt_lt, Int32.le_iff_toInt_le, ← Int32.toInt_inj, vp_in_iff, Int32.reduceToInt, mm_t1, mm_t2, mm_t3, mm_t4, mm_t10] at h1 h2 h3 ⊢
        omega
      · refine mm_if_eq 25 21 dX11_mayBeWedding_18 (by decide) rfl (fun _ => ?_) (fun h => absurd h (by decide))
        refine mm_iconst 26 0 dX11_mayBeWedding_25 rfl (by decide) ?_
        refine mm_zret dX11_mayBeWedding_26 rfl ⟨rfl, Nat.zero_le _⟩ (Or.inl rfl) ?_
        refine hf ?_
        try simp only [Int32.lt_iff_toInt_lt, Int32.le_iff_toInt_le, ← Int32.toInt_inj, vp_in_iff, Int32.reduceToInt, mm_t1, mm_t2, mm_t3, mm_t4, mm_t10] at h1 h2 h3 ⊢
        omega
    · refine mm_if_eq 25 14 dX11_mayBeWedding_11 (by decide) rfl (fun _ => ?_) (fun h => absurd h (by decide))
      refine mm_iconst 26 0 dX11_mayBeWedding_25 rfl (by decide) ?_
      refine mm_zret dX11_mayBeWedding_26 rfl ⟨rfl, Nat.zero_le _⟩ (Or.inl rfl) ?_
      refine hf ?_
      try simp only [Int32.lt_iff_toInt_lt, Int32.le_iff_toInt_le, ← Int32.toInt_inj, vp_in_iff, Int32.reduceToInt, mm_t1, mm_t2, mm_t3, mm_t4, mm_t10] at h1 h2 ⊢
      omega
  · refine mm_if_eq 25 7 dX11_mayBeWedding_4 (by decide) rfl (fun _ => ?_) (fun h => absurd h (by decide))
    refine mm_iconst 26 0 dX11_mayBeWedding_25 rfl (by decide) ?_
    refine mm_zret dX11_mayBeWedding_26 rfl ⟨rfl, Nat.zero_le _⟩ (Or.inl rfl) ?_
    refine hf ?_
    try simp only [Int32.lt_iff_toInt_lt, Int32.le_iff_toInt_le, ← Int32.toInt_inj, vp_in_iff, Int32.reduceToInt, mm_t1, mm_t2, mm_t3, mm_t4, mm_t10] at h1 ⊢
    omega

set_option maxHeartbeats 4000000 in
theorem c_X11_finding {l : Launch} {G : mm_G} {d : Nat} {M : mm_M} {Q : Int32 → mm_T → mm_M → Prop} {f : Int32} (h : ∀ r, r = -10 - f → Q r T0 (mm_up M 0 11 f)) : mm_met l G d k_X11_finding [.ref 0, .int f] T0 M (mm_pi Q) := by
  refine mm_enter 0 [.ref 0, .int f] o_X11_finding rfl rfl ?_
  refine mm_aload_0 1 dX11_finding_0 rfl ?_
  refine mm_iload_1 2 dX11_finding_1 rfl ?_
  refine mm_putI 5 dX11_finding_2 p_X11_89 ⟨rfl, rfl⟩ rfl t_0 rfl ?_
  refine mm_bipush 7 (-10) dX11_finding_5 rfl (by decide) ?_
  refine mm_iload_1 8 dX11_finding_7 rfl ?_
  refine mm_isub 9 dX11_finding_8 rfl ?_
  refine mm_iret dX11_finding_9 rfl ⟨rfl, Nat.zero_le _⟩ ?_
  exact h _ rfl

set_option maxHeartbeats 4000000 in
theorem c_X4_has {l : Launch} {G : mm_G} {d : Nat} {M : mm_M} {Q : Int32 → mm_T → mm_M → Prop} {p : Int32} (ht : 0 ≤ p.toInt ∧ p.toInt < (M 7 4).toInt → Q 1 T0 M) (hf : ¬ (0 ≤ p.toInt ∧ p.toInt < (M 7 4).toInt) → Q 0 T0 M) : mm_met l G d k_X4_has [.ref 7, .int p] T0 M (mm_pi Q) := by
  refine mm_enter 0 [.ref 7, .int p] o_X4_has rfl rfl ?_
  refine mm_iload_1 1 dX4_has_0 rfl ?_
  refine mm_if_lt 16 4 dX4_has_1 (by decide) rfl (fun h1 => ?_) (fun h1 => ?_)
  · refine mm_iconst 17 0 dX4_has_16 rfl (by decide) ?_
    refine mm_zret dX4_has_17 rfl ⟨rfl, Nat.zero_le _⟩ (Or.inl rfl) ?_
    refine hf ?_
    try simp only [Int32.lt_iff_toInt_lt, Int32.le_iff_toInt_le, ← Int32.toInt_inj, vp_in_iff, Int32.reduceToInt, mm_t1, mm_t2, mm_t3, mm_t4, mm_t10] at h1 ⊢
    omega
  · refine mm_iload_1 5 dX4_has_4 rfl ?_
    refine mm_aload_0 6 dX4_has_5 rfl ?_
    refine mm_getI 9 dX4_has_6 f_X4_24 rfl t_7 rfl ?_
    refine mm_ic_ge 16 12 dX4_has_9 (by decide) rfl (fun h2 => ?_) (fun h2 => ?_)
    · refine mm_iconst 17 0 dX4_has_16 rfl (by decide) ?_
      refine mm_zret dX4_has_17 rfl ⟨rfl, Nat.zero_le _⟩ (Or.inl rfl) ?_
      refine hf ?_
      try simp only [Int32.lt_iff_toInt_lt, Int32.le_iff_toInt_le, ← Int32.toInt_inj, vp_in_iff, Int32.reduceToInt, mm_t1, mm_t2, mm_t3, mm_t4, mm_t10] at h1 h2 ⊢
      omega
    · refine mm_iconst 13 1 dX4_has_12 rfl (by decide) ?_
      refine mm_goto 17 dX4_has_13 (by decide) ?_
      refine mm_zret dX4_has_17 rfl ⟨rfl, Nat.zero_le _⟩ (Or.inr rfl) ?_
      refine ht ?_
      try simp only [Int32.lt_iff_toInt_lt, Int32.le_iff_toInt_le, ← Int32.toInt_inj, vp_in_iff, Int32.reduceToInt, mm_t1, mm_t2, mm_t3, mm_t4, mm_t10] at h1 h2 ⊢
      omega

set_option maxHeartbeats 4000000 in
theorem c_X3_has {l : Launch} {G : mm_G} {d : Nat} {M : mm_M} {Q : Int32 → mm_T → mm_M → Prop} {p : Int32} (ht : 0 ≤ p.toInt ∧ p.toInt < (M 5 1).toInt → Q 1 T0 M) (hf : ¬ (0 ≤ p.toInt ∧ p.toInt < (M 5 1).toInt) → Q 0 T0 M) : mm_met l G d k_X3_has [.ref 5, .int p] T0 M (mm_pi Q) := by
  refine mm_enter 0 [.ref 5, .int p] o_X3_has rfl rfl ?_
  refine mm_iload_1 1 dX3_has_0 rfl ?_
  refine mm_if_lt 16 4 dX3_has_1 (by decide) rfl (fun h1 => ?_) (fun h1 => ?_)
  · refine mm_iconst 17 0 dX3_has_16 rfl (by decide) ?_
    refine mm_zret dX3_has_17 rfl ⟨rfl, Nat.zero_le _⟩ (Or.inl rfl) ?_
    refine hf ?_
    try simp only [Int32.lt_iff_toInt_lt, Int32.le_iff_toInt_le, ← Int32.toInt_inj, vp_in_iff, Int32.reduceToInt, mm_t1, mm_t2, mm_t3, mm_t4, mm_t10] at h1 ⊢
    omega
  · refine mm_iload_1 5 dX3_has_4 rfl ?_
    refine mm_aload_0 6 dX3_has_5 rfl ?_
    refine mm_getI 9 dX3_has_6 f_X3_15 rfl t_5 rfl ?_
    refine mm_ic_ge 16 12 dX3_has_9 (by decide) rfl (fun h2 => ?_) (fun h2 => ?_)
    · refine mm_iconst 17 0 dX3_has_16 rfl (by decide) ?_
      refine mm_zret dX3_has_17 rfl ⟨rfl, Nat.zero_le _⟩ (Or.inl rfl) ?_
      refine hf ?_
      try simp only [Int32.lt_iff_toInt_lt, Int32.le_iff_toInt_le, ← Int32.toInt_inj, vp_in_iff, Int32.reduceToInt, mm_t1, mm_t2, mm_t3, mm_t4, mm_t10] at h1 h2 ⊢
      omega
    · refine mm_iconst 13 1 dX3_has_12 rfl (by decide) ?_
      refine mm_goto 17 dX3_has_13 (by decide) ?_
      refine mm_zret dX3_has_17 rfl ⟨rfl, Nat.zero_le _⟩ (Or.inr rfl) ?_
      refine ht ?_
      try simp only [Int32.lt_iff_toInt_lt, Int32.le_iff_toInt_le, ← Int32.toInt_inj, vp_in_iff, Int32.reduceToInt, mm_t1, mm_t2, mm_t3, mm_t4, mm_t10] at h1 h2 ⊢
      omega

set_option maxHeartbeats 4000000 in
theorem c_X2_has {l : Launch} {G : mm_G} {d : Nat} {M : mm_M} {Q : Int32 → mm_T → mm_M → Prop} {p : Int32} (ht : 0 ≤ p.toInt ∧ p.toInt < (M 14 5).toInt → Q 1 T0 M) (hf : ¬ (0 ≤ p.toInt ∧ p.toInt < (M 14 5).toInt) → Q 0 T0 M) : mm_met l G d k_X2_has [.ref 14, .int p] T0 M (mm_pi Q) := by
  refine mm_enter 0 [.ref 14, .int p] o_X2_has rfl rfl ?_
  refine mm_iload_1 1 dX2_has_0 rfl ?_
  refine mm_if_lt 16 4 dX2_has_1 (by decide) rfl (fun h1 => ?_) (fun h1 => ?_)
  · refine mm_iconst 17 0 dX2_has_16 rfl (by decide) ?_
    refine mm_zret dX2_has_17 rfl ⟨rfl, Nat.zero_le _⟩ (Or.inl rfl) ?_
    refine hf ?_
    try simp only [Int32.lt_iff_toInt_lt, Int32.le_iff_toInt_le, ← Int32.toInt_inj, vp_in_iff, Int32.reduceToInt, mm_t1, mm_t2, mm_t3, mm_t4, mm_t10] at h1 ⊢
    omega
  · refine mm_iload_1 5 dX2_has_4 rfl ?_
    refine mm_aload_0 6 dX2_has_5 rfl ?_
    refine mm_getI 9 dX2_has_6 f_X2_27 rfl t_14 rfl ?_
    refine mm_ic_ge 16 12 dX2_has_9 (by decide) rfl (fun h2 => ?_) (fun h2 => ?_)
    · refine mm_iconst 17 0 dX2_has_16 rfl (by decide) ?_
      refine mm_zret dX2_has_17 rfl ⟨rfl, Nat.zero_le _⟩ (Or.inl rfl) ?_
      refine hf ?_
      try simp only [Int32.lt_iff_toInt_lt, Int32.le_iff_toInt_le, ← Int32.toInt_inj, vp_in_iff, Int32.reduceToInt, mm_t1, mm_t2, mm_t3, mm_t4, mm_t10] at h1 h2 ⊢
      omega
    · refine mm_iconst 13 1 dX2_has_12 rfl (by decide) ?_
      refine mm_goto 17 dX2_has_13 (by decide) ?_
      refine mm_zret dX2_has_17 rfl ⟨rfl, Nat.zero_le _⟩ (Or.inr rfl) ?_
      refine ht ?_
      try simp only [Int32.lt_iff_toInt_lt, Int32.le_iff_toInt_le, ← Int32.toInt_inj, vp_in_iff, Int32.reduceToInt, mm_t1, mm_t2, mm_t3, mm_t4, mm_t10] at h1 h2 ⊢
      omega

set_option maxHeartbeats 4000000 in
theorem c_X4_number {l : Launch} {G : mm_G} {d : Nat} {M : mm_M} {Q : Int32 → mm_T → mm_M → Prop} (h : ∀ r, r = M 7 4 → Q r T0 (M)) : mm_met l G d k_X4_number [.ref 7] T0 M (mm_pi Q) := by
  refine mm_enter 0 [.ref 7] o_X4_number rfl rfl ?_
  refine mm_aload_0 1 dX4_number_0 rfl ?_
  refine mm_getI 4 dX4_number_1 f_X4_24 rfl t_7 rfl ?_
  refine mm_iret dX4_number_4 rfl ⟨rfl, Nat.zero_le _⟩ ?_
  exact h _ rfl

set_option maxHeartbeats 4000000 in
theorem c_X4_faultAt {l : Launch} {G : mm_G} {d : Nat} {M : mm_M} {Q : Int32 → mm_T → mm_M → Prop} (h : ∀ r, r = M 7 5 → Q r T0 (M)) : mm_met l G d k_X4_faultAt [.ref 7] T0 M (mm_pi Q) := by
  refine mm_enter 0 [.ref 7] o_X4_faultAt rfl rfl ?_
  refine mm_aload_0 1 dX4_faultAt_0 rfl ?_
  refine mm_getI 4 dX4_faultAt_1 f_X4_28 rfl t_7 rfl ?_
  refine mm_iret dX4_faultAt_4 rfl ⟨rfl, Nat.zero_le _⟩ ?_
  exact h _ rfl

set_option maxHeartbeats 4000000 in
theorem c_X3_number {l : Launch} {G : mm_G} {d : Nat} {M : mm_M} {Q : Int32 → mm_T → mm_M → Prop} (h : ∀ r, r = M 5 1 → Q r T0 (M)) : mm_met l G d k_X3_number [.ref 5] T0 M (mm_pi Q) := by
  refine mm_enter 0 [.ref 5] o_X3_number rfl rfl ?_
  refine mm_aload_0 1 dX3_number_0 rfl ?_
  refine mm_getI 4 dX3_number_1 f_X3_15 rfl t_5 rfl ?_
  refine mm_iret dX3_number_4 rfl ⟨rfl, Nat.zero_le _⟩ ?_
  exact h _ rfl

set_option maxHeartbeats 4000000 in
theorem c_X3_faultAt {l : Launch} {G : mm_G} {d : Nat} {M : mm_M} {Q : Int32 → mm_T → mm_M → Prop} (h : ∀ r, r = M 5 2 → Q r T0 (M)) : mm_met l G d k_X3_faultAt [.ref 5] T0 M (mm_pi Q) := by
  refine mm_enter 0 [.ref 5] o_X3_faultAt rfl rfl ?_
  refine mm_aload_0 1 dX3_faultAt_0 rfl ?_
  refine mm_getI 4 dX3_faultAt_1 f_X3_19 rfl t_5 rfl ?_
  refine mm_iret dX3_faultAt_4 rfl ⟨rfl, Nat.zero_le _⟩ ?_
  exact h _ rfl

set_option maxHeartbeats 4000000 in
theorem c_X2_number {l : Launch} {G : mm_G} {d : Nat} {M : mm_M} {Q : Int32 → mm_T → mm_M → Prop} (h : ∀ r, r = M 14 5 → Q r T0 (M)) : mm_met l G d k_X2_number [.ref 14] T0 M (mm_pi Q) := by
  refine mm_enter 0 [.ref 14] o_X2_number rfl rfl ?_
  refine mm_aload_0 1 dX2_number_0 rfl ?_
  refine mm_getI 4 dX2_number_1 f_X2_27 rfl t_14 rfl ?_
  refine mm_iret dX2_number_4 rfl ⟨rfl, Nat.zero_le _⟩ ?_
  exact h _ rfl

set_option maxHeartbeats 4000000 in
theorem c_X7_number {l : Launch} {G : mm_G} {d : Nat} {M : mm_M} {Q : Int32 → mm_T → mm_M → Prop} (h : ∀ r, r = M 38 3 → Q r T0 (M)) : mm_met l G d k_X7_number [.ref 38] T0 M (mm_pi Q) := by
  refine mm_enter 0 [.ref 38] o_X7_number rfl rfl ?_
  refine mm_aload_0 1 dX7_number_0 rfl ?_
  refine mm_getI 4 dX7_number_1 f_X7_21 rfl t_38 rfl ?_
  refine mm_iret dX7_number_4 rfl ⟨rfl, Nat.zero_le _⟩ ?_
  exact h _ rfl

set_option maxHeartbeats 4000000 in
theorem c_X9_firstWedding {l : Launch} {G : mm_G} {d : Nat} {M : mm_M} {Q : Int32 → mm_T → mm_M → Prop} (h : ∀ r, r = M 34 2 → Q r T0 (M)) : mm_met l G d k_X9_firstWedding [.ref 34] T0 M (mm_pi Q) := by
  refine mm_enter 0 [.ref 34] o_X9_firstWedding rfl rfl ?_
  refine mm_aload_0 1 dX9_firstWedding_0 rfl ?_
  refine mm_getI 4 dX9_firstWedding_1 f_X9_9 rfl t_34 rfl ?_
  refine mm_iret dX9_firstWedding_4 rfl ⟨rfl, Nat.zero_le _⟩ ?_
  exact h _ rfl

set_option maxHeartbeats 4000000 in
theorem c_X10_nobodys {l : Launch} {G : mm_G} {d : Nat} {M : mm_M} {Q : Int32 → mm_T → mm_M → Prop} (h : ∀ r, r = M 20 10 → Q r T0 (M)) : mm_met l G d k_X10_nobodys [.ref 20] T0 M (mm_pi Q) := by
  refine mm_enter 0 [.ref 20] o_X10_nobodys rfl rfl ?_
  refine mm_aload_0 1 dX10_nobodys_0 rfl ?_
  refine mm_getI 4 dX10_nobodys_1 f_X10_31 rfl t_20 rfl ?_
  refine mm_iret dX10_nobodys_4 rfl ⟨rfl, Nat.zero_le _⟩ ?_
  exact h _ rfl

set_option maxHeartbeats 4000000 in
theorem c_X10_movedLast {l : Launch} {G : mm_G} {d : Nat} {M : mm_M} {Q : Int32 → mm_T → mm_M → Prop} (h : ∀ r, r = M 20 11 → Q r T0 (M)) : mm_met l G d k_X10_movedLast [.ref 20] T0 M (mm_pi Q) := by
  refine mm_enter 0 [.ref 20] o_X10_movedLast rfl rfl ?_
  refine mm_aload_0 1 dX10_movedLast_0 rfl ?_
  refine mm_getI 4 dX10_movedLast_1 f_X10_35 rfl t_20 rfl ?_
  refine mm_iret dX10_movedLast_4 rfl ⟨rfl, Nat.zero_le _⟩ ?_
  exact h _ rfl

set_option maxHeartbeats 4000000 in
theorem c_X10_againstLaw {l : Launch} {G : mm_G} {d : Nat} {M : mm_M} {Q : Int32 → mm_T → mm_M → Prop} (h : ∀ r, r = M 20 12 → Q r T0 (M)) : mm_met l G d k_X10_againstLaw [.ref 20] T0 M (mm_pi Q) := by
  refine mm_enter 0 [.ref 20] o_X10_againstLaw rfl rfl ?_
  refine mm_aload_0 1 dX10_againstLaw_0 rfl ?_
  refine mm_getI 4 dX10_againstLaw_1 f_X10_38 rfl t_20 rfl ?_
  refine mm_iret dX10_againstLaw_4 rfl ⟨rfl, Nat.zero_le _⟩ ?_
  exact h _ rfl

set_option maxHeartbeats 4000000 in
theorem c_X10_firstAgainstLaw {l : Launch} {G : mm_G} {d : Nat} {M : mm_M} {Q : Int32 → mm_T → mm_M → Prop} (h : ∀ r, r = M 20 13 → Q r T0 (M)) : mm_met l G d k_X10_firstAgainstLaw [.ref 20] T0 M (mm_pi Q) := by
  refine mm_enter 0 [.ref 20] o_X10_firstAgainstLaw rfl rfl ?_
  refine mm_aload_0 1 dX10_firstAgainstLaw_0 rfl ?_
  refine mm_getI 4 dX10_firstAgainstLaw_1 f_X10_41 rfl t_20 rfl ?_
  refine mm_iret dX10_firstAgainstLaw_4 rfl ⟨rfl, Nat.zero_le _⟩ ?_
  exact h _ rfl

set_option maxHeartbeats 4000000 in
theorem c_X2_isFull {l : Launch} {G : mm_G} {d : Nat} {M : mm_M} {Q : Int32 → mm_T → mm_M → Prop} (ht : 24 ≤ (M 14 5).toInt → Q 1 T0 M) (hf : ¬ (24 ≤ (M 14 5).toInt) → Q 0 T0 M) : mm_met l G d k_X2_isFull [.ref 14] T0 M (mm_pi Q) := by
  refine mm_enter 0 [.ref 14] o_X2_isFull rfl rfl ?_
  refine mm_aload_0 1 dX2_isFull_0 rfl ?_
  refine mm_getI 4 dX2_isFull_1 f_X2_27 rfl t_14 rfl ?_
  refine mm_bipush 6 24 dX2_isFull_4 rfl (by decide) ?_
  refine mm_ic_lt 13 9 dX2_isFull_6 (by decide) rfl (fun h1 => ?_) (fun h1 => ?_)
  · refine mm_iconst 14 0 dX2_isFull_13 rfl (by decide) ?_
    refine mm_zret dX2_isFull_14 rfl ⟨rfl, Nat.zero_le _⟩ (Or.inl rfl) ?_
    refine hf ?_
    try simp only [Int32.lt_iff_toInt_lt, Int32.le_iff_toInt_le, ← Int32.toInt_inj, vp_in_iff, Int32.reduceToInt, mm_t1, mm_t2, mm_t3, mm_t4, mm_t10] at h1 ⊢
    omega
  · refine mm_iconst 10 1 dX2_isFull_9 rfl (by decide) ?_
    refine mm_goto 14 dX2_isFull_10 (by decide) ?_
    refine mm_zret dX2_isFull_14 rfl ⟨rfl, Nat.zero_le _⟩ (Or.inr rfl) ?_
    refine ht ?_
    try simp only [Int32.lt_iff_toInt_lt, Int32.le_iff_toInt_le, ← Int32.toInt_inj, vp_in_iff, Int32.reduceToInt, mm_t1, mm_t2, mm_t3, mm_t4, mm_t10] at h1 ⊢
    omega

set_option maxHeartbeats 4000000 in
theorem c_X7_isFull {l : Launch} {G : mm_G} {d : Nat} {M : mm_M} {Q : Int32 → mm_T → mm_M → Prop} (ht : 8 ≤ (M 38 3).toInt → Q 1 T0 M) (hf : ¬ (8 ≤ (M 38 3).toInt) → Q 0 T0 M) : mm_met l G d k_X7_isFull [.ref 38] T0 M (mm_pi Q) := by
  refine mm_enter 0 [.ref 38] o_X7_isFull rfl rfl ?_
  refine mm_aload_0 1 dX7_isFull_0 rfl ?_
  refine mm_getI 4 dX7_isFull_1 f_X7_21 rfl t_38 rfl ?_
  refine mm_bipush 6 8 dX7_isFull_4 rfl (by decide) ?_
  refine mm_ic_lt 13 9 dX7_isFull_6 (by decide) rfl (fun h1 => ?_) (fun h1 => ?_)
  · refine mm_iconst 14 0 dX7_isFull_13 rfl (by decide) ?_
    refine mm_zret dX7_isFull_14 rfl ⟨rfl, Nat.zero_le _⟩ (Or.inl rfl) ?_
    refine hf ?_
    try simp only [Int32.lt_iff_toInt_lt, Int32.le_iff_toInt_le, ← Int32.toInt_inj, vp_in_iff, Int32.reduceToInt, mm_t1, mm_t2, mm_t3, mm_t4, mm_t10] at h1 ⊢
    omega
  · refine mm_iconst 10 1 dX7_isFull_9 rfl (by decide) ?_
    refine mm_goto 14 dX7_isFull_10 (by decide) ?_
    refine mm_zret dX7_isFull_14 rfl ⟨rfl, Nat.zero_le _⟩ (Or.inr rfl) ?_
    refine ht ?_
    try simp only [Int32.lt_iff_toInt_lt, Int32.le_iff_toInt_le, ← Int32.toInt_inj, vp_in_iff, Int32.reduceToInt, mm_t1, mm_t2, mm_t3, mm_t4, mm_t10] at h1 ⊢
    omega

set_option maxHeartbeats 4000000 in
theorem c_X7_clear {l : Launch} {G : mm_G} {d : Nat} {M : mm_M} {Q : mm_T → mm_M → Prop} (h : Q T0 (mm_up M 38 3 0)) : mm_met l G d k_X7_clear [.ref 38] T0 M (mm_pv Q) := by
  refine mm_enter 0 [.ref 38] o_X7_clear rfl rfl ?_
  refine mm_aload_0 1 dX7_clear_0 rfl ?_
  refine mm_iconst 2 0 dX7_clear_1 rfl (by decide) ?_
  refine mm_putI 5 dX7_clear_2 p_X7_21 ⟨rfl, rfl⟩ rfl t_38 rfl ?_
  refine mm_vret dX7_clear_5 rfl ⟨rfl, Nat.zero_le _⟩ ?_
  exact h

def s_X4_sexOf (M : mm_M) (p : Int32) : Int32 := if 0 ≤ p.toInt ∧ p.toInt < (M 7 4).toInt then M 8 p.toNatClampNeg else -1

set_option maxHeartbeats 4000000 in
theorem c_X4_sexOf {l : Launch} {G : mm_G} {d : Nat} {M : mm_M} {Q : Int32 → mm_T → mm_M → Prop} {p : Int32} (hb : (M 7 4).toInt ≤ 12) (h : ∀ r, r = s_X4_sexOf M p → Q r T0 (M)) : mm_met l G (d + 1) k_X4_sexOf [.ref 7, .int p] T0 M (mm_pi Q) := by
  refine mm_enter 0 [.ref 7, .int p] o_X4_sexOf rfl rfl ?_
  refine mm_aload_0 1 dX4_sexOf_0 rfl ?_
  refine mm_iload_1 2 dX4_sexOf_1 rfl ?_
  refine mm_cV1i 5 dX4_sexOf_2 v_X4_31 rfl t_7 (by decide) rfl rfl (Nat.le_of_ble_eq_true rfl) ⟨rfl, rfl⟩ ⟨Nat.zero_le _, Nat.zero_le _⟩ (c_X4_has (fun h1 => ?_) (fun h1 => ?_))
  · refine mm_if_eq 17 8 dX4_sexOf_5 (by decide) rfl (fun h => absurd h (by decide)) (fun _ => ?_)
    refine mm_aload_0 9 dX4_sexOf_8 rfl ?_
    refine mm_getR 12 dX4_sexOf_9 f_X4_9 rfl t_7 rfl ?_
    refine mm_iload_1 13 dX4_sexOf_12 rfl ?_
    refine mm_iaload 14 dX4_sexOf_13 rfl t_8 (by try simp only [Int32.lt_iff_toInt_lt, Int32.le_iff_toInt_le, ← Int32.toInt_inj, vp_in_iff, Int32.reduceToInt, mm_t1, mm_t2, mm_t3, mm_t4, mm_t10] at hb h1 ⊢; omega) ?_
    refine mm_goto 18 dX4_sexOf_14 (by decide) ?_
    refine mm_iret dX4_sexOf_18 rfl ⟨rfl, Nat.zero_le _⟩ ?_
    refine h _ ?_
    unfold s_X4_sexOf
    rw [if_pos h1]
  · refine mm_if_eq 17 8 dX4_sexOf_5 (by decide) rfl (fun _ => ?_) (fun h => absurd h (by decide))
    refine mm_iconst 18 (-1) dX4_sexOf_17 rfl (by decide) ?_
    refine mm_iret dX4_sexOf_18 rfl ⟨rfl, Nat.zero_le _⟩ ?_
    refine h _ ?_
    unfold s_X4_sexOf
    rw [if_neg h1]

def s_X4_homeOf (M : mm_M) (p : Int32) : Int32 := if 0 ≤ p.toInt ∧ p.toInt < (M 7 4).toInt then M 9 p.toNatClampNeg else -1

set_option maxHeartbeats 4000000 in
theorem c_X4_homeOf {l : Launch} {G : mm_G} {d : Nat} {M : mm_M} {Q : Int32 → mm_T → mm_M → Prop} {p : Int32} (hb : (M 7 4).toInt ≤ 12) (h : ∀ r, r = s_X4_homeOf M p → Q r T0 (M)) : mm_met l G (d + 1) k_X4_homeOf [.ref 7, .int p] T0 M (mm_pi Q) := by
  refine mm_enter 0 [.ref 7, .int p] o_X4_homeOf rfl rfl ?_
  refine mm_aload_0 1 dX4_homeOf_0 rfl ?_
  refine mm_iload_1 2 dX4_homeOf_1 rfl ?_
  refine mm_cV1i 5 dX4_homeOf_2 v_X4_31 rfl t_7 (by decide) rfl rfl (Nat.le_of_ble_eq_true rfl) ⟨rfl, rfl⟩ ⟨Nat.zero_le _, Nat.zero_le _⟩ (c_X4_has (fun h1 => ?_) (fun h1 => ?_))
  · refine mm_if_eq 17 8 dX4_homeOf_5 (by decide) rfl (fun h => absurd h (by decide)) (fun _ => ?_)
    refine mm_aload_0 9 dX4_homeOf_8 rfl ?_
    refine mm_getR 12 dX4_homeOf_9 f_X4_15 rfl t_7 rfl ?_
    refine mm_iload_1 13 dX4_homeOf_12 rfl ?_
    refine mm_iaload 14 dX4_homeOf_13 rfl t_9 (by try simp only [Int32.lt_iff_toInt_lt, Int32.le_iff_toInt_le, ← Int32.toInt_inj, vp_in_iff, Int32.reduceToInt, mm_t1, mm_t2, mm_t3, mm_t4, mm_t10] at hb h1 ⊢; omega) ?_
    refine mm_goto 18 dX4_homeOf_14 (by decide) ?_
    refine mm_iret dX4_homeOf_18 rfl ⟨rfl, Nat.zero_le _⟩ ?_
    refine h _ ?_
    unfold s_X4_homeOf
    rw [if_pos h1]
  · refine mm_if_eq 17 8 dX4_homeOf_5 (by decide) rfl (fun _ => ?_) (fun h => absurd h (by decide))
    refine mm_iconst 18 (-1) dX4_homeOf_17 rfl (by decide) ?_
    refine mm_iret dX4_homeOf_18 rfl ⟨rfl, Nat.zero_le _⟩ ?_
    refine h _ ?_
    unfold s_X4_homeOf
    rw [if_neg h1]

def s_X4_heightOf (M : mm_M) (p : Int32) : Int32 := if 0 ≤ p.toInt ∧ p.toInt < (M 7 4).toInt then M 10 p.toNatClampNeg else 0

set_option maxHeartbeats 4000000 in
theorem c_X4_heightOf {l : Launch} {G : mm_G} {d : Nat} {M : mm_M} {Q : Int32 → mm_T → mm_M → Prop} {p : Int32} (hb : (M 7 4).toInt ≤ 12) (h : ∀ r, r = s_X4_heightOf M p → Q r T0 (M)) : mm_met l G (d + 1) k_X4_heightOf [.ref 7, .int p] T0 M (mm_pi Q) := by
  refine mm_enter 0 [.ref 7, .int p] o_X4_heightOf rfl rfl ?_
  refine mm_aload_0 1 dX4_heightOf_0 rfl ?_
  refine mm_iload_1 2 dX4_heightOf_1 rfl ?_
  refine mm_cV1i 5 dX4_heightOf_2 v_X4_31 rfl t_7 (by decide) rfl rfl (Nat.le_of_ble_eq_true rfl) ⟨rfl, rfl⟩ ⟨Nat.zero_le _, Nat.zero_le _⟩ (c_X4_has (fun h1 => ?_) (fun h1 => ?_))
  · refine mm_if_eq 17 8 dX4_heightOf_5 (by decide) rfl (fun h => absurd h (by decide)) (fun _ => ?_)
    refine mm_aload_0 9 dX4_heightOf_8 rfl ?_
    refine mm_getR 12 dX4_heightOf_9 f_X4_18 rfl t_7 rfl ?_
    refine mm_iload_1 13 dX4_heightOf_12 rfl ?_
    refine mm_iaload 14 dX4_heightOf_13 rfl t_10 (by try simp only [Int32.lt_iff_toInt_lt, Int32.le_iff_toInt_le, ← Int32.toInt_inj, vp_in_iff, Int32.reduceToInt, mm_t1, mm_t2, mm_t3, mm_t4, mm_t10] at hb h1 ⊢; omega) ?_
    refine mm_goto 18 dX4_heightOf_14 (by decide) ?_
    refine mm_iret dX4_heightOf_18 rfl ⟨rfl, Nat.zero_le _⟩ ?_
    refine h _ ?_
    unfold s_X4_heightOf
    rw [if_pos h1]
  · refine mm_if_eq 17 8 dX4_heightOf_5 (by decide) rfl (fun _ => ?_) (fun h => absurd h (by decide))
    refine mm_iconst 18 0 dX4_heightOf_17 rfl (by decide) ?_
    refine mm_iret dX4_heightOf_18 rfl ⟨rfl, Nat.zero_le _⟩ ?_
    refine h _ ?_
    unfold s_X4_heightOf
    rw [if_neg h1]

def s_X4_hatOf (M : mm_M) (p : Int32) : Int32 := if 0 ≤ p.toInt ∧ p.toInt < (M 7 4).toInt then M 11 p.toNatClampNeg else 0

set_option maxHeartbeats 4000000 in
theorem c_X4_hatOf {l : Launch} {G : mm_G} {d : Nat} {M : mm_M} {Q : Int32 → mm_T → mm_M → Prop} {p : Int32} (hb : (M 7 4).toInt ≤ 12) (h : ∀ r, r = s_X4_hatOf M p → Q r T0 (M)) : mm_met l G (d + 1) k_X4_hatOf [.ref 7, .int p] T0 M (mm_pi Q) := by
  refine mm_enter 0 [.ref 7, .int p] o_X4_hatOf rfl rfl ?_
  refine mm_aload_0 1 dX4_hatOf_0 rfl ?_
  refine mm_iload_1 2 dX4_hatOf_1 rfl ?_
  refine mm_cV1i 5 dX4_hatOf_2 v_X4_31 rfl t_7 (by decide) rfl rfl (Nat.le_of_ble_eq_true rfl) ⟨rfl, rfl⟩ ⟨Nat.zero_le _, Nat.zero_le _⟩ (c_X4_has (fun h1 => ?_) (fun h1 => ?_))
  · refine mm_if_eq 17 8 dX4_hatOf_5 (by decide) rfl (fun h => absurd h (by decide)) (fun _ => ?_)
    refine mm_aload_0 9 dX4_hatOf_8 rfl ?_
    refine mm_getR 12 dX4_hatOf_9 f_X4_21 rfl t_7 rfl ?_
    refine mm_iload_1 13 dX4_hatOf_12 rfl ?_
    refine mm_iaload 14 dX4_hatOf_13 rfl t_11 (by try simp only [Int32.lt_iff_toInt_lt, Int32.le_iff_toInt_le, ← Int32.toInt_inj, vp_in_iff, Int32.reduceToInt, mm_t1, mm_t2, mm_t3, mm_t4, mm_t10] at hb h1 ⊢; omega) ?_
    refine mm_goto 18 dX4_hatOf_14 (by decide) ?_
    refine mm_iret dX4_hatOf_18 rfl ⟨rfl, Nat.zero_le _⟩ ?_
    refine h _ ?_
    unfold s_X4_hatOf
    rw [if_pos h1]
  · refine mm_if_eq 17 8 dX4_hatOf_5 (by decide) rfl (fun _ => ?_) (fun h => absurd h (by decide))
    refine mm_iconst 18 0 dX4_hatOf_17 rfl (by decide) ?_
    refine mm_iret dX4_hatOf_18 rfl ⟨rfl, Nat.zero_le _⟩ ?_
    refine h _ ?_
    unfold s_X4_hatOf
    rw [if_neg h1]

def s_X2_weekOf (M : mm_M) (p : Int32) : Int32 := if 0 ≤ p.toInt ∧ p.toInt < (M 14 5).toInt then M 15 p.toNatClampNeg else -1

set_option maxHeartbeats 4000000 in
theorem c_X2_weekOf {l : Launch} {G : mm_G} {d : Nat} {M : mm_M} {Q : Int32 → mm_T → mm_M → Prop} {p : Int32} (hb : (M 14 5).toInt ≤ 24) (h : ∀ r, r = s_X2_weekOf M p → Q r T0 (M)) : mm_met l G (d + 1) k_X2_weekOf [.ref 14, .int p] T0 M (mm_pi Q) := by
  refine mm_enter 0 [.ref 14, .int p] o_X2_weekOf rfl rfl ?_
  refine mm_aload_0 1 dX2_weekOf_0 rfl ?_
  refine mm_iload_1 2 dX2_weekOf_1 rfl ?_
  refine mm_cV1i 5 dX2_weekOf_2 v_X2_49 rfl t_14 (by decide) rfl rfl (Nat.le_of_ble_eq_true rfl) ⟨rfl, rfl⟩ ⟨Nat.zero_le _, Nat.zero_le _⟩ (c_X2_has (fun h1 => ?_) (fun h1 => ?_))
  · refine mm_if_eq 17 8 dX2_weekOf_5 (by decide) rfl (fun h => absurd h (by decide)) (fun _ => ?_)
    refine mm_aload_0 9 dX2_weekOf_8 rfl ?_
    refine mm_getR 12 dX2_weekOf_9 f_X2_9 rfl t_14 rfl ?_
    refine mm_iload_1 13 dX2_weekOf_12 rfl ?_
    refine mm_iaload 14 dX2_weekOf_13 rfl t_15 (by try simp only [Int32.lt_iff_toInt_lt, Int32.le_iff_toInt_le, ← Int32.toInt_inj, vp_in_iff, Int32.reduceToInt, mm_t1, mm_t2, mm_t3, mm_t4, mm_t10] at hb h1 ⊢; omega) ?_
    refine mm_goto 18 dX2_weekOf_14 (by decide) ?_
    refine mm_iret dX2_weekOf_18 rfl ⟨rfl, Nat.zero_le _⟩ ?_
    refine h _ ?_
    unfold s_X2_weekOf
    rw [if_pos h1]
  · refine mm_if_eq 17 8 dX2_weekOf_5 (by decide) rfl (fun _ => ?_) (fun h => absurd h (by decide))
    refine mm_iconst 18 (-1) dX2_weekOf_17 rfl (by decide) ?_
    refine mm_iret dX2_weekOf_18 rfl ⟨rfl, Nat.zero_le _⟩ ?_
    refine h _ ?_
    unfold s_X2_weekOf
    rw [if_neg h1]

def s_X2_kindOf (M : mm_M) (p : Int32) : Int32 := if 0 ≤ p.toInt ∧ p.toInt < (M 14 5).toInt then M 16 p.toNatClampNeg else -1

set_option maxHeartbeats 4000000 in
theorem c_X2_kindOf {l : Launch} {G : mm_G} {d : Nat} {M : mm_M} {Q : Int32 → mm_T → mm_M → Prop} {p : Int32} (hb : (M 14 5).toInt ≤ 24) (h : ∀ r, r = s_X2_kindOf M p → Q r T0 (M)) : mm_met l G (d + 1) k_X2_kindOf [.ref 14, .int p] T0 M (mm_pi Q) := by
  refine mm_enter 0 [.ref 14, .int p] o_X2_kindOf rfl rfl ?_
  refine mm_aload_0 1 dX2_kindOf_0 rfl ?_
  refine mm_iload_1 2 dX2_kindOf_1 rfl ?_
  refine mm_cV1i 5 dX2_kindOf_2 v_X2_49 rfl t_14 (by decide) rfl rfl (Nat.le_of_ble_eq_true rfl) ⟨rfl, rfl⟩ ⟨Nat.zero_le _, Nat.zero_le _⟩ (c_X2_has (fun h1 => ?_) (fun h1 => ?_))
  · refine mm_if_eq 17 8 dX2_kindOf_5 (by decide) rfl (fun h => absurd h (by decide)) (fun _ => ?_)
    refine mm_aload_0 9 dX2_kindOf_8 rfl ?_
    refine mm_getR 12 dX2_kindOf_9 f_X2_15 rfl t_14 rfl ?_
    refine mm_iload_1 13 dX2_kindOf_12 rfl ?_
    refine mm_iaload 14 dX2_kindOf_13 rfl t_16 (by try simp only [Int32.lt_iff_toInt_lt, Int32.le_iff_toInt_le, ← Int32.toInt_inj, vp_in_iff, Int32.reduceToInt, mm_t1, mm_t2, mm_t3, mm_t4, mm_t10] at hb h1 ⊢; omega) ?_
    refine mm_goto 18 dX2_kindOf_14 (by decide) ?_
    refine mm_iret dX2_kindOf_18 rfl ⟨rfl, Nat.zero_le _⟩ ?_
    refine h _ ?_
    unfold s_X2_kindOf
    rw [if_pos h1]
  · refine mm_if_eq 17 8 dX2_kindOf_5 (by decide) rfl (fun _ => ?_) (fun h => absurd h (by decide))
    refine mm_iconst 18 (-1) dX2_kindOf_17 rfl (by decide) ?_
    refine mm_iret dX2_kindOf_18 rfl ⟨rfl, Nat.zero_le _⟩ ?_
    refine h _ ?_
    unfold s_X2_kindOf
    rw [if_neg h1]

def s_X2_oneOf (M : mm_M) (p : Int32) : Int32 := if 0 ≤ p.toInt ∧ p.toInt < (M 14 5).toInt then M 17 p.toNatClampNeg else -1

set_option maxHeartbeats 4000000 in
theorem c_X2_oneOf {l : Launch} {G : mm_G} {d : Nat} {M : mm_M} {Q : Int32 → mm_T → mm_M → Prop} {p : Int32} (hb : (M 14 5).toInt ≤ 24) (h : ∀ r, r = s_X2_oneOf M p → Q r T0 (M)) : mm_met l G (d + 1) k_X2_oneOf [.ref 14, .int p] T0 M (mm_pi Q) := by
  refine mm_enter 0 [.ref 14, .int p] o_X2_oneOf rfl rfl ?_
  refine mm_aload_0 1 dX2_oneOf_0 rfl ?_
  refine mm_iload_1 2 dX2_oneOf_1 rfl ?_
  refine mm_cV1i 5 dX2_oneOf_2 v_X2_49 rfl t_14 (by decide) rfl rfl (Nat.le_of_ble_eq_true rfl) ⟨rfl, rfl⟩ ⟨Nat.zero_le _, Nat.zero_le _⟩ (c_X2_has (fun h1 => ?_) (fun h1 => ?_))
  · refine mm_if_eq 17 8 dX2_oneOf_5 (by decide) rfl (fun h => absurd h (by decide)) (fun _ => ?_)
    refine mm_aload_0 9 dX2_oneOf_8 rfl ?_
    refine mm_getR 12 dX2_oneOf_9 f_X2_18 rfl t_14 rfl ?_
    refine mm_iload_1 13 dX2_oneOf_12 rfl ?_
    refine mm_iaload 14 dX2_oneOf_13 rfl t_17 (by try simp only [Int32.lt_iff_toInt_lt, Int32.le_iff_toInt_le, ← Int32.toInt_inj, vp_in_iff, Int32.reduceToInt, mm_t1, mm_t2, mm_t3, mm_t4, mm_t10] at hb h1 ⊢; omega) ?_
    refine mm_goto 18 dX2_oneOf_14 (by decide) ?_
    refine mm_iret dX2_oneOf_18 rfl ⟨rfl, Nat.zero_le _⟩ ?_
    refine h _ ?_
    unfold s_X2_oneOf
    rw [if_pos h1]
  · refine mm_if_eq 17 8 dX2_oneOf_5 (by decide) rfl (fun _ => ?_) (fun h => absurd h (by decide))
    refine mm_iconst 18 (-1) dX2_oneOf_17 rfl (by decide) ?_
    refine mm_iret dX2_oneOf_18 rfl ⟨rfl, Nat.zero_le _⟩ ?_
    refine h _ ?_
    unfold s_X2_oneOf
    rw [if_neg h1]

def s_X2_otherOf (M : mm_M) (p : Int32) : Int32 := if 0 ≤ p.toInt ∧ p.toInt < (M 14 5).toInt then M 18 p.toNatClampNeg else -1

set_option maxHeartbeats 4000000 in
theorem c_X2_otherOf {l : Launch} {G : mm_G} {d : Nat} {M : mm_M} {Q : Int32 → mm_T → mm_M → Prop} {p : Int32} (hb : (M 14 5).toInt ≤ 24) (h : ∀ r, r = s_X2_otherOf M p → Q r T0 (M)) : mm_met l G (d + 1) k_X2_otherOf [.ref 14, .int p] T0 M (mm_pi Q) := by
  refine mm_enter 0 [.ref 14, .int p] o_X2_otherOf rfl rfl ?_
  refine mm_aload_0 1 dX2_otherOf_0 rfl ?_
  refine mm_iload_1 2 dX2_otherOf_1 rfl ?_
  refine mm_cV1i 5 dX2_otherOf_2 v_X2_49 rfl t_14 (by decide) rfl rfl (Nat.le_of_ble_eq_true rfl) ⟨rfl, rfl⟩ ⟨Nat.zero_le _, Nat.zero_le _⟩ (c_X2_has (fun h1 => ?_) (fun h1 => ?_))
  · refine mm_if_eq 17 8 dX2_otherOf_5 (by decide) rfl (fun h => absurd h (by decide)) (fun _ => ?_)
    refine mm_aload_0 9 dX2_otherOf_8 rfl ?_
    refine mm_getR 12 dX2_otherOf_9 f_X2_21 rfl t_14 rfl ?_
    refine mm_iload_1 13 dX2_otherOf_12 rfl ?_
    refine mm_iaload 14 dX2_otherOf_13 rfl t_18 (by try simp only [Int32.lt_iff_toInt_lt, Int32.le_iff_toInt_le, ← Int32.toInt_inj, vp_in_iff, Int32.reduceToInt, mm_t1, mm_t2, mm_t3, mm_t4, mm_t10] at hb h1 ⊢; omega) ?_
    refine mm_goto 18 dX2_otherOf_14 (by decide) ?_
    refine mm_iret dX2_otherOf_18 rfl ⟨rfl, Nat.zero_le _⟩ ?_
    refine h _ ?_
    unfold s_X2_otherOf
    rw [if_pos h1]
  · refine mm_if_eq 17 8 dX2_otherOf_5 (by decide) rfl (fun _ => ?_) (fun h => absurd h (by decide))
    refine mm_iconst 18 (-1) dX2_otherOf_17 rfl (by decide) ?_
    refine mm_iret dX2_otherOf_18 rfl ⟨rfl, Nat.zero_le _⟩ ?_
    refine h _ ?_
    unfold s_X2_otherOf
    rw [if_neg h1]

def s_X2_hourOf (M : mm_M) (p : Int32) : Int32 := if 0 ≤ p.toInt ∧ p.toInt < (M 14 5).toInt then M 19 p.toNatClampNeg else 12

set_option maxHeartbeats 4000000 in
theorem c_X2_hourOf {l : Launch} {G : mm_G} {d : Nat} {M : mm_M} {Q : Int32 → mm_T → mm_M → Prop} {p : Int32} (hb : (M 14 5).toInt ≤ 24) (h : ∀ r, r = s_X2_hourOf M p → Q r T0 (M)) : mm_met l G (d + 1) k_X2_hourOf [.ref 14, .int p] T0 M (mm_pi Q) := by
  refine mm_enter 0 [.ref 14, .int p] o_X2_hourOf rfl rfl ?_
  refine mm_aload_0 1 dX2_hourOf_0 rfl ?_
  refine mm_iload_1 2 dX2_hourOf_1 rfl ?_
  refine mm_cV1i 5 dX2_hourOf_2 v_X2_49 rfl t_14 (by decide) rfl rfl (Nat.le_of_ble_eq_true rfl) ⟨rfl, rfl⟩ ⟨Nat.zero_le _, Nat.zero_le _⟩ (c_X2_has (fun h1 => ?_) (fun h1 => ?_))
  · refine mm_if_eq 17 8 dX2_hourOf_5 (by decide) rfl (fun h => absurd h (by decide)) (fun _ => ?_)
    refine mm_aload_0 9 dX2_hourOf_8 rfl ?_
    refine mm_getR 12 dX2_hourOf_9 f_X2_24 rfl t_14 rfl ?_
    refine mm_iload_1 13 dX2_hourOf_12 rfl ?_
    refine mm_iaload 14 dX2_hourOf_13 rfl t_19 (by try simp only [Int32.lt_iff_toInt_lt, Int32.le_iff_toInt_le, ← Int32.toInt_inj, vp_in_iff, Int32.reduceToInt, mm_t1, mm_t2, mm_t3, mm_t4, mm_t10] at hb h1 ⊢; omega) ?_
    refine mm_goto 19 dX2_hourOf_14 (by decide) ?_
    refine mm_iret dX2_hourOf_19 rfl ⟨rfl, Nat.zero_le _⟩ ?_
    refine h _ ?_
    unfold s_X2_hourOf
    rw [if_pos h1]
  · refine mm_if_eq 17 8 dX2_hourOf_5 (by decide) rfl (fun _ => ?_) (fun h => absurd h (by decide))
    refine mm_bipush 19 12 dX2_hourOf_17 rfl (by decide) ?_
    refine mm_iret dX2_hourOf_19 rfl ⟨rfl, Nat.zero_le _⟩ ?_
    refine h _ ?_
    unfold s_X2_hourOf
    rw [if_neg h1]

def s_X3_toldWidth (M : mm_M) (p : Int32) : Int32 := if 0 ≤ p.toInt ∧ p.toInt < (M 5 1).toInt then M 6 p.toNatClampNeg else 0

set_option maxHeartbeats 4000000 in
theorem c_X3_toldWidth {l : Launch} {G : mm_G} {d : Nat} {M : mm_M} {Q : Int32 → mm_T → mm_M → Prop} {p : Int32} (hb : (M 5 1).toInt ≤ 6) (h : ∀ r, r = s_X3_toldWidth M p → Q r T0 (M)) : mm_met l G (d + 1) k_X3_toldWidth [.ref 5, .int p] T0 M (mm_pi Q) := by
  refine mm_enter 0 [.ref 5, .int p] o_X3_toldWidth rfl rfl ?_
  refine mm_aload_0 1 dX3_toldWidth_0 rfl ?_
  refine mm_iload_1 2 dX3_toldWidth_1 rfl ?_
  refine mm_cV1i 5 dX3_toldWidth_2 v_X3_22 rfl t_5 (by decide) rfl rfl (Nat.le_of_ble_eq_true rfl) ⟨rfl, rfl⟩ ⟨Nat.zero_le _, Nat.zero_le _⟩ (c_X3_has (fun h1 => ?_) (fun h1 => ?_))
  · refine mm_if_eq 17 8 dX3_toldWidth_5 (by decide) rfl (fun h => absurd h (by decide)) (fun _ => ?_)
    refine mm_aload_0 9 dX3_toldWidth_8 rfl ?_
    refine mm_getR 12 dX3_toldWidth_9 f_X3_9 rfl t_5 rfl ?_
    refine mm_iload_1 13 dX3_toldWidth_12 rfl ?_
    refine mm_iaload 14 dX3_toldWidth_13 rfl t_6 (by try simp only [Int32.lt_iff_toInt_lt, Int32.le_iff_toInt_le, ← Int32.toInt_inj, vp_in_iff, Int32.reduceToInt, mm_t1, mm_t2, mm_t3, mm_t4, mm_t10] at hb h1 ⊢; omega) ?_
    refine mm_goto 18 dX3_toldWidth_14 (by decide) ?_
    refine mm_iret dX3_toldWidth_18 rfl ⟨rfl, Nat.zero_le _⟩ ?_
    refine h _ ?_
    unfold s_X3_toldWidth
    rw [if_pos h1]
  · refine mm_if_eq 17 8 dX3_toldWidth_5 (by decide) rfl (fun _ => ?_) (fun h => absurd h (by decide))
    refine mm_iconst 18 0 dX3_toldWidth_17 rfl (by decide) ?_
    refine mm_iret dX3_toldWidth_18 rfl ⟨rfl, Nat.zero_le _⟩ ?_
    refine h _ ?_
    unfold s_X3_toldWidth
    rw [if_neg h1]

