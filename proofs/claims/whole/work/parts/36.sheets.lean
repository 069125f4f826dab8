/-! Sheets of the class -/
theorem t_sh {k : Nat} (h : k < 4) : T0[43 + 2 * k]? = some (5, 0, [some (some (44 + 2 * k)), none, none]) ∧ T0[44 + 2 * k]? = some (13, 60, []) := by
  rcases (show k = 0 ∨ k = 1 ∨ k = 2 ∨ k = 3 by omega) with rfl | rfl | rfl | rfl <;> exact ⟨rfl, rfl⟩
def zfill (M : mm_M) (b n : Nat) (v : Int32) : mm_M := va_up M b (fun j => if j < n then v else M b j)
theorem zf_eq {M Y : mm_M} {b n : Nat} {v : Int32} (h : ∀ j, Y b j = if j < n then v else M b j) (ho : ∀ c, c ≠ b → Y c = M c) : Y = zfill M b n v := by
  funext c j
  unfold zfill
  by_cases e : c = b
  · subst e; simp [va_up]; exact h j
  · simp [va_up, e]; rw [ho c e]

set_option maxHeartbeats 4000000 in
theorem w_J7_fill {l : Launch} {G : mm_G} {d : Nat} {M : mm_M} {Q : mm_T → mm_M → Prop} {b n : Nat} (hb : T0[b]? = some (13, n, [])) (hn : n < 1000) {v : Int32} (h : Q T0 (zfill M b n v)) : ∀ (z i : Nat) (Mi : mm_M), n - i ≤ z → i ≤ n → (∀ j, Mi b j = if j < i then v else M b j) → (∀ c, c ≠ b → Mi c = M c) → mm_wp l G d k_J7_fill_53178 (mm_pv Q) 5 [.ref b, .int v, .int (nI i), .int (nI n)] [] T0 Mi 0 0 := by
  intro z
  induction z using Nat.strongRecOn with | _ z ih => ?_
  intro i Mi hze hin h2 ho
  have hii : (nI i).toInt = i := mm_ti (by omega)
  have hni : (nI n).toInt = n := mm_ti (by omega)
  refine mm_iload_2 6 dJ7_fill_53178_5 rfl ?_
  refine mm_iload_3 7 dJ7_fill_53178_6 rfl ?_
  refine mm_ic_ge 20 10 dJ7_fill_53178_7 (by decide) rfl (fun h1 => ?_) (fun h1 => ?_)
  · refine mm_vret dJ7_fill_53178_20 rfl ⟨rfl, Nat.zero_le _⟩ ?_
    have hz : i = n := by (try simp only [hii, hni, Int32.lt_iff_toInt_lt, Int32.le_iff_toInt_le, ← Int32.toInt_inj, vp_in_iff, Int32.reduceToInt, mm_t1, mm_t2, mm_t3, mm_t4, mm_t10] at h1); omega
    rw [hz] at h2
    rw [zf_eq h2 ho]
    exact h
  · have hlt : i < n := by (try simp only [hii, hni, Int32.lt_iff_toInt_lt, Int32.le_iff_toInt_le, ← Int32.toInt_inj, vp_in_iff, Int32.reduceToInt, mm_t1, mm_t2, mm_t3, mm_t4, mm_t10] at h1); omega
    refine mm_aload_0 11 dJ7_fill_53178_10 rfl ?_
    refine mm_iload_2 12 dJ7_fill_53178_11 rfl ?_
    refine mm_iload_1 13 dJ7_fill_53178_12 rfl ?_
    refine mm_iastoren 14 (i) dJ7_fill_53178_13 rfl hb (by omega) (rfl) (by omega) ?_
    refine mm_iinc_2 17 1 dJ7_fill_53178_14 rfl (by decide) rfl ?_
    refine mm_goto 5 dJ7_fill_53178_17 (by decide) ?_
    rw [nI_1]
    refine ih (n - (i + 1)) (by omega) (i + 1) _ (Nat.le_refl _) (by omega) (fun j => ?_) (fun c hc => ?_)
    · rw [mm_upc]
      simp only [upd]
      exact g_up1 h2 j
    · rw [mm_upn _ _ _ hc]
      exact ho c hc

set_option maxHeartbeats 4000000 in
theorem c_J7_fill {l : Launch} {G : mm_G} {d : Nat} {M : mm_M} {Q : mm_T → mm_M → Prop} {b n : Nat} (hb : T0[b]? = some (13, n, [])) (hn : n < 1000) {v : Int32} (h : Q T0 (zfill M b n v)) : mm_met l G d k_J7_fill_53178 [.ref b, .int v] T0 M (mm_pv Q) := by
  refine mm_enter 2 [.ref b, .int v, .double 0, .double 0] o_J7_fill_53178 rfl rfl ?_
  refine mm_iconst 1 0 dJ7_fill_53178_0 rfl (by decide) ?_
  refine mm_istore_2 2 dJ7_fill_53178_1 rfl rfl ?_
  refine mm_aload_0 3 dJ7_fill_53178_2 rfl ?_
  refine mm_alenI 4 dJ7_fill_53178_3 rfl hb ?_
  refine mm_istore_3 5 dJ7_fill_53178_4 rfl rfl ?_
  exact w_J7_fill hb hn h n 0 M (by omega) (by omega) (fun j => by rw [if_neg (by omega)]) (fun _ _ => rfl)

set_option maxHeartbeats 4000000 in
theorem c_X5_isLost {l : Launch} {G : mm_G} {d : Nat} {M : mm_M} {Q : Int32 → mm_T → mm_M → Prop} {c b : Nat} (hc : T0[c]? = some (5, 0, [some (some b), none, none])) (hb : T0[b]? = some (13, 60, [])) (ht : M c 2 = -1 → Q 1 T0 M) (hf : ¬ (M c 2 = -1) → Q 0 T0 M) : mm_met l G d k_X5_isLost [.ref c] T0 M (mm_pi Q) := by
  refine mm_enter 0 [.ref c] o_X5_isLost rfl rfl ?_
  refine mm_aload_0 1 dX5_isLost_0 rfl ?_
  refine mm_getI 4 dX5_isLost_1 f_X5_19 rfl hc rfl ?_
  refine mm_iconst 5 (-1) dX5_isLost_4 rfl (by decide) ?_
  refine mm_ic_ne 12 8 dX5_isLost_5 (by decide) rfl (fun h1 => ?_) (fun h1 => ?_)
  · refine mm_iconst 13 0 dX5_isLost_12 rfl (by decide) ?_
    refine mm_zret dX5_isLost_13 rfl ⟨rfl, Nat.zero_le _⟩ (Or.inl rfl) ?_
    refine hf h1
  · refine mm_iconst 9 1 dX5_isLost_8 rfl (by decide) ?_
    refine mm_goto 13 dX5_isLost_9 (by decide) ?_
    refine mm_zret dX5_isLost_13 rfl ⟨rfl, Nat.zero_le _⟩ (Or.inr rfl) ?_
    refine ht h1

set_option maxHeartbeats 4000000 in
theorem c_X5_size {l : Launch} {G : mm_G} {d : Nat} {M : mm_M} {Q : Int32 → mm_T → mm_M → Prop} {c b : Nat} (hc : T0[c]? = some (5, 0, [some (some b), none, none])) (hb : T0[b]? = some (13, 60, [])) (h : ∀ r, r = M c 2 → Q r T0 (M)) : mm_met l G d k_X5_size [.ref c] T0 M (mm_pi Q) := by
  refine mm_enter 0 [.ref c] o_X5_size rfl rfl ?_
  refine mm_aload_0 1 dX5_size_0 rfl ?_
  refine mm_getI 4 dX5_size_1 f_X5_19 rfl hc rfl ?_
  refine mm_iret dX5_size_4 rfl ⟨rfl, Nat.zero_le _⟩ ?_
  exact h _ rfl

set_option maxHeartbeats 4000000 in
theorem c_X5_form {l : Launch} {G : mm_G} {d : Nat} {M : mm_M} {Q : Int32 → mm_T → mm_M → Prop} {c b : Nat} (hc : T0[c]? = some (5, 0, [some (some b), none, none])) (hb : T0[b]? = some (13, 60, [])) (h : ∀ r, r = M c 1 → Q r T0 (M)) : mm_met l G d k_X5_form [.ref c] T0 M (mm_pi Q) := by
  refine mm_enter 0 [.ref c] o_X5_form rfl rfl ?_
  refine mm_aload_0 1 dX5_form_0 rfl ?_
  refine mm_getI 4 dX5_form_1 f_X5_15 rfl hc rfl ?_
  refine mm_iret dX5_form_4 rfl ⟨rfl, Nat.zero_le _⟩ ?_
  exact h _ rfl

set_option maxHeartbeats 4000000 in
theorem c_X5_hasItem {l : Launch} {G : mm_G} {d : Nat} {M : mm_M} {Q : Int32 → mm_T → mm_M → Prop} {c b : Nat} (hc : T0[c]? = some (5, 0, [some (some b), none, none])) (hb : T0[b]? = some (13, 60, [])) {x : Int32} (ht : 0 ≤ x.toInt ∧ x.toInt < (M c 2).toInt ∧ x.toInt < 60 → Q 1 T0 M) (hf : ¬ (0 ≤ x.toInt ∧ x.toInt < (M c 2).toInt ∧ x.toInt < 60) → Q 0 T0 M) : mm_met l G d k_X5_hasItem [.ref c, .int x] T0 M (mm_pi Q) := by
  refine mm_enter 0 [.ref c, .int x] o_X5_hasItem rfl rfl ?_
  refine mm_iload_1 1 dX5_hasItem_0 rfl ?_
  refine mm_if_lt 22 4 dX5_hasItem_1 (by decide) rfl (fun h1 => ?_) (fun h1 => ?_)
  · refine mm_iconst 23 0 dX5_hasItem_22 rfl (by decide) ?_
    refine mm_zret dX5_hasItem_23 rfl ⟨rfl, Nat.zero_le _⟩ (Or.inl rfl) ?_
    refine hf ?_
    try simp only [Int32.lt_iff_toInt_lt, Int32.le_iff_toInt_le, ← Int32.toInt_inj, vp_in_iff, Int32.reduceToInt, mm_t1, mm_t2, mm_t3, mm_t4, mm_t10] at h1 ⊢
    omega
  · refine mm_iload_1 5 dX5_hasItem_4 rfl ?_
    refine mm_aload_0 6 dX5_hasItem_5 rfl ?_
    refine mm_getI 9 dX5_hasItem_6 f_X5_19 rfl hc rfl ?_
    refine mm_ic_ge 22 12 dX5_hasItem_9 (by decide) rfl (fun h2 => ?_) (fun h2 => ?_)
    · refine mm_iconst 23 0 dX5_hasItem_22 rfl (by decide) ?_
      refine mm_zret dX5_hasItem_23 rfl ⟨rfl, Nat.zero_le _⟩ (Or.inl rfl) ?_
      refine hf ?_
      try simp only [Int32.lt_iff_toInt_lt, Int32.le_iff_toInt_le, ← Int32.toInt_inj, vp_in_iff, Int32.reduceToInt, mm_t1, mm_t2, mm_t3, mm_t4, mm_t10] at h1 h2 ⊢
      omega
    · refine mm_iload_1 13 dX5_hasItem_12 rfl ?_
      refine mm_bipush 15 60 dX5_hasItem_13 rfl (by decide) ?_
      refine mm_ic_ge 22 18 dX5_hasItem_15 (by decide) rfl (fun h3 => ?_) (fun h3 => ?_)
      · refine mm_iconst 23 0 dX5_hasItem_22 rfl (by decide) ?_
        refine mm_zret dX5_hasItem_23 rfl ⟨rfl, Nat.zero_le _⟩ (Or.inl rfl) ?_
        refine hf ?_
        try simp only [Int32.lt_iff_toInt_lt, Int32.le_iff_toInt_le, ← Int32.toInt_inj, vp_in_iff, Int32.reduceToInt, mm_t1, mm_t2, mm_t3, mm_t4, mm_t10] at h1 h2 h3 ⊢
        omega
      · refine mm_iconst 19 1 dX5_hasItem_18 rfl (by decide) ?_
        refine mm_goto 23 dX5_hasItem_19 (by decide) ?_
        refine mm_zret dX5_hasItem_23 rfl ⟨rfl, Nat.zero_le _⟩ (Or.inr rfl) ?_
        refine ht ?_
        try simp only [Int32.lt_iff_toInt_lt, Int32.le_iff_toInt_le, ← Int32.toInt_inj, vp_in_iff, Int32.reduceToInt, mm_t1, mm_t2, mm_t3, mm_t4, mm_t10] at h1 h2 h3 ⊢
        omega

set_option maxHeartbeats 4000000 in
theorem c_X5_hasSpan {l : Launch} {G : mm_G} {d : Nat} {M : mm_M} {Q : Int32 → mm_T → mm_M → Prop} {c b : Nat} (hc : T0[c]? = some (5, 0, [some (some b), none, none])) (hb : T0[b]? = some (13, 60, [])) {x n : Int32} (hz : -1 ≤ (M c 2).toInt ∧ (M c 2).toInt ≤ 60) (ht : 0 ≤ x.toInt ∧ 0 ≤ n.toInt ∧ x.toInt + n.toInt ≤ (M c 2).toInt → Q 1 T0 M) (hf : ¬ (0 ≤ x.toInt ∧ 0 ≤ n.toInt ∧ x.toInt + n.toInt ≤ (M c 2).toInt) → Q 0 T0 M) : mm_met l G d k_X5_hasSpan [.ref c, .int x, .int n] T0 M (mm_pi Q) := by
  have bx := mm_bd x
  have bn := mm_bd n
  refine mm_enter 0 [.ref c, .int x, .int n] o_X5_hasSpan rfl rfl ?_
  refine mm_iload_1 1 dX5_hasSpan_0 rfl ?_
  refine mm_if_lt 22 4 dX5_hasSpan_1 (by decide) rfl (fun h1 => ?_) (fun h1 => ?_)
  · refine mm_iconst 23 0 dX5_hasSpan_22 rfl (by decide) ?_
    refine mm_zret dX5_hasSpan_23 rfl ⟨rfl, Nat.zero_le _⟩ (Or.inl rfl) ?_
    (try simp only [Int32.lt_iff_toInt_lt, Int32.le_iff_toInt_le, ← Int32.toInt_inj, vp_in_iff, Int32.reduceToInt, mm_t1, mm_t2, mm_t3, mm_t4, mm_t10] at h1)
    refine hf ?_
    omega
  · refine mm_iload_2 5 dX5_hasSpan_4 rfl ?_
    refine mm_if_lt 22 8 dX5_hasSpan_5 (by decide) rfl (fun h2 => ?_) (fun h2 => ?_)
    · refine mm_iconst 23 0 dX5_hasSpan_22 rfl (by decide) ?_
      refine mm_zret dX5_hasSpan_23 rfl ⟨rfl, Nat.zero_le _⟩ (Or.inl rfl) ?_
      (try simp only [Int32.lt_iff_toInt_lt, Int32.le_iff_toInt_le, ← Int32.toInt_inj, vp_in_iff, Int32.reduceToInt, mm_t1, mm_t2, mm_t3, mm_t4, mm_t10] at h1 h2)
      refine hf ?_
      omega
    · refine mm_iload_2 9 dX5_hasSpan_8 rfl ?_
      refine mm_aload_0 10 dX5_hasSpan_9 rfl ?_
      refine mm_getI 13 dX5_hasSpan_10 f_X5_19 rfl hc rfl ?_
      refine mm_iload_1 14 dX5_hasSpan_13 rfl ?_
      refine mm_isub 15 dX5_hasSpan_14 rfl ?_
      refine mm_ic_gt 22 18 dX5_hasSpan_15 (by decide) rfl (fun h3 => ?_) (fun h3 => ?_)
      · refine mm_iconst 23 0 dX5_hasSpan_22 rfl (by decide) ?_
        refine mm_zret dX5_hasSpan_23 rfl ⟨rfl, Nat.zero_le _⟩ (Or.inl rfl) ?_
        (try simp only [Int32.lt_iff_toInt_lt, Int32.le_iff_toInt_le, ← Int32.toInt_inj, vp_in_iff, Int32.reduceToInt, mm_t1, mm_t2, mm_t3, mm_t4, mm_t10] at h1 h2 h3)
        have sb := mm_sub (a := M c 2) (b := x) (by omega)
        refine hf ?_
        omega
      · refine mm_iconst 19 1 dX5_hasSpan_18 rfl (by decide) ?_
        refine mm_goto 23 dX5_hasSpan_19 (by decide) ?_
        refine mm_zret dX5_hasSpan_23 rfl ⟨rfl, Nat.zero_le _⟩ (Or.inr rfl) ?_
        (try simp only [Int32.lt_iff_toInt_lt, Int32.le_iff_toInt_le, ← Int32.toInt_inj, vp_in_iff, Int32.reduceToInt, mm_t1, mm_t2, mm_t3, mm_t4, mm_t10] at h1 h2 h3)
        have sb := mm_sub (a := M c 2) (b := x) (by omega)
        refine ht ?_
        omega

set_option maxHeartbeats 4000000 in
theorem c_X5_drop {l : Launch} {G : mm_G} {d : Nat} {M : mm_M} {Q : mm_T → mm_M → Prop} {c b : Nat} (hc : T0[c]? = some (5, 0, [some (some b), none, none])) (hb : T0[b]? = some (13, 60, [])) (h : Q T0 (mm_up M c 2 (-1))) : mm_met l G d k_X5_drop [.ref c] T0 M (mm_pv Q) := by
  refine mm_enter 0 [.ref c] o_X5_drop rfl rfl ?_
  refine mm_aload_0 1 dX5_drop_0 rfl ?_
  refine mm_iconst 2 (-1) dX5_drop_1 rfl (by decide) ?_
  refine mm_putI 5 dX5_drop_2 p_X5_19 ⟨rfl, rfl⟩ rfl hc rfl ?_
  refine mm_vret dX5_drop_5 rfl ⟨rfl, Nat.zero_le _⟩ ?_
  exact h

def rn (M : mm_M) (c b : Nat) (f n : Int32) : mm_M := zfill (mm_up (mm_up M c 1 f) c 2 n) b 60 0

set_option maxHeartbeats 4000000 in
theorem c_X5_renew {l : Launch} {G : mm_G} {d : Nat} {M : mm_M} {Q : mm_T → mm_M → Prop} {c b : Nat} (hc : T0[c]? = some (5, 0, [some (some b), none, none])) (hb : T0[b]? = some (13, 60, [])) {f n : Int32} (hn : 0 ≤ n.toInt ∧ n.toInt ≤ 60) (h : Q T0 (rn M c b f n)) : mm_met l G (d + 1) k_X5_renew [.ref c, .int f, .int n] T0 M (mm_pv Q) := by
  refine mm_enter 0 [.ref c, .int f, .int n] o_X5_renew rfl rfl ?_
  refine mm_aload_0 1 dX5_renew_0 rfl ?_
  refine mm_iload_1 2 dX5_renew_1 rfl ?_
  refine mm_putI 5 dX5_renew_2 p_X5_15 ⟨rfl, rfl⟩ rfl hc rfl ?_
  refine mm_aload_0 6 dX5_renew_5 rfl ?_
  refine mm_iconst 7 0 dX5_renew_6 rfl (by decide) ?_
  refine mm_iload_2 8 dX5_renew_7 rfl ?_
  refine mm_bipush 10 60 dX5_renew_8 rfl (by decide) ?_
  refine mm_mmin 13 dX5_renew_10 j_X5_22 rfl (Nat.le_of_ble_eq_true rfl) ⟨Nat.zero_le _, Nat.zero_le _⟩ ?_
  rw [if_neg (by simp only [Int32.lt_iff_toInt_lt, Int32.le_iff_toInt_le, ← Int32.toInt_inj, vp_in_iff, Int32.reduceToInt, mm_t1, mm_t2, mm_t3, mm_t4, mm_t10]; omega)]
  refine mm_mmax 16 dX5_renew_13 j_X5_28 rfl (Nat.le_of_ble_eq_true rfl) ⟨Nat.zero_le _, Nat.zero_le _⟩ ?_
  have zz0 : (if (0 : Int32) < n then n else 0) = n := by
    split
    · rfl
    · rename_i q
      apply mm_ii
      simp only [Int32.lt_iff_toInt_lt, Int32.le_iff_toInt_le, ← Int32.toInt_inj, vp_in_iff, Int32.reduceToInt, mm_t1, mm_t2, mm_t3, mm_t4, mm_t10] at q ⊢
      omega
  rw [zz0]
  refine mm_putI 19 dX5_renew_16 p_X5_19 ⟨rfl, rfl⟩ rfl hc rfl ?_
  refine mm_aload_0 20 dX5_renew_19 rfl ?_
  refine mm_getR 23 dX5_renew_20 f_X5_9 rfl hc rfl ?_
  refine mm_iconst 24 0 dX5_renew_23 rfl (by decide) ?_
  refine mm_cS2v 27 dX5_renew_24 v_X5_31 rfl (Nat.le_of_ble_eq_true rfl) ⟨rfl, rfl⟩ ⟨Nat.zero_le _, Nat.zero_le _⟩ (c_J7_fill hb (by omega) ?_)
  refine mm_vret dX5_renew_27 rfl ⟨rfl, Nat.zero_le _⟩ ?_
  exact h

set_option maxHeartbeats 4000000 in
theorem c_X5_itemAt {l : Launch} {G : mm_G} {d : Nat} {M : mm_M} {Q : Int32 → mm_T → mm_M → Prop} {c b : Nat} (hc : T0[c]? = some (5, 0, [some (some b), none, none])) (hb : T0[b]? = some (13, 60, [])) {x : Int32} (h : ∀ r, r = (if 0 ≤ x.toInt ∧ x.toInt < (M c 2).toInt ∧ x.toInt < 60 then M b x.toNatClampNeg else 0) → Q r T0 (M)) : mm_met l G (d + 1) k_X5_itemAt [.ref c, .int x] T0 M (mm_pi Q) := by
  refine mm_enter 0 [.ref c, .int x] o_X5_itemAt rfl rfl ?_
  refine mm_aload_0 1 dX5_itemAt_0 rfl ?_
  refine mm_iload_1 2 dX5_itemAt_1 rfl ?_
  refine mm_cV1i 5 dX5_itemAt_2 v_X5_37 rfl hc (by decide) rfl rfl (Nat.le_of_ble_eq_true rfl) ⟨rfl, rfl⟩ ⟨Nat.zero_le _, Nat.zero_le _⟩ (c_X5_hasItem hc hb (fun h1 => ?_) (fun h1 => ?_))
  · refine mm_if_eq 17 8 dX5_itemAt_5 (by decide) rfl (fun h => absurd h (by decide)) (fun _ => ?_)
    refine mm_aload_0 9 dX5_itemAt_8 rfl ?_
    refine mm_getR 12 dX5_itemAt_9 f_X5_9 rfl hc rfl ?_
    refine mm_iload_1 13 dX5_itemAt_12 rfl ?_
    refine mm_ialoadn 14 (x.toNatClampNeg) dX5_itemAt_13 rfl hb (by decide) ((mm_cl2 (n := 60) ⟨h1.1, h1.2.2⟩).1) ((mm_cl2 (n := 60) ⟨h1.1, h1.2.2⟩).2.1) ?_
    refine mm_goto 18 dX5_itemAt_14 (by decide) ?_
    refine mm_iret dX5_itemAt_18 rfl ⟨rfl, Nat.zero_le _⟩ ?_
    refine h _ ?_
    rw [if_pos h1]
  · refine mm_if_eq 17 8 dX5_itemAt_5 (by decide) rfl (fun _ => ?_) (fun h => absurd h (by decide))
    refine mm_iconst 18 0 dX5_itemAt_17 rfl (by decide) ?_
    refine mm_iret dX5_itemAt_18 rfl ⟨rfl, Nat.zero_le _⟩ ?_
    refine h _ ?_
    rw [if_neg h1]

set_option maxHeartbeats 4000000 in
theorem c_X5_fitted {l : Launch} {G : mm_G} {d : Nat} {M : mm_M} {Q : Int32 → mm_T → mm_M → Prop} {c b : Nat} (hc : T0[c]? = some (5, 0, [some (some b), none, none])) (hb : T0[b]? = some (13, 60, [])) {v : Int32} (h : ∀ r, r = g_cut (M c 1) v → Q r T0 (M)) : mm_met l G d k_X5_fitted [.ref c, .int v] T0 M (mm_pi Q) := by
  refine mm_enter 0 [.ref c, .int v] o_X5_fitted rfl rfl ?_
  refine mm_aload_0 1 dX5_fitted_0 rfl ?_
  refine mm_getI 4 dX5_fitted_1 f_X5_15 rfl hc rfl ?_
  refine mm_if_ne 10 7 dX5_fitted_4 (by decide) rfl (fun h1 => ?_) (fun h1 => ?_)
  · refine mm_aload_0 11 dX5_fitted_10 rfl ?_
    refine mm_getI 14 dX5_fitted_11 f_X5_15 rfl hc rfl ?_
    refine mm_iconst 15 1 dX5_fitted_14 rfl (by decide) ?_
    refine mm_ic_ne 23 18 dX5_fitted_15 (by decide) rfl (fun h2 => ?_) (fun h2 => ?_)
    · refine mm_iload_1 24 dX5_fitted_23 rfl ?_
      refine mm_iret dX5_fitted_24 rfl ⟨rfl, Nat.zero_le _⟩ ?_
      refine h _ ?_
      unfold g_cut
      (try simp only [Int32.lt_iff_toInt_lt, Int32.le_iff_toInt_le, ← Int32.toInt_inj, vp_in_iff, Int32.reduceToInt, mm_t1, mm_t2, mm_t3, mm_t4, mm_t10] at h1 h2)
      rw [if_neg (by omega), if_neg (by omega)]
    · refine mm_iload_1 19 dX5_fitted_18 rfl ?_
      refine mm_i2s 20 dX5_fitted_19 rfl ?_
      refine mm_goto 24 dX5_fitted_20 (by decide) ?_
      refine mm_iret dX5_fitted_24 rfl ⟨rfl, Nat.zero_le _⟩ ?_
      refine h _ ?_
      unfold g_cut
      (try simp only [Int32.lt_iff_toInt_lt, Int32.le_iff_toInt_le, ← Int32.toInt_inj, vp_in_iff, Int32.reduceToInt, mm_t1, mm_t2, mm_t3, mm_t4, mm_t10] at h1 h2)
      rw [if_neg (by omega), if_pos (by omega)]
  · refine mm_iload_1 8 dX5_fitted_7 rfl ?_
    refine mm_i2b 9 dX5_fitted_8 rfl ?_
    refine mm_iret dX5_fitted_9 rfl ⟨rfl, Nat.zero_le _⟩ ?_
    refine h _ ?_
    unfold g_cut
    (try simp only [Int32.lt_iff_toInt_lt, Int32.le_iff_toInt_le, ← Int32.toInt_inj, vp_in_iff, Int32.reduceToInt, mm_t1, mm_t2, mm_t3, mm_t4, mm_t10] at h1)
    rw [if_pos (by omega)]

set_option maxHeartbeats 4000000 in
theorem c_X5_put {l : Launch} {G : mm_G} {d : Nat} {M : mm_M} {Q : mm_T → mm_M → Prop} {c b : Nat} (hc : T0[c]? = some (5, 0, [some (some b), none, none])) (hb : T0[b]? = some (13, 60, [])) {x v : Int32} (hx : 0 ≤ x.toInt ∧ x.toInt < (M c 2).toInt ∧ x.toInt < 60) (h : Q T0 (mm_up M b x.toNatClampNeg (g_cut (M c 1) v))) : mm_met l G (d + 1) k_X5_put [.ref c, .int x, .int v] T0 M (mm_pv Q) := by
  refine mm_enter 0 [.ref c, .int x, .int v] o_X5_put rfl rfl ?_
  refine mm_aload_0 1 dX5_put_0 rfl ?_
  refine mm_iload_1 2 dX5_put_1 rfl ?_
  refine mm_cV1i 5 dX5_put_2 v_X5_37 rfl hc (by decide) rfl rfl (Nat.le_of_ble_eq_true rfl) ⟨rfl, rfl⟩ ⟨Nat.zero_le _, Nat.zero_le _⟩ (c_X5_hasItem hc hb (fun h1 => ?_) (fun h1 => absurd hx h1))
  refine mm_if_eq 19 8 dX5_put_5 (by decide) rfl (fun h => absurd h (by decide)) (fun _ => ?_)
  refine mm_aload_0 9 dX5_put_8 rfl ?_
  refine mm_getR 12 dX5_put_9 f_X5_9 rfl hc rfl ?_
  refine mm_iload_1 13 dX5_put_12 rfl ?_
  refine mm_aload_0 14 dX5_put_13 rfl ?_
  refine mm_iload_2 15 dX5_put_14 rfl ?_
  refine mm_cV1i 18 dX5_put_15 v_X5_41 rfl hc (by decide) rfl rfl (Nat.le_of_ble_eq_true rfl) ⟨rfl, rfl⟩ ⟨Nat.zero_le _, Nat.zero_le _⟩ (c_X5_fitted hc hb (fun r1 e1 => ?_))
  refine mm_iastoren 19 (x.toNatClampNeg) dX5_put_18 rfl hb (by decide) ((mm_cl2 (n := 60) ⟨hx.1, hx.2.2⟩).1) ((mm_cl2 (n := 60) ⟨hx.1, hx.2.2⟩).2.1) ?_
  refine mm_vret dX5_put_19 rfl ⟨rfl, Nat.zero_le _⟩ ?_
  rw [e1]
  exact h

set_option maxHeartbeats 4000000 in
theorem c_X5_take {l : Launch} {G : mm_G} {d : Nat} {M : mm_M} {Q : mm_T → mm_M → Prop} {c b : Nat} (hc : T0[c]? = some (5, 0, [some (some b), none, none])) (hb : T0[b]? = some (13, 60, [])) {c2 b2 : Nat} (hc2 : T0[c2]? = some (5, 0, [some (some b2), none, none])) (hb2 : T0[b2]? = some (13, 60, [])) {j i n : Int32} (z1 : -1 ≤ (M c 2).toInt ∧ (M c 2).toInt ≤ 60) (z2 : -1 ≤ (M c2 2).toInt ∧ (M c2 2).toInt ≤ 60) (s1 : 0 ≤ j.toInt ∧ 0 ≤ n.toInt ∧ j.toInt + n.toInt ≤ (M c 2).toInt) (s2 : 0 ≤ i.toInt ∧ 0 ≤ n.toInt ∧ i.toInt + n.toInt ≤ (M c2 2).toInt) (h : Q T0 (va_up M b (va_cpy (M b2) (M b) i.toNatClampNeg j.toNatClampNeg n.toNatClampNeg))) : mm_met l G (d + 1) k_X5_take [.ref c, .int j, .ref c2, .int i, .int n] T0 M (mm_pv Q) := by
  refine mm_enter 0 [.ref c, .int j, .ref c2, .int i, .int n] o_X5_take rfl rfl ?_
  refine mm_aload_0 1 dX5_take_0 rfl ?_
  refine mm_iload_1 2 dX5_take_1 rfl ?_
  refine mm_iload_4 4 dX5_take_2 rfl ?_
  refine mm_cV2i 7 dX5_take_4 v_X5_45 rfl hc (by decide) rfl rfl (Nat.le_of_ble_eq_true rfl) ⟨rfl, rfl⟩ ⟨Nat.zero_le _, Nat.zero_le _⟩ (c_X5_hasSpan hc hb z1 (fun h1 => ?_) (fun h1 => absurd s1 h1))
  refine mm_if_eq 35 10 dX5_take_7 (by decide) rfl (fun h => absurd h (by decide)) (fun _ => ?_)
  refine mm_aload_2 11 dX5_take_10 rfl ?_
  refine mm_iload_3 12 dX5_take_11 rfl ?_
  refine mm_iload_4 14 dX5_take_12 rfl ?_
  refine mm_cV2i 17 dX5_take_14 v_X5_45 rfl hc2 (by decide) rfl rfl (Nat.le_of_ble_eq_true rfl) ⟨rfl, rfl⟩ ⟨Nat.zero_le _, Nat.zero_le _⟩ (c_X5_hasSpan hc2 hb2 z2 (fun h2 => ?_) (fun h2 => absurd s2 h2))
  refine mm_if_eq 35 20 dX5_take_17 (by decide) rfl (fun h => absurd h (by decide)) (fun _ => ?_)
  refine mm_aload_2 21 dX5_take_20 rfl ?_
  refine mm_getR 24 dX5_take_21 f_X5_9 rfl hc2 rfl ?_
  refine mm_iload_3 25 dX5_take_24 rfl ?_
  refine mm_aload_0 26 dX5_take_25 rfl ?_
  refine mm_getR 29 dX5_take_26 f_X5_9 rfl hc rfl ?_
  refine mm_iload_1 30 dX5_take_29 rfl ?_
  refine mm_iload_4 32 dX5_take_30 rfl ?_
  refine mm_copy 35 dX5_take_32 j_X5_49 rfl (Nat.le_of_ble_eq_true rfl) hb2 hb (by simp only [Int32.lt_iff_toInt_lt, Int32.le_iff_toInt_le, ← Int32.toInt_inj, vp_in_iff, Int32.reduceToInt, mm_t1, mm_t2, mm_t3, mm_t4, mm_t10]; omega) (by simp only [Int32.lt_iff_toInt_lt, Int32.le_iff_toInt_le, ← Int32.toInt_inj, vp_in_iff, Int32.reduceToInt, mm_t1, mm_t2, mm_t3, mm_t4, mm_t10]; omega) (by simp only [Int32.lt_iff_toInt_lt, Int32.le_iff_toInt_le, ← Int32.toInt_inj, vp_in_iff, Int32.reduceToInt, mm_t1, mm_t2, mm_t3, mm_t4, mm_t10]; omega) (by have := mm_cl s2.1; have := mm_cl s2.2.1; omega) (by have := mm_cl s1.1; have := mm_cl s1.2.1; omega) ?_
  refine mm_vret dX5_take_35 rfl ⟨rfl, Nat.zero_le _⟩ ?_
  exact h

set_option maxHeartbeats 4000000 in
theorem c_X11_sheetAt {l : Launch} {G : mm_G} {d : Nat} {M : mm_M} {Q : Option Nat → mm_T → mm_M → Prop} {s : Int32} (ht : ∀ k : Nat, k < 4 → s = nI k → Q (some (43 + 2 * k)) T0 M) (hn : ¬ (0 ≤ s.toInt ∧ s.toInt ≤ 3) → Q none T0 M) : mm_met l G (d + 1) k_X11_sheetAt [.ref 0, .int s] T0 M (mm_pr Q) := by
  refine mm_enter 0 [.ref 0, .int s] o_X11_sheetAt rfl rfl ?_
  refine mm_iload_1 1 dX11_sheetAt_0 rfl ?_
  refine mm_iconst 2 0 dX11_sheetAt_1 rfl (by decide) ?_
  refine mm_iconst 3 3 dX11_sheetAt_2 rfl (by decide) ?_
  refine mm_cS3i 6 dX11_sheetAt_3 v_X11_98 rfl (Nat.le_of_ble_eq_true rfl) ⟨rfl, rfl⟩ ⟨Nat.zero_le _, Nat.zero_le _⟩ (c_X11_isWithin  (fun h1 => ?_) (fun h1 => ?_))
  · refine mm_if_eq 18 9 dX11_sheetAt_6 (by decide) rfl (fun h => absurd h (by decide)) (fun _ => ?_)
    have cs := mm_cl2 (x := s) (n := 4) (by (try simp only [Int32.lt_iff_toInt_lt, Int32.le_iff_toInt_le, ← Int32.toInt_inj, vp_in_iff, Int32.reduceToInt, mm_t1, mm_t2, mm_t3, mm_t4, mm_t10] at h1 ⊢); omega)
    refine mm_aload_0 10 dX11_sheetAt_9 rfl ?_
    refine mm_getR 13 dX11_sheetAt_10 f_X11_85 rfl t_0 rfl ?_
    refine mm_iload_1 14 dX11_sheetAt_13 rfl ?_
    refine mm_aaload 15 dX11_sheetAt_14 rfl t_42 (by rw [cs.1]; simp only [vp_in_iff]; rw [mm_ti (by omega)]; omega) (r := 43 + 2 * s.toNatClampNeg) (by rcases (show s.toNatClampNeg = 0 ∨ s.toNatClampNeg = 1 ∨ s.toNatClampNeg = 2 ∨ s.toNatClampNeg = 3 by omega) with q | q | q | q <;> rw [q] <;> rfl) ?_
    refine mm_goto 19 dX11_sheetAt_15 (by decide) ?_
    refine mm_aret "MarriedMap$Sheet" dX11_sheetAt_19 rfl ⟨rfl, Nat.zero_le _⟩ ?_
    exact ht _ cs.2.1 cs.1
  · refine mm_if_eq 18 9 dX11_sheetAt_6 (by decide) rfl (fun _ => ?_) (fun h => absurd h (by decide))
    refine mm_null 19 dX11_sheetAt_18 rfl ?_
    refine mm_nret "MarriedMap$Sheet" dX11_sheetAt_19 rfl ⟨rfl, Nat.zero_le _⟩ ?_
    refine hn (by (try simp only [Int32.lt_iff_toInt_lt, Int32.le_iff_toInt_le, ← Int32.toInt_inj, vp_in_iff, Int32.reduceToInt, mm_t1, mm_t2, mm_t3, mm_t4, mm_t10] at h1 ⊢); omega)

set_option maxHeartbeats 4000000 in
theorem c_X11_textAt {l : Launch} {G : mm_G} {d : Nat} {M : mm_M} {Q : Option Nat → mm_T → mm_M → Prop} {s : Int32} (h0 : s = 0 → Q (some 1) T0 M) (k1 : s = 1 → Q (some 3) T0 M) (hn : ¬ (0 ≤ s.toInt ∧ s.toInt ≤ 1) → Q none T0 M) : mm_met l G d k_X11_textAt [.ref 0, .int s] T0 M (mm_pr Q) := by
  refine mm_enter 0 [.ref 0, .int s] o_X11_textAt rfl rfl ?_
  refine mm_iload_1 1 dX11_textAt_0 rfl ?_
  refine mm_if_ne 9 4 dX11_textAt_1 (by decide) rfl (fun h1 => ?_) (fun h1 => ?_)
  · refine mm_iload_1 10 dX11_textAt_9 rfl ?_
    refine mm_iconst 11 1 dX11_textAt_10 rfl (by decide) ?_
    refine mm_ic_ne 21 14 dX11_textAt_11 (by decide) rfl (fun h2 => ?_) (fun h2 => ?_)
    · refine mm_null 22 dX11_textAt_21 rfl ?_
      refine mm_nret "MarriedMap$Text" dX11_textAt_22 rfl ⟨rfl, Nat.zero_le _⟩ ?_
      refine hn (by (try simp only [Int32.lt_iff_toInt_lt, Int32.le_iff_toInt_le, ← Int32.toInt_inj, vp_in_iff, Int32.reduceToInt, mm_t1, mm_t2, mm_t3, mm_t4, mm_t10] at h1 h2 ⊢); omega)
    · refine mm_aload_0 15 dX11_textAt_14 rfl ?_
      refine mm_getR 18 dX11_textAt_15 f_X11_20 rfl t_0 rfl ?_
      refine mm_goto 22 dX11_textAt_18 (by decide) ?_
      refine mm_aret "MarriedMap$Text" dX11_textAt_22 rfl ⟨rfl, Nat.zero_le _⟩ ?_
      exact k1 h2
  · refine mm_aload_0 5 dX11_textAt_4 rfl ?_
    refine mm_getR 8 dX11_textAt_5 f_X11_16 rfl t_0 rfl ?_
    refine mm_aret "MarriedMap$Text" dX11_textAt_8 rfl ⟨rfl, Nat.zero_le _⟩ ?_
    exact h0 h1

