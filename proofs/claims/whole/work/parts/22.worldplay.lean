def h_wf (M : mm_M) (nl np : Nat) : Prop := ∀ p, p < np → ¬ M 22 p = -1 → (∃ q, q < np ∧ M 22 p = nI q) ∧ ∃ t, t < nl ∧ M 26 p = nI t
def h_dm (M : mm_M) (a : Nat) : Int32 := h_min (M 25 a) (M 21 (M 26 a).toNatClampNeg)
def h_dx (M : mm_M) (a : Nat) : mm_M := mm_up (mm_up (mm_up M 21 (M 26 a).toNatClampNeg (M 21 (M 26 a).toNatClampNeg - h_dm M a)) 22 (M 22 a).toNatClampNeg (-1)) 22 a (-1)
def h_par (M : mm_M) (a : Nat) : mm_M := mm_up (mm_up (h_dx M a) 20 11 (h_dm M a)) 20 10 ((mm_up (h_dx M a) 20 11 (h_dm M a)) 20 10 + (mm_up (h_dx M a) 20 11 (h_dm M a)) 20 11)
def h_die (M : mm_M) (a : Nat) : mm_M :=
  if M 22 a = -1 then mm_up M 24 a 0
  else mm_up (mm_up (h_dx (mm_up M 24 a 0) a) 20 11 (h_dm (mm_up M 24 a 0) a)) 23 (M 22 a).toNatClampNeg ((mm_up (h_dx (mm_up M 24 a 0) a) 20 11 (h_dm (mm_up M 24 a 0) a)) 23 (M 22 a).toNatClampNeg + (mm_up (h_dx (mm_up M 24 a 0) a) 20 11 (h_dm (mm_up M 24 a 0) a)) 20 11)
theorem h_nn {q : Nat} (h : q < 2147483648) : ¬ nI q = -1 := fun e => by
  have e := congrArg Int32.toInt e
  rw [mm_ti h, mm_t1] at e
  omega

set_option maxHeartbeats 4000000 in
theorem c_X10_dissolve {l : Launch} {G : mm_G} {d : Nat} {M : mm_M} {Q : Int32 → mm_T → mm_M → Prop} {nl np ne : Nat} (hk : h_ok M nl np ne) {x : Int32} {a : Nat} (hx : x = nI a) (ha : a < np) {q t : Nat} (hqn : q < np) (hq : M 22 a = nI q) (htn : t < nl) (ht : M 26 a = nI t) (h : ∀ r, r = h_dm M a → Q r T0 (h_dx M a)) : mm_met l G (d + 1) k_X10_dissolve [.ref 20, .int x] T0 M (mm_pi Q) := by
  have pi := hk.pi
  have n12 := hk.2.1
  have n6 := hk.1
  have li := hk.li
  have xi : x.toInt = a := by rw [hx]; exact mm_ti (by omega)
  have wi : (M 22 a).toInt = q := by rw [hq]; exact mm_ti (by omega)
  have ti : (M 26 a).toInt = t := by rw [ht]; exact mm_ti (by omega)
  have qc : (M 22 a).toNatClampNeg = q := by rw [hq]; exact mm_cn (by omega)
  have tc : (M 26 a).toNatClampNeg = t := by rw [ht]; exact mm_cn (by omega)
  refine mm_enter 2 [.ref 20, .int x, .double 0, .double 0] o_X10_dissolve rfl rfl ?_
  refine mm_aload_0 1 dX10_dissolve_0 rfl ?_
  refine mm_getR 4 dX10_dissolve_1 f_X10_48 rfl t_20 rfl ?_
  refine mm_iload_1 5 dX10_dissolve_4 rfl ?_
  refine mm_cV1i 8 dX10_dissolve_5 v_X10_66 rfl t_7 (by decide) rfl rfl (Nat.le_of_ble_eq_true rfl) ⟨rfl, rfl⟩ ⟨Nat.zero_le _, Nat.zero_le _⟩ (c_X4_has (fun h1 => ?_) (fun h1 => ?_))
  · refine mm_if_eq 43 11 dX10_dissolve_8 (by decide) rfl (fun h => absurd h (by decide)) (fun _ => ?_)
    refine mm_aload_0 12 dX10_dissolve_11 rfl ?_
    refine mm_getR 15 dX10_dissolve_12 f_X10_48 rfl t_20 rfl ?_
    refine mm_aload_0 16 dX10_dissolve_15 rfl ?_
    refine mm_getR 19 dX10_dissolve_16 f_X10_15 rfl t_20 rfl ?_
    refine mm_iload_1 20 dX10_dissolve_19 rfl ?_
    refine mm_ialoadn 21 (a) dX10_dissolve_20 rfl t_22 (by decide) (hx) (by omega) ?_
    refine mm_cV1i 24 dX10_dissolve_21 v_X10_66 rfl t_7 (by decide) rfl rfl (Nat.le_of_ble_eq_true rfl) ⟨rfl, rfl⟩ ⟨Nat.zero_le _, Nat.zero_le _⟩ (c_X4_has (fun h2 => ?_) (fun h2 => ?_))
    · refine mm_if_eq 43 27 dX10_dissolve_24 (by decide) rfl (fun h => absurd h (by decide)) (fun _ => ?_)
      refine mm_aload_0 28 dX10_dissolve_27 rfl ?_
      refine mm_getR 31 dX10_dissolve_28 f_X10_44 rfl t_20 rfl ?_
      refine mm_aload_0 32 dX10_dissolve_31 rfl ?_
      refine mm_getR 35 dX10_dissolve_32 f_X10_28 rfl t_20 rfl ?_
      refine mm_iload_1 36 dX10_dissolve_35 rfl ?_
      refine mm_ialoadn 37 (a) dX10_dissolve_36 rfl t_26 (by decide) (hx) (by omega) ?_
      refine mm_cV1i 40 dX10_dissolve_37 v_X10_60 rfl t_5 (by decide) rfl rfl (Nat.le_of_ble_eq_true rfl) ⟨rfl, rfl⟩ ⟨Nat.zero_le _, Nat.zero_le _⟩ (c_X3_has (fun h3 => ?_) (fun h3 => ?_))
      · refine mm_if_ne 45 43 dX10_dissolve_40 (by decide) rfl (fun _ => ?_) (fun h => absurd h (by decide))
        refine mm_aload_0 46 dX10_dissolve_45 rfl ?_
        refine mm_getR 49 dX10_dissolve_46 f_X10_28 rfl t_20 rfl ?_
        refine mm_iload_1 50 dX10_dissolve_49 rfl ?_
        refine mm_ialoadn 51 (a) dX10_dissolve_50 rfl t_26 (by decide) (hx) (by omega) ?_
        refine mm_istore_2 52 dX10_dissolve_51 rfl rfl ?_
        refine mm_aload_0 53 dX10_dissolve_52 rfl ?_
        refine mm_getR 56 dX10_dissolve_53 f_X10_25 rfl t_20 rfl ?_
        refine mm_iload_1 57 dX10_dissolve_56 rfl ?_
        refine mm_ialoadn 58 (a) dX10_dissolve_57 rfl t_25 (by decide) (hx) (by omega) ?_
        refine mm_aload_0 59 dX10_dissolve_58 rfl ?_
        refine mm_getR 62 dX10_dissolve_59 f_X10_9 rfl t_20 rfl ?_
        refine mm_iload_2 63 dX10_dissolve_62 rfl ?_
        refine mm_ialoadn 64 (t) dX10_dissolve_63 rfl t_21 (by decide) (ht) (by omega) ?_
        refine mm_mmin 67 dX10_dissolve_64 j_X10_119 rfl (Nat.le_of_ble_eq_true rfl) ⟨Nat.zero_le _, Nat.zero_le _⟩ ?_
        refine mm_istore_3 68 dX10_dissolve_67 rfl rfl ?_
        refine mm_aload_0 69 dX10_dissolve_68 rfl ?_
        refine mm_getR 72 dX10_dissolve_69 f_X10_9 rfl t_20 rfl ?_
        refine mm_iload_2 73 dX10_dissolve_72 rfl ?_
        refine mm_dup2 74 dX10_dissolve_73 rfl rfl rfl ?_
        refine mm_ialoadn 75 (t) dX10_dissolve_74 rfl t_21 (by decide) (ht) (by omega) ?_
        refine mm_iload_3 76 dX10_dissolve_75 rfl ?_
        refine mm_isub 77 dX10_dissolve_76 rfl ?_
        refine mm_iastoren 78 (t) dX10_dissolve_77 rfl t_21 (by decide) (ht) (by omega) ?_
        refine mm_aload_0 79 dX10_dissolve_78 rfl ?_
        refine mm_getR 82 dX10_dissolve_79 f_X10_15 rfl t_20 rfl ?_
        refine mm_aload_0 83 dX10_dissolve_82 rfl ?_
        refine mm_getR 86 dX10_dissolve_83 f_X10_15 rfl t_20 rfl ?_
        refine mm_iload_1 87 dX10_dissolve_86 rfl ?_
        refine mm_ialoadn 88 (a) dX10_dissolve_87 rfl t_22 (by decide) (hx) (by omega) ?_
        refine mm_iconst 89 (-1) dX10_dissolve_88 rfl (by decide) ?_
        refine mm_iastoren 90 (q) dX10_dissolve_89 rfl t_22 (by decide) (by rw [mm_upn _ _ _ (by decide)]; exact hq) (by omega) ?_
        refine mm_aload_0 91 dX10_dissolve_90 rfl ?_
        refine mm_getR 94 dX10_dissolve_91 f_X10_15 rfl t_20 rfl ?_
        refine mm_iload_1 95 dX10_dissolve_94 rfl ?_
        refine mm_iconst 96 (-1) dX10_dissolve_95 rfl (by decide) ?_
        refine mm_iastoren 97 (a) dX10_dissolve_96 rfl t_22 (by decide) (hx) (by omega) ?_
        refine mm_iload_3 98 dX10_dissolve_97 rfl ?_
        refine mm_iret dX10_dissolve_98 rfl ⟨rfl, Nat.zero_le _⟩ ?_
        have hh := h _ rfl
        unfold h_dx h_dm h_min at hh
        rw [qc, tc] at hh
        exact hh
      · refine mm_if_ne 45 43 dX10_dissolve_40 (by decide) rfl (fun h => absurd h (by decide)) (fun _ => ?_)
        refine mm_iconst 44 0 dX10_dissolve_43 rfl (by decide) ?_
        refine mm_iret dX10_dissolve_44 rfl ⟨rfl, Nat.zero_le _⟩ ?_
        exfalso
        omega
    · refine mm_if_eq 43 27 dX10_dissolve_24 (by decide) rfl (fun _ => ?_) (fun h => absurd h (by decide))
      refine mm_iconst 44 0 dX10_dissolve_43 rfl (by decide) ?_
      refine mm_iret dX10_dissolve_44 rfl ⟨rfl, Nat.zero_le _⟩ ?_
      exfalso
      omega
  · refine mm_if_eq 43 11 dX10_dissolve_8 (by decide) rfl (fun _ => ?_) (fun h => absurd h (by decide))
    refine mm_iconst 44 0 dX10_dissolve_43 rfl (by decide) ?_
    refine mm_iret dX10_dissolve_44 rfl ⟨rfl, Nat.zero_le _⟩ ?_
    exfalso
    omega

set_option maxHeartbeats 4000000 in
theorem c_X10_part {l : Launch} {G : mm_G} {d : Nat} {M : mm_M} {Q : Int32 → mm_T → mm_M → Prop} {nl np ne : Nat} (hk : h_ok M nl np ne) {x : Int32} {a : Nat} (hx : x = nI a) (ha : a < 2147483648) (hw : h_wf M nl np) (kA : a < np → ¬ M 22 a = -1 → Q 1 T0 (h_par M a)) (kB : ¬ (a < np ∧ ¬ M 22 a = -1) → Q 0 T0 M) : mm_met l G (d + 2) k_X10_part [.ref 20, .int x] T0 M (mm_pi Q) := by
  have pi := hk.pi
  have n12 := hk.2.1
  have xi : x.toInt = a := by rw [hx]; exact mm_ti ha
  refine mm_enter 0 [.ref 20, .int x] o_X10_part rfl rfl ?_
  refine mm_aload_0 1 dX10_part_0 rfl ?_
  refine mm_iload_1 2 dX10_part_1 rfl ?_
  refine mm_cV1i 5 dX10_part_2 v_X10_139 rfl t_20 (by decide) rfl rfl (Nat.le_of_ble_eq_true rfl) ⟨rfl, rfl⟩ ⟨Nat.zero_le _, Nat.zero_le _⟩ (c_X10_partnerOf (by omega) (fun r1 e2 => ?_))
  refine mm_iconst 6 (-1) dX10_part_5 rfl (by decide) ?_
  refine mm_ic_ne 11 9 dX10_part_6 (by decide) rfl (fun h3 => ?_) (fun h3 => ?_)
  · have hn : a < np ∧ ¬ M 22 a = -1 := by
      unfold s_X10_partnerOf at e2
      by_cases q : 0 ≤ x.toInt ∧ x.toInt < (M 7 4).toInt
      · rw [if_pos q, hx, mm_cn ha] at e2
        exact ⟨by omega, by rw [← e2]; exact h3⟩
      · rw [if_neg q] at e2
        exact absurd e2 h3
    obtain ⟨⟨q, hqn, hq⟩, t, htn, ht⟩ := hw a hn.1 hn.2
    refine mm_aload_0 12 dX10_part_11 rfl ?_
    refine mm_aload_0 13 dX10_part_12 rfl ?_
    refine mm_iload_1 14 dX10_part_13 rfl ?_
    refine mm_cV1i 17 dX10_part_14 v_X10_142 rfl t_20 (by decide) rfl rfl (Nat.le_of_ble_eq_true rfl) ⟨rfl, rfl⟩ ⟨Nat.zero_le _, Nat.zero_le _⟩ (c_X10_dissolve hk hx hn.1 hqn hq htn ht (fun r4 e5 => ?_))
    refine mm_putI 20 dX10_part_17 p_X10_35 ⟨rfl, rfl⟩ rfl t_20 rfl ?_
    refine mm_aload_0 21 dX10_part_20 rfl ?_
    refine mm_dup 22 dX10_part_21 rfl rfl ?_
    refine mm_getI 25 dX10_part_22 f_X10_31 rfl t_20 rfl ?_
    refine mm_aload_0 26 dX10_part_25 rfl ?_
    refine mm_getI 29 dX10_part_26 f_X10_35 rfl t_20 rfl ?_
    refine mm_iadd 30 dX10_part_29 rfl ?_
    refine mm_putI 33 dX10_part_30 p_X10_31 ⟨rfl, rfl⟩ rfl t_20 rfl ?_
    refine mm_iconst 34 1 dX10_part_33 rfl (by decide) ?_
    refine mm_zret dX10_part_34 rfl ⟨rfl, Nat.zero_le _⟩ (Or.inr rfl) ?_
    have hh := kA hn.1 hn.2
    unfold h_par at hh
    rw [e5]
    exact hh
  · refine mm_iconst 10 0 dX10_part_9 rfl (by decide) ?_
    refine mm_zret dX10_part_10 rfl ⟨rfl, Nat.zero_le _⟩ (Or.inl rfl) ?_
    refine kB (fun q => q.2 ?_)
    unfold s_X10_partnerOf at e2
    rw [if_pos (by omega), hx, mm_cn ha] at e2
    rw [← e2]
    exact h3

set_option maxHeartbeats 4000000 in
theorem c_X10_die {l : Launch} {G : mm_G} {d : Nat} {M : mm_M} {Q : Int32 → mm_T → mm_M → Prop} {nl np ne : Nat} (hk : h_ok M nl np ne) {x : Int32} {a : Nat} (hx : x = nI a) (ha : a < 2147483648) (hw : h_wf M nl np) (kA : a < np → ¬ M 24 a = 0 → Q 1 T0 (h_die M a)) (kB : ¬ (a < np ∧ ¬ M 24 a = 0) → Q 0 T0 M) : mm_met l G (d + 2) k_X10_die [.ref 20, .int x] T0 M (mm_pi Q) := by
  have pi := hk.pi
  have n12 := hk.2.1
  have xi : x.toInt = a := by rw [hx]; exact mm_ti ha
  refine mm_enter 1 [.ref 20, .int x, .double 0] o_X10_die rfl rfl ?_
  refine mm_aload_0 1 dX10_die_0 rfl ?_
  refine mm_iload_1 2 dX10_die_1 rfl ?_
  refine mm_cV1i 5 dX10_die_2 v_X10_145 rfl t_20 (by decide) rfl rfl (Nat.le_of_ble_eq_true rfl) ⟨rfl, rfl⟩ ⟨Nat.zero_le _, Nat.zero_le _⟩ (c_X10_isAlive (by omega) (fun h1 => ?_) (fun h1 => ?_))
  · refine mm_if_ne 10 8 dX10_die_5 (by decide) rfl (fun _ => ?_) (fun h => absurd h (by decide))
    have hn : a < np ∧ ¬ M 24 a = 0 := by
      rw [hx, mm_cn ha, mm_ti ha] at h1
      exact ⟨by omega, h1.2⟩
    refine mm_aload_0 11 dX10_die_10 rfl ?_
    refine mm_getR 14 dX10_die_11 f_X10_15 rfl t_20 rfl ?_
    refine mm_iload_1 15 dX10_die_14 rfl ?_
    refine mm_ialoadn 16 (a) dX10_die_15 rfl t_22 (by decide) (hx) (by omega) ?_
    refine mm_istore_2 17 dX10_die_16 rfl rfl ?_
    refine mm_aload_0 18 dX10_die_17 rfl ?_
    refine mm_getR 21 dX10_die_18 f_X10_21 rfl t_20 rfl ?_
    refine mm_iload_1 22 dX10_die_21 rfl ?_
    refine mm_iconst 23 0 dX10_die_22 rfl (by decide) ?_
    refine mm_bastoren 24 (a) dX10_die_23 rfl t_24 (by decide) (hx) (by omega) rfl ?_
    refine mm_aload_0 25 dX10_die_24 rfl ?_
    refine mm_getR 28 dX10_die_25 f_X10_48 rfl t_20 rfl ?_
    refine mm_iload_2 29 dX10_die_28 rfl ?_
    refine mm_cV1i 32 dX10_die_29 v_X10_66 rfl t_7 (by decide) rfl rfl (Nat.le_of_ble_eq_true rfl) ⟨rfl, rfl⟩ ⟨Nat.zero_le _, Nat.zero_le _⟩ (c_X4_has (fun h2 => ?_) (fun h2 => ?_))
    · refine mm_if_eq 57 35 dX10_die_32 (by decide) rfl (fun h => absurd h (by decide)) (fun _ => ?_)
      rw [mm_upn _ _ _ (by decide), pi] at h2
      have hm : ¬ M 22 a = -1 := fun q => by
        rw [q, mm_t1] at h2
        omega
      obtain ⟨⟨q, hqn, hq⟩, t, htn, ht⟩ := hw a hn.1 hm
      refine mm_aload_0 36 dX10_die_35 rfl ?_
      refine mm_aload_0 37 dX10_die_36 rfl ?_
      refine mm_iload_1 38 dX10_die_37 rfl ?_
      refine mm_cV1i 41 dX10_die_38 v_X10_142 rfl t_20 (by decide) rfl rfl (Nat.le_of_ble_eq_true rfl) ⟨rfl, rfl⟩ ⟨Nat.zero_le _, Nat.zero_le _⟩ (c_X10_dissolve (hk.kp (fun c hc => by rw [mm_upn _ _ _ (by omega)])) hx hn.1 hqn (by rw [mm_upn _ _ _ (by decide)]; exact hq) htn (by rw [mm_upn _ _ _ (by decide)]; exact ht) (fun r3 e4 => ?_))
      refine mm_putI 44 dX10_die_41 p_X10_35 ⟨rfl, rfl⟩ rfl t_20 rfl ?_
      refine mm_aload_0 45 dX10_die_44 rfl ?_
      refine mm_getR 48 dX10_die_45 f_X10_18 rfl t_20 rfl ?_
      refine mm_iload_2 49 dX10_die_48 rfl ?_
      refine mm_dup2 50 dX10_die_49 rfl rfl rfl ?_
      refine mm_ialoadn 51 (q) dX10_die_50 rfl t_23 (by decide) (hq) (by omega) ?_
      refine mm_aload_0 52 dX10_die_51 rfl ?_
      refine mm_getI 55 dX10_die_52 f_X10_35 rfl t_20 rfl ?_
      refine mm_iadd 56 dX10_die_55 rfl ?_
      refine mm_iastoren 57 (q) dX10_die_56 rfl t_23 (by decide) (hq) (by omega) ?_
      refine mm_iconst 58 1 dX10_die_57 rfl (by decide) ?_
      refine mm_zret dX10_die_58 rfl ⟨rfl, Nat.zero_le _⟩ (Or.inr rfl) ?_
      have hh := kA hn.1 hn.2
      unfold h_die at hh
      rw [if_neg hm] at hh
      have qc : (M 22 a).toNatClampNeg = q := by rw [hq]; exact mm_cn (by omega)
      rw [qc] at hh
      rw [e4]
      exact hh
    · refine mm_if_eq 57 35 dX10_die_32 (by decide) rfl (fun _ => ?_) (fun h => absurd h (by decide))
      refine mm_iconst 58 1 dX10_die_57 rfl (by decide) ?_
      refine mm_zret dX10_die_58 rfl ⟨rfl, Nat.zero_le _⟩ (Or.inr rfl) ?_
      have hm : M 22 a = -1 := Classical.byContradiction (fun q => by
        obtain ⟨⟨w, hwn, hw2⟩, -⟩ := hw a hn.1 q
        rw [hw2, mm_ti (by omega), mm_upn _ _ _ (by decide), pi] at h2
        omega)
      have hh := kA hn.1 hn.2
      unfold h_die at hh
      rw [if_pos hm] at hh
      exact hh
  · refine mm_if_ne 10 8 dX10_die_5 (by decide) rfl (fun h => absurd h (by decide)) (fun _ => ?_)
    refine mm_iconst 9 0 dX10_die_8 rfl (by decide) ?_
    refine mm_zret dX10_die_9 rfl ⟨rfl, Nat.zero_le _⟩ (Or.inl rfl) ?_
    refine kB (fun q => h1 ?_)
    rw [hx, mm_cn ha, mm_ti ha]
    exact ⟨by omega, q.2⟩

def s_X6_cloudsIn (M : mm_M) (w : Int32) : Int32 := if 0 ≤ w.toInt ∧ w.toInt ≤ 51 then M 13 w.toNatClampNeg else 0

set_option maxHeartbeats 4000000 in
theorem c_X6_cloudsIn {l : Launch} {G : mm_G} {d : Nat} {M : mm_M} {Q : Int32 → mm_T → mm_M → Prop} {w : Int32} (h : ∀ r, r = s_X6_cloudsIn M w → Q r T0 (M)) : mm_met l G (d + 1) k_X6_cloudsIn [.ref 12, .int w] T0 M (mm_pi Q) := by
  refine mm_enter 0 [.ref 12, .int w] o_X6_cloudsIn rfl rfl ?_
  refine mm_iload_1 1 dX6_cloudsIn_0 rfl ?_
  refine mm_iconst 2 0 dX6_cloudsIn_1 rfl (by decide) ?_
  refine mm_bipush 4 51 dX6_cloudsIn_2 rfl (by decide) ?_
  refine mm_cSN3i 7 dX6_cloudsIn_4 v_X6_15 rfl (Nat.le_of_ble_eq_true rfl) ⟨rfl, rfl⟩ ⟨Nat.zero_le _, Nat.zero_le _⟩ (c_X11_isWithin (fun h1 => ?_) (fun h1 => ?_))
  · refine mm_if_eq 19 10 dX6_cloudsIn_7 (by decide) rfl (fun h => absurd h (by decide)) (fun _ => ?_)
    refine mm_aload_0 11 dX6_cloudsIn_10 rfl ?_
    refine mm_getR 14 dX6_cloudsIn_11 f_X6_9 rfl t_12 rfl ?_
    refine mm_iload_1 15 dX6_cloudsIn_14 rfl ?_
    refine mm_iaload 16 dX6_cloudsIn_15 rfl t_13 (by try simp only [Int32.lt_iff_toInt_lt, Int32.le_iff_toInt_le, ← Int32.toInt_inj, vp_in_iff, Int32.reduceToInt, mm_t1, mm_t2, mm_t3, mm_t4, mm_t10] at h1 ⊢; omega) ?_
    refine mm_goto 20 dX6_cloudsIn_16 (by decide) ?_
    refine mm_iret dX6_cloudsIn_20 rfl ⟨rfl, Nat.zero_le _⟩ ?_
    refine h _ ?_
    unfold s_X6_cloudsIn
    (try simp only [Int32.lt_iff_toInt_lt, Int32.le_iff_toInt_le, ← Int32.toInt_inj, vp_in_iff, Int32.reduceToInt, mm_t1, mm_t2, mm_t3, mm_t4, mm_t10] at h1)
    rw [if_pos h1]
  · refine mm_if_eq 19 10 dX6_cloudsIn_7 (by decide) rfl (fun _ => ?_) (fun h => absurd h (by decide))
    refine mm_iconst 20 0 dX6_cloudsIn_19 rfl (by decide) ?_
    refine mm_iret dX6_cloudsIn_20 rfl ⟨rfl, Nat.zero_le _⟩ ?_
    refine h _ ?_
    unfold s_X6_cloudsIn
    (try simp only [Int32.lt_iff_toInt_lt, Int32.le_iff_toInt_le, ← Int32.toInt_inj, vp_in_iff, Int32.reduceToInt, mm_t1, mm_t2, mm_t3, mm_t4, mm_t10] at h1)
    rw [if_neg h1]

def h_ev (M : mm_M) (e : Nat) : Prop := (0 ≤ (M 16 e).toInt ∧ (M 16 e).toInt ≤ 2) ∧ (0 ≤ (M 15 e).toInt ∧ (M 15 e).toInt ≤ 51) ∧ (0 ≤ (M 17 e).toInt ∧ (M 17 e).toInt ≤ 11) ∧ (M 16 e = 0 → 0 ≤ (M 18 e).toInt ∧ (M 18 e).toInt ≤ 11)
def h_a (M : mm_M) (e : Nat) : Nat := (M 17 e).toNatClampNeg
def h_b (M : mm_M) (e : Nat) : Nat := (M 18 e).toNatClampNeg
def h_dif (M : mm_M) (e : Nat) : Int32 := if s_X6_cloudsIn M (M 15 e) = 1 then 0 else h_sh M (M 17 e) (M 19 e) - h_sh M (M 18 e) (M 19 e)
def h_law (M : mm_M) (np e : Nat) : Bool := if M 16 e = 0 then h_mm M (h_a M e) (h_b M e) else if M 16 e = 1 then decide (h_a M e < np ∧ ¬ M 22 (h_a M e) = -1) else decide (h_a M e < np ∧ ¬ M 24 (h_a M e) = 0)
def h_do (M : mm_M) (e : Nat) : mm_M := if M 16 e = 0 then h_mar M (h_a M e) (h_b M e) (h_dif M e) else if M 16 e = 1 then h_par M (h_a M e) else h_die M (h_a M e)
def h_no (M : mm_M) (e : Nat) : mm_M := if M 20 13 = -1 then mm_up (mm_up M 20 12 (M 20 12 + 1)) 20 13 (nI e) else mm_up M 20 12 (M 20 12 + 1)
def h_one (M : mm_M) (np e : Nat) : mm_M := if h_law (mm_up M 20 11 0) np e = true then h_do (mm_up M 20 11 0) e else h_no (mm_up M 20 11 0) e
theorem h_ev.a {M : mm_M} {e : Nat} (h : h_ev M e) : M 17 e = nI (h_a M e) ∧ h_a M e < 12 := by
  have h1 := h.2.2.1
  have h2 := mm_cl h1.1
  exact ⟨mm_nc h1.1, by unfold h_a; omega⟩
theorem h_ev.b {M : mm_M} {e : Nat} (h : h_ev M e) (h0 : M 16 e = 0) : M 18 e = nI (h_b M e) ∧ h_b M e < 12 := by
  have h1 := h.2.2.2 h0
  have h2 := mm_cl h1.1
  exact ⟨mm_nc h1.1, by unfold h_b; omega⟩
theorem h_ev.kp {M Y : mm_M} {e : Nat} (h : h_ev M e) (hc : ∀ c, c < 20 → Y c = M c) : h_ev Y e := by
  unfold h_ev at h ⊢
  rw [hc 16 (by decide), hc 15 (by decide), hc 17 (by decide), hc 18 (by decide)]
  exact h
theorem h_wf.kp {M Y : mm_M} {nl np : Nat} (h : h_wf M nl np) (h2 : Y 22 = M 22) (h6 : Y 26 = M 26) : h_wf Y nl np := by
  unfold h_wf at h ⊢
  rw [h2, h6]
  exact h
theorem s_at {M : mm_M} {c : Nat} {n x : Int32} {e ne : Nat} (hn : n = nI ne) (hne : ne < 2147483648) (hx : x = nI e) (he : e < ne) (df : Int32) : (if 0 ≤ x.toInt ∧ x.toInt < n.toInt then M c x.toNatClampNeg else df) = M c e := by
  rw [hx, hn, mm_ti (by omega), mm_ti hne, if_pos (by omega), mm_cn (by omega)]

set_option maxHeartbeats 4000000 in
theorem c_X10_differenceAt {l : Launch} {G : mm_G} {d : Nat} {M : mm_M} {Q : Int32 → mm_T → mm_M → Prop} {nl np ne : Nat} (hk : h_ok M nl np ne) {x : Int32} {e : Nat} (hx : x = nI e) (he : e < ne) (h : ∀ r, r = h_dif M e → Q r T0 (M)) : mm_met l G (d + 2) k_X10_differenceAt [.ref 20, .int x] T0 M (mm_pi Q) := by
  have n24 := hk.2.2.1
  refine mm_enter 1 [.ref 20, .int x, .double 0] o_X10_differenceAt rfl rfl ?_
  refine mm_aload_0 1 dX10_differenceAt_0 rfl ?_
  refine mm_getR 4 dX10_differenceAt_1 f_X10_52 rfl t_20 rfl ?_
  refine mm_aload_0 5 dX10_differenceAt_4 rfl ?_
  refine mm_getR 8 dX10_differenceAt_5 f_X10_56 rfl t_20 rfl ?_
  refine mm_iload_1 9 dX10_differenceAt_8 rfl ?_
  refine mm_cV1i 12 dX10_differenceAt_9 v_X10_148 rfl t_14 (by decide) rfl rfl (Nat.le_of_ble_eq_true rfl) ⟨rfl, rfl⟩ ⟨Nat.zero_le _, Nat.zero_le _⟩ (c_X2_weekOf (by rw [hk.ei]; have := hk.2.2.1; omega) (fun r1 e2 => ?_))
  refine mm_cV1i 15 dX10_differenceAt_12 v_X10_151 rfl t_12 (by decide) rfl rfl (Nat.le_of_ble_eq_true rfl) ⟨rfl, rfl⟩ ⟨Nat.zero_le _, Nat.zero_le _⟩ (c_X6_cloudsIn (fun r3 e4 => ?_))
  refine mm_iconst 16 1 dX10_differenceAt_15 rfl (by decide) ?_
  refine mm_ic_ne 21 19 dX10_differenceAt_16 (by decide) rfl (fun h5 => ?_) (fun h5 => ?_)
  · refine mm_aload_0 22 dX10_differenceAt_21 rfl ?_
    refine mm_getR 25 dX10_differenceAt_22 f_X10_56 rfl t_20 rfl ?_
    refine mm_iload_1 26 dX10_differenceAt_25 rfl ?_
    refine mm_cV1i 29 dX10_differenceAt_26 v_X10_156 rfl t_14 (by decide) rfl rfl (Nat.le_of_ble_eq_true rfl) ⟨rfl, rfl⟩ ⟨Nat.zero_le _, Nat.zero_le _⟩ (c_X2_hourOf (by rw [hk.ei]; have := hk.2.2.1; omega) (fun r6 e7 => ?_))
    refine mm_istore_2 30 dX10_differenceAt_29 rfl rfl ?_
    refine mm_aload_0 31 dX10_differenceAt_30 rfl ?_
    refine mm_getR 34 dX10_differenceAt_31 f_X10_48 rfl t_20 rfl ?_
    refine mm_aload_0 35 dX10_differenceAt_34 rfl ?_
    refine mm_getR 38 dX10_differenceAt_35 f_X10_56 rfl t_20 rfl ?_
    refine mm_iload_1 39 dX10_differenceAt_38 rfl ?_
    refine mm_cV1i 42 dX10_differenceAt_39 v_X10_100 rfl t_14 (by decide) rfl rfl (Nat.le_of_ble_eq_true rfl) ⟨rfl, rfl⟩ ⟨Nat.zero_le _, Nat.zero_le _⟩ (c_X2_oneOf (by rw [hk.ei]; have := hk.2.2.1; omega) (fun r8 e9 => ?_))
    refine mm_iload_2 43 dX10_differenceAt_42 rfl ?_
    refine mm_cV2i 46 dX10_differenceAt_43 v_X10_159 rfl t_7 (by decide) rfl rfl (Nat.le_of_ble_eq_true rfl) ⟨rfl, rfl⟩ ⟨Nat.zero_le _, Nat.zero_le _⟩ (c_X4_shadowOf (by rw [hk.pi]; have := hk.2.1; omega) (fun r10 e11 => ?_))
    refine mm_aload_0 47 dX10_differenceAt_46 rfl ?_
    refine mm_getR 50 dX10_differenceAt_47 f_X10_48 rfl t_20 rfl ?_
    refine mm_aload_0 51 dX10_differenceAt_50 rfl ?_
    refine mm_getR 54 dX10_differenceAt_51 f_X10_56 rfl t_20 rfl ?_
    refine mm_iload_1 55 dX10_differenceAt_54 rfl ?_
    refine mm_cV1i 58 dX10_differenceAt_55 v_X10_103 rfl t_14 (by decide) rfl rfl (Nat.le_of_ble_eq_true rfl) ⟨rfl, rfl⟩ ⟨Nat.zero_le _, Nat.zero_le _⟩ (c_X2_otherOf (by rw [hk.ei]; have := hk.2.2.1; omega) (fun r12 e13 => ?_))
    refine mm_iload_2 59 dX10_differenceAt_58 rfl ?_
    refine mm_cV2i 62 dX10_differenceAt_59 v_X10_159 rfl t_7 (by decide) rfl rfl (Nat.le_of_ble_eq_true rfl) ⟨rfl, rfl⟩ ⟨Nat.zero_le _, Nat.zero_le _⟩ (c_X4_shadowOf (by rw [hk.pi]; have := hk.2.1; omega) (fun r14 e15 => ?_))
    refine mm_isub 63 dX10_differenceAt_62 rfl ?_
    refine mm_iret dX10_differenceAt_63 rfl ⟨rfl, Nat.zero_le _⟩ ?_
    have ve2 : r1 = M 15 e := by rw [e2]; exact s_at hk.2.2.2.2.2.1 (by omega) hx he _
    have ve7 : r6 = M 19 e := by rw [e7]; exact s_at hk.2.2.2.2.2.1 (by omega) hx he _
    have ve9 : r8 = M 17 e := by rw [e9]; exact s_at hk.2.2.2.2.2.1 (by omega) hx he _
    have ve13 : r12 = M 18 e := by rw [e13]; exact s_at hk.2.2.2.2.2.1 (by omega) hx he _
    refine h _ ?_
    unfold h_dif
    rw [← ve2, ← e4, if_neg h5, ← ve7, ← ve9, ← ve13, e11, e15]
  · refine mm_iconst 20 0 dX10_differenceAt_19 rfl (by decide) ?_
    refine mm_iret dX10_differenceAt_20 rfl ⟨rfl, Nat.zero_le _⟩ ?_
    have ve2 : r1 = M 15 e := by rw [e2]; exact s_at hk.2.2.2.2.2.1 (by omega) hx he _
    refine h _ ?_
    unfold h_dif
    rw [← ve2, ← e4, if_pos h5]

theorem h_a_up {M : mm_M} {e f : Nat} {v : Int32} : h_a (mm_up M 20 f v) e = h_a M e := by unfold h_a; rw [mm_upn _ _ _ (by decide)]
theorem h_b_up {M : mm_M} {e f : Nat} {v : Int32} : h_b (mm_up M 20 f v) e = h_b M e := by unfold h_b; rw [mm_upn _ _ _ (by decide)]

set_option maxHeartbeats 4000000 in
theorem c_X10_playOne {l : Launch} {G : mm_G} {d : Nat} {M : mm_M} {Q : mm_T → mm_M → Prop} {nl np ne : Nat} (hk : h_ok M nl np ne) {x : Int32} {e : Nat} (hx : x = nI e) (he : e < ne) (hev : h_ev M e) (hwf : h_wf M nl np) (h : Q T0 (h_one M np e)) : mm_met l G (d + 3) k_X10_playOne [.ref 20, .int x] T0 M (mm_pv Q) := by
  have n24 := hk.2.2.1
  refine mm_enter 1 [.ref 20, .int x, .double 0] o_X10_playOne rfl rfl ?_
  refine mm_aload_0 1 dX10_playOne_0 rfl ?_
  refine mm_iconst 2 0 dX10_playOne_1 rfl (by decide) ?_
  refine mm_putI 5 dX10_playOne_2 p_X10_35 ⟨rfl, rfl⟩ rfl t_20 rfl ?_
  refine mm_iconst 6 0 dX10_playOne_5 rfl (by decide) ?_
  refine mm_istore_2 7 dX10_playOne_6 rfl rfl ?_
  refine mm_aload_0 8 dX10_playOne_7 rfl ?_
  refine mm_getR 11 dX10_playOne_8 f_X10_56 rfl t_20 rfl ?_
  refine mm_iload_1 12 dX10_playOne_11 rfl ?_
  refine mm_cV1i 15 dX10_playOne_12 v_X10_97 rfl t_14 (by decide) rfl rfl (Nat.le_of_ble_eq_true rfl) ⟨rfl, rfl⟩ ⟨Nat.zero_le _, Nat.zero_le _⟩ (c_X2_kindOf (by rw [mm_upn _ _ _ (by decide), hk.ei]; omega) (fun r1 e2 => ?_))
  refine mm_topi (fun s3 e4 => ?_)
  by_cases h5 : s3.toInt = 0
  · skip
    refine mm_lookup 40 dX10_playOne_15 (by decide) (off := 25) (by rw [h5]; rfl) (by decide) ?_
    have ve2 : r1 = M 16 e := by rw [e2]; refine (s_at (hk.kp (Y := mm_up M 20 11 0) (fun c hc => mm_upn _ _ _ (by omega))).2.2.2.2.2.1 (by omega) hx he _).trans ?_; rw [mm_upn _ _ _ (by decide)]
    have hk0 : M 16 e = 0 := by rw [← ve2, ← e4]; exact Int32.toInt_inj.mp h5
    refine mm_aload_0 41 dX10_playOne_40 rfl ?_
    refine mm_aload_0 42 dX10_playOne_41 rfl ?_
    refine mm_getR 45 dX10_playOne_42 f_X10_56 rfl t_20 rfl ?_
    refine mm_iload_1 46 dX10_playOne_45 rfl ?_
    refine mm_cV1i 49 dX10_playOne_46 v_X10_100 rfl t_14 (by decide) rfl rfl (Nat.le_of_ble_eq_true rfl) ⟨rfl, rfl⟩ ⟨Nat.zero_le _, Nat.zero_le _⟩ (c_X2_oneOf (by rw [mm_upn _ _ _ (by decide), hk.ei]; omega) (fun r6 e7 => ?_))
    have ve7 : r6 = M 17 e := by rw [e7]; refine (s_at (hk.kp (Y := mm_up M 20 11 0) (fun c hc => mm_upn _ _ _ (by omega))).2.2.2.2.2.1 (by omega) hx he _).trans ?_; rw [mm_upn _ _ _ (by decide)]
    refine mm_aload_0 50 dX10_playOne_49 rfl ?_
    refine mm_getR 53 dX10_playOne_50 f_X10_56 rfl t_20 rfl ?_
    refine mm_iload_1 54 dX10_playOne_53 rfl ?_
    refine mm_cV1i 57 dX10_playOne_54 v_X10_103 rfl t_14 (by decide) rfl rfl (Nat.le_of_ble_eq_true rfl) ⟨rfl, rfl⟩ ⟨Nat.zero_le _, Nat.zero_le _⟩ (c_X2_otherOf (by rw [mm_upn _ _ _ (by decide), hk.ei]; omega) (fun r8 e9 => ?_))
    have ve9 : r8 = M 18 e := by rw [e9]; refine (s_at (hk.kp (Y := mm_up M 20 11 0) (fun c hc => mm_upn _ _ _ (by omega))).2.2.2.2.2.1 (by omega) hx he _).trans ?_; rw [mm_upn _ _ _ (by decide)]
    refine mm_aload_0 58 dX10_playOne_57 rfl ?_
    refine mm_iload_1 59 dX10_playOne_58 rfl ?_
    refine mm_cV1i 62 dX10_playOne_59 v_X10_106 rfl t_20 (by decide) rfl rfl (Nat.le_of_ble_eq_true rfl) ⟨rfl, rfl⟩ ⟨Nat.zero_le _, Nat.zero_le _⟩ (c_X10_differenceAt (hk.kp (Y := mm_up M 20 11 0) (fun c hc => mm_upn _ _ _ (by omega))) hx he (fun r10 e11 => ?_))
    refine mm_cV3i 65 dX10_playOne_62 v_X10_109 rfl t_20 (by decide) rfl rfl (Nat.le_of_ble_eq_true rfl) ⟨rfl, rfl⟩ ⟨Nat.zero_le _, Nat.zero_le _⟩ (c_X10_marry (hk.kp (Y := mm_up M 20 11 0) (fun c hc => mm_upn _ _ _ (by omega))) (a := h_a M e) (b := h_b M e) (by rw [ve7]; exact hev.a.1) (by have := hev.a.2; omega) (by rw [ve9]; exact (hev.b hk0).1) (by have := (hev.b hk0).2; omega) (fun h12 => ?_) (fun h12 => ?_))
    · refine mm_istore_2 66 dX10_playOne_65 rfl rfl ?_
      refine mm_goto 98 dX10_playOne_66 (by decide) ?_
      refine mm_iload_2 99 dX10_playOne_98 rfl ?_
      refine mm_if_ne 112 102 dX10_playOne_99 (by decide) rfl (fun _ => ?_) (fun h => absurd h (by decide))
      refine mm_iload_2 113 dX10_playOne_112 rfl ?_
      refine mm_if_ne 129 116 dX10_playOne_113 (by decide) rfl (fun _ => ?_) (fun h => absurd h (by decide))
      refine mm_vret dX10_playOne_129 rfl ⟨rfl, Nat.zero_le _⟩ ?_
      have hh := h
      unfold h_one at hh
      rw [if_pos (by unfold h_law; rw [if_pos (by rw [mm_upn _ _ _ (by decide)]; exact hk0)]; rw [h_a_up, h_b_up]; exact h12)] at hh
      unfold h_do at hh
      rw [if_pos (by rw [mm_upn _ _ _ (by decide)]; exact hk0)] at hh
      rw [h_a_up, h_b_up] at hh
      rw [← e11] at hh
      exact hh
    · refine mm_istore_2 66 dX10_playOne_65 rfl rfl ?_
      refine mm_goto 98 dX10_playOne_66 (by decide) ?_
      refine mm_iload_2 99 dX10_playOne_98 rfl ?_
      refine mm_if_ne 112 102 dX10_playOne_99 (by decide) rfl (fun h => absurd h (by decide)) (fun _ => ?_)
      refine mm_aload_0 103 dX10_playOne_102 rfl ?_
      refine mm_dup 104 dX10_playOne_103 rfl rfl ?_
      refine mm_getI 107 dX10_playOne_104 f_X10_38 rfl t_20 rfl ?_
      refine mm_iconst 108 1 dX10_playOne_107 rfl (by decide) ?_
      refine mm_iadd 109 dX10_playOne_108 rfl ?_
      refine mm_putI 112 dX10_playOne_109 p_X10_38 ⟨rfl, rfl⟩ rfl t_20 rfl ?_
      refine mm_iload_2 113 dX10_playOne_112 rfl ?_
      refine mm_if_ne 129 116 dX10_playOne_113 (by decide) rfl (fun h => absurd h (by decide)) (fun _ => ?_)
      refine mm_aload_0 117 dX10_playOne_116 rfl ?_
      refine mm_getI 120 dX10_playOne_117 f_X10_41 rfl t_20 rfl ?_
      refine mm_iconst 121 (-1) dX10_playOne_120 rfl (by decide) ?_
      refine mm_ic_ne 129 124 dX10_playOne_121 (by decide) rfl (fun h13 => ?_) (fun h13 => ?_)
      · refine mm_vret dX10_playOne_129 rfl ⟨rfl, Nat.zero_le _⟩ ?_
        have hh := h
        unfold h_one at hh
        rw [if_neg (by unfold h_law; rw [if_pos (by rw [mm_upn _ _ _ (by decide)]; exact hk0)]; rw [h_a_up, h_b_up]; exact h12)] at hh
        unfold h_no at hh
        have e13 : ∀ v, (mm_up (mm_up M 20 11 0) 20 12 v) 20 13 = (mm_up M 20 11 0) 20 13 := fun v => by simp [mm_up, va_up, upd]
        rw [e13] at h13
        rw [if_neg h13] at hh
        exact hh
      · refine mm_aload_0 125 dX10_playOne_124 rfl ?_
        refine mm_iload_1 126 dX10_playOne_125 rfl ?_
        refine mm_putI 129 dX10_playOne_126 p_X10_41 ⟨rfl, rfl⟩ rfl t_20 rfl ?_
        refine mm_vret dX10_playOne_129 rfl ⟨rfl, Nat.zero_le _⟩ ?_
        have hh := h
        unfold h_one at hh
        rw [if_neg (by unfold h_law; rw [if_pos (by rw [mm_upn _ _ _ (by decide)]; exact hk0)]; rw [h_a_up, h_b_up]; exact h12)] at hh
        unfold h_no at hh
        have e13 : ∀ v, (mm_up (mm_up M 20 11 0) 20 12 v) 20 13 = (mm_up M 20 11 0) 20 13 := fun v => by simp [mm_up, va_up, upd]
        rw [e13] at h13
        rw [if_pos h13] at hh
        rw [hx]
        exact hh
  by_cases h14 : s3.toInt = 1
  · skip
    refine mm_lookup 69 dX10_playOne_15 (by decide) (off := 54) (by rw [h14]; rfl) (by decide) ?_
    have ve2 : r1 = M 16 e := by rw [e2]; refine (s_at (hk.kp (Y := mm_up M 20 11 0) (fun c hc => mm_upn _ _ _ (by omega))).2.2.2.2.2.1 (by omega) hx he _).trans ?_; rw [mm_upn _ _ _ (by decide)]
    have hk0 : ¬ M 16 e = 0 := fun q => by
      apply h5
      rw [e4, ve2, q]
      rfl
    have hk1 : M 16 e = 1 := by rw [← ve2, ← e4]; exact Int32.toInt_inj.mp h14
    refine mm_aload_0 70 dX10_playOne_69 rfl ?_
    refine mm_aload_0 71 dX10_playOne_70 rfl ?_
    refine mm_getR 74 dX10_playOne_71 f_X10_56 rfl t_20 rfl ?_
    refine mm_iload_1 75 dX10_playOne_74 rfl ?_
    refine mm_cV1i 78 dX10_playOne_75 v_X10_100 rfl t_14 (by decide) rfl rfl (Nat.le_of_ble_eq_true rfl) ⟨rfl, rfl⟩ ⟨Nat.zero_le _, Nat.zero_le _⟩ (c_X2_oneOf (by rw [mm_upn _ _ _ (by decide), hk.ei]; omega) (fun r15 e16 => ?_))
    have ve16 : r15 = M 17 e := by rw [e16]; refine (s_at (hk.kp (Y := mm_up M 20 11 0) (fun c hc => mm_upn _ _ _ (by omega))).2.2.2.2.2.1 (by omega) hx he _).trans ?_; rw [mm_upn _ _ _ (by decide)]
    refine mm_cV1i 81 dX10_playOne_78 v_X10_113 rfl t_20 (by decide) rfl rfl (Nat.le_of_ble_eq_true rfl) ⟨rfl, rfl⟩ ⟨Nat.zero_le _, Nat.zero_le _⟩ (c_X10_part (hk.kp (Y := mm_up M 20 11 0) (fun c hc => mm_upn _ _ _ (by omega))) (a := h_a M e) (by rw [ve16]; exact hev.a.1) (by have := hev.a.2; omega) (hwf.kp (mm_upn _ _ _ (by decide)) (mm_upn _ _ _ (by decide))) (fun h17 h18 => ?_) (fun h17 => ?_))
    · refine mm_istore_2 82 dX10_playOne_81 rfl rfl ?_
      refine mm_goto 98 dX10_playOne_82 (by decide) ?_
      refine mm_iload_2 99 dX10_playOne_98 rfl ?_
      refine mm_if_ne 112 102 dX10_playOne_99 (by decide) rfl (fun _ => ?_) (fun h => absurd h (by decide))
      refine mm_iload_2 113 dX10_playOne_112 rfl ?_
      refine mm_if_ne 129 116 dX10_playOne_113 (by decide) rfl (fun _ => ?_) (fun h => absurd h (by decide))
      refine mm_vret dX10_playOne_129 rfl ⟨rfl, Nat.zero_le _⟩ ?_
      have hh := h
      unfold h_one at hh
      rw [if_pos (by unfold h_law; rw [if_neg (by rw [mm_upn _ _ _ (by decide)]; exact hk0), if_pos (by rw [mm_upn _ _ _ (by decide)]; exact hk1)]; rw [h_a_up]; exact decide_eq_true ⟨h17, h18⟩)] at hh
      unfold h_do at hh
      rw [if_neg (by rw [mm_upn _ _ _ (by decide)]; exact hk0), if_pos (by rw [mm_upn _ _ _ (by decide)]; exact hk1)] at hh
      rw [h_a_up] at hh
      exact hh
    · refine mm_istore_2 82 dX10_playOne_81 rfl rfl ?_
      refine mm_goto 98 dX10_playOne_82 (by decide) ?_
      refine mm_iload_2 99 dX10_playOne_98 rfl ?_
      refine mm_if_ne 112 102 dX10_playOne_99 (by decide) rfl (fun h => absurd h (by decide)) (fun _ => ?_)
      refine mm_aload_0 103 dX10_playOne_102 rfl ?_
      refine mm_dup 104 dX10_playOne_103 rfl rfl ?_
      refine mm_getI 107 dX10_playOne_104 f_X10_38 rfl t_20 rfl ?_
      refine mm_iconst 108 1 dX10_playOne_107 rfl (by decide) ?_
      refine mm_iadd 109 dX10_playOne_108 rfl ?_
      refine mm_putI 112 dX10_playOne_109 p_X10_38 ⟨rfl, rfl⟩ rfl t_20 rfl ?_
      refine mm_iload_2 113 dX10_playOne_112 rfl ?_
      refine mm_if_ne 129 116 dX10_playOne_113 (by decide) rfl (fun h => absurd h (by decide)) (fun _ => ?_)
      refine mm_aload_0 117 dX10_playOne_116 rfl ?_
      refine mm_getI 120 dX10_playOne_117 f_X10_41 rfl t_20 rfl ?_
      refine mm_iconst 121 (-1) dX10_playOne_120 rfl (by decide) ?_
      refine mm_ic_ne 129 124 dX10_playOne_121 (by decide) rfl (fun h19 => ?_) (fun h19 => ?_)
      · refine mm_vret dX10_playOne_129 rfl ⟨rfl, Nat.zero_le _⟩ ?_
        have hh := h
        unfold h_one at hh
        rw [if_neg (by unfold h_law; rw [if_neg (by rw [mm_upn _ _ _ (by decide)]; exact hk0), if_pos (by rw [mm_upn _ _ _ (by decide)]; exact hk1)]; rw [h_a_up]; exact fun q => h17 (of_decide_eq_true q))] at hh
        unfold h_no at hh
        have e13 : ∀ v, (mm_up (mm_up M 20 11 0) 20 12 v) 20 13 = (mm_up M 20 11 0) 20 13 := fun v => by simp [mm_up, va_up, upd]
        rw [e13] at h19
        rw [if_neg h19] at hh
        exact hh
      · refine mm_aload_0 125 dX10_playOne_124 rfl ?_
        refine mm_iload_1 126 dX10_playOne_125 rfl ?_
        refine mm_putI 129 dX10_playOne_126 p_X10_41 ⟨rfl, rfl⟩ rfl t_20 rfl ?_
        refine mm_vret dX10_playOne_129 rfl ⟨rfl, Nat.zero_le _⟩ ?_
        have hh := h
        unfold h_one at hh
        rw [if_neg (by unfold h_law; rw [if_neg (by rw [mm_upn _ _ _ (by decide)]; exact hk0), if_pos (by rw [mm_upn _ _ _ (by decide)]; exact hk1)]; rw [h_a_up]; exact fun q => h17 (of_decide_eq_true q))] at hh
        unfold h_no at hh
        have e13 : ∀ v, (mm_up (mm_up M 20 11 0) 20 12 v) 20 13 = (mm_up M 20 11 0) 20 13 := fun v => by simp [mm_up, va_up, upd]
        rw [e13] at h19
        rw [if_pos h19] at hh
        rw [hx]
        exact hh
  refine mm_lookup 85 dX10_playOne_15 (by decide) (off := 70) (by simp [Op.lookupswitch.offset_cons, Op.lookupswitch.offset, Ne.symm h5, Ne.symm h14]) (by decide) ?_
  have ve2 : r1 = M 16 e := by rw [e2]; refine (s_at (hk.kp (Y := mm_up M 20 11 0) (fun c hc => mm_upn _ _ _ (by omega))).2.2.2.2.2.1 (by omega) hx he _).trans ?_; rw [mm_upn _ _ _ (by decide)]
  have hk0 : ¬ M 16 e = 0 := fun q => by
    apply h5
    rw [e4, ve2, q]
    rfl
  have hk1 : ¬ M 16 e = 1 := fun q => by
    apply h14
    rw [e4, ve2, q]
    rfl
  refine mm_aload_0 86 dX10_playOne_85 rfl ?_
  refine mm_aload_0 87 dX10_playOne_86 rfl ?_
  refine mm_getR 90 dX10_playOne_87 f_X10_56 rfl t_20 rfl ?_
  refine mm_iload_1 91 dX10_playOne_90 rfl ?_
  refine mm_cV1i 94 dX10_playOne_91 v_X10_100 rfl t_14 (by decide) rfl rfl (Nat.le_of_ble_eq_true rfl) ⟨rfl, rfl⟩ ⟨Nat.zero_le _, Nat.zero_le _⟩ (c_X2_oneOf (by rw [mm_upn _ _ _ (by decide), hk.ei]; omega) (fun r20 e21 => ?_))
  have ve21 : r20 = M 17 e := by rw [e21]; refine (s_at (hk.kp (Y := mm_up M 20 11 0) (fun c hc => mm_upn _ _ _ (by omega))).2.2.2.2.2.1 (by omega) hx he _).trans ?_; rw [mm_upn _ _ _ (by decide)]
  refine mm_cV1i 97 dX10_playOne_94 v_X10_116 rfl t_20 (by decide) rfl rfl (Nat.le_of_ble_eq_true rfl) ⟨rfl, rfl⟩ ⟨Nat.zero_le _, Nat.zero_le _⟩ (c_X10_die (hk.kp (Y := mm_up M 20 11 0) (fun c hc => mm_upn _ _ _ (by omega))) (a := h_a M e) (by rw [ve21]; exact hev.a.1) (by have := hev.a.2; omega) (hwf.kp (mm_upn _ _ _ (by decide)) (mm_upn _ _ _ (by decide))) (fun h22 h23 => ?_) (fun h22 => ?_))
  · refine mm_istore_2 98 dX10_playOne_97 rfl rfl ?_
    refine mm_iload_2 99 dX10_playOne_98 rfl ?_
    refine mm_if_ne 112 102 dX10_playOne_99 (by decide) rfl (fun _ => ?_) (fun h => absurd h (by decide))
    refine mm_iload_2 113 dX10_playOne_112 rfl ?_
    refine mm_if_ne 129 116 dX10_playOne_113 (by decide) rfl (fun _ => ?_) (fun h => absurd h (by decide))
    refine mm_vret dX10_playOne_129 rfl ⟨rfl, Nat.zero_le _⟩ ?_
    have hh := h
    unfold h_one at hh
    rw [if_pos (by unfold h_law; rw [if_neg (by rw [mm_upn _ _ _ (by decide)]; exact hk0), if_neg (by rw [mm_upn _ _ _ (by decide)]; exact hk1)]; rw [h_a_up]; exact decide_eq_true ⟨h22, h23⟩)] at hh
    unfold h_do at hh
    rw [if_neg (by rw [mm_upn _ _ _ (by decide)]; exact hk0), if_neg (by rw [mm_upn _ _ _ (by decide)]; exact hk1)] at hh
    rw [h_a_up] at hh
    exact hh
  · refine mm_istore_2 98 dX10_playOne_97 rfl rfl ?_
    refine mm_iload_2 99 dX10_playOne_98 rfl ?_
    refine mm_if_ne 112 102 dX10_playOne_99 (by decide) rfl (fun h => absurd h (by decide)) (fun _ => ?_)
    refine mm_aload_0 103 dX10_playOne_102 rfl ?_
    refine mm_dup 104 dX10_playOne_103 rfl rfl ?_
    refine mm_getI 107 dX10_playOne_104 f_X10_38 rfl t_20 rfl ?_
    refine mm_iconst 108 1 dX10_playOne_107 rfl (by decide) ?_
    refine mm_iadd 109 dX10_playOne_108 rfl ?_
    refine mm_putI 112 dX10_playOne_109 p_X10_38 ⟨rfl, rfl⟩ rfl t_20 rfl ?_
    refine mm_iload_2 113 dX10_playOne_112 rfl ?_
    refine mm_if_ne 129 116 dX10_playOne_113 (by decide) rfl (fun h => absurd h (by decide)) (fun _ => ?_)
    refine mm_aload_0 117 dX10_playOne_116 rfl ?_
    refine mm_getI 120 dX10_playOne_117 f_X10_41 rfl t_20 rfl ?_
    refine mm_iconst 121 (-1) dX10_playOne_120 rfl (by decide) ?_
    refine mm_ic_ne 129 124 dX10_playOne_121 (by decide) rfl (fun h24 => ?_) (fun h24 => ?_)
    · refine mm_vret dX10_playOne_129 rfl ⟨rfl, Nat.zero_le _⟩ ?_
      have hh := h
      unfold h_one at hh
      rw [if_neg (by unfold h_law; rw [if_neg (by rw [mm_upn _ _ _ (by decide)]; exact hk0), if_neg (by rw [mm_upn _ _ _ (by decide)]; exact hk1)]; rw [h_a_up]; exact fun q => h22 (of_decide_eq_true q))] at hh
      unfold h_no at hh
      have e13 : ∀ v, (mm_up (mm_up M 20 11 0) 20 12 v) 20 13 = (mm_up M 20 11 0) 20 13 := fun v => by simp [mm_up, va_up, upd]
      rw [e13] at h24
      rw [if_neg h24] at hh
      exact hh
    · refine mm_aload_0 125 dX10_playOne_124 rfl ?_
      refine mm_iload_1 126 dX10_playOne_125 rfl ?_
      refine mm_putI 129 dX10_playOne_126 p_X10_41 ⟨rfl, rfl⟩ rfl t_20 rfl ?_
      refine mm_vret dX10_playOne_129 rfl ⟨rfl, Nat.zero_le _⟩ ?_
      have hh := h
      unfold h_one at hh
      rw [if_neg (by unfold h_law; rw [if_neg (by rw [mm_upn _ _ _ (by decide)]; exact hk0), if_neg (by rw [mm_upn _ _ _ (by decide)]; exact hk1)]; rw [h_a_up]; exact fun q => h22 (of_decide_eq_true q))] at hh
      unfold h_no at hh
      have e13 : ∀ v, (mm_up (mm_up M 20 11 0) 20 12 v) 20 13 = (mm_up M 20 11 0) 20 13 := fun v => by simp [mm_up, va_up, upd]
      rw [e13] at h24
      rw [if_pos h24] at hh
      rw [hx]
      exact hh

