/-! The class's play of the events, on its own cells -/
def h_ok (M : mm_M) (nl np ne : Nat) : Prop := nl ≤ 6 ∧ np ≤ 12 ∧ ne ≤ 24 ∧ M 5 1 = nI nl ∧ M 7 4 = nI np ∧ M 14 5 = nI ne ∧ (∀ p, p < np → 0 ≤ (M 9 p).toInt ∧ (M 9 p).toInt < nl)
theorem h_ok.kp {M Y : mm_M} {nl np ne : Nat} (h : h_ok M nl np ne) (hc : ∀ c, c < 20 → Y c = M c) : h_ok Y nl np ne := by
  obtain ⟨h1, h2, h3, h4, h5, h6, h7⟩ := h
  exact ⟨h1, h2, h3, by rw [hc 5 (by decide)]; exact h4, by rw [hc 7 (by decide)]; exact h5, by rw [hc 14 (by decide)]; exact h6, by rw [hc 9 (by decide)]; exact h7⟩
theorem h_ok.li {M : mm_M} {nl np ne : Nat} (h : h_ok M nl np ne) : (M 5 1).toInt = nl := by rw [h.2.2.2.1]; exact mm_ti (by have := h.1; omega)
theorem h_ok.pi {M : mm_M} {nl np ne : Nat} (h : h_ok M nl np ne) : (M 7 4).toInt = np := by rw [h.2.2.2.2.1]; exact mm_ti (by have := h.2.1; omega)
theorem h_ok.ei {M : mm_M} {nl np ne : Nat} (h : h_ok M nl np ne) : (M 14 5).toInt = ne := by rw [h.2.2.2.2.2.1]; exact mm_ti (by have := h.2.2.1; omega)
def h_match (M : mm_M) (a b : Nat) : Bool := decide ((a : Int) < (M 7 4).toInt) && (decide ((b : Int) < (M 7 4).toInt) && (decide (¬ M 8 a = M 8 b) && (decide (M 9 a - M 9 b = 1) || decide (M 9 a - M 9 b = -1))))
def h_mm (M : mm_M) (a b : Nat) : Bool := h_match M a b && (decide (¬ M 24 a = 0) && (decide (¬ M 24 b = 0) && (decide (M 22 a = -1) && decide (M 22 b = -1))))
def h_min (x y : Int32) : Int32 := if y < x then y else x
def h_gain (dd w v : Int32) : Int32 := if dd.toInt < 0 then -h_min (-dd) w else h_min dd v
def h_abs (x : Int32) : Int32 := if 0 ≤ x then x else 0 - x
def h_sh (M : mm_M) (x h : Int32) : Int32 := if 0 ≤ x.toInt ∧ x.toInt < (M 7 4).toInt then (M 10 x.toNatClampNeg + M 11 x.toNatClampNeg) * (1 + h_abs (h - 12)) else 0
def h_hom (M : mm_M) (p : Nat) : Nat := (M 9 p).toNatClampNeg
def h_bnd (M : mm_M) (a : Nat) (y s t : Int32) : mm_M := mm_up (mm_up (mm_up M 22 a y) 25 a s) 26 a t
def h_mar (M : mm_M) (a b : Nat) (dd : Int32) : mm_M :=
  h_bnd (h_bnd (mm_up (mm_up (mm_up M 21 (h_hom M a) (M 21 (h_hom M a) + h_gain dd (M 21 (h_hom M a)) (M 21 (h_hom M b)))) 21 (h_hom M b) ((mm_up M 21 (h_hom M a) (M 21 (h_hom M a) + h_gain dd (M 21 (h_hom M a)) (M 21 (h_hom M b)))) 21 (h_hom M b) - h_gain dd (M 21 (h_hom M a)) (M 21 (h_hom M b)))) 20 11 (if (M 9 a).toInt < (M 9 b).toInt then h_gain dd (M 21 (h_hom M a)) (M 21 (h_hom M b)) else -h_gain dd (M 21 (h_hom M a)) (M 21 (h_hom M b)))) a (nI b) (h_abs (h_gain dd (M 21 (h_hom M a)) (M 21 (h_hom M b)))) (if (h_gain dd (M 21 (h_hom M a)) (M 21 (h_hom M b))).toInt ≤ 0 then M 9 b else M 9 a)) b (nI a) (h_abs (h_gain dd (M 21 (h_hom M a)) (M 21 (h_hom M b)))) (if (h_gain dd (M 21 (h_hom M a)) (M 21 (h_hom M b))).toInt ≤ 0 then M 9 b else M 9 a)
theorem h_match_np {M : mm_M} {a b : Nat} (h : h_match M a b = true) : (a : Int) < (M 7 4).toInt ∧ (b : Int) < (M 7 4).toInt := by
  simp only [h_match, Bool.and_eq_true, decide_eq_true_eq] at h
  exact ⟨h.1, h.2.1⟩
theorem h_mm_match {M : mm_M} {a b : Nat} (h : h_mm M a b = true) : h_match M a b = true := by
  simp only [h_mm, Bool.and_eq_true] at h
  exact h.1
theorem h_ok.hom {M : mm_M} {nl np ne p : Nat} (h : h_ok M nl np ne) (hp : p < np) : M 9 p = nI (h_hom M p) ∧ h_hom M p < nl ∧ 0 ≤ (M 9 p).toInt ∧ (M 9 p).toInt < nl := by
  have h1 := h.2.2.2.2.2.2 p hp
  have h2 := mm_cl h1.1
  exact ⟨mm_nc h1.1, by unfold h_hom; omega, h1⟩

set_option maxHeartbeats 4000000 in
theorem c_X4_areMatch {l : Launch} {G : mm_G} {d : Nat} {M : mm_M} {Q : Int32 → mm_T → mm_M → Prop} {nl np ne : Nat} (hk : h_ok M nl np ne) {x y : Int32} {a b : Nat} (hx : x = nI a) (ha : a < 2147483648) (hy : y = nI b) (hb : b < 2147483648) (ht : h_match M a b = true → Q 1 T0 M) (hf : ¬ (h_match M a b = true) → Q 0 T0 M) : mm_met l G d k_X4_areMatch [.ref 7, .int x, .int y] T0 M (mm_pi Q) := by
  have xi : x.toInt = a := by rw [hx]; exact mm_ti ha
  have yi : y.toInt = b := by rw [hy]; exact mm_ti hb
  have pi := hk.pi
  have n12 := hk.2.1
  refine mm_enter 1 [.ref 7, .int x, .int y, .double 0] o_X4_areMatch rfl rfl ?_
  refine mm_iload_1 1 dX4_areMatch_0 rfl ?_
  refine mm_if_lt 24 4 dX4_areMatch_1 (by decide) rfl (fun h1 => ?_) (fun h1 => ?_)
  · refine mm_iconst 25 0 dX4_areMatch_24 rfl (by decide) ?_
    refine mm_zret dX4_areMatch_25 rfl ⟨rfl, Nat.zero_le _⟩ (Or.inl rfl) ?_
    (try simp only [xi, yi, Int32.lt_iff_toInt_lt, Int32.le_iff_toInt_le, ← Int32.toInt_inj, vp_in_iff, Int32.reduceToInt, mm_t1, mm_t2, mm_t3, mm_t4, mm_t10] at h1)
    refine hf ?_
    unfold h_match
    simp [show ¬ (a : Int) < (M 7 4).toInt by omega]
  · refine mm_iload_1 5 dX4_areMatch_4 rfl ?_
    refine mm_aload_0 6 dX4_areMatch_5 rfl ?_
    refine mm_getI 9 dX4_areMatch_6 f_X4_24 rfl t_7 rfl ?_
    refine mm_ic_ge 24 12 dX4_areMatch_9 (by decide) rfl (fun h2 => ?_) (fun h2 => ?_)
    · refine mm_iconst 25 0 dX4_areMatch_24 rfl (by decide) ?_
      refine mm_zret dX4_areMatch_25 rfl ⟨rfl, Nat.zero_le _⟩ (Or.inl rfl) ?_
      (try simp only [xi, yi, Int32.lt_iff_toInt_lt, Int32.le_iff_toInt_le, ← Int32.toInt_inj, vp_in_iff, Int32.reduceToInt, mm_t1, mm_t2, mm_t3, mm_t4, mm_t10] at h1 h2)
      refine hf ?_
      unfold h_match
      simp [show ¬ (a : Int) < (M 7 4).toInt by omega]
    · refine mm_iload_2 13 dX4_areMatch_12 rfl ?_
      refine mm_if_lt 24 16 dX4_areMatch_13 (by decide) rfl (fun h3 => ?_) (fun h3 => ?_)
      · refine mm_iconst 25 0 dX4_areMatch_24 rfl (by decide) ?_
        refine mm_zret dX4_areMatch_25 rfl ⟨rfl, Nat.zero_le _⟩ (Or.inl rfl) ?_
        (try simp only [xi, yi, Int32.lt_iff_toInt_lt, Int32.le_iff_toInt_le, ← Int32.toInt_inj, vp_in_iff, Int32.reduceToInt, mm_t1, mm_t2, mm_t3, mm_t4, mm_t10] at h1 h2 h3)
        refine hf ?_
        unfold h_match
        simp [show ¬ (b : Int) < (M 7 4).toInt by omega]
      · refine mm_iload_2 17 dX4_areMatch_16 rfl ?_
        refine mm_aload_0 18 dX4_areMatch_17 rfl ?_
        refine mm_getI 21 dX4_areMatch_18 f_X4_24 rfl t_7 rfl ?_
        refine mm_ic_lt 26 24 dX4_areMatch_21 (by decide) rfl (fun h4 => ?_) (fun h4 => ?_)
        · refine mm_aload_0 27 dX4_areMatch_26 rfl ?_
          refine mm_getR 30 dX4_areMatch_27 f_X4_15 rfl t_7 rfl ?_
          refine mm_iload_1 31 dX4_areMatch_30 rfl ?_
          refine mm_ialoadn 32 (a) dX4_areMatch_31 rfl t_9 (by decide) (hx) (by (try simp only [xi, yi, Int32.lt_iff_toInt_lt, Int32.le_iff_toInt_le, ← Int32.toInt_inj, vp_in_iff, Int32.reduceToInt, mm_t1, mm_t2, mm_t3, mm_t4, mm_t10] at h1 h2 h3 h4); omega) ?_
          refine mm_aload_0 33 dX4_areMatch_32 rfl ?_
          refine mm_getR 36 dX4_areMatch_33 f_X4_15 rfl t_7 rfl ?_
          refine mm_iload_2 37 dX4_areMatch_36 rfl ?_
          refine mm_ialoadn 38 (b) dX4_areMatch_37 rfl t_9 (by decide) (hy) (by (try simp only [xi, yi, Int32.lt_iff_toInt_lt, Int32.le_iff_toInt_le, ← Int32.toInt_inj, vp_in_iff, Int32.reduceToInt, mm_t1, mm_t2, mm_t3, mm_t4, mm_t10] at h1 h2 h3 h4); omega) ?_
          refine mm_isub 39 dX4_areMatch_38 rfl ?_
          refine mm_istore_3 40 dX4_areMatch_39 rfl rfl ?_
          refine mm_aload_0 41 dX4_areMatch_40 rfl ?_
          refine mm_getR 44 dX4_areMatch_41 f_X4_9 rfl t_7 rfl ?_
          refine mm_iload_1 45 dX4_areMatch_44 rfl ?_
          refine mm_ialoadn 46 (a) dX4_areMatch_45 rfl t_8 (by decide) (hx) (by (try simp only [xi, yi, Int32.lt_iff_toInt_lt, Int32.le_iff_toInt_le, ← Int32.toInt_inj, vp_in_iff, Int32.reduceToInt, mm_t1, mm_t2, mm_t3, mm_t4, mm_t10] at h1 h2 h3 h4); omega) ?_
          refine mm_aload_0 47 dX4_areMatch_46 rfl ?_
          refine mm_getR 50 dX4_areMatch_47 f_X4_9 rfl t_7 rfl ?_
          refine mm_iload_2 51 dX4_areMatch_50 rfl ?_
          refine mm_ialoadn 52 (b) dX4_areMatch_51 rfl t_8 (by decide) (hy) (by (try simp only [xi, yi, Int32.lt_iff_toInt_lt, Int32.le_iff_toInt_le, ← Int32.toInt_inj, vp_in_iff, Int32.reduceToInt, mm_t1, mm_t2, mm_t3, mm_t4, mm_t10] at h1 h2 h3 h4); omega) ?_
          refine mm_ic_eq 69 55 dX4_areMatch_52 (by decide) rfl (fun h5 => ?_) (fun h5 => ?_)
          · refine mm_iconst 70 0 dX4_areMatch_69 rfl (by decide) ?_
            refine mm_zret dX4_areMatch_70 rfl ⟨rfl, Nat.zero_le _⟩ (Or.inl rfl) ?_
            (try simp only [xi, yi, Int32.lt_iff_toInt_lt, Int32.le_iff_toInt_le, ← Int32.toInt_inj, vp_in_iff, Int32.reduceToInt, mm_t1, mm_t2, mm_t3, mm_t4, mm_t10] at h1 h2 h3 h4)
            refine hf ?_
            unfold h_match
            simp [show (a : Int) < (M 7 4).toInt by omega, show (b : Int) < (M 7 4).toInt by omega, h5]
          · refine mm_iload_3 56 dX4_areMatch_55 rfl ?_
            refine mm_iconst 57 1 dX4_areMatch_56 rfl (by decide) ?_
            refine mm_ic_eq 65 60 dX4_areMatch_57 (by decide) rfl (fun h6 => ?_) (fun h6 => ?_)
            · refine mm_iconst 66 1 dX4_areMatch_65 rfl (by decide) ?_
              refine mm_goto 70 dX4_areMatch_66 (by decide) ?_
              refine mm_zret dX4_areMatch_70 rfl ⟨rfl, Nat.zero_le _⟩ (Or.inr rfl) ?_
              (try simp only [xi, yi, Int32.lt_iff_toInt_lt, Int32.le_iff_toInt_le, ← Int32.toInt_inj, vp_in_iff, Int32.reduceToInt, mm_t1, mm_t2, mm_t3, mm_t4, mm_t10] at h1 h2 h3 h4)
              refine ht ?_
              unfold h_match
              simp [show (a : Int) < (M 7 4).toInt by omega, show (b : Int) < (M 7 4).toInt by omega, h5, h6]
            · refine mm_iload_3 61 dX4_areMatch_60 rfl ?_
              refine mm_iconst 62 (-1) dX4_areMatch_61 rfl (by decide) ?_
              refine mm_ic_ne 69 65 dX4_areMatch_62 (by decide) rfl (fun h7 => ?_) (fun h7 => ?_)
              · refine mm_iconst 70 0 dX4_areMatch_69 rfl (by decide) ?_
                refine mm_zret dX4_areMatch_70 rfl ⟨rfl, Nat.zero_le _⟩ (Or.inl rfl) ?_
                (try simp only [xi, yi, Int32.lt_iff_toInt_lt, Int32.le_iff_toInt_le, ← Int32.toInt_inj, vp_in_iff, Int32.reduceToInt, mm_t1, mm_t2, mm_t3, mm_t4, mm_t10] at h1 h2 h3 h4)
                refine hf ?_
                unfold h_match
                simp [show (a : Int) < (M 7 4).toInt by omega, show (b : Int) < (M 7 4).toInt by omega, h5, h6, h7]
              · refine mm_iconst 66 1 dX4_areMatch_65 rfl (by decide) ?_
                refine mm_goto 70 dX4_areMatch_66 (by decide) ?_
                refine mm_zret dX4_areMatch_70 rfl ⟨rfl, Nat.zero_le _⟩ (Or.inr rfl) ?_
                (try simp only [xi, yi, Int32.lt_iff_toInt_lt, Int32.le_iff_toInt_le, ← Int32.toInt_inj, vp_in_iff, Int32.reduceToInt, mm_t1, mm_t2, mm_t3, mm_t4, mm_t10] at h1 h2 h3 h4)
                refine ht ?_
                unfold h_match
                simp [show (a : Int) < (M 7 4).toInt by omega, show (b : Int) < (M 7 4).toInt by omega, h5, h6, h7]
        · refine mm_iconst 25 0 dX4_areMatch_24 rfl (by decide) ?_
          refine mm_zret dX4_areMatch_25 rfl ⟨rfl, Nat.zero_le _⟩ (Or.inl rfl) ?_
          (try simp only [xi, yi, Int32.lt_iff_toInt_lt, Int32.le_iff_toInt_le, ← Int32.toInt_inj, vp_in_iff, Int32.reduceToInt, mm_t1, mm_t2, mm_t3, mm_t4, mm_t10] at h1 h2 h3 h4)
          refine hf ?_
          unfold h_match
          simp [show ¬ (b : Int) < (M 7 4).toInt by omega]

set_option maxHeartbeats 4000000 in
theorem c_X10_mayMarry {l : Launch} {G : mm_G} {d : Nat} {M : mm_M} {Q : Int32 → mm_T → mm_M → Prop} {nl np ne : Nat} (hk : h_ok M nl np ne) {x y : Int32} {a b : Nat} (hx : x = nI a) (ha : a < 2147483648) (hy : y = nI b) (hb : b < 2147483648) (ht : h_mm M a b = true → Q 1 T0 M) (hf : ¬ (h_mm M a b = true) → Q 0 T0 M) : mm_met l G (d + 1) k_X10_mayMarry [.ref 20, .int x, .int y] T0 M (mm_pi Q) := by
  have pi := hk.pi
  have n12 := hk.2.1
  refine mm_enter 0 [.ref 20, .int x, .int y] o_X10_mayMarry rfl rfl ?_
  refine mm_aload_0 1 dX10_mayMarry_0 rfl ?_
  refine mm_getR 4 dX10_mayMarry_1 f_X10_48 rfl t_20 rfl ?_
  refine mm_iload_1 5 dX10_mayMarry_4 rfl ?_
  refine mm_iload_2 6 dX10_mayMarry_5 rfl ?_
  refine mm_cV2i 9 dX10_mayMarry_6 v_X10_69 rfl t_7 (by decide) rfl rfl (Nat.le_of_ble_eq_true rfl) ⟨rfl, rfl⟩ ⟨Nat.zero_le _, Nat.zero_le _⟩ (c_X4_areMatch hk hx ha hy hb (fun h1 => ?_) (fun h1 => ?_))
  · refine mm_if_eq 54 12 dX10_mayMarry_9 (by decide) rfl (fun h => absurd h (by decide)) (fun _ => ?_)
    refine mm_aload_0 13 dX10_mayMarry_12 rfl ?_
    refine mm_getR 16 dX10_mayMarry_13 f_X10_21 rfl t_20 rfl ?_
    refine mm_iload_1 17 dX10_mayMarry_16 rfl ?_
    refine mm_baloadn 18 (a) dX10_mayMarry_17 rfl t_24 (by decide) (hx) (by have q := h_match_np h1; omega) ?_
    refine mm_if_eq 54 21 dX10_mayMarry_18 (by decide) rfl (fun h2 => ?_) (fun h2 => ?_)
    · refine mm_iconst 55 0 dX10_mayMarry_54 rfl (by decide) ?_
      refine mm_zret dX10_mayMarry_55 rfl ⟨rfl, Nat.zero_le _⟩ (Or.inl rfl) ?_
      refine hf ?_
      unfold h_mm
      simp [h1, h2]
    · refine mm_aload_0 22 dX10_mayMarry_21 rfl ?_
      refine mm_getR 25 dX10_mayMarry_22 f_X10_21 rfl t_20 rfl ?_
      refine mm_iload_2 26 dX10_mayMarry_25 rfl ?_
      refine mm_baloadn 27 (b) dX10_mayMarry_26 rfl t_24 (by decide) (hy) (by have q := h_match_np h1; omega) ?_
      refine mm_if_eq 54 30 dX10_mayMarry_27 (by decide) rfl (fun h3 => ?_) (fun h3 => ?_)
      · refine mm_iconst 55 0 dX10_mayMarry_54 rfl (by decide) ?_
        refine mm_zret dX10_mayMarry_55 rfl ⟨rfl, Nat.zero_le _⟩ (Or.inl rfl) ?_
        refine hf ?_
        unfold h_mm
        simp [h1, h2, h3]
      · refine mm_aload_0 31 dX10_mayMarry_30 rfl ?_
        refine mm_getR 34 dX10_mayMarry_31 f_X10_15 rfl t_20 rfl ?_
        refine mm_iload_1 35 dX10_mayMarry_34 rfl ?_
        refine mm_ialoadn 36 (a) dX10_mayMarry_35 rfl t_22 (by decide) (hx) (by have q := h_match_np h1; omega) ?_
        refine mm_iconst 37 (-1) dX10_mayMarry_36 rfl (by decide) ?_
        refine mm_ic_ne 54 40 dX10_mayMarry_37 (by decide) rfl (fun h4 => ?_) (fun h4 => ?_)
        · refine mm_iconst 55 0 dX10_mayMarry_54 rfl (by decide) ?_
          refine mm_zret dX10_mayMarry_55 rfl ⟨rfl, Nat.zero_le _⟩ (Or.inl rfl) ?_
          refine hf ?_
          unfold h_mm
          simp [h1, h2, h3, h4]
        · refine mm_aload_0 41 dX10_mayMarry_40 rfl ?_
          refine mm_getR 44 dX10_mayMarry_41 f_X10_15 rfl t_20 rfl ?_
          refine mm_iload_2 45 dX10_mayMarry_44 rfl ?_
          refine mm_ialoadn 46 (b) dX10_mayMarry_45 rfl t_22 (by decide) (hy) (by have q := h_match_np h1; omega) ?_
          refine mm_iconst 47 (-1) dX10_mayMarry_46 rfl (by decide) ?_
          refine mm_ic_ne 54 50 dX10_mayMarry_47 (by decide) rfl (fun h5 => ?_) (fun h5 => ?_)
          · refine mm_iconst 55 0 dX10_mayMarry_54 rfl (by decide) ?_
            refine mm_zret dX10_mayMarry_55 rfl ⟨rfl, Nat.zero_le _⟩ (Or.inl rfl) ?_
            refine hf ?_
            unfold h_mm
            simp [h1, h2, h3, h4, h5]
          · refine mm_iconst 51 1 dX10_mayMarry_50 rfl (by decide) ?_
            refine mm_goto 55 dX10_mayMarry_51 (by decide) ?_
            refine mm_zret dX10_mayMarry_55 rfl ⟨rfl, Nat.zero_le _⟩ (Or.inr rfl) ?_
            refine ht ?_
            unfold h_mm
            simp [h1, h2, h3, h4, h5]
  · refine mm_if_eq 54 12 dX10_mayMarry_9 (by decide) rfl (fun _ => ?_) (fun h => absurd h (by decide))
    refine mm_iconst 55 0 dX10_mayMarry_54 rfl (by decide) ?_
    refine mm_zret dX10_mayMarry_55 rfl ⟨rfl, Nat.zero_le _⟩ (Or.inl rfl) ?_
    refine hf ?_
    unfold h_mm
    simp [h1]

set_option maxHeartbeats 4000000 in
theorem c_X4_shadowOf {l : Launch} {G : mm_G} {d : Nat} {M : mm_M} {Q : Int32 → mm_T → mm_M → Prop} {x h0 : Int32} (hb : (M 7 4).toInt ≤ 12) (h : ∀ r, r = h_sh M x h0 → Q r T0 (M)) : mm_met l G (d + 1) k_X4_shadowOf [.ref 7, .int x, .int h0] T0 M (mm_pi Q) := by
  refine mm_enter 0 [.ref 7, .int x, .int h0] o_X4_shadowOf rfl rfl ?_
  refine mm_aload_0 1 dX4_shadowOf_0 rfl ?_
  refine mm_iload_1 2 dX4_shadowOf_1 rfl ?_
  refine mm_cV1i 5 dX4_shadowOf_2 v_X4_31 rfl t_7 (by decide) rfl rfl (Nat.le_of_ble_eq_true rfl) ⟨rfl, rfl⟩ ⟨Nat.zero_le _, Nat.zero_le _⟩ (c_X4_has (fun h1 => ?_) (fun h1 => ?_))
  · refine mm_if_eq 34 8 dX4_shadowOf_5 (by decide) rfl (fun h => absurd h (by decide)) (fun _ => ?_)
    refine mm_aload_0 9 dX4_shadowOf_8 rfl ?_
    refine mm_getR 12 dX4_shadowOf_9 f_X4_18 rfl t_7 rfl ?_
    refine mm_iload_1 13 dX4_shadowOf_12 rfl ?_
    refine mm_iaload 14 dX4_shadowOf_13 rfl t_10 (by try simp only [Int32.lt_iff_toInt_lt, Int32.le_iff_toInt_le, ← Int32.toInt_inj, vp_in_iff, Int32.reduceToInt, mm_t1, mm_t2, mm_t3, mm_t4, mm_t10] at hb h1 ⊢; omega) ?_
    refine mm_aload_0 15 dX4_shadowOf_14 rfl ?_
    refine mm_getR 18 dX4_shadowOf_15 f_X4_21 rfl t_7 rfl ?_
    refine mm_iload_1 19 dX4_shadowOf_18 rfl ?_
    refine mm_iaload 20 dX4_shadowOf_19 rfl t_11 (by try simp only [Int32.lt_iff_toInt_lt, Int32.le_iff_toInt_le, ← Int32.toInt_inj, vp_in_iff, Int32.reduceToInt, mm_t1, mm_t2, mm_t3, mm_t4, mm_t10] at hb h1 ⊢; omega) ?_
    refine mm_iadd 21 dX4_shadowOf_20 rfl ?_
    refine mm_iconst 22 1 dX4_shadowOf_21 rfl (by decide) ?_
    refine mm_iload_2 23 dX4_shadowOf_22 rfl ?_
    refine mm_bipush 25 12 dX4_shadowOf_23 rfl (by decide) ?_
    refine mm_isub 26 dX4_shadowOf_25 rfl ?_
    refine mm_mabs 29 dX4_shadowOf_26 j_X4_35 rfl (Nat.le_of_ble_eq_true rfl) ⟨Nat.zero_le _, Nat.zero_le _⟩ ?_
    refine mm_iadd 30 dX4_shadowOf_29 rfl ?_
    refine mm_imul 31 dX4_shadowOf_30 rfl ?_
    refine mm_goto 35 dX4_shadowOf_31 (by decide) ?_
    refine mm_iret dX4_shadowOf_35 rfl ⟨rfl, Nat.zero_le _⟩ ?_
    refine h _ ?_
    unfold h_sh h_abs
    rw [if_pos h1]
  · refine mm_if_eq 34 8 dX4_shadowOf_5 (by decide) rfl (fun _ => ?_) (fun h => absurd h (by decide))
    refine mm_iconst 35 0 dX4_shadowOf_34 rfl (by decide) ?_
    refine mm_iret dX4_shadowOf_35 rfl ⟨rfl, Nat.zero_le _⟩ ?_
    refine h _ ?_
    unfold h_sh
    rw [if_neg h1]

set_option maxHeartbeats 4000000 in
theorem c_X10_gain {l : Launch} {G : mm_G} {d : Nat} {M : mm_M} {Q : Int32 → mm_T → mm_M → Prop} {x y z : Int32} (h : ∀ r, r = h_gain x y z → Q r T0 (M)) : mm_met l G (d + 1) k_X10_gain [.int x, .int y, .int z] T0 M (mm_pi Q) := by
  refine mm_enter 0 [.int x, .int y, .int z] o_X10_gain rfl rfl ?_
  refine mm_iload_0 1 dX10_gain_0 rfl ?_
  refine mm_if_lt 12 4 dX10_gain_1 (by decide) rfl (fun h1 => ?_) (fun h1 => ?_)
  · refine mm_iload_0 13 dX10_gain_12 rfl ?_
    refine mm_ineg 14 dX10_gain_13 rfl ?_
    refine mm_iload_1 15 dX10_gain_14 rfl ?_
    refine mm_mmin 18 dX10_gain_15 j_X10_119 rfl (Nat.le_of_ble_eq_true rfl) ⟨Nat.zero_le _, Nat.zero_le _⟩ ?_
    refine mm_ineg 19 dX10_gain_18 rfl ?_
    refine mm_iret dX10_gain_19 rfl ⟨rfl, Nat.zero_le _⟩ ?_
    refine h _ ?_
    (try simp only [Int32.lt_iff_toInt_lt, Int32.le_iff_toInt_le, ← Int32.toInt_inj, vp_in_iff, Int32.reduceToInt, mm_t1, mm_t2, mm_t3, mm_t4, mm_t10] at h1)
    unfold h_gain
    rw [if_pos h1]
    unfold h_min
    rfl
  · refine mm_iload_0 5 dX10_gain_4 rfl ?_
    refine mm_iload_2 6 dX10_gain_5 rfl ?_
    refine mm_mmin 9 dX10_gain_6 j_X10_119 rfl (Nat.le_of_ble_eq_true rfl) ⟨Nat.zero_le _, Nat.zero_le _⟩ ?_
    refine mm_goto 19 dX10_gain_9 (by decide) ?_
    refine mm_iret dX10_gain_19 rfl ⟨rfl, Nat.zero_le _⟩ ?_
    refine h _ ?_
    (try simp only [Int32.lt_iff_toInt_lt, Int32.le_iff_toInt_le, ← Int32.toInt_inj, vp_in_iff, Int32.reduceToInt, mm_t1, mm_t2, mm_t3, mm_t4, mm_t10] at h1)
    unfold h_gain
    rw [if_neg h1]
    unfold h_min
    rfl

set_option maxHeartbeats 4000000 in
theorem c_X10_bind {l : Launch} {G : mm_G} {d : Nat} {M : mm_M} {Q : mm_T → mm_M → Prop} {nl np ne : Nat} (hk : h_ok M nl np ne) {x y s t : Int32} {a : Nat} (hx : x = nI a) (ha : a < np) (h : Q T0 (h_bnd M a y s t)) : mm_met l G (d + 1) k_X10_bind [.ref 20, .int x, .int y, .int s, .int t] T0 M (mm_pv Q) := by
  refine mm_enter 0 [.ref 20, .int x, .int y, .int s, .int t] o_X10_bind rfl rfl ?_
  refine mm_aload_0 1 dX10_bind_0 rfl ?_
  refine mm_getR 4 dX10_bind_1 f_X10_48 rfl t_20 rfl ?_
  refine mm_iload_1 5 dX10_bind_4 rfl ?_
  refine mm_cV1i 8 dX10_bind_5 v_X10_66 rfl t_7 (by decide) rfl rfl (Nat.le_of_ble_eq_true rfl) ⟨rfl, rfl⟩ ⟨Nat.zero_le _, Nat.zero_le _⟩ (c_X4_has (fun h1 => ?_) (fun h1 => ?_))
  · refine mm_if_eq 33 11 dX10_bind_8 (by decide) rfl (fun h => absurd h (by decide)) (fun _ => ?_)
    refine mm_aload_0 12 dX10_bind_11 rfl ?_
    refine mm_getR 15 dX10_bind_12 f_X10_15 rfl t_20 rfl ?_
    refine mm_iload_1 16 dX10_bind_15 rfl ?_
    refine mm_iload_2 17 dX10_bind_16 rfl ?_
    refine mm_iastoren 18 (a) dX10_bind_17 rfl t_22 (by decide) (hx) (by have := hk.2.1; omega) ?_
    refine mm_aload_0 19 dX10_bind_18 rfl ?_
    refine mm_getR 22 dX10_bind_19 f_X10_25 rfl t_20 rfl ?_
    refine mm_iload_1 23 dX10_bind_22 rfl ?_
    refine mm_iload_3 24 dX10_bind_23 rfl ?_
    refine mm_iastoren 25 (a) dX10_bind_24 rfl t_25 (by decide) (hx) (by have := hk.2.1; omega) ?_
    refine mm_aload_0 26 dX10_bind_25 rfl ?_
    refine mm_getR 29 dX10_bind_26 f_X10_28 rfl t_20 rfl ?_
    refine mm_iload_1 30 dX10_bind_29 rfl ?_
    refine mm_iload_4 32 dX10_bind_30 rfl ?_
    refine mm_iastoren 33 (a) dX10_bind_32 rfl t_26 (by decide) (hx) (by have := hk.2.1; omega) ?_
    refine mm_vret dX10_bind_33 rfl ⟨rfl, Nat.zero_le _⟩ ?_
    exact h
  · refine mm_if_eq 33 11 dX10_bind_8 (by decide) rfl (fun _ => ?_) (fun h => absurd h (by decide))
    refine mm_vret dX10_bind_33 rfl ⟨rfl, Nat.zero_le _⟩ ?_
    exfalso
    have pi := hk.pi
    have xi : x.toInt = a := by rw [hx]; exact mm_ti (by have := hk.2.1; omega)
    omega

def s_X10_widthOf (M : mm_M) (p : Int32) : Int32 := if 0 ≤ p.toInt ∧ p.toInt < (M 5 1).toInt then M 21 p.toNatClampNeg else 0

set_option maxHeartbeats 4000000 in
theorem c_X10_widthOf {l : Launch} {G : mm_G} {d : Nat} {M : mm_M} {Q : Int32 → mm_T → mm_M → Prop} {p : Int32} (hb : (M 5 1).toInt ≤ 6) (h : ∀ r, r = s_X10_widthOf M p → Q r T0 (M)) : mm_met l G (d + 1) k_X10_widthOf [.ref 20, .int p] T0 M (mm_pi Q) := by
  refine mm_enter 0 [.ref 20, .int p] o_X10_widthOf rfl rfl ?_
  refine mm_aload_0 1 dX10_widthOf_0 rfl ?_
  refine mm_getR 4 dX10_widthOf_1 f_X10_44 rfl t_20 rfl ?_
  refine mm_iload_1 5 dX10_widthOf_4 rfl ?_
  refine mm_cV1i 8 dX10_widthOf_5 v_X10_60 rfl t_5 (by decide) rfl rfl (Nat.le_of_ble_eq_true rfl) ⟨rfl, rfl⟩ ⟨Nat.zero_le _, Nat.zero_le _⟩ (c_X3_has (fun h1 => ?_) (fun h1 => ?_))
  · refine mm_if_eq 20 11 dX10_widthOf_8 (by decide) rfl (fun h => absurd h (by decide)) (fun _ => ?_)
    refine mm_aload_0 12 dX10_widthOf_11 rfl ?_
    refine mm_getR 15 dX10_widthOf_12 f_X10_9 rfl t_20 rfl ?_
    refine mm_iload_1 16 dX10_widthOf_15 rfl ?_
    refine mm_iaload 17 dX10_widthOf_16 rfl t_21 (by try simp only [Int32.lt_iff_toInt_lt, Int32.le_iff_toInt_le, ← Int32.toInt_inj, vp_in_iff, Int32.reduceToInt, mm_t1, mm_t2, mm_t3, mm_t4, mm_t10] at hb h1 ⊢; omega) ?_
    refine mm_goto 21 dX10_widthOf_17 (by decide) ?_
    refine mm_iret dX10_widthOf_21 rfl ⟨rfl, Nat.zero_le _⟩ ?_
    refine h _ ?_
    unfold s_X10_widthOf
    rw [if_pos h1]
  · refine mm_if_eq 20 11 dX10_widthOf_8 (by decide) rfl (fun _ => ?_) (fun h => absurd h (by decide))
    refine mm_iconst 21 0 dX10_widthOf_20 rfl (by decide) ?_
    refine mm_iret dX10_widthOf_21 rfl ⟨rfl, Nat.zero_le _⟩ ?_
    refine h _ ?_
    unfold s_X10_widthOf
    rw [if_neg h1]

def s_X10_partnerOf (M : mm_M) (p : Int32) : Int32 := if 0 ≤ p.toInt ∧ p.toInt < (M 7 4).toInt then M 22 p.toNatClampNeg else -1

set_option maxHeartbeats 4000000 in
theorem c_X10_partnerOf {l : Launch} {G : mm_G} {d : Nat} {M : mm_M} {Q : Int32 → mm_T → mm_M → Prop} {p : Int32} (hb : (M 7 4).toInt ≤ 12) (h : ∀ r, r = s_X10_partnerOf M p → Q r T0 (M)) : mm_met l G (d + 1) k_X10_partnerOf [.ref 20, .int p] T0 M (mm_pi Q) := by
  refine mm_enter 0 [.ref 20, .int p] o_X10_partnerOf rfl rfl ?_
  refine mm_aload_0 1 dX10_partnerOf_0 rfl ?_
  refine mm_getR 4 dX10_partnerOf_1 f_X10_48 rfl t_20 rfl ?_
  refine mm_iload_1 5 dX10_partnerOf_4 rfl ?_
  refine mm_cV1i 8 dX10_partnerOf_5 v_X10_66 rfl t_7 (by decide) rfl rfl (Nat.le_of_ble_eq_true rfl) ⟨rfl, rfl⟩ ⟨Nat.zero_le _, Nat.zero_le _⟩ (c_X4_has (fun h1 => ?_) (fun h1 => ?_))
  · refine mm_if_eq 20 11 dX10_partnerOf_8 (by decide) rfl (fun h => absurd h (by decide)) (fun _ => ?_)
    refine mm_aload_0 12 dX10_partnerOf_11 rfl ?_
    refine mm_getR 15 dX10_partnerOf_12 f_X10_15 rfl t_20 rfl ?_
    refine mm_iload_1 16 dX10_partnerOf_15 rfl ?_
    refine mm_iaload 17 dX10_partnerOf_16 rfl t_22 (by try simp only [Int32.lt_iff_toInt_lt, Int32.le_iff_toInt_le, ← Int32.toInt_inj, vp_in_iff, Int32.reduceToInt, mm_t1, mm_t2, mm_t3, mm_t4, mm_t10] at hb h1 ⊢; omega) ?_
    refine mm_goto 21 dX10_partnerOf_17 (by decide) ?_
    refine mm_iret dX10_partnerOf_21 rfl ⟨rfl, Nat.zero_le _⟩ ?_
    refine h _ ?_
    unfold s_X10_partnerOf
    rw [if_pos h1]
  · refine mm_if_eq 20 11 dX10_partnerOf_8 (by decide) rfl (fun _ => ?_) (fun h => absurd h (by decide))
    refine mm_iconst 21 (-1) dX10_partnerOf_20 rfl (by decide) ?_
    refine mm_iret dX10_partnerOf_21 rfl ⟨rfl, Nat.zero_le _⟩ ?_
    refine h _ ?_
    unfold s_X10_partnerOf
    rw [if_neg h1]

def s_X10_provinceOf (M : mm_M) (p : Int32) : Int32 := if 0 ≤ p.toInt ∧ p.toInt < (M 7 4).toInt then M 23 p.toNatClampNeg else 0

set_option maxHeartbeats 4000000 in
theorem c_X10_provinceOf {l : Launch} {G : mm_G} {d : Nat} {M : mm_M} {Q : Int32 → mm_T → mm_M → Prop} {p : Int32} (hb : (M 7 4).toInt ≤ 12) (h : ∀ r, r = s_X10_provinceOf M p → Q r T0 (M)) : mm_met l G (d + 1) k_X10_provinceOf [.ref 20, .int p] T0 M (mm_pi Q) := by
  refine mm_enter 0 [.ref 20, .int p] o_X10_provinceOf rfl rfl ?_
  refine mm_aload_0 1 dX10_provinceOf_0 rfl ?_
  refine mm_getR 4 dX10_provinceOf_1 f_X10_48 rfl t_20 rfl ?_
  refine mm_iload_1 5 dX10_provinceOf_4 rfl ?_
  refine mm_cV1i 8 dX10_provinceOf_5 v_X10_66 rfl t_7 (by decide) rfl rfl (Nat.le_of_ble_eq_true rfl) ⟨rfl, rfl⟩ ⟨Nat.zero_le _, Nat.zero_le _⟩ (c_X4_has (fun h1 => ?_) (fun h1 => ?_))
  · refine mm_if_eq 20 11 dX10_provinceOf_8 (by decide) rfl (fun h => absurd h (by decide)) (fun _ => ?_)
    refine mm_aload_0 12 dX10_provinceOf_11 rfl ?_
    refine mm_getR 15 dX10_provinceOf_12 f_X10_18 rfl t_20 rfl ?_
    refine mm_iload_1 16 dX10_provinceOf_15 rfl ?_
    refine mm_iaload 17 dX10_provinceOf_16 rfl t_23 (by try simp only [Int32.lt_iff_toInt_lt, Int32.le_iff_toInt_le, ← Int32.toInt_inj, vp_in_iff, Int32.reduceToInt, mm_t1, mm_t2, mm_t3, mm_t4, mm_t10] at hb h1 ⊢; omega) ?_
    refine mm_goto 21 dX10_provinceOf_17 (by decide) ?_
    refine mm_iret dX10_provinceOf_21 rfl ⟨rfl, Nat.zero_le _⟩ ?_
    refine h _ ?_
    unfold s_X10_provinceOf
    rw [if_pos h1]
  · refine mm_if_eq 20 11 dX10_provinceOf_8 (by decide) rfl (fun _ => ?_) (fun h => absurd h (by decide))
    refine mm_iconst 21 0 dX10_provinceOf_20 rfl (by decide) ?_
    refine mm_iret dX10_provinceOf_21 rfl ⟨rfl, Nat.zero_le _⟩ ?_
    refine h _ ?_
    unfold s_X10_provinceOf
    rw [if_neg h1]

set_option maxHeartbeats 4000000 in
theorem c_X10_isAlive {l : Launch} {G : mm_G} {d : Nat} {M : mm_M} {Q : Int32 → mm_T → mm_M → Prop} {p : Int32} (hb : (M 7 4).toInt ≤ 12) (ht : (0 ≤ p.toInt ∧ p.toInt < (M 7 4).toInt) ∧ ¬ M 24 p.toNatClampNeg = 0 → Q 1 T0 M) (hf : ¬ ((0 ≤ p.toInt ∧ p.toInt < (M 7 4).toInt) ∧ ¬ M 24 p.toNatClampNeg = 0) → Q 0 T0 M) : mm_met l G (d + 1) k_X10_isAlive [.ref 20, .int p] T0 M (mm_pi Q) := by
  refine mm_enter 0 [.ref 20, .int p] o_X10_isAlive rfl rfl ?_
  refine mm_aload_0 1 dX10_isAlive_0 rfl ?_
  refine mm_getR 4 dX10_isAlive_1 f_X10_48 rfl t_20 rfl ?_
  refine mm_iload_1 5 dX10_isAlive_4 rfl ?_
  refine mm_cV1i 8 dX10_isAlive_5 v_X10_66 rfl t_7 (by decide) rfl rfl (Nat.le_of_ble_eq_true rfl) ⟨rfl, rfl⟩ ⟨Nat.zero_le _, Nat.zero_le _⟩ (c_X4_has (fun h1 => ?_) (fun h1 => ?_))
  · refine mm_if_eq 24 11 dX10_isAlive_8 (by decide) rfl (fun h => absurd h (by decide)) (fun _ => ?_)
    refine mm_aload_0 12 dX10_isAlive_11 rfl ?_
    refine mm_getR 15 dX10_isAlive_12 f_X10_21 rfl t_20 rfl ?_
    refine mm_iload_1 16 dX10_isAlive_15 rfl ?_
    refine mm_baload 17 dX10_isAlive_16 rfl t_24 (by try simp only [Int32.lt_iff_toInt_lt, Int32.le_iff_toInt_le, ← Int32.toInt_inj, vp_in_iff, Int32.reduceToInt, mm_t1, mm_t2, mm_t3, mm_t4, mm_t10] at hb h1 ⊢; omega) ?_
    refine mm_if_eq 24 20 dX10_isAlive_17 (by decide) rfl (fun h2 => ?_) (fun h2 => ?_)
    · refine mm_iconst 25 0 dX10_isAlive_24 rfl (by decide) ?_
      refine mm_zret dX10_isAlive_25 rfl ⟨rfl, Nat.zero_le _⟩ (Or.inl rfl) ?_
      exact hf (fun q => q.2 h2)
    · refine mm_iconst 21 1 dX10_isAlive_20 rfl (by decide) ?_
      refine mm_goto 25 dX10_isAlive_21 (by decide) ?_
      refine mm_zret dX10_isAlive_25 rfl ⟨rfl, Nat.zero_le _⟩ (Or.inr rfl) ?_
      exact ht ⟨h1, h2⟩
  · refine mm_if_eq 24 11 dX10_isAlive_8 (by decide) rfl (fun _ => ?_) (fun h => absurd h (by decide))
    refine mm_iconst 25 0 dX10_isAlive_24 rfl (by decide) ?_
    refine mm_zret dX10_isAlive_25 rfl ⟨rfl, Nat.zero_le _⟩ (Or.inl rfl) ?_
    exact hf (fun q => h1 q.1)

set_option maxHeartbeats 4000000 in
theorem c_X10_isFree {l : Launch} {G : mm_G} {d : Nat} {M : mm_M} {Q : Int32 → mm_T → mm_M → Prop} {p : Int32} (hb : (M 7 4).toInt ≤ 12) (ht : (0 ≤ p.toInt ∧ p.toInt < (M 7 4).toInt) ∧ ¬ M 24 p.toNatClampNeg = 0 ∧ M 22 p.toNatClampNeg = -1 → Q 1 T0 M) (hf : ¬ ((0 ≤ p.toInt ∧ p.toInt < (M 7 4).toInt) ∧ ¬ M 24 p.toNatClampNeg = 0 ∧ M 22 p.toNatClampNeg = -1) → Q 0 T0 M) : mm_met l G (d + 1) k_X10_isFree [.ref 20, .int p] T0 M (mm_pi Q) := by
  refine mm_enter 0 [.ref 20, .int p] o_X10_isFree rfl rfl ?_
  refine mm_aload_0 1 dX10_isFree_0 rfl ?_
  refine mm_getR 4 dX10_isFree_1 f_X10_48 rfl t_20 rfl ?_
  refine mm_iload_1 5 dX10_isFree_4 rfl ?_
  refine mm_cV1i 8 dX10_isFree_5 v_X10_66 rfl t_7 (by decide) rfl rfl (Nat.le_of_ble_eq_true rfl) ⟨rfl, rfl⟩ ⟨Nat.zero_le _, Nat.zero_le _⟩ (c_X4_has (fun h1 => ?_) (fun h1 => ?_))
  · refine mm_if_eq 34 11 dX10_isFree_8 (by decide) rfl (fun h => absurd h (by decide)) (fun _ => ?_)
    refine mm_aload_0 12 dX10_isFree_11 rfl ?_
    refine mm_getR 15 dX10_isFree_12 f_X10_21 rfl t_20 rfl ?_
    refine mm_iload_1 16 dX10_isFree_15 rfl ?_
    refine mm_baload 17 dX10_isFree_16 rfl t_24 (by try simp only [Int32.lt_iff_toInt_lt, Int32.le_iff_toInt_le, ← Int32.toInt_inj, vp_in_iff, Int32.reduceToInt, mm_t1, mm_t2, mm_t3, mm_t4, mm_t10] at hb h1 ⊢; omega) ?_
    refine mm_if_eq 34 20 dX10_isFree_17 (by decide) rfl (fun h2 => ?_) (fun h2 => ?_)
    · refine mm_iconst 35 0 dX10_isFree_34 rfl (by decide) ?_
      refine mm_zret dX10_isFree_35 rfl ⟨rfl, Nat.zero_le _⟩ (Or.inl rfl) ?_
      exact hf (fun q => q.2.1 h2)
    · refine mm_aload_0 21 dX10_isFree_20 rfl ?_
      refine mm_getR 24 dX10_isFree_21 f_X10_15 rfl t_20 rfl ?_
      refine mm_iload_1 25 dX10_isFree_24 rfl ?_
      refine mm_iaload 26 dX10_isFree_25 rfl t_22 (by try simp only [Int32.lt_iff_toInt_lt, Int32.le_iff_toInt_le, ← Int32.toInt_inj, vp_in_iff, Int32.reduceToInt, mm_t1, mm_t2, mm_t3, mm_t4, mm_t10] at hb h1 h2 ⊢; omega) ?_
      refine mm_iconst 27 (-1) dX10_isFree_26 rfl (by decide) ?_
      refine mm_ic_ne 34 30 dX10_isFree_27 (by decide) rfl (fun h3 => ?_) (fun h3 => ?_)
      · refine mm_iconst 35 0 dX10_isFree_34 rfl (by decide) ?_
        refine mm_zret dX10_isFree_35 rfl ⟨rfl, Nat.zero_le _⟩ (Or.inl rfl) ?_
        exact hf (fun q => h3 q.2.2)
      · refine mm_iconst 31 1 dX10_isFree_30 rfl (by decide) ?_
        refine mm_goto 35 dX10_isFree_31 (by decide) ?_
        refine mm_zret dX10_isFree_35 rfl ⟨rfl, Nat.zero_le _⟩ (Or.inr rfl) ?_
        exact ht ⟨h1, h2, h3⟩
  · refine mm_if_eq 34 11 dX10_isFree_8 (by decide) rfl (fun _ => ?_) (fun h => absurd h (by decide))
    refine mm_iconst 35 0 dX10_isFree_34 rfl (by decide) ?_
    refine mm_zret dX10_isFree_35 rfl ⟨rfl, Nat.zero_le _⟩ (Or.inl rfl) ?_
    exact hf (fun q => h1 q.1)

set_option maxHeartbeats 4000000 in
theorem c_X10_marry {l : Launch} {G : mm_G} {d : Nat} {M : mm_M} {Q : Int32 → mm_T → mm_M → Prop} {nl np ne : Nat} (hk : h_ok M nl np ne) {x y : Int32} {a b : Nat} (hx : x = nI a) (ha : a < 2147483648) (hy : y = nI b) (hb : b < 2147483648) {dd : Int32} (ht : h_mm M a b = true → Q 1 T0 (h_mar M a b dd)) (hf : ¬ h_mm M a b = true → Q 0 T0 M) : mm_met l G (d + 2) k_X10_marry [.ref 20, .int x, .int y, .int dd] T0 M (mm_pi Q) := by
  have pi := hk.pi
  have n12 := hk.2.1
  have n6 := hk.1
  have li := hk.li
  refine mm_enter 4 [.ref 20, .int x, .int y, .int dd, .double 0, .double 0, .double 0, .double 0] o_X10_marry rfl rfl ?_
  refine mm_aload_0 1 dX10_marry_0 rfl ?_
  refine mm_getR 4 dX10_marry_1 f_X10_48 rfl t_20 rfl ?_
  refine mm_iload_1 5 dX10_marry_4 rfl ?_
  refine mm_cV1i 8 dX10_marry_5 v_X10_77 rfl t_7 (by decide) rfl rfl (Nat.le_of_ble_eq_true rfl) ⟨rfl, rfl⟩ ⟨Nat.zero_le _, Nat.zero_le _⟩ (c_X4_homeOf (by omega) (fun r1 e2 => ?_))
  refine mm_istore_4 10 dX10_marry_8 rfl rfl ?_
  refine mm_aload_0 11 dX10_marry_10 rfl ?_
  refine mm_getR 14 dX10_marry_11 f_X10_48 rfl t_20 rfl ?_
  refine mm_iload_2 15 dX10_marry_14 rfl ?_
  refine mm_cV1i 18 dX10_marry_15 v_X10_77 rfl t_7 (by decide) rfl rfl (Nat.le_of_ble_eq_true rfl) ⟨rfl, rfl⟩ ⟨Nat.zero_le _, Nat.zero_le _⟩ (c_X4_homeOf (by omega) (fun r3 e4 => ?_))
  refine mm_istore_5 20 dX10_marry_18 rfl rfl ?_
  refine mm_aload_0 21 dX10_marry_20 rfl ?_
  refine mm_iload_1 22 dX10_marry_21 rfl ?_
  refine mm_iload_2 23 dX10_marry_22 rfl ?_
  refine mm_cV2i 26 dX10_marry_23 v_X10_125 rfl t_20 (by decide) rfl rfl (Nat.le_of_ble_eq_true rfl) ⟨rfl, rfl⟩ ⟨Nat.zero_le _, Nat.zero_le _⟩ (c_X10_mayMarry hk hx ha hy hb (fun h5 => ?_) (fun h5 => ?_))
  · refine mm_if_eq 53 29 dX10_marry_26 (by decide) rfl (fun h => absurd h (by decide)) (fun _ => ?_)
    have hnp := h_match_np (h_mm_match h5)
    rw [pi] at hnp
    have hA := hk.hom (p := a) (by omega)
    have hB := hk.hom (p := b) (by omega)
    have v1 : r1 = M 9 a := by rw [e2]; unfold s_X4_homeOf; rw [if_pos (by rw [hx, mm_ti ha]; omega), hx, mm_cn ha]
    have v2 : r3 = M 9 b := by rw [e4]; unfold s_X4_homeOf; rw [if_pos (by rw [hy, mm_ti hb]; omega), hy, mm_cn hb]
    subst v1
    subst v2
    refine mm_aload_0 30 dX10_marry_29 rfl ?_
    refine mm_getR 33 dX10_marry_30 f_X10_44 rfl t_20 rfl ?_
    refine mm_iload_4 35 dX10_marry_33 rfl ?_
    refine mm_cV1i 38 dX10_marry_35 v_X10_60 rfl t_5 (by decide) rfl rfl (Nat.le_of_ble_eq_true rfl) ⟨rfl, rfl⟩ ⟨Nat.zero_le _, Nat.zero_le _⟩ (c_X3_has (fun h6 => ?_) (fun h6 => ?_))
    · refine mm_if_eq 53 41 dX10_marry_38 (by decide) rfl (fun h => absurd h (by decide)) (fun _ => ?_)
      refine mm_aload_0 42 dX10_marry_41 rfl ?_
      refine mm_getR 45 dX10_marry_42 f_X10_44 rfl t_20 rfl ?_
      refine mm_iload_5 47 dX10_marry_45 rfl ?_
      refine mm_cV1i 50 dX10_marry_47 v_X10_60 rfl t_5 (by decide) rfl rfl (Nat.le_of_ble_eq_true rfl) ⟨rfl, rfl⟩ ⟨Nat.zero_le _, Nat.zero_le _⟩ (c_X3_has (fun h7 => ?_) (fun h7 => ?_))
      · refine mm_if_ne 55 53 dX10_marry_50 (by decide) rfl (fun _ => ?_) (fun h => absurd h (by decide))
        refine mm_iload_3 56 dX10_marry_55 rfl ?_
        refine mm_aload_0 57 dX10_marry_56 rfl ?_
        refine mm_getR 60 dX10_marry_57 f_X10_9 rfl t_20 rfl ?_
        refine mm_iload_4 62 dX10_marry_60 rfl ?_
        refine mm_ialoadn 63 (h_hom M a) dX10_marry_62 rfl t_21 (by decide) (hA.1) (by omega) ?_
        refine mm_aload_0 64 dX10_marry_63 rfl ?_
        refine mm_getR 67 dX10_marry_64 f_X10_9 rfl t_20 rfl ?_
        refine mm_iload_5 69 dX10_marry_67 rfl ?_
        refine mm_ialoadn 70 (h_hom M b) dX10_marry_69 rfl t_21 (by decide) (hB.1) (by omega) ?_
        refine mm_cS3i 73 dX10_marry_70 v_X10_128 rfl (Nat.le_of_ble_eq_true rfl) ⟨rfl, rfl⟩ ⟨Nat.zero_le _, Nat.zero_le _⟩ (c_X10_gain (fun r8 e9 => ?_))
        refine mm_istore_6 75 dX10_marry_73 rfl rfl ?_
        refine mm_aload_0 76 dX10_marry_75 rfl ?_
        refine mm_getR 79 dX10_marry_76 f_X10_9 rfl t_20 rfl ?_
        refine mm_iload_4 81 dX10_marry_79 rfl ?_
        refine mm_dup2 82 dX10_marry_81 rfl rfl rfl ?_
        refine mm_ialoadn 83 (h_hom M a) dX10_marry_82 rfl t_21 (by decide) (hA.1) (by omega) ?_
        refine mm_iload_6 85 dX10_marry_83 rfl ?_
        refine mm_iadd 86 dX10_marry_85 rfl ?_
        refine mm_iastoren 87 (h_hom M a) dX10_marry_86 rfl t_21 (by decide) (hA.1) (by omega) ?_
        refine mm_aload_0 88 dX10_marry_87 rfl ?_
        refine mm_getR 91 dX10_marry_88 f_X10_9 rfl t_20 rfl ?_
        refine mm_iload_5 93 dX10_marry_91 rfl ?_
        refine mm_dup2 94 dX10_marry_93 rfl rfl rfl ?_
        refine mm_ialoadn 95 (h_hom M b) dX10_marry_94 rfl t_21 (by decide) (hB.1) (by omega) ?_
        refine mm_iload_6 97 dX10_marry_95 rfl ?_
        refine mm_isub 98 dX10_marry_97 rfl ?_
        refine mm_iastoren 99 (h_hom M b) dX10_marry_98 rfl t_21 (by decide) (hB.1) (by omega) ?_
        refine mm_aload_0 100 dX10_marry_99 rfl ?_
        refine mm_iload_4 102 dX10_marry_100 rfl ?_
        refine mm_iload_5 104 dX10_marry_102 rfl ?_
        refine mm_ic_ge 112 107 dX10_marry_104 (by decide) rfl (fun h10 => ?_) (fun h10 => ?_)
        · refine mm_iload_6 114 dX10_marry_112 rfl ?_
          refine mm_ineg 115 dX10_marry_114 rfl ?_
          refine mm_putI 118 dX10_marry_115 p_X10_35 ⟨rfl, rfl⟩ rfl t_20 rfl ?_
          refine mm_iload_6 120 dX10_marry_118 rfl ?_
          refine mm_if_le 128 123 dX10_marry_120 (by decide) rfl (fun h11 => ?_) (fun h11 => ?_)
          · refine mm_iload_5 130 dX10_marry_128 rfl ?_
            refine mm_istore_7 132 dX10_marry_130 rfl rfl ?_
            refine mm_aload_0 133 dX10_marry_132 rfl ?_
            refine mm_iload_1 134 dX10_marry_133 rfl ?_
            refine mm_iload_2 135 dX10_marry_134 rfl ?_
            refine mm_iload_6 137 dX10_marry_135 rfl ?_
            refine mm_mabs 140 dX10_marry_137 j_X10_132 rfl (Nat.le_of_ble_eq_true rfl) ⟨Nat.zero_le _, Nat.zero_le _⟩ ?_
            refine mm_iload_7 142 dX10_marry_140 rfl ?_
            refine mm_cV4v 145 dX10_marry_142 v_X10_135 rfl t_20 (by decide) rfl rfl (Nat.le_of_ble_eq_true rfl) ⟨rfl, rfl⟩ ⟨Nat.zero_le _, Nat.zero_le _⟩ (c_X10_bind (hk.kp (fun c hc => by simp [mm_up, va_up, h_bnd, show c ≠ 20 by omega, show c ≠ 21 by omega, show c ≠ 22 by omega, show c ≠ 25 by omega, show c ≠ 26 by omega])) hx (by omega) ?_)
            refine mm_aload_0 146 dX10_marry_145 rfl ?_
            refine mm_iload_2 147 dX10_marry_146 rfl ?_
            refine mm_iload_1 148 dX10_marry_147 rfl ?_
            refine mm_iload_6 150 dX10_marry_148 rfl ?_
            refine mm_mabs 153 dX10_marry_150 j_X10_132 rfl (Nat.le_of_ble_eq_true rfl) ⟨Nat.zero_le _, Nat.zero_le _⟩ ?_
            refine mm_iload_7 155 dX10_marry_153 rfl ?_
            refine mm_cV4v 158 dX10_marry_155 v_X10_135 rfl t_20 (by decide) rfl rfl (Nat.le_of_ble_eq_true rfl) ⟨rfl, rfl⟩ ⟨Nat.zero_le _, Nat.zero_le _⟩ (c_X10_bind (hk.kp (fun c hc => by simp [mm_up, va_up, h_bnd, show c ≠ 20 by omega, show c ≠ 21 by omega, show c ≠ 22 by omega, show c ≠ 25 by omega, show c ≠ 26 by omega])) hy (by omega) ?_)
            refine mm_iconst 159 1 dX10_marry_158 rfl (by decide) ?_
            refine mm_zret dX10_marry_159 rfl ⟨rfl, Nat.zero_le _⟩ (Or.inr rfl) ?_
            have hh := ht h5
            unfold h_mar at hh
            rw [← e9] at hh
            (try simp only [Int32.lt_iff_toInt_lt, Int32.le_iff_toInt_le, ← Int32.toInt_inj, vp_in_iff, Int32.reduceToInt, mm_t1, mm_t2, mm_t3, mm_t4, mm_t10] at h10 h11)
            rw [if_neg (by omega), if_pos (by omega)] at hh
            unfold h_abs at hh
            rw [← hx, ← hy] at hh
            exact hh
          · refine mm_iload_4 125 dX10_marry_123 rfl ?_
            refine mm_goto 130 dX10_marry_125 (by decide) ?_
            refine mm_istore_7 132 dX10_marry_130 rfl rfl ?_
            refine mm_aload_0 133 dX10_marry_132 rfl ?_
            refine mm_iload_1 134 dX10_marry_133 rfl ?_
            refine mm_iload_2 135 dX10_marry_134 rfl ?_
            refine mm_iload_6 137 dX10_marry_135 rfl ?_
            refine mm_mabs 140 dX10_marry_137 j_X10_132 rfl (Nat.le_of_ble_eq_true rfl) ⟨Nat.zero_le _, Nat.zero_le _⟩ ?_
            refine mm_iload_7 142 dX10_marry_140 rfl ?_
            refine mm_cV4v 145 dX10_marry_142 v_X10_135 rfl t_20 (by decide) rfl rfl (Nat.le_of_ble_eq_true rfl) ⟨rfl, rfl⟩ ⟨Nat.zero_le _, Nat.zero_le _⟩ (c_X10_bind (hk.kp (fun c hc => by simp [mm_up, va_up, h_bnd, show c ≠ 20 by omega, show c ≠ 21 by omega, show c ≠ 22 by omega, show c ≠ 25 by omega, show c ≠ 26 by omega])) hx (by omega) ?_)
            refine mm_aload_0 146 dX10_marry_145 rfl ?_
            refine mm_iload_2 147 dX10_marry_146 rfl ?_
            refine mm_iload_1 148 dX10_marry_147 rfl ?_
            refine mm_iload_6 150 dX10_marry_148 rfl ?_
            refine mm_mabs 153 dX10_marry_150 j_X10_132 rfl (Nat.le_of_ble_eq_true rfl) ⟨Nat.zero_le _, Nat.zero_le _⟩ ?_
            refine mm_iload_7 155 dX10_marry_153 rfl ?_
            refine mm_cV4v 158 dX10_marry_155 v_X10_135 rfl t_20 (by decide) rfl rfl (Nat.le_of_ble_eq_true rfl) ⟨rfl, rfl⟩ ⟨Nat.zero_le _, Nat.zero_le _⟩ (c_X10_bind (hk.kp (fun c hc => by simp [mm_up, va_up, h_bnd, show c ≠ 20 by omega, show c ≠ 21 by omega, show c ≠ 22 by omega, show c ≠ 25 by omega, show c ≠ 26 by omega])) hy (by omega) ?_)
            refine mm_iconst 159 1 dX10_marry_158 rfl (by decide) ?_
            refine mm_zret dX10_marry_159 rfl ⟨rfl, Nat.zero_le _⟩ (Or.inr rfl) ?_
            have hh := ht h5
            unfold h_mar at hh
            rw [← e9] at hh
            (try simp only [Int32.lt_iff_toInt_lt, Int32.le_iff_toInt_le, ← Int32.toInt_inj, vp_in_iff, Int32.reduceToInt, mm_t1, mm_t2, mm_t3, mm_t4, mm_t10] at h10 h11)
            rw [if_neg (by omega), if_neg (by omega)] at hh
            unfold h_abs at hh
            rw [← hx, ← hy] at hh
            exact hh
        · refine mm_iload_6 109 dX10_marry_107 rfl ?_
          refine mm_goto 115 dX10_marry_109 (by decide) ?_
          refine mm_putI 118 dX10_marry_115 p_X10_35 ⟨rfl, rfl⟩ rfl t_20 rfl ?_
          refine mm_iload_6 120 dX10_marry_118 rfl ?_
          refine mm_if_le 128 123 dX10_marry_120 (by decide) rfl (fun h12 => ?_) (fun h12 => ?_)
          · refine mm_iload_5 130 dX10_marry_128 rfl ?_
            refine mm_istore_7 132 dX10_marry_130 rfl rfl ?_
            refine mm_aload_0 133 dX10_marry_132 rfl ?_
            refine mm_iload_1 134 dX10_marry_133 rfl ?_
            refine mm_iload_2 135 dX10_marry_134 rfl ?_
            refine mm_iload_6 137 dX10_marry_135 rfl ?_
            refine mm_mabs 140 dX10_marry_137 j_X10_132 rfl (Nat.le_of_ble_eq_true rfl) ⟨Nat.zero_le _, Nat.zero_le _⟩ ?_
            refine mm_iload_7 142 dX10_marry_140 rfl ?_
            refine mm_cV4v 145 dX10_marry_142 v_X10_135 rfl t_20 (by decide) rfl rfl (Nat.le_of_ble_eq_true rfl) ⟨rfl, rfl⟩ ⟨Nat.zero_le _, Nat.zero_le _⟩ (c_X10_bind (hk.kp (fun c hc => by simp [mm_up, va_up, h_bnd, show c ≠ 20 by omega, show c ≠ 21 by omega, show c ≠ 22 by omega, show c ≠ 25 by omega, show c ≠ 26 by omega])) hx (by omega) ?_)
            refine mm_aload_0 146 dX10_marry_145 rfl ?_
            refine mm_iload_2 147 dX10_marry_146 rfl ?_
            refine mm_iload_1 148 dX10_marry_147 rfl ?_
            refine mm_iload_6 150 dX10_marry_148 rfl ?_
            refine mm_mabs 153 dX10_marry_150 j_X10_132 rfl (Nat.le_of_ble_eq_true rfl) ⟨Nat.zero_le _, Nat.zero_le _⟩ ?_
            refine mm_iload_7 155 dX10_marry_153 rfl ?_
            refine mm_cV4v 158 dX10_marry_155 v_X10_135 rfl t_20 (by decide) rfl rfl (Nat.le_of_ble_eq_true rfl) ⟨rfl, rfl⟩ ⟨Nat.zero_le _, Nat.zero_le _⟩ (c_X10_bind (hk.kp (fun c hc => by simp [mm_up, va_up, h_bnd, show c ≠ 20 by omega, show c ≠ 21 by omega, show c ≠ 22 by omega, show c ≠ 25 by omega, show c ≠ 26 by omega])) hy (by omega) ?_)
            refine mm_iconst 159 1 dX10_marry_158 rfl (by decide) ?_
            refine mm_zret dX10_marry_159 rfl ⟨rfl, Nat.zero_le _⟩ (Or.inr rfl) ?_
            have hh := ht h5
            unfold h_mar at hh
            rw [← e9] at hh
            (try simp only [Int32.lt_iff_toInt_lt, Int32.le_iff_toInt_le, ← Int32.toInt_inj, vp_in_iff, Int32.reduceToInt, mm_t1, mm_t2, mm_t3, mm_t4, mm_t10] at h10 h12)
            rw [if_pos (by omega), if_pos (by omega)] at hh
            unfold h_abs at hh
            rw [← hx, ← hy] at hh
            exact hh
          · refine mm_iload_4 125 dX10_marry_123 rfl ?_
            refine mm_goto 130 dX10_marry_125 (by decide) ?_
            refine mm_istore_7 132 dX10_marry_130 rfl rfl ?_
            refine mm_aload_0 133 dX10_marry_132 rfl ?_
            refine mm_iload_1 134 dX10_marry_133 rfl ?_
            refine mm_iload_2 135 dX10_marry_134 rfl ?_
            refine mm_iload_6 137 dX10_marry_135 rfl ?_
            refine mm_mabs 140 dX10_marry_137 j_X10_132 rfl (Nat.le_of_ble_eq_true rfl) ⟨Nat.zero_le _, Nat.zero_le _⟩ ?_
            refine mm_iload_7 142 dX10_marry_140 rfl ?_
            refine mm_cV4v 145 dX10_marry_142 v_X10_135 rfl t_20 (by decide) rfl rfl (Nat.le_of_ble_eq_true rfl) ⟨rfl, rfl⟩ ⟨Nat.zero_le _, Nat.zero_le _⟩ (c_X10_bind (hk.kp (fun c hc => by simp [mm_up, va_up, h_bnd, show c ≠ 20 by omega, show c ≠ 21 by omega, show c ≠ 22 by omega, show c ≠ 25 by omega, show c ≠ 26 by omega])) hx (by omega) ?_)
            refine mm_aload_0 146 dX10_marry_145 rfl ?_
            refine mm_iload_2 147 dX10_marry_146 rfl ?_
            refine mm_iload_1 148 dX10_marry_147 rfl ?_
            refine mm_iload_6 150 dX10_marry_148 rfl ?_
            refine mm_mabs 153 dX10_marry_150 j_X10_132 rfl (Nat.le_of_ble_eq_true rfl) ⟨Nat.zero_le _, Nat.zero_le _⟩ ?_
            refine mm_iload_7 155 dX10_marry_153 rfl ?_
            refine mm_cV4v 158 dX10_marry_155 v_X10_135 rfl t_20 (by decide) rfl rfl (Nat.le_of_ble_eq_true rfl) ⟨rfl, rfl⟩ ⟨Nat.zero_le _, Nat.zero_le _⟩ (c_X10_bind (hk.kp (fun c hc => by simp [mm_up, va_up, h_bnd, show c ≠ 20 by omega, show c ≠ 21 by omega, show c ≠ 22 by omega, show c ≠ 25 by omega, show c ≠ 26 by omega])) hy (by omega) ?_)
            refine mm_iconst 159 1 dX10_marry_158 rfl (by decide) ?_
            refine mm_zret dX10_marry_159 rfl ⟨rfl, Nat.zero_le _⟩ (Or.inr rfl) ?_
            have hh := ht h5
            unfold h_mar at hh
            rw [← e9] at hh
            (try simp only [Int32.lt_iff_toInt_lt, Int32.le_iff_toInt_le, ← Int32.toInt_inj, vp_in_iff, Int32.reduceToInt, mm_t1, mm_t2, mm_t3, mm_t4, mm_t10] at h10 h12)
            rw [if_pos (by omega), if_neg (by omega)] at hh
            unfold h_abs at hh
            rw [← hx, ← hy] at hh
            exact hh
      · refine mm_if_ne 55 53 dX10_marry_50 (by decide) rfl (fun h => absurd h (by decide)) (fun _ => ?_)
        refine mm_iconst 54 0 dX10_marry_53 rfl (by decide) ?_
        refine mm_zret dX10_marry_54 rfl ⟨rfl, Nat.zero_le _⟩ (Or.inl rfl) ?_
        exfalso
        omega
    · refine mm_if_eq 53 41 dX10_marry_38 (by decide) rfl (fun _ => ?_) (fun h => absurd h (by decide))
      refine mm_iconst 54 0 dX10_marry_53 rfl (by decide) ?_
      refine mm_zret dX10_marry_54 rfl ⟨rfl, Nat.zero_le _⟩ (Or.inl rfl) ?_
      exfalso
      omega
  · refine mm_if_eq 53 29 dX10_marry_26 (by decide) rfl (fun _ => ?_) (fun h => absurd h (by decide))
    refine mm_iconst 54 0 dX10_marry_53 rfl (by decide) ?_
    refine mm_zret dX10_marry_54 rfl ⟨rfl, Nat.zero_le _⟩ (Or.inl rfl) ?_
    exact hf h5

