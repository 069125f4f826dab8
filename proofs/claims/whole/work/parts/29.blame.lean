/-! blame and count -/
def z_bl (A : mm_M) (x : Nat) : Nat → Int32 × Int32
  | 0 => (-1, zr A (-1) (a_ne A) 62 x)
  | k + 1 => if (z_bl A x k).2.toInt < (zr A (nI k) (a_ne A) 62 x).toInt then (nI k, zr A (nI k) (a_ne A) 62 x) else z_bl A x k
def z_blame (A : mm_M) (x : Int32) : Int32 := if 0 ≤ x.toInt ∧ x.toInt < a_nl A then (z_bl A x.toNatClampNeg (a_ne A)).1 else -2
def z_cl (A : mm_M) : Nat → Int32
  | 0 => 0
  | k + 1 => z_cl A k + A 60 k
def z_count (A : mm_M) (w : Int32) : Int32 :=
  if w.toInt = 0 then nI (a_nl A) else if w.toInt = 1 then nI (a_np A) else if w.toInt = 2 then A 57 0 else if w.toInt = 3 then A 57 1 else if w.toInt = 4 then nI (a_ne A) else if w.toInt = 5 then zr A (-1) (a_ne A) 51 23 else if w.toInt = 6 then z_cl A 52 else if w.toInt = 7 then nI (a_ns A) else if w.toInt = 8 then A 51 4 else -2
theorem z_bl_p {A : mm_M} {x k : Nat} {r : Int32} (e : r = zr A (nI k) (a_ne A) 62 x) (h : (z_bl A x k).2.toInt < r.toInt) : z_bl A x (k + 1) = (nI k, r) := by
  show (if _ then _ else _) = _
  rw [← e, if_pos h]
theorem z_bl_n {A : mm_M} {x k : Nat} {r : Int32} (e : r = zr A (nI k) (a_ne A) 62 x) (h : ¬ (z_bl A x k).2.toInt < r.toInt) : z_bl A x (k + 1) = z_bl A x k := by
  show (if _ then _ else _) = _
  rw [← e, if_neg h]

set_option maxHeartbeats 4000000 in
theorem w_X12_blameOf {l : Launch} {G : mm_G} {d : Nat} {Q : Int32 → mm_T → mm_M → Prop} {A : mm_M} (hi : iv A) {x : Int32} (hl : 0 ≤ x.toInt ∧ x.toInt < a_nl A) (h : ∀ r M1, r = (z_bl A x.toNatClampNeg (a_ne A)).1 → r_x A M1 → Q r T0 M1) : ∀ (z e : Nat) (Mi : mm_M) {x5 : Value}, a_ne A - e ≤ z → e ≤ a_ne A → r_x A Mi → mm_wp l G (d + 5) k_X12_blameOf (mm_pi Q) 16 [.ref 51, .int x, .int (z_bl A x.toNatClampNeg e).1, .int (z_bl A x.toNatClampNeg e).2, .int (nI e), x5] [] T0 Mi 0 0 := by
  have n6 := hi.1.nl
  have n12 := hi.1.np
  have n24 := hi.1.ne.2
  intro z
  induction z using Nat.strongRecOn with | _ z ih => ?_
  intro e Mi x5 hze hen hq
  have hei : (nI e).toInt = e := mm_ti (by omega)
  have hni : (nI (a_ne A)).toInt = a_ne A := mm_ti (by omega)
  refine mm_iload_4 18 dX12_blameOf_16 rfl ?_
  refine mm_aload_0 19 dX12_blameOf_18 rfl ?_
  refine mm_getI 22 dX12_blameOf_19 f_X12_184 rfl t_51 rfl ?_
  rw [hq.1.2.2.1, hi.1.ne.1]
  refine mm_ic_ge 70 25 dX12_blameOf_22 (by decide) rfl (fun h1 => ?_) (fun h1 => ?_)
  · refine mm_iload_2 71 dX12_blameOf_70 rfl ?_
    refine mm_iret dX12_blameOf_71 rfl ⟨rfl, Nat.zero_le _⟩ ?_
    have hz : e = a_ne A := by (try simp only [hei, hni, Int32.lt_iff_toInt_lt, Int32.le_iff_toInt_le, ← Int32.toInt_inj, vp_in_iff, Int32.reduceToInt, mm_t1, mm_t2, mm_t3, mm_t4, mm_t10] at h1); omega
    rw [hz]
    exact h _ _ rfl hq
  · have hlt : e < a_ne A := by (try simp only [hei, hni, Int32.lt_iff_toInt_lt, Int32.le_iff_toInt_le, ← Int32.toInt_inj, vp_in_iff, Int32.reduceToInt, mm_t1, mm_t2, mm_t3, mm_t4, mm_t10] at h1); omega
    refine mm_aload_0 26 dX12_blameOf_25 rfl ?_
    refine mm_iload_1 27 dX12_blameOf_26 rfl ?_
    refine mm_aload_0 28 dX12_blameOf_27 rfl ?_
    refine mm_getI 31 dX12_blameOf_28 f_X12_184 rfl t_51 rfl ?_
    refine mm_iload_4 33 dX12_blameOf_31 rfl ?_
    refine mm_cV3i 36 dX12_blameOf_33 v_X12_251 rfl t_51 (by decide) rfl rfl (Nat.le_of_ble_eq_true rfl) ⟨rfl, rfl⟩ ⟨Nat.zero_le _, Nat.zero_le _⟩ (c_X12_widthOf hi hq hl (hq.1.2.2.1.trans hi.1.ne.1) (Nat.le_refl _) (fun r2 M2 e2 X2 => ?_))
    refine mm_istore_5 38 dX12_blameOf_36 rfl rfl ?_
    refine mm_iload_5 40 dX12_blameOf_38 rfl ?_
    refine mm_iload_3 41 dX12_blameOf_40 rfl ?_
    refine mm_ic_le 49 44 dX12_blameOf_41 (by decide) rfl (fun h3 => ?_) (fun h3 => ?_)
    · refine mm_iload_2 50 dX12_blameOf_49 rfl ?_
      refine mm_istore_2 51 dX12_blameOf_50 rfl rfl ?_
      refine mm_iload_5 53 dX12_blameOf_51 rfl ?_
      refine mm_iload_3 54 dX12_blameOf_53 rfl ?_
      refine mm_ic_le 62 57 dX12_blameOf_54 (by decide) rfl (fun h4 => ?_) (fun h4 => ?_)
      · refine mm_iload_3 63 dX12_blameOf_62 rfl ?_
        refine mm_istore_3 64 dX12_blameOf_63 rfl rfl ?_
        refine mm_iinc_4 67 1 dX12_blameOf_64 rfl (by decide) rfl ?_
        refine mm_goto 16 dX12_blameOf_67 (by decide) ?_
        rw [nI_1]
        have hh := ih (a_ne A - (e + 1)) (by omega) (e + 1) _ (x5 := .int r2) (Nat.le_refl _) (by omega) X2
        rw [z_bl_n e2 (by (try simp only [Int32.lt_iff_toInt_lt, Int32.le_iff_toInt_le, ← Int32.toInt_inj, vp_in_iff, Int32.reduceToInt, mm_t1, mm_t2, mm_t3, mm_t4, mm_t10] at h3 h4 ⊢); omega)] at hh
        exact hh
      · refine mm_iload_5 59 dX12_blameOf_57 rfl ?_
        refine mm_goto 63 dX12_blameOf_59 (by decide) ?_
        refine mm_istore_3 64 dX12_blameOf_63 rfl rfl ?_
        refine mm_iinc_4 67 1 dX12_blameOf_64 rfl (by decide) rfl ?_
        refine mm_goto 16 dX12_blameOf_67 (by decide) ?_
        exfalso
        (try simp only [Int32.lt_iff_toInt_lt, Int32.le_iff_toInt_le, ← Int32.toInt_inj, vp_in_iff, Int32.reduceToInt, mm_t1, mm_t2, mm_t3, mm_t4, mm_t10] at h3 h4); omega
    · refine mm_iload_4 46 dX12_blameOf_44 rfl ?_
      refine mm_goto 50 dX12_blameOf_46 (by decide) ?_
      refine mm_istore_2 51 dX12_blameOf_50 rfl rfl ?_
      refine mm_iload_5 53 dX12_blameOf_51 rfl ?_
      refine mm_iload_3 54 dX12_blameOf_53 rfl ?_
      refine mm_ic_le 62 57 dX12_blameOf_54 (by decide) rfl (fun h5 => ?_) (fun h5 => ?_)
      · refine mm_iload_3 63 dX12_blameOf_62 rfl ?_
        refine mm_istore_3 64 dX12_blameOf_63 rfl rfl ?_
        refine mm_iinc_4 67 1 dX12_blameOf_64 rfl (by decide) rfl ?_
        refine mm_goto 16 dX12_blameOf_67 (by decide) ?_
        exfalso
        (try simp only [Int32.lt_iff_toInt_lt, Int32.le_iff_toInt_le, ← Int32.toInt_inj, vp_in_iff, Int32.reduceToInt, mm_t1, mm_t2, mm_t3, mm_t4, mm_t10] at h3 h5); omega
      · refine mm_iload_5 59 dX12_blameOf_57 rfl ?_
        refine mm_goto 63 dX12_blameOf_59 (by decide) ?_
        refine mm_istore_3 64 dX12_blameOf_63 rfl rfl ?_
        refine mm_iinc_4 67 1 dX12_blameOf_64 rfl (by decide) rfl ?_
        refine mm_goto 16 dX12_blameOf_67 (by decide) ?_
        rw [nI_1]
        have hh := ih (a_ne A - (e + 1)) (by omega) (e + 1) _ (x5 := .int r2) (Nat.le_refl _) (by omega) X2
        rw [z_bl_p e2 (by (try simp only [Int32.lt_iff_toInt_lt, Int32.le_iff_toInt_le, ← Int32.toInt_inj, vp_in_iff, Int32.reduceToInt, mm_t1, mm_t2, mm_t3, mm_t4, mm_t10] at h3 h5 ⊢); omega)] at hh
        exact hh

set_option maxHeartbeats 4000000 in
theorem c_X12_blameOf {l : Launch} {G : mm_G} {d : Nat} {M : mm_M} {Q : Int32 → mm_T → mm_M → Prop} {A : mm_M} (hi : iv A) (hx : r_x A M) {x : Int32} (hl : 0 ≤ x.toInt ∧ x.toInt < a_nl A) (h : ∀ r M1, r = (z_bl A x.toNatClampNeg (a_ne A)).1 → r_x A M1 → Q r T0 M1) : mm_met l G (d + 5) k_X12_blameOf [.ref 51, .int x] T0 M (mm_pi Q) := by
  have n6 := hi.1.nl
  have n12 := hi.1.np
  have n24 := hi.1.ne.2
  refine mm_enter 4 [.ref 51, .int x, .double 0, .double 0, .double 0, .double 0] o_X12_blameOf rfl rfl ?_
  refine mm_iconst 1 (-1) dX12_blameOf_0 rfl (by decide) ?_
  refine mm_istore_2 2 dX12_blameOf_1 rfl rfl ?_
  refine mm_aload_0 3 dX12_blameOf_2 rfl ?_
  refine mm_iload_1 4 dX12_blameOf_3 rfl ?_
  refine mm_aload_0 5 dX12_blameOf_4 rfl ?_
  refine mm_getI 8 dX12_blameOf_5 f_X12_184 rfl t_51 rfl ?_
  refine mm_iconst 9 (-1) dX12_blameOf_8 rfl (by decide) ?_
  refine mm_cV3i 12 dX12_blameOf_9 v_X12_251 rfl t_51 (by decide) rfl rfl (Nat.le_of_ble_eq_true rfl) ⟨rfl, rfl⟩ ⟨Nat.zero_le _, Nat.zero_le _⟩ (c_X12_widthOf hi hx hl (hx.1.2.2.1.trans hi.1.ne.1) (Nat.le_refl _) (fun r1 M1 e1 X1 => ?_))
  refine mm_istore_3 13 dX12_blameOf_12 rfl rfl ?_
  refine mm_iconst 14 0 dX12_blameOf_13 rfl (by decide) ?_
  refine mm_istore_4 16 dX12_blameOf_14 rfl rfl ?_
  rw [e1]
  exact w_X12_blameOf hi hl h (a_ne A) 0 _ (by omega) (by omega) X1

set_option maxHeartbeats 4000000 in
theorem c_X12_blame {l : Launch} {G : mm_G} {d : Nat} {M : mm_M} {Q : Int32 → mm_T → mm_M → Prop} {A : mm_M} (hi : iv A) (hf : fr A M) {x : Int32} (h : ∀ r M1, r = z_blame A x → fr A M1 → Q r T0 M1) : mm_met l G (d + 6) k_X12_blame [.ref 51, .int x] T0 M (mm_pi Q) := by
  have n6 := hi.1.nl
  have n12 := hi.1.np
  have n24 := hi.1.ne.2
  refine mm_enter 0 [.ref 51, .int x] o_X12_blame rfl rfl ?_
  refine mm_aload_0 1 dX12_blame_0 rfl ?_
  refine mm_iload_1 2 dX12_blame_1 rfl ?_
  refine mm_cV1i 5 dX12_blame_2 v_X12_245 rfl t_51 (by decide) rfl rfl (Nat.le_of_ble_eq_true rfl) ⟨rfl, rfl⟩ ⟨Nat.zero_le _, Nat.zero_le _⟩ (c_X12_isLand hi hf (fun M1 X1 h1 => ?_) (fun M1 X1 h1 => ?_))
  · refine mm_if_eq 16 8 dX12_blame_5 (by decide) rfl (fun h => absurd h (by decide)) (fun _ => ?_)
    refine mm_aload_0 9 dX12_blame_8 rfl ?_
    refine mm_iload_1 10 dX12_blame_9 rfl ?_
    refine mm_cV1i 13 dX12_blame_10 v_X12_312 rfl t_51 (by decide) rfl rfl (Nat.le_of_ble_eq_true rfl) ⟨rfl, rfl⟩ ⟨Nat.zero_le _, Nat.zero_le _⟩ (c_X12_blameOf hi X1 h1 (fun r2 M2 e2 X2 => ?_))
    refine mm_goto 18 dX12_blame_13 (by decide) ?_
    refine mm_iret dX12_blame_18 rfl ⟨rfl, Nat.zero_le _⟩ ?_
    refine h _ _ ?_ X2.1
    unfold z_blame
    rw [if_pos h1]
    exact e2
  · refine mm_if_eq 16 8 dX12_blame_5 (by decide) rfl (fun _ => ?_) (fun h => absurd h (by decide))
    refine mm_bipush 18 (-2) dX12_blame_16 rfl (by decide) ?_
    refine mm_iret dX12_blame_18 rfl ⟨rfl, Nat.zero_le _⟩ ?_
    refine h _ _ ?_ X1.1
    unfold z_blame
    rw [if_neg h1]

set_option maxHeartbeats 4000000 in
theorem w_X11_blame {l : Launch} {G : mm_G} {d : Nat} {Q : Int32 → mm_T → mm_M → Prop} {A : mm_M} (hi : iv A) {x : Int32} (hl : 0 ≤ x.toInt ∧ x.toInt < a_nl A) (h : ∀ r M1, r = (z_bl A x.toNatClampNeg (a_ne A)).1 → fr A M1 → Q r T0 M1) : ∀ (z e : Nat) (Mi : mm_M), a_ne A - e ≤ z → e ≤ a_ne A → fr A Mi → mm_wp l G (d + 5) k_X11_blame (mm_pi Q) 43 [.ref 0, .int x, .int (z_bl A x.toNatClampNeg e).2, .int (z_bl A x.toNatClampNeg e).1, .int (nI e)] [] T0 Mi 0 0 := by
  have n6 := hi.1.nl
  have n12 := hi.1.np
  have n24 := hi.1.ne.2
  intro z
  induction z using Nat.strongRecOn with | _ z ih => ?_
  intro e Mi  hze hen hq
  have hei : (nI e).toInt = e := mm_ti (by omega)
  have hni : (nI (a_ne A)).toInt = a_ne A := mm_ti (by omega)
  refine mm_iload_4 45 dX11_blame_43 rfl ?_
  refine mm_aload_0 46 dX11_blame_45 rfl ?_
  refine mm_getR 49 dX11_blame_46 f_X11_47 rfl t_0 rfl ?_
  refine mm_cV0i 52 dX11_blame_49 v_X11_165 rfl t_14 (by decide) rfl rfl (Nat.le_of_ble_eq_true rfl) ⟨rfl, rfl⟩ ⟨Nat.zero_le _, Nat.zero_le _⟩ (b_eno hi hq (fun r1 e1 => ?_))
  rw [e1]
  refine mm_ic_ge 101 55 dX11_blame_52 (by decide) rfl (fun h2 => ?_) (fun h2 => ?_)
  · refine mm_iload_3 102 dX11_blame_101 rfl ?_
    refine mm_iret dX11_blame_102 rfl ⟨rfl, Nat.zero_le _⟩ ?_
    have hz : e = a_ne A := by (try simp only [hei, hni, Int32.lt_iff_toInt_lt, Int32.le_iff_toInt_le, ← Int32.toInt_inj, vp_in_iff, Int32.reduceToInt, mm_t1, mm_t2, mm_t3, mm_t4, mm_t10] at h2); omega
    rw [hz]
    exact h _ _ rfl hq
  · have hlt : e < a_ne A := by (try simp only [hei, hni, Int32.lt_iff_toInt_lt, Int32.le_iff_toInt_le, ← Int32.toInt_inj, vp_in_iff, Int32.reduceToInt, mm_t1, mm_t2, mm_t3, mm_t4, mm_t10] at h2); omega
    refine mm_aload_0 56 dX11_blame_55 rfl ?_
    refine mm_getR 59 dX11_blame_56 f_X11_56 rfl t_0 rfl ?_
    refine mm_aload_0 60 dX11_blame_59 rfl ?_
    refine mm_getR 63 dX11_blame_60 f_X11_47 rfl t_0 rfl ?_
    refine mm_cV0i 66 dX11_blame_63 v_X11_165 rfl t_14 (by decide) rfl rfl (Nat.le_of_ble_eq_true rfl) ⟨rfl, rfl⟩ ⟨Nat.zero_le _, Nat.zero_le _⟩ (b_eno hi hq (fun r3 e3 => ?_))
    refine mm_iload_4 68 dX11_blame_66 rfl ?_
    refine mm_cV2v 71 dX11_blame_68 v_X11_190 rfl t_20 (by decide) rfl rfl (Nat.le_of_ble_eq_true rfl) ⟨rfl, rfl⟩ ⟨Nat.zero_le _, Nat.zero_le _⟩ (b_play hi hq e3 (Nat.le_refl _) (fun M4 g4 w4 X4 => ?_))
    refine mm_aload_0 72 dX11_blame_71 rfl ?_
    refine mm_getR 75 dX11_blame_72 f_X11_56 rfl t_0 rfl ?_
    refine mm_iload_1 76 dX11_blame_75 rfl ?_
    refine mm_cV1i 79 dX11_blame_76 v_X11_204 rfl t_20 (by decide) rfl rfl (Nat.le_of_ble_eq_true rfl) ⟨rfl, rfl⟩ ⟨Nat.zero_le _, Nat.zero_le _⟩ (b_widthOf hi X4 w4 hl (fun r5 e5 => ?_))
    refine mm_iload_2 80 dX11_blame_79 rfl ?_
    refine mm_ic_le 95 83 dX11_blame_80 (by decide) rfl (fun h6 => ?_) (fun h6 => ?_)
    · refine mm_iinc_4 98 1 dX11_blame_95 rfl (by decide) rfl ?_
      refine mm_goto 43 dX11_blame_98 (by decide) ?_
      rw [nI_1]
      have hh := ih (a_ne A - (e + 1)) (by omega) (e + 1) _ (Nat.le_refl _) (by omega) X4
      rw [z_bl_n e5 (by (try simp only [Int32.lt_iff_toInt_lt, Int32.le_iff_toInt_le, ← Int32.toInt_inj, vp_in_iff, Int32.reduceToInt, mm_t1, mm_t2, mm_t3, mm_t4, mm_t10] at h6 ⊢); omega)] at hh
      exact hh
    · refine mm_aload_0 84 dX11_blame_83 rfl ?_
      refine mm_getR 87 dX11_blame_84 f_X11_56 rfl t_0 rfl ?_
      refine mm_iload_1 88 dX11_blame_87 rfl ?_
      refine mm_cV1i 91 dX11_blame_88 v_X11_204 rfl t_20 (by decide) rfl rfl (Nat.le_of_ble_eq_true rfl) ⟨rfl, rfl⟩ ⟨Nat.zero_le _, Nat.zero_le _⟩ (b_widthOf hi X4 w4 hl (fun r7 e7 => ?_))
      refine mm_istore_2 92 dX11_blame_91 rfl rfl ?_
      refine mm_iload_4 94 dX11_blame_92 rfl ?_
      refine mm_istore_3 95 dX11_blame_94 rfl rfl ?_
      refine mm_iinc_4 98 1 dX11_blame_95 rfl (by decide) rfl ?_
      refine mm_goto 43 dX11_blame_98 (by decide) ?_
      rw [nI_1]
      have hh := ih (a_ne A - (e + 1)) (by omega) (e + 1) _ (Nat.le_refl _) (by omega) X4
      rw [z_bl_p e7 (by rw [e7]; rw [e5] at h6; (try simp only [Int32.lt_iff_toInt_lt, Int32.le_iff_toInt_le, ← Int32.toInt_inj, vp_in_iff, Int32.reduceToInt, mm_t1, mm_t2, mm_t3, mm_t4, mm_t10] at h6 ⊢); omega)] at hh
      exact hh

set_option maxHeartbeats 4000000 in
theorem c_X11_blame {l : Launch} {G : mm_G} {d : Nat} {M : mm_M} {Q : Int32 → mm_T → mm_M → Prop} {A : mm_M} (hi : iv A) (hf : fr A M) {x : Int32} (h : ∀ r M1, r = z_blame A x → fr A M1 → Q r T0 M1) : mm_met l G (d + 5) k_X11_blame [.ref 0, .int x] T0 M (mm_pi Q) := by
  have n6 := hi.1.nl
  have n12 := hi.1.np
  have n24 := hi.1.ne.2
  have hd := hf.vd hi
  have k5 := hd.1.li
  have k7 := hd.1.pi
  have k14 := hd.1.ei
  refine mm_enter 3 [.ref 0, .int x, .double 0, .double 0, .double 0] o_X11_blame rfl rfl ?_
  refine mm_aload_0 1 dX11_blame_0 rfl ?_
  refine mm_getR 4 dX11_blame_1 f_X11_26 rfl t_0 rfl ?_
  refine mm_iload_1 5 dX11_blame_4 rfl ?_
  refine mm_cV1i 8 dX11_blame_5 v_X11_200 rfl t_5 (by decide) rfl rfl (Nat.le_of_ble_eq_true rfl) ⟨rfl, rfl⟩ ⟨Nat.zero_le _, Nat.zero_le _⟩ (c_X3_has  (fun h1 => ?_) (fun h1 => ?_))
  · refine mm_if_ne 14 11 dX11_blame_8 (by decide) rfl (fun _ => ?_) (fun h => absurd h (by decide))
    refine mm_aload_0 15 dX11_blame_14 rfl ?_
    refine mm_getR 18 dX11_blame_15 f_X11_56 rfl t_0 rfl ?_
    refine mm_aload_0 19 dX11_blame_18 rfl ?_
    refine mm_getR 22 dX11_blame_19 f_X11_47 rfl t_0 rfl ?_
    refine mm_cV0i 25 dX11_blame_22 v_X11_165 rfl t_14 (by decide) rfl rfl (Nat.le_of_ble_eq_true rfl) ⟨rfl, rfl⟩ ⟨Nat.zero_le _, Nat.zero_le _⟩ (b_eno hi hf (fun r2 e2 => ?_))
    refine mm_iconst 26 (-1) dX11_blame_25 rfl (by decide) ?_
    refine mm_cV2v 29 dX11_blame_26 v_X11_190 rfl t_20 (by decide) rfl rfl (Nat.le_of_ble_eq_true rfl) ⟨rfl, rfl⟩ ⟨Nat.zero_le _, Nat.zero_le _⟩ (b_play hi hf e2 (Nat.le_refl _) (fun M3 g3 w3 X3 => ?_))
    refine mm_aload_0 30 dX11_blame_29 rfl ?_
    refine mm_getR 33 dX11_blame_30 f_X11_56 rfl t_0 rfl ?_
    refine mm_iload_1 34 dX11_blame_33 rfl ?_
    refine mm_cV1i 37 dX11_blame_34 v_X11_204 rfl t_20 (by decide) rfl rfl (Nat.le_of_ble_eq_true rfl) ⟨rfl, rfl⟩ ⟨Nat.zero_le _, Nat.zero_le _⟩ (b_widthOf hi X3 w3 (by (try simp only [Int32.lt_iff_toInt_lt, Int32.le_iff_toInt_le, ← Int32.toInt_inj, vp_in_iff, Int32.reduceToInt, mm_t1, mm_t2, mm_t3, mm_t4, mm_t10] at h1 k5 k7 k14 ⊢); omega) (fun r4 e4 => ?_))
    refine mm_istore_2 38 dX11_blame_37 rfl rfl ?_
    refine mm_iconst 39 (-1) dX11_blame_38 rfl (by decide) ?_
    refine mm_istore_3 40 dX11_blame_39 rfl rfl ?_
    refine mm_iconst 41 0 dX11_blame_40 rfl (by decide) ?_
    refine mm_istore_4 43 dX11_blame_41 rfl rfl ?_
    have hl : 0 ≤ x.toInt ∧ x.toInt < a_nl A := by (try simp only [Int32.lt_iff_toInt_lt, Int32.le_iff_toInt_le, ← Int32.toInt_inj, vp_in_iff, Int32.reduceToInt, mm_t1, mm_t2, mm_t3, mm_t4, mm_t10] at h1 k5 k7 k14 ⊢); omega
    rw [e4]
    exact w_X11_blame hi hl (fun r M1 e X => h r M1 (by unfold z_blame; rw [if_pos hl]; exact e) X) (a_ne A) 0 _ (by omega) (by omega) X3
  · refine mm_if_ne 14 11 dX11_blame_8 (by decide) rfl (fun h => absurd h (by decide)) (fun _ => ?_)
    refine mm_bipush 13 (-2) dX11_blame_11 rfl (by decide) ?_
    refine mm_iret dX11_blame_13 rfl ⟨rfl, Nat.zero_le _⟩ ?_
    refine h _ _ ?_ hf
    unfold z_blame
    rw [if_neg (by (try simp only [Int32.lt_iff_toInt_lt, Int32.le_iff_toInt_le, ← Int32.toInt_inj, vp_in_iff, Int32.reduceToInt, mm_t1, mm_t2, mm_t3, mm_t4, mm_t10] at h1 k5 k7 k14 ⊢); omega)]

set_option maxHeartbeats 4000000 in
theorem w_X6_cloudedWeeks {l : Launch} {G : mm_G} {d : Nat} {M : mm_M} {Q : Int32 → mm_T → mm_M → Prop} {A : mm_M} (hi : iv A) (hf : fr A M) (h : ∀ r, r = z_cl A 52 → Q r T0 M) : ∀ (z k : Nat) {x5 : Value}, 52 - k ≤ z → k ≤ 52 → mm_wp l G d k_X6_cloudedWeeks (mm_pi Q) 13 [.ref 12, .int (z_cl A k), .ref 13, .int (nI 52), .int (nI k), x5] [] T0 M 0 0 := by
  intro z
  induction z using Nat.strongRecOn with | _ z ih => ?_
  intro k x5 hze hen
  have hei : (nI k).toInt = k := mm_ti (by omega)
  have hni : (nI 52).toInt = 52 := by decide
  refine mm_iload_4 15 dX6_cloudedWeeks_13 rfl ?_
  refine mm_iload_3 16 dX6_cloudedWeeks_15 rfl ?_
  refine mm_ic_ge 36 19 dX6_cloudedWeeks_16 (by decide) rfl (fun h1 => ?_) (fun h1 => ?_)
  · refine mm_iload_1 37 dX6_cloudedWeeks_36 rfl ?_
    refine mm_iret dX6_cloudedWeeks_37 rfl ⟨rfl, Nat.zero_le _⟩ ?_
    have hz : k = 52 := by (try simp only [hei, hni, Int32.lt_iff_toInt_lt, Int32.le_iff_toInt_le, ← Int32.toInt_inj, vp_in_iff, Int32.reduceToInt, mm_t1, mm_t2, mm_t3, mm_t4, mm_t10] at h1); omega
    rw [hz]
    exact h _ rfl
  · have hlt : k < 52 := by (try simp only [hei, hni, Int32.lt_iff_toInt_lt, Int32.le_iff_toInt_le, ← Int32.toInt_inj, vp_in_iff, Int32.reduceToInt, mm_t1, mm_t2, mm_t3, mm_t4, mm_t10] at h1); omega
    refine mm_aload_2 20 dX6_cloudedWeeks_19 rfl ?_
    refine mm_iload_4 22 dX6_cloudedWeeks_20 rfl ?_
    refine mm_ialoadn 23 (k) dX6_cloudedWeeks_22 rfl t_13 (by decide) (rfl) (by omega) ?_
    refine mm_istore_5 25 dX6_cloudedWeeks_23 rfl rfl ?_
    refine mm_iload_1 26 dX6_cloudedWeeks_25 rfl ?_
    refine mm_iload_5 28 dX6_cloudedWeeks_26 rfl ?_
    refine mm_iadd 29 dX6_cloudedWeeks_28 rfl ?_
    refine mm_istore_1 30 dX6_cloudedWeeks_29 rfl rfl ?_
    refine mm_iinc_4 33 1 dX6_cloudedWeeks_30 rfl (by decide) rfl ?_
    refine mm_goto 13 dX6_cloudedWeeks_33 (by decide) ?_
    rw [nI_1, hf.a 13, hi.2.2.2.1 k hlt]
    exact ih (52 - (k + 1)) (by omega) (k + 1) (x5 := _) (Nat.le_refl _) (by omega)

set_option maxHeartbeats 4000000 in
theorem c_X6_cloudedWeeks {l : Launch} {G : mm_G} {d : Nat} {M : mm_M} {Q : Int32 → mm_T → mm_M → Prop} {A : mm_M} (hi : iv A) (hf : fr A M) (h : ∀ r, r = z_cl A 52 → Q r T0 M) : mm_met l G d k_X6_cloudedWeeks [.ref 12] T0 M (mm_pi Q) := by
  refine mm_enter 5 [.ref 12, .double 0, .double 0, .double 0, .double 0, .double 0] o_X6_cloudedWeeks rfl rfl ?_
  refine mm_iconst 1 0 dX6_cloudedWeeks_0 rfl (by decide) ?_
  refine mm_istore_1 2 dX6_cloudedWeeks_1 rfl rfl ?_
  refine mm_aload_0 3 dX6_cloudedWeeks_2 rfl ?_
  refine mm_getR 6 dX6_cloudedWeeks_3 f_X6_9 rfl t_12 rfl ?_
  refine mm_astore_2 7 dX6_cloudedWeeks_6 rfl rfl ?_
  refine mm_aload_2 8 dX6_cloudedWeeks_7 rfl ?_
  refine mm_alenI 9 dX6_cloudedWeeks_8 rfl t_13 ?_
  refine mm_istore_3 10 dX6_cloudedWeeks_9 rfl rfl ?_
  refine mm_iconst 11 0 dX6_cloudedWeeks_10 rfl (by decide) ?_
  refine mm_istore_4 13 dX6_cloudedWeeks_11 rfl rfl ?_
  exact w_X6_cloudedWeeks hi hf h 52 0 (by omega) (by omega)

set_option maxHeartbeats 4000000 in
theorem c_X11_count {l : Launch} {G : mm_G} {d : Nat} {M : mm_M} {Q : Int32 → mm_T → mm_M → Prop} {A : mm_M} (hi : iv A) (hf : fr A M) {w : Int32} (h : ∀ r M1, r = z_count A w → fr A M1 → Q r T0 M1) : mm_met l G (d + 5) k_X11_count [.ref 0, .int w] T0 M (mm_pi Q) := by
  have n6 := hi.1.nl
  have n12 := hi.1.np
  have n24 := hi.1.ne.2
  have hd := hf.vd hi
  have k5 := hd.1.li
  have k7 := hd.1.pi
  have k14 := hd.1.ei
  refine mm_enter 0 [.ref 0, .int w] o_X11_count rfl rfl ?_
  refine mm_iload_1 1 dX11_count_0 rfl ?_
  refine mm_topi (fun s1 e2 => ?_)
  by_cases h3 : s1.toInt = 0
  · skip
    refine mm_tabIn 52 dX11_count_1 (by rw [h3]; decide) (by rw [h3]; decide) (off := 51) (by rw [h3]; rfl) (by decide) ?_
    refine mm_aload_0 53 dX11_count_52 rfl ?_
    refine mm_getR 56 dX11_count_53 f_X11_26 rfl t_0 rfl ?_
    refine mm_cV0i 59 dX11_count_56 v_X11_288 rfl t_5 (by decide) rfl rfl (Nat.le_of_ble_eq_true rfl) ⟨rfl, rfl⟩ ⟨Nat.zero_le _, Nat.zero_le _⟩ (c_X3_number  (fun r4 e4 => ?_))
    refine mm_iret dX11_count_59 rfl ⟨rfl, Nat.zero_le _⟩ ?_
    subst e2
    refine h _ _ ?_ hf
    unfold z_count
    rw [if_pos (by omega)]
    rw [e4]
    exact hd.1.2.2.2.1
  by_cases h5 : s1.toInt = 1
  · skip
    refine mm_tabIn 60 dX11_count_1 (by rw [h5]; decide) (by rw [h5]; decide) (off := 59) (by rw [h5]; rfl) (by decide) ?_
    refine mm_aload_0 61 dX11_count_60 rfl ?_
    refine mm_getR 64 dX11_count_61 f_X11_33 rfl t_0 rfl ?_
    refine mm_cV0i 67 dX11_count_64 v_X11_225 rfl t_7 (by decide) rfl rfl (Nat.le_of_ble_eq_true rfl) ⟨rfl, rfl⟩ ⟨Nat.zero_le _, Nat.zero_le _⟩ (c_X4_number  (fun r6 e6 => ?_))
    refine mm_iret dX11_count_67 rfl ⟨rfl, Nat.zero_le _⟩ ?_
    subst e2
    refine h _ _ ?_ hf
    unfold z_count
    rw [if_neg (by omega), if_pos (by omega)]
    rw [e6]
    exact hd.1.2.2.2.2.1
  by_cases h7 : s1.toInt = 2
  · skip
    refine mm_tabIn 68 dX11_count_1 (by rw [h7]; decide) (by rw [h7]; decide) (off := 67) (by rw [h7]; rfl) (by decide) ?_
    refine mm_aload_0 69 dX11_count_68 rfl ?_
    refine mm_getR 72 dX11_count_69 f_X11_16 rfl t_0 rfl ?_
    refine mm_cV0i 75 dX11_count_72 v_X11_112 rfl t_1 (by decide) rfl rfl (Nat.le_of_ble_eq_true rfl) ⟨rfl, rfl⟩ ⟨Nat.zero_le _, Nat.zero_le _⟩ (c_X8_length t_1 t_2 (fun r8 e8 => ?_))
    refine mm_iret dX11_count_75 rfl ⟨rfl, Nat.zero_le _⟩ ?_
    subst e2
    refine h _ _ ?_ hf
    unfold z_count
    rw [if_neg (by omega), if_neg (by omega), if_pos (by omega)]
    rw [e8, hf.a 1]
    exact hi.2.2.1.1.1
  by_cases h9 : s1.toInt = 3
  · skip
    refine mm_tabIn 76 dX11_count_1 (by rw [h9]; decide) (by rw [h9]; decide) (off := 75) (by rw [h9]; rfl) (by decide) ?_
    refine mm_aload_0 77 dX11_count_76 rfl ?_
    refine mm_getR 80 dX11_count_77 f_X11_20 rfl t_0 rfl ?_
    refine mm_cV0i 83 dX11_count_80 v_X11_112 rfl t_3 (by decide) rfl rfl (Nat.le_of_ble_eq_true rfl) ⟨rfl, rfl⟩ ⟨Nat.zero_le _, Nat.zero_le _⟩ (c_X8_length t_3 t_4 (fun r10 e10 => ?_))
    refine mm_iret dX11_count_83 rfl ⟨rfl, Nat.zero_le _⟩ ?_
    subst e2
    refine h _ _ ?_ hf
    unfold z_count
    rw [if_neg (by omega), if_neg (by omega), if_neg (by omega), if_pos (by omega)]
    rw [e10, hf.a 3]
    exact hi.2.2.1.2.1.1
  by_cases h11 : s1.toInt = 4
  · skip
    refine mm_tabIn 84 dX11_count_1 (by rw [h11]; decide) (by rw [h11]; decide) (off := 83) (by rw [h11]; rfl) (by decide) ?_
    refine mm_aload_0 85 dX11_count_84 rfl ?_
    refine mm_getR 88 dX11_count_85 f_X11_47 rfl t_0 rfl ?_
    refine mm_cV0i 91 dX11_count_88 v_X11_165 rfl t_14 (by decide) rfl rfl (Nat.le_of_ble_eq_true rfl) ⟨rfl, rfl⟩ ⟨Nat.zero_le _, Nat.zero_le _⟩ (b_eno hi hf (fun r12 e12 => ?_))
    refine mm_iret dX11_count_91 rfl ⟨rfl, Nat.zero_le _⟩ ?_
    subst e2
    refine h _ _ ?_ hf
    unfold z_count
    rw [if_neg (by omega), if_neg (by omega), if_neg (by omega), if_neg (by omega), if_pos (by omega)]
    exact e12
  by_cases h13 : s1.toInt = 5
  · skip
    refine mm_tabIn 92 dX11_count_1 (by rw [h13]; decide) (by rw [h13]; decide) (off := 91) (by rw [h13]; rfl) (by decide) ?_
    refine mm_aload_0 93 dX11_count_92 rfl ?_
    refine mm_getR 96 dX11_count_93 f_X11_56 rfl t_0 rfl ?_
    refine mm_aload_0 97 dX11_count_96 rfl ?_
    refine mm_getR 100 dX11_count_97 f_X11_47 rfl t_0 rfl ?_
    refine mm_cV0i 103 dX11_count_100 v_X11_165 rfl t_14 (by decide) rfl rfl (Nat.le_of_ble_eq_true rfl) ⟨rfl, rfl⟩ ⟨Nat.zero_le _, Nat.zero_le _⟩ (b_eno hi hf (fun r14 e14 => ?_))
    refine mm_iconst 104 (-1) dX11_count_103 rfl (by decide) ?_
    refine mm_cV2v 107 dX11_count_104 v_X11_190 rfl t_20 (by decide) rfl rfl (Nat.le_of_ble_eq_true rfl) ⟨rfl, rfl⟩ ⟨Nat.zero_le _, Nat.zero_le _⟩ (b_play hi hf e14 (Nat.le_refl _) (fun M15 g15 w15 X15 => ?_))
    refine mm_aload_0 108 dX11_count_107 rfl ?_
    refine mm_getR 111 dX11_count_108 f_X11_56 rfl t_0 rfl ?_
    refine mm_cV0i 114 dX11_count_111 v_X11_292 rfl t_20 (by decide) rfl rfl (Nat.le_of_ble_eq_true rfl) ⟨rfl, rfl⟩ ⟨Nat.zero_le _, Nat.zero_le _⟩ (c_X10_againstLaw  (fun r16 e16 => ?_))
    refine mm_iret dX11_count_114 rfl ⟨rfl, Nat.zero_le _⟩ ?_
    subst e2
    refine h _ _ ?_ X15
    unfold z_count
    rw [if_neg (by omega), if_neg (by omega), if_neg (by omega), if_neg (by omega), if_neg (by omega), if_pos (by omega)]
    rw [e16]
    exact w15.2.2.2.2.1
  by_cases h17 : s1.toInt = 6
  · skip
    refine mm_tabIn 115 dX11_count_1 (by rw [h17]; decide) (by rw [h17]; decide) (off := 114) (by rw [h17]; rfl) (by decide) ?_
    refine mm_aload_0 116 dX11_count_115 rfl ?_
    refine mm_getR 119 dX11_count_116 f_X11_40 rfl t_0 rfl ?_
    refine mm_cV0i 122 dX11_count_119 v_X11_295 rfl t_12 (by decide) rfl rfl (Nat.le_of_ble_eq_true rfl) ⟨rfl, rfl⟩ ⟨Nat.zero_le _, Nat.zero_le _⟩ (c_X6_cloudedWeeks hi hf (fun r18 e18 => ?_))
    refine mm_iret dX11_count_122 rfl ⟨rfl, Nat.zero_le _⟩ ?_
    subst e2
    refine h _ _ ?_ hf
    unfold z_count
    rw [if_neg (by omega), if_neg (by omega), if_neg (by omega), if_neg (by omega), if_neg (by omega), if_neg (by omega), if_pos (by omega)]
    exact e18
  by_cases h19 : s1.toInt = 7
  · skip
    refine mm_tabIn 123 dX11_count_1 (by rw [h19]; decide) (by rw [h19]; decide) (off := 122) (by rw [h19]; rfl) (by decide) ?_
    refine mm_aload_0 124 dX11_count_123 rfl ?_
    refine mm_getR 127 dX11_count_124 f_X11_79 rfl t_0 rfl ?_
    refine mm_cV0i 130 dX11_count_127 v_X11_234 rfl t_38 (by decide) rfl rfl (Nat.le_of_ble_eq_true rfl) ⟨rfl, rfl⟩ ⟨Nat.zero_le _, Nat.zero_le _⟩ (c_X7_number  (fun r20 e20 => ?_))
    refine mm_iret dX11_count_130 rfl ⟨rfl, Nat.zero_le _⟩ ?_
    subst e2
    refine h _ _ ?_ hf
    unfold z_count
    rw [if_neg (by omega), if_neg (by omega), if_neg (by omega), if_neg (by omega), if_neg (by omega), if_neg (by omega), if_neg (by omega), if_pos (by omega)]
    rw [e20, hf.a 38, hi.2.2.2.2.2.1.1]
    exact hi.1.ns.1
  by_cases h21 : s1.toInt = 8
  · skip
    refine mm_tabIn 131 dX11_count_1 (by rw [h21]; decide) (by rw [h21]; decide) (off := 130) (by rw [h21]; rfl) (by decide) ?_
    refine mm_aload_0 132 dX11_count_131 rfl ?_
    refine mm_getI 135 dX11_count_132 f_X11_89 rfl t_0 rfl ?_
    refine mm_iret dX11_count_135 rfl ⟨rfl, Nat.zero_le _⟩ ?_
    subst e2
    refine h _ _ ?_ hf
    unfold z_count
    rw [if_neg (by omega), if_neg (by omega), if_neg (by omega), if_neg (by omega), if_neg (by omega), if_neg (by omega), if_neg (by omega), if_neg (by omega), if_pos (by omega)]
    rw [hf.a 0]
    exact hi.2.1
  refine mm_tabOut 136 dX11_count_1 (by omega) (by decide) ?_
  refine mm_bipush 138 (-2) dX11_count_136 rfl (by decide) ?_
  refine mm_iret dX11_count_138 rfl ⟨rfl, Nat.zero_le _⟩ ?_
  subst e2
  refine h _ _ ?_ hf
  unfold z_count
  rw [if_neg (by omega), if_neg (by omega), if_neg (by omega), if_neg (by omega), if_neg (by omega), if_neg (by omega), if_neg (by omega), if_neg (by omega), if_neg (by omega)]

set_option maxHeartbeats 4000000 in
theorem w_X12_count {l : Launch} {G : mm_G} {d : Nat} {M : mm_M} {Q : Int32 → mm_T → mm_M → Prop} {A : mm_M} (hx : r_x A M) {w : Int32} (h : ∀ r, r = z_cl A 52 → Q r T0 M) : ∀ (z k : Nat), 52 - k ≤ z → k ≤ 52 → mm_wp l G (d + 5) k_X12_count (mm_pi Q) 91 [.ref 51, .int w, .int (z_cl A k), .int (nI k)] [] T0 M 0 0 := by
  intro z
  induction z using Nat.strongRecOn with | _ z ih => ?_
  intro k hze hen
  have hei : (nI k).toInt = k := mm_ti (by omega)
  refine mm_iload_3 92 dX12_count_91 rfl ?_
  refine mm_bipush 94 52 dX12_count_92 rfl (by decide) ?_
  refine mm_ic_ge 112 97 dX12_count_94 (by decide) rfl (fun h1 => ?_) (fun h1 => ?_)
  · refine mm_iload_2 113 dX12_count_112 rfl ?_
    refine mm_iret dX12_count_113 rfl ⟨rfl, Nat.zero_le _⟩ ?_
    have hz : k = 52 := by (try simp only [hei, Int32.lt_iff_toInt_lt, Int32.le_iff_toInt_le, ← Int32.toInt_inj, vp_in_iff, Int32.reduceToInt, mm_t1, mm_t2, mm_t3, mm_t4, mm_t10] at h1); omega
    rw [hz]
    exact h _ rfl
  · have hlt : k < 52 := by (try simp only [hei, Int32.lt_iff_toInt_lt, Int32.le_iff_toInt_le, ← Int32.toInt_inj, vp_in_iff, Int32.reduceToInt, mm_t1, mm_t2, mm_t3, mm_t4, mm_t10] at h1); omega
    refine mm_iload_2 98 dX12_count_97 rfl ?_
    refine mm_aload_0 99 dX12_count_98 rfl ?_
    refine mm_getR 102 dX12_count_99 f_X12_34 rfl t_51 rfl ?_
    refine mm_iload_3 103 dX12_count_102 rfl ?_
    refine mm_ialoadn 104 (k) dX12_count_103 rfl t_60 (by decide) (rfl) (by omega) ?_
    refine mm_iadd 105 dX12_count_104 rfl ?_
    refine mm_istore_2 106 dX12_count_105 rfl rfl ?_
    refine mm_iinc_3 109 1 dX12_count_106 rfl (by decide) rfl ?_
    refine mm_goto 91 dX12_count_109 (by decide) ?_
    rw [nI_1, hx.1.a 60]
    exact ih (52 - (k + 1)) (by omega) (k + 1) (Nat.le_refl _) (by omega)

set_option maxHeartbeats 4000000 in
theorem c_X12_count {l : Launch} {G : mm_G} {d : Nat} {M : mm_M} {Q : Int32 → mm_T → mm_M → Prop} {A : mm_M} (hi : iv A) (hf : fr A M) {w : Int32} (h : ∀ r M1, r = z_count A w → r_x A M1 → Q r T0 M1) : mm_met l G (d + 5) k_X12_count [.ref 51, .int w] T0 M (mm_pi Q) := by
  have n6 := hi.1.nl
  have n12 := hi.1.np
  have n24 := hi.1.ne.2
  refine mm_enter 2 [.ref 51, .int w, .double 0, .double 0] o_X12_count rfl rfl ?_
  refine mm_iconst 1 0 dX12_count_0 rfl (by decide) ?_
  refine mm_istore_2 2 dX12_count_1 rfl rfl ?_
  refine mm_aload_0 3 dX12_count_2 rfl ?_
  refine mm_cV0v 6 dX12_count_3 v_X12_163 rfl t_51 (by decide) rfl rfl (Nat.le_of_ble_eq_true rfl) ⟨rfl, rfl⟩ ⟨Nat.zero_le _, Nat.zero_le _⟩ (b_find hi hf (fun M1 X1 => ?_))
  refine mm_iload_1 7 dX12_count_6 rfl ?_
  refine mm_topi (fun s2 e3 => ?_)
  by_cases h4 : s2.toInt = 0
  · skip
    refine mm_tabIn 56 dX12_count_7 (by rw [h4]; decide) (by rw [h4]; decide) (off := 49) (by rw [h4]; rfl) (by decide) ?_
    refine mm_aload_0 57 dX12_count_56 rfl ?_
    refine mm_getI 60 dX12_count_57 f_X12_138 rfl t_51 rfl ?_
    refine mm_iret dX12_count_60 rfl ⟨rfl, Nat.zero_le _⟩ ?_
    subst e3
    refine h _ _ ?_ X1
    unfold z_count
    rw [if_pos (by omega)]
    exact X1.2.1
  by_cases h5 : s2.toInt = 1
  · skip
    refine mm_tabIn 61 dX12_count_7 (by rw [h5]; decide) (by rw [h5]; decide) (off := 54) (by rw [h5]; rfl) (by decide) ?_
    refine mm_aload_0 62 dX12_count_61 rfl ?_
    refine mm_getI 65 dX12_count_62 f_X12_144 rfl t_51 rfl ?_
    refine mm_iret dX12_count_65 rfl ⟨rfl, Nat.zero_le _⟩ ?_
    subst e3
    refine h _ _ ?_ X1
    unfold z_count
    rw [if_neg (by omega), if_pos (by omega)]
    exact X1.2.2.2.1
  by_cases h6 : s2.toInt = 2
  · skip
    refine mm_tabIn 66 dX12_count_7 (by rw [h6]; decide) (by rw [h6]; decide) (off := 59) (by rw [h6]; rfl) (by decide) ?_
    refine mm_aload_0 67 dX12_count_66 rfl ?_
    refine mm_getR 70 dX12_count_67 f_X12_25 rfl t_51 rfl ?_
    refine mm_iload_1 71 dX12_count_70 rfl ?_
    refine mm_iconst 72 2 dX12_count_71 rfl (by decide) ?_
    refine mm_isub 73 dX12_count_72 rfl ?_
    refine mm_ialoadn 74 (0) dX12_count_73 rfl t_57 (by decide) (by rw [← e3, show s2 = nI 2 from mm_ii h6]; rfl) (by decide) ?_
    refine mm_iret dX12_count_74 rfl ⟨rfl, Nat.zero_le _⟩ ?_
    subst e3
    refine h _ _ ?_ X1
    unfold z_count
    rw [if_neg (by omega), if_neg (by omega), if_pos (by omega)]
    rw [X1.1.a 57]
  by_cases h7 : s2.toInt = 3
  · skip
    refine mm_tabIn 66 dX12_count_7 (by rw [h7]; decide) (by rw [h7]; decide) (off := 59) (by rw [h7]; rfl) (by decide) ?_
    refine mm_aload_0 67 dX12_count_66 rfl ?_
    refine mm_getR 70 dX12_count_67 f_X12_25 rfl t_51 rfl ?_
    refine mm_iload_1 71 dX12_count_70 rfl ?_
    refine mm_iconst 72 2 dX12_count_71 rfl (by decide) ?_
    refine mm_isub 73 dX12_count_72 rfl ?_
    refine mm_ialoadn 74 (1) dX12_count_73 rfl t_57 (by decide) (by rw [← e3, show s2 = nI 3 from mm_ii h7]; rfl) (by decide) ?_
    refine mm_iret dX12_count_74 rfl ⟨rfl, Nat.zero_le _⟩ ?_
    subst e3
    refine h _ _ ?_ X1
    unfold z_count
    rw [if_neg (by omega), if_neg (by omega), if_neg (by omega), if_pos (by omega)]
    rw [X1.1.a 57]
  by_cases h8 : s2.toInt = 4
  · skip
    refine mm_tabIn 75 dX12_count_7 (by rw [h8]; decide) (by rw [h8]; decide) (off := 68) (by rw [h8]; rfl) (by decide) ?_
    refine mm_aload_0 76 dX12_count_75 rfl ?_
    refine mm_getI 79 dX12_count_76 f_X12_184 rfl t_51 rfl ?_
    refine mm_iret dX12_count_79 rfl ⟨rfl, Nat.zero_le _⟩ ?_
    subst e3
    refine h _ _ ?_ X1
    unfold z_count
    rw [if_neg (by omega), if_neg (by omega), if_neg (by omega), if_neg (by omega), if_pos (by omega)]
    exact X1.1.2.2.1.trans hi.1.ne.1
  by_cases h9 : s2.toInt = 5
  · skip
    refine mm_tabIn 80 dX12_count_7 (by rw [h9]; decide) (by rw [h9]; decide) (off := 73) (by rw [h9]; rfl) (by decide) ?_
    refine mm_aload_0 81 dX12_count_80 rfl ?_
    refine mm_cV0v 84 dX12_count_81 v_X12_242 rfl t_51 (by decide) rfl rfl (Nat.le_of_ble_eq_true rfl) ⟨rfl, rfl⟩ ⟨Nat.zero_le _, Nat.zero_le _⟩ (b_goesAll hi X1 (fun M10 g10 w10 X10 => ?_))
    refine mm_aload_0 85 dX12_count_84 rfl ?_
    refine mm_getI 88 dX12_count_85 f_X12_206 rfl t_51 rfl ?_
    refine mm_iret dX12_count_88 rfl ⟨rfl, Nat.zero_le _⟩ ?_
    subst e3
    refine h _ _ ?_ X10
    unfold z_count
    rw [if_neg (by omega), if_neg (by omega), if_neg (by omega), if_neg (by omega), if_neg (by omega), if_pos (by omega)]
    exact w10.2.2.2.1
  by_cases h11 : s2.toInt = 6
  · skip
    refine mm_tabIn 89 dX12_count_7 (by rw [h11]; decide) (by rw [h11]; decide) (off := 82) (by rw [h11]; rfl) (by decide) ?_
    refine mm_iconst 90 0 dX12_count_89 rfl (by decide) ?_
    refine mm_istore_3 91 dX12_count_90 rfl rfl ?_
    have hw : w.toInt = 6 := by rw [← e3]; exact h11
    exact w_X12_count X1 (fun r e => h r _ (by unfold z_count; rw [if_neg (by omega), if_neg (by omega), if_neg (by omega), if_neg (by omega), if_neg (by omega), if_neg (by omega), if_pos (by omega)]; exact e) X1) 52 0 (by omega) (by omega)
  by_cases h12 : s2.toInt = 7
  · skip
    refine mm_tabIn 114 dX12_count_7 (by rw [h12]; decide) (by rw [h12]; decide) (off := 107) (by rw [h12]; rfl) (by decide) ?_
    refine mm_aload_0 115 dX12_count_114 rfl ?_
    refine mm_getI 118 dX12_count_115 f_X12_294 rfl t_51 rfl ?_
    refine mm_iret dX12_count_118 rfl ⟨rfl, Nat.zero_le _⟩ ?_
    subst e3
    refine h _ _ ?_ X1
    unfold z_count
    rw [if_neg (by omega), if_neg (by omega), if_neg (by omega), if_neg (by omega), if_neg (by omega), if_neg (by omega), if_neg (by omega), if_pos (by omega)]
    exact X1.1.2.2.2.trans hi.1.ns.1
  by_cases h13 : s2.toInt = 8
  · skip
    refine mm_tabIn 119 dX12_count_7 (by rw [h13]; decide) (by rw [h13]; decide) (off := 112) (by rw [h13]; rfl) (by decide) ?_
    refine mm_aload_0 120 dX12_count_119 rfl ?_
    refine mm_getI 123 dX12_count_120 f_X12_99 rfl t_51 rfl ?_
    refine mm_iret dX12_count_123 rfl ⟨rfl, Nat.zero_le _⟩ ?_
    subst e3
    refine h _ _ ?_ X1
    unfold z_count
    rw [if_neg (by omega), if_neg (by omega), if_neg (by omega), if_neg (by omega), if_neg (by omega), if_neg (by omega), if_neg (by omega), if_neg (by omega), if_pos (by omega)]
    exact X1.1.2.1
  refine mm_tabOut 124 dX12_count_7 (by omega) (by decide) ?_
  refine mm_bipush 126 (-2) dX12_count_124 rfl (by decide) ?_
  refine mm_iret dX12_count_126 rfl ⟨rfl, Nat.zero_le _⟩ ?_
  subst e3
  refine h _ _ ?_ X1
  unfold z_count
  rw [if_neg (by omega), if_neg (by omega), if_neg (by omega), if_neg (by omega), if_neg (by omega), if_neg (by omega), if_neg (by omega), if_neg (by omega), if_neg (by omega)]

