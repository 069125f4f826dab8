/-! Questions to the class that one play answers -/
theorem fr.vd {A M : mm_M} (hf : fr A M) (hi : iv A) : v_d M (zz A) (a_nl A) (a_np A) (a_ne A) := (zz_x A).vd hi hf.lo
theorem v_d.hev {M X : mm_M} {nl np ne : Nat} (h : v_d M X nl np ne) {e : Nat} (he : e < ne) : h_ev M e := by
  obtain ⟨⟨a1, a2, a3, a4, -⟩, ⟨-, b1, b2, b3, b4⟩, -⟩ := h.2.2.2.2.2.2.2 e he
  refine ⟨by rw [a1]; exact b1, by rw [a2]; exact b2, by rw [a3]; exact b3, fun q => ?_⟩
  rw [a4 (by rw [← a1]; exact q)]
  exact b4
theorem b_play {l : Launch} {G : mm_G} {d : Nat} {M : mm_M} {Q : mm_T → mm_M → Prop} {A : mm_M} (hi : iv A) (hf : fr A M) {x y : Int32} {k : Nat} (hk : x = nI k) (hn : k ≤ a_ne A) (h : ∀ M1, M1 = h_run M (a_np A) y k → v_w M1 (zr A y k) (a_nl A) (a_np A) (99 + 126 * k) → fr A M1 → Q T0 M1) : mm_met l G (d + 4) k_X10_play [.ref 20, .int x, .int y] T0 M (mm_pv Q) :=
  c_X10_play (hf.vd hi).1 hk hn (fun e he => (hf.vd hi).hev he) (h _ rfl (zr_c hi hf.lo hn) (hf.hk (h_run_ok (hf.vd hi).1 k).1))
theorem b_widthOf {l : Launch} {G : mm_G} {d : Nat} {M : mm_M} {Q : Int32 → mm_T → mm_M → Prop} {A Z : mm_M} {B : Nat} (hi : iv A) (hf : fr A M) (hw : v_w M Z (a_nl A) (a_np A) B) {x : Int32} (hx : 0 ≤ x.toInt ∧ x.toInt < a_nl A) (h : ∀ r, r = Z 62 x.toNatClampNeg → Q r T0 M) : mm_met l G (d + 1) k_X10_widthOf [.ref 20, .int x] T0 M (mm_pi Q) := by
  have l1 := (hf.vd hi).1.li
  refine c_X10_widthOf (by rw [l1]; have := hi.1.nl; omega) (fun r e => h r ?_)
  rw [e]
  unfold s_X10_widthOf
  rw [l1, if_pos hx]
  exact (hw.1 _ (mm_cl2 hx).2.1).1
theorem b_partnerOf {l : Launch} {G : mm_G} {d : Nat} {M : mm_M} {Q : Int32 → mm_T → mm_M → Prop} {A Z : mm_M} {B : Nat} (hi : iv A) (hf : fr A M) (hw : v_w M Z (a_nl A) (a_np A) B) {x : Int32} (hx : 0 ≤ x.toInt ∧ x.toInt < a_np A) (h : ∀ r, r = Z 63 x.toNatClampNeg → Q r T0 M) : mm_met l G (d + 1) k_X10_partnerOf [.ref 20, .int x] T0 M (mm_pi Q) := by
  have l1 := (hf.vd hi).1.pi
  refine c_X10_partnerOf (by rw [l1]; have := hi.1.np; omega) (fun r e => h r ?_)
  rw [e]
  unfold s_X10_partnerOf
  rw [l1, if_pos hx]
  exact (hw.2.1 _ (mm_cl2 hx).2.1).1
theorem b_provinceOf {l : Launch} {G : mm_G} {d : Nat} {M : mm_M} {Q : Int32 → mm_T → mm_M → Prop} {A Z : mm_M} {B : Nat} (hi : iv A) (hf : fr A M) (hw : v_w M Z (a_nl A) (a_np A) B) {x : Int32} (hx : 0 ≤ x.toInt ∧ x.toInt < a_np A) (h : ∀ r, r = Z 66 x.toNatClampNeg → Q r T0 M) : mm_met l G (d + 1) k_X10_provinceOf [.ref 20, .int x] T0 M (mm_pi Q) := by
  have l1 := (hf.vd hi).1.pi
  refine c_X10_provinceOf (by rw [l1]; have := hi.1.np; omega) (fun r e => h r ?_)
  rw [e]
  unfold s_X10_provinceOf
  rw [l1, if_pos hx]
  exact (hw.2.1 _ (mm_cl2 hx).2.1).2.1
theorem b_isAlive {l : Launch} {G : mm_G} {d : Nat} {M : mm_M} {Q : Int32 → mm_T → mm_M → Prop} {A Z : mm_M} {B : Nat} (hi : iv A) (hf : fr A M) (hw : v_w M Z (a_nl A) (a_np A) B) {x : Int32} (hx : 0 ≤ x.toInt ∧ x.toInt < a_np A) (ht : 1 = Z 67 x.toNatClampNeg → Q 1 T0 M) (hn : 0 = Z 67 x.toNatClampNeg → Q 0 T0 M) : mm_met l G (d + 1) k_X10_isAlive [.ref 20, .int x] T0 M (mm_pi Q) := by
  have l1 := (hf.vd hi).1.pi
  obtain ⟨-, -, w1, w2⟩ := hw.2.1 _ (mm_cl2 hx).2.1
  have e0 : ¬ (1 : Int32) = 0 := by decide
  refine c_X10_isAlive (by rw [l1]; have := hi.1.np; omega) (fun e => ht ?_) (fun e => hn ?_)
  · rcases w2 with w2 | w2
    · rw [w1, w2] at e; exact absurd rfl e.2
    · exact w2.symm
  · rcases w2 with w2 | w2
    · exact w2.symm
    · rw [w1, w2, l1] at e; exact absurd ⟨hx, e0⟩ e
theorem b_eno {l : Launch} {G : mm_G} {d : Nat} {M : mm_M} {Q : Int32 → mm_T → mm_M → Prop} {A : mm_M} (hi : iv A) (hf : fr A M) (h : ∀ r, r = nI (a_ne A) → Q r T0 M) : mm_met l G d k_X2_number [.ref 14] T0 M (mm_pi Q) :=
  c_X2_number (fun r e => h r (e.trans (hf.vd hi).1.2.2.2.2.2.1))

set_option maxHeartbeats 4000000 in
theorem c_X11_fault {l : Launch} {G : mm_G} {d : Nat} {M : mm_M} {Q : Int32 → mm_T → mm_M → Prop} {A : mm_M} (hi : iv A) (hf : fr A M) {t : Int32} (h : ∀ r M1, r = z_fault A t → fr A M1 → Q r T0 M1) : mm_met l G (d + 1) k_X11_fault [.ref 0, .int t] T0 M (mm_pi Q) := by
  have n6 := hi.1.nl
  have n12 := hi.1.np
  have n24 := hi.1.ne.2
  have hd := hf.vd hi
  have k5 := hd.1.li
  have k7 := hd.1.pi
  have k14 := hd.1.ei
  have ht := hi.2.2.1
  refine mm_enter 0 [.ref 0, .int t] o_X11_fault rfl rfl ?_
  refine mm_iload_1 1 dX11_fault_0 rfl ?_
  refine mm_if_ne 12 4 dX11_fault_1 (by decide) rfl (fun h1 => ?_) (fun h1 => ?_)
  · refine mm_iload_1 13 dX11_fault_12 rfl ?_
    refine mm_iconst 14 1 dX11_fault_13 rfl (by decide) ?_
    refine mm_ic_ne 27 17 dX11_fault_14 (by decide) rfl (fun h2 => ?_) (fun h2 => ?_)
    · refine mm_bipush 29 (-2) dX11_fault_27 rfl (by decide) ?_
      refine mm_iret dX11_fault_29 rfl ⟨rfl, Nat.zero_le _⟩ ?_
      refine h _ _ ?_ hf
      unfold z_fault
      (try simp only [Int32.lt_iff_toInt_lt, Int32.le_iff_toInt_le, ← Int32.toInt_inj, vp_in_iff, Int32.reduceToInt, mm_t1, mm_t2, mm_t3, mm_t4, mm_t10] at h1 h2)
      rw [if_neg (by omega), if_neg (by omega)]
    · refine mm_aload_0 18 dX11_fault_17 rfl ?_
      refine mm_getR 21 dX11_fault_18 f_X11_33 rfl t_0 rfl ?_
      refine mm_cV0i 24 dX11_fault_21 v_X11_122 rfl t_7 (by decide) rfl rfl (Nat.le_of_ble_eq_true rfl) ⟨rfl, rfl⟩ ⟨Nat.zero_le _, Nat.zero_le _⟩ (c_X4_faultAt  (fun r3 e3 => ?_))
      refine mm_goto 29 dX11_fault_24 (by decide) ?_
      refine mm_iret dX11_fault_29 rfl ⟨rfl, Nat.zero_le _⟩ ?_
      refine h _ _ ?_ hf
      unfold z_fault
      (try simp only [Int32.lt_iff_toInt_lt, Int32.le_iff_toInt_le, ← Int32.toInt_inj, vp_in_iff, Int32.reduceToInt, mm_t1, mm_t2, mm_t3, mm_t4, mm_t10] at h1 h2)
      rw [e3, if_neg (by omega), if_pos (by omega), hf.a 7]
      exact ht.2.2.2.2.1
  · refine mm_aload_0 5 dX11_fault_4 rfl ?_
    refine mm_getR 8 dX11_fault_5 f_X11_26 rfl t_0 rfl ?_
    refine mm_cV0i 11 dX11_fault_8 v_X11_119 rfl t_5 (by decide) rfl rfl (Nat.le_of_ble_eq_true rfl) ⟨rfl, rfl⟩ ⟨Nat.zero_le _, Nat.zero_le _⟩ (c_X3_faultAt  (fun r4 e4 => ?_))
    refine mm_iret dX11_fault_11 rfl ⟨rfl, Nat.zero_le _⟩ ?_
    refine h _ _ ?_ hf
    unfold z_fault
    (try simp only [Int32.lt_iff_toInt_lt, Int32.le_iff_toInt_le, ← Int32.toInt_inj, vp_in_iff, Int32.reduceToInt, mm_t1, mm_t2, mm_t3, mm_t4, mm_t10] at h1)
    rw [e4, if_pos (by omega), hf.a 5]
    exact ht.2.2.1.2.1

set_option maxHeartbeats 4000000 in
theorem c_X11_person {l : Launch} {G : mm_G} {d : Nat} {M : mm_M} {Q : Int32 → mm_T → mm_M → Prop} {A : mm_M} (hi : iv A) (hf : fr A M) {p w : Int32} (h : ∀ r M1, r = z_person A p w → fr A M1 → Q r T0 M1) : mm_met l G (d + 2) k_X11_person [.ref 0, .int p, .int w] T0 M (mm_pi Q) := by
  have n6 := hi.1.nl
  have n12 := hi.1.np
  have n24 := hi.1.ne.2
  have hd := hf.vd hi
  have k5 := hd.1.li
  have k7 := hd.1.pi
  have k14 := hd.1.ei
  have ht := hi.2.2.1
  refine mm_enter 0 [.ref 0, .int p, .int w] o_X11_person rfl rfl ?_
  refine mm_aload_0 1 dX11_person_0 rfl ?_
  refine mm_getR 4 dX11_person_1 f_X11_33 rfl t_0 rfl ?_
  refine mm_iload_1 5 dX11_person_4 rfl ?_
  refine mm_cV1i 8 dX11_person_5 v_X11_123 rfl t_7 (by decide) rfl rfl (Nat.le_of_ble_eq_true rfl) ⟨rfl, rfl⟩ ⟨Nat.zero_le _, Nat.zero_le _⟩ (c_X4_has  (fun h1 => ?_) (fun h1 => ?_))
  · refine mm_if_ne 14 11 dX11_person_8 (by decide) rfl (fun _ => ?_) (fun h => absurd h (by decide))
    refine mm_iload_2 15 dX11_person_14 rfl ?_
    refine mm_topi (fun s2 e3 => ?_)
    by_cases h4 : s2.toInt = 0
    · skip
      refine mm_tabIn 44 dX11_person_15 (by rw [h4]; decide) (by rw [h4]; decide) (off := 29) (by rw [h4]; rfl) (by decide) ?_
      refine mm_aload_0 45 dX11_person_44 rfl ?_
      refine mm_getR 48 dX11_person_45 f_X11_33 rfl t_0 rfl ?_
      refine mm_iload_1 49 dX11_person_48 rfl ?_
      refine mm_cV1i 52 dX11_person_49 v_X11_127 rfl t_7 (by decide) rfl rfl (Nat.le_of_ble_eq_true rfl) ⟨rfl, rfl⟩ ⟨Nat.zero_le _, Nat.zero_le _⟩ (c_X4_sexOf (by rw [k7]; omega) (fun r5 e5 => ?_))
      refine mm_iret dX11_person_52 rfl ⟨rfl, Nat.zero_le _⟩ ?_
      have cp := mm_cl2 (x := p) (n := a_np A) (by (try simp only [Int32.lt_iff_toInt_lt, Int32.le_iff_toInt_le, ← Int32.toInt_inj, vp_in_iff, Int32.reduceToInt, mm_t1, mm_t2, mm_t3, mm_t4, mm_t10] at h1 h4 k5 k7 k14 ⊢); omega)
      refine h _ _ ?_ hf
      unfold z_person
      subst e3
      rw [if_pos (by (try simp only [Int32.lt_iff_toInt_lt, Int32.le_iff_toInt_le, ← Int32.toInt_inj, vp_in_iff, Int32.reduceToInt, mm_t1, mm_t2, mm_t3, mm_t4, mm_t10] at h1 h4 k5 k7 k14 ⊢); omega), e5]
      unfold s_X4_sexOf
      rw [k7, if_pos (by (try simp only [Int32.lt_iff_toInt_lt, Int32.le_iff_toInt_le, ← Int32.toInt_inj, vp_in_iff, Int32.reduceToInt, mm_t1, mm_t2, mm_t3, mm_t4, mm_t10] at h1 h4 k5 k7 k14 ⊢); omega), show Int32.toNatClampNeg s2 = 0 from by unfold Int32.toNatClampNeg; rw [h4]; rfl, hf.a 8]
      exact (ht.2.2.2.2.2 _ cp.2.1).1
    by_cases h6 : s2.toInt = 1
    · skip
      refine mm_tabIn 53 dX11_person_15 (by rw [h6]; decide) (by rw [h6]; decide) (off := 38) (by rw [h6]; rfl) (by decide) ?_
      refine mm_aload_0 54 dX11_person_53 rfl ?_
      refine mm_getR 57 dX11_person_54 f_X11_33 rfl t_0 rfl ?_
      refine mm_iload_1 58 dX11_person_57 rfl ?_
      refine mm_cV1i 61 dX11_person_58 v_X11_131 rfl t_7 (by decide) rfl rfl (Nat.le_of_ble_eq_true rfl) ⟨rfl, rfl⟩ ⟨Nat.zero_le _, Nat.zero_le _⟩ (c_X4_homeOf (by rw [k7]; omega) (fun r7 e7 => ?_))
      refine mm_iret dX11_person_61 rfl ⟨rfl, Nat.zero_le _⟩ ?_
      have cp := mm_cl2 (x := p) (n := a_np A) (by (try simp only [Int32.lt_iff_toInt_lt, Int32.le_iff_toInt_le, ← Int32.toInt_inj, vp_in_iff, Int32.reduceToInt, mm_t1, mm_t2, mm_t3, mm_t4, mm_t10] at h1 h4 h6 k5 k7 k14 ⊢); omega)
      refine h _ _ ?_ hf
      unfold z_person
      subst e3
      rw [if_pos (by (try simp only [Int32.lt_iff_toInt_lt, Int32.le_iff_toInt_le, ← Int32.toInt_inj, vp_in_iff, Int32.reduceToInt, mm_t1, mm_t2, mm_t3, mm_t4, mm_t10] at h1 h4 h6 k5 k7 k14 ⊢); omega), e7]
      unfold s_X4_homeOf
      rw [k7, if_pos (by (try simp only [Int32.lt_iff_toInt_lt, Int32.le_iff_toInt_le, ← Int32.toInt_inj, vp_in_iff, Int32.reduceToInt, mm_t1, mm_t2, mm_t3, mm_t4, mm_t10] at h1 h4 h6 k5 k7 k14 ⊢); omega), show Int32.toNatClampNeg s2 = 1 from by unfold Int32.toNatClampNeg; rw [h6]; rfl, hf.a 9]
      exact (ht.2.2.2.2.2 _ cp.2.1).2.1
    by_cases h8 : s2.toInt = 2
    · skip
      refine mm_tabIn 62 dX11_person_15 (by rw [h8]; decide) (by rw [h8]; decide) (off := 47) (by rw [h8]; rfl) (by decide) ?_
      refine mm_aload_0 63 dX11_person_62 rfl ?_
      refine mm_getR 66 dX11_person_63 f_X11_33 rfl t_0 rfl ?_
      refine mm_iload_1 67 dX11_person_66 rfl ?_
      refine mm_cV1i 70 dX11_person_67 v_X11_134 rfl t_7 (by decide) rfl rfl (Nat.le_of_ble_eq_true rfl) ⟨rfl, rfl⟩ ⟨Nat.zero_le _, Nat.zero_le _⟩ (c_X4_heightOf (by rw [k7]; omega) (fun r9 e9 => ?_))
      refine mm_iret dX11_person_70 rfl ⟨rfl, Nat.zero_le _⟩ ?_
      have cp := mm_cl2 (x := p) (n := a_np A) (by (try simp only [Int32.lt_iff_toInt_lt, Int32.le_iff_toInt_le, ← Int32.toInt_inj, vp_in_iff, Int32.reduceToInt, mm_t1, mm_t2, mm_t3, mm_t4, mm_t10] at h1 h4 h6 h8 k5 k7 k14 ⊢); omega)
      refine h _ _ ?_ hf
      unfold z_person
      subst e3
      rw [if_pos (by (try simp only [Int32.lt_iff_toInt_lt, Int32.le_iff_toInt_le, ← Int32.toInt_inj, vp_in_iff, Int32.reduceToInt, mm_t1, mm_t2, mm_t3, mm_t4, mm_t10] at h1 h4 h6 h8 k5 k7 k14 ⊢); omega), e9]
      unfold s_X4_heightOf
      rw [k7, if_pos (by (try simp only [Int32.lt_iff_toInt_lt, Int32.le_iff_toInt_le, ← Int32.toInt_inj, vp_in_iff, Int32.reduceToInt, mm_t1, mm_t2, mm_t3, mm_t4, mm_t10] at h1 h4 h6 h8 k5 k7 k14 ⊢); omega), show Int32.toNatClampNeg s2 = 2 from by unfold Int32.toNatClampNeg; rw [h8]; rfl, hf.a 10]
      exact (ht.2.2.2.2.2 _ cp.2.1).2.2.1
    by_cases h10 : s2.toInt = 3
    · skip
      refine mm_tabIn 71 dX11_person_15 (by rw [h10]; decide) (by rw [h10]; decide) (off := 56) (by rw [h10]; rfl) (by decide) ?_
      refine mm_aload_0 72 dX11_person_71 rfl ?_
      refine mm_getR 75 dX11_person_72 f_X11_33 rfl t_0 rfl ?_
      refine mm_iload_1 76 dX11_person_75 rfl ?_
      refine mm_cV1i 79 dX11_person_76 v_X11_137 rfl t_7 (by decide) rfl rfl (Nat.le_of_ble_eq_true rfl) ⟨rfl, rfl⟩ ⟨Nat.zero_le _, Nat.zero_le _⟩ (c_X4_hatOf (by rw [k7]; omega) (fun r11 e11 => ?_))
      refine mm_iret dX11_person_79 rfl ⟨rfl, Nat.zero_le _⟩ ?_
      have cp := mm_cl2 (x := p) (n := a_np A) (by (try simp only [Int32.lt_iff_toInt_lt, Int32.le_iff_toInt_le, ← Int32.toInt_inj, vp_in_iff, Int32.reduceToInt, mm_t1, mm_t2, mm_t3, mm_t4, mm_t10] at h1 h4 h6 h8 h10 k5 k7 k14 ⊢); omega)
      refine h _ _ ?_ hf
      unfold z_person
      subst e3
      rw [if_pos (by (try simp only [Int32.lt_iff_toInt_lt, Int32.le_iff_toInt_le, ← Int32.toInt_inj, vp_in_iff, Int32.reduceToInt, mm_t1, mm_t2, mm_t3, mm_t4, mm_t10] at h1 h4 h6 h8 h10 k5 k7 k14 ⊢); omega), e11]
      unfold s_X4_hatOf
      rw [k7, if_pos (by (try simp only [Int32.lt_iff_toInt_lt, Int32.le_iff_toInt_le, ← Int32.toInt_inj, vp_in_iff, Int32.reduceToInt, mm_t1, mm_t2, mm_t3, mm_t4, mm_t10] at h1 h4 h6 h8 h10 k5 k7 k14 ⊢); omega), show Int32.toNatClampNeg s2 = 3 from by unfold Int32.toNatClampNeg; rw [h10]; rfl, hf.a 11]
      exact (ht.2.2.2.2.2 _ cp.2.1).2.2.2
    refine mm_tabOut 80 dX11_person_15 (by omega) (by decide) ?_
    refine mm_bipush 82 (-2) dX11_person_80 rfl (by decide) ?_
    refine mm_iret dX11_person_82 rfl ⟨rfl, Nat.zero_le _⟩ ?_
    refine h _ _ ?_ hf
    unfold z_person
    subst e3
    rw [if_neg (by (try simp only [Int32.lt_iff_toInt_lt, Int32.le_iff_toInt_le, ← Int32.toInt_inj, vp_in_iff, Int32.reduceToInt, mm_t1, mm_t2, mm_t3, mm_t4, mm_t10] at h1 h4 h6 h8 h10 k5 k7 k14); omega)]
  · refine mm_if_ne 14 11 dX11_person_8 (by decide) rfl (fun h => absurd h (by decide)) (fun _ => ?_)
    refine mm_bipush 13 (-2) dX11_person_11 rfl (by decide) ?_
    refine mm_iret dX11_person_13 rfl ⟨rfl, Nat.zero_le _⟩ ?_
    refine h _ _ ?_ hf
    unfold z_person
    rw [if_neg (by (try simp only [Int32.lt_iff_toInt_lt, Int32.le_iff_toInt_le, ← Int32.toInt_inj, vp_in_iff, Int32.reduceToInt, mm_t1, mm_t2, mm_t3, mm_t4, mm_t10] at h1 k5 k7 k14); omega)]

set_option maxHeartbeats 4000000 in
theorem c_X11_shadow {l : Launch} {G : mm_G} {d : Nat} {M : mm_M} {Q : Int32 → mm_T → mm_M → Prop} {A : mm_M} (hi : iv A) (hf : fr A M) {p t : Int32} (h : ∀ r M1, r = z_shadow A p t → fr A M1 → Q r T0 M1) : mm_met l G (d + 2) k_X11_shadow [.ref 0, .int p, .int t] T0 M (mm_pi Q) := by
  have n6 := hi.1.nl
  have n12 := hi.1.np
  have n24 := hi.1.ne.2
  have hd := hf.vd hi
  have k5 := hd.1.li
  have k7 := hd.1.pi
  have k14 := hd.1.ei
  refine mm_enter 0 [.ref 0, .int p, .int t] o_X11_shadow rfl rfl ?_
  refine mm_aload_0 1 dX11_shadow_0 rfl ?_
  refine mm_getR 4 dX11_shadow_1 f_X11_33 rfl t_0 rfl ?_
  refine mm_iload_1 5 dX11_shadow_4 rfl ?_
  refine mm_cV1i 8 dX11_shadow_5 v_X11_123 rfl t_7 (by decide) rfl rfl (Nat.le_of_ble_eq_true rfl) ⟨rfl, rfl⟩ ⟨Nat.zero_le _, Nat.zero_le _⟩ (c_X4_has  (fun h1 => ?_) (fun h1 => ?_))
  · refine mm_if_eq 30 11 dX11_shadow_8 (by decide) rfl (fun h => absurd h (by decide)) (fun _ => ?_)
    refine mm_iload_2 12 dX11_shadow_11 rfl ?_
    refine mm_cS1i 15 dX11_shadow_12 v_X11_140 rfl (Nat.le_of_ble_eq_true rfl) ⟨rfl, rfl⟩ ⟨Nat.zero_le _, Nat.zero_le _⟩ (c_X11_isHour  (fun h2 => ?_) (fun h2 => ?_))
    · refine mm_if_eq 30 18 dX11_shadow_15 (by decide) rfl (fun h => absurd h (by decide)) (fun _ => ?_)
      have cp := mm_cl2 (x := p) (n := a_np A) (by (try simp only [Int32.lt_iff_toInt_lt, Int32.le_iff_toInt_le, ← Int32.toInt_inj, vp_in_iff, Int32.reduceToInt, mm_t1, mm_t2, mm_t3, mm_t4, mm_t10] at h1 h2 k5 k7 k14 ⊢); omega)
      refine mm_aload_0 19 dX11_shadow_18 rfl ?_
      refine mm_getR 22 dX11_shadow_19 f_X11_33 rfl t_0 rfl ?_
      refine mm_iload_1 23 dX11_shadow_22 rfl ?_
      refine mm_iload_2 24 dX11_shadow_23 rfl ?_
      refine mm_cV2i 27 dX11_shadow_24 v_X11_143 rfl t_7 (by decide) rfl rfl (Nat.le_of_ble_eq_true rfl) ⟨rfl, rfl⟩ ⟨Nat.zero_le _, Nat.zero_le _⟩ (c_X4_shadowOf (by rw [k7]; omega) (fun r3 e3 => ?_))
      refine mm_goto 32 dX11_shadow_27 (by decide) ?_
      refine mm_iret dX11_shadow_32 rfl ⟨rfl, Nat.zero_le _⟩ ?_
      refine h _ _ ?_ hf
      unfold z_shadow
      rw [if_pos (by (try simp only [Int32.lt_iff_toInt_lt, Int32.le_iff_toInt_le, ← Int32.toInt_inj, vp_in_iff, Int32.reduceToInt, mm_t1, mm_t2, mm_t3, mm_t4, mm_t10] at h1 h2 k5 k7 k14 ⊢); omega)]
      rw [e3]
      exact (v_sh hd cp.2.1 cp.1 (by omega) (by omega)).1
    · refine mm_if_eq 30 18 dX11_shadow_15 (by decide) rfl (fun _ => ?_) (fun h => absurd h (by decide))
      refine mm_bipush 32 (-2) dX11_shadow_30 rfl (by decide) ?_
      refine mm_iret dX11_shadow_32 rfl ⟨rfl, Nat.zero_le _⟩ ?_
      refine h _ _ ?_ hf
      unfold z_shadow
      rw [if_neg (by (try simp only [Int32.lt_iff_toInt_lt, Int32.le_iff_toInt_le, ← Int32.toInt_inj, vp_in_iff, Int32.reduceToInt, mm_t1, mm_t2, mm_t3, mm_t4, mm_t10] at h1 h2 k5 k7 k14); omega)]
  · refine mm_if_eq 30 11 dX11_shadow_8 (by decide) rfl (fun _ => ?_) (fun h => absurd h (by decide))
    refine mm_bipush 32 (-2) dX11_shadow_30 rfl (by decide) ?_
    refine mm_iret dX11_shadow_32 rfl ⟨rfl, Nat.zero_le _⟩ ?_
    refine h _ _ ?_ hf
    unfold z_shadow
    rw [if_neg (by (try simp only [Int32.lt_iff_toInt_lt, Int32.le_iff_toInt_le, ← Int32.toInt_inj, vp_in_iff, Int32.reduceToInt, mm_t1, mm_t2, mm_t3, mm_t4, mm_t10] at h1 k5 k7 k14); omega)]

set_option maxHeartbeats 4000000 in
theorem c_X11_judged {l : Launch} {G : mm_G} {d : Nat} {M : mm_M} {Q : Int32 → mm_T → mm_M → Prop} {A : mm_M} (hi : iv A) (hf : fr A M) (h : ∀ r M1, r = z_judged A → fr A M1 → Q r T0 M1) : mm_met l G (d + 5) k_X11_judged [.ref 0] T0 M (mm_pi Q) := by
  have n6 := hi.1.nl
  have n12 := hi.1.np
  have n24 := hi.1.ne.2
  have hd := hf.vd hi
  have k5 := hd.1.li
  have k7 := hd.1.pi
  have k14 := hd.1.ei
  refine mm_enter 0 [.ref 0] o_X11_judged rfl rfl ?_
  refine mm_aload_0 1 dX11_judged_0 rfl ?_
  refine mm_getR 4 dX11_judged_1 f_X11_56 rfl t_0 rfl ?_
  refine mm_aload_0 5 dX11_judged_4 rfl ?_
  refine mm_getR 8 dX11_judged_5 f_X11_47 rfl t_0 rfl ?_
  refine mm_cV0i 11 dX11_judged_8 v_X11_165 rfl t_14 (by decide) rfl rfl (Nat.le_of_ble_eq_true rfl) ⟨rfl, rfl⟩ ⟨Nat.zero_le _, Nat.zero_le _⟩ (b_eno hi hf (fun r1 e1 => ?_))
  refine mm_iconst 12 (-1) dX11_judged_11 rfl (by decide) ?_
  refine mm_cV2v 15 dX11_judged_12 v_X11_190 rfl t_20 (by decide) rfl rfl (Nat.le_of_ble_eq_true rfl) ⟨rfl, rfl⟩ ⟨Nat.zero_le _, Nat.zero_le _⟩ (b_play hi hf e1 (Nat.le_refl _) (fun M2 g2 w2 X2 => ?_))
  refine mm_aload_0 16 dX11_judged_15 rfl ?_
  refine mm_getR 19 dX11_judged_16 f_X11_56 rfl t_0 rfl ?_
  refine mm_cV0i 22 dX11_judged_19 v_X11_193 rfl t_20 (by decide) rfl rfl (Nat.le_of_ble_eq_true rfl) ⟨rfl, rfl⟩ ⟨Nat.zero_le _, Nat.zero_le _⟩ (c_X10_firstAgainstLaw  (fun r3 e3 => ?_))
  refine mm_iret dX11_judged_22 rfl ⟨rfl, Nat.zero_le _⟩ ?_
  refine h _ _ ?_ X2
  rw [e3]
  exact w2.2.2.2.2.2

set_option maxHeartbeats 4000000 in
theorem c_X11_moved {l : Launch} {G : mm_G} {d : Nat} {M : mm_M} {Q : Int32 → mm_T → mm_M → Prop} {A : mm_M} (hi : iv A) (hf : fr A M) {e : Int32} (h : ∀ r M1, r = z_moved A e → fr A M1 → Q r T0 M1) : mm_met l G (d + 5) k_X11_moved [.ref 0, .int e] T0 M (mm_pi Q) := by
  have n6 := hi.1.nl
  have n12 := hi.1.np
  have n24 := hi.1.ne.2
  have hd := hf.vd hi
  have k5 := hd.1.li
  have k7 := hd.1.pi
  have k14 := hd.1.ei
  refine mm_enter 0 [.ref 0, .int e] o_X11_moved rfl rfl ?_
  refine mm_aload_0 1 dX11_moved_0 rfl ?_
  refine mm_getR 4 dX11_moved_1 f_X11_47 rfl t_0 rfl ?_
  refine mm_iload_1 5 dX11_moved_4 rfl ?_
  refine mm_cV1i 8 dX11_moved_5 v_X11_196 rfl t_14 (by decide) rfl rfl (Nat.le_of_ble_eq_true rfl) ⟨rfl, rfl⟩ ⟨Nat.zero_le _, Nat.zero_le _⟩ (c_X2_has  (fun h1 => ?_) (fun h1 => ?_))
  · refine mm_if_ne 15 11 dX11_moved_8 (by decide) rfl (fun _ => ?_) (fun h => absurd h (by decide))
    have ce := mm_cl2 (x := e) (n := a_ne A) (by (try simp only [Int32.lt_iff_toInt_lt, Int32.le_iff_toInt_le, ← Int32.toInt_inj, vp_in_iff, Int32.reduceToInt, mm_t1, mm_t2, mm_t3, mm_t4, mm_t10] at h1 k5 k7 k14 ⊢); omega)
    refine mm_aload_0 16 dX11_moved_15 rfl ?_
    refine mm_getR 19 dX11_moved_16 f_X11_56 rfl t_0 rfl ?_
    refine mm_iload_1 20 dX11_moved_19 rfl ?_
    refine mm_iconst 21 1 dX11_moved_20 rfl (by decide) ?_
    refine mm_iadd 22 dX11_moved_21 rfl ?_
    refine mm_iconst 23 (-1) dX11_moved_22 rfl (by decide) ?_
    refine mm_cV2v 26 dX11_moved_23 v_X11_190 rfl t_20 (by decide) rfl rfl (Nat.le_of_ble_eq_true rfl) ⟨rfl, rfl⟩ ⟨Nat.zero_le _, Nat.zero_le _⟩ (b_play hi hf (k := e.toNatClampNeg + 1) (by rw [mm_l1, ce.1, nI_add, mm_cn (by omega)]) (by omega) (fun M2 g2 w2 X2 => ?_))
    refine mm_aload_0 27 dX11_moved_26 rfl ?_
    refine mm_getR 30 dX11_moved_27 f_X11_56 rfl t_0 rfl ?_
    refine mm_cV0i 33 dX11_moved_30 v_X11_197 rfl t_20 (by decide) rfl rfl (Nat.le_of_ble_eq_true rfl) ⟨rfl, rfl⟩ ⟨Nat.zero_le _, Nat.zero_le _⟩ (c_X10_movedLast  (fun r3 e3 => ?_))
    refine mm_iret dX11_moved_33 rfl ⟨rfl, Nat.zero_le _⟩ ?_
    refine h _ _ ?_ X2
    unfold z_moved
    rw [if_pos (by (try simp only [Int32.lt_iff_toInt_lt, Int32.le_iff_toInt_le, ← Int32.toInt_inj, vp_in_iff, Int32.reduceToInt, mm_t1, mm_t2, mm_t3, mm_t4, mm_t10] at h1 k5 k7 k14 ⊢); omega)]
    rw [e3, g2]
    exact zm_c hi hf.lo ce.2.1
  · refine mm_if_ne 15 11 dX11_moved_8 (by decide) rfl (fun h => absurd h (by decide)) (fun _ => ?_)
    refine mm_sipush 14 (-10002) dX11_moved_11 rfl (by decide) ?_
    refine mm_iret dX11_moved_14 rfl ⟨rfl, Nat.zero_le _⟩ ?_
    refine h _ _ ?_ hf
    unfold z_moved
    rw [if_neg (by (try simp only [Int32.lt_iff_toInt_lt, Int32.le_iff_toInt_le, ← Int32.toInt_inj, vp_in_iff, Int32.reduceToInt, mm_t1, mm_t2, mm_t3, mm_t4, mm_t10] at h1 k5 k7 k14); omega)]

set_option maxHeartbeats 4000000 in
theorem c_X11_mayBeBehind {l : Launch} {G : mm_G} {d : Nat} {M : mm_M} {Q : Int32 → mm_T → mm_M → Prop} {A : mm_M} (hi : iv A) (hf : fr A M) {k : Int32} (ht : 0 ≤ k.toInt ∧ k.toInt ≤ a_ne A → Q 1 T0 M) (hn : ¬ (0 ≤ k.toInt ∧ k.toInt ≤ a_ne A) → Q 0 T0 M) : mm_met l G (d + 1) k_X11_mayBeBehind [.ref 0, .int k] T0 M (mm_pi Q) := by
  have n6 := hi.1.nl
  have n12 := hi.1.np
  have n24 := hi.1.ne.2
  have hd := hf.vd hi
  have k5 := hd.1.li
  have k7 := hd.1.pi
  have k14 := hd.1.ei
  refine mm_enter 0 [.ref 0, .int k] o_X11_mayBeBehind rfl rfl ?_
  refine mm_iload_1 1 dX11_mayBeBehind_0 rfl ?_
  refine mm_iconst 2 0 dX11_mayBeBehind_1 rfl (by decide) ?_
  refine mm_aload_0 3 dX11_mayBeBehind_2 rfl ?_
  refine mm_getR 6 dX11_mayBeBehind_3 f_X11_47 rfl t_0 rfl ?_
  refine mm_cV0i 9 dX11_mayBeBehind_6 v_X11_165 rfl t_14 (by decide) rfl rfl (Nat.le_of_ble_eq_true rfl) ⟨rfl, rfl⟩ ⟨Nat.zero_le _, Nat.zero_le _⟩ (c_X2_number  (fun r1 e1 => ?_))
  refine mm_cS3i 12 dX11_mayBeBehind_9 v_X11_98 rfl (Nat.le_of_ble_eq_true rfl) ⟨rfl, rfl⟩ ⟨Nat.zero_le _, Nat.zero_le _⟩ (c_X11_isWithin  (fun h2 => ?_) (fun h2 => ?_))
  · refine mm_zret dX11_mayBeBehind_12 rfl ⟨rfl, Nat.zero_le _⟩ (Or.inr rfl) ?_
    refine ht ?_
    rw [e1] at h2
    try simp only [Int32.lt_iff_toInt_lt, Int32.le_iff_toInt_le, ← Int32.toInt_inj, vp_in_iff, Int32.reduceToInt, mm_t1, mm_t2, mm_t3, mm_t4, mm_t10] at h2 k5 k7 k14 ⊢
    omega
  · refine mm_zret dX11_mayBeBehind_12 rfl ⟨rfl, Nat.zero_le _⟩ (Or.inl rfl) ?_
    refine hn ?_
    rw [e1] at h2
    try simp only [Int32.lt_iff_toInt_lt, Int32.le_iff_toInt_le, ← Int32.toInt_inj, vp_in_iff, Int32.reduceToInt, mm_t1, mm_t2, mm_t3, mm_t4, mm_t10] at h2 k5 k7 k14 ⊢
    omega

set_option maxHeartbeats 4000000 in
theorem c_X11_width {l : Launch} {G : mm_G} {d : Nat} {M : mm_M} {Q : Int32 → mm_T → mm_M → Prop} {A : mm_M} (hi : iv A) (hf : fr A M) {x k : Int32} (h : ∀ r M1, r = z_width A x k → fr A M1 → Q r T0 M1) : mm_met l G (d + 5) k_X11_width [.ref 0, .int x, .int k] T0 M (mm_pi Q) := by
  have n6 := hi.1.nl
  have n12 := hi.1.np
  have n24 := hi.1.ne.2
  have hd := hf.vd hi
  have k5 := hd.1.li
  have k7 := hd.1.pi
  have k14 := hd.1.ei
  refine mm_enter 0 [.ref 0, .int x, .int k] o_X11_width rfl rfl ?_
  refine mm_aload_0 1 dX11_width_0 rfl ?_
  refine mm_getR 4 dX11_width_1 f_X11_26 rfl t_0 rfl ?_
  refine mm_iload_1 5 dX11_width_4 rfl ?_
  refine mm_cV1i 8 dX11_width_5 v_X11_200 rfl t_5 (by decide) rfl rfl (Nat.le_of_ble_eq_true rfl) ⟨rfl, rfl⟩ ⟨Nat.zero_le _, Nat.zero_le _⟩ (c_X3_has  (fun h1 => ?_) (fun h1 => ?_))
  · refine mm_if_eq 19 11 dX11_width_8 (by decide) rfl (fun h => absurd h (by decide)) (fun _ => ?_)
    refine mm_aload_0 12 dX11_width_11 rfl ?_
    refine mm_iload_2 13 dX11_width_12 rfl ?_
    refine mm_cV1i 16 dX11_width_13 v_X11_201 rfl t_0 (by decide) rfl rfl (Nat.le_of_ble_eq_true rfl) ⟨rfl, rfl⟩ ⟨Nat.zero_le _, Nat.zero_le _⟩ (c_X11_mayBeBehind hi hf (fun h2 => ?_) (fun h2 => ?_))
    · refine mm_if_ne 22 19 dX11_width_16 (by decide) rfl (fun _ => ?_) (fun h => absurd h (by decide))
      have ck := mm_cl2 (x := k) (n := 25) (by (try simp only [Int32.lt_iff_toInt_lt, Int32.le_iff_toInt_le, ← Int32.toInt_inj, vp_in_iff, Int32.reduceToInt, mm_t1, mm_t2, mm_t3, mm_t4, mm_t10] at h1 h2 k5 k7 k14 ⊢); omega)
      refine mm_aload_0 23 dX11_width_22 rfl ?_
      refine mm_getR 26 dX11_width_23 f_X11_56 rfl t_0 rfl ?_
      refine mm_iload_2 27 dX11_width_26 rfl ?_
      refine mm_iconst 28 (-1) dX11_width_27 rfl (by decide) ?_
      refine mm_cV2v 31 dX11_width_28 v_X11_190 rfl t_20 (by decide) rfl rfl (Nat.le_of_ble_eq_true rfl) ⟨rfl, rfl⟩ ⟨Nat.zero_le _, Nat.zero_le _⟩ (b_play hi hf ck.1 (by omega) (fun M3 g3 w3 X3 => ?_))
      refine mm_aload_0 32 dX11_width_31 rfl ?_
      refine mm_getR 35 dX11_width_32 f_X11_56 rfl t_0 rfl ?_
      refine mm_iload_1 36 dX11_width_35 rfl ?_
      refine mm_cV1i 39 dX11_width_36 v_X11_204 rfl t_20 (by decide) rfl rfl (Nat.le_of_ble_eq_true rfl) ⟨rfl, rfl⟩ ⟨Nat.zero_le _, Nat.zero_le _⟩ (b_widthOf hi X3 w3 (by (try simp only [Int32.lt_iff_toInt_lt, Int32.le_iff_toInt_le, ← Int32.toInt_inj, vp_in_iff, Int32.reduceToInt, mm_t1, mm_t2, mm_t3, mm_t4, mm_t10] at h1 h2 k5 k7 k14 ⊢); omega) (fun r4 e4 => ?_))
      refine mm_iret dX11_width_39 rfl ⟨rfl, Nat.zero_le _⟩ ?_
      refine h _ _ ?_ X3
      unfold z_width
      rw [if_pos (by (try simp only [Int32.lt_iff_toInt_lt, Int32.le_iff_toInt_le, ← Int32.toInt_inj, vp_in_iff, Int32.reduceToInt, mm_t1, mm_t2, mm_t3, mm_t4, mm_t10] at h1 h2 k5 k7 k14 ⊢); omega)]
      exact e4
    · refine mm_if_ne 22 19 dX11_width_16 (by decide) rfl (fun h => absurd h (by decide)) (fun _ => ?_)
      refine mm_bipush 21 (-2) dX11_width_19 rfl (by decide) ?_
      refine mm_iret dX11_width_21 rfl ⟨rfl, Nat.zero_le _⟩ ?_
      refine h _ _ ?_ hf
      unfold z_width
      rw [if_neg (by (try simp only [Int32.lt_iff_toInt_lt, Int32.le_iff_toInt_le, ← Int32.toInt_inj, vp_in_iff, Int32.reduceToInt, mm_t1, mm_t2, mm_t3, mm_t4, mm_t10] at h1 h2 k5 k7 k14); omega)]
  · refine mm_if_eq 19 11 dX11_width_8 (by decide) rfl (fun _ => ?_) (fun h => absurd h (by decide))
    refine mm_bipush 21 (-2) dX11_width_19 rfl (by decide) ?_
    refine mm_iret dX11_width_21 rfl ⟨rfl, Nat.zero_le _⟩ ?_
    refine h _ _ ?_ hf
    unfold z_width
    rw [if_neg (by (try simp only [Int32.lt_iff_toInt_lt, Int32.le_iff_toInt_le, ← Int32.toInt_inj, vp_in_iff, Int32.reduceToInt, mm_t1, mm_t2, mm_t3, mm_t4, mm_t10] at h1 k5 k7 k14); omega)]

set_option maxHeartbeats 4000000 in
theorem c_X11_state {l : Launch} {G : mm_G} {d : Nat} {M : mm_M} {Q : Int32 → mm_T → mm_M → Prop} {A : mm_M} (hi : iv A) (hf : fr A M) {p k w : Int32} (h : ∀ r M1, r = z_state A p k w → fr A M1 → Q r T0 M1) : mm_met l G (d + 5) k_X11_state [.ref 0, .int p, .int k, .int w] T0 M (mm_pi Q) := by
  have n6 := hi.1.nl
  have n12 := hi.1.np
  have n24 := hi.1.ne.2
  have hd := hf.vd hi
  have k5 := hd.1.li
  have k7 := hd.1.pi
  have k14 := hd.1.ei
  refine mm_enter 0 [.ref 0, .int p, .int k, .int w] o_X11_state rfl rfl ?_
  refine mm_aload_0 1 dX11_state_0 rfl ?_
  refine mm_getR 4 dX11_state_1 f_X11_33 rfl t_0 rfl ?_
  refine mm_iload_1 5 dX11_state_4 rfl ?_
  refine mm_cV1i 8 dX11_state_5 v_X11_123 rfl t_7 (by decide) rfl rfl (Nat.le_of_ble_eq_true rfl) ⟨rfl, rfl⟩ ⟨Nat.zero_le _, Nat.zero_le _⟩ (c_X4_has  (fun h1 => ?_) (fun h1 => ?_))
  · refine mm_if_eq 19 11 dX11_state_8 (by decide) rfl (fun h => absurd h (by decide)) (fun _ => ?_)
    refine mm_aload_0 12 dX11_state_11 rfl ?_
    refine mm_iload_2 13 dX11_state_12 rfl ?_
    refine mm_cV1i 16 dX11_state_13 v_X11_201 rfl t_0 (by decide) rfl rfl (Nat.le_of_ble_eq_true rfl) ⟨rfl, rfl⟩ ⟨Nat.zero_le _, Nat.zero_le _⟩ (c_X11_mayBeBehind hi hf (fun h2 => ?_) (fun h2 => ?_))
    · refine mm_if_ne 22 19 dX11_state_16 (by decide) rfl (fun _ => ?_) (fun h => absurd h (by decide))
      have ck := mm_cl2 (x := k) (n := 25) (by (try simp only [Int32.lt_iff_toInt_lt, Int32.le_iff_toInt_le, ← Int32.toInt_inj, vp_in_iff, Int32.reduceToInt, mm_t1, mm_t2, mm_t3, mm_t4, mm_t10] at h1 h2 k5 k7 k14 ⊢); omega)
      refine mm_aload_0 23 dX11_state_22 rfl ?_
      refine mm_getR 26 dX11_state_23 f_X11_56 rfl t_0 rfl ?_
      refine mm_iload_2 27 dX11_state_26 rfl ?_
      refine mm_iconst 28 (-1) dX11_state_27 rfl (by decide) ?_
      refine mm_cV2v 31 dX11_state_28 v_X11_190 rfl t_20 (by decide) rfl rfl (Nat.le_of_ble_eq_true rfl) ⟨rfl, rfl⟩ ⟨Nat.zero_le _, Nat.zero_le _⟩ (b_play hi hf ck.1 (by omega) (fun M3 g3 w3 X3 => ?_))
      refine mm_iload_3 32 dX11_state_31 rfl ?_
      refine mm_topi (fun s4 e5 => ?_)
      by_cases h6 : s4.toInt = 0
      · skip
        refine mm_tabIn 60 dX11_state_32 (by rw [h6]; decide) (by rw [h6]; decide) (off := 28) (by rw [h6]; rfl) (by decide) ?_
        refine mm_aload_0 61 dX11_state_60 rfl ?_
        refine mm_getR 64 dX11_state_61 f_X11_56 rfl t_0 rfl ?_
        refine mm_iload_1 65 dX11_state_64 rfl ?_
        refine mm_cV1i 68 dX11_state_65 v_X11_207 rfl t_20 (by decide) rfl rfl (Nat.le_of_ble_eq_true rfl) ⟨rfl, rfl⟩ ⟨Nat.zero_le _, Nat.zero_le _⟩ (b_partnerOf hi X3 w3 (by (try simp only [Int32.lt_iff_toInt_lt, Int32.le_iff_toInt_le, ← Int32.toInt_inj, vp_in_iff, Int32.reduceToInt, mm_t1, mm_t2, mm_t3, mm_t4, mm_t10] at h1 k5 k7 k14 ⊢); omega) (fun r7 e7 => ?_))
        refine mm_iret dX11_state_68 rfl ⟨rfl, Nat.zero_le _⟩ ?_
        subst e5
        refine h _ _ ?_ X3
        unfold z_state z_now
        rw [if_pos (by (try simp only [Int32.lt_iff_toInt_lt, Int32.le_iff_toInt_le, ← Int32.toInt_inj, vp_in_iff, Int32.reduceToInt, mm_t1, mm_t2, mm_t3, mm_t4, mm_t10] at h1 h2 h6 k5 k7 k14 ⊢); omega), if_pos (by omega)]
        exact e7
      by_cases h8 : s4.toInt = 1
      · skip
        refine mm_tabIn 69 dX11_state_32 (by rw [h8]; decide) (by rw [h8]; decide) (off := 37) (by rw [h8]; rfl) (by decide) ?_
        refine mm_aload_0 70 dX11_state_69 rfl ?_
        refine mm_getR 73 dX11_state_70 f_X11_56 rfl t_0 rfl ?_
        refine mm_iload_1 74 dX11_state_73 rfl ?_
        refine mm_cV1i 77 dX11_state_74 v_X11_210 rfl t_20 (by decide) rfl rfl (Nat.le_of_ble_eq_true rfl) ⟨rfl, rfl⟩ ⟨Nat.zero_le _, Nat.zero_le _⟩ (b_provinceOf hi X3 w3 (by (try simp only [Int32.lt_iff_toInt_lt, Int32.le_iff_toInt_le, ← Int32.toInt_inj, vp_in_iff, Int32.reduceToInt, mm_t1, mm_t2, mm_t3, mm_t4, mm_t10] at h1 k5 k7 k14 ⊢); omega) (fun r9 e9 => ?_))
        refine mm_iret dX11_state_77 rfl ⟨rfl, Nat.zero_le _⟩ ?_
        subst e5
        refine h _ _ ?_ X3
        unfold z_state z_now
        rw [if_pos (by (try simp only [Int32.lt_iff_toInt_lt, Int32.le_iff_toInt_le, ← Int32.toInt_inj, vp_in_iff, Int32.reduceToInt, mm_t1, mm_t2, mm_t3, mm_t4, mm_t10] at h1 h2 h6 h8 k5 k7 k14 ⊢); omega), if_neg (by omega), if_pos (by omega)]
        exact e9
      by_cases h10 : s4.toInt = 2
      · skip
        refine mm_tabIn 78 dX11_state_32 (by rw [h10]; decide) (by rw [h10]; decide) (off := 46) (by rw [h10]; rfl) (by decide) ?_
        refine mm_aload_0 79 dX11_state_78 rfl ?_
        refine mm_getR 82 dX11_state_79 f_X11_56 rfl t_0 rfl ?_
        refine mm_iload_1 83 dX11_state_82 rfl ?_
        refine mm_cV1i 86 dX11_state_83 v_X11_213 rfl t_20 (by decide) rfl rfl (Nat.le_of_ble_eq_true rfl) ⟨rfl, rfl⟩ ⟨Nat.zero_le _, Nat.zero_le _⟩ (b_isAlive hi X3 w3 (by (try simp only [Int32.lt_iff_toInt_lt, Int32.le_iff_toInt_le, ← Int32.toInt_inj, vp_in_iff, Int32.reduceToInt, mm_t1, mm_t2, mm_t3, mm_t4, mm_t10] at h1 k5 k7 k14 ⊢); omega) (fun h11 => ?_) (fun h11 => ?_))
        · refine mm_if_eq 93 89 dX11_state_86 (by decide) rfl (fun h => absurd h (by decide)) (fun _ => ?_)
          refine mm_iconst 90 1 dX11_state_89 rfl (by decide) ?_
          refine mm_goto 94 dX11_state_90 (by decide) ?_
          refine mm_iret dX11_state_94 rfl ⟨rfl, Nat.zero_le _⟩ ?_
          subst e5
          refine h _ _ ?_ X3
          unfold z_state z_now
          rw [if_pos (by (try simp only [Int32.lt_iff_toInt_lt, Int32.le_iff_toInt_le, ← Int32.toInt_inj, vp_in_iff, Int32.reduceToInt, mm_t1, mm_t2, mm_t3, mm_t4, mm_t10] at h1 h2 h6 h8 h10 k5 k7 k14 ⊢); omega), if_neg (by omega), if_neg (by omega)]
          exact h11
        · refine mm_if_eq 93 89 dX11_state_86 (by decide) rfl (fun _ => ?_) (fun h => absurd h (by decide))
          refine mm_iconst 94 0 dX11_state_93 rfl (by decide) ?_
          refine mm_iret dX11_state_94 rfl ⟨rfl, Nat.zero_le _⟩ ?_
          subst e5
          refine h _ _ ?_ X3
          unfold z_state z_now
          rw [if_pos (by (try simp only [Int32.lt_iff_toInt_lt, Int32.le_iff_toInt_le, ← Int32.toInt_inj, vp_in_iff, Int32.reduceToInt, mm_t1, mm_t2, mm_t3, mm_t4, mm_t10] at h1 h2 h6 h8 h10 k5 k7 k14 ⊢); omega), if_neg (by omega), if_neg (by omega)]
          exact h11
      refine mm_tabOut 95 dX11_state_32 (by omega) (by decide) ?_
      refine mm_bipush 97 (-2) dX11_state_95 rfl (by decide) ?_
      refine mm_iret dX11_state_97 rfl ⟨rfl, Nat.zero_le _⟩ ?_
      refine h _ _ ?_ X3
      unfold z_state
      subst e5
      rw [if_neg (by (try simp only [Int32.lt_iff_toInt_lt, Int32.le_iff_toInt_le, ← Int32.toInt_inj, vp_in_iff, Int32.reduceToInt, mm_t1, mm_t2, mm_t3, mm_t4, mm_t10] at h1 h2 h6 h8 h10 k5 k7 k14); omega)]
    · refine mm_if_ne 22 19 dX11_state_16 (by decide) rfl (fun h => absurd h (by decide)) (fun _ => ?_)
      refine mm_bipush 21 (-2) dX11_state_19 rfl (by decide) ?_
      refine mm_iret dX11_state_21 rfl ⟨rfl, Nat.zero_le _⟩ ?_
      refine h _ _ ?_ hf
      unfold z_state
      rw [if_neg (by (try simp only [Int32.lt_iff_toInt_lt, Int32.le_iff_toInt_le, ← Int32.toInt_inj, vp_in_iff, Int32.reduceToInt, mm_t1, mm_t2, mm_t3, mm_t4, mm_t10] at h1 h2 k5 k7 k14); omega)]
  · refine mm_if_eq 19 11 dX11_state_8 (by decide) rfl (fun _ => ?_) (fun h => absurd h (by decide))
    refine mm_bipush 21 (-2) dX11_state_19 rfl (by decide) ?_
    refine mm_iret dX11_state_21 rfl ⟨rfl, Nat.zero_le _⟩ ?_
    refine h _ _ ?_ hf
    unfold z_state
    rw [if_neg (by (try simp only [Int32.lt_iff_toInt_lt, Int32.le_iff_toInt_le, ← Int32.toInt_inj, vp_in_iff, Int32.reduceToInt, mm_t1, mm_t2, mm_t3, mm_t4, mm_t10] at h1 k5 k7 k14); omega)]

set_option maxHeartbeats 4000000 in
theorem c_X11_nobody {l : Launch} {G : mm_G} {d : Nat} {M : mm_M} {Q : Int32 → mm_T → mm_M → Prop} {A : mm_M} (hi : iv A) (hf : fr A M) {k : Int32} (h : ∀ r M1, r = z_nobody A k → fr A M1 → Q r T0 M1) : mm_met l G (d + 5) k_X11_nobody [.ref 0, .int k] T0 M (mm_pi Q) := by
  have n6 := hi.1.nl
  have n12 := hi.1.np
  have n24 := hi.1.ne.2
  have hd := hf.vd hi
  have k5 := hd.1.li
  have k7 := hd.1.pi
  have k14 := hd.1.ei
  refine mm_enter 0 [.ref 0, .int k] o_X11_nobody rfl rfl ?_
  refine mm_aload_0 1 dX11_nobody_0 rfl ?_
  refine mm_iload_1 2 dX11_nobody_1 rfl ?_
  refine mm_cV1i 5 dX11_nobody_2 v_X11_201 rfl t_0 (by decide) rfl rfl (Nat.le_of_ble_eq_true rfl) ⟨rfl, rfl⟩ ⟨Nat.zero_le _, Nat.zero_le _⟩ (c_X11_mayBeBehind hi hf (fun h1 => ?_) (fun h1 => ?_))
  · refine mm_if_ne 11 8 dX11_nobody_5 (by decide) rfl (fun _ => ?_) (fun h => absurd h (by decide))
    have ck := mm_cl2 (x := k) (n := 25) (by (try simp only [Int32.lt_iff_toInt_lt, Int32.le_iff_toInt_le, ← Int32.toInt_inj, vp_in_iff, Int32.reduceToInt, mm_t1, mm_t2, mm_t3, mm_t4, mm_t10] at h1 k5 k7 k14 ⊢); omega)
    refine mm_aload_0 12 dX11_nobody_11 rfl ?_
    refine mm_getR 15 dX11_nobody_12 f_X11_56 rfl t_0 rfl ?_
    refine mm_iload_1 16 dX11_nobody_15 rfl ?_
    refine mm_iconst 17 (-1) dX11_nobody_16 rfl (by decide) ?_
    refine mm_cV2v 20 dX11_nobody_17 v_X11_190 rfl t_20 (by decide) rfl rfl (Nat.le_of_ble_eq_true rfl) ⟨rfl, rfl⟩ ⟨Nat.zero_le _, Nat.zero_le _⟩ (b_play hi hf ck.1 (by omega) (fun M2 g2 w2 X2 => ?_))
    refine mm_aload_0 21 dX11_nobody_20 rfl ?_
    refine mm_getR 24 dX11_nobody_21 f_X11_56 rfl t_0 rfl ?_
    refine mm_cV0i 27 dX11_nobody_24 v_X11_216 rfl t_20 (by decide) rfl rfl (Nat.le_of_ble_eq_true rfl) ⟨rfl, rfl⟩ ⟨Nat.zero_le _, Nat.zero_le _⟩ (c_X10_nobodys  (fun r3 e3 => ?_))
    refine mm_iret dX11_nobody_27 rfl ⟨rfl, Nat.zero_le _⟩ ?_
    refine h _ _ ?_ X2
    unfold z_nobody
    rw [if_pos (by (try simp only [Int32.lt_iff_toInt_lt, Int32.le_iff_toInt_le, ← Int32.toInt_inj, vp_in_iff, Int32.reduceToInt, mm_t1, mm_t2, mm_t3, mm_t4, mm_t10] at h1 k5 k7 k14 ⊢); omega)]
    rw [e3]
    exact w2.2.2.2.1
  · refine mm_if_ne 11 8 dX11_nobody_5 (by decide) rfl (fun h => absurd h (by decide)) (fun _ => ?_)
    refine mm_bipush 10 (-2) dX11_nobody_8 rfl (by decide) ?_
    refine mm_iret dX11_nobody_10 rfl ⟨rfl, Nat.zero_le _⟩ ?_
    refine h _ _ ?_ hf
    unfold z_nobody
    rw [if_neg (by (try simp only [Int32.lt_iff_toInt_lt, Int32.le_iff_toInt_le, ← Int32.toInt_inj, vp_in_iff, Int32.reduceToInt, mm_t1, mm_t2, mm_t3, mm_t4, mm_t10] at h1 k5 k7 k14); omega)]

set_option maxHeartbeats 4000000 in
theorem c_X11_without {l : Launch} {G : mm_G} {d : Nat} {M : mm_M} {Q : Int32 → mm_T → mm_M → Prop} {A : mm_M} (hi : iv A) (hf : fr A M) {e x : Int32} (h : ∀ r M1, r = z_without A e x → fr A M1 → Q r T0 M1) : mm_met l G (d + 5) k_X11_without [.ref 0, .int e, .int x] T0 M (mm_pi Q) := by
  have n6 := hi.1.nl
  have n12 := hi.1.np
  have n24 := hi.1.ne.2
  have hd := hf.vd hi
  have k5 := hd.1.li
  have k7 := hd.1.pi
  have k14 := hd.1.ei
  refine mm_enter 0 [.ref 0, .int e, .int x] o_X11_without rfl rfl ?_
  refine mm_aload_0 1 dX11_without_0 rfl ?_
  refine mm_getR 4 dX11_without_1 f_X11_47 rfl t_0 rfl ?_
  refine mm_iload_1 5 dX11_without_4 rfl ?_
  refine mm_cV1i 8 dX11_without_5 v_X11_196 rfl t_14 (by decide) rfl rfl (Nat.le_of_ble_eq_true rfl) ⟨rfl, rfl⟩ ⟨Nat.zero_le _, Nat.zero_le _⟩ (c_X2_has  (fun h1 => ?_) (fun h1 => ?_))
  · refine mm_if_eq 22 11 dX11_without_8 (by decide) rfl (fun h => absurd h (by decide)) (fun _ => ?_)
    refine mm_aload_0 12 dX11_without_11 rfl ?_
    refine mm_getR 15 dX11_without_12 f_X11_26 rfl t_0 rfl ?_
    refine mm_iload_2 16 dX11_without_15 rfl ?_
    refine mm_cV1i 19 dX11_without_16 v_X11_200 rfl t_5 (by decide) rfl rfl (Nat.le_of_ble_eq_true rfl) ⟨rfl, rfl⟩ ⟨Nat.zero_le _, Nat.zero_le _⟩ (c_X3_has  (fun h2 => ?_) (fun h2 => ?_))
    · refine mm_if_ne 25 22 dX11_without_19 (by decide) rfl (fun _ => ?_) (fun h => absurd h (by decide))
      refine mm_aload_0 26 dX11_without_25 rfl ?_
      refine mm_getR 29 dX11_without_26 f_X11_56 rfl t_0 rfl ?_
      refine mm_aload_0 30 dX11_without_29 rfl ?_
      refine mm_getR 33 dX11_without_30 f_X11_47 rfl t_0 rfl ?_
      refine mm_cV0i 36 dX11_without_33 v_X11_165 rfl t_14 (by decide) rfl rfl (Nat.le_of_ble_eq_true rfl) ⟨rfl, rfl⟩ ⟨Nat.zero_le _, Nat.zero_le _⟩ (b_eno hi hf (fun r3 e3 => ?_))
      refine mm_iload_1 37 dX11_without_36 rfl ?_
      refine mm_cV2v 40 dX11_without_37 v_X11_190 rfl t_20 (by decide) rfl rfl (Nat.le_of_ble_eq_true rfl) ⟨rfl, rfl⟩ ⟨Nat.zero_le _, Nat.zero_le _⟩ (b_play hi hf e3 (Nat.le_refl _) (fun M4 g4 w4 X4 => ?_))
      refine mm_aload_0 41 dX11_without_40 rfl ?_
      refine mm_getR 44 dX11_without_41 f_X11_56 rfl t_0 rfl ?_
      refine mm_iload_2 45 dX11_without_44 rfl ?_
      refine mm_cV1i 48 dX11_without_45 v_X11_204 rfl t_20 (by decide) rfl rfl (Nat.le_of_ble_eq_true rfl) ⟨rfl, rfl⟩ ⟨Nat.zero_le _, Nat.zero_le _⟩ (b_widthOf hi X4 w4 (by (try simp only [Int32.lt_iff_toInt_lt, Int32.le_iff_toInt_le, ← Int32.toInt_inj, vp_in_iff, Int32.reduceToInt, mm_t1, mm_t2, mm_t3, mm_t4, mm_t10] at h1 h2 k5 k7 k14 ⊢); omega) (fun r5 e5 => ?_))
      refine mm_iret dX11_without_48 rfl ⟨rfl, Nat.zero_le _⟩ ?_
      refine h _ _ ?_ X4
      unfold z_without
      rw [if_pos (by (try simp only [Int32.lt_iff_toInt_lt, Int32.le_iff_toInt_le, ← Int32.toInt_inj, vp_in_iff, Int32.reduceToInt, mm_t1, mm_t2, mm_t3, mm_t4, mm_t10] at h1 h2 k5 k7 k14 ⊢); omega)]
      exact e5
    · refine mm_if_ne 25 22 dX11_without_19 (by decide) rfl (fun h => absurd h (by decide)) (fun _ => ?_)
      refine mm_bipush 24 (-2) dX11_without_22 rfl (by decide) ?_
      refine mm_iret dX11_without_24 rfl ⟨rfl, Nat.zero_le _⟩ ?_
      refine h _ _ ?_ hf
      unfold z_without
      rw [if_neg (by (try simp only [Int32.lt_iff_toInt_lt, Int32.le_iff_toInt_le, ← Int32.toInt_inj, vp_in_iff, Int32.reduceToInt, mm_t1, mm_t2, mm_t3, mm_t4, mm_t10] at h1 h2 k5 k7 k14); omega)]
  · refine mm_if_eq 22 11 dX11_without_8 (by decide) rfl (fun _ => ?_) (fun h => absurd h (by decide))
    refine mm_bipush 24 (-2) dX11_without_22 rfl (by decide) ?_
    refine mm_iret dX11_without_24 rfl ⟨rfl, Nat.zero_le _⟩ ?_
    refine h _ _ ?_ hf
    unfold z_without
    rw [if_neg (by (try simp only [Int32.lt_iff_toInt_lt, Int32.le_iff_toInt_le, ← Int32.toInt_inj, vp_in_iff, Int32.reduceToInt, mm_t1, mm_t2, mm_t3, mm_t4, mm_t10] at h1 k5 k7 k14); omega)]

