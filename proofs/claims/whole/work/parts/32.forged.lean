/-! forged and unlike -/
def zh (A : mm_M) (p : Nat) (v : Int32) : mm_M := mm_up (zz A) 59 (4 * p + 2) v
def z_ov (A X : mm_M) : Nat → Nat := cnt (ov (gw X) (A 39) (A 40) (A 41) (a_nl A) (a_ne A + 1))
def z_un (A : mm_M) : Nat → Nat := cnt (un (A 39) (A 40) (a_nl A) (a_ne A))
def z_unlike (A : mm_M) : Int32 := nI (z_un A (a_ns A) + z_ov A (zz A) (a_ns A))
def z_sb (h : Nat) : Int32 := 1 <<< ((nI h - 1) &&& 31)
def z_fb (A : mm_M) (p : Nat) : Nat → Int32
  | 0 => 0
  | h + 1 => if z_ov A (zh A p (nI (h + 1))) (a_ns A) = 0 then z_fb A p h ||| z_sb (h + 1) else z_fb A p h
def z_forged (A : mm_M) (p : Int32) : Int32 := if 0 ≤ p.toInt ∧ p.toInt < a_np A then z_fb A p.toNatClampNeg 9 else -2
theorem z_fb_t {A : mm_M} {p h : Nat} (q : z_ov A (zh A p (nI (h + 1))) (a_ns A) = 0) : z_fb A p (h + 1) = z_fb A p h ||| z_sb (h + 1) := by show (if _ then _ else _) = _; rw [if_pos q]
theorem z_fb_f {A : mm_M} {p h : Nat} (q : ¬ z_ov A (zh A p (nI (h + 1))) (a_ns A) = 0) : z_fb A p (h + 1) = z_fb A p h := by show (if _ then _ else _) = _; rw [if_neg q]
theorem cnt_le {f : Nat → Bool} : ∀ n, cnt f n ≤ n
  | 0 => Nat.le_refl _
  | n + 1 => by
    have := cnt_le (f := f) n
    unfold cnt
    split <;> omega
theorem v_d.hgt {M X : mm_M} {nl np ne p : Nat} {v : Int32} (h : v_d M X nl np ne) (hp : p < np) (hv : 0 ≤ v.toInt ∧ v.toInt ≤ 9) : v_d (mm_up M 10 p v) (mm_up X 59 (4 * p + 2) v) nl np ne := by
  obtain ⟨⟨a1, a2, a3, a4, a5, a6, a7⟩, h2, h3, h4, h5, h6, h7, h8⟩ := h
  refine ⟨⟨a1, a2, a3, by rw [mm_upn _ _ _ (by decide)]; exact a4, by rw [mm_upn _ _ _ (by decide)]; exact a5, by rw [mm_upn _ _ _ (by decide)]; exact a6, by rw [mm_upn _ _ _ (by decide)]; exact a7⟩, by rw [mm_upn _ _ _ (by decide)]; exact h2, by rw [mm_upn _ _ _ (by decide)]; exact h3, by rw [mm_upn _ _ _ (by decide)]; exact h4, by rw [mm_upn _ _ _ (by decide), mm_upn _ _ _ (by decide)]; exact h5, ?_, by rw [mm_upn _ _ _ (by decide), mm_upn _ _ _ (by decide)]; exact h7, ?_⟩
  · intro q hq
    obtain ⟨⟨b1, b2, b3, b4⟩, b5, b6, b7⟩ := h6 q hq
    rw [mm_upn _ _ _ (show (8:Nat) ≠ 10 by decide), mm_upn _ _ _ (show (9:Nat) ≠ 10 by decide), mm_upn _ _ _ (show (11:Nat) ≠ 10 by decide), mm_upc, mm_upc]
    simp only [upd]
    rw [if_neg (show ¬ 4 * q = 4 * p + 2 by omega), if_neg (show ¬ 4 * q + 1 = 4 * p + 2 by omega), if_neg (show ¬ 4 * q + 3 = 4 * p + 2 by omega)]
    by_cases e : q = p
    · rw [if_pos e, if_pos (show 4 * q + 2 = 4 * p + 2 by omega)]
      exact ⟨⟨b1, b2, rfl, b4⟩, b5, hv, b7⟩
    · rw [if_neg e, if_neg (show ¬ 4 * q + 2 = 4 * p + 2 by omega)]
      exact ⟨⟨b1, b2, b3, b4⟩, b5, b6, b7⟩
  · rw [mm_upn _ _ _ (show (16:Nat) ≠ 10 by decide), mm_upn _ _ _ (show (15:Nat) ≠ 10 by decide), mm_upn _ _ _ (show (17:Nat) ≠ 10 by decide), mm_upn _ _ _ (show (18:Nat) ≠ 10 by decide), mm_upn _ _ _ (show (19:Nat) ≠ 10 by decide), mm_upn _ _ _ (show (61:Nat) ≠ 59 by decide)]
    intro e he
    obtain ⟨b1, b2, b3⟩ := h8 e he
    refine ⟨b1, ?_, b3⟩
    unfold g_ev at b2 ⊢
    rw [mm_upn _ _ _ (show (61:Nat) ≠ 59 by decide)]
    exact b2
theorem g_pre.hgt {X : mm_M} {p : Nat} {v : Int32} (h : g_pre X) : g_pre (mm_up X 59 (4 * p + 2) v) := by
  obtain ⟨h1, np, h2, h3, h4⟩ := h
  refine ⟨by rw [mm_upn _ _ _ (by decide)]; exact h1, np, h2, by rw [mm_upn _ _ _ (by decide)]; exact h3, fun q hq => ?_⟩
  rw [mm_upc]
  simp only [upd]
  rw [if_neg (show ¬ 4 * q + 1 = 4 * p + 2 by omega)]
  exact h4 q hq
theorem zh_d {A : mm_M} (hi : iv A) {p : Nat} {v : Int32} (hp : p < a_np A) (hv : 0 ≤ v.toInt ∧ v.toInt ≤ 9) : v_d (mm_up A 10 p v) (zh A p v) (a_nl A) (a_np A) (a_ne A) := ((zz_x A).vd hi (M := A) (fun _ _ => rfl)).hgt hp hv
theorem zh_p {A : mm_M} (hi : iv A) {p : Nat} {v : Int32} : g_pre (zh A p v) := ((zz_x A).pre hi).hgt
theorem mm_up2 (M : mm_M) (c a : Nat) (v w : Int32) : mm_up (mm_up M c a v) c a w = mm_up M c a w := by
  funext i j
  by_cases h1 : i = c
  · subst h1
    simp only [mm_upc, upd]
    split <;> rfl
  · simp [mm_up, va_up, h1]
theorem fr_h {A M : mm_M} {p : Nat} {v w : Int32} (h : fr (mm_up A 10 p v) M) : fr (mm_up A 10 p w) (mm_up M 10 p w) := by
  refine ⟨fun c hc => ?_, ?_, ?_, ?_⟩
  · by_cases e : c = 10
    · subst e
      have := h.1 10 hc
      rw [mm_upc, mm_upc, this, mm_upc]
      funext j
      simp only [upd]
      split <;> rfl
    · rw [mm_upn _ _ _ e, mm_upn _ _ _ e, h.1 c hc, mm_upn _ _ _ e]
  · rw [mm_upn _ _ _ (by decide), mm_upn _ _ _ (by decide), h.2.1, mm_upn _ _ _ (by decide)]
  · rw [mm_upn _ _ _ (by decide), mm_upn _ _ _ (by decide), h.2.2.1, mm_upn _ _ _ (by decide)]
  · rw [mm_upn _ _ _ (by decide), mm_upn _ _ _ (by decide), h.2.2.2, mm_upn _ _ _ (by decide)]

set_option maxHeartbeats 4000000 in
theorem c_X4_setHeight {l : Launch} {G : mm_G} {d : Nat} {M : mm_M} {Q : mm_T → mm_M → Prop} {x v : Int32} {p np : Nat} (hn : M 7 4 = nI np) (hn12 : np ≤ 12) (hx : x = nI p) (hp : p < np) (h : Q T0 (mm_up M 10 p v)) : mm_met l G (d + 1) k_X4_setHeight [.ref 7, .int x, .int v] T0 M (mm_pv Q) := by
  have k7 : (M 7 4).toInt = np := by rw [hn]; exact mm_ti (by omega)
  have xi : x.toInt = p := by rw [hx]; exact mm_ti (by omega)
  refine mm_enter 0 [.ref 7, .int x, .int v] o_X4_setHeight rfl rfl ?_
  refine mm_aload_0 1 dX4_setHeight_0 rfl ?_
  refine mm_iload_1 2 dX4_setHeight_1 rfl ?_
  refine mm_cV1i 5 dX4_setHeight_2 v_X4_31 rfl t_7 (by decide) rfl rfl (Nat.le_of_ble_eq_true rfl) ⟨rfl, rfl⟩ ⟨Nat.zero_le _, Nat.zero_le _⟩ (c_X4_has (fun h1 => ?_) (fun h1 => absurd ⟨by omega, by omega⟩ h1))
  refine mm_if_eq 15 8 dX4_setHeight_5 (by decide) rfl (fun h => absurd h (by decide)) (fun _ => ?_)
  refine mm_aload_0 9 dX4_setHeight_8 rfl ?_
  refine mm_getR 12 dX4_setHeight_9 f_X4_18 rfl t_7 rfl ?_
  refine mm_iload_1 13 dX4_setHeight_12 rfl ?_
  refine mm_iload_2 14 dX4_setHeight_13 rfl ?_
  refine mm_iastoren 15 (p) dX4_setHeight_14 rfl t_10 (by decide) (hx) (by omega) ?_
  refine mm_vret dX4_setHeight_15 rfl ⟨rfl, Nat.zero_le _⟩ ?_
  exact h

set_option maxHeartbeats 4000000 in
theorem w_X11_forged {l : Launch} {G : mm_G} {d : Nat} {Q : Int32 → mm_T → mm_M → Prop} {A : mm_M} (hi : iv A) {x : Int32} {p : Nat} (hx : x = nI p) (hp : p < a_np A) (h : ∀ r M1, r = z_fb A p 9 → fr A M1 → Q r T0 M1) : ∀ (z g : Nat) (Mi : mm_M) {v : Int32}, 9 - g ≤ z → g ≤ 9 → fr (mm_up A 10 p v) Mi → mm_wp l G (d + 5) k_X11_forged (mm_pi Q) 28 [.ref 0, .int x, .int (A 10 p), .int (z_fb A p g), .int (nI (g + 1))] [] T0 Mi 0 0 := by
  have n6 := hi.1.nl
  have n12 := hi.1.np
  have n24 := hi.1.ne.2
  have n8 := hi.1.ns.2
  intro z
  induction z using Nat.strongRecOn with | _ z ih => ?_
  intro g Mi v hze hg hq
  have hgi1 : (nI (g + 1)).toInt = (g + 1 : Nat) := mm_ti (by omega)
  have k7e : Mi 7 4 = nI (a_np A) := by rw [hq.a 7, mm_upn _ _ _ (by decide)]; exact hi.2.2.1.2.2.2.1
  refine mm_iload_4 30 dX11_forged_28 rfl ?_
  refine mm_bipush 32 9 dX11_forged_30 rfl (by decide) ?_
  refine mm_ic_gt 82 35 dX11_forged_32 (by decide) rfl (fun h1 => ?_) (fun h1 => ?_)
  · refine mm_aload_0 83 dX11_forged_82 rfl ?_
    refine mm_getR 86 dX11_forged_83 f_X11_33 rfl t_0 rfl ?_
    refine mm_iload_1 87 dX11_forged_86 rfl ?_
    refine mm_iload_2 88 dX11_forged_87 rfl ?_
    refine mm_cV2v 91 dX11_forged_88 v_X11_236 rfl t_7 (by decide) rfl rfl (Nat.le_of_ble_eq_true rfl) ⟨rfl, rfl⟩ ⟨Nat.zero_le _, Nat.zero_le _⟩ (c_X4_setHeight k7e n12 hx hp ?_)
    refine mm_iload_3 92 dX11_forged_91 rfl ?_
    refine mm_iret dX11_forged_92 rfl ⟨rfl, Nat.zero_le _⟩ ?_
    have hz : g = 9 := by (try simp only [hgi1, Int32.lt_iff_toInt_lt, Int32.le_iff_toInt_le, ← Int32.toInt_inj, vp_in_iff, Int32.reduceToInt, mm_t1, mm_t2, mm_t3, mm_t4, mm_t10] at h1); omega
    subst hz
    have hff := fr_h (w := A 10 p) hq
    rw [mm_noop] at hff
    exact h _ _ rfl hff
  · have hlt : g < 9 := by (try simp only [hgi1, Int32.lt_iff_toInt_lt, Int32.le_iff_toInt_le, ← Int32.toInt_inj, vp_in_iff, Int32.reduceToInt, mm_t1, mm_t2, mm_t3, mm_t4, mm_t10] at h1); omega
    refine mm_aload_0 36 dX11_forged_35 rfl ?_
    refine mm_getR 39 dX11_forged_36 f_X11_33 rfl t_0 rfl ?_
    refine mm_iload_1 40 dX11_forged_39 rfl ?_
    refine mm_iload_4 42 dX11_forged_40 rfl ?_
    refine mm_cV2v 45 dX11_forged_42 v_X11_236 rfl t_7 (by decide) rfl rfl (Nat.le_of_ble_eq_true rfl) ⟨rfl, rfl⟩ ⟨Nat.zero_le _, Nat.zero_le _⟩ (c_X4_setHeight k7e n12 hx hp ?_)
    have hf2 := fr_h (w := nI (g + 1)) hq
    have hv9 : 0 ≤ (nI (g + 1)).toInt ∧ (nI (g + 1)).toInt ≤ 9 := by rw [hgi1]; omega
    have hdv := (zh_d hi hp hv9).kp hf2.lo g_kp.rf
    have c38 : (mm_up Mi 10 p (nI (g + 1))) 38 3 = nI (a_ns A) := by rw [hf2.a 38, mm_upn _ _ _ (by decide), hi.2.2.2.2.2.1.1]; exact hi.1.ns.1
    have r39 : ∀ c, c = 39 ∨ c = 40 ∨ c = 41 → (mm_up Mi 10 p (nI (g + 1))) c = A c := fun c hc => by rcases hc with rfl | rfl | rfl <;> rw [hf2.a _ (by decide), mm_upn _ _ _ (by decide)]
    refine mm_aload_0 46 dX11_forged_45 rfl ?_
    refine mm_getR 49 dX11_forged_46 f_X11_79 rfl t_0 rfl ?_
    refine mm_aload_0 50 dX11_forged_49 rfl ?_
    refine mm_getR 53 dX11_forged_50 f_X11_56 rfl t_0 rfl ?_
    refine mm_aload_0 54 dX11_forged_53 rfl ?_
    refine mm_getR 57 dX11_forged_54 f_X11_26 rfl t_0 rfl ?_
    refine mm_aload_0 58 dX11_forged_57 rfl ?_
    refine mm_getR 61 dX11_forged_58 f_X11_47 rfl t_0 rfl ?_
    refine mm_cV3i 64 dX11_forged_61 v_X11_239 rfl t_38 (by decide) rfl rfl (Nat.le_of_ble_eq_true rfl) ⟨rfl, rfl⟩ ⟨Nat.zero_le _, Nat.zero_le _⟩ (c_X7_otherwiseIn (X := zh A p (nI (g + 1))) (ns := a_ns A) hdv (zh_p hi) c38 n8 (fun r2 M2 e2 k2 => ?_))
    rw [r39 39 (by decide), r39 40 (by decide), r39 41 (by decide)] at e2
    have er : r2 = nI (z_ov A (zh A p (nI (g + 1))) (a_ns A)) := e2
    have cl : z_ov A (zh A p (nI (g + 1))) (a_ns A) ≤ a_ns A := cnt_le _
    have ti : (nI (z_ov A (zh A p (nI (g + 1))) (a_ns A))).toInt = z_ov A (zh A p (nI (g + 1))) (a_ns A) := mm_ti (by omega)
    rw [er]
    refine mm_if_ne 76 67 dX11_forged_64 (by decide) rfl (fun h3 => ?_) (fun h3 => ?_)
    · refine mm_iinc_4 79 1 dX11_forged_76 rfl (by decide) rfl ?_
      refine mm_goto 28 dX11_forged_79 (by decide) ?_
      rw [nI_1]
      have hh := ih (9 - (g + 1)) (by omega) (g + 1) _ (v := nI (g + 1)) (Nat.le_refl _) (by omega) (hf2.hk k2)
      (try simp only [ti, Int32.lt_iff_toInt_lt, Int32.le_iff_toInt_le, ← Int32.toInt_inj, vp_in_iff, Int32.reduceToInt, mm_t1, mm_t2, mm_t3, mm_t4, mm_t10] at h3)
      rw [z_fb_f (by omega)] at hh
      exact hh
    · refine mm_iload_3 68 dX11_forged_67 rfl ?_
      refine mm_iconst 69 1 dX11_forged_68 rfl (by decide) ?_
      refine mm_iload_4 71 dX11_forged_69 rfl ?_
      refine mm_iconst 72 1 dX11_forged_71 rfl (by decide) ?_
      refine mm_isub 73 dX11_forged_72 rfl ?_
      refine mm_ishl 74 dX11_forged_73 rfl ?_
      refine mm_ior 75 dX11_forged_74 rfl ?_
      refine mm_istore_3 76 dX11_forged_75 rfl rfl ?_
      refine mm_iinc_4 79 1 dX11_forged_76 rfl (by decide) rfl ?_
      refine mm_goto 28 dX11_forged_79 (by decide) ?_
      rw [nI_1]
      have hh := ih (9 - (g + 1)) (by omega) (g + 1) _ (v := nI (g + 1)) (Nat.le_refl _) (by omega) (hf2.hk k2)
      (try simp only [ti, Int32.lt_iff_toInt_lt, Int32.le_iff_toInt_le, ← Int32.toInt_inj, vp_in_iff, Int32.reduceToInt, mm_t1, mm_t2, mm_t3, mm_t4, mm_t10] at h3)
      rw [z_fb_t (by omega)] at hh
      exact hh

set_option maxHeartbeats 4000000 in
theorem c_X11_forged {l : Launch} {G : mm_G} {d : Nat} {M : mm_M} {Q : Int32 → mm_T → mm_M → Prop} {A : mm_M} (hi : iv A) (hf : fr A M) {x : Int32} (h : ∀ r M1, r = z_forged A x → fr A M1 → Q r T0 M1) : mm_met l G (d + 5) k_X11_forged [.ref 0, .int x] T0 M (mm_pi Q) := by
  have n6 := hi.1.nl
  have n12 := hi.1.np
  have n24 := hi.1.ne.2
  have hd := hf.vd hi
  have k5 := hd.1.li
  have k7 := hd.1.pi
  have k14 := hd.1.ei
  refine mm_enter 3 [.ref 0, .int x, .double 0, .double 0, .double 0] o_X11_forged rfl rfl ?_
  refine mm_aload_0 1 dX11_forged_0 rfl ?_
  refine mm_getR 4 dX11_forged_1 f_X11_33 rfl t_0 rfl ?_
  refine mm_iload_1 5 dX11_forged_4 rfl ?_
  refine mm_cV1i 8 dX11_forged_5 v_X11_123 rfl t_7 (by decide) rfl rfl (Nat.le_of_ble_eq_true rfl) ⟨rfl, rfl⟩ ⟨Nat.zero_le _, Nat.zero_le _⟩ (c_X4_has  (fun h1 => ?_) (fun h1 => ?_))
  · refine mm_if_ne 14 11 dX11_forged_8 (by decide) rfl (fun _ => ?_) (fun h => absurd h (by decide))
    have cp := mm_cl2 (x := x) (n := a_np A) (by (try simp only [Int32.lt_iff_toInt_lt, Int32.le_iff_toInt_le, ← Int32.toInt_inj, vp_in_iff, Int32.reduceToInt, mm_t1, mm_t2, mm_t3, mm_t4, mm_t10] at h1 k5 k7 k14 ⊢); omega)
    refine mm_aload_0 15 dX11_forged_14 rfl ?_
    refine mm_getR 18 dX11_forged_15 f_X11_33 rfl t_0 rfl ?_
    refine mm_iload_1 19 dX11_forged_18 rfl ?_
    refine mm_cV1i 22 dX11_forged_19 v_X11_134 rfl t_7 (by decide) rfl rfl (Nat.le_of_ble_eq_true rfl) ⟨rfl, rfl⟩ ⟨Nat.zero_le _, Nat.zero_le _⟩ (c_X4_heightOf (by rw [k7]; omega) (fun r2 e2 => ?_))
    refine mm_istore_2 23 dX11_forged_22 rfl rfl ?_
    refine mm_iconst 24 0 dX11_forged_23 rfl (by decide) ?_
    refine mm_istore_3 25 dX11_forged_24 rfl rfl ?_
    refine mm_iconst 26 1 dX11_forged_25 rfl (by decide) ?_
    refine mm_istore_4 28 dX11_forged_26 rfl rfl ?_
    have et : r2 = A 10 x.toNatClampNeg := by rw [e2]; unfold s_X4_heightOf; rw [if_pos h1, hf.a 10]
    rw [et]
    exact w_X11_forged hi cp.1 cp.2.1 (fun r M1 e X => h r M1 (by unfold z_forged; rw [if_pos (by omega)]; exact e) X) 9 0 M (v := A 10 x.toNatClampNeg) (by omega) (by omega) (by rw [mm_noop]; exact hf)
  · refine mm_if_ne 14 11 dX11_forged_8 (by decide) rfl (fun h => absurd h (by decide)) (fun _ => ?_)
    refine mm_bipush 13 (-2) dX11_forged_11 rfl (by decide) ?_
    refine mm_iret dX11_forged_13 rfl ⟨rfl, Nat.zero_le _⟩ ?_
    refine h _ _ ?_ hf
    unfold z_forged
    rw [if_neg (by (try simp only [Int32.lt_iff_toInt_lt, Int32.le_iff_toInt_le, ← Int32.toInt_inj, vp_in_iff, Int32.reduceToInt, mm_t1, mm_t2, mm_t3, mm_t4, mm_t10] at h1 k5 k7 k14 ⊢); omega)]

set_option maxHeartbeats 4000000 in
theorem c_X11_unlike {l : Launch} {G : mm_G} {d : Nat} {M : mm_M} {Q : Int32 → mm_T → mm_M → Prop} {A : mm_M} (hi : iv A) (hf : fr A M) (h : ∀ r M1, r = z_unlike A → fr A M1 → Q r T0 M1) : mm_met l G (d + 5) k_X11_unlike [.ref 0] T0 M (mm_pi Q) := by
  have n6 := hi.1.nl
  have n12 := hi.1.np
  have n24 := hi.1.ne.2
  have hd := hf.vd hi
  have k5 := hd.1.li
  have k7 := hd.1.pi
  have k14 := hd.1.ei
  have n8 := hi.1.ns.2
  have c38 : M 38 3 = nI (a_ns A) := by rw [hf.a 38, hi.2.2.2.2.2.1.1]; exact hi.1.ns.1
  refine mm_enter 0 [.ref 0] o_X11_unlike rfl rfl ?_
  refine mm_aload_0 1 dX11_unlike_0 rfl ?_
  refine mm_getR 4 dX11_unlike_1 f_X11_79 rfl t_0 rfl ?_
  refine mm_aload_0 5 dX11_unlike_4 rfl ?_
  refine mm_getR 8 dX11_unlike_5 f_X11_26 rfl t_0 rfl ?_
  refine mm_aload_0 9 dX11_unlike_8 rfl ?_
  refine mm_getR 12 dX11_unlike_9 f_X11_47 rfl t_0 rfl ?_
  refine mm_cV2i 15 dX11_unlike_12 v_X11_243 rfl t_38 (by decide) rfl rfl (Nat.le_of_ble_eq_true rfl) ⟨rfl, rfl⟩ ⟨Nat.zero_le _, Nat.zero_le _⟩ (c_X7_unaskable hd c38 n8 (fun r1 e1 => ?_))
  refine mm_aload_0 16 dX11_unlike_15 rfl ?_
  refine mm_getR 19 dX11_unlike_16 f_X11_79 rfl t_0 rfl ?_
  refine mm_aload_0 20 dX11_unlike_19 rfl ?_
  refine mm_getR 23 dX11_unlike_20 f_X11_56 rfl t_0 rfl ?_
  refine mm_aload_0 24 dX11_unlike_23 rfl ?_
  refine mm_getR 27 dX11_unlike_24 f_X11_26 rfl t_0 rfl ?_
  refine mm_aload_0 28 dX11_unlike_27 rfl ?_
  refine mm_getR 31 dX11_unlike_28 f_X11_47 rfl t_0 rfl ?_
  refine mm_cV3i 34 dX11_unlike_31 v_X11_239 rfl t_38 (by decide) rfl rfl (Nat.le_of_ble_eq_true rfl) ⟨rfl, rfl⟩ ⟨Nat.zero_le _, Nat.zero_le _⟩ (c_X7_otherwiseIn hd ((zz_x A).pre hi) c38 n8 (fun r2 M2 e2 k2 => ?_))
  refine mm_iadd 35 dX11_unlike_34 rfl ?_
  refine mm_iret dX11_unlike_35 rfl ⟨rfl, Nat.zero_le _⟩ ?_
  refine h _ _ ?_ (hf.hk k2)
  rw [e1, e2, hf.a 39, hf.a 40, hf.a 41, nI_add]
  rfl

