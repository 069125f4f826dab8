/-! lords of the reference -/

set_option maxHeartbeats 4000000 in
theorem w_X12_tEnd {l : Launch} {G : mm_G} {d : Nat} {Q : Int32 → mm_T → mm_M → Prop} {xa xb wh al v : Int32} {x7 x8 : Value} {Y : mm_M} (j0 : wh.toInt = 0 → Q v T0 Y) (j1 : ¬ wh.toInt = 0 → Q (Y 51 40) T0 Y) : mm_wp l G (d + 5) k_X12_turnsOf (mm_pi Q) 248 [.ref 51, .int xa, .int xb, .int wh, .int al, .int (nI 0 + -1), .int v, x7, x8] [] T0 Y 0 0 := by
  refine mm_iload_5 250 dX12_turnsOf_248 rfl ?_
  refine mm_if_lt 88 253 dX12_turnsOf_250 (by decide) rfl (fun h1 => ?_) (fun h1 => absurd (by decide) h1)
  refine mm_iload_5 90 dX12_turnsOf_88 rfl ?_
  refine mm_if_lt 275 93 dX12_turnsOf_90 (by decide) rfl (fun h2 => ?_) (fun h2 => absurd (by decide) h2)
  refine mm_iload_3 276 dX12_turnsOf_275 rfl ?_
  refine mm_if_ne 284 279 dX12_turnsOf_276 (by decide) rfl (fun h3 => ?_) (fun h3 => ?_)
  · refine mm_aload_0 285 dX12_turnsOf_284 rfl ?_
    refine mm_getI 288 dX12_turnsOf_285 f_X12_325 rfl t_51 rfl ?_
    refine mm_iret dX12_turnsOf_288 rfl ⟨rfl, Nat.zero_le _⟩ ?_
    exact j1 (fun q => h3 (mm_ii (by rw [q]; rfl)))
  · refine mm_iload_6 281 dX12_turnsOf_279 rfl ?_
    refine mm_goto 288 dX12_turnsOf_281 (by decide) ?_
    refine mm_iret dX12_turnsOf_288 rfl ⟨rfl, Nat.zero_le _⟩ ?_
    exact j0 (by rw [h3]; rfl)

set_option maxHeartbeats 4000000 in
theorem c_X12_turnsOf {l : Launch} {G : mm_G} {d : Nat} {M : mm_M} {Q : Int32 → mm_T → mm_M → Prop} {A : mm_M} (hi : iv A) (hr : r_x A M) {x y : Nat} (hx : x < a_nl A) (hy : y < a_nl A) (hxy : x = y + 1 ∨ y = x + 1) {xi yi wh : Int32} (ex : xi = nI x) (ey : yi = nI y) (h : ∀ r M1, r = (if fmA A x ≤ 4 ∧ fmA A y ≤ 4 then (if wh.toInt = 0 then Int32.ofInt (zTv A x y) else zTf A x y) else -10004) → r_x A M1 → Q r T0 M1) : mm_met l G (d + 5) k_X12_turnsOf [.ref 51, .int xi, .int yi, .int wh] T0 M (mm_pi Q) := by
  subst ex
  subst ey
  have n6 := hi.1.nl
  have n12 := hi.1.np
  refine mm_enter 5 [.ref 51, .int (nI x), .int (nI y), .int wh, .double 0, .double 0, .double 0, .double 0, .double 0] o_X12_turnsOf rfl rfl ?_
  refine mm_aload_0 1 dX12_turnsOf_0 rfl ?_
  refine mm_cV0v 4 dX12_turnsOf_1 v_X12_242 rfl t_51 (by decide) rfl rfl (Nat.le_of_ble_eq_true rfl) ⟨rfl, rfl⟩ ⟨Nat.zero_le _, Nat.zero_le _⟩ (b_goesAll hi hr (fun M1 g1 w1 X1 => ?_))
  refine mm_aload_0 5 dX12_turnsOf_4 rfl ?_
  refine mm_aload_0 6 dX12_turnsOf_5 rfl ?_
  refine mm_iload_1 7 dX12_turnsOf_6 rfl ?_
  refine mm_aload_0 8 dX12_turnsOf_7 rfl ?_
  refine mm_getR 11 dX12_turnsOf_8 f_X12_73 rfl t_51 rfl ?_
  refine mm_cV2i 14 dX12_turnsOf_11 v_X12_321 rfl t_51 (by decide) rfl rfl (Nat.le_of_ble_eq_true rfl) ⟨rfl, rfl⟩ ⟨Nat.zero_le _, Nat.zero_le _⟩ (c_X12_freeOf hi X1 w1 t_73 (Or.inl rfl) hx rfl (fun Ma a1 a2 => ?_))
  refine mm_putI 17 dX12_turnsOf_14 p_X12_315 ⟨rfl, rfl⟩ rfl t_51 rfl ?_
  generalize hY1 : mm_up Ma 51 33 (nI (cnt (io A x) (a_np A))) = Y1
  have rb : r_x A Y1 := by rw [← hY1]; exact (X1.of ⟨fun c q => a1 c (fun e => by rw [e] at q; exact absurd q (by decide)), by rw [a1 51 (by decide)], by rw [a1 51 (by decide)], by rw [a1 51 (by decide)]⟩ (a1 58 (by decide)) (a1 59 (by decide)) (by rw [a1 51 (by decide)]) (by rw [a1 51 (by decide)])).u51 (by decide) (by decide)
  have wb : e_w A Y1 (zE A) := by
    have k := w1
    rw [← hY1]
    unfold e_w at k ⊢
    rw [mm_upn _ _ _ (show (62 : Nat) ≠ 51 by decide), mm_upn _ _ _ (show (63 : Nat) ≠ 51 by decide), mm_upn _ _ _ (show (66 : Nat) ≠ 51 by decide), mm_upn _ _ _ (show (67 : Nat) ≠ 51 by decide), mm_upc, a1 51 (by decide), a1 62 (by decide), a1 63 (by decide), a1 66 (by decide), a1 67 (by decide)]
    exact k
  have c73 : Y1 73 = Ma 73 := by rw [← hY1]; exact mm_upn _ _ _ (by decide)
  have c33 : Y1 51 33 = nI (fmA A x) := by rw [← hY1, mm_upv]; rfl
  refine mm_aload_0 18 dX12_turnsOf_17 rfl ?_
  refine mm_aload_0 19 dX12_turnsOf_18 rfl ?_
  refine mm_iload_2 20 dX12_turnsOf_19 rfl ?_
  refine mm_aload_0 21 dX12_turnsOf_20 rfl ?_
  refine mm_getR 24 dX12_turnsOf_21 f_X12_76 rfl t_51 rfl ?_
  refine mm_cV2i 27 dX12_turnsOf_24 v_X12_321 rfl t_51 (by decide) rfl rfl (Nat.le_of_ble_eq_true rfl) ⟨rfl, rfl⟩ ⟨Nat.zero_le _, Nat.zero_le _⟩ (c_X12_freeOf hi rb wb t_74 (Or.inr rfl) hy rfl (fun Mb b1 b2 => ?_))
  refine mm_putI 30 dX12_turnsOf_27 p_X12_318 ⟨rfl, rfl⟩ rfl t_51 rfl ?_
  generalize hY3 : mm_up Mb 51 34 (nI (cnt (io A y) (a_np A))) = Y3
  have rY : r_x A Y3 := by rw [← hY3]; exact (rb.of ⟨fun c q => b1 c (fun e => by rw [e] at q; exact absurd q (by decide)), by rw [b1 51 (by decide)], by rw [b1 51 (by decide)], by rw [b1 51 (by decide)]⟩ (b1 58 (by decide)) (b1 59 (by decide)) (by rw [b1 51 (by decide)]) (by rw [b1 51 (by decide)])).u51 (by decide) (by decide)
  have wY : e_w A Y3 (zE A) := by
    have k := wb
    rw [← hY3]
    unfold e_w at k ⊢
    rw [mm_upn _ _ _ (show (62 : Nat) ≠ 51 by decide), mm_upn _ _ _ (show (63 : Nat) ≠ 51 by decide), mm_upn _ _ _ (show (66 : Nat) ≠ 51 by decide), mm_upn _ _ _ (show (67 : Nat) ≠ 51 by decide), mm_upc, b1 51 (by decide), b1 62 (by decide), b1 63 (by decide), b1 66 (by decide), b1 67 (by decide)]
    exact k
  have y33 : Y3 51 33 = nI (fmA A x) := by rw [← hY3, mm_upc, b1 51 (by decide)]; exact c33
  have y34 : Y3 51 34 = nI (fmA A y) := by rw [← hY3, mm_upv]; rfl
  have y73 : ∀ p, io A x p = true → cnt (io A x) p < 4 → Y3 73 (cnt (io A x) p) = nI p := fun p q1 q2 => by rw [← hY3, mm_upn _ _ _ (by decide), b1 73 (by decide), c73]; exact a2 p q1 q2
  have y74 : ∀ p, io A y p = true → cnt (io A y) p < 4 → Y3 74 (cnt (io A y) p) = nI p := fun p q1 q2 => by rw [← hY3, mm_upn _ _ _ (by decide)]; exact b2 p q1 q2
  have k1 : fmA A x ≤ a_np A := cnt_le _
  have k2 : fmA A y ≤ a_np A := cnt_le _
  refine mm_aload_0 31 dX12_turnsOf_30 rfl ?_
  refine mm_getI 34 dX12_turnsOf_31 f_X12_315 rfl t_51 rfl ?_
  refine mm_iconst 35 4 dX12_turnsOf_34 rfl (by decide) ?_
  refine mm_ic_gt 46 38 dX12_turnsOf_35 (by decide) rfl (fun h1 => ?_) (fun h1 => ?_)
  · refine mm_sipush 49 (-10004) dX12_turnsOf_46 rfl (by decide) ?_
    refine mm_iret dX12_turnsOf_49 rfl ⟨rfl, Nat.zero_le _⟩ ?_
    refine h _ Y3 ?_ rY
    have k := h1
    rw [y33, mm_lt, mm_ti (by omega)] at k
    simp only [Int32.reduceToInt] at k
    rw [if_neg (by omega)]
  · refine mm_aload_0 39 dX12_turnsOf_38 rfl ?_
    refine mm_getI 42 dX12_turnsOf_39 f_X12_318 rfl t_51 rfl ?_
    refine mm_iconst 43 4 dX12_turnsOf_42 rfl (by decide) ?_
    refine mm_ic_le 50 46 dX12_turnsOf_43 (by decide) rfl (fun h2 => ?_) (fun h2 => ?_)
    · refine mm_aload_0 51 dX12_turnsOf_50 rfl ?_
      refine mm_getR 54 dX12_turnsOf_51 f_X12_40 rfl t_51 rfl ?_
      refine mm_iload_1 55 dX12_turnsOf_54 rfl ?_
      refine mm_ialoadn 56 (x) dX12_turnsOf_55 rfl t_62 (by decide) (rfl) (by omega) ?_
      refine mm_aload_0 57 dX12_turnsOf_56 rfl ?_
      refine mm_getR 60 dX12_turnsOf_57 f_X12_40 rfl t_51 rfl ?_
      refine mm_iload_2 61 dX12_turnsOf_60 rfl ?_
      refine mm_ialoadn 62 (y) dX12_turnsOf_61 rfl t_62 (by decide) (rfl) (by omega) ?_
      refine mm_iadd 63 dX12_turnsOf_62 rfl ?_
      refine mm_istore_4 65 dX12_turnsOf_63 rfl rfl ?_
      refine mm_aload_0 66 dX12_turnsOf_65 rfl ?_
      refine mm_iconst 67 (-1) dX12_turnsOf_66 rfl (by decide) ?_
      refine mm_putI 70 dX12_turnsOf_67 p_X12_325 ⟨rfl, rfl⟩ rfl t_51 rfl ?_
      refine mm_iconst 71 0 dX12_turnsOf_70 rfl (by decide) ?_
      refine mm_istore_5 73 dX12_turnsOf_71 rfl rfl ?_
      refine mm_aload_0 74 dX12_turnsOf_73 rfl ?_
      refine mm_iconst 75 0 dX12_turnsOf_74 rfl (by decide) ?_
      refine mm_iconst 76 0 dX12_turnsOf_75 rfl (by decide) ?_
      refine mm_aload_0 77 dX12_turnsOf_76 rfl ?_
      refine mm_getR 80 dX12_turnsOf_77 f_X12_40 rfl t_51 rfl ?_
      refine mm_iload_1 81 dX12_turnsOf_80 rfl ?_
      refine mm_ialoadn 82 (x) dX12_turnsOf_81 rfl t_62 (by decide) (rfl) (by omega) ?_
      refine mm_cV3v 85 dX12_turnsOf_82 v_X12_328 rfl t_51 (by decide) rfl rfl (Nat.le_of_ble_eq_true rfl) ⟨rfl, rfl⟩ ⟨Nat.zero_le _, Nat.zero_le _⟩ (c_X12_enters (k := 0) (by omega) rfl ?_)
      refine mm_iconst 86 0 dX12_turnsOf_85 rfl (by decide) ?_
      refine mm_istore_6 88 dX12_turnsOf_86 rfl rfl ?_
      have F1 : fmA A x ≤ 4 := by have k := h1; rw [y33, mm_lt, mm_ti (by omega)] at k; simp only [Int32.reduceToInt] at k; omega
      have F2 : fmA A y ≤ 4 := by have k := h2; rw [y34, mm_le, mm_ti (by omega)] at k; simp only [Int32.reduceToInt] at k; omega
      have tr : rtt A x y Y3 := ⟨rY, y33, y34, fun i q => by
          have r := rkp_at (f := io A x) (n := a_np A) q
          have e := y73 (oF A x i) r.1 (by rw [show cnt (io A x) (oF A x i) = i from r.2.1]; omega)
          rw [show cnt (io A x) (oF A x i) = i from r.2.1] at e
          exact e, fun i q => by
          have r := rkp_at (f := io A y) (n := a_np A) q
          have e := y74 (oF A y i) r.1 (by rw [show cnt (io A y) (oF A y i) = i from r.2.1]; omega)
          rw [show cnt (io A y) (oF A y i) = i from r.2.1] at e
          exact e⟩
      have wx := zE_w hi hx
      have wy := zE_w hi hy
      have ea : (Y3 62 x + Y3 62 y).toInt = zTall A x y := by
        rw [mm_add (by rw [wY.1 x hx, wY.1 y hy]; omega), wY.1 x hx, wY.1 y hy]; rfl
      have ev := @ent_v (mm_up Y3 51 40 (-1)) 0 0 (Y3 62 x)
      have fe : frT 0 Y3 (ent (mm_up Y3 51 40 (-1)) 0 0 (Y3 62 x)) := ent_f (frT.rf.u40) (Nat.le_refl _)
      have e79 : (ent (mm_up Y3 51 40 (-1)) 0 0 (Y3 62 x) 79 0).toInt = (zE A 62 x).toInt := by rw [ev.2.2.2, wY.1 x hx]
      rw [mm_upn _ _ _ (show (62 : Nat) ≠ 51 by decide)]
      refine w_X12_rt hi hx hy hxy F1 F2 (by unfold zTall; omega) (by unfold zTall; omega) 4 Q 0 _ (fun _ => false) _ _ _ _ _ _ _ (by omega) (tr.of fe) ea (by rw [e79]; unfold zTall; omega) ev.1 ev.2.1 ?_ ?_ (fun Z v y7 y8 z1 z2 z3 z4 => ?_)
      · rw [ev.2.2.1]
        exact ⟨fun i q => bq_0 i (by omega), fun j q => bq_0 (4 + j) (by omega)⟩
      · have : ∀ n, cnt (fun _ => false) n = 0 := fun n => by
          induction n with
          | zero => rfl
          | succ n ih => rw [cnt_f (by decide)]; exact ih
        exact this _
      · rw [e79] at z2
        have z4 := z4 3 rfl rfl
        rw [e79] at z4
        have e40 : ent (mm_up Y3 51 40 (-1)) 0 0 (Y3 62 x) 51 40 = -1 := by rw [ent_c (Or.inr (by omega)), mm_upv]
        rw [e40] at z4
        have rz : r_x A Z := ((tr.of fe).of z1).1
        refine w_X12_tEnd (fun q => ?_) (fun q => ?_)
        · refine h _ Z ?_ rz
          rw [if_pos ⟨F1, F2⟩, if_pos q]
          unfold zTv
          rw [← z2, Int32.ofInt_toInt]
        · refine h _ Z ?_ rz
          rw [if_pos ⟨F1, F2⟩, if_neg q, z4]
          rfl
    · refine mm_sipush 49 (-10004) dX12_turnsOf_46 rfl (by decide) ?_
      refine mm_iret dX12_turnsOf_49 rfl ⟨rfl, Nat.zero_le _⟩ ?_
      refine h _ Y3 ?_ rY
      have k := h2
      rw [y34, mm_le, mm_ti (by omega)] at k
      simp only [Int32.reduceToInt] at k
      rw [if_neg (by omega)]

set_option maxHeartbeats 4000000 in
theorem c_X12_turnsBy {l : Launch} {G : mm_G} {d : Nat} {M : mm_M} {Q : Int32 → mm_T → mm_M → Prop} {A : mm_M} (hi : iv A) (hx : r_x A M) {a b w : Int32} (hw : 0 ≤ w.toInt ∧ w.toInt ≤ 1) (h : ∀ r M1, r = z_lords A a b w → r_x A M1 → Q r T0 M1) : mm_met l G (d + 6) k_X12_turnsBy [.ref 51, .int a, .int b, .int w] T0 M (mm_pi Q) := by
  have n6 := hi.1.nl
  have n12 := hi.1.np
  have k8 : (M 51 8 - 1).toInt = (a_nl A : Int) - 1 := by rw [hx.2.1]; exact nI_m1 (by omega)
  refine mm_enter 1 [.ref 51, .int a, .int b, .int w, .double 0] o_X12_turnsBy rfl rfl ?_
  refine mm_iload_1 1 dX12_turnsBy_0 rfl ?_
  refine mm_i2l 2 dX12_turnsBy_1 rfl ?_
  refine mm_lconst 3 0 dX12_turnsBy_2 rfl (by decide) ?_
  refine mm_aload_0 4 dX12_turnsBy_3 rfl ?_
  refine mm_getI 7 dX12_turnsBy_4 f_X12_138 rfl t_51 rfl ?_
  refine mm_iconst 8 1 dX12_turnsBy_7 rfl (by decide) ?_
  refine mm_isub 9 dX12_turnsBy_8 rfl ?_
  refine mm_i2l 10 dX12_turnsBy_9 rfl ?_
  refine mm_cS3i 13 dX12_turnsBy_10 v_X12_95 rfl (Nat.le_of_ble_eq_true rfl) ⟨rfl, rfl⟩ ⟨Nat.zero_le _, Nat.zero_le _⟩ (c_X12_in  (fun h1 => ?_) (fun h1 => ?_))
  · refine mm_if_eq 50 16 dX12_turnsBy_13 (by decide) rfl (fun h => absurd h (by decide)) (fun _ => ?_)
    refine mm_iload_2 17 dX12_turnsBy_16 rfl ?_
    refine mm_i2l 18 dX12_turnsBy_17 rfl ?_
    refine mm_lconst 19 0 dX12_turnsBy_18 rfl (by decide) ?_
    refine mm_aload_0 20 dX12_turnsBy_19 rfl ?_
    refine mm_getI 23 dX12_turnsBy_20 f_X12_138 rfl t_51 rfl ?_
    refine mm_iconst 24 1 dX12_turnsBy_23 rfl (by decide) ?_
    refine mm_isub 25 dX12_turnsBy_24 rfl ?_
    refine mm_i2l 26 dX12_turnsBy_25 rfl ?_
    refine mm_cS3i 29 dX12_turnsBy_26 v_X12_95 rfl (Nat.le_of_ble_eq_true rfl) ⟨rfl, rfl⟩ ⟨Nat.zero_le _, Nat.zero_le _⟩ (c_X12_in  (fun h2 => ?_) (fun h2 => ?_))
    · refine mm_if_eq 50 32 dX12_turnsBy_29 (by decide) rfl (fun h => absurd h (by decide)) (fun _ => ?_)
      refine mm_iload_1 33 dX12_turnsBy_32 rfl ?_
      refine mm_iload_2 34 dX12_turnsBy_33 rfl ?_
      refine mm_isub 35 dX12_turnsBy_34 rfl ?_
      refine mm_iconst 36 1 dX12_turnsBy_35 rfl (by decide) ?_
      refine mm_ic_eq 46 39 dX12_turnsBy_36 (by decide) rfl (fun h3 => ?_) (fun h3 => ?_)
      · refine mm_iconst 47 1 dX12_turnsBy_46 rfl (by decide) ?_
        refine mm_goto 51 dX12_turnsBy_47 (by decide) ?_
        refine mm_istore_4 53 dX12_turnsBy_51 rfl rfl ?_
        refine mm_iload_4 55 dX12_turnsBy_53 rfl ?_
        refine mm_if_eq 68 58 dX12_turnsBy_55 (by decide) rfl (fun h => absurd h (by decide)) (fun _ => ?_)
        have ca := mm_cl2 (x := a) (n := a_nl A) (by (try simp only [lg_cmp_lt, lg_cmp_gt, lg_cmp_le, lg_cmp_ge] at h1 h2 k8); (try simp only [Int32.lt_iff_toInt_lt, Int32.le_iff_toInt_le, ← Int32.toInt_inj, vp_in_iff, Int32.reduceToInt, mm_t1, mm_t2, mm_t3, mm_t4, mm_t10, Int64.lt_iff_toInt_lt, Int64.le_iff_toInt_le, Int64.reduceToInt, Int32.toInt_toInt64] at h1 h2 k8 ⊢); omega)
        have cb := mm_cl2 (x := b) (n := a_nl A) (by (try simp only [lg_cmp_lt, lg_cmp_gt, lg_cmp_le, lg_cmp_ge] at h1 h2 k8); (try simp only [Int32.lt_iff_toInt_lt, Int32.le_iff_toInt_le, ← Int32.toInt_inj, vp_in_iff, Int32.reduceToInt, mm_t1, mm_t2, mm_t3, mm_t4, mm_t10, Int64.lt_iff_toInt_lt, Int64.le_iff_toInt_le, Int64.reduceToInt, Int32.toInt_toInt64] at h1 h2 k8 ⊢); omega)
        have s1 := mm_sub (a := a) (b := b) (by omega)
        have s2 := mm_sub (a := b) (b := a) (by omega)
        rw [h3] at s1
        simp only [Int32.reduceToInt] at s1
        have hxy : a.toNatClampNeg = b.toNatClampNeg + 1 ∨ b.toNatClampNeg = a.toNatClampNeg + 1 := by omega
        refine mm_aload_0 59 dX12_turnsBy_58 rfl ?_
        refine mm_iload_1 60 dX12_turnsBy_59 rfl ?_
        refine mm_iload_2 61 dX12_turnsBy_60 rfl ?_
        refine mm_iload_3 62 dX12_turnsBy_61 rfl ?_
        refine mm_cV3i 65 dX12_turnsBy_62 v_X12_341 rfl t_51 (by decide) rfl rfl (Nat.le_of_ble_eq_true rfl) ⟨rfl, rfl⟩ ⟨Nat.zero_le _, Nat.zero_le _⟩ (c_X12_turnsOf hi hx ca.2.1 cb.2.1 hxy ca.1 cb.1 (fun rt Mt et Xt => ?_))
        refine mm_goto 71 dX12_turnsBy_65 (by decide) ?_
        refine mm_iret dX12_turnsBy_71 rfl ⟨rfl, Nat.zero_le _⟩ ?_
        refine h _ _ ?_ Xt
        unfold z_lords
        rw [if_pos ⟨⟨⟨by omega, by omega⟩, ⟨by omega, by omega⟩, by omega⟩, hw⟩]
        exact et
      · refine mm_iload_2 40 dX12_turnsBy_39 rfl ?_
        refine mm_iload_1 41 dX12_turnsBy_40 rfl ?_
        refine mm_isub 42 dX12_turnsBy_41 rfl ?_
        refine mm_iconst 43 1 dX12_turnsBy_42 rfl (by decide) ?_
        refine mm_ic_ne 50 46 dX12_turnsBy_43 (by decide) rfl (fun h4 => ?_) (fun h4 => ?_)
        · refine mm_iconst 51 0 dX12_turnsBy_50 rfl (by decide) ?_
          refine mm_istore_4 53 dX12_turnsBy_51 rfl rfl ?_
          refine mm_iload_4 55 dX12_turnsBy_53 rfl ?_
          refine mm_if_eq 68 58 dX12_turnsBy_55 (by decide) rfl (fun _ => ?_) (fun h => absurd h (by decide))
          refine mm_sipush 71 (-10002) dX12_turnsBy_68 rfl (by decide) ?_
          refine mm_iret dX12_turnsBy_71 rfl ⟨rfl, Nat.zero_le _⟩ ?_
          refine h _ _ ?_ hx
          unfold z_lords
          rw [if_neg]
          rintro ⟨⟨q1, q2, q3⟩, q4⟩
          have s1 := mm_sub (a := a) (b := b) (by omega)
          have s2 := mm_sub (a := b) (b := a) (by omega)
          rcases q3 with q3 | q3
          · exact h3 (mm_ii (by rw [s1, q3]; rfl))
          · exact h4 (mm_ii (by rw [s2]; simp only [Int32.reduceToInt]; omega))
        · refine mm_iconst 47 1 dX12_turnsBy_46 rfl (by decide) ?_
          refine mm_goto 51 dX12_turnsBy_47 (by decide) ?_
          refine mm_istore_4 53 dX12_turnsBy_51 rfl rfl ?_
          refine mm_iload_4 55 dX12_turnsBy_53 rfl ?_
          refine mm_if_eq 68 58 dX12_turnsBy_55 (by decide) rfl (fun h => absurd h (by decide)) (fun _ => ?_)
          have ca := mm_cl2 (x := a) (n := a_nl A) (by (try simp only [lg_cmp_lt, lg_cmp_gt, lg_cmp_le, lg_cmp_ge] at h1 h2 k8); (try simp only [Int32.lt_iff_toInt_lt, Int32.le_iff_toInt_le, ← Int32.toInt_inj, vp_in_iff, Int32.reduceToInt, mm_t1, mm_t2, mm_t3, mm_t4, mm_t10, Int64.lt_iff_toInt_lt, Int64.le_iff_toInt_le, Int64.reduceToInt, Int32.toInt_toInt64] at h1 h2 k8 ⊢); omega)
          have cb := mm_cl2 (x := b) (n := a_nl A) (by (try simp only [lg_cmp_lt, lg_cmp_gt, lg_cmp_le, lg_cmp_ge] at h1 h2 k8); (try simp only [Int32.lt_iff_toInt_lt, Int32.le_iff_toInt_le, ← Int32.toInt_inj, vp_in_iff, Int32.reduceToInt, mm_t1, mm_t2, mm_t3, mm_t4, mm_t10, Int64.lt_iff_toInt_lt, Int64.le_iff_toInt_le, Int64.reduceToInt, Int32.toInt_toInt64] at h1 h2 k8 ⊢); omega)
          have s1 := mm_sub (a := a) (b := b) (by omega)
          have s2 := mm_sub (a := b) (b := a) (by omega)
          rw [h4] at s2
          simp only [Int32.reduceToInt] at s2
          have hxy : a.toNatClampNeg = b.toNatClampNeg + 1 ∨ b.toNatClampNeg = a.toNatClampNeg + 1 := by omega
          refine mm_aload_0 59 dX12_turnsBy_58 rfl ?_
          refine mm_iload_1 60 dX12_turnsBy_59 rfl ?_
          refine mm_iload_2 61 dX12_turnsBy_60 rfl ?_
          refine mm_iload_3 62 dX12_turnsBy_61 rfl ?_
          refine mm_cV3i 65 dX12_turnsBy_62 v_X12_341 rfl t_51 (by decide) rfl rfl (Nat.le_of_ble_eq_true rfl) ⟨rfl, rfl⟩ ⟨Nat.zero_le _, Nat.zero_le _⟩ (c_X12_turnsOf hi hx ca.2.1 cb.2.1 hxy ca.1 cb.1 (fun rt Mt et Xt => ?_))
          refine mm_goto 71 dX12_turnsBy_65 (by decide) ?_
          refine mm_iret dX12_turnsBy_71 rfl ⟨rfl, Nat.zero_le _⟩ ?_
          refine h _ _ ?_ Xt
          unfold z_lords
          rw [if_pos ⟨⟨⟨by omega, by omega⟩, ⟨by omega, by omega⟩, by omega⟩, hw⟩]
          exact et
    · refine mm_if_eq 50 32 dX12_turnsBy_29 (by decide) rfl (fun _ => ?_) (fun h => absurd h (by decide))
      refine mm_iconst 51 0 dX12_turnsBy_50 rfl (by decide) ?_
      refine mm_istore_4 53 dX12_turnsBy_51 rfl rfl ?_
      refine mm_iload_4 55 dX12_turnsBy_53 rfl ?_
      refine mm_if_eq 68 58 dX12_turnsBy_55 (by decide) rfl (fun _ => ?_) (fun h => absurd h (by decide))
      refine mm_sipush 71 (-10002) dX12_turnsBy_68 rfl (by decide) ?_
      refine mm_iret dX12_turnsBy_71 rfl ⟨rfl, Nat.zero_le _⟩ ?_
      refine h _ _ ?_ hx
      unfold z_lords
      rw [if_neg (by (try simp only [lg_cmp_lt, lg_cmp_gt, lg_cmp_le, lg_cmp_ge] at h1 h2 k8); (try simp only [Int32.lt_iff_toInt_lt, Int32.le_iff_toInt_le, ← Int32.toInt_inj, vp_in_iff, Int32.reduceToInt, mm_t1, mm_t2, mm_t3, mm_t4, mm_t10, Int64.lt_iff_toInt_lt, Int64.le_iff_toInt_le, Int64.reduceToInt, Int32.toInt_toInt64] at h1 h2 k8); omega)]
  · refine mm_if_eq 50 16 dX12_turnsBy_13 (by decide) rfl (fun _ => ?_) (fun h => absurd h (by decide))
    refine mm_iconst 51 0 dX12_turnsBy_50 rfl (by decide) ?_
    refine mm_istore_4 53 dX12_turnsBy_51 rfl rfl ?_
    refine mm_iload_4 55 dX12_turnsBy_53 rfl ?_
    refine mm_if_eq 68 58 dX12_turnsBy_55 (by decide) rfl (fun _ => ?_) (fun h => absurd h (by decide))
    refine mm_sipush 71 (-10002) dX12_turnsBy_68 rfl (by decide) ?_
    refine mm_iret dX12_turnsBy_71 rfl ⟨rfl, Nat.zero_le _⟩ ?_
    refine h _ _ ?_ hx
    unfold z_lords
    rw [if_neg (by (try simp only [lg_cmp_lt, lg_cmp_gt, lg_cmp_le, lg_cmp_ge] at h1 k8); (try simp only [Int32.lt_iff_toInt_lt, Int32.le_iff_toInt_le, ← Int32.toInt_inj, vp_in_iff, Int32.reduceToInt, mm_t1, mm_t2, mm_t3, mm_t4, mm_t10, Int64.lt_iff_toInt_lt, Int64.le_iff_toInt_le, Int64.reduceToInt, Int32.toInt_toInt64] at h1 k8); omega)]

set_option maxHeartbeats 4000000 in
theorem c_X12_lords {l : Launch} {G : mm_G} {d : Nat} {M : mm_M} {Q : Int32 → mm_T → mm_M → Prop} {A : mm_M} (hi : iv A) (hf : fr A M) {a b w : Int32} (h : ∀ r M1, r = z_lords A a b w → fr A M1 → Q r T0 M1) : mm_met l G (d + 7) k_X12_lords [.ref 51, .int a, .int b, .int w] T0 M (mm_pi Q) := by
  have n6 := hi.1.nl
  have n12 := hi.1.np
  refine mm_enter 0 [.ref 51, .int a, .int b, .int w] o_X12_lords rfl rfl ?_
  refine mm_aload_0 1 dX12_lords_0 rfl ?_
  refine mm_cV0v 4 dX12_lords_1 v_X12_163 rfl t_51 (by decide) rfl rfl (Nat.le_of_ble_eq_true rfl) ⟨rfl, rfl⟩ ⟨Nat.zero_le _, Nat.zero_le _⟩ (b_find hi hf (fun M1 X1 => ?_))
  refine mm_iload_3 5 dX12_lords_4 rfl ?_
  refine mm_cS1i 8 dX12_lords_5 v_X12_124 rfl (Nat.le_of_ble_eq_true rfl) ⟨rfl, rfl⟩ ⟨Nat.zero_le _, Nat.zero_le _⟩ (c_X12_isTwo  (fun h2 => ?_) (fun h2 => ?_))
  · refine mm_if_eq 21 11 dX12_lords_8 (by decide) rfl (fun h => absurd h (by decide)) (fun _ => ?_)
    refine mm_aload_0 12 dX12_lords_11 rfl ?_
    refine mm_iload_1 13 dX12_lords_12 rfl ?_
    refine mm_iload_2 14 dX12_lords_13 rfl ?_
    refine mm_iload_3 15 dX12_lords_14 rfl ?_
    refine mm_cV3i 18 dX12_lords_15 v_X12_344 rfl t_51 (by decide) rfl rfl (Nat.le_of_ble_eq_true rfl) ⟨rfl, rfl⟩ ⟨Nat.zero_le _, Nat.zero_le _⟩ (c_X12_turnsBy hi X1 h2 (fun r3 M3 e3 X3 => ?_))
    refine mm_goto 24 dX12_lords_18 (by decide) ?_
    refine mm_iret dX12_lords_24 rfl ⟨rfl, Nat.zero_le _⟩ ?_
    exact h _ _ e3 X3.1
  · refine mm_if_eq 21 11 dX12_lords_8 (by decide) rfl (fun _ => ?_) (fun h => absurd h (by decide))
    refine mm_sipush 24 (-10002) dX12_lords_21 rfl (by decide) ?_
    refine mm_iret dX12_lords_24 rfl ⟨rfl, Nat.zero_le _⟩ ?_
    refine h _ _ ?_ X1.1
    unfold z_lords
    rw [if_neg (fun q => h2 q.2)]

