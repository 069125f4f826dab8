/-! forged and unlike, the reference -/
theorem g_pre.kp {X Y : mm_M} (h : g_pre X) (k : g_kp X Y) : g_pre Y := by
  unfold g_pre at h ⊢
  rw [k.1 59 (by decide) (by decide), k.2 8 (by decide) (by decide) (by decide), k.2 10 (by decide) (by decide) (by decide)]
  exact h
def r_q (D A M : mm_M) : Prop := fr A M ∧ v_d D M (a_nl A) (a_np A) (a_ne A) ∧ g_pre M
theorem r_q.gk {D A M Y : mm_M} (h : r_q D A M) (k : g_kp M Y) : r_q D A Y := ⟨h.1.gk k, h.2.1.kp (fun _ _ => rfl) k, h.2.2.kp k⟩
theorem r_x.q {A M : mm_M} (hi : iv A) (h : r_x A M) : r_q A A M := ⟨h.1, h.vd hi (fun _ _ => rfl), h.pre hi⟩
theorem r_q.w {D A M X : mm_M} (h : r_q D A M) (hd : v_d D X (a_nl A) (a_np A) (a_ne A)) (hx : g_pre X) {k j : Nat} (hk : k ≤ a_ne A) (hj : j < a_nl A) : g_run M (-1) k 62 j = gw X k j :=
  (e_w_of (A := A) (v_run h.2.1 h.2.2 k hk) (v_run hd hx k hk)).1 j hj
/-- the reference's memory behind find(), one height another -/
def r_h (A : mm_M) (p : Nat) (v : Int32) (X : mm_M) : Prop := fr A X ∧ X 51 8 = nI (a_nl A) ∧ (∀ j, j < a_nl A → X 58 j = q_lw (A 56) j) ∧ X 51 10 = nI (a_np A) ∧ (∀ q k, q < a_np A → k < 4 → X 59 (4 * q + k) = if q = p ∧ k = 2 then v else q_wh (a_b1 A) q k)
theorem r_x.h {A X : mm_M} (h : r_x A X) (p : Nat) : r_h A p (q_wh (a_b1 A) p 2) X := ⟨h.1, h.2.1, h.2.2.1, h.2.2.2.1, fun q k hq hk => by
  rw [h.2.2.2.2 q k hq hk]
  split
  · rename_i e; rw [e.1, e.2]
  · rfl⟩
theorem r_h.x {A X : mm_M} {p : Nat} (h : r_h A p (q_wh (a_b1 A) p 2) X) : r_x A X := ⟨h.1, h.2.1, h.2.2.1, h.2.2.2.1, fun q k hq hk => by
  rw [h.2.2.2.2 q k hq hk]
  split
  · rename_i e; rw [e.1, e.2]
  · rfl⟩
theorem r_h.set {A X : mm_M} {p : Nat} {v : Int32} (w : Int32) (h : r_h A p v X) : r_h A p w (mm_up X 59 (4 * p + 2) w) := by
  refine ⟨h.1.up (by decide) (by decide), by rw [mm_upn _ _ _ (by decide)]; exact h.2.1, by rw [mm_upn _ _ _ (by decide)]; exact h.2.2.1, by rw [mm_upn _ _ _ (by decide)]; exact h.2.2.2.1, fun q k hq hk => ?_⟩
  rw [mm_upc]
  simp only [upd]
  by_cases e : q = p ∧ k = 2
  · rw [if_pos e, if_pos (by omega)]
  · rw [if_neg e, if_neg (by omega), h.2.2.2.2 q k hq hk, if_neg e]
theorem r_h.gk {A X Y : mm_M} {p : Nat} {v : Int32} (h : r_h A p v X) (k : g_kp X Y) : r_h A p v Y := by
  refine ⟨h.1.gk k, ?_, ?_, ?_, ?_⟩
  · rw [k.2 8 (by decide) (by decide) (by decide)]; exact h.2.1
  · rw [k.1 58 (by decide) (by decide)]; exact h.2.2.1
  · rw [k.2 10 (by decide) (by decide) (by decide)]; exact h.2.2.2.1
  · rw [k.1 59 (by decide) (by decide)]; exact h.2.2.2.2
theorem r_h.q {A X : mm_M} {p : Nat} {v : Int32} (hi : iv A) (h : r_h A p v X) (hp : p < a_np A) (hv : 0 ≤ v.toInt ∧ v.toInt ≤ 9) : r_q (mm_up A 10 p v) A X := by
  have e : mm_up (mm_up X 59 (4 * p + 2) (q_wh (a_b1 A) p 2)) 59 (4 * p + 2) v = X := by
    rw [mm_up2]
    have := h.2.2.2.2 p 2 hp (by decide)
    rw [if_pos ⟨rfl, rfl⟩] at this
    rw [← this, mm_noop]
  have x0 := (h.set (q_wh (a_b1 A) p 2)).x
  have d := (x0.vd hi (M := A) (fun _ _ => rfl)).hgt hp hv
  have g := (x0.pre hi).hgt (p := p) (v := v)
  rw [e] at d g
  exact ⟨h.1, d, g⟩

set_option maxHeartbeats 4000000 in
theorem c_X12_widthOfx {l : Launch} {G : mm_G} {d : Nat} {M : mm_M} {Q : Int32 → mm_T → mm_M → Prop} {x k y : Int32} {kk j : Nat} (hk : k = nI kk) (hkn : kk ≤ 24) (hp : g_pre M) (he : ∀ e, e < kk → g_ev M e) (hj : x = nI j) (hj6 : j < 6) (h : ∀ r, r = g_run M y kk 62 j → Q r T0 (g_run M y kk)) : mm_met l G (d + 4) k_X12_widthOf [.ref 51, .int x, .int k, .int y] T0 M (mm_pi Q) := by
  refine mm_enter 0 [.ref 51, .int x, .int k, .int y] o_X12_widthOf rfl rfl ?_
  refine mm_aload_0 1 dX12_widthOf_0 rfl ?_
  refine mm_iload_2 2 dX12_widthOf_1 rfl ?_
  refine mm_iload_3 3 dX12_widthOf_2 rfl ?_
  refine mm_cV2v 6 dX12_widthOf_3 v_X12_238 rfl t_51 (by decide) rfl rfl (Nat.le_of_ble_eq_true rfl) ⟨rfl, rfl⟩ ⟨Nat.zero_le _, Nat.zero_le _⟩ (c_X12_goes hk hkn hp he ?_)
  refine mm_aload_0 7 dX12_widthOf_6 rfl ?_
  refine mm_getR 10 dX12_widthOf_7 f_X12_40 rfl t_51 rfl ?_
  refine mm_iload_1 11 dX12_widthOf_10 rfl ?_
  refine mm_ialoadn 12 (j) dX12_widthOf_11 rfl t_62 (by decide) (hj) (by omega) ?_
  refine mm_iret dX12_widthOf_12 rfl ⟨rfl, Nat.zero_le _⟩ ?_
  exact h _ rfl

set_option maxHeartbeats 4000000 in
theorem c_X12_canBeAsked {l : Launch} {G : mm_G} {d : Nat} {M : mm_M} {Q : Int32 → mm_T → mm_M → Prop} {x : Int32} {s : Nat} (hx : x = nI s) (hs : s < 8) (ht : (M 72 (3 * s)).toInt < (M 51 8).toInt ∧ (M 72 (3 * s + 1)).toInt ≤ (M 51 13).toInt → Q 1 T0 M) (hf : ¬ ((M 72 (3 * s)).toInt < (M 51 8).toInt ∧ (M 72 (3 * s + 1)).toInt ≤ (M 51 13).toInt) → Q 0 T0 M) : mm_met l G d k_X12_canBeAsked [.ref 51, .int x] T0 M (mm_pi Q) := by
  refine mm_enter 0 [.ref 51, .int x] o_X12_canBeAsked rfl rfl ?_
  refine mm_aload_0 1 dX12_canBeAsked_0 rfl ?_
  refine mm_getR 4 dX12_canBeAsked_1 f_X12_70 rfl t_51 rfl ?_
  refine mm_iconst 5 3 dX12_canBeAsked_4 rfl (by decide) ?_
  refine mm_iload_1 6 dX12_canBeAsked_5 rfl ?_
  refine mm_imul 7 dX12_canBeAsked_6 rfl ?_
  refine mm_ialoadn 8 (3 * s) dX12_canBeAsked_7 rfl t_72 (by decide) (by rw [hx, mm_l3, pk_mul]) (by omega) ?_
  refine mm_aload_0 9 dX12_canBeAsked_8 rfl ?_
  refine mm_getI 12 dX12_canBeAsked_9 f_X12_138 rfl t_51 rfl ?_
  refine mm_ic_ge 36 15 dX12_canBeAsked_12 (by decide) rfl (fun h1 => ?_) (fun h1 => ?_)
  · refine mm_iconst 37 0 dX12_canBeAsked_36 rfl (by decide) ?_
    refine mm_zret dX12_canBeAsked_37 rfl ⟨rfl, Nat.zero_le _⟩ (Or.inl rfl) ?_
    refine hf ?_
    try simp only [Int32.lt_iff_toInt_lt, Int32.le_iff_toInt_le, ← Int32.toInt_inj, vp_in_iff, Int32.reduceToInt, mm_t1, mm_t2, mm_t3, mm_t4, mm_t10] at h1 ⊢
    omega
  · refine mm_aload_0 16 dX12_canBeAsked_15 rfl ?_
    refine mm_getR 19 dX12_canBeAsked_16 f_X12_70 rfl t_51 rfl ?_
    refine mm_iconst 20 3 dX12_canBeAsked_19 rfl (by decide) ?_
    refine mm_iload_1 21 dX12_canBeAsked_20 rfl ?_
    refine mm_imul 22 dX12_canBeAsked_21 rfl ?_
    refine mm_iconst 23 1 dX12_canBeAsked_22 rfl (by decide) ?_
    refine mm_iadd 24 dX12_canBeAsked_23 rfl ?_
    refine mm_ialoadn 25 (3 * s + 1) dX12_canBeAsked_24 rfl t_72 (by decide) (by rw [hx, mm_l3, pk_mul, mm_l1, nI_add]) (by omega) ?_
    refine mm_aload_0 26 dX12_canBeAsked_25 rfl ?_
    refine mm_getI 29 dX12_canBeAsked_26 f_X12_184 rfl t_51 rfl ?_
    refine mm_ic_gt 36 32 dX12_canBeAsked_29 (by decide) rfl (fun h2 => ?_) (fun h2 => ?_)
    · refine mm_iconst 37 0 dX12_canBeAsked_36 rfl (by decide) ?_
      refine mm_zret dX12_canBeAsked_37 rfl ⟨rfl, Nat.zero_le _⟩ (Or.inl rfl) ?_
      refine hf ?_
      try simp only [Int32.lt_iff_toInt_lt, Int32.le_iff_toInt_le, ← Int32.toInt_inj, vp_in_iff, Int32.reduceToInt, mm_t1, mm_t2, mm_t3, mm_t4, mm_t10] at h1 h2 ⊢
      omega
    · refine mm_iconst 33 1 dX12_canBeAsked_32 rfl (by decide) ?_
      refine mm_goto 37 dX12_canBeAsked_33 (by decide) ?_
      refine mm_zret dX12_canBeAsked_37 rfl ⟨rfl, Nat.zero_le _⟩ (Or.inr rfl) ?_
      refine ht ?_
      try simp only [Int32.lt_iff_toInt_lt, Int32.le_iff_toInt_le, ← Int32.toInt_inj, vp_in_iff, Int32.reduceToInt, mm_t1, mm_t2, mm_t3, mm_t4, mm_t10] at h1 h2 ⊢
      omega

set_option maxHeartbeats 4000000 in
theorem c_X12_isRight {l : Launch} {G : mm_G} {d : Nat} {M : mm_M} {Q : Int32 → mm_T → mm_M → Prop} {x : Int32} {s j kk : Nat} (hx : x = nI s) (hs : s < 8) (hj : M 72 (3 * s) = nI j) (hj6 : j < 6) (hk : M 72 (3 * s + 1) = nI kk) (hkn : kk ≤ 24) (hp : g_pre M) (he : ∀ e, e < kk → g_ev M e) (ht : g_run M (-1) kk 62 j = M 72 (3 * s + 2) → Q 1 T0 (g_run M (-1) kk)) (hn : ¬ g_run M (-1) kk 62 j = M 72 (3 * s + 2) → Q 0 T0 (g_run M (-1) kk)) : mm_met l G (d + 5) k_X12_isRight [.ref 51, .int x] T0 M (mm_pi Q) := by
  refine mm_enter 0 [.ref 51, .int x] o_X12_isRight rfl rfl ?_
  refine mm_aload_0 1 dX12_isRight_0 rfl ?_
  refine mm_aload_0 2 dX12_isRight_1 rfl ?_
  refine mm_getR 5 dX12_isRight_2 f_X12_70 rfl t_51 rfl ?_
  refine mm_iconst 6 3 dX12_isRight_5 rfl (by decide) ?_
  refine mm_iload_1 7 dX12_isRight_6 rfl ?_
  refine mm_imul 8 dX12_isRight_7 rfl ?_
  refine mm_ialoadn 9 (3 * s) dX12_isRight_8 rfl t_72 (by decide) (by rw [hx, mm_l3, pk_mul]) (by omega) ?_
  refine mm_aload_0 10 dX12_isRight_9 rfl ?_
  refine mm_getR 13 dX12_isRight_10 f_X12_70 rfl t_51 rfl ?_
  refine mm_iconst 14 3 dX12_isRight_13 rfl (by decide) ?_
  refine mm_iload_1 15 dX12_isRight_14 rfl ?_
  refine mm_imul 16 dX12_isRight_15 rfl ?_
  refine mm_iconst 17 1 dX12_isRight_16 rfl (by decide) ?_
  refine mm_iadd 18 dX12_isRight_17 rfl ?_
  refine mm_ialoadn 19 (3 * s + 1) dX12_isRight_18 rfl t_72 (by decide) (by rw [hx, mm_l3, pk_mul, mm_l1, nI_add]) (by omega) ?_
  refine mm_iconst 20 (-1) dX12_isRight_19 rfl (by decide) ?_
  refine mm_cV3i 23 dX12_isRight_20 v_X12_251 rfl t_51 (by decide) rfl rfl (Nat.le_of_ble_eq_true rfl) ⟨rfl, rfl⟩ ⟨Nat.zero_le _, Nat.zero_le _⟩ (c_X12_widthOfx hk hkn hp he hj hj6 (fun r1 e1 => ?_))
  refine mm_aload_0 24 dX12_isRight_23 rfl ?_
  refine mm_getR 27 dX12_isRight_24 f_X12_70 rfl t_51 rfl ?_
  refine mm_iconst 28 3 dX12_isRight_27 rfl (by decide) ?_
  refine mm_iload_1 29 dX12_isRight_28 rfl ?_
  refine mm_imul 30 dX12_isRight_29 rfl ?_
  refine mm_iconst 31 2 dX12_isRight_30 rfl (by decide) ?_
  refine mm_iadd 32 dX12_isRight_31 rfl ?_
  refine mm_ialoadn 33 (3 * s + 2) dX12_isRight_32 rfl t_72 (by decide) (by rw [hx, mm_l3, pk_mul, mm_l2, nI_add]) (by omega) ?_
  refine mm_ic_ne 40 36 dX12_isRight_33 (by decide) rfl (fun h2 => ?_) (fun h2 => ?_)
  · refine mm_iconst 41 0 dX12_isRight_40 rfl (by decide) ?_
    refine mm_zret dX12_isRight_41 rfl ⟨rfl, Nat.zero_le _⟩ (Or.inl rfl) ?_
    rw [e1, (g_run_ok hp kk he).1.1 72 (by decide) (by decide)] at h2
    exact hn h2
  · refine mm_iconst 37 1 dX12_isRight_36 rfl (by decide) ?_
    refine mm_goto 41 dX12_isRight_37 (by decide) ?_
    refine mm_zret dX12_isRight_41 rfl ⟨rfl, Nat.zero_le _⟩ (Or.inr rfl) ?_
    rw [e1, (g_run_ok hp kk he).1.1 72 (by decide) (by decide)] at h2
    exact ht h2

set_option maxHeartbeats 4000000 in
theorem w_X12_unlikeNow {l : Launch} {G : mm_G} {d : Nat} {Q : Int32 → mm_T → mm_M → Prop} {A X : mm_M} (hi : iv A) (hdx : v_d A X (a_nl A) (a_np A) (a_ne A)) (hx : g_pre X) (h : ∀ r M1, r = nI (cnt (fun i => un (A 39) (A 40) (a_nl A) (a_ne A) i || ov (gw X) (A 39) (A 40) (A 41) (a_nl A) (a_ne A + 1) i) (a_ns A)) → r_q A A M1 → Q r T0 M1) : ∀ (z s : Nat) (Mi : mm_M), a_ns A - s ≤ z → s ≤ a_ns A → r_q A A Mi → mm_wp l G (d + 6) k_X12_unlikeNow (mm_pi Q) 4 [.ref 51, .int (nI (cnt (fun i => un (A 39) (A 40) (a_nl A) (a_ne A) i || ov (gw X) (A 39) (A 40) (A 41) (a_nl A) (a_ne A + 1) i) s)), .int (nI s)] [] T0 Mi 0 0 := by
  have n6 := hi.1.nl
  have n12 := hi.1.np
  have n24 := hi.1.ne.2
  have n8 := hi.1.ns.2
  intro z
  induction z using Nat.strongRecOn with | _ z ih => ?_
  intro s Mi hze hsn hq
  have hsi : (nI s).toInt = s := mm_ti (by omega)
  have hni : (nI (a_ns A)).toInt = a_ns A := mm_ti (by omega)
  refine mm_iload_2 5 dX12_unlikeNow_4 rfl ?_
  refine mm_aload_0 6 dX12_unlikeNow_5 rfl ?_
  refine mm_getI 9 dX12_unlikeNow_6 f_X12_294 rfl t_51 rfl ?_
  rw [hq.1.2.2.2, hi.1.ns.1]
  refine mm_ic_ge 42 12 dX12_unlikeNow_9 (by decide) rfl (fun h1 => ?_) (fun h1 => ?_)
  · refine mm_iload_1 43 dX12_unlikeNow_42 rfl ?_
    refine mm_iret dX12_unlikeNow_43 rfl ⟨rfl, Nat.zero_le _⟩ ?_
    have hz : s = a_ns A := by (try simp only [hsi, hni, Int32.lt_iff_toInt_lt, Int32.le_iff_toInt_le, ← Int32.toInt_inj, vp_in_iff, Int32.reduceToInt, mm_t1, mm_t2, mm_t3, mm_t4, mm_t10] at h1); omega
    rw [hz]
    exact h _ _ rfl hq
  · have hlt : s < a_ns A := by (try simp only [hsi, hni, Int32.lt_iff_toInt_lt, Int32.le_iff_toInt_le, ← Int32.toInt_inj, vp_in_iff, Int32.reduceToInt, mm_t1, mm_t2, mm_t3, mm_t4, mm_t10] at h1); omega
    have hs := hi.2.2.2.2.2.1.2 s hlt
    have bb := hi.1.2.2.2.2.2.2.1 s (by rw [hi.1.ns.1, mm_ti (by omega)]; omega)
    rw [← hs.1, ← hs.2.1, ← hs.2.2] at bb
    have x8 : (Mi 51 8).toInt = a_nl A := hq.2.1.li
    have x13 : (Mi 51 13).toInt = a_ne A := by rw [hq.1.2.2.1, hi.1.ne.1]; exact mm_ti (by omega)
    have f0 : Mi 72 (3 * s) = A 39 s := by rw [hq.1.a 72]; exact hs.1.symm
    have f1 : Mi 72 (3 * s + 1) = A 40 s := by rw [hq.1.a 72]; exact hs.2.1.symm
    have f2 : Mi 72 (3 * s + 2) = A 41 s := by rw [hq.1.a 72]; exact hs.2.2.symm
    have cL := mm_cl bb.1.1
    have cK := mm_cl bb.2.1.1
    refine mm_iload_1 13 dX12_unlikeNow_12 rfl ?_
    refine mm_aload_0 14 dX12_unlikeNow_13 rfl ?_
    refine mm_iload_2 15 dX12_unlikeNow_14 rfl ?_
    refine mm_cV1i 18 dX12_unlikeNow_15 v_X12_297 rfl t_51 (by decide) rfl rfl (Nat.le_of_ble_eq_true rfl) ⟨rfl, rfl⟩ ⟨Nat.zero_le _, Nat.zero_le _⟩ (c_X12_canBeAsked rfl (by omega) (fun h2 => ?_) (fun h2 => ?_))
    · refine mm_if_eq 33 21 dX12_unlikeNow_18 (by decide) rfl (fun h => absurd h (by decide)) (fun _ => ?_)
      refine mm_aload_0 22 dX12_unlikeNow_21 rfl ?_
      refine mm_iload_2 23 dX12_unlikeNow_22 rfl ?_
      refine mm_cV1i 26 dX12_unlikeNow_23 v_X12_300 rfl t_51 (by decide) rfl rfl (Nat.le_of_ble_eq_true rfl) ⟨rfl, rfl⟩ ⟨Nat.zero_le _, Nat.zero_le _⟩ (c_X12_isRight rfl (by omega) (f0.trans (mm_nc bb.1.1)) (by omega) (f1.trans (mm_nc bb.2.1.1)) (by omega) hq.2.2 (fun e he => (hq.2.1.2.2.2.2.2.2.2 e (by rw [f0, f1, x8, x13] at h2; omega)).2.1) (fun h3 => ?_) (fun h3 => ?_))
      · refine mm_if_eq 33 29 dX12_unlikeNow_26 (by decide) rfl (fun h => absurd h (by decide)) (fun _ => ?_)
        refine mm_iconst 30 0 dX12_unlikeNow_29 rfl (by decide) ?_
        refine mm_goto 34 dX12_unlikeNow_30 (by decide) ?_
        refine mm_iadd 35 dX12_unlikeNow_34 rfl ?_
        refine mm_istore_1 36 dX12_unlikeNow_35 rfl rfl ?_
        refine mm_iinc_2 39 1 dX12_unlikeNow_36 rfl (by decide) rfl ?_
        refine mm_goto 4 dX12_unlikeNow_39 (by decide) ?_
        rw [f0, f1, x8, x13] at h2
        rw [hq.w hdx hx (by omega) (by omega), f2] at h3
        rw [nI_1, Int32.add_zero]
        have hh := ih (a_ns A - (s + 1)) (by omega) (s + 1) _ (Nat.le_refl _) (by omega) (hq.gk (g_run_ok hq.2.2 (y := -1) (A 40 s).toNatClampNeg (fun e he => (hq.2.1.2.2.2.2.2.2.2 e (by omega)).2.1)).1)
        rw [cnt_f (by simp only [un, ov, Bool.or_eq_true, decide_eq_true_eq]; rintro (q | q)
                      · omega
                      · exact q.2 h3)] at hh
        exact hh
      · refine mm_if_eq 33 29 dX12_unlikeNow_26 (by decide) rfl (fun _ => ?_) (fun h => absurd h (by decide))
        refine mm_iconst 34 1 dX12_unlikeNow_33 rfl (by decide) ?_
        refine mm_iadd 35 dX12_unlikeNow_34 rfl ?_
        refine mm_istore_1 36 dX12_unlikeNow_35 rfl rfl ?_
        refine mm_iinc_2 39 1 dX12_unlikeNow_36 rfl (by decide) rfl ?_
        refine mm_goto 4 dX12_unlikeNow_39 (by decide) ?_
        rw [f0, f1, x8, x13] at h2
        rw [hq.w hdx hx (by omega) (by omega), f2] at h3
        rw [nI_1, nI_1]
        have hh := ih (a_ns A - (s + 1)) (by omega) (s + 1) _ (Nat.le_refl _) (by omega) (hq.gk (g_run_ok hq.2.2 (y := -1) (A 40 s).toNatClampNeg (fun e he => (hq.2.1.2.2.2.2.2.2.2 e (by omega)).2.1)).1)
        rw [cnt_t (by simp only [un, ov, Bool.or_eq_true, decide_eq_true_eq]; right; exact ⟨⟨⟨by omega, by omega⟩, by omega, by omega⟩, h3⟩)] at hh
        exact hh
    · refine mm_if_eq 33 21 dX12_unlikeNow_18 (by decide) rfl (fun _ => ?_) (fun h => absurd h (by decide))
      refine mm_iconst 34 1 dX12_unlikeNow_33 rfl (by decide) ?_
      refine mm_iadd 35 dX12_unlikeNow_34 rfl ?_
      refine mm_istore_1 36 dX12_unlikeNow_35 rfl rfl ?_
      refine mm_iinc_2 39 1 dX12_unlikeNow_36 rfl (by decide) rfl ?_
      refine mm_goto 4 dX12_unlikeNow_39 (by decide) ?_
      rw [f0, f1, x8, x13] at h2
      rw [nI_1, nI_1]
      have hh := ih (a_ns A - (s + 1)) (by omega) (s + 1) _ (Nat.le_refl _) (by omega) (hq)
      rw [cnt_t (by simp only [un, ov, Bool.or_eq_true, decide_eq_true_eq]; left; omega)] at hh
      exact hh

theorem un_ov {W : Nat → Nat → Int32} {L K V : Nat → Int32} {nl ne : Nat} (i : Nat) : ¬ (un L K nl ne i = true ∧ ov W L K V nl (ne + 1) i = true) := by
  simp only [un, ov, decide_eq_true_eq]
  omega
theorem r_x.rest {A X : mm_M} (h : r_x A X) {M : mm_M} (k : g_kp X M) : r_x A M := h.gk k

set_option maxHeartbeats 4000000 in
theorem c_X12_unlikeNow {l : Launch} {G : mm_G} {d : Nat} {M : mm_M} {Q : Int32 → mm_T → mm_M → Prop} {A : mm_M} (hi : iv A) (hx : r_x A M) (h : ∀ r M1, r = z_unlike A → fr A M1 → Q r T0 M1) : mm_met l G (d + 6) k_X12_unlikeNow [.ref 51] T0 M (mm_pi Q) := by
  have n6 := hi.1.nl
  have n12 := hi.1.np
  have n24 := hi.1.ne.2
  have n8 := hi.1.ns.2
  refine mm_enter 2 [.ref 51, .double 0, .double 0] o_X12_unlikeNow rfl rfl ?_
  refine mm_iconst 1 0 dX12_unlikeNow_0 rfl (by decide) ?_
  refine mm_istore_1 2 dX12_unlikeNow_1 rfl rfl ?_
  refine mm_iconst 3 0 dX12_unlikeNow_2 rfl (by decide) ?_
  refine mm_istore_2 4 dX12_unlikeNow_3 rfl rfl ?_
  exact w_X12_unlikeNow (X := zz A) hi ((zz_x A).vd hi (fun _ _ => rfl)) ((zz_x A).pre hi) (fun r M1 e q => h r M1 (by rw [e, cnt_or un_ov]; rfl) q.1) (a_ns A) 0 M (by omega) (by omega) (hx.q hi)

set_option maxHeartbeats 4000000 in
theorem c_X12_unlike {l : Launch} {G : mm_G} {d : Nat} {M : mm_M} {Q : Int32 → mm_T → mm_M → Prop} {A : mm_M} (hi : iv A) (hf : fr A M) (h : ∀ r M1, r = z_unlike A → fr A M1 → Q r T0 M1) : mm_met l G (d + 7) k_X12_unlike [.ref 51] T0 M (mm_pi Q) := by
  have n6 := hi.1.nl
  have n12 := hi.1.np
  have n24 := hi.1.ne.2
  have n8 := hi.1.ns.2
  refine mm_enter 0 [.ref 51] o_X12_unlike rfl rfl ?_
  refine mm_aload_0 1 dX12_unlike_0 rfl ?_
  refine mm_cV0v 4 dX12_unlike_1 v_X12_163 rfl t_51 (by decide) rfl rfl (Nat.le_of_ble_eq_true rfl) ⟨rfl, rfl⟩ ⟨Nat.zero_le _, Nat.zero_le _⟩ (b_find hi hf (fun M1 X1 => ?_))
  refine mm_aload_0 5 dX12_unlike_4 rfl ?_
  refine mm_cV0i 8 dX12_unlike_5 v_X12_306 rfl t_51 (by decide) rfl rfl (Nat.le_of_ble_eq_true rfl) ⟨rfl, rfl⟩ ⟨Nat.zero_le _, Nat.zero_le _⟩ (c_X12_unlikeNow hi X1 (fun r2 M2 e2 X2 => ?_))
  refine mm_iret dX12_unlike_8 rfl ⟨rfl, Nat.zero_le _⟩ ?_
  exact h _ _ e2 X2

def isv (c : Nat) : Int32 := if c = 0 then 1 else 0
theorem isv_1 {c : Nat} (h : c = 0) : isv c = 1 := if_pos h
theorem isv_0 {c : Nat} (h : ¬ c = 0) : isv c = 0 := if_neg h
theorem isv_e {c : Nat} (h : isv c = 0) : ¬ c = 0 := fun q => absurd ((isv_1 q).symm.trans h) (by decide)
theorem isv_n {c : Nat} (h : ¬ isv c = 0) : c = 0 := Classical.byContradiction (fun q => h (isv_0 q))
theorem cnt_up {f : Nat → Bool} {k : Nat} (h : ¬ cnt f k = 0) : ¬ cnt f (k + 1) = 0 := by
  unfold cnt
  split <;> omega

set_option maxHeartbeats 4000000 in
theorem w_X12_forged2 {l : Launch} {G : mm_G} {d : Nat} {Q : Int32 → mm_T → mm_M → Prop} {A : mm_M} (hi : iv A) {x was bits hv : Int32} {p : Nat} (hp : p < a_np A) {v : Int32} (hv9 : 0 ≤ v.toInt ∧ v.toInt ≤ 9) (h : ∀ M1, r_h A p v M1 → mm_wp l G (d + 6) k_X12_forgedOf (mm_pi Q) 86 [.ref 51, .int x, .int was, .int bits, .int hv, .int (isv (cnt (ov (gw (zh A p v)) (A 39) (A 40) (A 41) (a_nl A) (a_ne A + 1)) (a_ns A))), .int (nI (a_ns A))] [] T0 M1 0 0) : ∀ (z s : Nat) (Mi : mm_M), a_ns A - s ≤ z → s ≤ a_ns A → r_h A p v Mi → mm_wp l G (d + 6) k_X12_forgedOf (mm_pi Q) 41 [.ref 51, .int x, .int was, .int bits, .int hv, .int (isv (cnt (ov (gw (zh A p v)) (A 39) (A 40) (A 41) (a_nl A) (a_ne A + 1)) s)), .int (nI s)] [] T0 Mi 0 0 := by
  have n6 := hi.1.nl
  have n12 := hi.1.np
  have n24 := hi.1.ne.2
  have n8 := hi.1.ns.2
  have hdx := zh_d hi hp hv9
  have hx := zh_p (A := A) hi (p := p) (v := v)
  intro z
  induction z using Nat.strongRecOn with | _ z ih => ?_
  intro s Mi hze hsn hr
  have hq := hr.q hi hp hv9
  have hsi : (nI s).toInt = s := mm_ti (by omega)
  have hni : (nI (a_ns A)).toInt = a_ns A := mm_ti (by omega)
  refine mm_iload_6 43 dX12_forgedOf_41 rfl ?_
  refine mm_aload_0 44 dX12_forgedOf_43 rfl ?_
  refine mm_getI 47 dX12_forgedOf_44 f_X12_294 rfl t_51 rfl ?_
  rw [hq.1.2.2.2, hi.1.ns.1]
  refine mm_ic_ge 86 50 dX12_forgedOf_47 (by decide) rfl (fun h1 => ?_) (fun h1 => ?_)
  · have hz : s = a_ns A := by (try simp only [hsi, hni, Int32.lt_iff_toInt_lt, Int32.le_iff_toInt_le, ← Int32.toInt_inj, vp_in_iff, Int32.reduceToInt, mm_t1, mm_t2, mm_t3, mm_t4, mm_t10] at h1); omega
    rw [hz]
    exact h _ hr
  · have hlt : s < a_ns A := by (try simp only [hsi, hni, Int32.lt_iff_toInt_lt, Int32.le_iff_toInt_le, ← Int32.toInt_inj, vp_in_iff, Int32.reduceToInt, mm_t1, mm_t2, mm_t3, mm_t4, mm_t10] at h1); omega
    have hs := hi.2.2.2.2.2.1.2 s hlt
    have bb := hi.1.2.2.2.2.2.2.1 s (by rw [hi.1.ns.1, mm_ti (by omega)]; omega)
    rw [← hs.1, ← hs.2.1, ← hs.2.2] at bb
    have x8 : (Mi 51 8).toInt = a_nl A := hq.2.1.li
    have x13 : (Mi 51 13).toInt = a_ne A := by rw [hq.1.2.2.1, hi.1.ne.1]; exact mm_ti (by omega)
    have f0 : Mi 72 (3 * s) = A 39 s := by rw [hq.1.a 72]; exact hs.1.symm
    have f1 : Mi 72 (3 * s + 1) = A 40 s := by rw [hq.1.a 72]; exact hs.2.1.symm
    have f2 : Mi 72 (3 * s + 2) = A 41 s := by rw [hq.1.a 72]; exact hs.2.2.symm
    have cL := mm_cl bb.1.1
    have cK := mm_cl bb.2.1.1
    refine mm_iload_5 52 dX12_forgedOf_50 rfl ?_
    refine mm_if_eq 77 55 dX12_forgedOf_52 (by decide) rfl (fun h2 => ?_) (fun h2 => ?_)
    · refine mm_iconst 78 0 dX12_forgedOf_77 rfl (by decide) ?_
      refine mm_istore_5 80 dX12_forgedOf_78 rfl rfl ?_
      refine mm_iinc_6 83 1 dX12_forgedOf_80 rfl (by decide) rfl ?_
      refine mm_goto 41 dX12_forgedOf_83 (by decide) ?_
      have hh := ih (a_ns A - (s + 1)) (by omega) (s + 1) _ (Nat.le_refl _) (by omega) (hr)
      rw [isv_0 (cnt_up (isv_e h2))] at hh
      rw [nI_1]
      exact hh
    · refine mm_aload_0 56 dX12_forgedOf_55 rfl ?_
      refine mm_iload_6 58 dX12_forgedOf_56 rfl ?_
      refine mm_cV1i 61 dX12_forgedOf_58 v_X12_297 rfl t_51 (by decide) rfl rfl (Nat.le_of_ble_eq_true rfl) ⟨rfl, rfl⟩ ⟨Nat.zero_le _, Nat.zero_le _⟩ (c_X12_canBeAsked rfl (by omega) (fun h3 => ?_) (fun h3 => ?_))
      · refine mm_if_eq 73 64 dX12_forgedOf_61 (by decide) rfl (fun h => absurd h (by decide)) (fun _ => ?_)
        refine mm_aload_0 65 dX12_forgedOf_64 rfl ?_
        refine mm_iload_6 67 dX12_forgedOf_65 rfl ?_
        refine mm_cV1i 70 dX12_forgedOf_67 v_X12_300 rfl t_51 (by decide) rfl rfl (Nat.le_of_ble_eq_true rfl) ⟨rfl, rfl⟩ ⟨Nat.zero_le _, Nat.zero_le _⟩ (c_X12_isRight rfl (by omega) (f0.trans (mm_nc bb.1.1)) (by omega) (f1.trans (mm_nc bb.2.1.1)) (by omega) hq.2.2 (fun e he => (hq.2.1.2.2.2.2.2.2.2 e (by rw [f0, f1, x8, x13] at h3; omega)).2.1) (fun h4 => ?_) (fun h4 => ?_))
        · refine mm_if_eq 77 73 dX12_forgedOf_70 (by decide) rfl (fun h => absurd h (by decide)) (fun _ => ?_)
          refine mm_iconst 74 1 dX12_forgedOf_73 rfl (by decide) ?_
          refine mm_goto 78 dX12_forgedOf_74 (by decide) ?_
          refine mm_istore_5 80 dX12_forgedOf_78 rfl rfl ?_
          refine mm_iinc_6 83 1 dX12_forgedOf_80 rfl (by decide) rfl ?_
          refine mm_goto 41 dX12_forgedOf_83 (by decide) ?_
          have c0 := isv_n h2
          rw [f0, f1, x8, x13] at h3
          rw [hq.w hdx hx (by omega) (by omega), f2] at h4
          have hh := ih (a_ns A - (s + 1)) (by omega) (s + 1) _ (Nat.le_refl _) (by omega) (hr.gk (g_run_ok hq.2.2 (y := -1) (A 40 s).toNatClampNeg (fun e he => (hq.2.1.2.2.2.2.2.2.2 e (by omega)).2.1)).1)
          rw [isv_1 (by rw [cnt_f (by simp only [ov, decide_eq_true_eq]; exact fun q => q.2 h4)]; exact c0)] at hh
          rw [nI_1]
          exact hh
        · refine mm_if_eq 77 73 dX12_forgedOf_70 (by decide) rfl (fun _ => ?_) (fun h => absurd h (by decide))
          refine mm_iconst 78 0 dX12_forgedOf_77 rfl (by decide) ?_
          refine mm_istore_5 80 dX12_forgedOf_78 rfl rfl ?_
          refine mm_iinc_6 83 1 dX12_forgedOf_80 rfl (by decide) rfl ?_
          refine mm_goto 41 dX12_forgedOf_83 (by decide) ?_
          have c0 := isv_n h2
          rw [f0, f1, x8, x13] at h3
          rw [hq.w hdx hx (by omega) (by omega), f2] at h4
          have hh := ih (a_ns A - (s + 1)) (by omega) (s + 1) _ (Nat.le_refl _) (by omega) (hr.gk (g_run_ok hq.2.2 (y := -1) (A 40 s).toNatClampNeg (fun e he => (hq.2.1.2.2.2.2.2.2.2 e (by omega)).2.1)).1)
          rw [isv_0 (by rw [cnt_t (by simp only [ov, decide_eq_true_eq]; exact ⟨⟨⟨by omega, by omega⟩, by omega, by omega⟩, h4⟩)]; omega)] at hh
          rw [nI_1]
          exact hh
      · refine mm_if_eq 73 64 dX12_forgedOf_61 (by decide) rfl (fun _ => ?_) (fun h => absurd h (by decide))
        refine mm_iconst 74 1 dX12_forgedOf_73 rfl (by decide) ?_
        refine mm_goto 78 dX12_forgedOf_74 (by decide) ?_
        refine mm_istore_5 80 dX12_forgedOf_78 rfl rfl ?_
        refine mm_iinc_6 83 1 dX12_forgedOf_80 rfl (by decide) rfl ?_
        refine mm_goto 41 dX12_forgedOf_83 (by decide) ?_
        have c0 := isv_n h2
        rw [f0, f1, x8, x13] at h3
        have hh := ih (a_ns A - (s + 1)) (by omega) (s + 1) _ (Nat.le_refl _) (by omega) (hr)
        rw [isv_1 (by rw [cnt_f (by simp only [ov, decide_eq_true_eq]; omega)]; exact c0)] at hh
        rw [nI_1]
        exact hh

set_option maxHeartbeats 4000000 in
theorem w_X12_forged3 {l : Launch} {G : mm_G} {d : Nat} {Q : Int32 → mm_T → mm_M → Prop} {A M1 : mm_M} {x was : Int32} {p g c : Nat} {x6 : Value} (hc : c = z_ov A (zh A p (nI (g + 1))) (a_ns A)) (h : ∀ x5 x6 : Value, mm_wp l G (d + 6) k_X12_forgedOf (mm_pi Q) 16 [.ref 51, .int x, .int was, .int (z_fb A p (g + 1)), .int (nI (g + 1 + 1)), x5, x6] [] T0 M1 0 0) : mm_wp l G (d + 6) k_X12_forgedOf (mm_pi Q) 86 [.ref 51, .int x, .int was, .int (z_fb A p g), .int (nI (g + 1)), .int (isv c), x6] [] T0 M1 0 0 := by
  refine mm_iload_3 87 dX12_forgedOf_86 rfl ?_
  refine mm_iload_5 89 dX12_forgedOf_87 rfl ?_
  refine mm_if_eq 101 92 dX12_forgedOf_89 (by decide) rfl (fun h1 => ?_) (fun h1 => ?_)
  · refine mm_iconst 102 0 dX12_forgedOf_101 rfl (by decide) ?_
    refine mm_ior 103 dX12_forgedOf_102 rfl ?_
    refine mm_istore_3 104 dX12_forgedOf_103 rfl rfl ?_
    refine mm_iinc_4 107 1 dX12_forgedOf_104 rfl (by decide) rfl ?_
    refine mm_goto 16 dX12_forgedOf_107 (by decide) ?_
    have hh := h (.int (isv c)) x6
    rw [z_fb_f (by rw [← hc]; exact isv_e h1)] at hh
    rw [nI_1, Int32.or_zero]
    exact hh
  · refine mm_iconst 93 1 dX12_forgedOf_92 rfl (by decide) ?_
    refine mm_iload_4 95 dX12_forgedOf_93 rfl ?_
    refine mm_iconst 96 1 dX12_forgedOf_95 rfl (by decide) ?_
    refine mm_isub 97 dX12_forgedOf_96 rfl ?_
    refine mm_ishl 98 dX12_forgedOf_97 rfl ?_
    refine mm_goto 102 dX12_forgedOf_98 (by decide) ?_
    refine mm_ior 103 dX12_forgedOf_102 rfl ?_
    refine mm_istore_3 104 dX12_forgedOf_103 rfl rfl ?_
    refine mm_iinc_4 107 1 dX12_forgedOf_104 rfl (by decide) rfl ?_
    refine mm_goto 16 dX12_forgedOf_107 (by decide) ?_
    have hh := h (.int (isv c)) x6
    rw [z_fb_t (by rw [← hc]; exact isv_n h1)] at hh
    rw [nI_1]
    exact hh

set_option maxHeartbeats 4000000 in
theorem w_X12_forged1 {l : Launch} {G : mm_G} {d : Nat} {Q : Int32 → mm_T → mm_M → Prop} {A : mm_M} (hi : iv A) {x : Int32} {p : Nat} (hxp : x = nI p) (hp : p < a_np A) (h : ∀ r M1, r = z_fb A p 9 → r_x A M1 → Q r T0 M1) : ∀ (z g : Nat) (Mi : mm_M) {v : Int32} {x5 x6 : Value}, 9 - g ≤ z → g ≤ 9 → r_h A p v Mi → mm_wp l G (d + 6) k_X12_forgedOf (mm_pi Q) 16 [.ref 51, .int x, .int (q_wh (a_b1 A) p 2), .int (z_fb A p g), .int (nI (g + 1)), x5, x6] [] T0 Mi 0 0 := by
  have n6 := hi.1.nl
  have n12 := hi.1.np
  have n24 := hi.1.ne.2
  have n8 := hi.1.ns.2
  intro z
  induction z using Nat.strongRecOn with | _ z ih => ?_
  intro g Mi v x5 x6 hze hg hq
  have hgi1 : (nI (g + 1)).toInt = (g + 1 : Nat) := mm_ti (by omega)
  refine mm_iload_4 18 dX12_forgedOf_16 rfl ?_
  refine mm_bipush 20 10 dX12_forgedOf_18 rfl (by decide) ?_
  refine mm_ic_ge 110 23 dX12_forgedOf_20 (by decide) rfl (fun h1 => ?_) (fun h1 => ?_)
  · refine mm_aload_0 111 dX12_forgedOf_110 rfl ?_
    refine mm_getR 114 dX12_forgedOf_111 f_X12_31 rfl t_51 rfl ?_
    refine mm_iconst 115 4 dX12_forgedOf_114 rfl (by decide) ?_
    refine mm_iload_1 116 dX12_forgedOf_115 rfl ?_
    refine mm_imul 117 dX12_forgedOf_116 rfl ?_
    refine mm_iconst 118 2 dX12_forgedOf_117 rfl (by decide) ?_
    refine mm_iadd 119 dX12_forgedOf_118 rfl ?_
    refine mm_iload_2 120 dX12_forgedOf_119 rfl ?_
    refine mm_iastoren 121 (4 * p + 2) dX12_forgedOf_120 rfl t_59 (by decide) (by rw [hxp, mm_l4, pk_mul, mm_l2, nI_add]) (by omega) ?_
    refine mm_iload_3 122 dX12_forgedOf_121 rfl ?_
    refine mm_iret dX12_forgedOf_122 rfl ⟨rfl, Nat.zero_le _⟩ ?_
    have hz : g = 9 := by (try simp only [hgi1, Int32.lt_iff_toInt_lt, Int32.le_iff_toInt_le, ← Int32.toInt_inj, vp_in_iff, Int32.reduceToInt, mm_t1, mm_t2, mm_t3, mm_t4, mm_t10] at h1); omega
    subst hz
    exact h _ _ rfl (hq.set _).x
  · have hlt : g < 9 := by (try simp only [hgi1, Int32.lt_iff_toInt_lt, Int32.le_iff_toInt_le, ← Int32.toInt_inj, vp_in_iff, Int32.reduceToInt, mm_t1, mm_t2, mm_t3, mm_t4, mm_t10] at h1); omega
    refine mm_aload_0 24 dX12_forgedOf_23 rfl ?_
    refine mm_getR 27 dX12_forgedOf_24 f_X12_31 rfl t_51 rfl ?_
    refine mm_iconst 28 4 dX12_forgedOf_27 rfl (by decide) ?_
    refine mm_iload_1 29 dX12_forgedOf_28 rfl ?_
    refine mm_imul 30 dX12_forgedOf_29 rfl ?_
    refine mm_iconst 31 2 dX12_forgedOf_30 rfl (by decide) ?_
    refine mm_iadd 32 dX12_forgedOf_31 rfl ?_
    refine mm_iload_4 34 dX12_forgedOf_32 rfl ?_
    refine mm_iastoren 35 (4 * p + 2) dX12_forgedOf_34 rfl t_59 (by decide) (by rw [hxp, mm_l4, pk_mul, mm_l2, nI_add]) (by omega) ?_
    refine mm_iconst 36 1 dX12_forgedOf_35 rfl (by decide) ?_
    refine mm_istore_5 38 dX12_forgedOf_36 rfl rfl ?_
    refine mm_iconst 39 0 dX12_forgedOf_38 rfl (by decide) ?_
    refine mm_istore_6 41 dX12_forgedOf_39 rfl rfl ?_
    have hv9 : 0 ≤ (nI (g + 1)).toInt ∧ (nI (g + 1)).toInt ≤ 9 := by rw [hgi1]; omega
    exact w_X12_forged2 hi hp hv9 (fun M1 r1 => w_X12_forged3 rfl (fun y5 y6 => ih (9 - (g + 1)) (by omega) (g + 1) M1 (v := nI (g + 1)) (Nat.le_refl _) (by omega) r1)) (a_ns A) 0 _ (by omega) (by omega) (hq.set (nI (g + 1)))

set_option maxHeartbeats 4000000 in
theorem c_X12_forgedOf {l : Launch} {G : mm_G} {d : Nat} {M : mm_M} {Q : Int32 → mm_T → mm_M → Prop} {A : mm_M} (hi : iv A) (hx : r_x A M) {x : Int32} (hl : 0 ≤ x.toInt ∧ x.toInt < a_np A) (h : ∀ r M1, r = z_fb A x.toNatClampNeg 9 → r_x A M1 → Q r T0 M1) : mm_met l G (d + 6) k_X12_forgedOf [.ref 51, .int x] T0 M (mm_pi Q) := by
  have n6 := hi.1.nl
  have n12 := hi.1.np
  have n24 := hi.1.ne.2
  have n8 := hi.1.ns.2
  have cp := mm_cl2 (x := x) (n := a_np A) hl
  refine mm_enter 5 [.ref 51, .int x, .double 0, .double 0, .double 0, .double 0, .double 0] o_X12_forgedOf rfl rfl ?_
  refine mm_aload_0 1 dX12_forgedOf_0 rfl ?_
  refine mm_getR 4 dX12_forgedOf_1 f_X12_31 rfl t_51 rfl ?_
  refine mm_iconst 5 4 dX12_forgedOf_4 rfl (by decide) ?_
  refine mm_iload_1 6 dX12_forgedOf_5 rfl ?_
  refine mm_imul 7 dX12_forgedOf_6 rfl ?_
  refine mm_iconst 8 2 dX12_forgedOf_7 rfl (by decide) ?_
  refine mm_iadd 9 dX12_forgedOf_8 rfl ?_
  refine mm_ialoadn 10 (4 * x.toNatClampNeg + 2) dX12_forgedOf_9 rfl t_59 (by decide) (by rw [mm_l4, cp.1, pk_mul, mm_l2, nI_add, mm_cn (by omega)]) (by omega) ?_
  refine mm_istore_2 11 dX12_forgedOf_10 rfl rfl ?_
  refine mm_iconst 12 0 dX12_forgedOf_11 rfl (by decide) ?_
  refine mm_istore_3 13 dX12_forgedOf_12 rfl rfl ?_
  refine mm_iconst 14 1 dX12_forgedOf_13 rfl (by decide) ?_
  refine mm_istore_4 16 dX12_forgedOf_14 rfl rfl ?_
  rw [hx.2.2.2.2 _ 2 cp.2.1 (by decide)]
  exact w_X12_forged1 hi cp.1 cp.2.1 h 9 0 M (by omega) (by omega) (hx.h _)

set_option maxHeartbeats 4000000 in
theorem c_X12_forged {l : Launch} {G : mm_G} {d : Nat} {M : mm_M} {Q : Int32 → mm_T → mm_M → Prop} {A : mm_M} (hi : iv A) (hf : fr A M) {x : Int32} (h : ∀ r M1, r = z_forged A x → fr A M1 → Q r T0 M1) : mm_met l G (d + 7) k_X12_forged [.ref 51, .int x] T0 M (mm_pi Q) := by
  have n6 := hi.1.nl
  have n12 := hi.1.np
  have n24 := hi.1.ne.2
  have n8 := hi.1.ns.2
  refine mm_enter 0 [.ref 51, .int x] o_X12_forged rfl rfl ?_
  refine mm_aload_0 1 dX12_forged_0 rfl ?_
  refine mm_iload_1 2 dX12_forged_1 rfl ?_
  refine mm_cV1i 5 dX12_forged_2 v_X12_166 rfl t_51 (by decide) rfl rfl (Nat.le_of_ble_eq_true rfl) ⟨rfl, rfl⟩ ⟨Nat.zero_le _, Nat.zero_le _⟩ (c_X12_isPerson hi hf (fun M1 X1 h1 => ?_) (fun M1 X1 h1 => ?_))
  · refine mm_if_eq 16 8 dX12_forged_5 (by decide) rfl (fun h => absurd h (by decide)) (fun _ => ?_)
    refine mm_aload_0 9 dX12_forged_8 rfl ?_
    refine mm_iload_1 10 dX12_forged_9 rfl ?_
    refine mm_cV1i 13 dX12_forged_10 v_X12_303 rfl t_51 (by decide) rfl rfl (Nat.le_of_ble_eq_true rfl) ⟨rfl, rfl⟩ ⟨Nat.zero_le _, Nat.zero_le _⟩ (c_X12_forgedOf hi X1 h1 (fun r2 M2 e2 X2 => ?_))
    refine mm_goto 18 dX12_forged_13 (by decide) ?_
    refine mm_iret dX12_forged_18 rfl ⟨rfl, Nat.zero_le _⟩ ?_
    refine h _ _ ?_ X2.1
    unfold z_forged
    rw [if_pos h1]
    exact e2
  · refine mm_if_eq 16 8 dX12_forged_5 (by decide) rfl (fun _ => ?_) (fun h => absurd h (by decide))
    refine mm_bipush 18 (-2) dX12_forged_16 rfl (by decide) ?_
    refine mm_iret dX12_forged_18 rfl ⟨rfl, Nat.zero_le _⟩ ?_
    refine h _ _ ?_ X1.1
    unfold z_forged
    rw [if_neg h1]

