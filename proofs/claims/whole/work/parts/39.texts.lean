/-! type and wipe -/
def px (M : mm_M) (n0 n1 : Nat) : Prop := (M 1 1 = nI n0 ∧ M 3 1 = nI n1) ∧ (M 5 1 = nI (q_nl n0 (M 2)) ∧ M 5 2 = q_f0 n0 (M 2) ∧ ∀ j, j < q_nl n0 (M 2) → M 6 j = q_lw (M 2) j) ∧ (M 7 4 = nI (q_np (q_nl n0 (M 2)) n1 (M 4)) ∧ M 7 5 = q_f1 (q_nl n0 (M 2)) n1 (M 4) ∧ ∀ p, p < q_np (q_nl n0 (M 2)) n1 (M 4) → M 8 p = q_wh (M 4) p 0 ∧ M 9 p = q_wh (M 4) p 1 ∧ M 10 p = q_wh (M 4) p 2 ∧ M 11 p = q_wh (M 4) p 3)
/-- the class's memory behind a change of a text -/
def tp (A M : mm_M) (n0 n1 : Nat) : Prop := px M n0 n1 ∧ ∀ c, c = 0 ∨ 12 ≤ c → M c = A c
theorem q_ff_cg {g g' : Nat → Bool} {fin : Int32} : ∀ (k i : Nat), (∀ j, i ≤ j → j < i + k → g j = g' j) → q_ff g fin k i = q_ff g' fin k i
  | 0, _, _ => rfl
  | k + 1, i, h => by
    rw [q_ff_s, q_ff_s, h i (by omega) (by omega), q_ff_cg k (i + 1) (fun j a b => h j (by omega) (by omega))]
theorem q_f0_cg {n : Nat} {b b' : Nat → Int32} (h : ∀ j, j < n → b j = b' j) : q_f0 n b = q_f0 n b' := by
  unfold q_f0
  refine q_ff_cg n 0 (fun j _ hj => ?_)
  unfold q_lg
  rw [h j (by omega)]
theorem q_nl_cg {n : Nat} {b b' : Nat → Int32} (h : ∀ j, j < n → b j = b' j) : q_nl n b = q_nl n b' := by
  unfold q_nl
  rw [q_f0_cg h]
theorem q_f1_cg {nl n : Nat} {b b' : Nat → Int32} (h : ∀ j, j < n → b j = b' j) : q_f1 nl n b = q_f1 nl n b' := by
  unfold q_f1
  refine q_ff_cg n 0 (fun j _ hj => ?_)
  unfold q_pg
  rw [h j (by omega)]
theorem q_np_cg {nl n : Nat} {b b' : Nat → Int32} (h : ∀ j, j < n → b j = b' j) : q_np nl n b = q_np nl n b' := by
  unfold q_np
  rw [q_f1_cg h]
theorem px.iv {M : mm_M} {n0 n1 : Nat} (h : px M n0 n1) (h0 : M 57 0 = nI n0) (h1 : M 57 1 = nI n1) (k0 : n0 ≤ 20) (k1 : n1 ≤ 60) (e0 : ∀ j, j < n0 → M 2 j = M 56 j) (e1 : ∀ j, j < n1 → M 4 j = M 56 (20 + j)) : iv_t M := by
  have c0 : a_n0 M = n0 := by unfold a_n0; rw [h0, mm_cn (by omega)]
  have c1 : a_n1 M = n1 := by unfold a_n1; rw [h1, mm_cn (by omega)]
  have l0 : a_nl M = q_nl n0 (M 2) := by unfold a_nl; rw [c0]; exact (q_nl_cg e0).symm
  have p0 : a_np M = q_np (q_nl n0 (M 2)) n1 (M 4) := by unfold a_np; rw [c1, l0]; exact (q_np_cg e1).symm
  obtain ⟨⟨a1, a2⟩, ⟨b1, b2, b3⟩, d1, d2, d3⟩ := h
  refine ⟨⟨by rw [a1, h0], fun j hj => e0 j (by omega)⟩, ⟨by rw [a2, h1], fun j hj => e1 j (by omega)⟩, ⟨by rw [l0]; exact b1, ?_, ?_⟩, by rw [p0]; exact d1, ?_, ?_⟩
  · rw [b2]; unfold a_f0; rw [c0]; exact q_f0_cg e0
  · intro j hj
    rw [l0] at hj
    rw [b3 j hj]
    have g := (q_nl_g k0 hj).1
    unfold q_lw
    rw [e0 _ (by omega), e0 _ (by omega)]
  · rw [d2]; unfold a_f1; rw [c1, l0]; exact q_f1_cg e1
  · intro p hp
    rw [p0] at hp
    obtain ⟨x0, x1, x2, x3⟩ := d3 p hp
    have g := (q_np_g k1 hp).1
    have w : ∀ k, k < 4 → q_wh (M 4) p k = q_wh (a_b1 M) p k := fun k hk => by
      unfold q_wh
      split
      · rw [e1 _ (by omega)]; rfl
      · rw [e1 _ (by omega)]; rfl
    exact ⟨x0.trans (w 0 (by decide)), x1.trans (w 1 (by decide)), x2.trans (w 2 (by decide)), x3.trans (w 3 (by decide))⟩

set_option maxHeartbeats 4000000 in
theorem c_X11_parseTexts {l : Launch} {G : mm_G} {d : Nat} {M : mm_M} {Q : mm_T → mm_M → Prop} {n0 n1 : Nat} (hn0 : M 1 1 = nI n0) (k0 : n0 ≤ 20) (hn1 : M 3 1 = nI n1) (k1 : n1 ≤ 60) (h : ∀ M1, px M1 n0 n1 → (∀ c, c < 5 ∨ 12 ≤ c → M1 c = M c) → Q T0 M1) : mm_met l G (d + 5) k_X11_parseTexts [.ref 0] T0 M (mm_pv Q) := by
  refine mm_enter 0 [.ref 0] o_X11_parseTexts rfl rfl ?_
  refine mm_aload_0 1 dX11_parseTexts_0 rfl ?_
  refine mm_getR 4 dX11_parseTexts_1 f_X11_26 rfl t_0 rfl ?_
  refine mm_aload_0 5 dX11_parseTexts_4 rfl ?_
  refine mm_getR 8 dX11_parseTexts_5 f_X11_16 rfl t_0 rfl ?_
  refine mm_cV1v 11 dX11_parseTexts_8 v_X11_354 rfl t_5 (by decide) rfl rfl (Nat.le_of_ble_eq_true rfl) ⟨rfl, rfl⟩ ⟨Nat.zero_le _, Nat.zero_le _⟩ (c_X3_parse hn0 k0 (fun M1 l1 l2 l3 l4 => ?_))
  refine mm_aload_0 12 dX11_parseTexts_11 rfl ?_
  refine mm_getR 15 dX11_parseTexts_12 f_X11_33 rfl t_0 rfl ?_
  refine mm_aload_0 16 dX11_parseTexts_15 rfl ?_
  refine mm_getR 19 dX11_parseTexts_16 f_X11_20 rfl t_0 rfl ?_
  refine mm_aload_0 20 dX11_parseTexts_19 rfl ?_
  refine mm_getR 23 dX11_parseTexts_20 f_X11_26 rfl t_0 rfl ?_
  refine mm_cV0i 26 dX11_parseTexts_23 v_X11_288 rfl t_5 (by decide) rfl rfl (Nat.le_of_ble_eq_true rfl) ⟨rfl, rfl⟩ ⟨Nat.zero_le _, Nat.zero_le _⟩ (c_X3_number  (fun r1 e1 => ?_))
  refine mm_cV2v 29 dX11_parseTexts_26 v_X11_358 rfl t_7 (by decide) rfl rfl (Nat.le_of_ble_eq_true rfl) ⟨rfl, rfl⟩ ⟨Nat.zero_le _, Nat.zero_le _⟩ (c_X4_parse (n := n1) (nl := q_nl n0 (M 2)) (by rw [l3 3 (by decide) (by decide)]; exact hn1) k1 (q_nl_le k0) (by rw [e1]; exact l1) (fun M2 p1 p2 p3 p4 => ?_))
  refine mm_vret dX11_parseTexts_29 rfl ⟨rfl, Nat.zero_le _⟩ ?_
  have e4 : M1 4 = M 4 := l3 4 (by decide) (by decide)
  have e2 : M2 2 = M 2 := (p3 2 (by decide)).trans (l3 2 (by decide) (by decide))
  have f4 : M2 4 = M 4 := (p3 4 (by decide)).trans e4
  rw [e4] at p1 p2 p4
  refine h M2 ⟨⟨?_, ?_⟩, ⟨?_, ?_, ?_⟩, ?_, ?_, ?_⟩ (fun c hc => ?_)
  · rw [p3 1 (by decide), l3 1 (by decide) (by decide)]; exact hn0
  · rw [p3 3 (by decide), l3 3 (by decide) (by decide)]; exact hn1
  · rw [p3 5 (by decide), e2]; exact l1
  · rw [p3 5 (by decide), e2]; exact l2
  · rw [p3 6 (by decide), e2]; exact l4
  · rw [e2, f4]; exact p1
  · rw [e2, f4]; exact p2
  · rw [e2, f4]; exact p4
  · rw [p3 c (by omega), l3 c (by omega) (by omega)]

def z_tn (B : mm_M) (t : Int32) : Nat := if t.toInt = 0 then a_n0 B else a_n1 B
def z_rm (t : Int32) : Nat := if t.toInt = 0 then 20 else 60

set_option maxHeartbeats 4000000 in
theorem c_X11_type {l : Launch} {G : mm_G} {d : Nat} {M : mm_M} {Q : Int32 → mm_T → mm_M → Prop} {A : mm_M} (hi : iv A) (hf : fr A M) {t b : Int32} (kA : t = 0 → 0 ≤ b.toInt ∧ b.toInt ≤ 255 → a_n0 A < 20 → ∀ M1, tp M M1 (a_n0 A + 1) (a_n1 A) → M1 2 = upd (M 2) (a_n0 A) b → M1 4 = M 4 → Q (nI (a_n0 A + 1)) T0 M1) (kB : t = 1 → 0 ≤ b.toInt ∧ b.toInt ≤ 255 → a_n1 A < 60 → ∀ M1, tp M M1 (a_n0 A) (a_n1 A + 1) → M1 2 = M 2 → M1 4 = upd (M 4) (a_n1 A) b → Q (nI (a_n1 A + 1)) T0 M1) (kF : (0 ≤ t.toInt ∧ t.toInt ≤ 1) ∧ 0 ≤ b.toInt ∧ b.toInt ≤ 255 → ¬ z_tn A t < z_rm t → Q (-4) T0 M) (kN : ¬ ((0 ≤ t.toInt ∧ t.toInt ≤ 1) ∧ 0 ≤ b.toInt ∧ b.toInt ≤ 255) → Q (-2) T0 M) : mm_met l G (d + 6) k_X11_type [.ref 0, .int t, .int b] T0 M (mm_pi Q) := by
  have b0 := hi.1.n0
  have b1 := hi.1.n1
  have cn0 : M 1 1 = nI (a_n0 A) := by rw [hf.a 1, hi.2.2.1.1.1]; exact b0.1
  have cn1 : M 3 1 = nI (a_n1 A) := by rw [hf.a 3, hi.2.2.1.2.1.1]; exact b1.1
  have in0 : (M 1 1).toInt = a_n0 A := by rw [cn0]; exact mm_ti (by omega)
  have in1 : (M 3 1).toInt = a_n1 A := by rw [cn1]; exact mm_ti (by omega)
  have z20 : (nI 20).toInt = 20 := by decide
  have z60 : (nI 60).toInt = 60 := by decide
  refine mm_enter 1 [.ref 0, .int t, .int b, .double 0] o_X11_type rfl rfl ?_
  refine mm_aload_0 1 dX11_type_0 rfl ?_
  refine mm_iload_1 2 dX11_type_1 rfl ?_
  refine mm_cV1r 5 dX11_type_2 v_X11_94 rfl t_0 (by decide) rfl rfl (Nat.le_of_ble_eq_true rfl) ⟨rfl, rfl⟩ ⟨Nat.zero_le _, Nat.zero_le _⟩ (c_X11_textAt (fun h1 => ?_) (fun h1 => ?_) (fun h1 => ?_))
  · refine mm_astore_3 6 dX11_type_5 rfl rfl ?_
    refine mm_aload_3 7 dX11_type_6 rfl ?_
    refine mm_nullR 10 dX11_type_7 rfl ?_
    refine mm_iload_2 11 dX11_type_10 rfl ?_
    refine mm_iconst 12 0 dX11_type_11 rfl (by decide) ?_
    refine mm_sipush 15 255 dX11_type_12 rfl (by decide) ?_
    refine mm_cS3i 18 dX11_type_15 v_X11_98 rfl (Nat.le_of_ble_eq_true rfl) ⟨rfl, rfl⟩ ⟨Nat.zero_le _, Nat.zero_le _⟩ (c_X11_isWithin  (fun h2 => ?_) (fun h2 => ?_))
    · refine mm_if_ne 24 21 dX11_type_18 (by decide) rfl (fun _ => ?_) (fun h => absurd h (by decide))
      refine mm_aload_3 25 dX11_type_24 rfl ?_
      refine mm_cV0i 28 dX11_type_25 v_X11_102 rfl t_1 (by decide) rfl rfl (Nat.le_of_ble_eq_true rfl) ⟨rfl, rfl⟩ ⟨Nat.zero_le _, Nat.zero_le _⟩ (c_X8_isFull t_1 t_2 (fun h3 => ?_) (fun h3 => ?_))
      · refine mm_if_eq 34 31 dX11_type_28 (by decide) rfl (fun h => absurd h (by decide)) (fun _ => ?_)
        refine mm_bipush 33 (-4) dX11_type_31 rfl (by decide) ?_
        refine mm_iret dX11_type_33 rfl ⟨rfl, Nat.zero_le _⟩ ?_
        exact kF (by (try simp only [Int32.lt_iff_toInt_lt, Int32.le_iff_toInt_le, ← Int32.toInt_inj, vp_in_iff, Int32.reduceToInt, mm_t1, mm_t2, mm_t3, mm_t4, mm_t10] at h1 h2 ⊢); omega) (by unfold z_tn z_rm; rw [if_pos (by rw [h1]; decide), if_pos (by rw [h1]; decide)]; (try simp only [Int32.lt_iff_toInt_lt, Int32.le_iff_toInt_le, ← Int32.toInt_inj, vp_in_iff, Int32.reduceToInt, mm_t1, mm_t2, mm_t3, mm_t4, mm_t10] at h3 in0 in1 z20 z60 ⊢); omega)
      · refine mm_if_eq 34 31 dX11_type_28 (by decide) rfl (fun _ => ?_) (fun h => absurd h (by decide))
        refine mm_aload_3 35 dX11_type_34 rfl ?_
        refine mm_iload_2 36 dX11_type_35 rfl ?_
        refine mm_cV1v 39 dX11_type_36 v_X11_106 rfl t_1 (by decide) rfl rfl (Nat.le_of_ble_eq_true rfl) ⟨rfl, rfl⟩ ⟨Nat.zero_le _, Nat.zero_le _⟩ (c_X8_append t_1 t_2 cn0 (by (try simp only [Int32.lt_iff_toInt_lt, Int32.le_iff_toInt_le, ← Int32.toInt_inj, vp_in_iff, Int32.reduceToInt, mm_t1, mm_t2, mm_t3, mm_t4, mm_t10] at h3 in0 ⊢); omega) (by decide) (by decide) ?_)
        refine mm_aload_0 40 dX11_type_39 rfl ?_
        refine mm_cV0v 43 dX11_type_40 v_X11_109 rfl t_0 (by decide) rfl rfl (Nat.le_of_ble_eq_true rfl) ⟨rfl, rfl⟩ ⟨Nat.zero_le _, Nat.zero_le _⟩ (c_X11_parseTexts (n0 := a_n0 A + 1) (n1 := a_n1 A) (mm_upv _ _ _ _) (by (try simp only [Int32.lt_iff_toInt_lt, Int32.le_iff_toInt_le, ← Int32.toInt_inj, vp_in_iff, Int32.reduceToInt, mm_t1, mm_t2, mm_t3, mm_t4, mm_t10] at h3 in0 ⊢); omega) (by rw [mm_upn _ _ _ (by decide), mm_upn _ _ _ (by decide)]; exact cn1) (by omega) (fun M1 q1 q2 => ?_))
        refine mm_aload_3 44 dX11_type_43 rfl ?_
        refine mm_cV0i 47 dX11_type_44 v_X11_112 rfl t_1 (by decide) rfl rfl (Nat.le_of_ble_eq_true rfl) ⟨rfl, rfl⟩ ⟨Nat.zero_le _, Nat.zero_le _⟩ (c_X8_length t_1 t_2 (fun r4 e4 => ?_))
        refine mm_iret dX11_type_47 rfl ⟨rfl, Nat.zero_le _⟩ ?_
        rw [e4, q1.1.1]
        exact kA h1 (by (try simp only [Int32.lt_iff_toInt_lt, Int32.le_iff_toInt_le, ← Int32.toInt_inj, vp_in_iff, Int32.reduceToInt, mm_t1, mm_t2, mm_t3, mm_t4, mm_t10] at h2 ⊢); omega) (by (try simp only [Int32.lt_iff_toInt_lt, Int32.le_iff_toInt_le, ← Int32.toInt_inj, vp_in_iff, Int32.reduceToInt, mm_t1, mm_t2, mm_t3, mm_t4, mm_t10] at h3 in0 z20 ⊢); omega) M1 ⟨q1, fun c hc => by rw [q2 c (by omega), mm_upn _ _ _ (by omega), mm_upn _ _ _ (by omega)]⟩ (by rw [q2 2 (by decide), mm_upn _ _ _ (by decide), mm_upc]) (by rw [q2 4 (by decide), mm_upn _ _ _ (by decide), mm_upn _ _ _ (by decide)])
    · refine mm_if_ne 24 21 dX11_type_18 (by decide) rfl (fun h => absurd h (by decide)) (fun _ => ?_)
      refine mm_bipush 23 (-2) dX11_type_21 rfl (by decide) ?_
      refine mm_iret dX11_type_23 rfl ⟨rfl, Nat.zero_le _⟩ ?_
      exact kN (by (try simp only [Int32.lt_iff_toInt_lt, Int32.le_iff_toInt_le, ← Int32.toInt_inj, vp_in_iff, Int32.reduceToInt, mm_t1, mm_t2, mm_t3, mm_t4, mm_t10] at h1 h2 ⊢); omega)
  · refine mm_astore_3 6 dX11_type_5 rfl rfl ?_
    refine mm_aload_3 7 dX11_type_6 rfl ?_
    refine mm_nullR 10 dX11_type_7 rfl ?_
    refine mm_iload_2 11 dX11_type_10 rfl ?_
    refine mm_iconst 12 0 dX11_type_11 rfl (by decide) ?_
    refine mm_sipush 15 255 dX11_type_12 rfl (by decide) ?_
    refine mm_cS3i 18 dX11_type_15 v_X11_98 rfl (Nat.le_of_ble_eq_true rfl) ⟨rfl, rfl⟩ ⟨Nat.zero_le _, Nat.zero_le _⟩ (c_X11_isWithin  (fun h5 => ?_) (fun h5 => ?_))
    · refine mm_if_ne 24 21 dX11_type_18 (by decide) rfl (fun _ => ?_) (fun h => absurd h (by decide))
      refine mm_aload_3 25 dX11_type_24 rfl ?_
      refine mm_cV0i 28 dX11_type_25 v_X11_102 rfl t_3 (by decide) rfl rfl (Nat.le_of_ble_eq_true rfl) ⟨rfl, rfl⟩ ⟨Nat.zero_le _, Nat.zero_le _⟩ (c_X8_isFull t_3 t_4 (fun h6 => ?_) (fun h6 => ?_))
      · refine mm_if_eq 34 31 dX11_type_28 (by decide) rfl (fun h => absurd h (by decide)) (fun _ => ?_)
        refine mm_bipush 33 (-4) dX11_type_31 rfl (by decide) ?_
        refine mm_iret dX11_type_33 rfl ⟨rfl, Nat.zero_le _⟩ ?_
        exact kF (by (try simp only [Int32.lt_iff_toInt_lt, Int32.le_iff_toInt_le, ← Int32.toInt_inj, vp_in_iff, Int32.reduceToInt, mm_t1, mm_t2, mm_t3, mm_t4, mm_t10] at h1 h5 ⊢); omega) (by unfold z_tn z_rm; rw [if_neg (by rw [h1]; decide), if_neg (by rw [h1]; decide)]; (try simp only [Int32.lt_iff_toInt_lt, Int32.le_iff_toInt_le, ← Int32.toInt_inj, vp_in_iff, Int32.reduceToInt, mm_t1, mm_t2, mm_t3, mm_t4, mm_t10] at h6 in0 in1 z20 z60 ⊢); omega)
      · refine mm_if_eq 34 31 dX11_type_28 (by decide) rfl (fun _ => ?_) (fun h => absurd h (by decide))
        refine mm_aload_3 35 dX11_type_34 rfl ?_
        refine mm_iload_2 36 dX11_type_35 rfl ?_
        refine mm_cV1v 39 dX11_type_36 v_X11_106 rfl t_3 (by decide) rfl rfl (Nat.le_of_ble_eq_true rfl) ⟨rfl, rfl⟩ ⟨Nat.zero_le _, Nat.zero_le _⟩ (c_X8_append t_3 t_4 cn1 (by (try simp only [Int32.lt_iff_toInt_lt, Int32.le_iff_toInt_le, ← Int32.toInt_inj, vp_in_iff, Int32.reduceToInt, mm_t1, mm_t2, mm_t3, mm_t4, mm_t10] at h6 in1 ⊢); omega) (by decide) (by decide) ?_)
        refine mm_aload_0 40 dX11_type_39 rfl ?_
        refine mm_cV0v 43 dX11_type_40 v_X11_109 rfl t_0 (by decide) rfl rfl (Nat.le_of_ble_eq_true rfl) ⟨rfl, rfl⟩ ⟨Nat.zero_le _, Nat.zero_le _⟩ (c_X11_parseTexts (n0 := a_n0 A) (n1 := a_n1 A + 1) (by rw [mm_upn _ _ _ (by decide), mm_upn _ _ _ (by decide)]; exact cn0) (by omega) (mm_upv _ _ _ _) (by (try simp only [Int32.lt_iff_toInt_lt, Int32.le_iff_toInt_le, ← Int32.toInt_inj, vp_in_iff, Int32.reduceToInt, mm_t1, mm_t2, mm_t3, mm_t4, mm_t10] at h6 in1 ⊢); omega) (fun M1 q1 q2 => ?_))
        refine mm_aload_3 44 dX11_type_43 rfl ?_
        refine mm_cV0i 47 dX11_type_44 v_X11_112 rfl t_3 (by decide) rfl rfl (Nat.le_of_ble_eq_true rfl) ⟨rfl, rfl⟩ ⟨Nat.zero_le _, Nat.zero_le _⟩ (c_X8_length t_3 t_4 (fun r7 e7 => ?_))
        refine mm_iret dX11_type_47 rfl ⟨rfl, Nat.zero_le _⟩ ?_
        rw [e7, q1.1.2]
        exact kB h1 (by (try simp only [Int32.lt_iff_toInt_lt, Int32.le_iff_toInt_le, ← Int32.toInt_inj, vp_in_iff, Int32.reduceToInt, mm_t1, mm_t2, mm_t3, mm_t4, mm_t10] at h5 ⊢); omega) (by (try simp only [Int32.lt_iff_toInt_lt, Int32.le_iff_toInt_le, ← Int32.toInt_inj, vp_in_iff, Int32.reduceToInt, mm_t1, mm_t2, mm_t3, mm_t4, mm_t10] at h6 in1 z60 ⊢); omega) M1 ⟨q1, fun c hc => by rw [q2 c (by omega), mm_upn _ _ _ (by omega), mm_upn _ _ _ (by omega)]⟩ (by rw [q2 2 (by decide), mm_upn _ _ _ (by decide), mm_upn _ _ _ (by decide)]) (by rw [q2 4 (by decide), mm_upn _ _ _ (by decide), mm_upc])
    · refine mm_if_ne 24 21 dX11_type_18 (by decide) rfl (fun h => absurd h (by decide)) (fun _ => ?_)
      refine mm_bipush 23 (-2) dX11_type_21 rfl (by decide) ?_
      refine mm_iret dX11_type_23 rfl ⟨rfl, Nat.zero_le _⟩ ?_
      exact kN (by (try simp only [Int32.lt_iff_toInt_lt, Int32.le_iff_toInt_le, ← Int32.toInt_inj, vp_in_iff, Int32.reduceToInt, mm_t1, mm_t2, mm_t3, mm_t4, mm_t10] at h1 h5 ⊢); omega)
  · refine mm_nstore_3 6 dX11_type_5 rfl rfl ?_
    refine mm_nload_3 7 dX11_type_6 rfl ?_
    refine mm_nullN 21 dX11_type_7 (by decide) ?_
    refine mm_bipush 23 (-2) dX11_type_21 rfl (by decide) ?_
    refine mm_iret dX11_type_23 rfl ⟨rfl, Nat.zero_le _⟩ ?_
    exact kN (by (try simp only [Int32.lt_iff_toInt_lt, Int32.le_iff_toInt_le, ← Int32.toInt_inj, vp_in_iff, Int32.reduceToInt, mm_t1, mm_t2, mm_t3, mm_t4, mm_t10] at h1 ⊢); omega)

set_option maxHeartbeats 4000000 in
theorem c_X11_wipe {l : Launch} {G : mm_G} {d : Nat} {M : mm_M} {Q : Int32 → mm_T → mm_M → Prop} {A : mm_M} (hi : iv A) (hf : fr A M) {t : Int32} (kA : t = 0 → ∀ M1, tp M M1 0 (a_n1 A) → M1 4 = M 4 → Q (nI (a_n0 A)) T0 M1) (kB : t = 1 → ∀ M1, tp M M1 (a_n0 A) 0 → M1 2 = M 2 → Q (nI (a_n1 A)) T0 M1) (kN : ¬ (0 ≤ t.toInt ∧ t.toInt ≤ 1) → Q (-2) T0 M) : mm_met l G (d + 6) k_X11_wipe [.ref 0, .int t] T0 M (mm_pi Q) := by
  have b0 := hi.1.n0
  have b1 := hi.1.n1
  have cn0 : M 1 1 = nI (a_n0 A) := by rw [hf.a 1, hi.2.2.1.1.1]; exact b0.1
  have cn1 : M 3 1 = nI (a_n1 A) := by rw [hf.a 3, hi.2.2.1.2.1.1]; exact b1.1
  have in0 : (M 1 1).toInt = a_n0 A := by rw [cn0]; exact mm_ti (by omega)
  have in1 : (M 3 1).toInt = a_n1 A := by rw [cn1]; exact mm_ti (by omega)
  have z20 : (nI 20).toInt = 20 := by decide
  have z60 : (nI 60).toInt = 60 := by decide
  refine mm_enter 2 [.ref 0, .int t, .double 0, .double 0] o_X11_wipe rfl rfl ?_
  refine mm_aload_0 1 dX11_wipe_0 rfl ?_
  refine mm_iload_1 2 dX11_wipe_1 rfl ?_
  refine mm_cV1r 5 dX11_wipe_2 v_X11_94 rfl t_0 (by decide) rfl rfl (Nat.le_of_ble_eq_true rfl) ⟨rfl, rfl⟩ ⟨Nat.zero_le _, Nat.zero_le _⟩ (c_X11_textAt (fun h1 => ?_) (fun h1 => ?_) (fun h1 => ?_))
  · refine mm_astore_2 6 dX11_wipe_5 rfl rfl ?_
    refine mm_aload_2 7 dX11_wipe_6 rfl ?_
    refine mm_nonnullR 13 dX11_wipe_7 (by decide) ?_
    refine mm_aload_2 14 dX11_wipe_13 rfl ?_
    refine mm_cV0i 17 dX11_wipe_14 v_X11_112 rfl t_1 (by decide) rfl rfl (Nat.le_of_ble_eq_true rfl) ⟨rfl, rfl⟩ ⟨Nat.zero_le _, Nat.zero_le _⟩ (c_X8_length t_1 t_2 (fun r2 e2 => ?_))
    refine mm_istore_3 18 dX11_wipe_17 rfl rfl ?_
    refine mm_aload_2 19 dX11_wipe_18 rfl ?_
    refine mm_cV0v 22 dX11_wipe_19 v_X11_116 rfl t_1 (by decide) rfl rfl (Nat.le_of_ble_eq_true rfl) ⟨rfl, rfl⟩ ⟨Nat.zero_le _, Nat.zero_le _⟩ (c_X8_clear t_1 t_2 ?_)
    refine mm_aload_0 23 dX11_wipe_22 rfl ?_
    refine mm_cV0v 26 dX11_wipe_23 v_X11_109 rfl t_0 (by decide) rfl rfl (Nat.le_of_ble_eq_true rfl) ⟨rfl, rfl⟩ ⟨Nat.zero_le _, Nat.zero_le _⟩ (c_X11_parseTexts (n0 := 0) (n1 := a_n1 A) (mm_upv _ _ _ _) (by omega) (by rw [mm_upn _ _ _ (by decide)]; exact cn1) (by omega) (fun M1 q1 q2 => ?_))
    refine mm_iload_3 27 dX11_wipe_26 rfl ?_
    refine mm_iret dX11_wipe_27 rfl ⟨rfl, Nat.zero_le _⟩ ?_
    rw [e2, cn0]
    exact kA h1 M1 ⟨q1, fun c hc => by rw [q2 c (by omega), mm_upn _ _ _ (by omega)]⟩ (by rw [q2 4 (by decide), mm_upn _ _ _ (by decide)])
  · refine mm_astore_2 6 dX11_wipe_5 rfl rfl ?_
    refine mm_aload_2 7 dX11_wipe_6 rfl ?_
    refine mm_nonnullR 13 dX11_wipe_7 (by decide) ?_
    refine mm_aload_2 14 dX11_wipe_13 rfl ?_
    refine mm_cV0i 17 dX11_wipe_14 v_X11_112 rfl t_3 (by decide) rfl rfl (Nat.le_of_ble_eq_true rfl) ⟨rfl, rfl⟩ ⟨Nat.zero_le _, Nat.zero_le _⟩ (c_X8_length t_3 t_4 (fun r3 e3 => ?_))
    refine mm_istore_3 18 dX11_wipe_17 rfl rfl ?_
    refine mm_aload_2 19 dX11_wipe_18 rfl ?_
    refine mm_cV0v 22 dX11_wipe_19 v_X11_116 rfl t_3 (by decide) rfl rfl (Nat.le_of_ble_eq_true rfl) ⟨rfl, rfl⟩ ⟨Nat.zero_le _, Nat.zero_le _⟩ (c_X8_clear t_3 t_4 ?_)
    refine mm_aload_0 23 dX11_wipe_22 rfl ?_
    refine mm_cV0v 26 dX11_wipe_23 v_X11_109 rfl t_0 (by decide) rfl rfl (Nat.le_of_ble_eq_true rfl) ⟨rfl, rfl⟩ ⟨Nat.zero_le _, Nat.zero_le _⟩ (c_X11_parseTexts (n0 := a_n0 A) (n1 := 0) (by rw [mm_upn _ _ _ (by decide)]; exact cn0) (by omega) (mm_upv _ _ _ _) (by omega) (fun M1 q1 q2 => ?_))
    refine mm_iload_3 27 dX11_wipe_26 rfl ?_
    refine mm_iret dX11_wipe_27 rfl ⟨rfl, Nat.zero_le _⟩ ?_
    rw [e3, cn1]
    exact kB h1 M1 ⟨q1, fun c hc => by rw [q2 c (by omega), mm_upn _ _ _ (by omega)]⟩ (by rw [q2 2 (by decide), mm_upn _ _ _ (by decide)])
  · refine mm_nstore_2 6 dX11_wipe_5 rfl rfl ?_
    refine mm_nload_2 7 dX11_wipe_6 rfl ?_
    refine mm_nonnullN 10 dX11_wipe_7 rfl ?_
    refine mm_bipush 12 (-2) dX11_wipe_10 rfl (by decide) ?_
    refine mm_iret dX11_wipe_12 rfl ⟨rfl, Nat.zero_le _⟩ ?_
    exact kN (by (try simp only [Int32.lt_iff_toInt_lt, Int32.le_iff_toInt_le, ← Int32.toInt_inj, vp_in_iff, Int32.reduceToInt, mm_t1, mm_t2, mm_t3, mm_t4, mm_t10] at h1 ⊢); omega)

set_option maxHeartbeats 4000000 in
theorem c_X12_type0 {l : Launch} {G : mm_G} {d : Nat} {M : mm_M} {Q : Int32 → mm_T → mm_M → Prop} {B : mm_M} (hB : a_ok B) (hf : fr B M) {b : Int32} (kA : 0 ≤ b.toInt ∧ b.toInt ≤ 255 → a_n0 B < 20 → Q (nI (a_n0 B + 1)) T0 (mm_up (mm_up M 56 (a_n0 B) b) 57 0 (nI (a_n0 B + 1)))) (kF : 0 ≤ b.toInt ∧ b.toInt ≤ 255 → ¬ a_n0 B < 20 → Q (-4) T0 M) (kN : ¬ (0 ≤ b.toInt ∧ b.toInt ≤ 255) → Q (-2) T0 M) : mm_met l G (d + 2) k_X12_type [.ref 51, .int 0, .int b] T0 M (mm_pi Q) := by
  have b0 := hB.n0
  have b1 := hB.n1
  have c57 : ∀ k, k < 2 → M 57 k = nI (if k = 0 then a_n0 B else a_n1 B) := fun k hk => by rw [hf.a 57]; rcases (show k = 0 ∨ k = 1 by omega) with rfl | rfl; exact b0.1; exact b1.1
  have e57 : M 57 0 = nI (a_n0 B) := c57 0 (by decide)
  refine mm_enter 0 [.ref 51, .int 0, .int b] o_X12_type rfl rfl ?_
  refine mm_iload_1 1 dX12_type_0 rfl ?_
  refine mm_cS1i 4 dX12_type_1 v_X12_124 rfl (Nat.le_of_ble_eq_true rfl) ⟨rfl, rfl⟩ ⟨Nat.zero_le _, Nat.zero_le _⟩ (c_X12_isTwo (fun hz => ?_) (fun hz => absurd (by decide) hz))
  refine mm_if_eq 19 7 dX12_type_4 (by decide) rfl (fun h => absurd h (by decide)) (fun _ => ?_)
  refine mm_iload_2 8 dX12_type_7 rfl ?_
  refine mm_i2l 9 dX12_type_8 rfl ?_
  refine mm_lconst 10 0 dX12_type_9 rfl (by decide) ?_
  refine mm_ldc2 13 255 dX12_type_10 rfl j_X12_127 ?_
  refine mm_cS3i 16 dX12_type_13 v_X12_95 rfl (Nat.le_of_ble_eq_true rfl) ⟨rfl, rfl⟩ ⟨Nat.zero_le _, Nat.zero_le _⟩ (c_X12_in  (fun h1 => ?_) (fun h1 => ?_))
  · refine mm_if_ne 22 19 dX12_type_16 (by decide) rfl (fun _ => ?_) (fun h => absurd h (by decide))
    refine mm_aload_0 23 dX12_type_22 rfl ?_
    refine mm_getR 26 dX12_type_23 f_X12_25 rfl t_51 rfl ?_
    refine mm_iload_1 27 dX12_type_26 rfl ?_
    refine mm_ialoadn 28 (0) dX12_type_27 rfl t_57 (by decide) (rfl) (by decide) ?_
    refine mm_iload_1 29 dX12_type_28 rfl ?_
    refine mm_cS1i 32 dX12_type_29 v_X12_129 rfl (Nat.le_of_ble_eq_true rfl) ⟨rfl, rfl⟩ ⟨Nat.zero_le _, Nat.zero_le _⟩ (c_X12_room  (fun r2 e2 => ?_))
    rw [e57, e2, show g_room 0 = nI 20 from rfl]
    refine mm_ic_ne 38 35 dX12_type_32 (by decide) rfl (fun h3 => ?_) (fun h3 => ?_)
    · have hlt : a_n0 B < 20 := by rcases Nat.lt_or_ge (a_n0 B) 20 with q | q; exact q; exact absurd (by rw [show a_n0 B = 20 by omega]) h3
      refine mm_aload_0 39 dX12_type_38 rfl ?_
      refine mm_getR 42 dX12_type_39 f_X12_22 rfl t_51 rfl ?_
      refine mm_bipush 44 20 dX12_type_42 rfl (by decide) ?_
      refine mm_iload_1 45 dX12_type_44 rfl ?_
      refine mm_imul 46 dX12_type_45 rfl ?_
      refine mm_aload_0 47 dX12_type_46 rfl ?_
      refine mm_getR 50 dX12_type_47 f_X12_25 rfl t_51 rfl ?_
      refine mm_iload_1 51 dX12_type_50 rfl ?_
      refine mm_ialoadn 52 (0) dX12_type_51 rfl t_57 (by decide) (rfl) (by decide) ?_
      refine mm_iadd 53 dX12_type_52 rfl ?_
      refine mm_iload_2 54 dX12_type_53 rfl ?_
      refine mm_iastoren 55 (a_n0 B) dX12_type_54 rfl t_56 (by decide) (by rw [e57, show (20 : Int32) * 0 = nI 0 from rfl, nI_add, Nat.zero_add]) (by omega) ?_
      refine mm_aload_0 56 dX12_type_55 rfl ?_
      refine mm_getR 59 dX12_type_56 f_X12_25 rfl t_51 rfl ?_
      refine mm_iload_1 60 dX12_type_59 rfl ?_
      refine mm_dup2 61 dX12_type_60 rfl rfl rfl ?_
      refine mm_ialoadn 62 (0) dX12_type_61 rfl t_57 (by decide) (rfl) (by decide) ?_
      rw [mm_upn _ _ _ (by decide), e57]
      refine mm_iconst 63 1 dX12_type_62 rfl (by decide) ?_
      refine mm_iadd 64 dX12_type_63 rfl ?_
      rw [nI_1]
      refine mm_iastoren 65 (0) dX12_type_64 rfl t_57 (by decide) (rfl) (by decide) ?_
      refine mm_aload_0 66 dX12_type_65 rfl ?_
      refine mm_getR 69 dX12_type_66 f_X12_25 rfl t_51 rfl ?_
      refine mm_iload_1 70 dX12_type_69 rfl ?_
      refine mm_ialoadn 71 (0) dX12_type_70 rfl t_57 (by decide) (rfl) (by decide) ?_
      refine mm_iret dX12_type_71 rfl ⟨rfl, Nat.zero_le _⟩ ?_
      rw [mm_upv]
      exact kA (by (try simp only [lg_cmp_lt, lg_cmp_gt, lg_cmp_le, lg_cmp_ge] at h1); (try simp only [Int32.lt_iff_toInt_lt, Int32.le_iff_toInt_le, ← Int32.toInt_inj, vp_in_iff, Int32.reduceToInt, mm_t1, mm_t2, mm_t3, mm_t4, mm_t10, Int64.lt_iff_toInt_lt, Int64.le_iff_toInt_le, Int64.reduceToInt, Int32.toInt_toInt64] at h1 ⊢); omega) hlt
    · refine mm_bipush 37 (-4) dX12_type_35 rfl (by decide) ?_
      refine mm_iret dX12_type_37 rfl ⟨rfl, Nat.zero_le _⟩ ?_
      exact kF (by (try simp only [lg_cmp_lt, lg_cmp_gt, lg_cmp_le, lg_cmp_ge] at h1); (try simp only [Int32.lt_iff_toInt_lt, Int32.le_iff_toInt_le, ← Int32.toInt_inj, vp_in_iff, Int32.reduceToInt, mm_t1, mm_t2, mm_t3, mm_t4, mm_t10, Int64.lt_iff_toInt_lt, Int64.le_iff_toInt_le, Int64.reduceToInt, Int32.toInt_toInt64] at h1 ⊢); omega) (by have q := congrArg Int32.toInt h3; rw [mm_ti (by omega), mm_ti (by omega)] at q; omega)
  · refine mm_if_ne 22 19 dX12_type_16 (by decide) rfl (fun h => absurd h (by decide)) (fun _ => ?_)
    refine mm_bipush 21 (-2) dX12_type_19 rfl (by decide) ?_
    refine mm_iret dX12_type_21 rfl ⟨rfl, Nat.zero_le _⟩ ?_
    exact kN (by (try simp only [lg_cmp_lt, lg_cmp_gt, lg_cmp_le, lg_cmp_ge] at h1); (try simp only [Int32.lt_iff_toInt_lt, Int32.le_iff_toInt_le, ← Int32.toInt_inj, vp_in_iff, Int32.reduceToInt, mm_t1, mm_t2, mm_t3, mm_t4, mm_t10, Int64.lt_iff_toInt_lt, Int64.le_iff_toInt_le, Int64.reduceToInt, Int32.toInt_toInt64] at h1 ⊢); omega)

set_option maxHeartbeats 4000000 in
theorem c_X12_wipe0 {l : Launch} {G : mm_G} {d : Nat} {M : mm_M} {Q : Int32 → mm_T → mm_M → Prop} {B : mm_M} (hB : a_ok B) (hf : fr B M) (kA : Q (nI (a_n0 B)) T0 (mm_up M 57 0 0)) : mm_met l G (d + 2) k_X12_wipe [.ref 51, .int 0] T0 M (mm_pi Q) := by
  have b0 := hB.n0
  have b1 := hB.n1
  have c57 : ∀ k, k < 2 → M 57 k = nI (if k = 0 then a_n0 B else a_n1 B) := fun k hk => by rw [hf.a 57]; rcases (show k = 0 ∨ k = 1 by omega) with rfl | rfl; exact b0.1; exact b1.1
  have e57 : M 57 0 = nI (a_n0 B) := c57 0 (by decide)
  refine mm_enter 1 [.ref 51, .int 0, .double 0] o_X12_wipe rfl rfl ?_
  refine mm_iload_1 1 dX12_wipe_0 rfl ?_
  refine mm_cS1i 4 dX12_wipe_1 v_X12_124 rfl (Nat.le_of_ble_eq_true rfl) ⟨rfl, rfl⟩ ⟨Nat.zero_le _, Nat.zero_le _⟩ (c_X12_isTwo (fun hz => ?_) (fun hz => absurd (by decide) hz))
  refine mm_if_ne 10 7 dX12_wipe_4 (by decide) rfl (fun _ => ?_) (fun h => absurd h (by decide))
  refine mm_aload_0 11 dX12_wipe_10 rfl ?_
  refine mm_getR 14 dX12_wipe_11 f_X12_25 rfl t_51 rfl ?_
  refine mm_iload_1 15 dX12_wipe_14 rfl ?_
  refine mm_ialoadn 16 (0) dX12_wipe_15 rfl t_57 (by decide) (rfl) (by decide) ?_
  refine mm_istore_2 17 dX12_wipe_16 rfl rfl ?_
  refine mm_aload_0 18 dX12_wipe_17 rfl ?_
  refine mm_getR 21 dX12_wipe_18 f_X12_25 rfl t_51 rfl ?_
  refine mm_iload_1 22 dX12_wipe_21 rfl ?_
  refine mm_iconst 23 0 dX12_wipe_22 rfl (by decide) ?_
  refine mm_iastoren 24 (0) dX12_wipe_23 rfl t_57 (by decide) (rfl) (by decide) ?_
  refine mm_iload_2 25 dX12_wipe_24 rfl ?_
  refine mm_iret dX12_wipe_25 rfl ⟨rfl, Nat.zero_le _⟩ ?_
  rw [e57]
  exact kA

set_option maxHeartbeats 4000000 in
theorem c_X12_type1 {l : Launch} {G : mm_G} {d : Nat} {M : mm_M} {Q : Int32 → mm_T → mm_M → Prop} {B : mm_M} (hB : a_ok B) (hf : fr B M) {b : Int32} (kA : 0 ≤ b.toInt ∧ b.toInt ≤ 255 → a_n1 B < 60 → Q (nI (a_n1 B + 1)) T0 (mm_up (mm_up M 56 (20 + a_n1 B) b) 57 1 (nI (a_n1 B + 1)))) (kF : 0 ≤ b.toInt ∧ b.toInt ≤ 255 → ¬ a_n1 B < 60 → Q (-4) T0 M) (kN : ¬ (0 ≤ b.toInt ∧ b.toInt ≤ 255) → Q (-2) T0 M) : mm_met l G (d + 2) k_X12_type [.ref 51, .int 1, .int b] T0 M (mm_pi Q) := by
  have b0 := hB.n0
  have b1 := hB.n1
  have c57 : ∀ k, k < 2 → M 57 k = nI (if k = 0 then a_n0 B else a_n1 B) := fun k hk => by rw [hf.a 57]; rcases (show k = 0 ∨ k = 1 by omega) with rfl | rfl; exact b0.1; exact b1.1
  have e57 : M 57 1 = nI (a_n1 B) := c57 1 (by decide)
  refine mm_enter 0 [.ref 51, .int 1, .int b] o_X12_type rfl rfl ?_
  refine mm_iload_1 1 dX12_type_0 rfl ?_
  refine mm_cS1i 4 dX12_type_1 v_X12_124 rfl (Nat.le_of_ble_eq_true rfl) ⟨rfl, rfl⟩ ⟨Nat.zero_le _, Nat.zero_le _⟩ (c_X12_isTwo (fun hz => ?_) (fun hz => absurd (by decide) hz))
  refine mm_if_eq 19 7 dX12_type_4 (by decide) rfl (fun h => absurd h (by decide)) (fun _ => ?_)
  refine mm_iload_2 8 dX12_type_7 rfl ?_
  refine mm_i2l 9 dX12_type_8 rfl ?_
  refine mm_lconst 10 0 dX12_type_9 rfl (by decide) ?_
  refine mm_ldc2 13 255 dX12_type_10 rfl j_X12_127 ?_
  refine mm_cS3i 16 dX12_type_13 v_X12_95 rfl (Nat.le_of_ble_eq_true rfl) ⟨rfl, rfl⟩ ⟨Nat.zero_le _, Nat.zero_le _⟩ (c_X12_in  (fun h1 => ?_) (fun h1 => ?_))
  · refine mm_if_ne 22 19 dX12_type_16 (by decide) rfl (fun _ => ?_) (fun h => absurd h (by decide))
    refine mm_aload_0 23 dX12_type_22 rfl ?_
    refine mm_getR 26 dX12_type_23 f_X12_25 rfl t_51 rfl ?_
    refine mm_iload_1 27 dX12_type_26 rfl ?_
    refine mm_ialoadn 28 (1) dX12_type_27 rfl t_57 (by decide) (rfl) (by decide) ?_
    refine mm_iload_1 29 dX12_type_28 rfl ?_
    refine mm_cS1i 32 dX12_type_29 v_X12_129 rfl (Nat.le_of_ble_eq_true rfl) ⟨rfl, rfl⟩ ⟨Nat.zero_le _, Nat.zero_le _⟩ (c_X12_room  (fun r2 e2 => ?_))
    rw [e57, e2, show g_room 1 = nI 60 from rfl]
    refine mm_ic_ne 38 35 dX12_type_32 (by decide) rfl (fun h3 => ?_) (fun h3 => ?_)
    · have hlt : a_n1 B < 60 := by rcases Nat.lt_or_ge (a_n1 B) 60 with q | q; exact q; exact absurd (by rw [show a_n1 B = 60 by omega]) h3
      refine mm_aload_0 39 dX12_type_38 rfl ?_
      refine mm_getR 42 dX12_type_39 f_X12_22 rfl t_51 rfl ?_
      refine mm_bipush 44 20 dX12_type_42 rfl (by decide) ?_
      refine mm_iload_1 45 dX12_type_44 rfl ?_
      refine mm_imul 46 dX12_type_45 rfl ?_
      refine mm_aload_0 47 dX12_type_46 rfl ?_
      refine mm_getR 50 dX12_type_47 f_X12_25 rfl t_51 rfl ?_
      refine mm_iload_1 51 dX12_type_50 rfl ?_
      refine mm_ialoadn 52 (1) dX12_type_51 rfl t_57 (by decide) (rfl) (by decide) ?_
      refine mm_iadd 53 dX12_type_52 rfl ?_
      refine mm_iload_2 54 dX12_type_53 rfl ?_
      refine mm_iastoren 55 (20 + a_n1 B) dX12_type_54 rfl t_56 (by decide) (by rw [e57, show (20 : Int32) * 1 = nI 20 from rfl, nI_add]) (by omega) ?_
      refine mm_aload_0 56 dX12_type_55 rfl ?_
      refine mm_getR 59 dX12_type_56 f_X12_25 rfl t_51 rfl ?_
      refine mm_iload_1 60 dX12_type_59 rfl ?_
      refine mm_dup2 61 dX12_type_60 rfl rfl rfl ?_
      refine mm_ialoadn 62 (1) dX12_type_61 rfl t_57 (by decide) (rfl) (by decide) ?_
      rw [mm_upn _ _ _ (by decide), e57]
      refine mm_iconst 63 1 dX12_type_62 rfl (by decide) ?_
      refine mm_iadd 64 dX12_type_63 rfl ?_
      rw [nI_1]
      refine mm_iastoren 65 (1) dX12_type_64 rfl t_57 (by decide) (rfl) (by decide) ?_
      refine mm_aload_0 66 dX12_type_65 rfl ?_
      refine mm_getR 69 dX12_type_66 f_X12_25 rfl t_51 rfl ?_
      refine mm_iload_1 70 dX12_type_69 rfl ?_
      refine mm_ialoadn 71 (1) dX12_type_70 rfl t_57 (by decide) (rfl) (by decide) ?_
      refine mm_iret dX12_type_71 rfl ⟨rfl, Nat.zero_le _⟩ ?_
      rw [mm_upv]
      exact kA (by (try simp only [lg_cmp_lt, lg_cmp_gt, lg_cmp_le, lg_cmp_ge] at h1); (try simp only [Int32.lt_iff_toInt_lt, Int32.le_iff_toInt_le, ← Int32.toInt_inj, vp_in_iff, Int32.reduceToInt, mm_t1, mm_t2, mm_t3, mm_t4, mm_t10, Int64.lt_iff_toInt_lt, Int64.le_iff_toInt_le, Int64.reduceToInt, Int32.toInt_toInt64] at h1 ⊢); omega) hlt
    · refine mm_bipush 37 (-4) dX12_type_35 rfl (by decide) ?_
      refine mm_iret dX12_type_37 rfl ⟨rfl, Nat.zero_le _⟩ ?_
      exact kF (by (try simp only [lg_cmp_lt, lg_cmp_gt, lg_cmp_le, lg_cmp_ge] at h1); (try simp only [Int32.lt_iff_toInt_lt, Int32.le_iff_toInt_le, ← Int32.toInt_inj, vp_in_iff, Int32.reduceToInt, mm_t1, mm_t2, mm_t3, mm_t4, mm_t10, Int64.lt_iff_toInt_lt, Int64.le_iff_toInt_le, Int64.reduceToInt, Int32.toInt_toInt64] at h1 ⊢); omega) (by have q := congrArg Int32.toInt h3; rw [mm_ti (by omega), mm_ti (by omega)] at q; omega)
  · refine mm_if_ne 22 19 dX12_type_16 (by decide) rfl (fun h => absurd h (by decide)) (fun _ => ?_)
    refine mm_bipush 21 (-2) dX12_type_19 rfl (by decide) ?_
    refine mm_iret dX12_type_21 rfl ⟨rfl, Nat.zero_le _⟩ ?_
    exact kN (by (try simp only [lg_cmp_lt, lg_cmp_gt, lg_cmp_le, lg_cmp_ge] at h1); (try simp only [Int32.lt_iff_toInt_lt, Int32.le_iff_toInt_le, ← Int32.toInt_inj, vp_in_iff, Int32.reduceToInt, mm_t1, mm_t2, mm_t3, mm_t4, mm_t10, Int64.lt_iff_toInt_lt, Int64.le_iff_toInt_le, Int64.reduceToInt, Int32.toInt_toInt64] at h1 ⊢); omega)

set_option maxHeartbeats 4000000 in
theorem c_X12_wipe1 {l : Launch} {G : mm_G} {d : Nat} {M : mm_M} {Q : Int32 → mm_T → mm_M → Prop} {B : mm_M} (hB : a_ok B) (hf : fr B M) (kA : Q (nI (a_n1 B)) T0 (mm_up M 57 1 0)) : mm_met l G (d + 2) k_X12_wipe [.ref 51, .int 1] T0 M (mm_pi Q) := by
  have b0 := hB.n0
  have b1 := hB.n1
  have c57 : ∀ k, k < 2 → M 57 k = nI (if k = 0 then a_n0 B else a_n1 B) := fun k hk => by rw [hf.a 57]; rcases (show k = 0 ∨ k = 1 by omega) with rfl | rfl; exact b0.1; exact b1.1
  have e57 : M 57 1 = nI (a_n1 B) := c57 1 (by decide)
  refine mm_enter 1 [.ref 51, .int 1, .double 0] o_X12_wipe rfl rfl ?_
  refine mm_iload_1 1 dX12_wipe_0 rfl ?_
  refine mm_cS1i 4 dX12_wipe_1 v_X12_124 rfl (Nat.le_of_ble_eq_true rfl) ⟨rfl, rfl⟩ ⟨Nat.zero_le _, Nat.zero_le _⟩ (c_X12_isTwo (fun hz => ?_) (fun hz => absurd (by decide) hz))
  refine mm_if_ne 10 7 dX12_wipe_4 (by decide) rfl (fun _ => ?_) (fun h => absurd h (by decide))
  refine mm_aload_0 11 dX12_wipe_10 rfl ?_
  refine mm_getR 14 dX12_wipe_11 f_X12_25 rfl t_51 rfl ?_
  refine mm_iload_1 15 dX12_wipe_14 rfl ?_
  refine mm_ialoadn 16 (1) dX12_wipe_15 rfl t_57 (by decide) (rfl) (by decide) ?_
  refine mm_istore_2 17 dX12_wipe_16 rfl rfl ?_
  refine mm_aload_0 18 dX12_wipe_17 rfl ?_
  refine mm_getR 21 dX12_wipe_18 f_X12_25 rfl t_51 rfl ?_
  refine mm_iload_1 22 dX12_wipe_21 rfl ?_
  refine mm_iconst 23 0 dX12_wipe_22 rfl (by decide) ?_
  refine mm_iastoren 24 (1) dX12_wipe_23 rfl t_57 (by decide) (rfl) (by decide) ?_
  refine mm_iload_2 25 dX12_wipe_24 rfl ?_
  refine mm_iret dX12_wipe_25 rfl ⟨rfl, Nat.zero_le _⟩ ?_
  rw [e57]
  exact kA

set_option maxHeartbeats 4000000 in
theorem c_X12_typeN {l : Launch} {G : mm_G} {d : Nat} {M : mm_M} {Q : Int32 → mm_T → mm_M → Prop} {t b : Int32} (ht : ¬ (0 ≤ t.toInt ∧ t.toInt ≤ 1)) (kN : Q (-2) T0 M) : mm_met l G (d + 2) k_X12_type [.ref 51, .int t, .int b] T0 M (mm_pi Q) := by
  refine mm_enter 0 [.ref 51, .int t, .int b] o_X12_type rfl rfl ?_
  refine mm_iload_1 1 dX12_type_0 rfl ?_
  refine mm_cS1i 4 dX12_type_1 v_X12_124 rfl (Nat.le_of_ble_eq_true rfl) ⟨rfl, rfl⟩ ⟨Nat.zero_le _, Nat.zero_le _⟩ (c_X12_isTwo (fun hz => absurd hz ht) (fun hz => ?_))
  refine mm_if_eq 19 7 dX12_type_4 (by decide) rfl (fun _ => ?_) (fun h => absurd h (by decide))
  refine mm_bipush 21 (-2) dX12_type_19 rfl (by decide) ?_
  refine mm_iret dX12_type_21 rfl ⟨rfl, Nat.zero_le _⟩ ?_
  exact kN

set_option maxHeartbeats 4000000 in
theorem c_X12_wipeN {l : Launch} {G : mm_G} {d : Nat} {M : mm_M} {Q : Int32 → mm_T → mm_M → Prop} {t : Int32} (ht : ¬ (0 ≤ t.toInt ∧ t.toInt ≤ 1)) (kN : Q (-2) T0 M) : mm_met l G (d + 2) k_X12_wipe [.ref 51, .int t] T0 M (mm_pi Q) := by
  refine mm_enter 1 [.ref 51, .int t, .double 0] o_X12_wipe rfl rfl ?_
  refine mm_iload_1 1 dX12_wipe_0 rfl ?_
  refine mm_cS1i 4 dX12_wipe_1 v_X12_124 rfl (Nat.le_of_ble_eq_true rfl) ⟨rfl, rfl⟩ ⟨Nat.zero_le _, Nat.zero_le _⟩ (c_X12_isTwo (fun hz => absurd hz ht) (fun hz => ?_))
  refine mm_if_ne 10 7 dX12_wipe_4 (by decide) rfl (fun h => absurd h (by decide)) (fun _ => ?_)
  refine mm_bipush 9 (-2) dX12_wipe_7 rfl (by decide) ?_
  refine mm_iret dX12_wipe_9 rfl ⟨rfl, Nat.zero_le _⟩ ?_
  exact kN

