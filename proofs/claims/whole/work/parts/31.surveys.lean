/-! surveys: how many come out otherwise, the class -/
def ov (W : Nat → Nat → Int32) (L K V : Nat → Int32) (nl n i : Nat) : Bool := decide (((0 ≤ (K i).toInt ∧ (K i).toInt < n) ∧ 0 ≤ (L i).toInt ∧ (L i).toInt < nl) ∧ ¬ W (K i).toNatClampNeg (L i).toNatClampNeg = V i)
def ow (W : Nat → Nat → Int32) (L K V : Nat → Int32) (nl k i : Nat) : Bool := decide ((K i = nI k ∧ 0 ≤ (L i).toInt ∧ (L i).toInt < nl) ∧ ¬ W k (L i).toNatClampNeg = V i)
theorem ov_s {W : Nat → Nat → Int32} {L K V : Nat → Int32} {nl k : Nat} (hk : k < 1000) : (∀ i, ov W L K V nl (k + 1) i = (ov W L K V nl k i || ow W L K V nl k i)) ∧ ∀ i, ¬ (ov W L K V nl k i = true ∧ ow W L K V nl k i = true) := by
  have tk := mm_ti (n := k) (by omega)
  have ck := mm_cn (n := k) (by omega)
  refine ⟨fun i => ?_, fun i => ?_⟩
  · rw [Bool.eq_iff_iff]
    simp only [ov, ow, Bool.or_eq_true, decide_eq_true_eq]
    by_cases q : K i = nI k
    · rw [q, tk, ck]
      constructor
      · rintro ⟨⟨-, a⟩, b⟩; exact Or.inr ⟨⟨rfl, a⟩, b⟩
      · rintro (⟨⟨⟨-, a⟩, -⟩, -⟩ | ⟨⟨-, a⟩, b⟩)
        · omega
        · exact ⟨⟨⟨by omega, by omega⟩, a⟩, b⟩
    · have q' : ¬ (K i).toInt = k := fun e => q (mm_ii (e.trans tk.symm))
      constructor
      · rintro ⟨⟨⟨a, b⟩, c⟩, e⟩; exact Or.inl ⟨⟨⟨a, by omega⟩, c⟩, e⟩
      · rintro (⟨⟨⟨a, b⟩, c⟩, e⟩ | ⟨⟨a, -⟩, -⟩)
        · exact ⟨⟨⟨a, by omega⟩, c⟩, e⟩
        · exact absurd a q
  · simp only [ov, ow, decide_eq_true_eq]
    rintro ⟨⟨⟨⟨-, a⟩, -⟩, -⟩, ⟨b, -⟩, -⟩
    rw [b, tk] at a
    omega
theorem cnt_or {f g : Nat → Bool} (h : ∀ i, ¬ (f i = true ∧ g i = true)) : ∀ n, cnt (fun i => f i || g i) n = cnt f n + cnt g n
  | 0 => rfl
  | n + 1 => by
    have ih := cnt_or h n
    have hn := h n
    show (if (f n || g n) = true then _ else _) = (if f n = true then _ else _) + (if g n = true then _ else _)
    by_cases a : f n = true <;> by_cases b : g n = true <;> simp [a, b, ih] <;> first | omega | (exact absurd ⟨a, b⟩ hn)
theorem cnt_eq {f g : Nat → Bool} : ∀ n, (∀ i, i < n → f i = g i) → cnt f n = cnt g n
  | 0, _ => rfl
  | n + 1, h => by
    show (if _ then _ else _) = (if _ then _ else _)
    rw [h n (by omega), cnt_eq n (fun i hi => h i (by omega))]
theorem ov_0 {W : Nat → Nat → Int32} {L K V : Nat → Int32} {nl : Nat} : ∀ n, cnt (ov W L K V nl 0) n = 0
  | 0 => rfl
  | n + 1 => by
    rw [cnt_f, ov_0 n]
    simp only [ov, decide_eq_true_eq]
    omega
theorem ov_n {W : Nat → Nat → Int32} {L K V : Nat → Int32} {nl k n : Nat} (hk : k < 1000) : cnt (ov W L K V nl (k + 1)) n = cnt (ov W L K V nl k) n + cnt (ow W L K V nl k) n := by
  rw [← cnt_or (ov_s hk).2]
  exact cnt_eq n (fun i _ => (ov_s hk).1 i)
def gw (X : mm_M) (k j : Nat) : Int32 := g_run X (-1) k 62 j

set_option maxHeartbeats 4000000 in
theorem w_X7_otherwise2 {l : Launch} {G : mm_G} {d : Nat} {M X : mm_M} {Q : Int32 → mm_T → mm_M → Prop} {nl np ne ns : Nat} (hd : v_d M X nl np ne) (hx : g_pre X) (hs : M 38 3 = nI ns) (hs8 : ns ≤ 8) {Mk : mm_M} {k B : Nat} (hm : h_kp M Mk) (hw : v_w Mk (g_run X (-1) k) nl np B) (h : mm_wp l G (d + 4) k_X7_otherwiseIn (mm_pi Q) 94 [.ref 38, .ref 20, .ref 5, .ref 14, .int (nI (cnt (ov (gw X) (M 39) (M 40) (M 41) nl k) ns + cnt (ow (gw X) (M 39) (M 40) (M 41) nl k) ns)), .int (nI k), .int (nI ns)] [] T0 Mk 0 0) : ∀ (z i : Nat), ns - i ≤ z → i ≤ ns → mm_wp l G (d + 4) k_X7_otherwiseIn (mm_pi Q) 22 [.ref 38, .ref 20, .ref 5, .ref 14, .int (nI (cnt (ov (gw X) (M 39) (M 40) (M 41) nl k) ns + cnt (ow (gw X) (M 39) (M 40) (M 41) nl k) i)), .int (nI k), .int (nI i)] [] T0 Mk 0 0 := by
  have c5 : (Mk 5 1).toInt = nl := by rw [hm 5 (by decide)]; exact hd.1.li
  have c38 : Mk 38 3 = nI ns := by rw [hm 38 (by decide)]; exact hs
  have c39 : Mk 39 = M 39 := hm 39 (by decide)
  have c40 : Mk 40 = M 40 := hm 40 (by decide)
  have c41 : Mk 41 = M 41 := hm 41 (by decide)
  intro z
  induction z using Nat.strongRecOn with | _ z ih => ?_
  intro i hze hin
  have hii : (nI i).toInt = i := mm_ti (by omega)
  have hni : (nI ns).toInt = ns := mm_ti (by omega)
  refine mm_iload_6 24 dX7_otherwiseIn_22 rfl ?_
  refine mm_aload_0 25 dX7_otherwiseIn_24 rfl ?_
  refine mm_getI 28 dX7_otherwiseIn_25 f_X7_21 rfl t_38 rfl ?_
  rw [c38]
  refine mm_ic_ge 94 31 dX7_otherwiseIn_28 (by decide) rfl (fun h1 => ?_) (fun h1 => ?_)
  · have hz : i = ns := by (try simp only [hii, hni, Int32.lt_iff_toInt_lt, Int32.le_iff_toInt_le, ← Int32.toInt_inj, vp_in_iff, Int32.reduceToInt, mm_t1, mm_t2, mm_t3, mm_t4, mm_t10] at h1); omega
    rw [hz]
    exact h
  · have hlt : i < ns := by (try simp only [hii, hni, Int32.lt_iff_toInt_lt, Int32.le_iff_toInt_le, ← Int32.toInt_inj, vp_in_iff, Int32.reduceToInt, mm_t1, mm_t2, mm_t3, mm_t4, mm_t10] at h1); omega
    refine mm_iload_6 33 dX7_otherwiseIn_31 rfl ?_
    refine mm_bipush 35 8 dX7_otherwiseIn_33 rfl (by decide) ?_
    refine mm_ic_ge 94 38 dX7_otherwiseIn_35 (by decide) rfl (fun h2 => ?_) (fun h2 => ?_)
    · exfalso
      (try simp only [hii, Int32.lt_iff_toInt_lt, Int32.le_iff_toInt_le, ← Int32.toInt_inj, vp_in_iff, Int32.reduceToInt, mm_t1, mm_t2, mm_t3, mm_t4, mm_t10] at h2)
      omega
    · refine mm_aload_0 39 dX7_otherwiseIn_38 rfl ?_
      refine mm_getR 42 dX7_otherwiseIn_39 f_X7_15 rfl t_38 rfl ?_
      refine mm_iload_6 44 dX7_otherwiseIn_42 rfl ?_
      refine mm_ialoadn 45 (i) dX7_otherwiseIn_44 rfl t_40 (by decide) (rfl) (by omega) ?_
      refine mm_iload_5 47 dX7_otherwiseIn_45 rfl ?_
      rw [c40]
      refine mm_ic_ne 88 50 dX7_otherwiseIn_47 (by decide) rfl (fun h3 => ?_) (fun h3 => ?_)
      · refine mm_iinc_6 91 1 dX7_otherwiseIn_88 rfl (by decide) rfl ?_
        refine mm_goto 22 dX7_otherwiseIn_91 (by decide) ?_
        rw [nI_1]
        have hh := ih (ns - (i + 1)) (by omega) (i + 1) (Nat.le_refl _) (by omega)
        rw [cnt_f (by simp only [ow, decide_eq_true_eq]; intro q; exact h3 q.1.1)] at hh
        exact hh
      · refine mm_aload_2 51 dX7_otherwiseIn_50 rfl ?_
        refine mm_aload_0 52 dX7_otherwiseIn_51 rfl ?_
        refine mm_getR 55 dX7_otherwiseIn_52 f_X7_9 rfl t_38 rfl ?_
        refine mm_iload_6 57 dX7_otherwiseIn_55 rfl ?_
        refine mm_ialoadn 58 (i) dX7_otherwiseIn_57 rfl t_39 (by decide) (rfl) (by omega) ?_
        rw [c39]
        refine mm_cV1i 61 dX7_otherwiseIn_58 v_X7_29 rfl t_5 (by decide) rfl rfl (Nat.le_of_ble_eq_true rfl) ⟨rfl, rfl⟩ ⟨Nat.zero_le _, Nat.zero_le _⟩ (c_X3_has (fun h4 => ?_) (fun h4 => ?_))
        · refine mm_if_eq 88 64 dX7_otherwiseIn_61 (by decide) rfl (fun h => absurd h (by decide)) (fun _ => ?_)
          rw [c5] at h4
          refine mm_aload_1 65 dX7_otherwiseIn_64 rfl ?_
          refine mm_aload_0 66 dX7_otherwiseIn_65 rfl ?_
          refine mm_getR 69 dX7_otherwiseIn_66 f_X7_9 rfl t_38 rfl ?_
          refine mm_iload_6 71 dX7_otherwiseIn_69 rfl ?_
          refine mm_ialoadn 72 (i) dX7_otherwiseIn_71 rfl t_39 (by decide) (rfl) (by omega) ?_
          rw [c39]
          refine mm_cV1i 75 dX7_otherwiseIn_72 v_X7_45 rfl t_20 (by decide) rfl rfl (Nat.le_of_ble_eq_true rfl) ⟨rfl, rfl⟩ ⟨Nat.zero_le _, Nat.zero_le _⟩ (c_X10_widthOf (by rw [c5]; have := hd.1.1; omega) (fun r5 e5 => ?_))
          refine mm_aload_0 76 dX7_otherwiseIn_75 rfl ?_
          refine mm_getR 79 dX7_otherwiseIn_76 f_X7_18 rfl t_38 rfl ?_
          refine mm_iload_6 81 dX7_otherwiseIn_79 rfl ?_
          refine mm_ialoadn 82 (i) dX7_otherwiseIn_81 rfl t_41 (by decide) (rfl) (by omega) ?_
          have wv : r5 = gw X k (M 39 i).toNatClampNeg := by rw [e5]; unfold s_X10_widthOf; rw [c5, if_pos h4]; exact (hw.1 _ (mm_cl2 h4).2.1).1
          rw [c41]
          refine mm_ic_eq 88 85 dX7_otherwiseIn_82 (by decide) rfl (fun h6 => ?_) (fun h6 => ?_)
          · refine mm_iinc_6 91 1 dX7_otherwiseIn_88 rfl (by decide) rfl ?_
            refine mm_goto 22 dX7_otherwiseIn_91 (by decide) ?_
            rw [nI_1]
            have hh := ih (ns - (i + 1)) (by omega) (i + 1) (Nat.le_refl _) (by omega)
            rw [cnt_f (by simp only [ow, decide_eq_true_eq]; intro q; apply q.2; rw [← h6, ← wv])] at hh
            exact hh
          · refine mm_iinc_4 88 1 dX7_otherwiseIn_85 rfl (by decide) rfl ?_
            refine mm_iinc_6 91 1 dX7_otherwiseIn_88 rfl (by decide) rfl ?_
            refine mm_goto 22 dX7_otherwiseIn_91 (by decide) ?_
            rw [nI_1, nI_1]
            have hh := ih (ns - (i + 1)) (by omega) (i + 1) (Nat.le_refl _) (by omega)
            rw [cnt_t (by simp only [ow, decide_eq_true_eq]; exact ⟨⟨h3, h4⟩, fun q => h6 (wv.trans q)⟩)] at hh
            exact hh
        · refine mm_if_eq 88 64 dX7_otherwiseIn_61 (by decide) rfl (fun _ => ?_) (fun h => absurd h (by decide))
          refine mm_iinc_6 91 1 dX7_otherwiseIn_88 rfl (by decide) rfl ?_
          refine mm_goto 22 dX7_otherwiseIn_91 (by decide) ?_
          rw [nI_1]
          have hh := ih (ns - (i + 1)) (by omega) (i + 1) (Nat.le_refl _) (by omega)
          rw [cnt_f (by simp only [ow, decide_eq_true_eq]; intro q; rw [c5] at h4; exact h4 q.1.2)] at hh
          exact hh

set_option maxHeartbeats 4000000 in
theorem w_X7_otherwise3 {l : Launch} {G : mm_G} {d : Nat} {M X : mm_M} {Q : Int32 → mm_T → mm_M → Prop} {nl np ne ns : Nat} (hd : v_d M X nl np ne) (hx : g_pre X) (hs : M 38 3 = nI ns) (hs8 : ns ≤ 8) {k c : Nat} {x6 : Value} (hk : k ≤ ne) (hn : k < ne → mm_wp l G (d + 4) k_X7_otherwiseIn (mm_pi Q) 10 [.ref 38, .ref 20, .ref 5, .ref 14, .int (nI (c)), .int (nI (k + 1)), x6] [] T0 (h_run M np (-1) (k + 1)) 0 0) (he : k = ne → mm_wp l G (d + 4) k_X7_otherwiseIn (mm_pi Q) 10 [.ref 38, .ref 20, .ref 5, .ref 14, .int (nI (c)), .int (nI (k + 1)), x6] [] T0 (h_run M np (-1) k) 0 0) : mm_wp l G (d + 4) k_X7_otherwiseIn (mm_pi Q) 94 [.ref 38, .ref 20, .ref 5, .ref 14, .int (nI (c)), .int (nI k), x6] [] T0 (h_run M np (-1) k) 0 0 := by
  have n24 := hd.1.2.2.1
  obtain ⟨hq, hwf⟩ := h_run_ok hd.1 (y := -1) k
  have c14 : (h_run M np (-1) k 14 5).toInt = ne := by rw [hq 14 (by decide)]; exact hd.1.ei
  have hki : (nI k).toInt = k := mm_ti (by omega)
  refine mm_aload_3 95 dX7_otherwiseIn_94 rfl ?_
  refine mm_iload_5 97 dX7_otherwiseIn_95 rfl ?_
  refine mm_cV1i 100 dX7_otherwiseIn_97 v_X7_49 rfl t_14 (by decide) rfl rfl (Nat.le_of_ble_eq_true rfl) ⟨rfl, rfl⟩ ⟨Nat.zero_le _, Nat.zero_le _⟩ (c_X2_has (fun h1 => ?_) (fun h1 => ?_))
  · refine mm_if_eq 109 103 dX7_otherwiseIn_100 (by decide) rfl (fun h => absurd h (by decide)) (fun _ => ?_)
    refine mm_aload_1 104 dX7_otherwiseIn_103 rfl ?_
    refine mm_iload_5 106 dX7_otherwiseIn_104 rfl ?_
    refine mm_cV1v 109 dX7_otherwiseIn_106 v_X7_50 rfl t_20 (by decide) rfl rfl (Nat.le_of_ble_eq_true rfl) ⟨rfl, rfl⟩ ⟨Nat.zero_le _, Nat.zero_le _⟩ (c_X10_playOne (hd.1.kp hq.lo) rfl (ne := ne) (by (try simp only [Int32.lt_iff_toInt_lt, Int32.le_iff_toInt_le, ← Int32.toInt_inj, vp_in_iff, Int32.reduceToInt, mm_t1, mm_t2, mm_t3, mm_t4, mm_t10] at h1 c14 hki ⊢); omega) ((hd.hev (by (try simp only [Int32.lt_iff_toInt_lt, Int32.le_iff_toInt_le, ← Int32.toInt_inj, vp_in_iff, Int32.reduceToInt, mm_t1, mm_t2, mm_t3, mm_t4, mm_t10] at h1 c14 hki ⊢); omega)).kp hq.lo) hwf ?_)
    refine mm_iinc_5 112 1 dX7_otherwiseIn_109 rfl (by decide) rfl ?_
    refine mm_goto 10 dX7_otherwiseIn_112 (by decide) ?_
    rw [nI_1]
    have hh := hn (by (try simp only [Int32.lt_iff_toInt_lt, Int32.le_iff_toInt_le, ← Int32.toInt_inj, vp_in_iff, Int32.reduceToInt, mm_t1, mm_t2, mm_t3, mm_t4, mm_t10] at h1 c14 hki ⊢); omega)
    rw [show h_run M np (-1) (k + 1) = h_one (h_run M np (-1) k) np k from if_neg (h_nn (by omega))] at hh
    exact hh
  · refine mm_if_eq 109 103 dX7_otherwiseIn_100 (by decide) rfl (fun _ => ?_) (fun h => absurd h (by decide))
    refine mm_iinc_5 112 1 dX7_otherwiseIn_109 rfl (by decide) rfl ?_
    refine mm_goto 10 dX7_otherwiseIn_112 (by decide) ?_
    rw [nI_1]
    exact he (by (try simp only [Int32.lt_iff_toInt_lt, Int32.le_iff_toInt_le, ← Int32.toInt_inj, vp_in_iff, Int32.reduceToInt, mm_t1, mm_t2, mm_t3, mm_t4, mm_t10] at h1 c14 hki ⊢); omega)

set_option maxHeartbeats 4000000 in
theorem w_X7_otherwise0 {l : Launch} {G : mm_G} {d : Nat} {M X : mm_M} {Q : Int32 → mm_T → mm_M → Prop} {nl np ne ns : Nat} (hd : v_d M X nl np ne) (hx : g_pre X) (hs : M 38 3 = nI ns) (hs8 : ns ≤ 8) (h : ∀ r M1, r = nI (cnt (ov (gw X) (M 39) (M 40) (M 41) nl (ne + 1)) ns) → h_kp M M1 → Q r T0 M1) {x6 : Value} : mm_wp l G (d + 4) k_X7_otherwiseIn (mm_pi Q) 10 [.ref 38, .ref 20, .ref 5, .ref 14, .int (nI (cnt (ov (gw X) (M 39) (M 40) (M 41) nl (ne + 1)) ns)), .int (nI (ne + 1)), x6] [] T0 (h_run M np (-1) ne) 0 0 := by
  have n24 := hd.1.2.2.1
  obtain ⟨hq, hwf⟩ := h_run_ok hd.1 (y := -1) ne
  have c14 : h_run M np (-1) ne 14 5 = nI ne := by rw [hq 14 (by decide)]; exact hd.1.2.2.2.2.2.1
  have hki : (nI (ne + 1)).toInt = (ne + 1 : Nat) := mm_ti (by omega)
  have hni : (nI ne).toInt = ne := mm_ti (by omega)
  refine mm_iload_5 12 dX7_otherwiseIn_10 rfl ?_
  refine mm_aload_3 13 dX7_otherwiseIn_12 rfl ?_
  refine mm_cV0i 16 dX7_otherwiseIn_13 v_X7_35 rfl t_14 (by decide) rfl rfl (Nat.le_of_ble_eq_true rfl) ⟨rfl, rfl⟩ ⟨Nat.zero_le _, Nat.zero_le _⟩ (c_X2_number  (fun r1 e1 => ?_))
  rw [e1, c14]
  refine mm_ic_gt 115 19 dX7_otherwiseIn_16 (by decide) rfl (fun h2 => ?_) (fun h2 => absurd (by rw [mm_lt]; omega) h2)
  refine mm_iload_4 117 dX7_otherwiseIn_115 rfl ?_
  refine mm_iret dX7_otherwiseIn_117 rfl ⟨rfl, Nat.zero_le _⟩ ?_
  exact h _ _ rfl hq

set_option maxHeartbeats 4000000 in
theorem w_X7_otherwise1 {l : Launch} {G : mm_G} {d : Nat} {M X : mm_M} {Q : Int32 → mm_T → mm_M → Prop} {nl np ne ns : Nat} (hd : v_d M X nl np ne) (hx : g_pre X) (hs : M 38 3 = nI ns) (hs8 : ns ≤ 8) (h : ∀ r M1, r = nI (cnt (ov (gw X) (M 39) (M 40) (M 41) nl (ne + 1)) ns) → h_kp M M1 → Q r T0 M1) : ∀ (z k : Nat) {x6 : Value}, ne - k ≤ z → k ≤ ne → mm_wp l G (d + 4) k_X7_otherwiseIn (mm_pi Q) 10 [.ref 38, .ref 20, .ref 5, .ref 14, .int (nI (cnt (ov (gw X) (M 39) (M 40) (M 41) nl k) ns)), .int (nI k), x6] [] T0 (h_run M np (-1) k) 0 0 := by
  intro z
  induction z using Nat.strongRecOn with | _ z ih => ?_
  intro k x6 hze hk
  have n24 := hd.1.2.2.1
  obtain ⟨hq, hwf⟩ := h_run_ok hd.1 (y := -1) k
  have c14 : h_run M np (-1) k 14 5 = nI ne := by rw [hq 14 (by decide)]; exact hd.1.2.2.2.2.2.1
  have hki : (nI k).toInt = k := mm_ti (by omega)
  have hni : (nI ne).toInt = ne := mm_ti (by omega)
  refine mm_iload_5 12 dX7_otherwiseIn_10 rfl ?_
  refine mm_aload_3 13 dX7_otherwiseIn_12 rfl ?_
  refine mm_cV0i 16 dX7_otherwiseIn_13 v_X7_35 rfl t_14 (by decide) rfl rfl (Nat.le_of_ble_eq_true rfl) ⟨rfl, rfl⟩ ⟨Nat.zero_le _, Nat.zero_le _⟩ (c_X2_number  (fun r1 e1 => ?_))
  rw [e1, c14]
  refine mm_ic_gt 115 19 dX7_otherwiseIn_16 (by decide) rfl (fun h2 => ?_) (fun h2 => ?_)
  · refine mm_iload_4 117 dX7_otherwiseIn_115 rfl ?_
    refine mm_iret dX7_otherwiseIn_117 rfl ⟨rfl, Nat.zero_le _⟩ ?_
    exfalso
    (try simp only [hki, hni, Int32.lt_iff_toInt_lt, Int32.le_iff_toInt_le, ← Int32.toInt_inj, vp_in_iff, Int32.reduceToInt, mm_t1, mm_t2, mm_t3, mm_t4, mm_t10] at h2)
    omega
  · refine mm_iconst 20 0 dX7_otherwiseIn_19 rfl (by decide) ?_
    refine mm_istore_6 22 dX7_otherwiseIn_20 rfl rfl ?_
    refine w_X7_otherwise2 hd hx hs hs8 hq (v_run hd hx k hk) ?_ ns 0 (by omega) (by omega)
    refine w_X7_otherwise3 hd hx hs hs8 hk (fun q => ?_) (fun q => ?_)
    · rw [← ov_n (by omega)]
      exact ih (ne - (k + 1)) (by omega) (k + 1) (x6 := _) (Nat.le_refl _) (by omega)
    · rw [← ov_n (by omega), q]
      exact w_X7_otherwise0 hd hx hs hs8 h

set_option maxHeartbeats 4000000 in
theorem c_X7_otherwiseIn {l : Launch} {G : mm_G} {d : Nat} {M X : mm_M} {Q : Int32 → mm_T → mm_M → Prop} {nl np ne ns : Nat} (hd : v_d M X nl np ne) (hx : g_pre X) (hs : M 38 3 = nI ns) (hs8 : ns ≤ 8) (h : ∀ r M1, r = nI (cnt (ov (gw X) (M 39) (M 40) (M 41) nl (ne + 1)) ns) → h_kp M M1 → Q r T0 M1) : mm_met l G (d + 4) k_X7_otherwiseIn [.ref 38, .ref 20, .ref 5, .ref 14] T0 M (mm_pi Q) := by
  refine mm_enter 3 [.ref 38, .ref 20, .ref 5, .ref 14, .double 0, .double 0, .double 0] o_X7_otherwiseIn rfl rfl ?_
  refine mm_iconst 1 0 dX7_otherwiseIn_0 rfl (by decide) ?_
  refine mm_istore_4 3 dX7_otherwiseIn_1 rfl rfl ?_
  refine mm_aload_1 4 dX7_otherwiseIn_3 rfl ?_
  refine mm_cV0v 7 dX7_otherwiseIn_4 v_X7_40 rfl t_20 (by decide) rfl rfl (Nat.le_of_ble_eq_true rfl) ⟨rfl, rfl⟩ ⟨Nat.zero_le _, Nat.zero_le _⟩ (c_X10_begin (by rw [hd.1.li]; have := hd.1.1; omega) ?_)
  refine mm_iconst 8 0 dX7_otherwiseIn_7 rfl (by decide) ?_
  refine mm_istore_5 10 dX7_otherwiseIn_8 rfl rfl ?_
  have hh := w_X7_otherwise1 (l := l) (G := G) (d := d) hd hx hs hs8 h ne 0 (x6 := .double 0) (by omega) (by omega)
  rw [ov_0] at hh
  exact hh

def un (L K : Nat → Int32) (nl ne i : Nat) : Bool := decide (¬ ((0 ≤ (L i).toInt ∧ (L i).toInt < nl) ∧ (K i).toInt ≤ ne))

set_option maxHeartbeats 4000000 in
theorem w_X7_unaskable {l : Launch} {G : mm_G} {d : Nat} {M X : mm_M} {Q : Int32 → mm_T → mm_M → Prop} {nl np ne ns : Nat} (hd : v_d M X nl np ne) (hs : M 38 3 = nI ns) (hs8 : ns ≤ 8) (h : ∀ r, r = nI (cnt (un (M 39) (M 40) nl ne) ns) → Q r T0 M) : ∀ (z i : Nat), ns - i ≤ z → i ≤ ns → mm_wp l G (d + 1) k_X7_unaskable (mm_pi Q) 5 [.ref 38, .ref 5, .ref 14, .int (nI (cnt (un (M 39) (M 40) nl ne) i)), .int (nI i)] [] T0 M 0 0 := by
  have n24 := hd.1.2.2.1
  have c5 : (M 5 1).toInt = nl := hd.1.li
  have c14 : M 14 5 = nI ne := hd.1.2.2.2.2.2.1
  have c14i : (nI ne).toInt = ne := mm_ti (by omega)
  intro z
  induction z using Nat.strongRecOn with | _ z ih => ?_
  intro i hze hin
  have hii : (nI i).toInt = i := mm_ti (by omega)
  have hni : (nI ns).toInt = ns := mm_ti (by omega)
  refine mm_iload_4 7 dX7_unaskable_5 rfl ?_
  refine mm_aload_0 8 dX7_unaskable_7 rfl ?_
  refine mm_getI 11 dX7_unaskable_8 f_X7_21 rfl t_38 rfl ?_
  rw [hs]
  refine mm_ic_ge 58 14 dX7_unaskable_11 (by decide) rfl (fun h1 => ?_) (fun h1 => ?_)
  · refine mm_iload_3 59 dX7_unaskable_58 rfl ?_
    refine mm_iret dX7_unaskable_59 rfl ⟨rfl, Nat.zero_le _⟩ ?_
    have hz : i = ns := by (try simp only [hii, hni, Int32.lt_iff_toInt_lt, Int32.le_iff_toInt_le, ← Int32.toInt_inj, vp_in_iff, Int32.reduceToInt, mm_t1, mm_t2, mm_t3, mm_t4, mm_t10] at h1); omega
    rw [hz]
    exact h _ rfl
  · have hlt : i < ns := by (try simp only [hii, hni, Int32.lt_iff_toInt_lt, Int32.le_iff_toInt_le, ← Int32.toInt_inj, vp_in_iff, Int32.reduceToInt, mm_t1, mm_t2, mm_t3, mm_t4, mm_t10] at h1); omega
    refine mm_iload_4 16 dX7_unaskable_14 rfl ?_
    refine mm_bipush 18 8 dX7_unaskable_16 rfl (by decide) ?_
    refine mm_ic_ge 58 21 dX7_unaskable_18 (by decide) rfl (fun h2 => ?_) (fun h2 => ?_)
    · refine mm_iload_3 59 dX7_unaskable_58 rfl ?_
      refine mm_iret dX7_unaskable_59 rfl ⟨rfl, Nat.zero_le _⟩ ?_
      exfalso
      (try simp only [hii, Int32.lt_iff_toInt_lt, Int32.le_iff_toInt_le, ← Int32.toInt_inj, vp_in_iff, Int32.reduceToInt, mm_t1, mm_t2, mm_t3, mm_t4, mm_t10] at h2)
      omega
    · refine mm_aload_1 22 dX7_unaskable_21 rfl ?_
      refine mm_aload_0 23 dX7_unaskable_22 rfl ?_
      refine mm_getR 26 dX7_unaskable_23 f_X7_9 rfl t_38 rfl ?_
      refine mm_iload_4 28 dX7_unaskable_26 rfl ?_
      refine mm_ialoadn 29 (i) dX7_unaskable_28 rfl t_39 (by decide) (rfl) (by omega) ?_
      refine mm_cV1i 32 dX7_unaskable_29 v_X7_29 rfl t_5 (by decide) rfl rfl (Nat.le_of_ble_eq_true rfl) ⟨rfl, rfl⟩ ⟨Nat.zero_le _, Nat.zero_le _⟩ (c_X3_has (fun h3 => ?_) (fun h3 => ?_))
      · refine mm_if_eq 49 35 dX7_unaskable_32 (by decide) rfl (fun h => absurd h (by decide)) (fun _ => ?_)
        refine mm_aload_0 36 dX7_unaskable_35 rfl ?_
        refine mm_getR 39 dX7_unaskable_36 f_X7_15 rfl t_38 rfl ?_
        refine mm_iload_4 41 dX7_unaskable_39 rfl ?_
        refine mm_ialoadn 42 (i) dX7_unaskable_41 rfl t_40 (by decide) (rfl) (by omega) ?_
        refine mm_aload_2 43 dX7_unaskable_42 rfl ?_
        refine mm_cV0i 46 dX7_unaskable_43 v_X7_35 rfl t_14 (by decide) rfl rfl (Nat.le_of_ble_eq_true rfl) ⟨rfl, rfl⟩ ⟨Nat.zero_le _, Nat.zero_le _⟩ (c_X2_number  (fun r4 e4 => ?_))
        rw [e4, c14]
        refine mm_ic_le 52 49 dX7_unaskable_46 (by decide) rfl (fun h5 => ?_) (fun h5 => ?_)
        · refine mm_iinc_4 55 1 dX7_unaskable_52 rfl (by decide) rfl ?_
          refine mm_goto 5 dX7_unaskable_55 (by decide) ?_
          rw [c5] at h3
          (try simp only [Int32.lt_iff_toInt_lt, Int32.le_iff_toInt_le, ← Int32.toInt_inj, vp_in_iff, Int32.reduceToInt, mm_t1, mm_t2, mm_t3, mm_t4, mm_t10] at h5)
          rw [nI_1]
          have hh := ih (ns - (i + 1)) (by omega) (i + 1) (Nat.le_refl _) (by omega)
          rw [cnt_f (by simp only [un, decide_eq_true_eq]; omega)] at hh
          exact hh
        · refine mm_iinc_3 52 1 dX7_unaskable_49 rfl (by decide) rfl ?_
          refine mm_iinc_4 55 1 dX7_unaskable_52 rfl (by decide) rfl ?_
          refine mm_goto 5 dX7_unaskable_55 (by decide) ?_
          rw [c5] at h3
          (try simp only [Int32.lt_iff_toInt_lt, Int32.le_iff_toInt_le, ← Int32.toInt_inj, vp_in_iff, Int32.reduceToInt, mm_t1, mm_t2, mm_t3, mm_t4, mm_t10] at h5)
          rw [nI_1, nI_1]
          have hh := ih (ns - (i + 1)) (by omega) (i + 1) (Nat.le_refl _) (by omega)
          rw [cnt_t (by simp only [un, decide_eq_true_eq]; omega)] at hh
          exact hh
      · refine mm_if_eq 49 35 dX7_unaskable_32 (by decide) rfl (fun _ => ?_) (fun h => absurd h (by decide))
        refine mm_iinc_3 52 1 dX7_unaskable_49 rfl (by decide) rfl ?_
        refine mm_iinc_4 55 1 dX7_unaskable_52 rfl (by decide) rfl ?_
        refine mm_goto 5 dX7_unaskable_55 (by decide) ?_
        rw [nI_1, nI_1]
        have hh := ih (ns - (i + 1)) (by omega) (i + 1) (Nat.le_refl _) (by omega)
        rw [c5] at h3
        rw [cnt_t (by simp only [un, decide_eq_true_eq]; exact fun q => h3 q.1)] at hh
        exact hh

set_option maxHeartbeats 4000000 in
theorem c_X7_unaskable {l : Launch} {G : mm_G} {d : Nat} {M X : mm_M} {Q : Int32 → mm_T → mm_M → Prop} {nl np ne ns : Nat} (hd : v_d M X nl np ne) (hs : M 38 3 = nI ns) (hs8 : ns ≤ 8) (h : ∀ r, r = nI (cnt (un (M 39) (M 40) nl ne) ns) → Q r T0 M) : mm_met l G (d + 1) k_X7_unaskable [.ref 38, .ref 5, .ref 14] T0 M (mm_pi Q) := by
  refine mm_enter 2 [.ref 38, .ref 5, .ref 14, .double 0, .double 0] o_X7_unaskable rfl rfl ?_
  refine mm_iconst 1 0 dX7_unaskable_0 rfl (by decide) ?_
  refine mm_istore_3 2 dX7_unaskable_1 rfl rfl ?_
  refine mm_iconst 3 0 dX7_unaskable_2 rfl (by decide) ?_
  refine mm_istore_4 5 dX7_unaskable_3 rfl rfl ?_
  exact w_X7_unaskable hd hs hs8 h ns 0 (by omega) (by omega)

