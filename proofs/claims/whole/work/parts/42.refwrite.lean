/-! write of the reference -/
def fw (A B : mm_M) : Prop := ∀ c, (1 ≤ c ∧ c < 20) ∨ 51 ≤ c → B c = A c
def mx (A X : mm_M) : mm_M := fun c => if c = 0 ∨ (38 ≤ c ∧ c ≤ 50) then A c else X c
theorem mx_n (A X : mm_M) {c : Nat} (h : ¬ (c = 0 ∨ (38 ≤ c ∧ c ≤ 50))) : mx A X c = X c := if_neg h
theorem mx_p (A X : mm_M) {c : Nat} (h : c = 0 ∨ (38 ≤ c ∧ c ≤ 50)) : mx A X c = A c := if_pos h
theorem fw_x {A B M X : mm_M} (hi : iv A) (hw : fw A B) (hf : fr B M) (h1 : r_dat M X) (h2 : r_keep M X) : v_d A X (a_nl A) (a_np A) (a_ne A) ∧ g_pre X := by
  have fx : fr B X := hf.rk h2
  have ex : ∀ c, bs c = true → c ≠ 0 → ¬ (38 ≤ c ∧ c ≤ 50) → X c = A c := fun c q z1 z2 => by
    rw [fx.1 c q]
    have := bs_no q
    simp only [bs, Bool.or_eq_true, decide_eq_true_eq] at q
    exact hw c (by omega)
  have e : r_x A (mx A X) := by
    refine ⟨⟨fun c q => ?_, ?_, ?_, ?_⟩, ?_⟩
    · by_cases z : c = 0 ∨ (38 ≤ c ∧ c ≤ 50)
      · exact mx_p A X z
      · rw [mx_n A X z]; exact ex c q (fun y => z (Or.inl y)) (fun y => z (Or.inr y))
    · rw [mx_n A X (by decide), fx.2.1, hw 51 (by decide)]
    · rw [mx_n A X (by decide), fx.2.2.1, hw 51 (by decide)]
    · rw [mx_n A X (by decide), fx.2.2.2, hw 51 (by decide)]
    · have fm : a_nl M = a_nl A := by unfold a_nl a_n0; rw [hf.a 56, hf.a 57, hw 56 (by decide), hw 57 (by decide)]
      have b1 : a_b1 M = a_b1 A := by unfold a_b1; rw [hf.a 56, hw 56 (by decide)]
      have fp : a_np M = a_np A := by unfold a_np a_n1; rw [fm, b1, hf.a 57, hw 57 (by decide)]
      unfold r_dat at h1 ⊢
      rw [fm, fp, b1, hf.a 56, hw 56 (by decide)] at h1
      rw [mx_n A X (c := 51) (by decide), mx_n A X (c := 58) (by decide), mx_n A X (c := 59) (by decide)]
      exact h1
  have d := e.vd hi (M := A) (fun _ _ => rfl)
  have g := e.pre hi
  unfold v_d g_ev at d
  unfold g_pre at g
  have e51 : mx A X 51 = X 51 := mx_n A X (by decide)
  have e58 : mx A X 58 = X 58 := mx_n A X (by decide)
  have e59 : mx A X 59 = X 59 := mx_n A X (by decide)
  have e60 : mx A X 60 = X 60 := mx_n A X (by decide)
  have e61 : mx A X 61 = X 61 := mx_n A X (by decide)
  rw [e51, e58, e59, e60, e61] at d
  rw [e51, e59] at g
  unfold v_d g_ev g_pre
  exact ⟨d, g⟩

set_option maxHeartbeats 4000000 in
theorem c_X12_isSoM {l : Launch} {G : mm_G} {d : Nat} {M : mm_M} {Q : Int32 → mm_T → mm_M → Prop} {k : Int32} (ht : 0 ≤ k.toInt ∧ k.toInt ≤ (M 51 13).toInt → Q 1 T0 M) (hn : ¬ (0 ≤ k.toInt ∧ k.toInt ≤ (M 51 13).toInt) → Q 0 T0 M) : mm_met l G (d + 1) k_X12_isSo [.ref 51, .int k] T0 M (mm_pi Q) := by
  refine mm_enter 0 [.ref 51, .int k] o_X12_isSo rfl rfl ?_
  refine mm_iload_1 1 dX12_isSo_0 rfl ?_
  refine mm_i2l 2 dX12_isSo_1 rfl ?_
  refine mm_lconst 3 0 dX12_isSo_2 rfl (by decide) ?_
  refine mm_aload_0 4 dX12_isSo_3 rfl ?_
  refine mm_getI 7 dX12_isSo_4 f_X12_184 rfl t_51 rfl ?_
  refine mm_i2l 8 dX12_isSo_7 rfl ?_
  refine mm_cS3i 11 dX12_isSo_8 v_X12_95 rfl (Nat.le_of_ble_eq_true rfl) ⟨rfl, rfl⟩ ⟨Nat.zero_le _, Nat.zero_le _⟩ (c_X12_in (fun h1 => ?_) (fun h1 => ?_))
  · refine mm_zret dX12_isSo_11 rfl ⟨rfl, Nat.zero_le _⟩ (Or.inr rfl) ?_
    refine ht ?_
    try simp only [lg_cmp_lt, lg_cmp_gt, lg_cmp_le, lg_cmp_ge] at h1
    try simp only [Int32.lt_iff_toInt_lt, Int32.le_iff_toInt_le, ← Int32.toInt_inj, vp_in_iff, Int32.reduceToInt, mm_t1, mm_t2, mm_t3, mm_t4, mm_t10, Int64.lt_iff_toInt_lt, Int64.le_iff_toInt_le, Int64.reduceToInt, Int32.toInt_toInt64] at h1 ⊢
    omega
  · refine mm_zret dX12_isSo_11 rfl ⟨rfl, Nat.zero_le _⟩ (Or.inl rfl) ?_
    refine hn ?_
    try simp only [lg_cmp_lt, lg_cmp_gt, lg_cmp_le, lg_cmp_ge] at h1
    try simp only [Int32.lt_iff_toInt_lt, Int32.le_iff_toInt_le, ← Int32.toInt_inj, vp_in_iff, Int32.reduceToInt, mm_t1, mm_t2, mm_t3, mm_t4, mm_t10, Int64.lt_iff_toInt_lt, Int64.le_iff_toInt_le, Int64.reduceToInt, Int32.toInt_toInt64] at h1 ⊢
    omega

set_option maxHeartbeats 4000000 in
theorem w_X12_write {l : Launch} {G : mm_G} {d : Nat} {M : mm_M} {Q : Int32 → mm_T → mm_M → Prop} {A : mm_M} (hi : iv A) {s w : Int32} {y : Nat} (cs : s = nI s.toNatClampNeg ∧ s.toNatClampNeg < 4 ∧ (s.toNatClampNeg : Int) = s.toInt) (hm : M 52 s.toNatClampNeg = A 52 s.toNatClampNeg) (hl : ∀ j, j < a_nl A → M 62 j = zr A (-1) y 62 j) (h : Q (nI (wn A s.toNatClampNeg)) T0 (va_up M 54 (va_cpy (wrow A s.toNatClampNeg y) (M 54) 0 (60 * s.toNatClampNeg) (wn A s.toNatClampNeg)))) : ∀ (z j : Nat), wn A s.toNatClampNeg - j ≤ z → j ≤ wn A s.toNatClampNeg → mm_wp l G (d + 5) k_X12_write (mm_pi Q) 73 [.ref 51, .int w, .int s, .int (nI (wn A s.toNatClampNeg)), .int (nI j)] [] T0 (va_up M 54 (va_cpy (wrow A s.toNatClampNeg y) (M 54) 0 (60 * s.toNatClampNeg) j)) 0 0 := by
  have n6 := hi.1.nl
  have sz := (hi.1.2.2.2.2.2.2.2 _ cs.2.1).2
  have cz := mm_cl2 (x := A 53 s.toNatClampNeg) (n := 61) ⟨sz.1, by omega⟩
  have wl : wn A s.toNatClampNeg ≤ a_nl A ∧ (wn A s.toNatClampNeg : Int) ≤ (A 53 s.toNatClampNeg).toInt := by unfold wn; split <;> omega
  intro z
  induction z using Nat.strongRecOn with | _ z ih => ?_
  intro j hze hjn
  have hji : (nI j).toInt = j := mm_ti (by omega)
  have hni : (nI (wn A s.toNatClampNeg)).toInt = wn A s.toNatClampNeg := mm_ti (by omega)
  refine mm_iload_4 75 dX12_write_73 rfl ?_
  refine mm_iload_3 76 dX12_write_75 rfl ?_
  refine mm_ic_ge 113 79 dX12_write_76 (by decide) rfl (fun h1 => ?_) (fun h1 => ?_)
  · refine mm_iload_3 114 dX12_write_113 rfl ?_
    refine mm_iret dX12_write_114 rfl ⟨rfl, Nat.zero_le _⟩ ?_
    have hz : j = wn A s.toNatClampNeg := by (try simp only [hji, hni, Int32.lt_iff_toInt_lt, Int32.le_iff_toInt_le, ← Int32.toInt_inj, vp_in_iff, Int32.reduceToInt, mm_t1, mm_t2, mm_t3, mm_t4, mm_t10] at h1); omega
    rw [hz]
    exact h
  · have hlt : j < wn A s.toNatClampNeg := by (try simp only [hji, hni, Int32.lt_iff_toInt_lt, Int32.le_iff_toInt_le, ← Int32.toInt_inj, vp_in_iff, Int32.reduceToInt, mm_t1, mm_t2, mm_t3, mm_t4, mm_t10] at h1); omega
    refine mm_aload_0 80 dX12_write_79 rfl ?_
    refine mm_getR 83 dX12_write_80 f_X12_16 rfl t_51 rfl ?_
    refine mm_bipush 85 60 dX12_write_83 rfl (by decide) ?_
    refine mm_iload_2 86 dX12_write_85 rfl ?_
    refine mm_imul 87 dX12_write_86 rfl ?_
    refine mm_iload_4 89 dX12_write_87 rfl ?_
    refine mm_iadd 90 dX12_write_89 rfl ?_
    refine mm_aload_0 91 dX12_write_90 rfl ?_
    refine mm_getR 94 dX12_write_91 f_X12_7 rfl t_51 rfl ?_
    refine mm_iload_2 95 dX12_write_94 rfl ?_
    refine mm_ialoadn 96 (s.toNatClampNeg) dX12_write_95 rfl t_52 (by decide) (cs.1) (by omega) ?_
    refine mm_aload_0 97 dX12_write_96 rfl ?_
    refine mm_getR 100 dX12_write_97 f_X12_40 rfl t_51 rfl ?_
    refine mm_iload_4 102 dX12_write_100 rfl ?_
    refine mm_ialoadn 103 (j) dX12_write_102 rfl t_62 (by decide) (rfl) (by omega) ?_
    refine mm_cS2i 106 dX12_write_103 v_X12_119 rfl (Nat.le_of_ble_eq_true rfl) ⟨rfl, rfl⟩ ⟨Nat.zero_le _, Nat.zero_le _⟩ (c_X12_cut  (fun r2 e2 => ?_))
    refine mm_iastoren 107 (60 * s.toNatClampNeg + j) dX12_write_106 rfl t_54 (by decide) (by rw [l60, cs.1, pk_mul, nI_add, mm_cn (by omega)]) (by omega) ?_
    refine mm_iinc_4 110 1 dX12_write_107 rfl (by decide) rfl ?_
    refine mm_goto 73 dX12_write_110 (by decide) ?_
    rw [nI_1, e2, mm_upva, va_upn _ _ (show (52:Nat) ≠ 54 by decide), va_upn _ _ (show (62:Nat) ≠ 54 by decide), hm, hl j (by omega)]
    have hh := ih (wn A s.toNatClampNeg - (j + 1)) (by omega) (j + 1) (Nat.le_refl _) (by omega)
    rw [← cpy_s, Nat.zero_add] at hh
    exact hh

set_option maxHeartbeats 4000000 in
theorem c_X12_write {l : Launch} {G : mm_G} {d : Nat} {M : mm_M} {Q : Int32 → mm_T → mm_M → Prop} {A B : mm_M} (hi : iv A) (hw : fw A B) (hf : fr B M) {w s : Int32} (kN : ¬ ((0 ≤ s.toInt ∧ s.toInt ≤ 3) ∧ 0 ≤ w.toInt ∧ w.toInt ≤ a_ne A) → Q (-2) T0 M) (kL : 0 ≤ s.toInt ∧ s.toInt ≤ 3 → 0 ≤ w.toInt ∧ w.toInt ≤ a_ne A → A 52 s.toNatClampNeg = -1 → Q (-11) T0 (mm_up M 51 4 1)) (kG : 0 ≤ s.toInt ∧ s.toInt ≤ 3 → 0 ≤ w.toInt ∧ w.toInt ≤ a_ne A → ¬ A 52 s.toNatClampNeg = -1 → ∀ M1, fr (va_up B 54 (va_cpy (wrow A s.toNatClampNeg w.toNatClampNeg) (B 54) 0 (60 * s.toNatClampNeg) (wn A s.toNatClampNeg))) M1 → Q (nI (wn A s.toNatClampNeg)) T0 M1) : mm_met l G (d + 5) k_X12_write [.ref 51, .int w, .int s] T0 M (mm_pi Q) := by
  have n6 := hi.1.nl
  have n24 := hi.1.ne.2
  have nli : (nI (a_nl A)).toInt = a_nl A := mm_ti (by omega)
  have okM : a_ok M := hf.ok (hi.1.hi (fun c hc => hw c (Or.inr hc)))
  have k13 : (M 51 13).toInt = a_ne A := by rw [hf.2.2.1, hw 51 (by decide), hi.1.ne.1]; exact mm_ti (by omega)
  have sz := fun k (hk : k < 4) => (hi.1.2.2.2.2.2.2.2 k hk).2
  refine mm_enter 2 [.ref 51, .int w, .int s, .double 0, .double 0] o_X12_write rfl rfl ?_
  refine mm_aload_0 1 dX12_write_0 rfl ?_
  refine mm_iload_1 2 dX12_write_1 rfl ?_
  refine mm_cV1i 5 dX12_write_2 v_X12_248 rfl t_51 (by decide) rfl rfl (Nat.le_of_ble_eq_true rfl) ⟨rfl, rfl⟩ ⟨Nat.zero_le _, Nat.zero_le _⟩ (c_X12_isSoM (fun h1 => ?_) (fun h1 => ?_))
  · refine mm_if_eq 15 8 dX12_write_5 (by decide) rfl (fun h => absurd h (by decide)) (fun _ => ?_)
    refine mm_iload_2 9 dX12_write_8 rfl ?_
    refine mm_cS1i 12 dX12_write_9 v_X12_105 rfl (Nat.le_of_ble_eq_true rfl) ⟨rfl, rfl⟩ ⟨Nat.zero_le _, Nat.zero_le _⟩ (c_X12_isSheet  (fun h2 => ?_) (fun h2 => ?_))
    · refine mm_if_ne 18 15 dX12_write_12 (by decide) rfl (fun _ => ?_) (fun h => absurd h (by decide))
      have cs := mm_cl2 (x := s) (n := 4) (by omega)
      have cw := mm_cl2 (x := w) (n := 25) (by (try simp only [Int32.lt_iff_toInt_lt, Int32.le_iff_toInt_le, ← Int32.toInt_inj, vp_in_iff, Int32.reduceToInt, mm_t1, mm_t2, mm_t3, mm_t4, mm_t10] at h1 h2 k13 ⊢); omega)
      refine mm_aload_0 19 dX12_write_18 rfl ?_
      refine mm_getR 22 dX12_write_19 f_X12_7 rfl t_51 rfl ?_
      refine mm_iload_2 23 dX12_write_22 rfl ?_
      refine mm_ialoadn 24 (s.toNatClampNeg) dX12_write_23 rfl t_52 (by decide) (cs.1) (by omega) ?_
      refine mm_if_ge 33 27 dX12_write_24 (by decide) rfl (fun h3 => ?_) (fun h3 => ?_)
      · refine mm_aload_0 34 dX12_write_33 rfl ?_
        refine mm_cV0v 37 dX12_write_34 v_X12_163 rfl t_51 (by decide) rfl rfl (Nat.le_of_ble_eq_true rfl) ⟨rfl, rfl⟩ ⟨Nat.zero_le _, Nat.zero_le _⟩ (c_X12_find okM (fun X x1 x2 => ?_))
        refine mm_aload_0 38 dX12_write_37 rfl ?_
        refine mm_iload_1 39 dX12_write_38 rfl ?_
        refine mm_iconst 40 (-1) dX12_write_39 rfl (by decide) ?_
        refine mm_cV2v 43 dX12_write_40 v_X12_238 rfl t_51 (by decide) rfl rfl (Nat.le_of_ble_eq_true rfl) ⟨rfl, rfl⟩ ⟨Nat.zero_le _, Nat.zero_le _⟩ (c_X12_goes cw.1 (by omega) (fw_x hi hw hf x1 x2).2 (fun e he => ((fw_x hi hw hf x1 x2).1.2.2.2.2.2.2.2 e (by omega)).2.1) ?_)
        have cz := mm_cl2 (x := A 53 s.toNatClampNeg) (n := 61) ⟨(sz _ cs.2.1).1, by have := (sz _ cs.2.1).2; omega⟩; obtain ⟨dX, pX⟩ := fw_x hi hw hf x1 x2
        have kY : g_kp X (g_run X (-1) w.toNatClampNeg) := (g_run_ok pX w.toNatClampNeg (fun e he => (dX.2.2.2.2.2.2.2 e (by omega)).2.1)).1
        have fY : fr B (g_run X (-1) w.toNatClampNeg) := (hf.rk x2).gk kY
        have eY := e_w_of (A := A) (v_run dX pX (y := -1) w.toNatClampNeg (by omega)) (zr_c hi (M := A) (fun _ _ => rfl) (by omega))
        have y8 : (g_run X (-1) w.toNatClampNeg) 51 8 = nI (a_nl A) := by rw [kY.2 8 (by decide) (by decide) (by decide)]; exact dX.2.1
        have y52 : (g_run X (-1) w.toNatClampNeg) 52 s.toNatClampNeg = A 52 s.toNatClampNeg := by rw [fY.a 52, hw 52 (by decide)]
        have y53 : (g_run X (-1) w.toNatClampNeg) 53 s.toNatClampNeg = A 53 s.toNatClampNeg := by rw [fY.a 53, hw 53 (by decide)]
        have y54 : (g_run X (-1) w.toNatClampNeg) 54 = B 54 := fY.a 54
        refine mm_aload_0 44 dX12_write_43 rfl ?_
        refine mm_getR 47 dX12_write_44 f_X12_13 rfl t_51 rfl ?_
        refine mm_iload_2 48 dX12_write_47 rfl ?_
        refine mm_ialoadn 49 (s.toNatClampNeg) dX12_write_48 rfl t_53 (by decide) (cs.1) (by omega) ?_
        refine mm_aload_0 50 dX12_write_49 rfl ?_
        refine mm_getI 53 dX12_write_50 f_X12_138 rfl t_51 rfl ?_
        rw [y53, y8]
        refine mm_ic_ge 65 56 dX12_write_53 (by decide) rfl (fun h4 => ?_) (fun h4 => ?_)
        · refine mm_aload_0 66 dX12_write_65 rfl ?_
          refine mm_getI 69 dX12_write_66 f_X12_138 rfl t_51 rfl ?_
          refine mm_istore_3 70 dX12_write_69 rfl rfl ?_
          refine mm_iconst 71 0 dX12_write_70 rfl (by decide) ?_
          refine mm_istore_4 73 dX12_write_71 rfl rfl ?_
          have nl : ¬ A 52 s.toNatClampNeg = -1 := by rw [hf.a 52, hw 52 (by decide)] at h3; have o1 := (hi.1.2.2.2.2.2.2.2 _ cs.2.1).1; (try simp only [Int32.lt_iff_toInt_lt, Int32.le_iff_toInt_le, ← Int32.toInt_inj, vp_in_iff, Int32.reduceToInt, mm_t1, mm_t2, mm_t3, mm_t4, mm_t10] at h3 ⊢); omega
          have en : nI (a_nl A) = nI (wn A s.toNatClampNeg) := by unfold wn; rw [if_neg (by (try simp only [nli, Int32.lt_iff_toInt_lt, Int32.le_iff_toInt_le, ← Int32.toInt_inj, vp_in_iff, Int32.reduceToInt, mm_t1, mm_t2, mm_t3, mm_t4, mm_t10] at h4 ⊢); omega)]
          rw [y8, en]
          rw [k13] at h1
          have wl : wn A s.toNatClampNeg ≤ a_nl A := by unfold wn; split <;> omega
          refine mm_memo ?_ (w_X12_write (M := (g_run X (-1) w.toNatClampNeg)) (y := w.toNatClampNeg) hi cs y52 eY.1 (kG h2 h1 nl _ ?_) 60 0 (by omega) (by omega))
          · rw [cpy_0, va_same]
          · exact fY.rowb (by rw [y54]) (by decide)
        · refine mm_aload_0 57 dX12_write_56 rfl ?_
          refine mm_getR 60 dX12_write_57 f_X12_13 rfl t_51 rfl ?_
          refine mm_iload_2 61 dX12_write_60 rfl ?_
          refine mm_ialoadn 62 (s.toNatClampNeg) dX12_write_61 rfl t_53 (by decide) (cs.1) (by omega) ?_
          refine mm_goto 69 dX12_write_62 (by decide) ?_
          refine mm_istore_3 70 dX12_write_69 rfl rfl ?_
          refine mm_iconst 71 0 dX12_write_70 rfl (by decide) ?_
          refine mm_istore_4 73 dX12_write_71 rfl rfl ?_
          have nl : ¬ A 52 s.toNatClampNeg = -1 := by rw [hf.a 52, hw 52 (by decide)] at h3; have o1 := (hi.1.2.2.2.2.2.2.2 _ cs.2.1).1; (try simp only [Int32.lt_iff_toInt_lt, Int32.le_iff_toInt_le, ← Int32.toInt_inj, vp_in_iff, Int32.reduceToInt, mm_t1, mm_t2, mm_t3, mm_t4, mm_t10] at h3 ⊢); omega
          have en : A 53 s.toNatClampNeg = nI (wn A s.toNatClampNeg) := by unfold wn; rw [if_pos (by (try simp only [nli, Int32.lt_iff_toInt_lt, Int32.le_iff_toInt_le, ← Int32.toInt_inj, vp_in_iff, Int32.reduceToInt, mm_t1, mm_t2, mm_t3, mm_t4, mm_t10] at h4 ⊢); omega)]; exact cz.1
          rw [y53, en]
          rw [k13] at h1
          have wl : wn A s.toNatClampNeg ≤ a_nl A := by unfold wn; split <;> omega
          refine mm_memo ?_ (w_X12_write (M := (g_run X (-1) w.toNatClampNeg)) (y := w.toNatClampNeg) hi cs y52 eY.1 (kG h2 h1 nl _ ?_) 60 0 (by omega) (by omega))
          · rw [cpy_0, va_same]
          · exact fY.rowb (by rw [y54]) (by decide)
      · refine mm_aload_0 28 dX12_write_27 rfl ?_
        refine mm_iconst 29 1 dX12_write_28 rfl (by decide) ?_
        refine mm_cV1i 32 dX12_write_29 v_X12_111 rfl t_51 (by decide) rfl rfl (Nat.le_of_ble_eq_true rfl) ⟨rfl, rfl⟩ ⟨Nat.zero_le _, Nat.zero_le _⟩ (c_X12_met (fun r5 e5 => ?_))
        refine mm_iret dX12_write_32 rfl ⟨rfl, Nat.zero_le _⟩ ?_
        rw [e5]
        rw [hf.a 52, hw 52 (by decide)] at h3
        rw [k13] at h1
        have o1 := (hi.1.2.2.2.2.2.2.2 _ cs.2.1).1
        exact kL h2 h1 (by (try simp only [Int32.lt_iff_toInt_lt, Int32.le_iff_toInt_le, ← Int32.toInt_inj, vp_in_iff, Int32.reduceToInt, mm_t1, mm_t2, mm_t3, mm_t4, mm_t10] at h3 ⊢); omega)
    · refine mm_if_ne 18 15 dX12_write_12 (by decide) rfl (fun h => absurd h (by decide)) (fun _ => ?_)
      refine mm_bipush 17 (-2) dX12_write_15 rfl (by decide) ?_
      refine mm_iret dX12_write_17 rfl ⟨rfl, Nat.zero_le _⟩ ?_
      exact kN (fun q => h2 q.1)
  · refine mm_if_eq 15 8 dX12_write_5 (by decide) rfl (fun _ => ?_) (fun h => absurd h (by decide))
    refine mm_bipush 17 (-2) dX12_write_15 rfl (by decide) ?_
    refine mm_iret dX12_write_17 rfl ⟨rfl, Nat.zero_le _⟩ ?_
    exact kN (fun q => h1 (by rw [k13]; exact q.2))

