/-! Whom to marry, in the class -/
def zL1 (A : mm_M) (j : Nat) : List (Nat × Nat) := call_ (zP A (nI j) (nI j - 1)) (a_np A) (a_np A)
def zL2 (A : mm_M) (j : Nat) : List (Nat × Nat) := call_ (zP A (nI j) (nI j + 1)) (a_np A) (a_np A)
def zL (A : mm_M) (j : Nat) : List (Nat × Nat) := zL1 A j ++ zL2 A j
theorem nI_sb {j : Nat} (h : j < 1000) : (nI j - 1).toInt = (j : Int) - 1 := by
  rw [mm_sub (by rw [mm_ti (by omega)]; simp only [Int32.reduceToInt]; omega), mm_ti (by omega)]
  rfl
theorem nI_pl {j : Nat} (h : j < 1000) : (nI j + 1).toInt = (j : Int) + 1 := by
  rw [nI_1, mm_ti (by omega)]
  omega
theorem zL_36 {A : mm_M} (hi : iv A) {j : Nat} (hj : j < a_nl A) : (zL1 A j).length + cn2 (zP A (nI j) (nI j + 1)) (a_np A) (a_np A) ≤ 36 := by
  have n6 := hi.1.nl
  unfold zL1
  rw [call_l, ← cn2_or (fun a b q => ?_)]
  · refine zP_36 hi (x := nI j) (fun a b q => ?_)
    rw [Bool.or_eq_true] at q
    rcases q with q | q
    · exact ⟨(zP_i q).1, (zP_i q).2.2⟩
    · exact ⟨(zP_i q).1, (zP_i q).2.2⟩
  · have e := (zP_i q.1).2.1.symm.trans (zP_i q.2).2.1
    have e := congrArg Int32.toInt e
    rw [nI_sb (by omega), nI_pl (by omega)] at e
    omega
theorem zL_len {A : mm_M} (hi : iv A) {j : Nat} (hj : j < a_nl A) : (zL A j).length ≤ 36 := by
  have := zL_36 hi hj
  unfold zL
  rw [List.length_append]
  show _ + (zL2 A j).length ≤ 36
  unfold zL2
  rw [call_l]
  exact this
theorem zL_at {A : mm_M} (hi : iv A) {j e a b : Nat} (hj : j < a_nl A) (h : (zL A j)[e]? = some (a, b)) : (a < a_np A ∧ b < a_np A) ∧ (0 < zg A a b → (zC A j).us a b = true) ∧ ((zL1 A j).length ≤ e ↔ ¬ (zC A j).lo b = true) := by
  have n6 := hi.1.nl
  have us : z_w A a 1 = nI j → z_may A a b = true → 0 < zg A a b → (zC A j).us a b = true := fun q1 q2 q3 => by
    show (decide (z_w A a 1 = nI j) && (z_may A a b && decide (0 < zg A a b))) = true
    simp only [Bool.and_eq_true, decide_eq_true_eq]
    exact ⟨q1, q2, q3⟩
  have lo : (zC A j).lo b = true ↔ (z_w A b 1).toInt < j := decide_eq_true_iff
  unfold zL at h
  by_cases q : e < (zL1 A j).length
  · rw [List.getElem?_append_left q] at h
    have m := (call_m (a_np A)).mp (List.mem_of_getElem? h)
    have z := zP_i m.2.2
    refine ⟨⟨m.1, m.2.1⟩, us z.1 z.2.2, ?_⟩
    rw [lo, z.2.1, nI_sb (by omega)]
    omega
  · rw [List.getElem?_append_right (by omega)] at h
    have m := (call_m (a_np A)).mp (List.mem_of_getElem? h)
    have z := zP_i m.2.2
    refine ⟨⟨m.1, m.2.1⟩, us z.1 z.2.2, ?_⟩
    rw [lo, z.2.1, nI_pl (by omega)]
    omega
theorem zL_has {A : mm_M} (hi : iv A) {j a b : Nat} (hj : j < a_nl A) (h : (zC A j).us a b = true) : ∃ e : Nat, (zL A j)[e]? = some (a, b) := by
  have n6 := hi.1.nl
  obtain ⟨h1, h2, h3⟩ := zC_us h
  obtain ⟨m1, m2, -, m4⟩ := z_may_i hi h2
  rw [h1, mm_ti (by omega)] at m4
  apply List.getElem?_of_mem
  unfold zL
  rw [List.mem_append]
  rcases m4 with m4 | m4
  · exact Or.inl ((call_m (a_np A)).mpr ⟨m1, m2, zP_t h1 (mm_ii (by rw [nI_sb (by omega)]; omega)) h2⟩)
  · exact Or.inr ((call_m (a_np A)).mpr ⟨m1, m2, zP_t h1 (mm_ii (by rw [nI_pl (by omega)]; omega)) h2⟩)
theorem c_X1_court8 {l : Launch} {G : mm_G} {d : Nat} {M : mm_M} {Q : mm_T → mm_M → Prop} {C : mcx} (hC : c_ok C) {L : List (Nat × Nat)} {fa most : Nat} (hm : most ≤ 6) (hs : cst C M L fa most) (hsn : snd_ C most (wd M)) (h : ∀ M1, (∀ c, c ≠ 30 → M1 c = M c) → snd_ C most (wd M1) → allc C most L f0 0 (wd M1) → Q T0 M1) : mm_met l G (d + 8) k_X1_court [.ref 27, .int 0, .int 0, .int 0, .int 0, .int 0] T0 M (mm_pv Q) := by
  rw [show d + 8 = d + (6 - most) + most + 2 by omega]
  exact c_X1_court hC hm most _ M Q 0 0 0 0 0 f0 0 hs ms_f0 (by rw [sz_f0]; omega) rfl rfl (by omega) tkn_f0 lf_f0.symm rf_f0.symm hsn (fun M1 a b _ c => h M1 a b c)

set_option maxHeartbeats 4000000 in
theorem w_X1_search {l : Launch} {G : mm_G} {d : Nat} {M : mm_M} {Q : mm_T → mm_M → Prop} {A : mm_M} (hi : iv A) (hf : fr A M) {j : Nat} (hj : j < a_nl A) {x m : Int32} (hc : crep M 31 32 33 (zL A j)) (h : ∀ Mi, (∀ c, c ≠ 28 → c ≠ 29 → Mi c = M c) → (∀ i a b, (zL A j)[i]? = some (a, b) → Mi 28 i = zgi A a b ∧ Mi 29 i = sbt a ||| sbt b) → mm_wp l G (d + 9) k_X1_search (mm_pv Q) 143 [.ref 27, .int x, .int m, .int (nI (zL A j).length)] [] T0 Mi 0 0) : ∀ (z e : Nat) (Mi : mm_M), (zL A j).length - e ≤ z → e ≤ (zL A j).length → (∀ c, c ≠ 28 → c ≠ 29 → Mi c = M c) → (∀ i a b, i < e → (zL A j)[i]? = some (a, b) → Mi 28 i = zgi A a b ∧ Mi 29 i = sbt a ||| sbt b) → mm_wp l G (d + 9) k_X1_search (mm_pv Q) 92 [.ref 27, .int x, .int m, .int (nI e)] [] T0 Mi 0 0 := by
  have h36 := zL_len hi hj
  have hni : (nI (zL A j).length).toInt = (zL A j).length := mm_ti (by omega)
  intro z
  induction z using Nat.strongRecOn with | _ z ih => ?_
  intro e Mi hze hen ko S
  have hei : (nI e).toInt = e := mm_ti (by omega)
  have fi : fr A Mi := hf.kk (fun c q => ko c (by omega) (by omega))
  have ci : crep Mi 31 32 33 (zL A j) := hc.of (by rw [ko 31 (by decide) (by decide)]) (ko 32 (by decide) (by decide)) (ko 33 (by decide) (by decide))
  refine mm_iload_3 93 dX1_search_92 rfl ?_
  refine mm_aload_0 94 dX1_search_93 rfl ?_
  refine mm_getR 97 dX1_search_94 f_X1_46 rfl t_27 rfl ?_
  refine mm_cV0i 100 dX1_search_97 v_X1_75 rfl t_31 (by decide) rfl rfl (Nat.le_of_ble_eq_true rfl) ⟨rfl, rfl⟩ ⟨Nat.zero_le _, Nat.zero_le _⟩ (c_X0_number t_31 t_32 t_33 (fun r1 e1 => ?_))
  rw [e1, ci.1]
  refine mm_ic_ge 143 103 dX1_search_100 (by decide) rfl (fun h2 => ?_) (fun h2 => ?_)
  · have hz2 : e = (zL A j).length := by (try simp only [hei, hni, Int32.lt_iff_toInt_lt, Int32.le_iff_toInt_le, ← Int32.toInt_inj, vp_in_iff, Int32.reduceToInt, mm_t1, mm_t2, mm_t3, mm_t4, mm_t10] at h2); omega
    rw [hz2]
    exact h Mi ko (fun i a b q => S i a b (by have := (List.getElem?_eq_some_iff.mp q).1; omega) q)
  · have hlt : e < (zL A j).length := by (try simp only [hei, hni, Int32.lt_iff_toInt_lt, Int32.le_iff_toInt_le, ← Int32.toInt_inj, vp_in_iff, Int32.reduceToInt, mm_t1, mm_t2, mm_t3, mm_t4, mm_t10] at h2); omega
    obtain ⟨⟨a, b⟩, hab2⟩ : ∃ q, (zL A j)[e]? = some q := ⟨_, List.getElem?_eq_getElem hlt⟩
    have at_ := zL_at hi hj hab2
    refine mm_iload_3 104 dX1_search_103 rfl ?_
    refine mm_bipush 106 36 dX1_search_104 rfl (by decide) ?_
    refine mm_ic_ge 143 109 dX1_search_106 (by decide) rfl (fun h3 => absurd h3 (by rw [mm_le, hei]; simp only [Int32.reduceToInt]; omega)) (fun h3 => ?_)
    refine mm_aload_0 110 dX1_search_109 rfl ?_
    refine mm_getR 113 dX1_search_110 f_X1_9 rfl t_27 rfl ?_
    refine mm_iload_3 114 dX1_search_113 rfl ?_
    refine mm_aload_0 115 dX1_search_114 rfl ?_
    refine mm_getR 118 dX1_search_115 f_X1_46 rfl t_27 rfl ?_
    refine mm_iload_3 119 dX1_search_118 rfl ?_
    refine mm_cV1i 122 dX1_search_119 v_X1_79 rfl t_31 (by decide) rfl rfl (Nat.le_of_ble_eq_true rfl) ⟨rfl, rfl⟩ ⟨Nat.zero_le _, Nat.zero_le _⟩ (c_X0_differenceOf t_31 t_32 t_33 hi fi ci h36 rfl hab2 at_.1.1 at_.1.2 (fun r4 e4 => ?_))
    refine mm_iastoren 123 (e) dX1_search_122 rfl t_28 (by decide) (rfl) (by omega) ?_
    refine mm_aload_0 124 dX1_search_123 rfl ?_
    refine mm_getR 127 dX1_search_124 f_X1_15 rfl t_27 rfl ?_
    refine mm_iload_3 128 dX1_search_127 rfl ?_
    refine mm_aload_0 129 dX1_search_128 rfl ?_
    refine mm_getR 132 dX1_search_129 f_X1_46 rfl t_27 rfl ?_
    refine mm_iload_3 133 dX1_search_132 rfl ?_
    refine mm_cV1i 136 dX1_search_133 v_X1_82 rfl t_31 (by decide) rfl rfl (Nat.le_of_ble_eq_true rfl) ⟨rfl, rfl⟩ ⟨Nat.zero_le _, Nat.zero_le _⟩ (c_X0_bitsOf t_31 t_32 t_33 (ci.of (by rw [mm_upn _ _ _ (by decide)]) (mm_upn _ _ _ (by decide)) (mm_upn _ _ _ (by decide))) h36 rfl hab2 (fun r5 e5 => ?_))
    refine mm_iastoren 137 (e) dX1_search_136 rfl t_29 (by decide) (rfl) (by omega) ?_
    refine mm_iinc_3 140 1 dX1_search_137 rfl (by decide) rfl ?_
    refine mm_goto 92 dX1_search_140 (by decide) ?_
    rw [nI_1, e4, e5]
    refine ih ((zL A j).length - (e + 1)) (by omega) (e + 1) _ (Nat.le_refl _) (by omega) (fun c q1 q2 => by rw [mm_upn _ _ _ q2, mm_upn _ _ _ q1]; exact ko c q1 q2) (fun i a2 b2 q1 q2 => ?_)
    rw [mm_upn _ _ _ (show (28 : Nat) ≠ 29 by decide), mm_upc, mm_upc, mm_upn _ _ _ (show (29 : Nat) ≠ 28 by decide)]
    by_cases z2 : i = e
    · subst z2
      rw [hab2] at q2
      cases q2
      simp only [upd, if_true]
      exact ⟨trivial, trivial⟩
    · simp only [upd, if_neg z2]
      exact S i a2 b2 (by omega) q2

set_option maxHeartbeats 4000000 in
theorem w_X1_search2 {l : Launch} {G : mm_G} {d : Nat} {M : mm_M} {Q : mm_T → mm_M → Prop} {A : mm_M} (hi : iv A) {j k : Nat} (hj : j < a_nl A) (hk : k ≤ 6) {x m y : Int32} {Mi : mm_M} (q0 : kk M Mi) (q5 : (Mi 27 5).toInt = (zC A j).ow) (q6 : (Mi 27 6).toInt = (zC A j).wb) (q7 : (Mi 27 7).toInt = (zC A j).wa) (q8 : Mi 27 8 = nI (zL1 A j).length) (q9 : Mi 27 9 = nI k) (qc : crep Mi 31 32 33 (zL A j)) (S : ∀ i a b, (zL A j)[i]? = some (a, b) → Mi 28 i = zgi A a b ∧ Mi 29 i = sbt a ||| sbt b) (h : ∀ M1, kk M M1 → snd_ (zC A j) k (wd M1) → (∀ g, ms (zC A j) g → sz g ≤ k → cvd (zC A j) (wd M1) g) → Q T0 M1) : mm_wp l G (d + 9) k_X1_search (mm_pv Q) 143 [.ref 27, .int x, .int m, .int y] [] T0 Mi 0 0 := by
  refine mm_aload_0 144 dX1_search_143 rfl ?_
  refine mm_getR 147 dX1_search_144 f_X1_18 rfl t_27 rfl ?_
  refine mm_iconst 148 (-1) dX1_search_147 rfl (by decide) ?_
  refine mm_cS2v 151 dX1_search_148 v_X1_85 rfl (Nat.le_of_ble_eq_true rfl) ⟨rfl, rfl⟩ ⟨Nat.zero_le _, Nat.zero_le _⟩ (c_J7_fill t_30 (by decide) ?_)
  have zo : ∀ c, c ≠ 30 → zfill Mi 30 7 (-1) c = Mi c := fun c q => va_upn _ _ q
  have cs : cst (zC A j) (zfill Mi 30 7 (-1)) (zL A j) (zL1 A j).length k := by
    refine cst.of (M := Mi) ⟨⟨q5, q6, q7⟩, q8, q9, qc, zL_len hi hj, ?_, fun e a b q => ?_⟩ zo
    · have := zL_len hi hj
      unfold zL at this
      rw [List.length_append] at this
      omega
    · have n12 := hi.1.np
      obtain ⟨a1, a2, a3⟩ := zL_at hi hj q
      exact ⟨⟨by omega, by omega⟩, by rw [(S e a b q).1]; rfl, (S e a b q).2, a2, a3⟩
  have sn : snd_ (zC A j) k (wd (zfill Mi 30 7 (-1))) := fun i hi2 => Or.inl (by
    unfold wd zfill
    simp only [va_up, if_true]
    rw [if_pos (by omega)]
    rfl)
  refine mm_aload_0 152 dX1_search_151 rfl ?_
  refine mm_iconst 153 0 dX1_search_152 rfl (by decide) ?_
  refine mm_iconst 154 0 dX1_search_153 rfl (by decide) ?_
  refine mm_iconst 155 0 dX1_search_154 rfl (by decide) ?_
  refine mm_iconst 156 0 dX1_search_155 rfl (by decide) ?_
  refine mm_iconst 157 0 dX1_search_156 rfl (by decide) ?_
  refine mm_cS6v 160 dX1_search_157 v_X1_91 rfl (Nat.le_of_ble_eq_true rfl) ⟨rfl, rfl⟩ ⟨Nat.zero_le _, Nat.zero_le _⟩ (c_X1_court8 (zC_ok hi hj) hk cs sn (fun M1 a1 a2 a3 => ?_))
  refine mm_vret dX1_search_160 rfl ⟨rfl, Nat.zero_le _⟩ ?_
  exact h M1 (fun c q => (a1 c (by omega)).trans ((zo c (by omega)).trans (q0 c q))) a2 (fun g m z => allc_0 a3 (fun a b u => zL_has hi hj u) m z)

set_option maxHeartbeats 4000000 in
theorem c_X1_search {l : Launch} {G : mm_G} {d : Nat} {M : mm_M} {Q : mm_T → mm_M → Prop} {A : mm_M} (hi : iv A) (hf : fr A M) {B : Nat} (hw : v_w M (zE A) (a_nl A) (a_np A) B) {j k : Nat} (hj : j < a_nl A) (hk : k ≤ 6) {x m : Int32} (hx : x = nI j) (hm : m = nI k) (h : ∀ M1, kk M M1 → snd_ (zC A j) k (wd M1) → (∀ g, ms (zC A j) g → sz g ≤ k → cvd (zC A j) (wd M1) g) → Q T0 M1) : mm_met l G (d + 9) k_X1_search [.ref 27, .int x, .int m] T0 M (mm_pv Q) := by
  subst hx
  subst hm
  have n6 := hi.1.nl
  have hji : (nI j).toInt = j := mm_ti (by omega)
  have hd := hf.vd hi
  have hfin := fun (Mi : mm_M) q0 q5 q6 q7 q8 q9 qc S => w_X1_search2 (l := l) (G := G) (d := d) (x := nI j) (m := nI k) (y := nI (zL A j).length) (M := M) (Mi := Mi) hi hj hk q0 q5 q6 q7 q8 q9 qc S h
  refine mm_enter 1 [.ref 27, .int (nI j), .int (nI k), .double 0] o_X1_search rfl rfl ?_
  refine mm_aload_0 1 dX1_search_0 rfl ?_
  refine mm_aload_0 2 dX1_search_1 rfl ?_
  refine mm_getR 5 dX1_search_2 f_X1_37 rfl t_27 rfl ?_
  refine mm_iload_1 6 dX1_search_5 rfl ?_
  refine mm_cV1i 9 dX1_search_6 v_X1_60 rfl t_20 (by decide) rfl rfl (Nat.le_of_ble_eq_true rfl) ⟨rfl, rfl⟩ ⟨Nat.zero_le _, Nat.zero_le _⟩ (c_X10_widthOf (by first | (rw [hd.1.li]; omega) | (rw [mm_upn _ _ _ (by decide), hd.1.li]; omega) | (rw [mm_upn _ _ _ (by decide), mm_upn _ _ _ (by decide), hd.1.li]; omega)) (fun r1 e1 => ?_))
  refine mm_putI 12 dX1_search_9 p_X1_21 ⟨rfl, rfl⟩ rfl t_27 rfl ?_
  refine mm_aload_0 13 dX1_search_12 rfl ?_
  refine mm_aload_0 14 dX1_search_13 rfl ?_
  refine mm_getR 17 dX1_search_14 f_X1_37 rfl t_27 rfl ?_
  refine mm_iload_1 18 dX1_search_17 rfl ?_
  refine mm_iconst 19 1 dX1_search_18 rfl (by decide) ?_
  refine mm_isub 20 dX1_search_19 rfl ?_
  refine mm_cV1i 23 dX1_search_20 v_X1_60 rfl t_20 (by decide) rfl rfl (Nat.le_of_ble_eq_true rfl) ⟨rfl, rfl⟩ ⟨Nat.zero_le _, Nat.zero_le _⟩ (c_X10_widthOf (by first | (rw [hd.1.li]; omega) | (rw [mm_upn _ _ _ (by decide), hd.1.li]; omega) | (rw [mm_upn _ _ _ (by decide), mm_upn _ _ _ (by decide), hd.1.li]; omega)) (fun r2 e2 => ?_))
  refine mm_putI 26 dX1_search_23 p_X1_25 ⟨rfl, rfl⟩ rfl t_27 rfl ?_
  refine mm_aload_0 27 dX1_search_26 rfl ?_
  refine mm_aload_0 28 dX1_search_27 rfl ?_
  refine mm_getR 31 dX1_search_28 f_X1_37 rfl t_27 rfl ?_
  refine mm_iload_1 32 dX1_search_31 rfl ?_
  refine mm_iconst 33 1 dX1_search_32 rfl (by decide) ?_
  refine mm_iadd 34 dX1_search_33 rfl ?_
  refine mm_cV1i 37 dX1_search_34 v_X1_60 rfl t_20 (by decide) rfl rfl (Nat.le_of_ble_eq_true rfl) ⟨rfl, rfl⟩ ⟨Nat.zero_le _, Nat.zero_le _⟩ (c_X10_widthOf (by first | (rw [hd.1.li]; omega) | (rw [mm_upn _ _ _ (by decide), hd.1.li]; omega) | (rw [mm_upn _ _ _ (by decide), mm_upn _ _ _ (by decide), hd.1.li]; omega)) (fun r3 e3 => ?_))
  refine mm_putI 40 dX1_search_37 p_X1_28 ⟨rfl, rfl⟩ rfl t_27 rfl ?_
  refine mm_aload_0 41 dX1_search_40 rfl ?_
  refine mm_iload_2 42 dX1_search_41 rfl ?_
  refine mm_bipush 44 6 dX1_search_42 rfl (by decide) ?_
  refine mm_mmin 47 dX1_search_44 j_X1_66 rfl (Nat.le_of_ble_eq_true rfl) ⟨Nat.zero_le _, Nat.zero_le _⟩ ?_
  refine mm_putI 50 dX1_search_47 p_X1_34 ⟨rfl, rfl⟩ rfl t_27 rfl ?_
  refine mm_aload_0 51 dX1_search_50 rfl ?_
  refine mm_getR 54 dX1_search_51 f_X1_46 rfl t_27 rfl ?_
  refine mm_cV0v 57 dX1_search_54 v_X1_69 rfl t_31 (by decide) rfl rfl (Nat.le_of_ble_eq_true rfl) ⟨rfl, rfl⟩ ⟨Nat.zero_le _, Nat.zero_le _⟩ (c_X0_clear t_31 t_32 t_33 ?_)
  have w0 : (r1).toInt = (zC A j).ow := by
    rw [e1]; unfold s_X10_widthOf
    rw [hd.1.li, hji, mm_cn (by omega), if_pos ⟨by omega, by omega⟩, (hw.1 j hj).1]; rfl
  have w1 : (r2).toInt = (zC A j).wb := by
    rw [e2]; unfold s_X10_widthOf
    rw [mm_upn _ _ _ (show (5 : Nat) ≠ 27 by decide), hd.1.li, nI_sb (by omega)]
    show _ = if j = 0 then 0 else (zE A 62 (j - 1)).toInt
    by_cases q : j = 0
    · rw [if_pos q, if_neg (by omega)]; rfl
    · rw [if_neg q, if_pos ⟨by omega, by omega⟩, mm_upn _ _ _ (by decide), show (nI j - 1).toNatClampNeg = j - 1 from by show (nI j - 1).toInt.toNat = _; rw [nI_sb (by omega)]; omega, (hw.1 (j - 1) (by omega)).1]
  have w2 : (r3).toInt = (zC A j).wa := by
    rw [e3]; unfold s_X10_widthOf
    rw [mm_upn _ _ _ (show (5 : Nat) ≠ 27 by decide), mm_upn _ _ _ (show (5 : Nat) ≠ 27 by decide), hd.1.li, nI_pl (by omega)]
    show _ = if j + 1 < a_nl A then (zE A 62 (j + 1)).toInt else 0
    by_cases q : j + 1 < a_nl A
    · rw [if_pos q, if_pos ⟨by omega, by omega⟩, mm_upn _ _ _ (by decide), mm_upn _ _ _ (by decide), nI_1, mm_cn (by omega), (hw.1 (j + 1) q).1]
    · rw [if_neg q, if_neg (by omega)]; rfl
  have m6 : (if (6 : Int32) < nI k then (6 : Int32) else nI k) = nI k := by rw [if_neg (by rw [mm_lt, mm_ti (by omega)]; simp only [Int32.reduceToInt]; omega)]
  rw [m6]
  generalize hN0 : mm_up (mm_up (mm_up (mm_up (mm_up M 27 5 r1) 27 6 r2) 27 7 r3) 27 9 (nI k)) 31 4 0 = N0
  have k0 : kk M N0 := by rw [← hN0]; exact ((((kk.rf.up (by decide)).up (by decide)).up (by decide)).up (by decide)).up (by decide)
  have p5 : N0 27 5 = r1 := by rw [← hN0]; simp [mm_up, va_up, upd]
  have p6 : N0 27 6 = r2 := by rw [← hN0]; simp [mm_up, va_up, upd]
  have p7 : N0 27 7 = r3 := by rw [← hN0]; simp [mm_up, va_up, upd]
  have p9 : N0 27 9 = nI k := by rw [← hN0]; simp [mm_up, va_up, upd]
  have cA : crep N0 31 32 33 [] := ⟨by rw [← hN0, mm_upv]; rfl, fun e a b q => absurd q (by simp)⟩
  have fA : fr A N0 := hf.kk k0
  have wA : v_w N0 (zE A) (a_nl A) (a_np A) B := hw.kk k0
  refine mm_aload_0 58 dX1_search_57 rfl ?_
  refine mm_getR 61 dX1_search_58 f_X1_46 rfl t_27 rfl ?_
  refine mm_iload_1 62 dX1_search_61 rfl ?_
  refine mm_iload_1 63 dX1_search_62 rfl ?_
  refine mm_iconst 64 1 dX1_search_63 rfl (by decide) ?_
  refine mm_isub 65 dX1_search_64 rfl ?_
  refine mm_cV2v 68 dX1_search_65 v_X1_72 rfl t_31 (by decide) rfl rfl (Nat.le_of_ble_eq_true rfl) ⟨rfl, rfl⟩ ⟨Nat.zero_le _, Nat.zero_le _⟩ (c_X0_gather t_31 t_32 t_33 (by decide) (by decide) hi fA wA (L := []) (by have := zL_36 hi hj; have e : cn2 (zP A (nI j) (nI j - 1)) (a_np A) (a_np A) = (zL1 A j).length := (call_l (a_np A)).symm; rw [e]; show 0 + _ ≤ 36; omega) cA (fun N1 c1 k1 => ?_))
  refine mm_aload_0 69 dX1_search_68 rfl ?_
  refine mm_aload_0 70 dX1_search_69 rfl ?_
  refine mm_getR 73 dX1_search_70 f_X1_46 rfl t_27 rfl ?_
  refine mm_cV0i 76 dX1_search_73 v_X1_75 rfl t_31 (by decide) rfl rfl (Nat.le_of_ble_eq_true rfl) ⟨rfl, rfl⟩ ⟨Nat.zero_le _, Nat.zero_le _⟩ (c_X0_number t_31 t_32 t_33 (fun r4 e4 => ?_))
  refine mm_putI 79 dX1_search_76 p_X1_31 ⟨rfl, rfl⟩ rfl t_27 rfl ?_
  rw [e4, c1.1]
  generalize hN3 : mm_up N1 27 8 (nI ([] ++ call_ (zP A (nI j) (nI j - 1)) (a_np A) (a_np A)).length) = N3
  have k3 : kk N1 N3 := by rw [← hN3]; exact kk.rf.up (by decide)
  have fB : fr A N3 := (fA.kk (k1.kk (by decide))).kk k3
  have wB : v_w N3 (zE A) (a_nl A) (a_np A) B := (wA.kk (k1.kk (by decide))).kk k3
  have cB : crep N3 31 32 33 (zL1 A j) := by rw [← hN3]; exact c1.of (by rw [mm_upn _ _ _ (by decide)]) (mm_upn _ _ _ (by decide)) (mm_upn _ _ _ (by decide))
  have p8 : N3 27 8 = nI (zL1 A j).length := by rw [← hN3, mm_upv]; rfl
  have pp : ∀ f, f ≠ 8 → N3 27 f = N0 27 f := fun f q => by rw [← hN3, mm_upc]; simp only [upd, if_neg q]; rw [k1 27 (by decide) (by decide) (by decide)]
  refine mm_aload_0 80 dX1_search_79 rfl ?_
  refine mm_getR 83 dX1_search_80 f_X1_46 rfl t_27 rfl ?_
  refine mm_iload_1 84 dX1_search_83 rfl ?_
  refine mm_iload_1 85 dX1_search_84 rfl ?_
  refine mm_iconst 86 1 dX1_search_85 rfl (by decide) ?_
  refine mm_iadd 87 dX1_search_86 rfl ?_
  refine mm_cV2v 90 dX1_search_87 v_X1_72 rfl t_31 (by decide) rfl rfl (Nat.le_of_ble_eq_true rfl) ⟨rfl, rfl⟩ ⟨Nat.zero_le _, Nat.zero_le _⟩ (c_X0_gather t_31 t_32 t_33 (by decide) (by decide) hi fB wB (L := zL1 A j) (zL_36 hi hj) cB (fun N2 c2 k2 => ?_))
  refine mm_iconst 91 0 dX1_search_90 rfl (by decide) ?_
  refine mm_istore_3 92 dX1_search_91 rfl rfl ?_
  have fC : fr A N2 := fB.kk (k2.kk (by decide))
  refine w_X1_search hi fC hj c2 (fun Mi ko S => ?_) (zL A j).length 0 N2 (by omega) (by omega) (fun _ _ _ => rfl) (fun i a b q _ => by omega)
  have kA : kk M Mi := ((k0.tr (k1.kk (by decide))).tr k3).tr ((k2.kk (by decide)).tr (fun c q => ko c (by omega) (by omega)))
  exact hfin Mi kA (by rw [ko 27 (by decide) (by decide), k2 27 (by decide) (by decide) (by decide), pp 5 (by decide), p5]; exact w0) (by rw [ko 27 (by decide) (by decide), k2 27 (by decide) (by decide) (by decide), pp 6 (by decide), p6]; exact w1) (by rw [ko 27 (by decide) (by decide), k2 27 (by decide) (by decide) (by decide), pp 7 (by decide), p7]; exact w2) (by rw [ko 27 (by decide) (by decide), k2 27 (by decide) (by decide) (by decide), p8]) (by rw [ko 27 (by decide) (by decide), k2 27 (by decide) (by decide) (by decide), pp 9 (by decide), p9]) (c2.of (by rw [ko 31 (by decide) (by decide)]) (ko 32 (by decide) (by decide)) (ko 33 (by decide) (by decide))) S

