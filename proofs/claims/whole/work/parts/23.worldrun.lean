def h_kp (X Y : mm_M) : Prop := ∀ c, (c < 20 ∨ 26 < c) → Y c = X c
theorem h_kp.rf {X : mm_M} : h_kp X X := fun _ _ => rfl
theorem h_kp.up {X Y : mm_M} (h : h_kp X Y) {c a : Nat} {v : Int32} (hc : 20 ≤ c ∧ c ≤ 26) : h_kp X (mm_up Y c a v) := fun c' h1 => by rw [mm_upn _ _ _ (by omega)]; exact h c' h1
theorem h_kp.tr {X Y Z : mm_M} (h : h_kp X Y) (h2 : h_kp Y Z) : h_kp X Z := fun c a => (h2 c a).trans (h c a)
theorem h_kp.lo {X Y : mm_M} (h : h_kp X Y) : ∀ c, c < 20 → Y c = X c := fun c hc => h c (Or.inl hc)
theorem h_bnd_kp {X Y : mm_M} (h : h_kp X Y) {a : Nat} {y s t : Int32} : h_kp X (h_bnd Y a y s t) := by
  unfold h_bnd
  exact ((h.up (by decide)).up (by decide)).up (by decide)
theorem h_mar_kp {X : mm_M} {a b : Nat} {dd : Int32} : h_kp X (h_mar X a b dd) := by
  unfold h_mar
  exact h_bnd_kp (h_bnd_kp (((h_kp.rf.up (by decide)).up (by decide)).up (by decide)))
theorem h_dx_kp {X Y : mm_M} (h : h_kp X Y) {a : Nat} : h_kp X (h_dx Y a) := by
  unfold h_dx
  exact ((h.up (by decide)).up (by decide)).up (by decide)
theorem h_do_kp {X : mm_M} {e : Nat} : h_kp X (h_do X e) := by
  unfold h_do
  split
  · exact h_mar_kp
  · split
    · unfold h_par
      exact ((h_dx_kp h_kp.rf).up (by decide)).up (by decide)
    · unfold h_die
      split
      · exact h_kp.rf.up (by decide)
      · exact ((h_dx_kp (h_kp.rf.up (by decide))).up (by decide)).up (by decide)
theorem h_no_kp {X : mm_M} {e : Nat} : h_kp X (h_no X e) := by
  unfold h_no
  split
  · exact (h_kp.rf.up (by decide)).up (by decide)
  · exact h_kp.rf.up (by decide)
theorem h_one_kp {X : mm_M} {np e : Nat} : h_kp X (h_one X np e) := by
  unfold h_one
  split
  · exact (h_kp.rf.up (by decide)).tr h_do_kp
  · exact (h_kp.rf.up (by decide)).tr h_no_kp
theorem h_wf.u22 {X : mm_M} {nl np a : Nat} (h : h_wf X nl np) : h_wf (mm_up X 22 a (-1)) nl np := by
  intro p hp hn
  rw [mm_upc] at hn ⊢
  rw [mm_upn _ _ _ (by decide)]
  by_cases e : p = a
  · simp only [upd, if_pos e] at hn; exact absurd trivial hn
  · simp only [upd, if_neg e] at hn ⊢; exact h p hp hn
theorem h_wf.bnd {X : mm_M} {nl np a b t : Nat} {s w : Int32} (h : h_wf X nl np) (hb : b < np) (ht : t < nl) (hw : w = nI t) : h_wf (h_bnd X a (nI b) s w) nl np := by
  intro p hp hn
  unfold h_bnd at hn ⊢
  rw [mm_upn _ _ _ (by decide), mm_upn _ _ _ (by decide), mm_upc] at hn
  rw [mm_upn _ _ _ (show (22:Nat) ≠ 26 by decide), mm_upn _ _ _ (show (22:Nat) ≠ 25 by decide), mm_upc, mm_upc, mm_upn _ _ _ (show (26:Nat) ≠ 25 by decide), mm_upn _ _ _ (show (26:Nat) ≠ 22 by decide)]
  by_cases e : p = a
  · simp only [upd, if_pos e] at hn ⊢; exact ⟨⟨b, hb, rfl⟩, t, ht, hw⟩
  · simp only [upd, if_neg e] at hn ⊢; exact h p hp hn
theorem h_wf.dx {X : mm_M} {nl np a : Nat} (h : h_wf X nl np) : h_wf (h_dx X a) nl np := by
  unfold h_dx
  exact h_wf.u22 (h_wf.u22 (h.kp (mm_upn _ _ _ (by decide)) (mm_upn _ _ _ (by decide))))
theorem h_wf.uo {X : mm_M} {nl np c a : Nat} {v : Int32} (h : h_wf X nl np) (hc : c ≠ 22 ∧ c ≠ 26) : h_wf (mm_up X c a v) nl np := h.kp (mm_upn _ _ _ (Ne.symm hc.1)) (mm_upn _ _ _ (Ne.symm hc.2))
theorem h_mar_wf {X : mm_M} {nl np ne a b : Nat} {dd : Int32} (hk : h_ok X nl np ne) (h : h_wf X nl np) (ha : a < np) (hb : b < np) : h_wf (h_mar X a b dd) nl np := by
  have hA := hk.hom ha
  have hB := hk.hom hb
  have hT : ∀ g : Int32, ∃ t, t < nl ∧ (if g.toInt ≤ 0 then X 9 b else X 9 a) = nI t := fun g => by
    split
    · exact ⟨_, hB.2.1, hB.1⟩
    · exact ⟨_, hA.2.1, hA.1⟩
  obtain ⟨t, ht, hw⟩ := hT (h_gain dd (X 21 (h_hom X a)) (X 21 (h_hom X b)))
  unfold h_mar
  exact h_wf.bnd (h_wf.bnd (((h.uo (by decide)).uo (by decide)).uo (by decide)) hb ht hw) ha ht hw
theorem h_do_wf {X : mm_M} {nl np ne e : Nat} (hk : h_ok X nl np ne) (h : h_wf X nl np) (hl : h_law X np e = true) : h_wf (h_do X e) nl np := by
  unfold h_law at hl
  unfold h_do
  split
  · rename_i h0
    rw [if_pos h0] at hl
    have hnp := h_match_np (h_mm_match hl)
    rw [hk.pi] at hnp
    exact h_mar_wf hk h (by omega) (by omega)
  · split
    · unfold h_par
      exact (h.dx.uo (by decide)).uo (by decide)
    · unfold h_die
      split
      · exact h.uo (by decide)
      · exact ((h_wf.dx (h.uo (by decide))).uo (by decide)).uo (by decide)
theorem h_one_wf {X : mm_M} {nl np ne e : Nat} (hk : h_ok X nl np ne) (h : h_wf X nl np) : h_wf (h_one X np e) nl np := by
  unfold h_one
  split
  · rename_i hl
    exact h_do_wf (hk.kp (fun c hc => mm_upn _ _ _ (by omega))) (h.uo (by decide)) hl
  · unfold h_no
    split
    · exact ((h.uo (by decide)).uo (by decide)).uo (by decide)
    · exact (h.uo (by decide)).uo (by decide)
def h_b0 (X : mm_M) : mm_M := va_up (va_up (va_up (va_up X 21 (fun j => if j < 6 then s_X3_toldWidth X (nI j) else X 21 j)) 22 (fun j => if j < 12 then -1 else X 22 j)) 23 (fun j => if j < 12 then 0 else X 23 j)) 24 (fun j => if j < 12 then 1 else X 24 j)
def h_beg (X : mm_M) : mm_M := mm_up (mm_up (mm_up (mm_up (h_b0 X) 20 10 0) 20 11 0) 20 12 0) 20 13 (-1)
theorem h_b0_eq {X Y : mm_M} (h1 : ∀ j, Y 21 j = if j < 6 then s_X3_toldWidth X (nI j) else X 21 j) (h2 : ∀ j, Y 22 j = if j < 12 then -1 else X 22 j) (h3 : ∀ j, Y 23 j = if j < 12 then 0 else X 23 j) (h4 : ∀ j, Y 24 j = if j < 12 then 1 else X 24 j) (ho : ∀ c, c < 21 ∨ 24 < c → Y c = X c) : Y = h_b0 X := by
  funext c j
  unfold h_b0
  by_cases e4 : c = 24
  · subst e4; simp [va_up]; exact h4 j
  by_cases e3 : c = 23
  · subst e3; simp [va_up]; exact h3 j
  by_cases e2 : c = 22
  · subst e2; simp [va_up]; exact h2 j
  by_cases e1 : c = 21
  · subst e1; simp [va_up]; exact h1 j
  simp [va_up, e4, e3, e2, e1]
  rw [ho c (by omega)]
theorem h_beg_kp {X : mm_M} : h_kp X (h_beg X) := by
  unfold h_beg
  refine h_kp.up (h_kp.up (h_kp.up (h_kp.up ?_ (by decide)) (by decide)) (by decide)) (by decide)
  intro c hc
  unfold h_b0
  simp [va_up, show c ≠ 21 by omega, show c ≠ 22 by omega, show c ≠ 23 by omega, show c ≠ 24 by omega]
theorem h_beg_wf {X : mm_M} {nl np : Nat} (hn : np ≤ 12) : h_wf (h_beg X) nl np := by
  intro p hp hq
  exfalso
  apply hq
  unfold h_beg h_b0
  simp [mm_up, va_up, show p < 12 by omega]
def h_run (X : mm_M) (np : Nat) (y : Int32) : Nat → mm_M
  | 0 => h_beg X
  | k + 1 => if nI k = y then h_run X np y k else h_one (h_run X np y k) np k
theorem h_run_ok {X : mm_M} {nl np ne : Nat} (hk : h_ok X nl np ne) {y : Int32} : ∀ k, h_kp X (h_run X np y k) ∧ h_wf (h_run X np y k) nl np
  | 0 => ⟨h_beg_kp, h_beg_wf hk.2.1⟩
  | k + 1 => by
    obtain ⟨h1, h2⟩ := h_run_ok hk (y := y) k
    unfold h_run
    split
    · exact ⟨h1, h2⟩
    · exact ⟨h1.tr h_one_kp, h_one_wf (hk.kp h1.lo) h2⟩

set_option maxHeartbeats 4000000 in
theorem w_X10_begin2 {l : Launch} {G : mm_G} {d : Nat} {M : mm_M} {Q : mm_T → mm_M → Prop} (h : Q T0 (h_beg M)) : ∀ (k i : Nat) (Mi : mm_M), 12 - i ≤ k → i ≤ 12 → (∀ j, Mi 21 j = if j < 6 then s_X3_toldWidth M (nI j) else M 21 j) → (∀ j, Mi 22 j = if j < i then -1 else M 22 j) → (∀ j, Mi 23 j = if j < i then 0 else M 23 j) → (∀ j, Mi 24 j = if j < i then 1 else M 24 j) → (∀ c, c < 21 ∨ 24 < c → Mi c = M c) → mm_wp l G d k_X10_begin (mm_pv Q) 30 [.ref 20, .int (nI i)] [] T0 Mi 0 0 := by
  intro k
  induction k using Nat.strongRecOn with | _ k ih => ?_
  intro i Mi hki hi h2 h3 h4 h5 ho
  have hii : (nI i).toInt = i := mm_ti (by omega)
  refine mm_iload_1 31 dX10_begin_30 rfl ?_
  refine mm_bipush 33 12 dX10_begin_31 rfl (by decide) ?_
  refine mm_ic_ge 63 36 dX10_begin_33 (by decide) rfl (fun h1 => ?_) (fun h1 => ?_)
  · refine mm_aload_0 64 dX10_begin_63 rfl ?_
    refine mm_iconst 65 0 dX10_begin_64 rfl (by decide) ?_
    refine mm_putI 68 dX10_begin_65 p_X10_31 ⟨rfl, rfl⟩ rfl t_20 rfl ?_
    refine mm_aload_0 69 dX10_begin_68 rfl ?_
    refine mm_iconst 70 0 dX10_begin_69 rfl (by decide) ?_
    refine mm_putI 73 dX10_begin_70 p_X10_35 ⟨rfl, rfl⟩ rfl t_20 rfl ?_
    refine mm_aload_0 74 dX10_begin_73 rfl ?_
    refine mm_iconst 75 0 dX10_begin_74 rfl (by decide) ?_
    refine mm_putI 78 dX10_begin_75 p_X10_38 ⟨rfl, rfl⟩ rfl t_20 rfl ?_
    refine mm_aload_0 79 dX10_begin_78 rfl ?_
    refine mm_iconst 80 (-1) dX10_begin_79 rfl (by decide) ?_
    refine mm_putI 83 dX10_begin_80 p_X10_41 ⟨rfl, rfl⟩ rfl t_20 rfl ?_
    refine mm_vret dX10_begin_83 rfl ⟨rfl, Nat.zero_le _⟩ ?_
    have hz : i = 12 := by (try simp only [hii, Int32.lt_iff_toInt_lt, Int32.le_iff_toInt_le, ← Int32.toInt_inj, vp_in_iff, Int32.reduceToInt, mm_t1, mm_t2, mm_t3, mm_t4, mm_t10] at h1); omega
    subst hz
    rw [h_b0_eq h2 h3 h4 h5 ho]
    exact h
  · have hlt : i < 12 := by (try simp only [hii, Int32.lt_iff_toInt_lt, Int32.le_iff_toInt_le, ← Int32.toInt_inj, vp_in_iff, Int32.reduceToInt, mm_t1, mm_t2, mm_t3, mm_t4, mm_t10] at h1); omega
    refine mm_aload_0 37 dX10_begin_36 rfl ?_
    refine mm_getR 40 dX10_begin_37 f_X10_15 rfl t_20 rfl ?_
    refine mm_iload_1 41 dX10_begin_40 rfl ?_
    refine mm_iconst 42 (-1) dX10_begin_41 rfl (by decide) ?_
    refine mm_iastoren 43 (i) dX10_begin_42 rfl t_22 (by decide) (rfl) (by omega) ?_
    refine mm_aload_0 44 dX10_begin_43 rfl ?_
    refine mm_getR 47 dX10_begin_44 f_X10_18 rfl t_20 rfl ?_
    refine mm_iload_1 48 dX10_begin_47 rfl ?_
    refine mm_iconst 49 0 dX10_begin_48 rfl (by decide) ?_
    refine mm_iastoren 50 (i) dX10_begin_49 rfl t_23 (by decide) (rfl) (by omega) ?_
    refine mm_aload_0 51 dX10_begin_50 rfl ?_
    refine mm_getR 54 dX10_begin_51 f_X10_21 rfl t_20 rfl ?_
    refine mm_iload_1 55 dX10_begin_54 rfl ?_
    refine mm_iconst 56 1 dX10_begin_55 rfl (by decide) ?_
    refine mm_bastoren 57 (i) dX10_begin_56 rfl t_24 (by decide) (rfl) (by omega) rfl ?_
    refine mm_iinc_1 60 1 dX10_begin_57 rfl (by decide) rfl ?_
    refine mm_goto 30 dX10_begin_60 (by decide) ?_
    rw [nI_1]
    refine ih (12 - (i + 1)) (by omega) (i + 1) _ (Nat.le_refl _) (by omega) (fun j => ?_) (fun j => ?_) (fun j => ?_) (fun j => ?_) (fun c hc => ?_)
    · simp [mm_up, va_up, h2 j]
    · simp only [mm_up, va_up, upd]
      simp
      exact g_up1 h3 j
    · simp only [mm_up, va_up, upd]
      simp
      exact g_up1 h4 j
    · simp only [mm_up, va_up, upd]
      simp
      exact g_up1 h5 j
    · rw [mm_upn _ _ _ (by omega), mm_upn _ _ _ (by omega), mm_upn _ _ _ (by omega)]
      exact ho c hc

set_option maxHeartbeats 4000000 in
theorem w_X10_begin1 {l : Launch} {G : mm_G} {d : Nat} {M : mm_M} {Q : mm_T → mm_M → Prop} (h6 : (M 5 1).toInt ≤ 6) (h : Q T0 (h_beg M)) : ∀ (k i : Nat) (Mi : mm_M), 6 - i ≤ k → i ≤ 6 → (∀ j, Mi 21 j = if j < i then s_X3_toldWidth M (nI j) else M 21 j) → (∀ c, c ≠ 21 → Mi c = M c) → mm_wp l G (d + 2) k_X10_begin (mm_pv Q) 2 [.ref 20, .int (nI i)] [] T0 Mi 0 0 := by
  intro k
  induction k using Nat.strongRecOn with | _ k ih => ?_
  intro i Mi hki hi h2 ho
  have hii : (nI i).toInt = i := mm_ti (by omega)
  refine mm_iload_1 3 dX10_begin_2 rfl ?_
  refine mm_bipush 5 6 dX10_begin_3 rfl (by decide) ?_
  refine mm_ic_ge 28 8 dX10_begin_5 (by decide) rfl (fun h1 => ?_) (fun h1 => ?_)
  · have hz : i = 6 := by (try simp only [hii, Int32.lt_iff_toInt_lt, Int32.le_iff_toInt_le, ← Int32.toInt_inj, vp_in_iff, Int32.reduceToInt, mm_t1, mm_t2, mm_t3, mm_t4, mm_t10] at h1); omega
    refine mm_iconst 29 0 dX10_begin_28 rfl (by decide) ?_
    refine mm_istore_1 30 dX10_begin_29 rfl rfl ?_
    exact w_X10_begin2 h 12 0 Mi (by omega) (by omega) (by rw [hz] at h2; exact h2) (fun j => by rw [ho 22 (by decide)]; rfl) (fun j => by rw [ho 23 (by decide)]; rfl) (fun j => by rw [ho 24 (by decide)]; rfl) (fun c hc => ho c (by omega))
  · have hlt : i < 6 := by (try simp only [hii, Int32.lt_iff_toInt_lt, Int32.le_iff_toInt_le, ← Int32.toInt_inj, vp_in_iff, Int32.reduceToInt, mm_t1, mm_t2, mm_t3, mm_t4, mm_t10] at h1); omega
    refine mm_aload_0 9 dX10_begin_8 rfl ?_
    refine mm_getR 12 dX10_begin_9 f_X10_9 rfl t_20 rfl ?_
    refine mm_iload_1 13 dX10_begin_12 rfl ?_
    refine mm_aload_0 14 dX10_begin_13 rfl ?_
    refine mm_getR 17 dX10_begin_14 f_X10_44 rfl t_20 rfl ?_
    refine mm_iload_1 18 dX10_begin_17 rfl ?_
    refine mm_cV1i 21 dX10_begin_18 v_X10_94 rfl t_5 (by decide) rfl rfl (Nat.le_of_ble_eq_true rfl) ⟨rfl, rfl⟩ ⟨Nat.zero_le _, Nat.zero_le _⟩ (c_X3_toldWidth (by rw [ho 5 (by decide)]; exact h6) (fun r2 e3 => ?_))
    refine mm_iastoren 22 (i) dX10_begin_21 rfl t_21 (by decide) (rfl) (by omega) ?_
    refine mm_iinc_1 25 1 dX10_begin_22 rfl (by decide) rfl ?_
    refine mm_goto 2 dX10_begin_25 (by decide) ?_
    rw [nI_1]
    refine ih (6 - (i + 1)) (by omega) (i + 1) _ (Nat.le_refl _) (by omega) (fun j => ?_) (fun c hc => ?_)
    · have ev : s_X3_toldWidth Mi (nI i) = s_X3_toldWidth M (nI i) := by unfold s_X3_toldWidth; rw [ho 5 (by decide), ho 6 (by decide)]
      rw [e3, ev]
      simp only [mm_up, va_up, upd]
      simp
      exact g_up2 (g := fun j => s_X3_toldWidth M (nI j)) h2 j
    · rw [mm_upn _ _ _ hc]
      exact ho c hc

set_option maxHeartbeats 4000000 in
theorem c_X10_begin {l : Launch} {G : mm_G} {d : Nat} {M : mm_M} {Q : mm_T → mm_M → Prop} (h6 : (M 5 1).toInt ≤ 6) (h : Q T0 (h_beg M)) : mm_met l G (d + 2) k_X10_begin [.ref 20] T0 M (mm_pv Q) := by
  refine mm_enter 1 [.ref 20, .double 0] o_X10_begin rfl rfl ?_
  refine mm_iconst 1 0 dX10_begin_0 rfl (by decide) ?_
  refine mm_istore_1 2 dX10_begin_1 rfl rfl ?_
  exact w_X10_begin1 h6 h 6 0 M (by omega) (by omega) (fun j => by rw [if_neg (by omega)]) (fun _ _ => rfl)

set_option maxHeartbeats 4000000 in
theorem w_X10_play {l : Launch} {G : mm_G} {d : Nat} {M : mm_M} {Q : mm_T → mm_M → Prop} {nl np ne : Nat} (hk : h_ok M nl np ne) {y : Int32} {k : Nat} (hkn : k ≤ ne) (hev : ∀ e, e < ne → h_ev M e) (h : Q T0 (h_run M np y k)) : ∀ (z e : Nat), k - e ≤ z → e ≤ k → mm_wp l G (d + 4) k_X10_play (mm_pv Q) 6 [.ref 20, .int (nI k), .int y, .int (nI e)] [] T0 (h_run M np y e) 0 0 := by
  intro z
  induction z using Nat.strongRecOn with | _ z ih => ?_
  intro e hze hek
  have n24 := hk.2.2.1
  have hki : (nI k).toInt = k := mm_ti (by omega)
  have hei : (nI e).toInt = e := mm_ti (by omega)
  obtain ⟨hq, hwf⟩ := h_run_ok hk (y := y) e
  refine mm_iload_3 7 dX10_play_6 rfl ?_
  refine mm_iload_1 8 dX10_play_7 rfl ?_
  refine mm_ic_ge 38 11 dX10_play_8 (by decide) rfl (fun h1 => ?_) (fun h1 => ?_)
  · refine mm_vret dX10_play_38 rfl ⟨rfl, Nat.zero_le _⟩ ?_
    have hz : e = k := by (try simp only [hki, hei, Int32.lt_iff_toInt_lt, Int32.le_iff_toInt_le, ← Int32.toInt_inj, vp_in_iff, Int32.reduceToInt, mm_t1, mm_t2, mm_t3, mm_t4, mm_t10] at h1); omega
    subst hz
    exact h
  · refine mm_iload_3 12 dX10_play_11 rfl ?_
    refine mm_aload_0 13 dX10_play_12 rfl ?_
    refine mm_getR 16 dX10_play_13 f_X10_56 rfl t_20 rfl ?_
    refine mm_cV0i 19 dX10_play_16 v_X10_87 rfl t_14 (by decide) rfl rfl (Nat.le_of_ble_eq_true rfl) ⟨rfl, rfl⟩ ⟨Nat.zero_le _, Nat.zero_le _⟩ (c_X2_number (fun r2 e3 => ?_))
    refine mm_ic_ge 38 22 dX10_play_19 (by decide) rfl (fun h4 => ?_) (fun h4 => ?_)
    · refine mm_vret dX10_play_38 rfl ⟨rfl, Nat.zero_le _⟩ ?_
      exfalso
      rw [e3, hq.lo 14 (by decide), hk.2.2.2.2.2.1] at h4
      have hlt : e < k := by (try simp only [hki, hei, Int32.lt_iff_toInt_lt, Int32.le_iff_toInt_le, ← Int32.toInt_inj, vp_in_iff, Int32.reduceToInt, mm_t1, mm_t2, mm_t3, mm_t4, mm_t10] at h1); omega
      have := q_ge (by omega) (by omega) h4
      omega
    · have hlt : e < k := by (try simp only [hki, hei, Int32.lt_iff_toInt_lt, Int32.le_iff_toInt_le, ← Int32.toInt_inj, vp_in_iff, Int32.reduceToInt, mm_t1, mm_t2, mm_t3, mm_t4, mm_t10] at h1); omega
      refine mm_iload_3 23 dX10_play_22 rfl ?_
      refine mm_iload_2 24 dX10_play_23 rfl ?_
      refine mm_ic_eq 32 27 dX10_play_24 (by decide) rfl (fun h5 => ?_) (fun h5 => ?_)
      · refine mm_iinc_3 35 1 dX10_play_32 rfl (by decide) rfl ?_
        refine mm_goto 6 dX10_play_35 (by decide) ?_
        rw [nI_1]
        refine mm_memo (M' := h_run M np y (e + 1)) ?_ (ih (k - (e + 1)) (by omega) (e + 1) (Nat.le_refl _) (by omega))
        show _ = (if nI e = y then h_run M np y e else h_one (h_run M np y e) np e)
        rw [if_pos h5]
      · refine mm_aload_0 28 dX10_play_27 rfl ?_
        refine mm_iload_3 29 dX10_play_28 rfl ?_
        refine mm_cV1v 32 dX10_play_29 v_X10_90 rfl t_20 (by decide) rfl rfl (Nat.le_of_ble_eq_true rfl) ⟨rfl, rfl⟩ ⟨Nat.zero_le _, Nat.zero_le _⟩ (c_X10_playOne (hk.kp hq.lo) rfl (by omega) ((hev e (by omega)).kp hq.lo) hwf ?_)
        refine mm_iinc_3 35 1 dX10_play_32 rfl (by decide) rfl ?_
        refine mm_goto 6 dX10_play_35 (by decide) ?_
        rw [nI_1]
        refine mm_memo (M' := h_run M np y (e + 1)) ?_ (ih (k - (e + 1)) (by omega) (e + 1) (Nat.le_refl _) (by omega))
        show _ = (if nI e = y then h_run M np y e else h_one (h_run M np y e) np e)
        rw [if_neg h5]

set_option maxHeartbeats 4000000 in
theorem c_X10_play {l : Launch} {G : mm_G} {d : Nat} {M : mm_M} {Q : mm_T → mm_M → Prop} {nl np ne : Nat} (hk : h_ok M nl np ne) {x y : Int32} {k : Nat} (hx : x = nI k) (hkn : k ≤ ne) (hev : ∀ e, e < ne → h_ev M e) (h : Q T0 (h_run M np y k)) : mm_met l G (d + 4) k_X10_play [.ref 20, .int x, .int y] T0 M (mm_pv Q) := by
  refine mm_enter 1 [.ref 20, .int x, .int y, .double 0] o_X10_play rfl rfl ?_
  refine mm_aload_0 1 dX10_play_0 rfl ?_
  refine mm_cV0v 4 dX10_play_1 v_X10_84 rfl t_20 (by decide) rfl rfl (Nat.le_of_ble_eq_true rfl) ⟨rfl, rfl⟩ ⟨Nat.zero_le _, Nat.zero_le _⟩ (c_X10_begin (by rw [hk.li]; have := hk.1; omega) ?_)
  refine mm_iconst 5 0 dX10_play_4 rfl (by decide) ?_
  refine mm_istore_3 6 dX10_play_5 rfl rfl ?_
  rw [hx]
  exact w_X10_play hk hkn hev h k 0 (by omega) (by omega)

