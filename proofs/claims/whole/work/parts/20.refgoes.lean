/-- what the play doesn't touch -/
def g_kp (X Y : mm_M) : Prop := (∀ c, (c < 62 ∨ 68 < c) → c ≠ 51 → Y c = X c) ∧ (∀ f, f ≠ 21 → f ≠ 23 → f ≠ 24 → Y 51 f = X 51 f)
theorem g_kp.rf {X : mm_M} : g_kp X X := ⟨fun _ _ _ => rfl, fun _ _ _ _ => rfl⟩
theorem g_kp.up {X Y : mm_M} (h : g_kp X Y) {c a : Nat} {v : Int32} (hc : 62 ≤ c ∧ c ≤ 68) : g_kp X (mm_up Y c a v) :=
  ⟨fun c' h1 h2 => by rw [mm_upn _ _ _ (by omega)]; exact h.1 c' h1 h2, fun f h1 h2 h3 => by rw [mm_upn _ _ _ (by omega)]; exact h.2 f h1 h2 h3⟩
theorem g_kp.u51 {X Y : mm_M} (h : g_kp X Y) {f : Nat} {v : Int32} (hf : f = 21 ∨ f = 23 ∨ f = 24) : g_kp X (mm_up Y 51 f v) :=
  ⟨fun c' h1 h2 => by rw [mm_upn _ _ _ h2]; exact h.1 c' h1 h2, fun f' h1 h2 h3 => by
    rw [mm_upc]
    simp only [upd, if_neg (show ¬ f' = f by omega)]
    exact h.2 f' h1 h2 h3⟩
theorem g_kp.tr {X Y Z : mm_M} (h : g_kp X Y) (h2 : g_kp Y Z) : g_kp X Z := ⟨fun c a b => (h2.1 c a b).trans (h.1 c a b), fun f a b c => (h2.2 f a b c).trans (h.2 f a b c)⟩
theorem g_ok.u63 {X : mm_M} (h : g_ok X) {a : Nat} {v : Int32} (hv : -1 ≤ v.toInt ∧ v.toInt ≤ 11) : g_ok (mm_up X 63 a v) := by
  obtain ⟨h1, h2, h3, h4⟩ := h
  refine ⟨by rw [mm_upn _ _ _ (by decide)]; exact h1, by rw [mm_upn _ _ _ (show (51:Nat) ≠ 63 by decide), mm_upn _ _ _ (show (59:Nat) ≠ 63 by decide)]; exact h2, fun p hp => ?_, by rw [mm_upn _ _ _ (by decide)]; exact h4⟩
  rw [mm_upc]
  by_cases e : p = a
  · simp only [upd, if_pos e]; exact hv
  · simp only [upd, if_neg e]; exact h3 p hp
theorem g_ok.u65 {X : mm_M} (h : g_ok X) {a : Nat} {v : Int32} (hv : -1 ≤ v.toInt ∧ v.toInt ≤ 5) : g_ok (mm_up X 65 a v) := by
  obtain ⟨h1, h2, h3, h4⟩ := h
  refine ⟨by rw [mm_upn _ _ _ (by decide)]; exact h1, by rw [mm_upn _ _ _ (show (51:Nat) ≠ 65 by decide), mm_upn _ _ _ (show (59:Nat) ≠ 65 by decide)]; exact h2, by rw [mm_upn _ _ _ (by decide)]; exact h3, fun p hp => ?_⟩
  rw [mm_upc]
  by_cases e : p = a
  · simp only [upd, if_pos e]; exact hv
  · simp only [upd, if_neg e]; exact h4 p hp
theorem g_ok.uo {X : mm_M} (h : g_ok X) {c a : Nat} {v : Int32} (hc : c = 62 ∨ c = 64 ∨ c = 66 ∨ c = 67 ∨ c = 68) : g_ok (mm_up X c a v) := by
  obtain ⟨h1, h2, h3, h4⟩ := h
  exact ⟨by rw [mm_upn _ _ _ (by omega)]; exact h1, by rw [mm_upn _ _ _ (show (51:Nat) ≠ c by omega), mm_upn _ _ _ (show (59:Nat) ≠ c by omega)]; exact h2, by rw [mm_upn _ _ _ (by omega)]; exact h3, by rw [mm_upn _ _ _ (by omega)]; exact h4⟩
theorem g_ok.u51 {X : mm_M} (h : g_ok X) {f : Nat} {v : Int32} (hf : f = 21 ∨ f = 23 ∨ f = 24) : g_ok (mm_up X 51 f v) := by
  obtain ⟨h1, h2, h3, h4⟩ := h
  have e8 : mm_up X 51 f v 51 8 = X 51 8 := by rw [mm_upc]; simp only [upd, if_neg (show ¬ (8:Nat) = f by omega)]
  have e10 : mm_up X 51 f v 51 10 = X 51 10 := by rw [mm_upc]; simp only [upd, if_neg (show ¬ (10:Nat) = f by omega)]
  exact ⟨by rw [e8]; exact h1, by rw [e10, mm_upn _ _ _ (show (59:Nat) ≠ 51 by decide)]; exact h2, by rw [mm_upn _ _ _ (by decide)]; exact h3, by rw [mm_upn _ _ _ (by decide)]; exact h4⟩
theorem g_tk_kp {X Y : mm_M} (h : g_kp X Y) {j : Nat} {m : Int32} : g_kp X (g_tk Y j m) := h.up (by decide)
theorem g_wf_kp {X Y Z : mm_M} (h : g_kp Z Y) {e : Nat} {s w : Int32} : g_kp Z (g_wf X Y e s w) := by
  unfold g_wf
  exact (((((h.up (by decide)).up (by decide)).up (by decide)).up (by decide)).up (by decide)).up (by decide)
theorem g_wx_kp {X : mm_M} {e p q : Nat} {m : Int32} : g_kp X (g_wx X e p q m) := by
  unfold g_wx
  exact ((g_tk_kp g_kp.rf).up (by decide)).up (by decide)
theorem g_wed_kp {X : mm_M} {e : Nat} : g_kp X (g_wed X e) := by
  unfold g_wed
  split
  · exact g_wf_kp g_wx_kp
  · split
    · exact g_wf_kp g_wx_kp
    · exact g_wf_kp g_kp.rf
theorem g_px_kp {X Y : mm_M} (h : g_kp X Y) {a : Nat} : g_kp X (g_px Y a) := by
  unfold g_px
  refine (g_kp.up (g_kp.up ?_ (by decide)) (by decide))
  split
  · exact h
  · exact g_tk_kp h
theorem g_do_kp {X : mm_M} {e : Nat} : g_kp X (g_do X e) := by
  unfold g_do
  split
  · exact g_wed_kp
  · split
    · exact ((g_px_kp g_kp.rf).up (by decide)).u51 (by decide)
    · split
      · exact g_kp.rf.up (by decide)
      · exact ((g_px_kp (g_kp.rf.up (by decide))).up (by decide)).up (by decide)
theorem g_tk_ok {X : mm_M} (h : g_ok X) {j : Nat} {m : Int32} : g_ok (g_tk X j m) := h.uo (by decide)
theorem g_wf_ok {X Y : mm_M} (h : g_ok Y) {e : Nat} (he : g_ev X e) {s w : Int32} (hw : -1 ≤ w.toInt ∧ w.toInt ≤ 5) : g_ok (g_wf X Y e s w) := by
  unfold g_wf
  have h1 := he.2.2.2.1
  have h2 := he.2.2.2.2
  exact (((((h.u63 (by omega)).u63 (by omega)).uo (by decide)).uo (by decide)).u65 hw).u65 hw
theorem g_wx_ok {X : mm_M} (h : g_ok X) {e p q : Nat} {m : Int32} : g_ok (g_wx X e p q m) := by
  unfold g_wx
  exact ((g_tk_ok h).uo (by decide)).uo (by decide)
theorem g_wed_ok {X : mm_M} (h : g_ok X) {e : Nat} (he : g_ev X e) (hm : g_may X (g_a X e) (g_b X e) = true) : g_ok (g_wed X e) := by
  have hab := g_may_np hm
  have hA := (h.ho hab.1).2.2
  have hB := (h.ho hab.2).2.2
  unfold g_wed
  split
  · exact g_wf_ok (g_wx_ok h) he (by omega)
  · split
    · exact g_wf_ok (g_wx_ok h) he (by omega)
    · exact g_wf_ok h he (by decide)
theorem g_px_ok {X : mm_M} (h : g_ok X) {a : Nat} : g_ok (g_px X a) := by
  unfold g_px
  refine g_ok.u63 (g_ok.u63 ?_ (by decide)) (by decide)
  split
  · exact h
  · exact g_tk_ok h
theorem g_do_ok {X : mm_M} (h : g_ok X) {e : Nat} (he : g_ev X e) (hl : g_law X e = true) : g_ok (g_do X e) := by
  unfold g_law at hl
  unfold g_do
  split
  · rename_i hc
    rw [if_pos hc] at hl
    exact g_wed_ok h he hl
  · split
    · exact ((g_px_ok h).uo (by decide)).u51 (by decide)
    · split
      · exact h.uo (by decide)
      · exact ((g_px_ok (h.uo (by decide))).uo (by decide)).uo (by decide)
def g_b0 (X : mm_M) : mm_M := va_up (va_up (va_up (va_up (va_up (va_up X 62 (fun j => if (j : Int) < (X 51 8).toInt then X 58 j else X 62 j)) 63 (fun j => if j < 12 then -1 else X 63 j)) 64 (fun j => if j < 12 then 0 else X 64 j)) 65 (fun j => if j < 12 then -1 else X 65 j)) 66 (fun j => if j < 12 then 0 else X 66 j)) 67 (fun j => if j < 12 then 1 else X 67 j)
def g_beg (X : mm_M) : mm_M := mm_up (mm_up (mm_up (g_b0 X) 51 21 0) 51 23 0) 51 24 (-1)
theorem g_b0_eq {X Y : mm_M} (h2 : ∀ j, Y 62 j = if (j : Int) < (X 51 8).toInt then X 58 j else X 62 j) (h3 : ∀ j, Y 63 j = if j < 12 then -1 else X 63 j) (h4 : ∀ j, Y 64 j = if j < 12 then 0 else X 64 j) (h5 : ∀ j, Y 65 j = if j < 12 then -1 else X 65 j) (h6 : ∀ j, Y 66 j = if j < 12 then 0 else X 66 j) (h7 : ∀ j, Y 67 j = if j < 12 then 1 else X 67 j) (ho : ∀ c, c < 62 ∨ 67 < c → Y c = X c) : Y = g_b0 X := by
  funext c j
  unfold g_b0
  by_cases e7 : c = 67
  · subst e7; simp only [va_up, if_true]; exact h7 j
  by_cases e6 : c = 66
  · subst e6; simp [va_up]; exact h6 j
  by_cases e5 : c = 65
  · subst e5; simp [va_up]; exact h5 j
  by_cases e4 : c = 64
  · subst e4; simp [va_up]; exact h4 j
  by_cases e3 : c = 63
  · subst e3; simp [va_up]; exact h3 j
  by_cases e2 : c = 62
  · subst e2; simp [va_up]; exact h2 j
  simp [va_up, e7, e6, e5, e4, e3, e2]
  rw [ho c (by omega)]
def g_step (X : mm_M) (y : Int32) (e : Nat) : mm_M :=
  if nI e = y then mm_up X 68 e 0 else if g_law (mm_up X 68 e 0) e = true then g_do (mm_up X 68 e 0) e else mm_up (mm_up (mm_up X 68 e 0) 51 23 ((mm_up X 68 e 0) 51 23 + 1)) 51 24 (if (mm_up X 68 e 0) 51 24 = -1 then nI e else (mm_up X 68 e 0) 51 24)
def g_run (X : mm_M) (y : Int32) : Nat → mm_M
  | 0 => g_beg X
  | k + 1 => g_step (g_run X y k) y k
theorem g_beg_kp {X : mm_M} : g_kp X (g_beg X) := by
  unfold g_beg
  refine ((g_kp.u51 ?_ (by decide)).u51 (by decide)).u51 (by decide)
  unfold g_b0
  refine ⟨fun c h1 h2 => ?_, fun f _ _ _ => ?_⟩
  · simp [va_up, show c ≠ 62 by omega, show c ≠ 63 by omega, show c ≠ 64 by omega, show c ≠ 65 by omega, show c ≠ 66 by omega, show c ≠ 67 by omega]
  · simp [va_up]
/-- lands and people as the play wants them -/
def g_pre (X : mm_M) : Prop := (∃ nl, nl ≤ 6 ∧ X 51 8 = nI nl) ∧ (∃ np, np ≤ 12 ∧ X 51 10 = nI np ∧ ∀ p, p < np → 0 ≤ (X 59 (4 * p + 1)).toInt ∧ (X 59 (4 * p + 1)).toInt < 6)
theorem g_beg_ok {X : mm_M} (h : g_pre X) : g_ok (g_beg X) := by
  unfold g_beg
  refine ((g_ok.u51 ?_ (by decide)).u51 (by decide)).u51 (by decide)
  unfold g_b0 g_ok
  refine ⟨by simpa [va_up] using h.1, by simpa [va_up] using h.2, fun p hp => ?_, fun p hp => ?_⟩
  · simp [va_up, hp]
  · simp [va_up, hp]
theorem g_ev.kp {X Y : mm_M} {e : Nat} (h : g_ev X e) (k : g_kp X Y) : g_ev Y e := by
  unfold g_ev at h ⊢
  rw [k.1 61 (by decide) (by decide)]
  exact h
theorem g_step_kp {X : mm_M} {y : Int32} {e : Nat} : g_kp X (g_step X y e) := by
  unfold g_step
  split
  · exact g_kp.rf.up (by decide)
  · split
    · exact (g_kp.rf.up (by decide)).tr g_do_kp
    · exact ((g_kp.rf.up (by decide)).u51 (by decide)).u51 (by decide)
theorem g_step_ok {X : mm_M} (h : g_ok X) {y : Int32} {e : Nat} (he : g_ev X e) : g_ok (g_step X y e) := by
  unfold g_step
  split
  · exact h.uo (by decide)
  · split
    · rename_i hl
      exact g_do_ok (h.uo (by decide)) (he.kp (g_kp.rf.up (by decide))) hl
    · exact ((h.uo (by decide)).u51 (by decide)).u51 (by decide)
theorem g_run_ok {X : mm_M} (h : g_pre X) {y : Int32} : ∀ k, (∀ e, e < k → g_ev X e) → g_kp X (g_run X y k) ∧ g_ok (g_run X y k)
  | 0, _ => ⟨g_beg_kp, g_beg_ok h⟩
  | k + 1, he => by
    obtain ⟨h1, h2⟩ := g_run_ok h (y := y) k (fun e q => he e (by omega))
    exact ⟨h1.tr g_step_kp, g_step_ok h2 ((he k (by omega)).kp h1)⟩

theorem g_up1 {R f : Nat → Int32} {i : Nat} {v : Int32} (h : ∀ j, R j = if j < i then v else f j) : ∀ j, (if j = i then v else R j) = if j < i + 1 then v else f j := by
  intro j
  by_cases e : j = i
  · rw [if_pos e, if_pos (by omega)]
  · rw [if_neg e, h j]
    by_cases q : j < i
    · rw [if_pos q, if_pos (by omega)]
    · rw [if_neg q, if_neg (by omega)]
theorem g_up2 {R f g : Nat → Int32} {i : Nat} (h : ∀ j, R j = if j < i then g j else f j) : ∀ j, (if j = i then g i else R j) = if j < i + 1 then g j else f j := by
  intro j
  by_cases e : j = i
  · rw [if_pos e, if_pos (by omega), e]
  · rw [if_neg e, h j]
    by_cases q : j < i
    · rw [if_pos q, if_pos (by omega)]
    · rw [if_neg q, if_neg (by omega)]

set_option maxHeartbeats 4000000 in
theorem w_X12_begins2 {l : Launch} {G : mm_G} {d : Nat} {M : mm_M} {Q : mm_T → mm_M → Prop} (h : Q T0 (g_beg M)) : ∀ (k i : Nat) (Mi : mm_M), 12 - i ≤ k → i ≤ 12 → (∀ j, Mi 62 j = if (j : Int) < (M 51 8).toInt then M 58 j else M 62 j) → (∀ j, Mi 63 j = if j < i then -1 else M 63 j) → (∀ j, Mi 64 j = if j < i then 0 else M 64 j) → (∀ j, Mi 65 j = if j < i then -1 else M 65 j) → (∀ j, Mi 66 j = if j < i then 0 else M 66 j) → (∀ j, Mi 67 j = if j < i then 1 else M 67 j) → (∀ c, c < 62 ∨ 67 < c → Mi c = M c) → mm_wp l G d k_X12_begins (mm_pv Q) 30 [.ref 51, .int (nI i)] [] T0 Mi 0 0 := by
  intro k
  induction k using Nat.strongRecOn with | _ k ih => ?_
  intro i Mi hki hi h2 h3 h4 h5 h6 h7 ho
  have hii : (nI i).toInt = i := mm_ti (by omega)
  refine mm_iload_1 31 dX12_begins_30 rfl ?_
  refine mm_bipush 33 12 dX12_begins_31 rfl (by decide) ?_
  refine mm_ic_ge 77 36 dX12_begins_33 (by decide) rfl (fun h1 => ?_) (fun h1 => ?_)
  · refine mm_aload_0 78 dX12_begins_77 rfl ?_
    refine mm_iconst 79 0 dX12_begins_78 rfl (by decide) ?_
    refine mm_putI 82 dX12_begins_79 p_X12_203 ⟨rfl, rfl⟩ rfl t_51 rfl ?_
    refine mm_aload_0 83 dX12_begins_82 rfl ?_
    refine mm_iconst 84 0 dX12_begins_83 rfl (by decide) ?_
    refine mm_putI 87 dX12_begins_84 p_X12_206 ⟨rfl, rfl⟩ rfl t_51 rfl ?_
    refine mm_aload_0 88 dX12_begins_87 rfl ?_
    refine mm_iconst 89 (-1) dX12_begins_88 rfl (by decide) ?_
    refine mm_putI 92 dX12_begins_89 p_X12_209 ⟨rfl, rfl⟩ rfl t_51 rfl ?_
    refine mm_vret dX12_begins_92 rfl ⟨rfl, Nat.zero_le _⟩ ?_
    have hz : i = 12 := by (try simp only [hii, Int32.lt_iff_toInt_lt, Int32.le_iff_toInt_le, ← Int32.toInt_inj, vp_in_iff, Int32.reduceToInt, mm_t1, mm_t2, mm_t3, mm_t4, mm_t10] at h1); omega
    subst hz
    rw [g_b0_eq h2 h3 h4 h5 h6 h7 ho]
    exact h
  · have hlt : i < 12 := by (try simp only [hii, Int32.lt_iff_toInt_lt, Int32.le_iff_toInt_le, ← Int32.toInt_inj, vp_in_iff, Int32.reduceToInt, mm_t1, mm_t2, mm_t3, mm_t4, mm_t10] at h1); omega
    refine mm_aload_0 37 dX12_begins_36 rfl ?_
    refine mm_getR 40 dX12_begins_37 f_X12_43 rfl t_51 rfl ?_
    refine mm_iload_1 41 dX12_begins_40 rfl ?_
    refine mm_iconst 42 (-1) dX12_begins_41 rfl (by decide) ?_
    refine mm_iastoren 43 (i) dX12_begins_42 rfl t_63 (by decide) (rfl) (by omega) ?_
    refine mm_aload_0 44 dX12_begins_43 rfl ?_
    refine mm_getR 47 dX12_begins_44 f_X12_46 rfl t_51 rfl ?_
    refine mm_iload_1 48 dX12_begins_47 rfl ?_
    refine mm_iconst 49 0 dX12_begins_48 rfl (by decide) ?_
    refine mm_iastoren 50 (i) dX12_begins_49 rfl t_64 (by decide) (rfl) (by omega) ?_
    refine mm_aload_0 51 dX12_begins_50 rfl ?_
    refine mm_getR 54 dX12_begins_51 f_X12_49 rfl t_51 rfl ?_
    refine mm_iload_1 55 dX12_begins_54 rfl ?_
    refine mm_iconst 56 (-1) dX12_begins_55 rfl (by decide) ?_
    refine mm_iastoren 57 (i) dX12_begins_56 rfl t_65 (by decide) (rfl) (by omega) ?_
    refine mm_aload_0 58 dX12_begins_57 rfl ?_
    refine mm_getR 61 dX12_begins_58 f_X12_52 rfl t_51 rfl ?_
    refine mm_iload_1 62 dX12_begins_61 rfl ?_
    refine mm_iconst 63 0 dX12_begins_62 rfl (by decide) ?_
    refine mm_iastoren 64 (i) dX12_begins_63 rfl t_66 (by decide) (rfl) (by omega) ?_
    refine mm_aload_0 65 dX12_begins_64 rfl ?_
    refine mm_getR 68 dX12_begins_65 f_X12_55 rfl t_51 rfl ?_
    refine mm_iload_1 69 dX12_begins_68 rfl ?_
    refine mm_iconst 70 1 dX12_begins_69 rfl (by decide) ?_
    refine mm_iastoren 71 (i) dX12_begins_70 rfl t_67 (by decide) (rfl) (by omega) ?_
    refine mm_iinc_1 74 1 dX12_begins_71 rfl (by decide) rfl ?_
    refine mm_goto 30 dX12_begins_74 (by decide) ?_
    rw [nI_1]
    refine ih (12 - (i + 1)) (by omega) (i + 1) _ (Nat.le_refl _) (by omega) (fun j => ?_) (fun j => ?_) (fun j => ?_) (fun j => ?_) (fun j => ?_) (fun j => ?_) (fun c hc => ?_)
    · simp [mm_up, va_up, h2 j]
    · simp only [mm_up, va_up, upd]
      simp
      exact g_up1 h3 j
    · simp only [mm_up, va_up, upd]
      simp
      exact g_up1 h4 j
    · simp only [mm_up, va_up, upd]
      simp
      exact g_up1 h5 j
    · simp only [mm_up, va_up, upd]
      simp
      exact g_up1 h6 j
    · simp only [mm_up, va_up, upd]
      simp
      exact g_up1 h7 j
    · rw [mm_upn _ _ _ (by omega), mm_upn _ _ _ (by omega), mm_upn _ _ _ (by omega), mm_upn _ _ _ (by omega), mm_upn _ _ _ (by omega)]
      exact ho c hc

set_option maxHeartbeats 4000000 in
theorem w_X12_begins1 {l : Launch} {G : mm_G} {d : Nat} {M : mm_M} {Q : mm_T → mm_M → Prop} {nl : Nat} (hnl : nl ≤ 6) (hl : M 51 8 = nI nl) (h : Q T0 (g_beg M)) : ∀ (k i : Nat) (Mi : mm_M), nl - i ≤ k → i ≤ nl → (∀ j, Mi 62 j = if j < i then M 58 j else M 62 j) → (∀ c, c ≠ 62 → Mi c = M c) → mm_wp l G d k_X12_begins (mm_pv Q) 2 [.ref 51, .int (nI i)] [] T0 Mi 0 0 := by
  intro k
  induction k using Nat.strongRecOn with | _ k ih => ?_
  intro i Mi hki hi h2 ho
  have hii : (nI i).toInt = i := mm_ti (by omega)
  have hni : (nI nl).toInt = nl := mm_ti (by omega)
  refine mm_iload_1 3 dX12_begins_2 rfl ?_
  refine mm_aload_0 4 dX12_begins_3 rfl ?_
  refine mm_getI 7 dX12_begins_4 f_X12_138 rfl t_51 rfl ?_
  refine mm_ic_ge 28 10 dX12_begins_7 (by decide) rfl (fun h1 => ?_) (fun h1 => ?_)
  · rw [ho 51 (by decide)] at h1
    have hz : i = nl := by (try simp only [hl, hni, hii, Int32.lt_iff_toInt_lt, Int32.le_iff_toInt_le, ← Int32.toInt_inj, vp_in_iff, Int32.reduceToInt, mm_t1, mm_t2, mm_t3, mm_t4, mm_t10] at h1); omega
    refine mm_iconst 29 0 dX12_begins_28 rfl (by decide) ?_
    refine mm_istore_1 30 dX12_begins_29 rfl rfl ?_
    refine w_X12_begins2 h 12 0 Mi (by omega) (by omega) (fun j => ?_) (fun j => by rw [ho 63 (by decide)]; rfl) (fun j => by rw [ho 64 (by decide)]; rfl) (fun j => by rw [ho 65 (by decide)]; rfl) (fun j => by rw [ho 66 (by decide)]; rfl) (fun j => by rw [ho 67 (by decide)]; rfl) (fun c hc => ho c (by omega))
    rw [h2 j, hl, hni, hz]
    by_cases q : j < nl
    · rw [if_pos q, if_pos (by omega)]
    · rw [if_neg q, if_neg (by omega)]
  · rw [ho 51 (by decide)] at h1
    have hlt : i < nl := by (try simp only [hl, hni, hii, Int32.lt_iff_toInt_lt, Int32.le_iff_toInt_le, ← Int32.toInt_inj, vp_in_iff, Int32.reduceToInt, mm_t1, mm_t2, mm_t3, mm_t4, mm_t10] at h1); omega
    refine mm_aload_0 11 dX12_begins_10 rfl ?_
    refine mm_getR 14 dX12_begins_11 f_X12_40 rfl t_51 rfl ?_
    refine mm_iload_1 15 dX12_begins_14 rfl ?_
    refine mm_aload_0 16 dX12_begins_15 rfl ?_
    refine mm_getR 19 dX12_begins_16 f_X12_28 rfl t_51 rfl ?_
    refine mm_iload_1 20 dX12_begins_19 rfl ?_
    refine mm_ialoadn 21 (i) dX12_begins_20 rfl t_58 (by decide) (rfl) (by omega) ?_
    refine mm_iastoren 22 (i) dX12_begins_21 rfl t_62 (by decide) (rfl) (by omega) ?_
    refine mm_iinc_1 25 1 dX12_begins_22 rfl (by decide) rfl ?_
    refine mm_goto 2 dX12_begins_25 (by decide) ?_
    rw [nI_1]
    refine ih (nl - (i + 1)) (by omega) (i + 1) _ (Nat.le_refl _) (by omega) (fun j => ?_) (fun c hc => ?_)
    · simp only [mm_up, va_up, upd]
      simp
      rw [ho 58 (by decide)]
      exact g_up2 h2 j
    · rw [mm_upn _ _ _ hc]
      exact ho c hc

set_option maxHeartbeats 4000000 in
theorem c_X12_begins {l : Launch} {G : mm_G} {d : Nat} {M : mm_M} {Q : mm_T → mm_M → Prop} {nl : Nat} (hnl : nl ≤ 6) (hl : M 51 8 = nI nl) (h : Q T0 (g_beg M)) : mm_met l G d k_X12_begins [.ref 51] T0 M (mm_pv Q) := by
  refine mm_enter 1 [.ref 51, .double 0] o_X12_begins rfl rfl ?_
  refine mm_iconst 1 0 dX12_begins_0 rfl (by decide) ?_
  refine mm_istore_1 2 dX12_begins_1 rfl rfl ?_
  exact w_X12_begins1 hnl hl h nl 0 M (by omega) (by omega) (fun j => by rw [if_neg (by omega)]) (fun _ _ => rfl)

set_option maxHeartbeats 4000000 in
theorem w_X12_goes {l : Launch} {G : mm_G} {d : Nat} {M : mm_M} {Q : mm_T → mm_M → Prop} {y : Int32} {k : Nat} (hk : k ≤ 24) (hp : g_pre M) (he : ∀ e, e < k → g_ev M e) (h : Q T0 (g_run M y k)) : ∀ (z e : Nat), k - e ≤ z → e ≤ k → mm_wp l G (d + 3) k_X12_goes (mm_pv Q) 6 [.ref 51, .int (nI k), .int y, .int (nI e)] [] T0 (g_run M y e) 0 0 := by
  intro z
  induction z using Nat.strongRecOn with | _ z ih => ?_
  intro e hze hek
  have hki : (nI k).toInt = k := mm_ti (by omega)
  have hei : (nI e).toInt = e := mm_ti (by omega)
  refine mm_iload_3 7 dX12_goes_6 rfl ?_
  refine mm_iload_1 8 dX12_goes_7 rfl ?_
  refine mm_ic_ge 75 11 dX12_goes_8 (by decide) rfl (fun h1 => ?_) (fun h1 => ?_)
  · refine mm_vret dX12_goes_75 rfl ⟨rfl, Nat.zero_le _⟩ ?_
    have hz : e = k := by (try simp only [hki, hei, Int32.lt_iff_toInt_lt, Int32.le_iff_toInt_le, ← Int32.toInt_inj, vp_in_iff, Int32.reduceToInt, mm_t1, mm_t2, mm_t3, mm_t4, mm_t10] at h1); omega
    subst hz
    exact h
  · have hlt : e < k := by (try simp only [hki, hei, Int32.lt_iff_toInt_lt, Int32.le_iff_toInt_le, ← Int32.toInt_inj, vp_in_iff, Int32.reduceToInt, mm_t1, mm_t2, mm_t3, mm_t4, mm_t10] at h1); omega
    obtain ⟨hq, hok⟩ := g_run_ok hp (y := y) e (fun e2 q => he e2 (by omega))
    have hev := ((he e hlt).kp hq).kp (Y := mm_up (g_run M y e) 68 e 0) (g_kp.rf.up (by decide))
    refine mm_aload_0 12 dX12_goes_11 rfl ?_
    refine mm_getR 15 dX12_goes_12 f_X12_58 rfl t_51 rfl ?_
    refine mm_iload_3 16 dX12_goes_15 rfl ?_
    refine mm_iconst 17 0 dX12_goes_16 rfl (by decide) ?_
    refine mm_iastoren 18 (e) dX12_goes_17 rfl t_68 (by decide) (rfl) (by omega) ?_
    refine mm_iload_3 19 dX12_goes_18 rfl ?_
    refine mm_iload_2 20 dX12_goes_19 rfl ?_
    refine mm_ic_eq 69 23 dX12_goes_20 (by decide) rfl (fun h2 => ?_) (fun h2 => ?_)
    · refine mm_iinc_3 72 1 dX12_goes_69 rfl (by decide) rfl ?_
      refine mm_goto 6 dX12_goes_72 (by decide) ?_
      rw [nI_1]
      refine mm_memo (M' := g_run M y (e + 1)) ?_ (ih (k - (e + 1)) (by omega) (e + 1) (Nat.le_refl _) (by omega))
      show _ = g_step (g_run M y e) y e
      unfold g_step
      rw [if_pos h2]
    · refine mm_aload_0 24 dX12_goes_23 rfl ?_
      refine mm_iload_3 25 dX12_goes_24 rfl ?_
      refine mm_cV1i 28 dX12_goes_25 v_X12_232 rfl t_51 (by decide) rfl rfl (Nat.le_of_ble_eq_true rfl) ⟨rfl, rfl⟩ ⟨Nat.zero_le _, Nat.zero_le _⟩ (c_X12_isLawful rfl hev (fun h3 => ?_) (fun h3 => ?_))
      · refine mm_if_eq 39 31 dX12_goes_28 (by decide) rfl (fun h => absurd h (by decide)) (fun _ => ?_)
        refine mm_aload_0 32 dX12_goes_31 rfl ?_
        refine mm_iload_3 33 dX12_goes_32 rfl ?_
        refine mm_cV1v 36 dX12_goes_33 v_X12_235 rfl t_51 (by decide) rfl rfl (Nat.le_of_ble_eq_true rfl) ⟨rfl, rfl⟩ ⟨Nat.zero_le _, Nat.zero_le _⟩ (c_X12_does rfl hev (hok.uo (by decide)) h3 ?_)
        refine mm_goto 69 dX12_goes_36 (by decide) ?_
        refine mm_iinc_3 72 1 dX12_goes_69 rfl (by decide) rfl ?_
        refine mm_goto 6 dX12_goes_72 (by decide) ?_
        rw [nI_1]
        refine mm_memo (M' := g_run M y (e + 1)) ?_ (ih (k - (e + 1)) (by omega) (e + 1) (Nat.le_refl _) (by omega))
        show _ = g_step (g_run M y e) y e
        unfold g_step
        rw [if_neg h2, if_pos h3]
      · refine mm_if_eq 39 31 dX12_goes_28 (by decide) rfl (fun _ => ?_) (fun h => absurd h (by decide))
        refine mm_aload_0 40 dX12_goes_39 rfl ?_
        refine mm_dup 41 dX12_goes_40 rfl rfl ?_
        refine mm_getI 44 dX12_goes_41 f_X12_206 rfl t_51 rfl ?_
        refine mm_iconst 45 1 dX12_goes_44 rfl (by decide) ?_
        refine mm_iadd 46 dX12_goes_45 rfl ?_
        refine mm_putI 49 dX12_goes_46 p_X12_206 ⟨rfl, rfl⟩ rfl t_51 rfl ?_
        refine mm_aload_0 50 dX12_goes_49 rfl ?_
        refine mm_aload_0 51 dX12_goes_50 rfl ?_
        refine mm_getI 54 dX12_goes_51 f_X12_209 rfl t_51 rfl ?_
        refine mm_iconst 55 (-1) dX12_goes_54 rfl (by decide) ?_
        refine mm_ic_ne 62 58 dX12_goes_55 (by decide) rfl (fun h4 => ?_) (fun h4 => ?_)
        · refine mm_aload_0 63 dX12_goes_62 rfl ?_
          refine mm_getI 66 dX12_goes_63 f_X12_209 rfl t_51 rfl ?_
          refine mm_putI 69 dX12_goes_66 p_X12_209 ⟨rfl, rfl⟩ rfl t_51 rfl ?_
          refine mm_iinc_3 72 1 dX12_goes_69 rfl (by decide) rfl ?_
          refine mm_goto 6 dX12_goes_72 (by decide) ?_
          rw [nI_1]
          refine mm_memo (M' := g_run M y (e + 1)) ?_ (ih (k - (e + 1)) (by omega) (e + 1) (Nat.le_refl _) (by omega))
          show _ = g_step (g_run M y e) y e
          unfold g_step
          rw [if_neg h2, if_neg h3]
          have e24 : ∀ v, mm_up (mm_up (g_run M y e) 68 e 0) 51 23 v 51 24 = (mm_up (g_run M y e) 68 e 0) 51 24 := fun v => by simp [mm_up, va_up, upd]
          rw [e24] at h4
          rw [e24, if_neg h4]
        · refine mm_iload_3 59 dX12_goes_58 rfl ?_
          refine mm_goto 66 dX12_goes_59 (by decide) ?_
          refine mm_putI 69 dX12_goes_66 p_X12_209 ⟨rfl, rfl⟩ rfl t_51 rfl ?_
          refine mm_iinc_3 72 1 dX12_goes_69 rfl (by decide) rfl ?_
          refine mm_goto 6 dX12_goes_72 (by decide) ?_
          rw [nI_1]
          refine mm_memo (M' := g_run M y (e + 1)) ?_ (ih (k - (e + 1)) (by omega) (e + 1) (Nat.le_refl _) (by omega))
          show _ = g_step (g_run M y e) y e
          unfold g_step
          rw [if_neg h2, if_neg h3]
          have e24 : ∀ v, mm_up (mm_up (g_run M y e) 68 e 0) 51 23 v 51 24 = (mm_up (g_run M y e) 68 e 0) 51 24 := fun v => by simp [mm_up, va_up, upd]
          rw [e24] at h4
          rw [if_pos h4]

set_option maxHeartbeats 4000000 in
theorem c_X12_goes {l : Launch} {G : mm_G} {d : Nat} {M : mm_M} {Q : mm_T → mm_M → Prop} {x y : Int32} {k : Nat} (hx : x = nI k) (hk : k ≤ 24) (hp : g_pre M) (he : ∀ e, e < k → g_ev M e) (h : Q T0 (g_run M y k)) : mm_met l G (d + 3) k_X12_goes [.ref 51, .int x, .int y] T0 M (mm_pv Q) := by
  refine mm_enter 1 [.ref 51, .int x, .int y, .double 0] o_X12_goes rfl rfl ?_
  refine mm_aload_0 1 dX12_goes_0 rfl ?_
  refine mm_cV0v 4 dX12_goes_1 v_X12_229 rfl t_51 (by decide) rfl rfl (Nat.le_of_ble_eq_true rfl) ⟨rfl, rfl⟩ ⟨Nat.zero_le _, Nat.zero_le _⟩ (c_X12_begins hp.1.choose_spec.1 hp.1.choose_spec.2 ?_)
  refine mm_iconst 5 0 dX12_goes_4 rfl (by decide) ?_
  refine mm_istore_3 6 dX12_goes_5 rfl rfl ?_
  rw [hx]
  exact w_X12_goes hk hp he h k 0 (by omega) (by omega)

set_option maxHeartbeats 4000000 in
theorem c_X12_goesAll {l : Launch} {G : mm_G} {d : Nat} {M : mm_M} {Q : mm_T → mm_M → Prop} {k : Nat} (hx : M 51 13 = nI k) (hk : k ≤ 24) (hp : g_pre M) (he : ∀ e, e < k → g_ev M e) (h : Q T0 (g_run M (-1) k)) : mm_met l G (d + 4) k_X12_goesAll [.ref 51] T0 M (mm_pv Q) := by
  refine mm_enter 0 [.ref 51] o_X12_goesAll rfl rfl ?_
  refine mm_aload_0 1 dX12_goesAll_0 rfl ?_
  refine mm_aload_0 2 dX12_goesAll_1 rfl ?_
  refine mm_getI 5 dX12_goesAll_2 f_X12_184 rfl t_51 rfl ?_
  refine mm_iconst 6 (-1) dX12_goesAll_5 rfl (by decide) ?_
  refine mm_cV2v 9 dX12_goesAll_6 v_X12_238 rfl t_51 (by decide) rfl rfl (Nat.le_of_ble_eq_true rfl) ⟨rfl, rfl⟩ ⟨Nat.zero_le _, Nat.zero_le _⟩ (c_X12_goes hx hk hp he ?_)
  refine mm_vret dX12_goesAll_9 rfl ⟨rfl, Nat.zero_le _⟩ ?_
  exact h

