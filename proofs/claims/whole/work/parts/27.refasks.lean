/-! Questions to the reference that one play answers -/
theorem mm_cl2 {x : Int32} {n : Nat} (h : 0 ≤ x.toInt ∧ x.toInt < n) : x = nI x.toNatClampNeg ∧ x.toNatClampNeg < n ∧ (x.toNatClampNeg : Int) = x.toInt := ⟨mm_nc h.1, by have := mm_cl h.1; omega, mm_cl h.1⟩
theorem nI_m1 {n : Nat} (h : n ≤ 1000000) : (nI n - 1).toInt = (n : Int) - 1 := by
  have t1 : (1 : Int32).toInt = 1 := by decide
  have t := mm_ti (n := n) (by omega)
  rw [mm_sub (by omega)]
  omega
def z_fault (A : mm_M) (t : Int32) : Int32 := if t.toInt = 0 then a_f0 A else if t.toInt = 1 then a_f1 A else -2
def z_person (A : mm_M) (p w : Int32) : Int32 := if (0 ≤ p.toInt ∧ p.toInt < a_np A) ∧ 0 ≤ w.toInt ∧ w.toInt ≤ 3 then q_wh (a_b1 A) p.toNatClampNeg w.toNatClampNeg else -2
def z_sh (A : mm_M) (p : Nat) (h : Int32) : Int32 := g_sh (zz A) p h
def z_shadow (A : mm_M) (p h : Int32) : Int32 := if (0 ≤ p.toInt ∧ p.toInt < a_np A) ∧ 6 ≤ h.toInt ∧ h.toInt ≤ 18 then z_sh A p.toNatClampNeg h else -2
def z_judged (A : mm_M) : Int32 := zr A (-1) (a_ne A) 51 24
def z_moved (A : mm_M) (e : Int32) : Int32 := if 0 ≤ e.toInt ∧ e.toInt < a_ne A then zm A e.toNatClampNeg else -10002
def z_width (A : mm_M) (l k : Int32) : Int32 := if (0 ≤ l.toInt ∧ l.toInt < a_nl A) ∧ 0 ≤ k.toInt ∧ k.toInt ≤ a_ne A then zr A (-1) k.toNatClampNeg 62 l.toNatClampNeg else -2
def z_now (Z : mm_M) (p : Nat) (w : Int32) : Int32 := if w.toInt = 0 then Z 63 p else if w.toInt = 1 then Z 66 p else Z 67 p
def z_state (A : mm_M) (p k w : Int32) : Int32 := if (0 ≤ p.toInt ∧ p.toInt < a_np A) ∧ (0 ≤ k.toInt ∧ k.toInt ≤ a_ne A) ∧ 0 ≤ w.toInt ∧ w.toInt ≤ 2 then z_now (zr A (-1) k.toNatClampNeg) p.toNatClampNeg w else -2
def z_nobody (A : mm_M) (k : Int32) : Int32 := if 0 ≤ k.toInt ∧ k.toInt ≤ a_ne A then zr A (-1) k.toNatClampNeg 51 21 else -2
def z_without (A : mm_M) (e l : Int32) : Int32 := if (0 ≤ e.toInt ∧ e.toInt < a_ne A) ∧ 0 ≤ l.toInt ∧ l.toInt < a_nl A then zr A e (a_ne A) 62 l.toNatClampNeg else -2
theorem fr.dat {A M X : mm_M} (h : fr A M) (k : r_dat M X) : r_dat A X := by
  unfold r_dat at k ⊢
  rw [h.nl, h.np, h.b1, h.a 56] at k
  exact k
theorem b_find {l : Launch} {G : mm_G} {d : Nat} {M : mm_M} {Q : mm_T → mm_M → Prop} {A : mm_M} (hi : iv A) (hf : fr A M) (h : ∀ M1, r_x A M1 → Q T0 M1) : mm_met l G (d + 4) k_X12_find [.ref 51] T0 M (mm_pv Q) :=
  c_X12_find (hf.ok hi.1) (fun M1 h1 h2 => h M1 ⟨hf.rk h2, hf.dat h1⟩)
theorem b_goes {l : Launch} {G : mm_G} {d : Nat} {M : mm_M} {Q : mm_T → mm_M → Prop} {A : mm_M} (hi : iv A) (hx : r_x A M) {x y : Int32} {k : Nat} (hk : x = nI k) (hn : k ≤ a_ne A) (h : ∀ M1, M1 = g_run M y k → e_w A M1 (zr A y k) → r_x A M1 → Q T0 M1) : mm_met l G (d + 3) k_X12_goes [.ref 51, .int x, .int y] T0 M (mm_pv Q) :=
  c_X12_goes hk (by have := hi.1.ne.2; omega) (hx.pre hi) (fun e he => hx.ev hi (by omega)) (h _ rfl (zr_r hi hx hn) (g_run_x hi hx hn))
theorem b_goesAll {l : Launch} {G : mm_G} {d : Nat} {M : mm_M} {Q : mm_T → mm_M → Prop} {A : mm_M} (hi : iv A) (hx : r_x A M) (h : ∀ M1, M1 = g_run M (-1) (a_ne A) → e_w A M1 (zr A (-1) (a_ne A)) → r_x A M1 → Q T0 M1) : mm_met l G (d + 4) k_X12_goesAll [.ref 51] T0 M (mm_pv Q) :=
  c_X12_goesAll (by rw [hx.1.2.2.1]; exact hi.1.ne.1) hi.1.ne.2 (hx.pre hi) (fun e he => hx.ev hi he) (h _ rfl (zr_r hi hx (Nat.le_refl _)) (g_run_x hi hx (Nat.le_refl _)))
theorem r_x.sh {A X : mm_M} (h : r_x A X) {p : Nat} (hp : p < a_np A) (t : Int32) : g_sh X p t = z_sh A p t := by
  unfold z_sh g_sh
  rw [h.2.2.2.2 p 2 hp (by decide), h.2.2.2.2 p 3 hp (by decide), (zz_x A).2.2.2.2 p 2 hp (by decide), (zz_x A).2.2.2.2 p 3 hp (by decide)]

set_option maxHeartbeats 4000000 in
theorem c_X12_isLand {l : Launch} {G : mm_G} {d : Nat} {M : mm_M} {Q : Int32 → mm_T → mm_M → Prop} {A : mm_M} (hi : iv A) (hf : fr A M) {p : Int32} (ht : ∀ M1, r_x A M1 → 0 ≤ p.toInt ∧ p.toInt < a_nl A → Q 1 T0 M1) (hn : ∀ M1, r_x A M1 → ¬ (0 ≤ p.toInt ∧ p.toInt < a_nl A) → Q 0 T0 M1) : mm_met l G (d + 5) k_X12_isLand [.ref 51, .int p] T0 M (mm_pi Q) := by
  have n6 := hi.1.nl
  have n12 := hi.1.np
  have n24 := hi.1.ne.2
  refine mm_enter 0 [.ref 51, .int p] o_X12_isLand rfl rfl ?_
  refine mm_aload_0 1 dX12_isLand_0 rfl ?_
  refine mm_cV0v 4 dX12_isLand_1 v_X12_163 rfl t_51 (by decide) rfl rfl (Nat.le_of_ble_eq_true rfl) ⟨rfl, rfl⟩ ⟨Nat.zero_le _, Nat.zero_le _⟩ (b_find hi hf (fun M1 X1 => ?_))
  refine mm_iload_1 5 dX12_isLand_4 rfl ?_
  refine mm_i2l 6 dX12_isLand_5 rfl ?_
  refine mm_lconst 7 0 dX12_isLand_6 rfl (by decide) ?_
  refine mm_aload_0 8 dX12_isLand_7 rfl ?_
  refine mm_getI 11 dX12_isLand_8 f_X12_138 rfl t_51 rfl ?_
  refine mm_iconst 12 1 dX12_isLand_11 rfl (by decide) ?_
  refine mm_isub 13 dX12_isLand_12 rfl ?_
  refine mm_i2l 14 dX12_isLand_13 rfl ?_
  have k8 : (M1 51 8 - 1).toInt = (a_nl A : Int) - 1 := by rw [X1.2.1]; exact nI_m1 (by omega)
  refine mm_cS3i 17 dX12_isLand_14 v_X12_95 rfl (Nat.le_of_ble_eq_true rfl) ⟨rfl, rfl⟩ ⟨Nat.zero_le _, Nat.zero_le _⟩ (c_X12_in (fun h2 => ?_) (fun h2 => ?_))
  · refine mm_zret dX12_isLand_17 rfl ⟨rfl, Nat.zero_le _⟩ (Or.inr rfl) ?_
    refine ht _ X1 ?_
    try simp only [lg_cmp_lt, lg_cmp_gt, lg_cmp_le, lg_cmp_ge] at h2 k8
    try simp only [Int32.lt_iff_toInt_lt, Int32.le_iff_toInt_le, ← Int32.toInt_inj, vp_in_iff, Int32.reduceToInt, mm_t1, mm_t2, mm_t3, mm_t4, mm_t10, Int64.lt_iff_toInt_lt, Int64.le_iff_toInt_le, Int64.reduceToInt, Int32.toInt_toInt64] at h2 k8 ⊢
    omega
  · refine mm_zret dX12_isLand_17 rfl ⟨rfl, Nat.zero_le _⟩ (Or.inl rfl) ?_
    refine hn _ X1 ?_
    try simp only [lg_cmp_lt, lg_cmp_gt, lg_cmp_le, lg_cmp_ge] at h2 k8
    try simp only [Int32.lt_iff_toInt_lt, Int32.le_iff_toInt_le, ← Int32.toInt_inj, vp_in_iff, Int32.reduceToInt, mm_t1, mm_t2, mm_t3, mm_t4, mm_t10, Int64.lt_iff_toInt_lt, Int64.le_iff_toInt_le, Int64.reduceToInt, Int32.toInt_toInt64] at h2 k8 ⊢
    omega

set_option maxHeartbeats 4000000 in
theorem c_X12_isPerson {l : Launch} {G : mm_G} {d : Nat} {M : mm_M} {Q : Int32 → mm_T → mm_M → Prop} {A : mm_M} (hi : iv A) (hf : fr A M) {p : Int32} (ht : ∀ M1, r_x A M1 → 0 ≤ p.toInt ∧ p.toInt < a_np A → Q 1 T0 M1) (hn : ∀ M1, r_x A M1 → ¬ (0 ≤ p.toInt ∧ p.toInt < a_np A) → Q 0 T0 M1) : mm_met l G (d + 5) k_X12_isPerson [.ref 51, .int p] T0 M (mm_pi Q) := by
  have n6 := hi.1.nl
  have n12 := hi.1.np
  have n24 := hi.1.ne.2
  refine mm_enter 0 [.ref 51, .int p] o_X12_isPerson rfl rfl ?_
  refine mm_aload_0 1 dX12_isPerson_0 rfl ?_
  refine mm_cV0v 4 dX12_isPerson_1 v_X12_163 rfl t_51 (by decide) rfl rfl (Nat.le_of_ble_eq_true rfl) ⟨rfl, rfl⟩ ⟨Nat.zero_le _, Nat.zero_le _⟩ (b_find hi hf (fun M1 X1 => ?_))
  refine mm_iload_1 5 dX12_isPerson_4 rfl ?_
  refine mm_i2l 6 dX12_isPerson_5 rfl ?_
  refine mm_lconst 7 0 dX12_isPerson_6 rfl (by decide) ?_
  refine mm_aload_0 8 dX12_isPerson_7 rfl ?_
  refine mm_getI 11 dX12_isPerson_8 f_X12_144 rfl t_51 rfl ?_
  refine mm_iconst 12 1 dX12_isPerson_11 rfl (by decide) ?_
  refine mm_isub 13 dX12_isPerson_12 rfl ?_
  refine mm_i2l 14 dX12_isPerson_13 rfl ?_
  have k8 : (M1 51 10 - 1).toInt = (a_np A : Int) - 1 := by rw [X1.2.2.2.1]; exact nI_m1 (by omega)
  refine mm_cS3i 17 dX12_isPerson_14 v_X12_95 rfl (Nat.le_of_ble_eq_true rfl) ⟨rfl, rfl⟩ ⟨Nat.zero_le _, Nat.zero_le _⟩ (c_X12_in (fun h2 => ?_) (fun h2 => ?_))
  · refine mm_zret dX12_isPerson_17 rfl ⟨rfl, Nat.zero_le _⟩ (Or.inr rfl) ?_
    refine ht _ X1 ?_
    try simp only [lg_cmp_lt, lg_cmp_gt, lg_cmp_le, lg_cmp_ge] at h2 k8
    try simp only [Int32.lt_iff_toInt_lt, Int32.le_iff_toInt_le, ← Int32.toInt_inj, vp_in_iff, Int32.reduceToInt, mm_t1, mm_t2, mm_t3, mm_t4, mm_t10, Int64.lt_iff_toInt_lt, Int64.le_iff_toInt_le, Int64.reduceToInt, Int32.toInt_toInt64] at h2 k8 ⊢
    omega
  · refine mm_zret dX12_isPerson_17 rfl ⟨rfl, Nat.zero_le _⟩ (Or.inl rfl) ?_
    refine hn _ X1 ?_
    try simp only [lg_cmp_lt, lg_cmp_gt, lg_cmp_le, lg_cmp_ge] at h2 k8
    try simp only [Int32.lt_iff_toInt_lt, Int32.le_iff_toInt_le, ← Int32.toInt_inj, vp_in_iff, Int32.reduceToInt, mm_t1, mm_t2, mm_t3, mm_t4, mm_t10, Int64.lt_iff_toInt_lt, Int64.le_iff_toInt_le, Int64.reduceToInt, Int32.toInt_toInt64] at h2 k8 ⊢
    omega

set_option maxHeartbeats 4000000 in
theorem c_X12_isSo {l : Launch} {G : mm_G} {d : Nat} {M : mm_M} {Q : Int32 → mm_T → mm_M → Prop} {A : mm_M} (hi : iv A) (hf : fr A M) {k : Int32} (ht : 0 ≤ k.toInt ∧ k.toInt ≤ a_ne A → Q 1 T0 M) (hn : ¬ (0 ≤ k.toInt ∧ k.toInt ≤ a_ne A) → Q 0 T0 M) : mm_met l G (d + 1) k_X12_isSo [.ref 51, .int k] T0 M (mm_pi Q) := by
  have n6 := hi.1.nl
  have n12 := hi.1.np
  have n24 := hi.1.ne.2
  have k13 : (M 51 13).toInt = (a_ne A : Int) := by rw [hf.2.2.1, hi.1.ne.1]; exact mm_ti (by omega)
  refine mm_enter 0 [.ref 51, .int k] o_X12_isSo rfl rfl ?_
  refine mm_iload_1 1 dX12_isSo_0 rfl ?_
  refine mm_i2l 2 dX12_isSo_1 rfl ?_
  refine mm_lconst 3 0 dX12_isSo_2 rfl (by decide) ?_
  refine mm_aload_0 4 dX12_isSo_3 rfl ?_
  refine mm_getI 7 dX12_isSo_4 f_X12_184 rfl t_51 rfl ?_
  refine mm_i2l 8 dX12_isSo_7 rfl ?_
  refine mm_cS3i 11 dX12_isSo_8 v_X12_95 rfl (Nat.le_of_ble_eq_true rfl) ⟨rfl, rfl⟩ ⟨Nat.zero_le _, Nat.zero_le _⟩ (c_X12_in (fun h1 => ?_) (fun h1 => ?_))
  · refine mm_zret dX12_isSo_11 rfl ⟨rfl, Nat.zero_le _⟩ (Or.inr rfl) ?_
    refine ht ?_
    try simp only [lg_cmp_lt, lg_cmp_gt, lg_cmp_le, lg_cmp_ge] at h1 k13
    try simp only [Int32.lt_iff_toInt_lt, Int32.le_iff_toInt_le, ← Int32.toInt_inj, vp_in_iff, Int32.reduceToInt, mm_t1, mm_t2, mm_t3, mm_t4, mm_t10, Int64.lt_iff_toInt_lt, Int64.le_iff_toInt_le, Int64.reduceToInt, Int32.toInt_toInt64] at h1 k13 ⊢
    omega
  · refine mm_zret dX12_isSo_11 rfl ⟨rfl, Nat.zero_le _⟩ (Or.inl rfl) ?_
    refine hn ?_
    try simp only [lg_cmp_lt, lg_cmp_gt, lg_cmp_le, lg_cmp_ge] at h1 k13
    try simp only [Int32.lt_iff_toInt_lt, Int32.le_iff_toInt_le, ← Int32.toInt_inj, vp_in_iff, Int32.reduceToInt, mm_t1, mm_t2, mm_t3, mm_t4, mm_t10, Int64.lt_iff_toInt_lt, Int64.le_iff_toInt_le, Int64.reduceToInt, Int32.toInt_toInt64] at h1 k13 ⊢
    omega


theorem c_X12_faultOf' {l : Launch} {G : mm_G} {d : Nat} {M : mm_M} {Q : Int32 → mm_T → mm_M → Prop} {A : mm_M} (hi : iv A) (hf : fr A M) {t : Int32} (ht : 0 ≤ t.toInt ∧ t.toInt ≤ 1) (h : ∀ r M1, r = z_fault A t → r_x A M1 → Q r T0 M1) : mm_met l G (d + 4) k_X12_faultOf [.ref 51, .int t] T0 M (mm_pi Q) := by
  by_cases q : t.toInt = 0
  · have e : t = 0 := mm_ii q
    subst e
    exact c_X12_faultOf0 (hf.ok hi.1) (fun M1 h1 h2 => h _ M1 (by unfold z_fault; rw [if_pos q, hf.f0]) ⟨hf.rk h2, hf.dat h1⟩)
  · have q1 : t.toInt = 1 := by omega
    have e : t = 1 := mm_ii q1
    subst e
    exact c_X12_faultOf1 (hf.ok hi.1) (fun M1 h1 h2 => h _ M1 (by unfold z_fault; rw [if_neg q, if_pos q1, hf.f1]) ⟨hf.rk h2, hf.dat h1⟩)

set_option maxHeartbeats 4000000 in
theorem c_X12_fault {l : Launch} {G : mm_G} {d : Nat} {M : mm_M} {Q : Int32 → mm_T → mm_M → Prop} {A : mm_M} (hi : iv A) (hf : fr A M) {t : Int32} (h : ∀ r M1, r = z_fault A t → fr A M1 → Q r T0 M1) : mm_met l G (d + 5) k_X12_fault [.ref 51, .int t] T0 M (mm_pi Q) := by
  have n6 := hi.1.nl
  have n12 := hi.1.np
  have n24 := hi.1.ne.2
  refine mm_enter 0 [.ref 51, .int t] o_X12_fault rfl rfl ?_
  refine mm_iload_1 1 dX12_fault_0 rfl ?_
  refine mm_cS1i 4 dX12_fault_1 v_X12_124 rfl (Nat.le_of_ble_eq_true rfl) ⟨rfl, rfl⟩ ⟨Nat.zero_le _, Nat.zero_le _⟩ (c_X12_isTwo (fun h1 => ?_) (fun h1 => ?_))
  · refine mm_if_eq 15 7 dX12_fault_4 (by decide) rfl (fun h => absurd h (by decide)) (fun _ => ?_)
    refine mm_aload_0 8 dX12_fault_7 rfl ?_
    refine mm_iload_1 9 dX12_fault_8 rfl ?_
    refine mm_cV1i 12 dX12_fault_9 v_X12_160 rfl t_51 (by decide) rfl rfl (Nat.le_of_ble_eq_true rfl) ⟨rfl, rfl⟩ ⟨Nat.zero_le _, Nat.zero_le _⟩ (c_X12_faultOf' hi hf h1 (fun r2 M2 e2 X2 => ?_))
    refine mm_goto 17 dX12_fault_12 (by decide) ?_
    refine mm_iret dX12_fault_17 rfl ⟨rfl, Nat.zero_le _⟩ ?_
    exact h _ _ e2 X2.1
  · refine mm_if_eq 15 7 dX12_fault_4 (by decide) rfl (fun _ => ?_) (fun h => absurd h (by decide))
    refine mm_bipush 17 (-2) dX12_fault_15 rfl (by decide) ?_
    refine mm_iret dX12_fault_17 rfl ⟨rfl, Nat.zero_le _⟩ ?_
    refine h _ _ ?_ hf
    unfold z_fault
    rw [if_neg (by omega), if_neg (by omega)]

set_option maxHeartbeats 4000000 in
theorem c_X12_person {l : Launch} {G : mm_G} {d : Nat} {M : mm_M} {Q : Int32 → mm_T → mm_M → Prop} {A : mm_M} (hi : iv A) (hf : fr A M) {p w : Int32} (h : ∀ r M1, r = z_person A p w → fr A M1 → Q r T0 M1) : mm_met l G (d + 6) k_X12_person [.ref 51, .int p, .int w] T0 M (mm_pi Q) := by
  have n6 := hi.1.nl
  have n12 := hi.1.np
  have n24 := hi.1.ne.2
  refine mm_enter 0 [.ref 51, .int p, .int w] o_X12_person rfl rfl ?_
  refine mm_aload_0 1 dX12_person_0 rfl ?_
  refine mm_iload_1 2 dX12_person_1 rfl ?_
  refine mm_cV1i 5 dX12_person_2 v_X12_166 rfl t_51 (by decide) rfl rfl (Nat.le_of_ble_eq_true rfl) ⟨rfl, rfl⟩ ⟨Nat.zero_le _, Nat.zero_le _⟩ (c_X12_isPerson hi hf (fun M1 X1 h1 => ?_) (fun M1 X1 h1 => ?_))
  · refine mm_if_eq 33 8 dX12_person_5 (by decide) rfl (fun h => absurd h (by decide)) (fun _ => ?_)
    refine mm_iload_2 9 dX12_person_8 rfl ?_
    refine mm_i2l 10 dX12_person_9 rfl ?_
    refine mm_lconst 11 0 dX12_person_10 rfl (by decide) ?_
    refine mm_ldc2 14 3 dX12_person_11 rfl j_X12_103 ?_
    refine mm_cS3i 17 dX12_person_14 v_X12_95 rfl (Nat.le_of_ble_eq_true rfl) ⟨rfl, rfl⟩ ⟨Nat.zero_le _, Nat.zero_le _⟩ (c_X12_in (fun h2 => ?_) (fun h2 => ?_))
    · refine mm_if_eq 33 20 dX12_person_17 (by decide) rfl (fun h => absurd h (by decide)) (fun _ => ?_)
      have cp := mm_cl2 (x := p) (n := a_np A) (by (try simp only [lg_cmp_lt, lg_cmp_gt, lg_cmp_le, lg_cmp_ge] at h1 h2); (try simp only [Int32.lt_iff_toInt_lt, Int32.le_iff_toInt_le, ← Int32.toInt_inj, vp_in_iff, Int32.reduceToInt, mm_t1, mm_t2, mm_t3, mm_t4, mm_t10, Int64.lt_iff_toInt_lt, Int64.le_iff_toInt_le, Int64.reduceToInt, Int32.toInt_toInt64] at h1 h2 ⊢); omega)
      have cw := mm_cl2 (x := w) (n := 4) (by (try simp only [lg_cmp_lt, lg_cmp_gt, lg_cmp_le, lg_cmp_ge] at h1 h2); (try simp only [Int32.lt_iff_toInt_lt, Int32.le_iff_toInt_le, ← Int32.toInt_inj, vp_in_iff, Int32.reduceToInt, mm_t1, mm_t2, mm_t3, mm_t4, mm_t10, Int64.lt_iff_toInt_lt, Int64.le_iff_toInt_le, Int64.reduceToInt, Int32.toInt_toInt64] at h1 h2 ⊢); omega)
      refine mm_aload_0 21 dX12_person_20 rfl ?_
      refine mm_getR 24 dX12_person_21 f_X12_31 rfl t_51 rfl ?_
      refine mm_iconst 25 4 dX12_person_24 rfl (by decide) ?_
      refine mm_iload_1 26 dX12_person_25 rfl ?_
      refine mm_imul 27 dX12_person_26 rfl ?_
      refine mm_iload_2 28 dX12_person_27 rfl ?_
      refine mm_iadd 29 dX12_person_28 rfl ?_
      refine mm_ialoadn 30 (4 * p.toNatClampNeg + w.toNatClampNeg) dX12_person_29 rfl t_59 (by decide) (by rw [mm_l4, cp.1, cw.1, pk_mul, nI_add, mm_cn (by omega), mm_cn (by omega)]) (by omega) ?_
      refine mm_goto 35 dX12_person_30 (by decide) ?_
      refine mm_iret dX12_person_35 rfl ⟨rfl, Nat.zero_le _⟩ ?_
      refine h _ _ ?_ X1.1
      unfold z_person
      rw [if_pos (by (try simp only [lg_cmp_lt, lg_cmp_gt, lg_cmp_le, lg_cmp_ge] at h1 h2); (try simp only [Int32.lt_iff_toInt_lt, Int32.le_iff_toInt_le, ← Int32.toInt_inj, vp_in_iff, Int32.reduceToInt, mm_t1, mm_t2, mm_t3, mm_t4, mm_t10, Int64.lt_iff_toInt_lt, Int64.le_iff_toInt_le, Int64.reduceToInt, Int32.toInt_toInt64] at h1 h2 ⊢); omega)]
      exact X1.2.2.2.2 _ _ cp.2.1 cw.2.1
    · refine mm_if_eq 33 20 dX12_person_17 (by decide) rfl (fun _ => ?_) (fun h => absurd h (by decide))
      refine mm_bipush 35 (-2) dX12_person_33 rfl (by decide) ?_
      refine mm_iret dX12_person_35 rfl ⟨rfl, Nat.zero_le _⟩ ?_
      refine h _ _ ?_ X1.1
      unfold z_person
      rw [if_neg (by (try simp only [lg_cmp_lt, lg_cmp_gt, lg_cmp_le, lg_cmp_ge] at h1 h2); (try simp only [Int32.lt_iff_toInt_lt, Int32.le_iff_toInt_le, ← Int32.toInt_inj, vp_in_iff, Int32.reduceToInt, mm_t1, mm_t2, mm_t3, mm_t4, mm_t10, Int64.lt_iff_toInt_lt, Int64.le_iff_toInt_le, Int64.reduceToInt, Int32.toInt_toInt64] at h1 h2); omega)]
  · refine mm_if_eq 33 8 dX12_person_5 (by decide) rfl (fun _ => ?_) (fun h => absurd h (by decide))
    refine mm_bipush 35 (-2) dX12_person_33 rfl (by decide) ?_
    refine mm_iret dX12_person_35 rfl ⟨rfl, Nat.zero_le _⟩ ?_
    refine h _ _ ?_ X1.1
    unfold z_person
    rw [if_neg (by (try simp only [lg_cmp_lt, lg_cmp_gt, lg_cmp_le, lg_cmp_ge] at h1); (try simp only [Int32.lt_iff_toInt_lt, Int32.le_iff_toInt_le, ← Int32.toInt_inj, vp_in_iff, Int32.reduceToInt, mm_t1, mm_t2, mm_t3, mm_t4, mm_t10, Int64.lt_iff_toInt_lt, Int64.le_iff_toInt_le, Int64.reduceToInt, Int32.toInt_toInt64] at h1); omega)]

set_option maxHeartbeats 4000000 in
theorem c_X12_shadow {l : Launch} {G : mm_G} {d : Nat} {M : mm_M} {Q : Int32 → mm_T → mm_M → Prop} {A : mm_M} (hi : iv A) (hf : fr A M) {p t : Int32} (h : ∀ r M1, r = z_shadow A p t → fr A M1 → Q r T0 M1) : mm_met l G (d + 6) k_X12_shadow [.ref 51, .int p, .int t] T0 M (mm_pi Q) := by
  have n6 := hi.1.nl
  have n12 := hi.1.np
  have n24 := hi.1.ne.2
  refine mm_enter 0 [.ref 51, .int p, .int t] o_X12_shadow rfl rfl ?_
  refine mm_aload_0 1 dX12_shadow_0 rfl ?_
  refine mm_iload_1 2 dX12_shadow_1 rfl ?_
  refine mm_cV1i 5 dX12_shadow_2 v_X12_166 rfl t_51 (by decide) rfl rfl (Nat.le_of_ble_eq_true rfl) ⟨rfl, rfl⟩ ⟨Nat.zero_le _, Nat.zero_le _⟩ (c_X12_isPerson hi hf (fun M1 X1 h1 => ?_) (fun M1 X1 h1 => ?_))
  · refine mm_if_eq 24 8 dX12_shadow_5 (by decide) rfl (fun h => absurd h (by decide)) (fun _ => ?_)
    refine mm_iload_2 9 dX12_shadow_8 rfl ?_
    refine mm_cS1i 12 dX12_shadow_9 v_X12_173 rfl (Nat.le_of_ble_eq_true rfl) ⟨rfl, rfl⟩ ⟨Nat.zero_le _, Nat.zero_le _⟩ (c_X12_isHour (fun h2 => ?_) (fun h2 => ?_))
    · refine mm_if_eq 24 15 dX12_shadow_12 (by decide) rfl (fun h => absurd h (by decide)) (fun _ => ?_)
      have cp := mm_cl2 (x := p) (n := a_np A) (by (try simp only [lg_cmp_lt, lg_cmp_gt, lg_cmp_le, lg_cmp_ge] at h1 h2); (try simp only [Int32.lt_iff_toInt_lt, Int32.le_iff_toInt_le, ← Int32.toInt_inj, vp_in_iff, Int32.reduceToInt, mm_t1, mm_t2, mm_t3, mm_t4, mm_t10, Int64.lt_iff_toInt_lt, Int64.le_iff_toInt_le, Int64.reduceToInt, Int32.toInt_toInt64] at h1 h2 ⊢); omega)
      refine mm_aload_0 16 dX12_shadow_15 rfl ?_
      refine mm_iload_1 17 dX12_shadow_16 rfl ?_
      refine mm_iload_2 18 dX12_shadow_17 rfl ?_
      refine mm_cV2i 21 dX12_shadow_18 v_X12_176 rfl t_51 (by decide) rfl rfl (Nat.le_of_ble_eq_true rfl) ⟨rfl, rfl⟩ ⟨Nat.zero_le _, Nat.zero_le _⟩ (c_X12_shadowOf cp.1 (by omega) (fun r3 e3 => ?_))
      refine mm_goto 26 dX12_shadow_21 (by decide) ?_
      refine mm_iret dX12_shadow_26 rfl ⟨rfl, Nat.zero_le _⟩ ?_
      refine h _ _ ?_ X1.1
      unfold z_shadow
      rw [if_pos (by (try simp only [lg_cmp_lt, lg_cmp_gt, lg_cmp_le, lg_cmp_ge] at h1 h2); (try simp only [Int32.lt_iff_toInt_lt, Int32.le_iff_toInt_le, ← Int32.toInt_inj, vp_in_iff, Int32.reduceToInt, mm_t1, mm_t2, mm_t3, mm_t4, mm_t10, Int64.lt_iff_toInt_lt, Int64.le_iff_toInt_le, Int64.reduceToInt, Int32.toInt_toInt64] at h1 h2 ⊢); omega)]
      rw [e3]
      exact X1.sh cp.2.1 _
    · refine mm_if_eq 24 15 dX12_shadow_12 (by decide) rfl (fun _ => ?_) (fun h => absurd h (by decide))
      refine mm_bipush 26 (-2) dX12_shadow_24 rfl (by decide) ?_
      refine mm_iret dX12_shadow_26 rfl ⟨rfl, Nat.zero_le _⟩ ?_
      refine h _ _ ?_ X1.1
      unfold z_shadow
      rw [if_neg (by (try simp only [lg_cmp_lt, lg_cmp_gt, lg_cmp_le, lg_cmp_ge] at h1 h2); (try simp only [Int32.lt_iff_toInt_lt, Int32.le_iff_toInt_le, ← Int32.toInt_inj, vp_in_iff, Int32.reduceToInt, mm_t1, mm_t2, mm_t3, mm_t4, mm_t10, Int64.lt_iff_toInt_lt, Int64.le_iff_toInt_le, Int64.reduceToInt, Int32.toInt_toInt64] at h1 h2); omega)]
  · refine mm_if_eq 24 8 dX12_shadow_5 (by decide) rfl (fun _ => ?_) (fun h => absurd h (by decide))
    refine mm_bipush 26 (-2) dX12_shadow_24 rfl (by decide) ?_
    refine mm_iret dX12_shadow_26 rfl ⟨rfl, Nat.zero_le _⟩ ?_
    refine h _ _ ?_ X1.1
    unfold z_shadow
    rw [if_neg (by (try simp only [lg_cmp_lt, lg_cmp_gt, lg_cmp_le, lg_cmp_ge] at h1); (try simp only [Int32.lt_iff_toInt_lt, Int32.le_iff_toInt_le, ← Int32.toInt_inj, vp_in_iff, Int32.reduceToInt, mm_t1, mm_t2, mm_t3, mm_t4, mm_t10, Int64.lt_iff_toInt_lt, Int64.le_iff_toInt_le, Int64.reduceToInt, Int32.toInt_toInt64] at h1); omega)]

set_option maxHeartbeats 4000000 in
theorem c_X12_judged {l : Launch} {G : mm_G} {d : Nat} {M : mm_M} {Q : Int32 → mm_T → mm_M → Prop} {A : mm_M} (hi : iv A) (hf : fr A M) (h : ∀ r M1, r = z_judged A → fr A M1 → Q r T0 M1) : mm_met l G (d + 5) k_X12_judged [.ref 51] T0 M (mm_pi Q) := by
  have n6 := hi.1.nl
  have n12 := hi.1.np
  have n24 := hi.1.ne.2
  refine mm_enter 0 [.ref 51] o_X12_judged rfl rfl ?_
  refine mm_aload_0 1 dX12_judged_0 rfl ?_
  refine mm_cV0v 4 dX12_judged_1 v_X12_163 rfl t_51 (by decide) rfl rfl (Nat.le_of_ble_eq_true rfl) ⟨rfl, rfl⟩ ⟨Nat.zero_le _, Nat.zero_le _⟩ (b_find hi hf (fun M1 X1 => ?_))
  refine mm_aload_0 5 dX12_judged_4 rfl ?_
  refine mm_cV0v 8 dX12_judged_5 v_X12_242 rfl t_51 (by decide) rfl rfl (Nat.le_of_ble_eq_true rfl) ⟨rfl, rfl⟩ ⟨Nat.zero_le _, Nat.zero_le _⟩ (b_goesAll hi X1 (fun M2 g2 w2 X2 => ?_))
  refine mm_aload_0 9 dX12_judged_8 rfl ?_
  refine mm_getI 12 dX12_judged_9 f_X12_209 rfl t_51 rfl ?_
  refine mm_iret dX12_judged_12 rfl ⟨rfl, Nat.zero_le _⟩ ?_
  exact h _ _ w2.2.2.2.2 X2.1

set_option maxHeartbeats 4000000 in
theorem c_X12_moved {l : Launch} {G : mm_G} {d : Nat} {M : mm_M} {Q : Int32 → mm_T → mm_M → Prop} {A : mm_M} (hi : iv A) (hf : fr A M) {e : Int32} (h : ∀ r M1, r = z_moved A e → fr A M1 → Q r T0 M1) : mm_met l G (d + 5) k_X12_moved [.ref 51, .int e] T0 M (mm_pi Q) := by
  have n6 := hi.1.nl
  have n12 := hi.1.np
  have n24 := hi.1.ne.2
  refine mm_enter 0 [.ref 51, .int e] o_X12_moved rfl rfl ?_
  refine mm_aload_0 1 dX12_moved_0 rfl ?_
  refine mm_cV0v 4 dX12_moved_1 v_X12_163 rfl t_51 (by decide) rfl rfl (Nat.le_of_ble_eq_true rfl) ⟨rfl, rfl⟩ ⟨Nat.zero_le _, Nat.zero_le _⟩ (b_find hi hf (fun M1 X1 => ?_))
  refine mm_iload_1 5 dX12_moved_4 rfl ?_
  refine mm_i2l 6 dX12_moved_5 rfl ?_
  refine mm_lconst 7 0 dX12_moved_6 rfl (by decide) ?_
  refine mm_aload_0 8 dX12_moved_7 rfl ?_
  refine mm_getI 11 dX12_moved_8 f_X12_184 rfl t_51 rfl ?_
  refine mm_iconst 12 1 dX12_moved_11 rfl (by decide) ?_
  refine mm_isub 13 dX12_moved_12 rfl ?_
  refine mm_i2l 14 dX12_moved_13 rfl ?_
  have k8 : (M1 51 13 - 1).toInt = (a_ne A : Int) - 1 := by rw [(X1.1.2.2.1.trans hi.1.ne.1)]; exact nI_m1 (by omega)
  refine mm_cS3i 17 dX12_moved_14 v_X12_95 rfl (Nat.le_of_ble_eq_true rfl) ⟨rfl, rfl⟩ ⟨Nat.zero_le _, Nat.zero_le _⟩ (c_X12_in (fun h2 => ?_) (fun h2 => ?_))
  · refine mm_if_ne 24 20 dX12_moved_17 (by decide) rfl (fun _ => ?_) (fun h => absurd h (by decide))
    have ce := mm_cl2 (x := e) (n := a_ne A) (by (try simp only [lg_cmp_lt, lg_cmp_gt, lg_cmp_le, lg_cmp_ge] at h2 k8); (try simp only [Int32.lt_iff_toInt_lt, Int32.le_iff_toInt_le, ← Int32.toInt_inj, vp_in_iff, Int32.reduceToInt, mm_t1, mm_t2, mm_t3, mm_t4, mm_t10, Int64.lt_iff_toInt_lt, Int64.le_iff_toInt_le, Int64.reduceToInt, Int32.toInt_toInt64] at h2 k8 ⊢); omega)
    refine mm_aload_0 25 dX12_moved_24 rfl ?_
    refine mm_cV0v 28 dX12_moved_25 v_X12_242 rfl t_51 (by decide) rfl rfl (Nat.le_of_ble_eq_true rfl) ⟨rfl, rfl⟩ ⟨Nat.zero_le _, Nat.zero_le _⟩ (b_goesAll hi X1 (fun M3 g3 w3 X3 => ?_))
    refine mm_aload_0 29 dX12_moved_28 rfl ?_
    refine mm_getR 32 dX12_moved_29 f_X12_58 rfl t_51 rfl ?_
    refine mm_iload_1 33 dX12_moved_32 rfl ?_
    refine mm_ialoadn 34 (e.toNatClampNeg) dX12_moved_33 rfl t_68 (by decide) (ce.1) (by omega) ?_
    refine mm_iret dX12_moved_34 rfl ⟨rfl, Nat.zero_le _⟩ ?_
    refine h _ _ ?_ X3.1
    unfold z_moved
    rw [if_pos (by (try simp only [lg_cmp_lt, lg_cmp_gt, lg_cmp_le, lg_cmp_ge] at h2); (try simp only [Int32.lt_iff_toInt_lt, Int32.le_iff_toInt_le, ← Int32.toInt_inj, vp_in_iff, Int32.reduceToInt, mm_t1, mm_t2, mm_t3, mm_t4, mm_t10, Int64.lt_iff_toInt_lt, Int64.le_iff_toInt_le, Int64.reduceToInt, Int32.toInt_toInt64] at h2 ⊢); omega)]
    rw [g3]
    exact zm_r hi X1 ce.2.1 (Nat.le_refl _)
  · refine mm_if_ne 24 20 dX12_moved_17 (by decide) rfl (fun h => absurd h (by decide)) (fun _ => ?_)
    refine mm_sipush 23 (-10002) dX12_moved_20 rfl (by decide) ?_
    refine mm_iret dX12_moved_23 rfl ⟨rfl, Nat.zero_le _⟩ ?_
    refine h _ _ ?_ X1.1
    unfold z_moved
    rw [if_neg (by (try simp only [lg_cmp_lt, lg_cmp_gt, lg_cmp_le, lg_cmp_ge] at h2); (try simp only [Int32.lt_iff_toInt_lt, Int32.le_iff_toInt_le, ← Int32.toInt_inj, vp_in_iff, Int32.reduceToInt, mm_t1, mm_t2, mm_t3, mm_t4, mm_t10, Int64.lt_iff_toInt_lt, Int64.le_iff_toInt_le, Int64.reduceToInt, Int32.toInt_toInt64] at h2); omega)]

set_option maxHeartbeats 4000000 in
theorem c_X12_widthOf {l : Launch} {G : mm_G} {d : Nat} {M : mm_M} {Q : Int32 → mm_T → mm_M → Prop} {A : mm_M} (hi : iv A) (hx : r_x A M) {x k y : Int32} {kk : Nat} (hl : 0 ≤ x.toInt ∧ x.toInt < a_nl A) (hk : k = nI kk) (hn : kk ≤ a_ne A) (h : ∀ r M1, r = zr A y kk 62 x.toNatClampNeg → r_x A M1 → Q r T0 M1) : mm_met l G (d + 4) k_X12_widthOf [.ref 51, .int x, .int k, .int y] T0 M (mm_pi Q) := by
  have n6 := hi.1.nl
  have n12 := hi.1.np
  have n24 := hi.1.ne.2
  have cx := mm_cl2 (x := x) (n := a_nl A) hl
  refine mm_enter 0 [.ref 51, .int x, .int k, .int y] o_X12_widthOf rfl rfl ?_
  refine mm_aload_0 1 dX12_widthOf_0 rfl ?_
  refine mm_iload_2 2 dX12_widthOf_1 rfl ?_
  refine mm_iload_3 3 dX12_widthOf_2 rfl ?_
  refine mm_cV2v 6 dX12_widthOf_3 v_X12_238 rfl t_51 (by decide) rfl rfl (Nat.le_of_ble_eq_true rfl) ⟨rfl, rfl⟩ ⟨Nat.zero_le _, Nat.zero_le _⟩ (b_goes hi hx hk hn (fun M1 g1 w1 X1 => ?_))
  refine mm_aload_0 7 dX12_widthOf_6 rfl ?_
  refine mm_getR 10 dX12_widthOf_7 f_X12_40 rfl t_51 rfl ?_
  refine mm_iload_1 11 dX12_widthOf_10 rfl ?_
  refine mm_ialoadn 12 (x.toNatClampNeg) dX12_widthOf_11 rfl t_62 (by decide) (cx.1) (by omega) ?_
  refine mm_iret dX12_widthOf_12 rfl ⟨rfl, Nat.zero_le _⟩ ?_
  exact h _ _ (w1.1 _ cx.2.1) X1

set_option maxHeartbeats 4000000 in
theorem c_X12_width {l : Launch} {G : mm_G} {d : Nat} {M : mm_M} {Q : Int32 → mm_T → mm_M → Prop} {A : mm_M} (hi : iv A) (hf : fr A M) {x k : Int32} (h : ∀ r M1, r = z_width A x k → fr A M1 → Q r T0 M1) : mm_met l G (d + 6) k_X12_width [.ref 51, .int x, .int k] T0 M (mm_pi Q) := by
  have n6 := hi.1.nl
  have n12 := hi.1.np
  have n24 := hi.1.ne.2
  refine mm_enter 0 [.ref 51, .int x, .int k] o_X12_width rfl rfl ?_
  refine mm_aload_0 1 dX12_width_0 rfl ?_
  refine mm_iload_1 2 dX12_width_1 rfl ?_
  refine mm_cV1i 5 dX12_width_2 v_X12_245 rfl t_51 (by decide) rfl rfl (Nat.le_of_ble_eq_true rfl) ⟨rfl, rfl⟩ ⟨Nat.zero_le _, Nat.zero_le _⟩ (c_X12_isLand hi hf (fun M1 X1 h1 => ?_) (fun M1 X1 h1 => ?_))
  · refine mm_if_eq 26 8 dX12_width_5 (by decide) rfl (fun h => absurd h (by decide)) (fun _ => ?_)
    refine mm_aload_0 9 dX12_width_8 rfl ?_
    refine mm_iload_2 10 dX12_width_9 rfl ?_
    refine mm_cV1i 13 dX12_width_10 v_X12_248 rfl t_51 (by decide) rfl rfl (Nat.le_of_ble_eq_true rfl) ⟨rfl, rfl⟩ ⟨Nat.zero_le _, Nat.zero_le _⟩ (c_X12_isSo hi X1.1 (fun h2 => ?_) (fun h2 => ?_))
    · refine mm_if_eq 26 16 dX12_width_13 (by decide) rfl (fun h => absurd h (by decide)) (fun _ => ?_)
      have ck := mm_cl2 (x := k) (n := 25) (by (try simp only [lg_cmp_lt, lg_cmp_gt, lg_cmp_le, lg_cmp_ge] at h1 h2); (try simp only [Int32.lt_iff_toInt_lt, Int32.le_iff_toInt_le, ← Int32.toInt_inj, vp_in_iff, Int32.reduceToInt, mm_t1, mm_t2, mm_t3, mm_t4, mm_t10, Int64.lt_iff_toInt_lt, Int64.le_iff_toInt_le, Int64.reduceToInt, Int32.toInt_toInt64] at h1 h2 ⊢); omega)
      refine mm_aload_0 17 dX12_width_16 rfl ?_
      refine mm_iload_1 18 dX12_width_17 rfl ?_
      refine mm_iload_2 19 dX12_width_18 rfl ?_
      refine mm_iconst 20 (-1) dX12_width_19 rfl (by decide) ?_
      refine mm_cV3i 23 dX12_width_20 v_X12_251 rfl t_51 (by decide) rfl rfl (Nat.le_of_ble_eq_true rfl) ⟨rfl, rfl⟩ ⟨Nat.zero_le _, Nat.zero_le _⟩ (c_X12_widthOf hi X1 (by omega) ck.1 (by omega) (fun r3 M3 e3 X3 => ?_))
      refine mm_goto 28 dX12_width_23 (by decide) ?_
      refine mm_iret dX12_width_28 rfl ⟨rfl, Nat.zero_le _⟩ ?_
      refine h _ _ ?_ X3.1
      unfold z_width
      rw [if_pos (by (try simp only [lg_cmp_lt, lg_cmp_gt, lg_cmp_le, lg_cmp_ge] at h1 h2); (try simp only [Int32.lt_iff_toInt_lt, Int32.le_iff_toInt_le, ← Int32.toInt_inj, vp_in_iff, Int32.reduceToInt, mm_t1, mm_t2, mm_t3, mm_t4, mm_t10, Int64.lt_iff_toInt_lt, Int64.le_iff_toInt_le, Int64.reduceToInt, Int32.toInt_toInt64] at h1 h2 ⊢); omega)]
      exact e3
    · refine mm_if_eq 26 16 dX12_width_13 (by decide) rfl (fun _ => ?_) (fun h => absurd h (by decide))
      refine mm_bipush 28 (-2) dX12_width_26 rfl (by decide) ?_
      refine mm_iret dX12_width_28 rfl ⟨rfl, Nat.zero_le _⟩ ?_
      refine h _ _ ?_ X1.1
      unfold z_width
      rw [if_neg (by (try simp only [lg_cmp_lt, lg_cmp_gt, lg_cmp_le, lg_cmp_ge] at h1 h2); (try simp only [Int32.lt_iff_toInt_lt, Int32.le_iff_toInt_le, ← Int32.toInt_inj, vp_in_iff, Int32.reduceToInt, mm_t1, mm_t2, mm_t3, mm_t4, mm_t10, Int64.lt_iff_toInt_lt, Int64.le_iff_toInt_le, Int64.reduceToInt, Int32.toInt_toInt64] at h1 h2); omega)]
  · refine mm_if_eq 26 8 dX12_width_5 (by decide) rfl (fun _ => ?_) (fun h => absurd h (by decide))
    refine mm_bipush 28 (-2) dX12_width_26 rfl (by decide) ?_
    refine mm_iret dX12_width_28 rfl ⟨rfl, Nat.zero_le _⟩ ?_
    refine h _ _ ?_ X1.1
    unfold z_width
    rw [if_neg (by (try simp only [lg_cmp_lt, lg_cmp_gt, lg_cmp_le, lg_cmp_ge] at h1); (try simp only [Int32.lt_iff_toInt_lt, Int32.le_iff_toInt_le, ← Int32.toInt_inj, vp_in_iff, Int32.reduceToInt, mm_t1, mm_t2, mm_t3, mm_t4, mm_t10, Int64.lt_iff_toInt_lt, Int64.le_iff_toInt_le, Int64.reduceToInt, Int32.toInt_toInt64] at h1); omega)]

set_option maxHeartbeats 4000000 in
theorem c_X12_stateNow {l : Launch} {G : mm_G} {d : Nat} {M : mm_M} {Q : Int32 → mm_T → mm_M → Prop} {x w : Int32} {p : Nat} (hx : x = nI p) (hp : p < 12) (h : ∀ r, r = z_now M p w → Q r T0 M) : mm_met l G d k_X12_stateNow [.ref 51, .int x, .int w] T0 M (mm_pi Q) := by
  refine mm_enter 0 [.ref 51, .int x, .int w] o_X12_stateNow rfl rfl ?_
  refine mm_iload_2 1 dX12_stateNow_0 rfl ?_
  refine mm_if_ne 13 4 dX12_stateNow_1 (by decide) rfl (fun h1 => ?_) (fun h1 => ?_)
  · refine mm_iload_2 14 dX12_stateNow_13 rfl ?_
    refine mm_iconst 15 1 dX12_stateNow_14 rfl (by decide) ?_
    refine mm_ic_ne 27 18 dX12_stateNow_15 (by decide) rfl (fun h2 => ?_) (fun h2 => ?_)
    · refine mm_aload_0 28 dX12_stateNow_27 rfl ?_
      refine mm_getR 31 dX12_stateNow_28 f_X12_55 rfl t_51 rfl ?_
      refine mm_iload_1 32 dX12_stateNow_31 rfl ?_
      refine mm_ialoadn 33 (p) dX12_stateNow_32 rfl t_67 (by decide) (hx) (by omega) ?_
      refine mm_iret dX12_stateNow_33 rfl ⟨rfl, Nat.zero_le _⟩ ?_
      refine h _ ?_
      unfold z_now
      (try simp only [Int32.lt_iff_toInt_lt, Int32.le_iff_toInt_le, ← Int32.toInt_inj, vp_in_iff, Int32.reduceToInt, mm_t1, mm_t2, mm_t3, mm_t4, mm_t10] at h1 h2)
      rw [if_neg (by omega), if_neg (by omega)]
    · refine mm_aload_0 19 dX12_stateNow_18 rfl ?_
      refine mm_getR 22 dX12_stateNow_19 f_X12_52 rfl t_51 rfl ?_
      refine mm_iload_1 23 dX12_stateNow_22 rfl ?_
      refine mm_ialoadn 24 (p) dX12_stateNow_23 rfl t_66 (by decide) (hx) (by omega) ?_
      refine mm_goto 33 dX12_stateNow_24 (by decide) ?_
      refine mm_iret dX12_stateNow_33 rfl ⟨rfl, Nat.zero_le _⟩ ?_
      refine h _ ?_
      unfold z_now
      (try simp only [Int32.lt_iff_toInt_lt, Int32.le_iff_toInt_le, ← Int32.toInt_inj, vp_in_iff, Int32.reduceToInt, mm_t1, mm_t2, mm_t3, mm_t4, mm_t10] at h1 h2)
      rw [if_neg (by omega), if_pos (by omega)]
  · refine mm_aload_0 5 dX12_stateNow_4 rfl ?_
    refine mm_getR 8 dX12_stateNow_5 f_X12_43 rfl t_51 rfl ?_
    refine mm_iload_1 9 dX12_stateNow_8 rfl ?_
    refine mm_ialoadn 10 (p) dX12_stateNow_9 rfl t_63 (by decide) (hx) (by omega) ?_
    refine mm_goto 33 dX12_stateNow_10 (by decide) ?_
    refine mm_iret dX12_stateNow_33 rfl ⟨rfl, Nat.zero_le _⟩ ?_
    refine h _ ?_
    unfold z_now
    (try simp only [Int32.lt_iff_toInt_lt, Int32.le_iff_toInt_le, ← Int32.toInt_inj, vp_in_iff, Int32.reduceToInt, mm_t1, mm_t2, mm_t3, mm_t4, mm_t10] at h1)
    rw [if_pos (by omega)]


theorem e_w.now {A X Y : mm_M} (h : e_w A X Y) {p : Nat} (hp : p < a_np A) (w : Int32) : z_now X p w = z_now Y p w := by
  obtain ⟨h1, h2, h3⟩ := h.2.1 p hp
  unfold z_now
  rw [h1, h2, h3]

set_option maxHeartbeats 4000000 in
theorem c_X12_state {l : Launch} {G : mm_G} {d : Nat} {M : mm_M} {Q : Int32 → mm_T → mm_M → Prop} {A : mm_M} (hi : iv A) (hf : fr A M) {p k w : Int32} (h : ∀ r M1, r = z_state A p k w → fr A M1 → Q r T0 M1) : mm_met l G (d + 6) k_X12_state [.ref 51, .int p, .int k, .int w] T0 M (mm_pi Q) := by
  have n6 := hi.1.nl
  have n12 := hi.1.np
  have n24 := hi.1.ne.2
  refine mm_enter 0 [.ref 51, .int p, .int k, .int w] o_X12_state rfl rfl ?_
  refine mm_aload_0 1 dX12_state_0 rfl ?_
  refine mm_iload_1 2 dX12_state_1 rfl ?_
  refine mm_cV1i 5 dX12_state_2 v_X12_166 rfl t_51 (by decide) rfl rfl (Nat.le_of_ble_eq_true rfl) ⟨rfl, rfl⟩ ⟨Nat.zero_le _, Nat.zero_le _⟩ (c_X12_isPerson hi hf (fun M1 X1 h1 => ?_) (fun M1 X1 h1 => ?_))
  · refine mm_if_eq 28 8 dX12_state_5 (by decide) rfl (fun h => absurd h (by decide)) (fun _ => ?_)
    refine mm_aload_0 9 dX12_state_8 rfl ?_
    refine mm_iload_2 10 dX12_state_9 rfl ?_
    refine mm_cV1i 13 dX12_state_10 v_X12_248 rfl t_51 (by decide) rfl rfl (Nat.le_of_ble_eq_true rfl) ⟨rfl, rfl⟩ ⟨Nat.zero_le _, Nat.zero_le _⟩ (c_X12_isSo hi X1.1 (fun h2 => ?_) (fun h2 => ?_))
    · refine mm_if_eq 28 16 dX12_state_13 (by decide) rfl (fun h => absurd h (by decide)) (fun _ => ?_)
      refine mm_iload_3 17 dX12_state_16 rfl ?_
      refine mm_i2l 18 dX12_state_17 rfl ?_
      refine mm_lconst 19 0 dX12_state_18 rfl (by decide) ?_
      refine mm_ldc2 22 2 dX12_state_19 rfl j_X12_109 ?_
      refine mm_cS3i 25 dX12_state_22 v_X12_95 rfl (Nat.le_of_ble_eq_true rfl) ⟨rfl, rfl⟩ ⟨Nat.zero_le _, Nat.zero_le _⟩ (c_X12_in (fun h3 => ?_) (fun h3 => ?_))
      · refine mm_if_ne 31 28 dX12_state_25 (by decide) rfl (fun _ => ?_) (fun h => absurd h (by decide))
        have cp := mm_cl2 (x := p) (n := a_np A) (by (try simp only [lg_cmp_lt, lg_cmp_gt, lg_cmp_le, lg_cmp_ge] at h1 h2 h3); (try simp only [Int32.lt_iff_toInt_lt, Int32.le_iff_toInt_le, ← Int32.toInt_inj, vp_in_iff, Int32.reduceToInt, mm_t1, mm_t2, mm_t3, mm_t4, mm_t10, Int64.lt_iff_toInt_lt, Int64.le_iff_toInt_le, Int64.reduceToInt, Int32.toInt_toInt64] at h1 h2 h3 ⊢); omega)
        have ck := mm_cl2 (x := k) (n := 25) (by (try simp only [lg_cmp_lt, lg_cmp_gt, lg_cmp_le, lg_cmp_ge] at h1 h2 h3); (try simp only [Int32.lt_iff_toInt_lt, Int32.le_iff_toInt_le, ← Int32.toInt_inj, vp_in_iff, Int32.reduceToInt, mm_t1, mm_t2, mm_t3, mm_t4, mm_t10, Int64.lt_iff_toInt_lt, Int64.le_iff_toInt_le, Int64.reduceToInt, Int32.toInt_toInt64] at h1 h2 h3 ⊢); omega)
        refine mm_aload_0 32 dX12_state_31 rfl ?_
        refine mm_iload_2 33 dX12_state_32 rfl ?_
        refine mm_iconst 34 (-1) dX12_state_33 rfl (by decide) ?_
        refine mm_cV2v 37 dX12_state_34 v_X12_238 rfl t_51 (by decide) rfl rfl (Nat.le_of_ble_eq_true rfl) ⟨rfl, rfl⟩ ⟨Nat.zero_le _, Nat.zero_le _⟩ (b_goes hi X1 ck.1 (by omega) (fun M4 g4 w4 X4 => ?_))
        refine mm_aload_0 38 dX12_state_37 rfl ?_
        refine mm_iload_1 39 dX12_state_38 rfl ?_
        refine mm_iload_3 40 dX12_state_39 rfl ?_
        refine mm_cV2i 43 dX12_state_40 v_X12_254 rfl t_51 (by decide) rfl rfl (Nat.le_of_ble_eq_true rfl) ⟨rfl, rfl⟩ ⟨Nat.zero_le _, Nat.zero_le _⟩ (c_X12_stateNow cp.1 (by omega) (fun r5 e5 => ?_))
        refine mm_iret dX12_state_43 rfl ⟨rfl, Nat.zero_le _⟩ ?_
        refine h _ _ ?_ X4.1
        unfold z_state
        rw [if_pos (by (try simp only [lg_cmp_lt, lg_cmp_gt, lg_cmp_le, lg_cmp_ge] at h1 h2 h3); (try simp only [Int32.lt_iff_toInt_lt, Int32.le_iff_toInt_le, ← Int32.toInt_inj, vp_in_iff, Int32.reduceToInt, mm_t1, mm_t2, mm_t3, mm_t4, mm_t10, Int64.lt_iff_toInt_lt, Int64.le_iff_toInt_le, Int64.reduceToInt, Int32.toInt_toInt64] at h1 h2 h3 ⊢); omega)]
        rw [e5]
        exact w4.now cp.2.1 _
      · refine mm_if_ne 31 28 dX12_state_25 (by decide) rfl (fun h => absurd h (by decide)) (fun _ => ?_)
        refine mm_bipush 30 (-2) dX12_state_28 rfl (by decide) ?_
        refine mm_iret dX12_state_30 rfl ⟨rfl, Nat.zero_le _⟩ ?_
        refine h _ _ ?_ X1.1
        unfold z_state
        rw [if_neg (by (try simp only [lg_cmp_lt, lg_cmp_gt, lg_cmp_le, lg_cmp_ge] at h1 h2 h3); (try simp only [Int32.lt_iff_toInt_lt, Int32.le_iff_toInt_le, ← Int32.toInt_inj, vp_in_iff, Int32.reduceToInt, mm_t1, mm_t2, mm_t3, mm_t4, mm_t10, Int64.lt_iff_toInt_lt, Int64.le_iff_toInt_le, Int64.reduceToInt, Int32.toInt_toInt64] at h1 h2 h3); omega)]
    · refine mm_if_eq 28 16 dX12_state_13 (by decide) rfl (fun _ => ?_) (fun h => absurd h (by decide))
      refine mm_bipush 30 (-2) dX12_state_28 rfl (by decide) ?_
      refine mm_iret dX12_state_30 rfl ⟨rfl, Nat.zero_le _⟩ ?_
      refine h _ _ ?_ X1.1
      unfold z_state
      rw [if_neg (by (try simp only [lg_cmp_lt, lg_cmp_gt, lg_cmp_le, lg_cmp_ge] at h1 h2); (try simp only [Int32.lt_iff_toInt_lt, Int32.le_iff_toInt_le, ← Int32.toInt_inj, vp_in_iff, Int32.reduceToInt, mm_t1, mm_t2, mm_t3, mm_t4, mm_t10, Int64.lt_iff_toInt_lt, Int64.le_iff_toInt_le, Int64.reduceToInt, Int32.toInt_toInt64] at h1 h2); omega)]
  · refine mm_if_eq 28 8 dX12_state_5 (by decide) rfl (fun _ => ?_) (fun h => absurd h (by decide))
    refine mm_bipush 30 (-2) dX12_state_28 rfl (by decide) ?_
    refine mm_iret dX12_state_30 rfl ⟨rfl, Nat.zero_le _⟩ ?_
    refine h _ _ ?_ X1.1
    unfold z_state
    rw [if_neg (by (try simp only [lg_cmp_lt, lg_cmp_gt, lg_cmp_le, lg_cmp_ge] at h1); (try simp only [Int32.lt_iff_toInt_lt, Int32.le_iff_toInt_le, ← Int32.toInt_inj, vp_in_iff, Int32.reduceToInt, mm_t1, mm_t2, mm_t3, mm_t4, mm_t10, Int64.lt_iff_toInt_lt, Int64.le_iff_toInt_le, Int64.reduceToInt, Int32.toInt_toInt64] at h1); omega)]

set_option maxHeartbeats 4000000 in
theorem c_X12_nobody {l : Launch} {G : mm_G} {d : Nat} {M : mm_M} {Q : Int32 → mm_T → mm_M → Prop} {A : mm_M} (hi : iv A) (hf : fr A M) {k : Int32} (h : ∀ r M1, r = z_nobody A k → fr A M1 → Q r T0 M1) : mm_met l G (d + 5) k_X12_nobody [.ref 51, .int k] T0 M (mm_pi Q) := by
  have n6 := hi.1.nl
  have n12 := hi.1.np
  have n24 := hi.1.ne.2
  refine mm_enter 0 [.ref 51, .int k] o_X12_nobody rfl rfl ?_
  refine mm_aload_0 1 dX12_nobody_0 rfl ?_
  refine mm_cV0v 4 dX12_nobody_1 v_X12_163 rfl t_51 (by decide) rfl rfl (Nat.le_of_ble_eq_true rfl) ⟨rfl, rfl⟩ ⟨Nat.zero_le _, Nat.zero_le _⟩ (b_find hi hf (fun M1 X1 => ?_))
  refine mm_aload_0 5 dX12_nobody_4 rfl ?_
  refine mm_iload_1 6 dX12_nobody_5 rfl ?_
  refine mm_cV1i 9 dX12_nobody_6 v_X12_248 rfl t_51 (by decide) rfl rfl (Nat.le_of_ble_eq_true rfl) ⟨rfl, rfl⟩ ⟨Nat.zero_le _, Nat.zero_le _⟩ (c_X12_isSo hi X1.1 (fun h2 => ?_) (fun h2 => ?_))
  · refine mm_if_ne 15 12 dX12_nobody_9 (by decide) rfl (fun _ => ?_) (fun h => absurd h (by decide))
    have ck := mm_cl2 (x := k) (n := 25) (by (try simp only [lg_cmp_lt, lg_cmp_gt, lg_cmp_le, lg_cmp_ge] at h2); (try simp only [Int32.lt_iff_toInt_lt, Int32.le_iff_toInt_le, ← Int32.toInt_inj, vp_in_iff, Int32.reduceToInt, mm_t1, mm_t2, mm_t3, mm_t4, mm_t10, Int64.lt_iff_toInt_lt, Int64.le_iff_toInt_le, Int64.reduceToInt, Int32.toInt_toInt64] at h2 ⊢); omega)
    refine mm_aload_0 16 dX12_nobody_15 rfl ?_
    refine mm_iload_1 17 dX12_nobody_16 rfl ?_
    refine mm_iconst 18 (-1) dX12_nobody_17 rfl (by decide) ?_
    refine mm_cV2v 21 dX12_nobody_18 v_X12_238 rfl t_51 (by decide) rfl rfl (Nat.le_of_ble_eq_true rfl) ⟨rfl, rfl⟩ ⟨Nat.zero_le _, Nat.zero_le _⟩ (b_goes hi X1 ck.1 (by omega) (fun M3 g3 w3 X3 => ?_))
    refine mm_aload_0 22 dX12_nobody_21 rfl ?_
    refine mm_getI 25 dX12_nobody_22 f_X12_203 rfl t_51 rfl ?_
    refine mm_iret dX12_nobody_25 rfl ⟨rfl, Nat.zero_le _⟩ ?_
    refine h _ _ ?_ X3.1
    unfold z_nobody
    rw [if_pos (by (try simp only [lg_cmp_lt, lg_cmp_gt, lg_cmp_le, lg_cmp_ge] at h2); (try simp only [Int32.lt_iff_toInt_lt, Int32.le_iff_toInt_le, ← Int32.toInt_inj, vp_in_iff, Int32.reduceToInt, mm_t1, mm_t2, mm_t3, mm_t4, mm_t10, Int64.lt_iff_toInt_lt, Int64.le_iff_toInt_le, Int64.reduceToInt, Int32.toInt_toInt64] at h2 ⊢); omega)]
    exact w3.2.2.1
  · refine mm_if_ne 15 12 dX12_nobody_9 (by decide) rfl (fun h => absurd h (by decide)) (fun _ => ?_)
    refine mm_bipush 14 (-2) dX12_nobody_12 rfl (by decide) ?_
    refine mm_iret dX12_nobody_14 rfl ⟨rfl, Nat.zero_le _⟩ ?_
    refine h _ _ ?_ X1.1
    unfold z_nobody
    rw [if_neg (by (try simp only [lg_cmp_lt, lg_cmp_gt, lg_cmp_le, lg_cmp_ge] at h2); (try simp only [Int32.lt_iff_toInt_lt, Int32.le_iff_toInt_le, ← Int32.toInt_inj, vp_in_iff, Int32.reduceToInt, mm_t1, mm_t2, mm_t3, mm_t4, mm_t10, Int64.lt_iff_toInt_lt, Int64.le_iff_toInt_le, Int64.reduceToInt, Int32.toInt_toInt64] at h2); omega)]

set_option maxHeartbeats 4000000 in
theorem c_X12_withoutOf {l : Launch} {G : mm_G} {d : Nat} {M : mm_M} {Q : Int32 → mm_T → mm_M → Prop} {A : mm_M} (hi : iv A) (hx : r_x A M) {e x : Int32} (he : 0 ≤ e.toInt ∧ e.toInt < a_ne A) (h : ∀ r M1, r = z_without A e x → r_x A M1 → Q r T0 M1) : mm_met l G (d + 5) k_X12_withoutOf [.ref 51, .int e, .int x] T0 M (mm_pi Q) := by
  have n6 := hi.1.nl
  have n12 := hi.1.np
  have n24 := hi.1.ne.2
  refine mm_enter 0 [.ref 51, .int e, .int x] o_X12_withoutOf rfl rfl ?_
  refine mm_iload_2 1 dX12_withoutOf_0 rfl ?_
  refine mm_i2l 2 dX12_withoutOf_1 rfl ?_
  refine mm_lconst 3 0 dX12_withoutOf_2 rfl (by decide) ?_
  refine mm_aload_0 4 dX12_withoutOf_3 rfl ?_
  refine mm_getI 7 dX12_withoutOf_4 f_X12_138 rfl t_51 rfl ?_
  refine mm_iconst 8 1 dX12_withoutOf_7 rfl (by decide) ?_
  refine mm_isub 9 dX12_withoutOf_8 rfl ?_
  refine mm_i2l 10 dX12_withoutOf_9 rfl ?_
  have k8 : (M 51 8 - 1).toInt = (a_nl A : Int) - 1 := by rw [hx.2.1]; exact nI_m1 (by omega)
  refine mm_cS3i 13 dX12_withoutOf_10 v_X12_95 rfl (Nat.le_of_ble_eq_true rfl) ⟨rfl, rfl⟩ ⟨Nat.zero_le _, Nat.zero_le _⟩ (c_X12_in (fun h1 => ?_) (fun h1 => ?_))
  · refine mm_if_eq 29 16 dX12_withoutOf_13 (by decide) rfl (fun h => absurd h (by decide)) (fun _ => ?_)
    have hl : 0 ≤ x.toInt ∧ x.toInt < a_nl A := by (try simp only [lg_cmp_lt, lg_cmp_gt, lg_cmp_le, lg_cmp_ge] at h1 k8); (try simp only [Int32.lt_iff_toInt_lt, Int32.le_iff_toInt_le, ← Int32.toInt_inj, vp_in_iff, Int32.reduceToInt, mm_t1, mm_t2, mm_t3, mm_t4, mm_t10, Int64.lt_iff_toInt_lt, Int64.le_iff_toInt_le, Int64.reduceToInt, Int32.toInt_toInt64] at h1 k8 ⊢); omega
    refine mm_aload_0 17 dX12_withoutOf_16 rfl ?_
    refine mm_iload_2 18 dX12_withoutOf_17 rfl ?_
    refine mm_aload_0 19 dX12_withoutOf_18 rfl ?_
    refine mm_getI 22 dX12_withoutOf_19 f_X12_184 rfl t_51 rfl ?_
    refine mm_iload_1 23 dX12_withoutOf_22 rfl ?_
    refine mm_cV3i 26 dX12_withoutOf_23 v_X12_251 rfl t_51 (by decide) rfl rfl (Nat.le_of_ble_eq_true rfl) ⟨rfl, rfl⟩ ⟨Nat.zero_le _, Nat.zero_le _⟩ (c_X12_widthOf hi hx ⟨by omega, by omega⟩ (hx.1.2.2.1.trans hi.1.ne.1) (Nat.le_refl _) (fun r2 M2 e2 X2 => ?_))
    refine mm_goto 31 dX12_withoutOf_26 (by decide) ?_
    refine mm_iret dX12_withoutOf_31 rfl ⟨rfl, Nat.zero_le _⟩ ?_
    refine h _ _ ?_ X2
    unfold z_without
    rw [if_pos (by (try simp only [lg_cmp_lt, lg_cmp_gt, lg_cmp_le, lg_cmp_ge] at h1); (try simp only [Int32.lt_iff_toInt_lt, Int32.le_iff_toInt_le, ← Int32.toInt_inj, vp_in_iff, Int32.reduceToInt, mm_t1, mm_t2, mm_t3, mm_t4, mm_t10, Int64.lt_iff_toInt_lt, Int64.le_iff_toInt_le, Int64.reduceToInt, Int32.toInt_toInt64] at h1 ⊢); omega)]
    exact e2
  · refine mm_if_eq 29 16 dX12_withoutOf_13 (by decide) rfl (fun _ => ?_) (fun h => absurd h (by decide))
    refine mm_bipush 31 (-2) dX12_withoutOf_29 rfl (by decide) ?_
    refine mm_iret dX12_withoutOf_31 rfl ⟨rfl, Nat.zero_le _⟩ ?_
    refine h _ _ ?_ hx
    unfold z_without
    rw [if_neg (by (try simp only [lg_cmp_lt, lg_cmp_gt, lg_cmp_le, lg_cmp_ge] at h1); (try simp only [Int32.lt_iff_toInt_lt, Int32.le_iff_toInt_le, ← Int32.toInt_inj, vp_in_iff, Int32.reduceToInt, mm_t1, mm_t2, mm_t3, mm_t4, mm_t10, Int64.lt_iff_toInt_lt, Int64.le_iff_toInt_le, Int64.reduceToInt, Int32.toInt_toInt64] at h1); omega)]

set_option maxHeartbeats 4000000 in
theorem c_X12_without {l : Launch} {G : mm_G} {d : Nat} {M : mm_M} {Q : Int32 → mm_T → mm_M → Prop} {A : mm_M} (hi : iv A) (hf : fr A M) {e x : Int32} (h : ∀ r M1, r = z_without A e x → fr A M1 → Q r T0 M1) : mm_met l G (d + 6) k_X12_without [.ref 51, .int e, .int x] T0 M (mm_pi Q) := by
  have n6 := hi.1.nl
  have n12 := hi.1.np
  have n24 := hi.1.ne.2
  refine mm_enter 0 [.ref 51, .int e, .int x] o_X12_without rfl rfl ?_
  refine mm_aload_0 1 dX12_without_0 rfl ?_
  refine mm_cV0v 4 dX12_without_1 v_X12_163 rfl t_51 (by decide) rfl rfl (Nat.le_of_ble_eq_true rfl) ⟨rfl, rfl⟩ ⟨Nat.zero_le _, Nat.zero_le _⟩ (b_find hi hf (fun M1 X1 => ?_))
  refine mm_iload_1 5 dX12_without_4 rfl ?_
  refine mm_i2l 6 dX12_without_5 rfl ?_
  refine mm_lconst 7 0 dX12_without_6 rfl (by decide) ?_
  refine mm_aload_0 8 dX12_without_7 rfl ?_
  refine mm_getI 11 dX12_without_8 f_X12_184 rfl t_51 rfl ?_
  refine mm_iconst 12 1 dX12_without_11 rfl (by decide) ?_
  refine mm_isub 13 dX12_without_12 rfl ?_
  refine mm_i2l 14 dX12_without_13 rfl ?_
  have k8 : (M1 51 13 - 1).toInt = (a_ne A : Int) - 1 := by rw [(X1.1.2.2.1.trans hi.1.ne.1)]; exact nI_m1 (by omega)
  refine mm_cS3i 17 dX12_without_14 v_X12_95 rfl (Nat.le_of_ble_eq_true rfl) ⟨rfl, rfl⟩ ⟨Nat.zero_le _, Nat.zero_le _⟩ (c_X12_in (fun h2 => ?_) (fun h2 => ?_))
  · refine mm_if_eq 29 20 dX12_without_17 (by decide) rfl (fun h => absurd h (by decide)) (fun _ => ?_)
    have he : 0 ≤ e.toInt ∧ e.toInt < a_ne A := by (try simp only [lg_cmp_lt, lg_cmp_gt, lg_cmp_le, lg_cmp_ge] at h2 k8); (try simp only [Int32.lt_iff_toInt_lt, Int32.le_iff_toInt_le, ← Int32.toInt_inj, vp_in_iff, Int32.reduceToInt, mm_t1, mm_t2, mm_t3, mm_t4, mm_t10, Int64.lt_iff_toInt_lt, Int64.le_iff_toInt_le, Int64.reduceToInt, Int32.toInt_toInt64] at h2 k8 ⊢); omega
    refine mm_aload_0 21 dX12_without_20 rfl ?_
    refine mm_iload_1 22 dX12_without_21 rfl ?_
    refine mm_iload_2 23 dX12_without_22 rfl ?_
    refine mm_cV2i 26 dX12_without_23 v_X12_309 rfl t_51 (by decide) rfl rfl (Nat.le_of_ble_eq_true rfl) ⟨rfl, rfl⟩ ⟨Nat.zero_le _, Nat.zero_le _⟩ (c_X12_withoutOf hi X1 he (fun r3 M3 e3 X3 => ?_))
    refine mm_goto 31 dX12_without_26 (by decide) ?_
    refine mm_iret dX12_without_31 rfl ⟨rfl, Nat.zero_le _⟩ ?_
    exact h _ _ e3 X3.1
  · refine mm_if_eq 29 20 dX12_without_17 (by decide) rfl (fun _ => ?_) (fun h => absurd h (by decide))
    refine mm_bipush 31 (-2) dX12_without_29 rfl (by decide) ?_
    refine mm_iret dX12_without_31 rfl ⟨rfl, Nat.zero_le _⟩ ?_
    refine h _ _ ?_ X1.1
    unfold z_without
    rw [if_neg (by (try simp only [lg_cmp_lt, lg_cmp_gt, lg_cmp_le, lg_cmp_ge] at h2 k8); (try simp only [Int32.lt_iff_toInt_lt, Int32.le_iff_toInt_le, ← Int32.toInt_inj, vp_in_iff, Int32.reduceToInt, mm_t1, mm_t2, mm_t3, mm_t4, mm_t10, Int64.lt_iff_toInt_lt, Int64.le_iff_toInt_le, Int64.reduceToInt, Int32.toInt_toInt64] at h2 k8); omega)]

