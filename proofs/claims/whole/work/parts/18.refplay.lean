/-! The reference's play of the events, on its own memory -/
def g_a (X : mm_M) (e : Nat) : Nat := (X 61 (5 * e + 2)).toNatClampNeg
def g_b (X : mm_M) (e : Nat) : Nat := (X 61 (5 * e + 3)).toNatClampNeg
def g_w (X : mm_M) (e : Nat) : Nat := (X 61 (5 * e + 1)).toNatClampNeg
def g_ho (X : mm_M) (p : Nat) : Nat := (X 59 (4 * p + 1)).toNatClampNeg
def g_free (X : mm_M) (p : Nat) : Bool := decide (X 67 p = 1) && decide (X 63 p = -1)
def g_next (X : mm_M) (a b : Nat) : Bool := decide (X 59 (4 * a + 1) - X 59 (4 * b + 1) = 1) || decide (X 59 (4 * a + 1) - X 59 (4 * b + 1) = -1)
def g_may (X : mm_M) (a b : Nat) : Bool := decide ((a : Int) < (X 51 10).toInt) && (decide ((b : Int) < (X 51 10).toInt) && (g_free X a && (g_free X b && (decide (¬ X 59 (4 * a) = X 59 (4 * b)) && g_next X a b))))
def g_law (X : mm_M) (e : Nat) : Bool := if X 61 (5 * e) = 0 then g_may X (g_a X e) (g_b X e) else decide ((g_a X e : Int) < (X 51 10).toInt) && (if X 61 (5 * e) = 1 then decide (¬ X 63 (g_a X e) = -1) else decide (X 67 (g_a X e) = 1))
def g_sh (X : mm_M) (p : Nat) (h : Int32) : Int32 := (X 59 (4 * p + 2) + X 59 (4 * p + 3)) * (1 + (if h.toInt < 12 then 12 - h else h - 12))
def g_mn (w m : Int32) : Int32 := if w.toInt < m.toInt then w else m
def g_tk (X : mm_M) (j : Nat) (m : Int32) : mm_M := mm_up X 62 j (X 62 j - g_mn (X 62 j) m)
def g_by (X : mm_M) (e : Nat) : Int32 := if X 60 (g_w X e) = 1 then 0 else g_sh X (g_a X e) (X 61 (5 * e + 4)) - g_sh X (g_b X e) (X 61 (5 * e + 4))
/-- both are wed; s was moved, to the land w -/
def g_wf (X Y : mm_M) (e : Nat) (s w : Int32) : mm_M := mm_up (mm_up (mm_up (mm_up (mm_up (mm_up Y 63 (g_a X e) (X 61 (5 * e + 3))) 63 (g_b X e) (X 61 (5 * e + 2))) 64 (g_a X e) s) 64 (g_b X e) s) 65 (g_a X e) w) 65 (g_b X e) w
/-- the land of p takes m from the land of q, at an event e -/
def g_wx (X : mm_M) (e p q : Nat) (m : Int32) : mm_M := mm_up (mm_up (g_tk X (g_ho X q) m) 62 (g_ho X p) ((g_tk X (g_ho X q) m) 62 (g_ho X p) + g_mn (X 62 (g_ho X q)) m)) 68 e (if (X 59 (4 * p + 1)).toInt < (X 59 (4 * q + 1)).toInt then g_mn (X 62 (g_ho X q)) m else -g_mn (X 62 (g_ho X q)) m)
def g_wed (X : mm_M) (e : Nat) : mm_M :=
  if 0 < (g_by X e).toInt then g_wf X (g_wx X e (g_a X e) (g_b X e) (g_by X e)) e (g_mn (X 62 (g_ho X (g_b X e))) (g_by X e)) (X 59 (4 * g_a X e + 1))
  else if (g_by X e).toInt < 0 then g_wf X (g_wx X e (g_b X e) (g_a X e) (-g_by X e)) e (g_mn (X 62 (g_ho X (g_a X e))) (-g_by X e)) (X 59 (4 * g_b X e + 1))
  else g_wf X X e 0 (-1)
/-- the ranges that the play stands on -/
def g_ok (X : mm_M) : Prop :=
  (∃ nl, nl ≤ 6 ∧ X 51 8 = nI nl) ∧ (∃ np, np ≤ 12 ∧ X 51 10 = nI np ∧ ∀ p, p < np → 0 ≤ (X 59 (4 * p + 1)).toInt ∧ (X 59 (4 * p + 1)).toInt < 6) ∧ (∀ p, p < 12 → -1 ≤ (X 63 p).toInt ∧ (X 63 p).toInt ≤ 11) ∧ (∀ p, p < 12 → -1 ≤ (X 65 p).toInt ∧ (X 65 p).toInt ≤ 5)
def g_ev (X : mm_M) (e : Nat) : Prop := e < 24 ∧ (0 ≤ (X 61 (5 * e)).toInt ∧ (X 61 (5 * e)).toInt ≤ 2) ∧ (0 ≤ (X 61 (5 * e + 1)).toInt ∧ (X 61 (5 * e + 1)).toInt ≤ 51) ∧ (0 ≤ (X 61 (5 * e + 2)).toInt ∧ (X 61 (5 * e + 2)).toInt ≤ 11) ∧ (0 ≤ (X 61 (5 * e + 3)).toInt ∧ (X 61 (5 * e + 3)).toInt ≤ 11)
theorem g_ev.a {X : mm_M} {e : Nat} (h : g_ev X e) : X 61 (5 * e + 2) = nI (g_a X e) ∧ g_a X e < 12 := by
  have h1 := h.2.2.2.1
  have h2 := mm_cl h1.1
  exact ⟨mm_nc h1.1, by unfold g_a; omega⟩
theorem g_ev.b {X : mm_M} {e : Nat} (h : g_ev X e) : X 61 (5 * e + 3) = nI (g_b X e) ∧ g_b X e < 12 := by
  have h1 := h.2.2.2.2
  have h2 := mm_cl h1.1
  exact ⟨mm_nc h1.1, by unfold g_b; omega⟩
theorem g_ev.w {X : mm_M} {e : Nat} (h : g_ev X e) : X 61 (5 * e + 1) = nI (g_w X e) ∧ g_w X e < 52 := by
  have h1 := h.2.2.1
  have h2 := mm_cl h1.1
  exact ⟨mm_nc h1.1, by unfold g_w; omega⟩
theorem g_ok.ho {X : mm_M} (h : g_ok X) {p : Nat} (hp : (p : Int) < (X 51 10).toInt) : X 59 (4 * p + 1) = nI (g_ho X p) ∧ g_ho X p < 6 ∧ 0 ≤ (X 59 (4 * p + 1)).toInt ∧ (X 59 (4 * p + 1)).toInt < 6 := by
  obtain ⟨-, ⟨np, h1, h2, h3⟩, -⟩ := h
  rw [h2, mm_ti (by omega)] at hp
  have h4 := h3 p (by omega)
  have h5 := mm_cl h4.1
  exact ⟨mm_nc h4.1, by unfold g_ho; omega, h4⟩
theorem g_may_np {X : mm_M} {a b : Nat} (h : g_may X a b = true) : (a : Int) < (X 51 10).toInt ∧ (b : Int) < (X 51 10).toInt := by
  simp only [g_may, Bool.and_eq_true, decide_eq_true_eq] at h
  exact ⟨h.1, h.2.1⟩

set_option maxHeartbeats 4000000 in
theorem c_X12_isFree {l : Launch} {G : mm_G} {d : Nat} {M : mm_M} {Q : Int32 → mm_T → mm_M → Prop} {x : Int32} {p : Nat} (hx : x = nI p) (hp : p < 12) (ht : g_free M p = true → Q 1 T0 M) (hf : ¬ (g_free M p = true) → Q 0 T0 M) : mm_met l G d k_X12_isFree [.ref 51, .int x] T0 M (mm_pi Q) := by
  refine mm_enter 0 [.ref 51, .int x] o_X12_isFree rfl rfl ?_
  refine mm_aload_0 1 dX12_isFree_0 rfl ?_
  refine mm_getR 4 dX12_isFree_1 f_X12_55 rfl t_51 rfl ?_
  refine mm_iload_1 5 dX12_isFree_4 rfl ?_
  refine mm_ialoadn 6 (p) dX12_isFree_5 rfl t_67 (by decide) (hx) (hp) ?_
  refine mm_iconst 7 1 dX12_isFree_6 rfl (by decide) ?_
  refine mm_ic_ne 24 10 dX12_isFree_7 (by decide) rfl (fun h1 => ?_) (fun h1 => ?_)
  · refine mm_iconst 25 0 dX12_isFree_24 rfl (by decide) ?_
    refine mm_zret dX12_isFree_25 rfl ⟨rfl, Nat.zero_le _⟩ (Or.inl rfl) ?_
    refine hf ?_
    unfold g_free
    simp [h1]
  · refine mm_aload_0 11 dX12_isFree_10 rfl ?_
    refine mm_getR 14 dX12_isFree_11 f_X12_43 rfl t_51 rfl ?_
    refine mm_iload_1 15 dX12_isFree_14 rfl ?_
    refine mm_ialoadn 16 (p) dX12_isFree_15 rfl t_63 (by decide) (hx) (hp) ?_
    refine mm_iconst 17 (-1) dX12_isFree_16 rfl (by decide) ?_
    refine mm_ic_ne 24 20 dX12_isFree_17 (by decide) rfl (fun h2 => ?_) (fun h2 => ?_)
    · refine mm_iconst 25 0 dX12_isFree_24 rfl (by decide) ?_
      refine mm_zret dX12_isFree_25 rfl ⟨rfl, Nat.zero_le _⟩ (Or.inl rfl) ?_
      refine hf ?_
      unfold g_free
      simp [h1, h2]
    · refine mm_iconst 21 1 dX12_isFree_20 rfl (by decide) ?_
      refine mm_goto 25 dX12_isFree_21 (by decide) ?_
      refine mm_zret dX12_isFree_25 rfl ⟨rfl, Nat.zero_le _⟩ (Or.inr rfl) ?_
      refine ht ?_
      unfold g_free
      simp [h1, h2]

set_option maxHeartbeats 4000000 in
theorem c_X12_shadowOf {l : Launch} {G : mm_G} {d : Nat} {M : mm_M} {Q : Int32 → mm_T → mm_M → Prop} {x : Int32} {p : Nat} (hx : x = nI p) (hp : p < 12) {h0 : Int32} (h : ∀ r, r = g_sh M p h0 → Q r T0 (M)) : mm_met l G d k_X12_shadowOf [.ref 51, .int x, .int h0] T0 M (mm_pi Q) := by
  refine mm_enter 1 [.ref 51, .int x, .int h0, .double 0] o_X12_shadowOf rfl rfl ?_
  refine mm_iload_2 1 dX12_shadowOf_0 rfl ?_
  refine mm_bipush 3 12 dX12_shadowOf_1 rfl (by decide) ?_
  refine mm_ic_ge 13 6 dX12_shadowOf_3 (by decide) rfl (fun h1 => ?_) (fun h1 => ?_)
  · refine mm_iload_2 14 dX12_shadowOf_13 rfl ?_
    refine mm_bipush 16 12 dX12_shadowOf_14 rfl (by decide) ?_
    refine mm_isub 17 dX12_shadowOf_16 rfl ?_
    refine mm_istore_3 18 dX12_shadowOf_17 rfl rfl ?_
    refine mm_aload_0 19 dX12_shadowOf_18 rfl ?_
    refine mm_getR 22 dX12_shadowOf_19 f_X12_31 rfl t_51 rfl ?_
    refine mm_iconst 23 4 dX12_shadowOf_22 rfl (by decide) ?_
    refine mm_iload_1 24 dX12_shadowOf_23 rfl ?_
    refine mm_imul 25 dX12_shadowOf_24 rfl ?_
    refine mm_iconst 26 2 dX12_shadowOf_25 rfl (by decide) ?_
    refine mm_iadd 27 dX12_shadowOf_26 rfl ?_
    refine mm_ialoadn 28 (4 * p + 2) dX12_shadowOf_27 rfl t_59 (by decide) (by rw [hx, mm_l4, mm_l2, pk_mul, nI_add]) (by omega) ?_
    refine mm_aload_0 29 dX12_shadowOf_28 rfl ?_
    refine mm_getR 32 dX12_shadowOf_29 f_X12_31 rfl t_51 rfl ?_
    refine mm_iconst 33 4 dX12_shadowOf_32 rfl (by decide) ?_
    refine mm_iload_1 34 dX12_shadowOf_33 rfl ?_
    refine mm_imul 35 dX12_shadowOf_34 rfl ?_
    refine mm_iconst 36 3 dX12_shadowOf_35 rfl (by decide) ?_
    refine mm_iadd 37 dX12_shadowOf_36 rfl ?_
    refine mm_ialoadn 38 (4 * p + 3) dX12_shadowOf_37 rfl t_59 (by decide) (by rw [hx, mm_l4, mm_l3, pk_mul, nI_add]) (by omega) ?_
    refine mm_iadd 39 dX12_shadowOf_38 rfl ?_
    refine mm_iconst 40 1 dX12_shadowOf_39 rfl (by decide) ?_
    refine mm_iload_3 41 dX12_shadowOf_40 rfl ?_
    refine mm_iadd 42 dX12_shadowOf_41 rfl ?_
    refine mm_imul 43 dX12_shadowOf_42 rfl ?_
    refine mm_iret dX12_shadowOf_43 rfl ⟨rfl, Nat.zero_le _⟩ ?_
    refine h _ ?_
    unfold g_sh
    (try simp only [Int32.lt_iff_toInt_lt, Int32.le_iff_toInt_le, ← Int32.toInt_inj, vp_in_iff, Int32.reduceToInt, mm_t1, mm_t2, mm_t3, mm_t4, mm_t10] at h1)
    rw [if_neg (by omega)]
  · refine mm_bipush 8 12 dX12_shadowOf_6 rfl (by decide) ?_
    refine mm_iload_2 9 dX12_shadowOf_8 rfl ?_
    refine mm_isub 10 dX12_shadowOf_9 rfl ?_
    refine mm_goto 17 dX12_shadowOf_10 (by decide) ?_
    refine mm_istore_3 18 dX12_shadowOf_17 rfl rfl ?_
    refine mm_aload_0 19 dX12_shadowOf_18 rfl ?_
    refine mm_getR 22 dX12_shadowOf_19 f_X12_31 rfl t_51 rfl ?_
    refine mm_iconst 23 4 dX12_shadowOf_22 rfl (by decide) ?_
    refine mm_iload_1 24 dX12_shadowOf_23 rfl ?_
    refine mm_imul 25 dX12_shadowOf_24 rfl ?_
    refine mm_iconst 26 2 dX12_shadowOf_25 rfl (by decide) ?_
    refine mm_iadd 27 dX12_shadowOf_26 rfl ?_
    refine mm_ialoadn 28 (4 * p + 2) dX12_shadowOf_27 rfl t_59 (by decide) (by rw [hx, mm_l4, mm_l2, pk_mul, nI_add]) (by omega) ?_
    refine mm_aload_0 29 dX12_shadowOf_28 rfl ?_
    refine mm_getR 32 dX12_shadowOf_29 f_X12_31 rfl t_51 rfl ?_
    refine mm_iconst 33 4 dX12_shadowOf_32 rfl (by decide) ?_
    refine mm_iload_1 34 dX12_shadowOf_33 rfl ?_
    refine mm_imul 35 dX12_shadowOf_34 rfl ?_
    refine mm_iconst 36 3 dX12_shadowOf_35 rfl (by decide) ?_
    refine mm_iadd 37 dX12_shadowOf_36 rfl ?_
    refine mm_ialoadn 38 (4 * p + 3) dX12_shadowOf_37 rfl t_59 (by decide) (by rw [hx, mm_l4, mm_l3, pk_mul, nI_add]) (by omega) ?_
    refine mm_iadd 39 dX12_shadowOf_38 rfl ?_
    refine mm_iconst 40 1 dX12_shadowOf_39 rfl (by decide) ?_
    refine mm_iload_3 41 dX12_shadowOf_40 rfl ?_
    refine mm_iadd 42 dX12_shadowOf_41 rfl ?_
    refine mm_imul 43 dX12_shadowOf_42 rfl ?_
    refine mm_iret dX12_shadowOf_43 rfl ⟨rfl, Nat.zero_le _⟩ ?_
    refine h _ ?_
    unfold g_sh
    (try simp only [Int32.lt_iff_toInt_lt, Int32.le_iff_toInt_le, ← Int32.toInt_inj, vp_in_iff, Int32.reduceToInt, mm_t1, mm_t2, mm_t3, mm_t4, mm_t10] at h1)
    rw [if_pos (by omega)]

set_option maxHeartbeats 4000000 in
theorem c_X12_mayWed {l : Launch} {G : mm_G} {d : Nat} {M : mm_M} {Q : Int32 → mm_T → mm_M → Prop} {x y : Int32} {a b : Nat} (hx : x = nI a) (ha : a < 12) (hy : y = nI b) (hb : b < 12) (ht : g_may M a b = true → Q 1 T0 M) (hf : ¬ (g_may M a b = true) → Q 0 T0 M) : mm_met l G (d + 1) k_X12_mayWed [.ref 51, .int x, .int y] T0 M (mm_pi Q) := by
  have xi : x.toInt = a := by rw [hx]; exact mm_ti (by omega)
  have yi : y.toInt = b := by rw [hy]; exact mm_ti (by omega)
  refine mm_enter 1 [.ref 51, .int x, .int y, .double 0] o_X12_mayWed rfl rfl ?_
  refine mm_iload_1 1 dX12_mayWed_0 rfl ?_
  refine mm_aload_0 2 dX12_mayWed_1 rfl ?_
  refine mm_getI 5 dX12_mayWed_2 f_X12_144 rfl t_51 rfl ?_
  refine mm_ic_ge 32 8 dX12_mayWed_5 (by decide) rfl (fun h1 => ?_) (fun h1 => ?_)
  · refine mm_iconst 33 0 dX12_mayWed_32 rfl (by decide) ?_
    refine mm_zret dX12_mayWed_33 rfl ⟨rfl, Nat.zero_le _⟩ (Or.inl rfl) ?_
    (try simp only [xi, yi, Int32.lt_iff_toInt_lt, Int32.le_iff_toInt_le, ← Int32.toInt_inj, vp_in_iff, Int32.reduceToInt, mm_t1, mm_t2, mm_t3, mm_t4, mm_t10] at h1)
    refine hf ?_
    unfold g_may g_next
    have k1 : ¬ (a : Int) < (M 51 10).toInt := by omega
    simp [k1]
  · refine mm_iload_2 9 dX12_mayWed_8 rfl ?_
    refine mm_aload_0 10 dX12_mayWed_9 rfl ?_
    refine mm_getI 13 dX12_mayWed_10 f_X12_144 rfl t_51 rfl ?_
    refine mm_ic_ge 32 16 dX12_mayWed_13 (by decide) rfl (fun h2 => ?_) (fun h2 => ?_)
    · refine mm_iconst 33 0 dX12_mayWed_32 rfl (by decide) ?_
      refine mm_zret dX12_mayWed_33 rfl ⟨rfl, Nat.zero_le _⟩ (Or.inl rfl) ?_
      (try simp only [xi, yi, Int32.lt_iff_toInt_lt, Int32.le_iff_toInt_le, ← Int32.toInt_inj, vp_in_iff, Int32.reduceToInt, mm_t1, mm_t2, mm_t3, mm_t4, mm_t10] at h1 h2)
      refine hf ?_
      unfold g_may g_next
      have k2 : ¬ (b : Int) < (M 51 10).toInt := by omega
      simp [k2]
    · refine mm_aload_0 17 dX12_mayWed_16 rfl ?_
      refine mm_iload_1 18 dX12_mayWed_17 rfl ?_
      refine mm_cV1i 21 dX12_mayWed_18 v_X12_212 rfl t_51 (by decide) rfl rfl (Nat.le_of_ble_eq_true rfl) ⟨rfl, rfl⟩ ⟨Nat.zero_le _, Nat.zero_le _⟩ (c_X12_isFree hx ha (fun h3 => ?_) (fun h3 => ?_))
      · refine mm_if_eq 32 24 dX12_mayWed_21 (by decide) rfl (fun h => absurd h (by decide)) (fun _ => ?_)
        refine mm_aload_0 25 dX12_mayWed_24 rfl ?_
        refine mm_iload_2 26 dX12_mayWed_25 rfl ?_
        refine mm_cV1i 29 dX12_mayWed_26 v_X12_212 rfl t_51 (by decide) rfl rfl (Nat.le_of_ble_eq_true rfl) ⟨rfl, rfl⟩ ⟨Nat.zero_le _, Nat.zero_le _⟩ (c_X12_isFree hy hb (fun h4 => ?_) (fun h4 => ?_))
        · refine mm_if_ne 34 32 dX12_mayWed_29 (by decide) rfl (fun _ => ?_) (fun h => absurd h (by decide))
          refine mm_aload_0 35 dX12_mayWed_34 rfl ?_
          refine mm_getR 38 dX12_mayWed_35 f_X12_31 rfl t_51 rfl ?_
          refine mm_iconst 39 4 dX12_mayWed_38 rfl (by decide) ?_
          refine mm_iload_1 40 dX12_mayWed_39 rfl ?_
          refine mm_imul 41 dX12_mayWed_40 rfl ?_
          refine mm_iconst 42 1 dX12_mayWed_41 rfl (by decide) ?_
          refine mm_iadd 43 dX12_mayWed_42 rfl ?_
          refine mm_ialoadn 44 (4 * a + 1) dX12_mayWed_43 rfl t_59 (by decide) (by rw [hx, mm_l4, mm_l1, pk_mul, nI_add]) (by omega) ?_
          refine mm_aload_0 45 dX12_mayWed_44 rfl ?_
          refine mm_getR 48 dX12_mayWed_45 f_X12_31 rfl t_51 rfl ?_
          refine mm_iconst 49 4 dX12_mayWed_48 rfl (by decide) ?_
          refine mm_iload_2 50 dX12_mayWed_49 rfl ?_
          refine mm_imul 51 dX12_mayWed_50 rfl ?_
          refine mm_iconst 52 1 dX12_mayWed_51 rfl (by decide) ?_
          refine mm_iadd 53 dX12_mayWed_52 rfl ?_
          refine mm_ialoadn 54 (4 * b + 1) dX12_mayWed_53 rfl t_59 (by decide) (by rw [hy, mm_l4, mm_l1, pk_mul, nI_add]) (by omega) ?_
          refine mm_isub 55 dX12_mayWed_54 rfl ?_
          refine mm_istore_3 56 dX12_mayWed_55 rfl rfl ?_
          refine mm_aload_0 57 dX12_mayWed_56 rfl ?_
          refine mm_getR 60 dX12_mayWed_57 f_X12_31 rfl t_51 rfl ?_
          refine mm_iconst 61 4 dX12_mayWed_60 rfl (by decide) ?_
          refine mm_iload_1 62 dX12_mayWed_61 rfl ?_
          refine mm_imul 63 dX12_mayWed_62 rfl ?_
          refine mm_ialoadn 64 (4 * a) dX12_mayWed_63 rfl t_59 (by decide) (by rw [hx, mm_l4, pk_mul]) (by omega) ?_
          refine mm_aload_0 65 dX12_mayWed_64 rfl ?_
          refine mm_getR 68 dX12_mayWed_65 f_X12_31 rfl t_51 rfl ?_
          refine mm_iconst 69 4 dX12_mayWed_68 rfl (by decide) ?_
          refine mm_iload_2 70 dX12_mayWed_69 rfl ?_
          refine mm_imul 71 dX12_mayWed_70 rfl ?_
          refine mm_ialoadn 72 (4 * b) dX12_mayWed_71 rfl t_59 (by decide) (by rw [hy, mm_l4, pk_mul]) (by omega) ?_
          refine mm_ic_eq 89 75 dX12_mayWed_72 (by decide) rfl (fun h5 => ?_) (fun h5 => ?_)
          · refine mm_iconst 90 0 dX12_mayWed_89 rfl (by decide) ?_
            refine mm_zret dX12_mayWed_90 rfl ⟨rfl, Nat.zero_le _⟩ (Or.inl rfl) ?_
            (try simp only [xi, yi, Int32.lt_iff_toInt_lt, Int32.le_iff_toInt_le, ← Int32.toInt_inj, vp_in_iff, Int32.reduceToInt, mm_t1, mm_t2, mm_t3, mm_t4, mm_t10] at h1 h2)
            refine hf ?_
            unfold g_may g_next
            have k1 : (a : Int) < (M 51 10).toInt := by omega
            have k2 : (b : Int) < (M 51 10).toInt := by omega
            simp [k1, k2, h3, h4, h5]
          · refine mm_iload_3 76 dX12_mayWed_75 rfl ?_
            refine mm_iconst 77 1 dX12_mayWed_76 rfl (by decide) ?_
            refine mm_ic_eq 85 80 dX12_mayWed_77 (by decide) rfl (fun h6 => ?_) (fun h6 => ?_)
            · refine mm_iconst 86 1 dX12_mayWed_85 rfl (by decide) ?_
              refine mm_goto 90 dX12_mayWed_86 (by decide) ?_
              refine mm_zret dX12_mayWed_90 rfl ⟨rfl, Nat.zero_le _⟩ (Or.inr rfl) ?_
              (try simp only [xi, yi, Int32.lt_iff_toInt_lt, Int32.le_iff_toInt_le, ← Int32.toInt_inj, vp_in_iff, Int32.reduceToInt, mm_t1, mm_t2, mm_t3, mm_t4, mm_t10] at h1 h2)
              refine ht ?_
              unfold g_may g_next
              have k1 : (a : Int) < (M 51 10).toInt := by omega
              have k2 : (b : Int) < (M 51 10).toInt := by omega
              simp [k1, k2, h3, h4, h5, h6]
            · refine mm_iload_3 81 dX12_mayWed_80 rfl ?_
              refine mm_iconst 82 (-1) dX12_mayWed_81 rfl (by decide) ?_
              refine mm_ic_ne 89 85 dX12_mayWed_82 (by decide) rfl (fun h7 => ?_) (fun h7 => ?_)
              · refine mm_iconst 90 0 dX12_mayWed_89 rfl (by decide) ?_
                refine mm_zret dX12_mayWed_90 rfl ⟨rfl, Nat.zero_le _⟩ (Or.inl rfl) ?_
                (try simp only [xi, yi, Int32.lt_iff_toInt_lt, Int32.le_iff_toInt_le, ← Int32.toInt_inj, vp_in_iff, Int32.reduceToInt, mm_t1, mm_t2, mm_t3, mm_t4, mm_t10] at h1 h2)
                refine hf ?_
                unfold g_may g_next
                have k1 : (a : Int) < (M 51 10).toInt := by omega
                have k2 : (b : Int) < (M 51 10).toInt := by omega
                simp [k1, k2, h3, h4, h5, h6, h7]
              · refine mm_iconst 86 1 dX12_mayWed_85 rfl (by decide) ?_
                refine mm_goto 90 dX12_mayWed_86 (by decide) ?_
                refine mm_zret dX12_mayWed_90 rfl ⟨rfl, Nat.zero_le _⟩ (Or.inr rfl) ?_
                (try simp only [xi, yi, Int32.lt_iff_toInt_lt, Int32.le_iff_toInt_le, ← Int32.toInt_inj, vp_in_iff, Int32.reduceToInt, mm_t1, mm_t2, mm_t3, mm_t4, mm_t10] at h1 h2)
                refine ht ?_
                unfold g_may g_next
                have k1 : (a : Int) < (M 51 10).toInt := by omega
                have k2 : (b : Int) < (M 51 10).toInt := by omega
                simp [k1, k2, h3, h4, h5, h6, h7]
        · refine mm_if_ne 34 32 dX12_mayWed_29 (by decide) rfl (fun h => absurd h (by decide)) (fun _ => ?_)
          refine mm_iconst 33 0 dX12_mayWed_32 rfl (by decide) ?_
          refine mm_zret dX12_mayWed_33 rfl ⟨rfl, Nat.zero_le _⟩ (Or.inl rfl) ?_
          (try simp only [xi, yi, Int32.lt_iff_toInt_lt, Int32.le_iff_toInt_le, ← Int32.toInt_inj, vp_in_iff, Int32.reduceToInt, mm_t1, mm_t2, mm_t3, mm_t4, mm_t10] at h1 h2)
          refine hf ?_
          unfold g_may g_next
          have k1 : (a : Int) < (M 51 10).toInt := by omega
          have k2 : (b : Int) < (M 51 10).toInt := by omega
          simp [k1, k2, h3, h4]
      · refine mm_if_eq 32 24 dX12_mayWed_21 (by decide) rfl (fun _ => ?_) (fun h => absurd h (by decide))
        refine mm_iconst 33 0 dX12_mayWed_32 rfl (by decide) ?_
        refine mm_zret dX12_mayWed_33 rfl ⟨rfl, Nat.zero_le _⟩ (Or.inl rfl) ?_
        (try simp only [xi, yi, Int32.lt_iff_toInt_lt, Int32.le_iff_toInt_le, ← Int32.toInt_inj, vp_in_iff, Int32.reduceToInt, mm_t1, mm_t2, mm_t3, mm_t4, mm_t10] at h1 h2)
        refine hf ?_
        unfold g_may g_next
        have k1 : (a : Int) < (M 51 10).toInt := by omega
        have k2 : (b : Int) < (M 51 10).toInt := by omega
        simp [k1, k2, h3]

set_option maxHeartbeats 4000000 in
theorem c_X12_isLawful {l : Launch} {G : mm_G} {d : Nat} {M : mm_M} {Q : Int32 → mm_T → mm_M → Prop} {x : Int32} {e : Nat} (hx : x = nI e) (he : g_ev M e) (ht : g_law M e = true → Q 1 T0 M) (hf : ¬ (g_law M e = true) → Q 0 T0 M) : mm_met l G (d + 2) k_X12_isLawful [.ref 51, .int x] T0 M (mm_pi Q) := by
  have ai : (M 61 (5 * e + 2)).toInt = g_a M e := by rw [he.a.1]; exact mm_ti (by have := he.a.2; omega)
  refine mm_enter 1 [.ref 51, .int x, .double 0] o_X12_isLawful rfl rfl ?_
  refine mm_aload_0 1 dX12_isLawful_0 rfl ?_
  refine mm_getR 4 dX12_isLawful_1 f_X12_37 rfl t_51 rfl ?_
  refine mm_iconst 5 5 dX12_isLawful_4 rfl (by decide) ?_
  refine mm_iload_1 6 dX12_isLawful_5 rfl ?_
  refine mm_imul 7 dX12_isLawful_6 rfl ?_
  refine mm_iconst 8 2 dX12_isLawful_7 rfl (by decide) ?_
  refine mm_iadd 9 dX12_isLawful_8 rfl ?_
  refine mm_ialoadn 10 (5 * e + 2) dX12_isLawful_9 rfl t_61 (by decide) (by rw [hx, mm_l5, mm_l2, pk_mul, nI_add]) (by have := he.1; omega) ?_
  refine mm_istore_2 11 dX12_isLawful_10 rfl rfl ?_
  refine mm_aload_0 12 dX12_isLawful_11 rfl ?_
  refine mm_getR 15 dX12_isLawful_12 f_X12_37 rfl t_51 rfl ?_
  refine mm_iconst 16 5 dX12_isLawful_15 rfl (by decide) ?_
  refine mm_iload_1 17 dX12_isLawful_16 rfl ?_
  refine mm_imul 18 dX12_isLawful_17 rfl ?_
  refine mm_ialoadn 19 (5 * e) dX12_isLawful_18 rfl t_61 (by decide) (by rw [hx, mm_l5, pk_mul]) (by have := he.1; omega) ?_
  refine mm_if_ne 38 22 dX12_isLawful_19 (by decide) rfl (fun h1 => ?_) (fun h1 => ?_)
  · refine mm_iload_2 39 dX12_isLawful_38 rfl ?_
    refine mm_aload_0 40 dX12_isLawful_39 rfl ?_
    refine mm_getI 43 dX12_isLawful_40 f_X12_144 rfl t_51 rfl ?_
    refine mm_ic_ge 85 46 dX12_isLawful_43 (by decide) rfl (fun h2 => ?_) (fun h2 => ?_)
    · refine mm_iconst 86 0 dX12_isLawful_85 rfl (by decide) ?_
      refine mm_zret dX12_isLawful_86 rfl ⟨rfl, Nat.zero_le _⟩ (Or.inl rfl) ?_
      refine hf ?_
      unfold g_law
      rw [if_neg h1]
      (try simp only [ai, Int32.lt_iff_toInt_lt, Int32.le_iff_toInt_le, ← Int32.toInt_inj, vp_in_iff, Int32.reduceToInt, mm_t1, mm_t2, mm_t3, mm_t4, mm_t10] at h2)
      simp [show ¬ (g_a M e : Int) < (M 51 10).toInt by omega]
    · refine mm_aload_0 47 dX12_isLawful_46 rfl ?_
      refine mm_getR 50 dX12_isLawful_47 f_X12_37 rfl t_51 rfl ?_
      refine mm_iconst 51 5 dX12_isLawful_50 rfl (by decide) ?_
      refine mm_iload_1 52 dX12_isLawful_51 rfl ?_
      refine mm_imul 53 dX12_isLawful_52 rfl ?_
      refine mm_ialoadn 54 (5 * e) dX12_isLawful_53 rfl t_61 (by decide) (by rw [hx, mm_l5, pk_mul]) (by have := he.1; omega) ?_
      refine mm_iconst 55 1 dX12_isLawful_54 rfl (by decide) ?_
      refine mm_ic_ne 71 58 dX12_isLawful_55 (by decide) rfl (fun h3 => ?_) (fun h3 => ?_)
      · refine mm_aload_0 72 dX12_isLawful_71 rfl ?_
        refine mm_getR 75 dX12_isLawful_72 f_X12_55 rfl t_51 rfl ?_
        refine mm_iload_2 76 dX12_isLawful_75 rfl ?_
        refine mm_ialoadn 77 (g_a M e) dX12_isLawful_76 rfl t_67 (by decide) (he.a.1) (he.a.2) ?_
        refine mm_iconst 78 1 dX12_isLawful_77 rfl (by decide) ?_
        refine mm_ic_ne 85 81 dX12_isLawful_78 (by decide) rfl (fun h4 => ?_) (fun h4 => ?_)
        · refine mm_iconst 86 0 dX12_isLawful_85 rfl (by decide) ?_
          refine mm_zret dX12_isLawful_86 rfl ⟨rfl, Nat.zero_le _⟩ (Or.inl rfl) ?_
          refine hf ?_
          unfold g_law
          rw [if_neg h1]
          (try simp only [ai, Int32.lt_iff_toInt_lt, Int32.le_iff_toInt_le, ← Int32.toInt_inj, vp_in_iff, Int32.reduceToInt, mm_t1, mm_t2, mm_t3, mm_t4, mm_t10] at h2)
          rw [decide_eq_true (show (g_a M e : Int) < (M 51 10).toInt by omega), Bool.true_and]
          rw [if_neg h3]
          simp [h4]
        · refine mm_iconst 82 1 dX12_isLawful_81 rfl (by decide) ?_
          refine mm_goto 86 dX12_isLawful_82 (by decide) ?_
          refine mm_zret dX12_isLawful_86 rfl ⟨rfl, Nat.zero_le _⟩ (Or.inr rfl) ?_
          refine ht ?_
          unfold g_law
          rw [if_neg h1]
          (try simp only [ai, Int32.lt_iff_toInt_lt, Int32.le_iff_toInt_le, ← Int32.toInt_inj, vp_in_iff, Int32.reduceToInt, mm_t1, mm_t2, mm_t3, mm_t4, mm_t10] at h2)
          rw [decide_eq_true (show (g_a M e : Int) < (M 51 10).toInt by omega), Bool.true_and]
          rw [if_neg h3]
          simp [h4]
      · refine mm_aload_0 59 dX12_isLawful_58 rfl ?_
        refine mm_getR 62 dX12_isLawful_59 f_X12_43 rfl t_51 rfl ?_
        refine mm_iload_2 63 dX12_isLawful_62 rfl ?_
        refine mm_ialoadn 64 (g_a M e) dX12_isLawful_63 rfl t_63 (by decide) (he.a.1) (he.a.2) ?_
        refine mm_iconst 65 (-1) dX12_isLawful_64 rfl (by decide) ?_
        refine mm_ic_eq 85 68 dX12_isLawful_65 (by decide) rfl (fun h5 => ?_) (fun h5 => ?_)
        · refine mm_iconst 86 0 dX12_isLawful_85 rfl (by decide) ?_
          refine mm_zret dX12_isLawful_86 rfl ⟨rfl, Nat.zero_le _⟩ (Or.inl rfl) ?_
          refine hf ?_
          unfold g_law
          rw [if_neg h1]
          (try simp only [ai, Int32.lt_iff_toInt_lt, Int32.le_iff_toInt_le, ← Int32.toInt_inj, vp_in_iff, Int32.reduceToInt, mm_t1, mm_t2, mm_t3, mm_t4, mm_t10] at h2)
          rw [decide_eq_true (show (g_a M e : Int) < (M 51 10).toInt by omega), Bool.true_and]
          rw [if_pos h3]
          simp [h5]
        · refine mm_goto 81 dX12_isLawful_68 (by decide) ?_
          refine mm_iconst 82 1 dX12_isLawful_81 rfl (by decide) ?_
          refine mm_goto 86 dX12_isLawful_82 (by decide) ?_
          refine mm_zret dX12_isLawful_86 rfl ⟨rfl, Nat.zero_le _⟩ (Or.inr rfl) ?_
          refine ht ?_
          unfold g_law
          rw [if_neg h1]
          (try simp only [ai, Int32.lt_iff_toInt_lt, Int32.le_iff_toInt_le, ← Int32.toInt_inj, vp_in_iff, Int32.reduceToInt, mm_t1, mm_t2, mm_t3, mm_t4, mm_t10] at h2)
          rw [decide_eq_true (show (g_a M e : Int) < (M 51 10).toInt by omega), Bool.true_and]
          rw [if_pos h3]
          simp [h5]
  · refine mm_aload_0 23 dX12_isLawful_22 rfl ?_
    refine mm_iload_2 24 dX12_isLawful_23 rfl ?_
    refine mm_aload_0 25 dX12_isLawful_24 rfl ?_
    refine mm_getR 28 dX12_isLawful_25 f_X12_37 rfl t_51 rfl ?_
    refine mm_iconst 29 5 dX12_isLawful_28 rfl (by decide) ?_
    refine mm_iload_1 30 dX12_isLawful_29 rfl ?_
    refine mm_imul 31 dX12_isLawful_30 rfl ?_
    refine mm_iconst 32 3 dX12_isLawful_31 rfl (by decide) ?_
    refine mm_iadd 33 dX12_isLawful_32 rfl ?_
    refine mm_ialoadn 34 (5 * e + 3) dX12_isLawful_33 rfl t_61 (by decide) (by rw [hx, mm_l5, mm_l3, pk_mul, nI_add]) (by have := he.1; omega) ?_
    refine mm_cV2i 37 dX12_isLawful_34 v_X12_215 rfl t_51 (by decide) rfl rfl (Nat.le_of_ble_eq_true rfl) ⟨rfl, rfl⟩ ⟨Nat.zero_le _, Nat.zero_le _⟩ (c_X12_mayWed he.a.1 he.a.2 he.b.1 he.b.2 (fun h6 => ?_) (fun h6 => ?_))
    · refine mm_zret dX12_isLawful_37 rfl ⟨rfl, Nat.zero_le _⟩ (Or.inr rfl) ?_
      refine ht ?_
      unfold g_law
      rw [if_pos h1]
      exact h6
    · refine mm_zret dX12_isLawful_37 rfl ⟨rfl, Nat.zero_le _⟩ (Or.inl rfl) ?_
      refine hf ?_
      unfold g_law
      rw [if_pos h1]
      exact h6

set_option maxHeartbeats 4000000 in
theorem c_X12_takes {l : Launch} {G : mm_G} {d : Nat} {M : mm_M} {Q : Int32 → mm_T → mm_M → Prop} {x m : Int32} {j : Nat} (hx : x = nI j) (hj : j < 6) (h : ∀ r, r = g_mn (M 62 j) m → Q r T0 (g_tk M j m)) : mm_met l G d k_X12_takes [.ref 51, .int x, .int m] T0 M (mm_pi Q) := by
  refine mm_enter 1 [.ref 51, .int x, .int m, .double 0] o_X12_takes rfl rfl ?_
  refine mm_aload_0 1 dX12_takes_0 rfl ?_
  refine mm_getR 4 dX12_takes_1 f_X12_40 rfl t_51 rfl ?_
  refine mm_iload_1 5 dX12_takes_4 rfl ?_
  refine mm_ialoadn 6 (j) dX12_takes_5 rfl t_62 (by decide) (hx) (hj) ?_
  refine mm_iload_2 7 dX12_takes_6 rfl ?_
  refine mm_ic_ge 19 10 dX12_takes_7 (by decide) rfl (fun h1 => ?_) (fun h1 => ?_)
  · refine mm_iload_2 20 dX12_takes_19 rfl ?_
    refine mm_istore_3 21 dX12_takes_20 rfl rfl ?_
    refine mm_aload_0 22 dX12_takes_21 rfl ?_
    refine mm_getR 25 dX12_takes_22 f_X12_40 rfl t_51 rfl ?_
    refine mm_iload_1 26 dX12_takes_25 rfl ?_
    refine mm_dup2 27 dX12_takes_26 rfl rfl rfl ?_
    refine mm_ialoadn 28 (j) dX12_takes_27 rfl t_62 (by decide) (hx) (hj) ?_
    refine mm_iload_3 29 dX12_takes_28 rfl ?_
    refine mm_isub 30 dX12_takes_29 rfl ?_
    refine mm_iastoren 31 (j) dX12_takes_30 rfl t_62 (by decide) (hx) (hj) ?_
    refine mm_iload_3 32 dX12_takes_31 rfl ?_
    refine mm_iret dX12_takes_32 rfl ⟨rfl, Nat.zero_le _⟩ ?_
    have em : g_mn (M 62 j) m = m := by
      unfold g_mn
      (try simp only [Int32.lt_iff_toInt_lt, Int32.le_iff_toInt_le, ← Int32.toInt_inj, vp_in_iff, Int32.reduceToInt, mm_t1, mm_t2, mm_t3, mm_t4, mm_t10] at h1)
      rw [if_neg (by omega)]
    have hh := h _ em.symm
    unfold g_tk at hh
    rw [em] at hh
    exact hh
  · refine mm_aload_0 11 dX12_takes_10 rfl ?_
    refine mm_getR 14 dX12_takes_11 f_X12_40 rfl t_51 rfl ?_
    refine mm_iload_1 15 dX12_takes_14 rfl ?_
    refine mm_ialoadn 16 (j) dX12_takes_15 rfl t_62 (by decide) (hx) (hj) ?_
    refine mm_goto 20 dX12_takes_16 (by decide) ?_
    refine mm_istore_3 21 dX12_takes_20 rfl rfl ?_
    refine mm_aload_0 22 dX12_takes_21 rfl ?_
    refine mm_getR 25 dX12_takes_22 f_X12_40 rfl t_51 rfl ?_
    refine mm_iload_1 26 dX12_takes_25 rfl ?_
    refine mm_dup2 27 dX12_takes_26 rfl rfl rfl ?_
    refine mm_ialoadn 28 (j) dX12_takes_27 rfl t_62 (by decide) (hx) (hj) ?_
    refine mm_iload_3 29 dX12_takes_28 rfl ?_
    refine mm_isub 30 dX12_takes_29 rfl ?_
    refine mm_iastoren 31 (j) dX12_takes_30 rfl t_62 (by decide) (hx) (hj) ?_
    refine mm_iload_3 32 dX12_takes_31 rfl ?_
    refine mm_iret dX12_takes_32 rfl ⟨rfl, Nat.zero_le _⟩ ?_
    have em : g_mn (M 62 j) m = M 62 j := by
      unfold g_mn
      (try simp only [Int32.lt_iff_toInt_lt, Int32.le_iff_toInt_le, ← Int32.toInt_inj, vp_in_iff, Int32.reduceToInt, mm_t1, mm_t2, mm_t3, mm_t4, mm_t10] at h1)
      rw [if_pos (by omega)]
    have hh := h _ em.symm
    unfold g_tk at hh
    rw [em] at hh
    exact hh

