/-! read -/
def rg (it : Nat → Int32) (sz ne m : Nat) : Bool := decide (3 * m + 3 ≤ sz ∧ ne + m < 24) && okw (it (3 * m)) (it (3 * m + 1)) (it (3 * m + 2))
def ecs (A : mm_M) (ne : Nat) (it : Nat → Int32) (w : Int32) : Nat → mm_M
  | 0 => A
  | m + 1 => ec (ecs A ne it w m) (ne + m) 0 w (it (3 * m)) (it (3 * m + 1)) (it (3 * m + 2))
def ers (A : mm_M) (ne : Nat) (it : Nat → Int32) (w : Int32) : Nat → mm_M
  | 0 => A
  | m + 1 => er (ers A ne it w m) (ne + m) 0 w (it (3 * m)) (it (3 * m + 1)) (it (3 * m + 2))
theorem ec_o {M : mm_M} {n : Nat} {k w a b t : Int32} {c : Nat} (h : c < 14 ∨ 19 < c) : ec M n k w a b t c = M c := by
  unfold ec
  rw [mm_upn _ _ _ (by omega), mm_upn _ _ _ (by omega), mm_upn _ _ _ (by omega), mm_upn _ _ _ (by omega), mm_upn _ _ _ (by omega), mm_upn _ _ _ (by omega)]
theorem ec_n {M : mm_M} {n : Nat} {k w a b t : Int32} : ec M n k w a b t 14 5 = nI (n + 1) := by unfold ec; rw [mm_upv]
theorem er_o {M : mm_M} {n : Nat} {k w a b t : Int32} {c : Nat} (h : c ≠ 61 ∧ c ≠ 51) : er M n k w a b t c = M c := by
  unfold er
  rw [mm_upn _ _ _ h.2, mm_upn _ _ _ h.1, mm_upn _ _ _ h.1, mm_upn _ _ _ h.1, mm_upn _ _ _ h.1, mm_upn _ _ _ h.1]
theorem er_51 {M : mm_M} {n : Nat} {k w a b t : Int32} {f : Nat} : er M n k w a b t 51 f = if f = 13 then nI (n + 1) else M 51 f := by
  unfold er
  rw [mm_upc]
  simp only [upd]
  rw [mm_upn _ _ _ (by decide), mm_upn _ _ _ (by decide), mm_upn _ _ _ (by decide), mm_upn _ _ _ (by decide), mm_upn _ _ _ (by decide)]
theorem er_61 {M : mm_M} {n : Nat} {k w a b t : Int32} : (∀ j, j < 5 * n → er M n k w a b t 61 j = M 61 j) ∧ er M n k w a b t 61 (5 * n) = k ∧ er M n k w a b t 61 (5 * n + 1) = w ∧ er M n k w a b t 61 (5 * n + 2) = a ∧ er M n k w a b t 61 (5 * n + 3) = b ∧ er M n k w a b t 61 (5 * n + 4) = t := by
  unfold er
  rw [mm_upn _ _ _ (by decide)]
  simp only [mm_upc, upd]
  refine ⟨fun j hj => ?_, ?_, ?_, ?_, ?_, ?_⟩
  · rw [if_neg (by omega), if_neg (by omega), if_neg (by omega), if_neg (by omega), if_neg (by omega)]
  · rw [if_neg (by omega), if_neg (by omega), if_neg (by omega), if_neg (by omega), if_pos trivial]
  · rw [if_neg (by omega), if_neg (by omega), if_neg (by omega), if_pos trivial]
  · rw [if_neg (by omega), if_neg (by omega), if_pos trivial]
  · rw [if_neg (by omega), if_pos trivial]
  · rw [if_pos trivial]
theorem er_ne {M : mm_M} {n : Nat} {k w a b t : Int32} (h : n < 24) : a_ne (er M n k w a b t) = n + 1 := by
  unfold a_ne
  rw [er_51, if_pos rfl, mm_cn (by omega)]
theorem er_ok {B : mm_M} (h : a_ok B) {k w a b t : Int32} (hn : a_ne B < 24) (hk : 0 ≤ k.toInt ∧ k.toInt ≤ 2) (hw : 0 ≤ w.toInt ∧ w.toInt ≤ 51) (ha : 0 ≤ a.toInt ∧ a.toInt ≤ 11) (hb : 0 ≤ b.toInt ∧ b.toInt ≤ 11) (ht : 6 ≤ t.toInt ∧ t.toInt ≤ 18) : a_ok (er B (a_ne B) k w a b t) := by
  have ne := h.ne
  obtain ⟨h1, h2, h3, h4, h5, h6, h7, h8⟩ := h
  have t1 : (nI (a_ne B + 1)).toInt = (a_ne B + 1 : Nat) := mm_ti (by omega)
  have t0 : (B 51 13).toInt = a_ne B := by rw [ne.1]; exact mm_ti (by omega)
  obtain ⟨q0, q1, q2, q3, q4, q5⟩ := er_61 (M := B) (n := a_ne B) (k := k) (w := w) (a := a) (b := b) (t := t)
  refine ⟨by rw [er_o (by decide)]; exact h1, by rw [er_o (by decide)]; exact h2, by rw [er_o (by decide)]; exact h3, by rw [er_51, if_pos rfl, t1]; omega, fun e he => ?_, by rw [er_51, if_neg (by decide)]; exact h6, by rw [er_51, if_neg (by decide), er_o (by decide)]; exact h7, by rw [er_o (by decide), er_o (by decide)]; exact h8⟩
  rw [er_51, if_pos rfl, t1] at he
  by_cases q : e = a_ne B
  · subst q
    rw [q1, q2, q3, q4, q5]
    exact ⟨hk, hw, ha, hb, ht⟩
  · rw [q0 _ (by omega), q0 _ (by omega), q0 _ (by omega), q0 _ (by omega), q0 _ (by omega)]
    exact h5 e (by omega)
theorem ecs_o {A : mm_M} {ne : Nat} {it : Nat → Int32} {w : Int32} {c : Nat} (h : c < 14 ∨ 19 < c) : ∀ m, ecs A ne it w m c = A c
  | 0 => rfl
  | m + 1 => by
    show ec _ _ _ _ _ _ _ c = _
    rw [ec_o h]; exact ecs_o h m
theorem ecs_n {A : mm_M} {ne : Nat} {it : Nat → Int32} {w : Int32} (h : A 14 5 = nI ne) : ∀ m, ecs A ne it w m 14 5 = nI (ne + m)
  | 0 => h
  | m + 1 => by
    show ec _ _ _ _ _ _ _ 14 5 = _
    rw [ec_n]; rfl
theorem ers_o {A : mm_M} {ne : Nat} {it : Nat → Int32} {w : Int32} {c : Nat} (h : c ≠ 61 ∧ c ≠ 51) : ∀ m, ers A ne it w m c = A c
  | 0 => rfl
  | m + 1 => by
    show er _ _ _ _ _ _ _ c = _
    rw [er_o h]; exact ers_o h m
theorem ers_ok {B : mm_M} (hB : a_ok B) {it : Nat → Int32} {sz : Nat} {w : Int32} (hw : z_lb B w = true) : ∀ m, (∀ x, x < m → rg it sz (a_ne B) x = true) → a_ok (ers B (a_ne B) it w m) ∧ a_ne (ers B (a_ne B) it w m) = a_ne B + m ∧ z_lb (ers B (a_ne B) it w m) w = true
  | 0, _ => ⟨hB, rfl, hw⟩
  | m + 1, h => by
    obtain ⟨i1, i2, i3⟩ := ers_ok hB hw m (fun x hx => h x (by omega))
    have g := h m (by omega)
    simp only [rg, okw, Bool.and_eq_true, decide_eq_true_eq] at g
    have zl := i3
    simp only [z_lb, decide_eq_true_eq] at zl
    have w0 : 0 ≤ z_lt (ers B (a_ne B) it w m) := by
      unfold z_lt
      split
      · exact Int.le_refl _
      · exact (i1.2.2.2.2.1 _ (by rw [i1.ne.1, mm_ti (by have := i1.ne.2; omega)]; omega)).2.1.1
    have n1 : a_ne (er (ers B (a_ne B) it w m) (a_ne B + m) 0 w (it (3 * m)) (it (3 * m + 1)) (it (3 * m + 2))) = a_ne B + m + 1 := er_ne (by omega)
    refine ⟨?_, n1, ?_⟩
    · have := er_ok i1 (k := 0) (w := w) (a := it (3 * m)) (b := it (3 * m + 1)) (t := it (3 * m + 2)) (by omega) (by decide) ⟨by omega, by omega⟩ g.2.1 g.2.2.1 g.2.2.2
      rw [i2] at this
      exact this
    · show z_lb (er _ _ _ _ _ _ _) w = true
      unfold z_lb z_lt
      rw [decide_eq_true_eq, n1, if_neg (by omega), show a_ne B + m + 1 - 1 = a_ne B + m by omega, er_61.2.2.1]
      omega

set_option maxHeartbeats 4000000 in
theorem w_X11_read {l : Launch} {G : mm_G} {d : Nat} {Q : Int32 → mm_T → mm_M → Prop} {A : mm_M} (hi : iv A) {s w : Int32} {k : Nat} (hk : k < 4) (nl : ¬ A 52 k = -1) (h : ∀ n M1, (∀ x, x < n → rg (fun x => A 54 (60 * k + x)) (A 53 k).toNatClampNeg (a_ne A) x = true) → ¬ rg (fun x => A 54 (60 * k + x)) (A 53 k).toNatClampNeg (a_ne A) n = true → fr (ecs A (a_ne A) (fun x => A 54 (60 * k + x)) w n) M1 → Q (nI n) T0 M1) : ∀ (z m : Nat) (Mi : mm_M) {x6 x7 x8 : Value}, 24 - m ≤ z → (∀ x, x < m → rg (fun x => A 54 (60 * k + x)) (A 53 k).toNatClampNeg (a_ne A) x = true) → fr (ecs A (a_ne A) (fun x => A 54 (60 * k + x)) w m) Mi → mm_wp l G (d + 3) k_X11_read (mm_pi Q) 43 [.ref 0, .int s, .int w, .ref (43 + 2 * k), .int (nI m), .int (nI (3 * m)), x6, x7, x8] [] T0 Mi 0 0 := by
  have n24 := hi.1.ne.2
  have sh := hi.sh (fr.rf (A := A)) hk
  have fm := sh.2.1 nl
  have cz := mm_cl2 (x := A 53 k) (n := 61) ⟨sh.2.2.1.2.1, by omega⟩
  intro z
  induction z using Nat.strongRecOn with | _ z ih => ?_
  intro m Mi x6 x7 x8 hze hgd hq
  have m24 : m ≤ 24 := by
    rcases Nat.lt_or_ge 24 m with q | q
    · have g := hgd 24 (by omega)
      simp only [rg, Bool.and_eq_true, decide_eq_true_eq] at g
      omega
    · exact q
  have c2 : Mi (43 + 2 * k) 2 = A 53 k := by rw [hq.a _ (bs_c hk).1, ecs_o (by omega)]; exact fm.2.1
  have szi : (A 53 k).toInt = ((A 53 k).toNatClampNeg : Int) := cz.2.2.symm
  have hmi : (nI (3 * m + 2)).toInt = (3 * m + 2 : Nat) := mm_ti (by omega)
  have n14 : Mi 14 5 = nI (a_ne A + m) := by rw [hq.a 14]; exact ecs_n (by rw [hi.2.2.2.2.1.1]; exact hi.1.ne.1) m
  have n14i : (Mi 14 5).toInt = (a_ne A + m : Nat) := by rw [n14]; exact mm_ti (by omega)
  have itv : ∀ x : Nat, x < (A 53 k).toNatClampNeg → (if 0 ≤ (nI x).toInt ∧ (nI x).toInt < (Mi (43 + 2 * k) 2).toInt ∧ (nI x).toInt < 60 then Mi (44 + 2 * k) (nI x).toNatClampNeg else 0) = A 54 (60 * k + x) := fun x hx => by
    rw [c2, mm_ti (by omega), mm_cn (by omega), if_pos ⟨by omega, by omega, by omega⟩, hq.a _ (bs_c hk).2, ecs_o (by omega)]
    exact fm.2.2 x (by omega)
  refine mm_iload_5 45 dX11_read_43 rfl ?_
  refine mm_iconst 46 2 dX11_read_45 rfl (by decide) ?_
  refine mm_iadd 47 dX11_read_46 rfl ?_
  refine mm_aload_3 48 dX11_read_47 rfl ?_
  refine mm_cV0i 51 dX11_read_48 v_X11_181 rfl (t_sh hk).1 (by decide) rfl rfl (Nat.le_of_ble_eq_true rfl) ⟨rfl, rfl⟩ ⟨Nat.zero_le _, Nat.zero_le _⟩ (c_X5_size (t_sh hk).1 (t_sh hk).2 (fun r1 e1 => ?_))
  rw [e1, c2, mm_l2, nI_add]
  refine mm_ic_ge 131 54 dX11_read_51 (by decide) rfl (fun h2 => ?_) (fun h2 => ?_)
  · refine mm_iload_4 133 dX11_read_131 rfl ?_
    refine mm_iret dX11_read_133 rfl ⟨rfl, Nat.zero_le _⟩ ?_
    exact h m Mi hgd (by simp only [rg, Bool.and_eq_true, decide_eq_true_eq]; intro q; (try simp only [hmi, szi, Int32.lt_iff_toInt_lt, Int32.le_iff_toInt_le, ← Int32.toInt_inj, vp_in_iff, Int32.reduceToInt, mm_t1, mm_t2, mm_t3, mm_t4, mm_t10] at h2); omega) hq
  · have h3 : 3 * m + 3 ≤ (A 53 k).toNatClampNeg := by (try simp only [hmi, szi, Int32.lt_iff_toInt_lt, Int32.le_iff_toInt_le, ← Int32.toInt_inj, vp_in_iff, Int32.reduceToInt, mm_t1, mm_t2, mm_t3, mm_t4, mm_t10] at h2 ⊢); omega
    refine mm_aload_3 55 dX11_read_54 rfl ?_
    refine mm_iload_5 57 dX11_read_55 rfl ?_
    refine mm_cV1i 60 dX11_read_57 v_X11_184 rfl (t_sh hk).1 (by decide) rfl rfl (Nat.le_of_ble_eq_true rfl) ⟨rfl, rfl⟩ ⟨Nat.zero_le _, Nat.zero_le _⟩ (c_X5_itemAt (t_sh hk).1 (t_sh hk).2 (fun r3 e3 => ?_))
    refine mm_istore_6 62 dX11_read_60 rfl rfl ?_
    refine mm_aload_3 63 dX11_read_62 rfl ?_
    refine mm_iload_5 65 dX11_read_63 rfl ?_
    refine mm_iconst 66 1 dX11_read_65 rfl (by decide) ?_
    refine mm_iadd 67 dX11_read_66 rfl ?_
    refine mm_cV1i 70 dX11_read_67 v_X11_184 rfl (t_sh hk).1 (by decide) rfl rfl (Nat.le_of_ble_eq_true rfl) ⟨rfl, rfl⟩ ⟨Nat.zero_le _, Nat.zero_le _⟩ (c_X5_itemAt (t_sh hk).1 (t_sh hk).2 (fun r4 e4 => ?_))
    refine mm_istore_7 72 dX11_read_70 rfl rfl ?_
    refine mm_aload_3 73 dX11_read_72 rfl ?_
    refine mm_iload_5 75 dX11_read_73 rfl ?_
    refine mm_iconst 76 2 dX11_read_75 rfl (by decide) ?_
    refine mm_iadd 77 dX11_read_76 rfl ?_
    refine mm_cV1i 80 dX11_read_77 v_X11_184 rfl (t_sh hk).1 (by decide) rfl rfl (Nat.le_of_ble_eq_true rfl) ⟨rfl, rfl⟩ ⟨Nat.zero_le _, Nat.zero_le _⟩ (c_X5_itemAt (t_sh hk).1 (t_sh hk).2 (fun r5 e5 => ?_))
    refine mm_istore_8 82 dX11_read_80 rfl rfl ?_
    have v0 : r3 = A 54 (60 * k + (3 * m)) := by rw [e3]; exact itv _ (by omega)
    have v1 : r4 = A 54 (60 * k + (3 * m + 1)) := by rw [e4, mm_l1, nI_add]; exact itv _ (by omega)
    have v2 : r5 = A 54 (60 * k + (3 * m + 2)) := by rw [e5, mm_l2, nI_add]; exact itv _ (by omega)
    refine mm_aload_0 83 dX11_read_82 rfl ?_
    refine mm_getR 86 dX11_read_83 f_X11_47 rfl t_0 rfl ?_
    refine mm_cV0i 89 dX11_read_86 v_X11_160 rfl t_14 (by decide) rfl rfl (Nat.le_of_ble_eq_true rfl) ⟨rfl, rfl⟩ ⟨Nat.zero_le _, Nat.zero_le _⟩ (c_X2_isFull (fun h6 => ?_) (fun h6 => ?_))
    · refine mm_if_ne 131 92 dX11_read_89 (by decide) rfl (fun _ => ?_) (fun h => absurd h (by decide))
      refine mm_iload_4 133 dX11_read_131 rfl ?_
      refine mm_iret dX11_read_133 rfl ⟨rfl, Nat.zero_le _⟩ ?_
      exact h m Mi hgd (by simp only [rg, Bool.and_eq_true, decide_eq_true_eq]; intro q; (try simp only [n14i, Int32.lt_iff_toInt_lt, Int32.le_iff_toInt_le, ← Int32.toInt_inj, vp_in_iff, Int32.reduceToInt, mm_t1, mm_t2, mm_t3, mm_t4, mm_t10] at h6); omega) hq
    · refine mm_if_ne 131 92 dX11_read_89 (by decide) rfl (fun h => absurd h (by decide)) (fun _ => ?_)
      refine mm_iload_6 94 dX11_read_92 rfl ?_
      refine mm_iload_7 96 dX11_read_94 rfl ?_
      refine mm_iload_8 98 dX11_read_96 rfl ?_
      refine mm_cS3i 101 dX11_read_98 v_X11_157 rfl (Nat.le_of_ble_eq_true rfl) ⟨rfl, rfl⟩ ⟨Nat.zero_le _, Nat.zero_le _⟩ (c_X11_mayBeWedding (fun h7 => ?_) (fun h7 => ?_))
      · refine mm_if_ne 107 104 dX11_read_101 (by decide) rfl (fun _ => ?_) (fun h => absurd h (by decide))
        refine mm_aload_0 108 dX11_read_107 rfl ?_
        refine mm_getR 111 dX11_read_108 f_X11_47 rfl t_0 rfl ?_
        refine mm_iload_2 112 dX11_read_111 rfl ?_
        refine mm_iconst 113 0 dX11_read_112 rfl (by decide) ?_
        refine mm_iload_6 115 dX11_read_113 rfl ?_
        refine mm_iload_7 117 dX11_read_115 rfl ?_
        refine mm_iload_8 119 dX11_read_117 rfl ?_
        refine mm_cV5v 122 dX11_read_119 v_X11_161 rfl t_14 (by decide) rfl rfl (Nat.le_of_ble_eq_true rfl) ⟨rfl, rfl⟩ ⟨Nat.zero_le _, Nat.zero_le _⟩ (c_X2_add n14 (by (try simp only [n14i, Int32.lt_iff_toInt_lt, Int32.le_iff_toInt_le, ← Int32.toInt_inj, vp_in_iff, Int32.reduceToInt, mm_t1, mm_t2, mm_t3, mm_t4, mm_t10] at h6 ⊢); omega) ?_)
        refine mm_iinc_4 125 1 dX11_read_122 rfl (by decide) rfl ?_
        refine mm_iinc_5 128 3 dX11_read_125 rfl (by decide) rfl ?_
        refine mm_goto 43 dX11_read_128 (by decide) ?_
        have hh := ih (24 - (m + 1)) (by (try simp only [n14i, Int32.lt_iff_toInt_lt, Int32.le_iff_toInt_le, ← Int32.toInt_inj, vp_in_iff, Int32.reduceToInt, mm_t1, mm_t2, mm_t3, mm_t4, mm_t10] at h6); omega) (m + 1) _ (x6 := .int r3) (x7 := .int r4) (x8 := .int r5) (Nat.le_refl _) (fun x hx => ?_) (hq.ec (a_ne A + m) 0 w (A 54 (60 * k + (3 * m))) (A 54 (60 * k + (3 * m + 1))) (A 54 (60 * k + (3 * m + 2))))
        · rw [nI_1, show nI (3 * m) + 3 = nI (3 * (m + 1)) by rw [mm_l3, nI_add]; rfl]
          rw [← v0, ← v1, ← v2] at hh
          exact hh
        · by_cases q : x = m
          · subst q
            simp only [rg, okw, Bool.and_eq_true, decide_eq_true_eq]
            rw [v0, v1, v2] at h7
            exact ⟨⟨by (try simp only [hmi, szi, Int32.lt_iff_toInt_lt, Int32.le_iff_toInt_le, ← Int32.toInt_inj, vp_in_iff, Int32.reduceToInt, mm_t1, mm_t2, mm_t3, mm_t4, mm_t10] at h2 ⊢); omega, by (try simp only [n14i, Int32.lt_iff_toInt_lt, Int32.le_iff_toInt_le, ← Int32.toInt_inj, vp_in_iff, Int32.reduceToInt, mm_t1, mm_t2, mm_t3, mm_t4, mm_t10] at h6 ⊢); omega⟩, h7⟩
          · exact hgd x (by omega)
      · refine mm_if_ne 107 104 dX11_read_101 (by decide) rfl (fun h => absurd h (by decide)) (fun _ => ?_)
        refine mm_goto 131 dX11_read_104 (by decide) ?_
        refine mm_iload_4 133 dX11_read_131 rfl ?_
        refine mm_iret dX11_read_133 rfl ⟨rfl, Nat.zero_le _⟩ ?_
        exact h m Mi hgd (by simp only [rg, okw, Bool.and_eq_true, decide_eq_true_eq]; intro q; rw [v0, v1, v2] at h7; exact h7 q.2) hq

set_option maxHeartbeats 4000000 in
theorem c_X11_read {l : Launch} {G : mm_G} {d : Nat} {M : mm_M} {Q : Int32 → mm_T → mm_M → Prop} {A : mm_M} (hi : iv A) (hf : fr A M) {s w : Int32} (kN : ¬ ((0 ≤ s.toInt ∧ s.toInt ≤ 3) ∧ z_lb A w = true) → Q (-2) T0 M) (kL : 0 ≤ s.toInt ∧ s.toInt ≤ 3 → z_lb A w = true → A 52 s.toNatClampNeg = -1 → Q (-11) T0 (mm_up M 0 11 1)) (kG : 0 ≤ s.toInt ∧ s.toInt ≤ 3 → z_lb A w = true → ¬ A 52 s.toNatClampNeg = -1 → ∀ n M1, (∀ x, x < n → rg (fun x => A 54 (60 * s.toNatClampNeg + x)) (A 53 s.toNatClampNeg).toNatClampNeg (a_ne A) x = true) → ¬ rg (fun x => A 54 (60 * s.toNatClampNeg + x)) (A 53 s.toNatClampNeg).toNatClampNeg (a_ne A) n = true → fr (ecs A (a_ne A) (fun x => A 54 (60 * s.toNatClampNeg + x)) w n) M1 → Q (nI n) T0 M1) : mm_met l G (d + 3) k_X11_read [.ref 0, .int s, .int w] T0 M (mm_pi Q) := by
  refine mm_enter 6 [.ref 0, .int s, .int w, .double 0, .double 0, .double 0, .double 0, .double 0, .double 0] o_X11_read rfl rfl ?_
  refine mm_aload_0 1 dX11_read_0 rfl ?_
  refine mm_iload_1 2 dX11_read_1 rfl ?_
  refine mm_cV1r 5 dX11_read_2 v_X11_171 rfl t_0 (by decide) rfl rfl (Nat.le_of_ble_eq_true rfl) ⟨rfl, rfl⟩ ⟨Nat.zero_le _, Nat.zero_le _⟩ (c_X11_sheetAt (fun k hk es => ?_) (fun h1 => ?_))
  · refine mm_astore_3 6 dX11_read_5 rfl rfl ?_
    refine mm_aload_3 7 dX11_read_6 rfl ?_
    refine mm_nullR 10 dX11_read_7 rfl ?_
    have sk : s.toNatClampNeg = k := by rw [es]; exact mm_cn (by omega)
    have si : s.toInt = k := by rw [es]; exact mm_ti (by omega)
    have sh := hi.sh hf hk
    refine mm_aload_0 11 dX11_read_10 rfl ?_
    refine mm_getR 14 dX11_read_11 f_X11_47 rfl t_0 rfl ?_
    refine mm_iload_2 15 dX11_read_14 rfl ?_
    refine mm_cV1i 18 dX11_read_15 v_X11_154 rfl t_14 (by decide) rfl rfl (Nat.le_of_ble_eq_true rfl) ⟨rfl, rfl⟩ ⟨Nat.zero_le _, Nat.zero_le _⟩ (c_X2_mayComeIn hi hf (fun h2 => ?_) (fun h2 => ?_))
    · refine mm_if_ne 24 21 dX11_read_18 (by decide) rfl (fun _ => ?_) (fun h => absurd h (by decide))
      refine mm_aload_3 25 dX11_read_24 rfl ?_
      refine mm_cV0i 28 dX11_read_25 v_X11_175 rfl (t_sh hk).1 (by decide) rfl rfl (Nat.le_of_ble_eq_true rfl) ⟨rfl, rfl⟩ ⟨Nat.zero_le _, Nat.zero_le _⟩ (c_X5_isLost (t_sh hk).1 (t_sh hk).2 (fun h3 => ?_) (fun h3 => ?_))
      · refine mm_if_eq 37 31 dX11_read_28 (by decide) rfl (fun h => absurd h (by decide)) (fun _ => ?_)
        refine mm_aload_0 32 dX11_read_31 rfl ?_
        refine mm_iconst 33 1 dX11_read_32 rfl (by decide) ?_
        refine mm_cV1i 36 dX11_read_33 v_X11_178 rfl t_0 (by decide) rfl rfl (Nat.le_of_ble_eq_true rfl) ⟨rfl, rfl⟩ ⟨Nat.zero_le _, Nat.zero_le _⟩ (c_X11_finding (fun r4 e4 => ?_))
        refine mm_iret dX11_read_36 rfl ⟨rfl, Nat.zero_le _⟩ ?_
        rw [e4]
        exact kL (by omega) h2 (by rw [sk]; exact sh.1.mp h3)
      · refine mm_if_eq 37 31 dX11_read_28 (by decide) rfl (fun _ => ?_) (fun h => absurd h (by decide))
        refine mm_iconst 38 0 dX11_read_37 rfl (by decide) ?_
        refine mm_istore_4 40 dX11_read_38 rfl rfl ?_
        refine mm_iconst 41 0 dX11_read_40 rfl (by decide) ?_
        refine mm_istore_5 43 dX11_read_41 rfl rfl ?_
        have nl : ¬ A 52 k = -1 := fun q => h3 (sh.1.mpr q)
        have kk := kG (by omega) h2 (by rw [sk]; exact nl)
        rw [sk] at kk
        exact w_X11_read hi hk nl kk 24 0 M (by omega) (fun x hx => by omega) hf
    · refine mm_if_ne 24 21 dX11_read_18 (by decide) rfl (fun h => absurd h (by decide)) (fun _ => ?_)
      refine mm_bipush 23 (-2) dX11_read_21 rfl (by decide) ?_
      refine mm_iret dX11_read_23 rfl ⟨rfl, Nat.zero_le _⟩ ?_
      exact kN (fun q => h2 q.2)
  · refine mm_nstore_3 6 dX11_read_5 rfl rfl ?_
    refine mm_nload_3 7 dX11_read_6 rfl ?_
    refine mm_nullN 21 dX11_read_7 (by decide) ?_
    refine mm_bipush 23 (-2) dX11_read_21 rfl (by decide) ?_
    refine mm_iret dX11_read_23 rfl ⟨rfl, Nat.zero_le _⟩ ?_
    exact kN (fun q => by (try simp only [Int32.lt_iff_toInt_lt, Int32.le_iff_toInt_le, ← Int32.toInt_inj, vp_in_iff, Int32.reduceToInt, mm_t1, mm_t2, mm_t3, mm_t4, mm_t10] at h1); omega)

