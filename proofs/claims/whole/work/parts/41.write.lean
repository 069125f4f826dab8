/-! read of the reference, write -/
theorem va_upn (M : mm_M) {c c2 : Nat} (row : Nat → Int32) (h : c2 ≠ c) : va_up M c row c2 = M c2 := by simp [va_up, h]

set_option maxHeartbeats 4000000 in
theorem w_X12_read0 {l : Launch} {G : mm_G} {d : Nat} {Q : Int32 → mm_T → mm_M → Prop} {Mi : mm_M} {s w : Int32} {m : Nat} {x5 : Value} (h : Q (nI m) T0 Mi) : mm_wp l G (d + 3) k_X12_read (mm_pi Q) 38 [.ref 51, .int s, .int w, .int (nI m), .int 0, x5] [] T0 Mi 0 0 := by
  refine mm_iload_4 40 dX12_read_38 rfl ?_
  refine mm_if_eq 123 43 dX12_read_40 (by decide) rfl (fun _ => ?_) (fun h => absurd h (by decide))
  refine mm_iload_3 124 dX12_read_123 rfl ?_
  refine mm_iret dX12_read_124 rfl ⟨rfl, Nat.zero_le _⟩ ?_
  exact h

set_option maxHeartbeats 4000000 in
theorem w_X12_read {l : Launch} {G : mm_G} {d : Nat} {Q : Int32 → mm_T → mm_M → Prop} {B : mm_M} (hB : a_ok B) {s w : Int32} (cs : s = nI s.toNatClampNeg ∧ s.toNatClampNeg < 4 ∧ (s.toNatClampNeg : Int) = s.toInt) (hw : z_lb B w = true) (h : ∀ n M1, (∀ x, x < n → rg (fun x => B 54 (60 * s.toNatClampNeg + x)) (B 53 s.toNatClampNeg).toNatClampNeg (a_ne B) x = true) → ¬ rg (fun x => B 54 (60 * s.toNatClampNeg + x)) (B 53 s.toNatClampNeg).toNatClampNeg (a_ne B) n = true → fr (ers B (a_ne B) (fun x => B 54 (60 * s.toNatClampNeg + x)) w n) M1 → Q (nI n) T0 M1) : ∀ (z m : Nat) (Mi : mm_M) {x5 : Value}, 24 - m ≤ z → (∀ x, x < m → rg (fun x => B 54 (60 * s.toNatClampNeg + x)) (B 53 s.toNatClampNeg).toNatClampNeg (a_ne B) x = true) → fr (ers B (a_ne B) (fun x => B 54 (60 * s.toNatClampNeg + x)) w m) Mi → mm_wp l G (d + 3) k_X12_read (mm_pi Q) 38 [.ref 51, .int s, .int w, .int (nI m), .int 1, x5] [] T0 Mi 0 0 := by
  have n24 := hB.ne.2
  have sz := (hB.2.2.2.2.2.2.2 _ cs.2.1).2
  have cz := mm_cl2 (x := B 53 s.toNatClampNeg) (n := 61) ⟨sz.1, by omega⟩
  intro z
  induction z using Nat.strongRecOn with | _ z ih => ?_
  intro m Mi x5 hze hgd hq
  obtain ⟨ok1, i2, i3⟩ := ers_ok hB hw m hgd
  have m24 : m ≤ 24 := by
    rcases Nat.lt_or_ge 24 m with q | q
    · have g := hgd 24 (by omega)
      simp only [rg, Bool.and_eq_true, decide_eq_true_eq] at g
      omega
    · exact q
  have c53 : Mi 53 s.toNatClampNeg = B 53 s.toNatClampNeg := by rw [hq.a 53, ers_o (by decide)]
  have c54 : Mi 54 = B 54 := by rw [hq.a 54, ers_o (by decide)]
  have szi : (B 53 s.toNatClampNeg).toInt = ((B 53 s.toNatClampNeg).toNatClampNeg : Int) := cz.2.2.symm
  have hmi : (nI (3 * m + 3)).toInt = (3 * m + 3 : Nat) := mm_ti (by omega)
  refine mm_iload_4 40 dX12_read_38 rfl ?_
  refine mm_if_eq 123 43 dX12_read_40 (by decide) rfl (fun h => absurd h (by decide)) (fun _ => ?_)
  refine mm_iconst 44 3 dX12_read_43 rfl (by decide) ?_
  refine mm_iload_3 45 dX12_read_44 rfl ?_
  refine mm_imul 46 dX12_read_45 rfl ?_
  refine mm_iconst 47 3 dX12_read_46 rfl (by decide) ?_
  refine mm_iadd 48 dX12_read_47 rfl ?_
  refine mm_aload_0 49 dX12_read_48 rfl ?_
  refine mm_getR 52 dX12_read_49 f_X12_13 rfl t_51 rfl ?_
  refine mm_iload_1 53 dX12_read_52 rfl ?_
  refine mm_ialoadn 54 (s.toNatClampNeg) dX12_read_53 rfl t_53 (by decide) (cs.1) (by omega) ?_
  rw [show (3 : Int32) * nI m + 3 = nI (3 * m + 3) by rw [mm_l3, pk_mul, nI_add], c53]
  refine mm_ic_gt 123 57 dX12_read_54 (by decide) rfl (fun h1 => ?_) (fun h1 => ?_)
  · refine mm_iload_3 124 dX12_read_123 rfl ?_
    refine mm_iret dX12_read_124 rfl ⟨rfl, Nat.zero_le _⟩ ?_
    exact h m _ hgd (by simp only [rg, Bool.and_eq_true, decide_eq_true_eq]; intro q; (try simp only [hmi, szi, Int32.lt_iff_toInt_lt, Int32.le_iff_toInt_le, ← Int32.toInt_inj, vp_in_iff, Int32.reduceToInt, mm_t1, mm_t2, mm_t3, mm_t4, mm_t10] at h1); omega) hq
  · have h3 : 3 * m + 3 ≤ (B 53 s.toNatClampNeg).toNatClampNeg := by (try simp only [hmi, szi, Int32.lt_iff_toInt_lt, Int32.le_iff_toInt_le, ← Int32.toInt_inj, vp_in_iff, Int32.reduceToInt, mm_t1, mm_t2, mm_t3, mm_t4, mm_t10] at h1 ⊢); omega
    refine mm_bipush 59 60 dX12_read_57 rfl (by decide) ?_
    refine mm_iload_1 60 dX12_read_59 rfl ?_
    refine mm_imul 61 dX12_read_60 rfl ?_
    refine mm_iconst 62 3 dX12_read_61 rfl (by decide) ?_
    refine mm_iload_3 63 dX12_read_62 rfl ?_
    refine mm_imul 64 dX12_read_63 rfl ?_
    refine mm_iadd 65 dX12_read_64 rfl ?_
    refine mm_istore_5 67 dX12_read_65 rfl rfl ?_
    refine mm_aload_0 68 dX12_read_67 rfl ?_
    refine mm_iload_2 69 dX12_read_68 rfl ?_
    refine mm_aload_0 70 dX12_read_69 rfl ?_
    refine mm_getR 73 dX12_read_70 f_X12_16 rfl t_51 rfl ?_
    refine mm_iload_5 75 dX12_read_73 rfl ?_
    refine mm_ialoadn 76 (60 * s.toNatClampNeg + (3 * m)) dX12_read_75 rfl t_54 (by decide) (by rw [l60, cs.1, pk_mul, mm_l3, pk_mul, nI_add, mm_cn (by omega)]) (by omega) ?_
    refine mm_aload_0 77 dX12_read_76 rfl ?_
    refine mm_getR 80 dX12_read_77 f_X12_16 rfl t_51 rfl ?_
    refine mm_iload_5 82 dX12_read_80 rfl ?_
    refine mm_iconst 83 1 dX12_read_82 rfl (by decide) ?_
    refine mm_iadd 84 dX12_read_83 rfl ?_
    refine mm_ialoadn 85 (60 * s.toNatClampNeg + (3 * m + 1)) dX12_read_84 rfl t_54 (by decide) (by rw [l60, cs.1, pk_mul, mm_l3, pk_mul, nI_add, mm_l1, nI_add, mm_cn (by omega), Nat.add_assoc]) (by omega) ?_
    refine mm_aload_0 86 dX12_read_85 rfl ?_
    refine mm_getR 89 dX12_read_86 f_X12_16 rfl t_51 rfl ?_
    refine mm_iload_5 91 dX12_read_89 rfl ?_
    refine mm_iconst 92 2 dX12_read_91 rfl (by decide) ?_
    refine mm_iadd 93 dX12_read_92 rfl ?_
    refine mm_ialoadn 94 (60 * s.toNatClampNeg + (3 * m + 2)) dX12_read_93 rfl t_54 (by decide) (by rw [l60, cs.1, pk_mul, mm_l3, pk_mul, nI_add, mm_l2, nI_add, mm_cn (by omega), Nat.add_assoc]) (by omega) ?_
    refine mm_cV4i 97 dX12_read_94 v_X12_199 rfl t_51 (by decide) rfl rfl (Nat.le_of_ble_eq_true rfl) ⟨rfl, rfl⟩ ⟨Nat.zero_le _, Nat.zero_le _⟩ (c_X12_wed ok1 hq (fun r2 M2 e2 f2 => ?_))
    refine mm_if_lt 104 100 dX12_read_97 (by decide) rfl (fun h3 => ?_) (fun h3 => ?_)
    · refine mm_iconst 105 0 dX12_read_104 rfl (by decide) ?_
      refine mm_istore_4 107 dX12_read_105 rfl rfl ?_
      refine mm_iload_3 108 dX12_read_107 rfl ?_
      refine mm_iload_4 110 dX12_read_108 rfl ?_
      refine mm_if_eq 117 113 dX12_read_110 (by decide) rfl (fun _ => ?_) (fun h => absurd h (by decide))
      refine mm_iconst 118 0 dX12_read_117 rfl (by decide) ?_
      refine mm_iadd 119 dX12_read_118 rfl ?_
      refine mm_istore_3 120 dX12_read_119 rfl rfl ?_
      refine mm_goto 38 dX12_read_120 (by decide) ?_
      rw [c54] at e2 f2
      unfold z_tell at e2
      unfold te at f2
      rw [i3, Bool.true_and] at e2 f2
      rw [i2] at e2 f2
      by_cases g : okw (B 54 (60 * s.toNatClampNeg + (3 * m))) (B 54 (60 * s.toNatClampNeg + (3 * m + 1))) (B 54 (60 * s.toNatClampNeg + (3 * m + 2))) = true
      · rw [if_pos g] at e2 f2
        by_cases g2 : a_ne B + m < 24
        · exfalso
          rw [if_pos g2] at e2
          rw [e2, mm_lt, mm_ti (by omega), show (0 : Int32).toInt = 0 from rfl] at h3
          omega
        · rw [if_neg g2] at f2
          rw [Int32.add_zero]
          exact w_X12_read0 (h m _ hgd (by simp only [rg, Bool.and_eq_true, decide_eq_true_eq]; intro q; omega) f2)
      · rw [if_neg g] at e2 f2
        rw [Int32.add_zero]
        exact w_X12_read0 (h m _ hgd (by simp only [rg, Bool.and_eq_true, decide_eq_true_eq]; intro q; exact g q.2) f2)
    · refine mm_iconst 101 1 dX12_read_100 rfl (by decide) ?_
      refine mm_goto 105 dX12_read_101 (by decide) ?_
      refine mm_istore_4 107 dX12_read_105 rfl rfl ?_
      refine mm_iload_3 108 dX12_read_107 rfl ?_
      refine mm_iload_4 110 dX12_read_108 rfl ?_
      refine mm_if_eq 117 113 dX12_read_110 (by decide) rfl (fun h => absurd h (by decide)) (fun _ => ?_)
      refine mm_iconst 114 1 dX12_read_113 rfl (by decide) ?_
      refine mm_goto 118 dX12_read_114 (by decide) ?_
      refine mm_iadd 119 dX12_read_118 rfl ?_
      refine mm_istore_3 120 dX12_read_119 rfl rfl ?_
      refine mm_goto 38 dX12_read_120 (by decide) ?_
      rw [c54] at e2 f2
      unfold z_tell at e2
      unfold te at f2
      rw [i3, Bool.true_and] at e2 f2
      rw [i2] at e2 f2
      by_cases g : okw (B 54 (60 * s.toNatClampNeg + (3 * m))) (B 54 (60 * s.toNatClampNeg + (3 * m + 1))) (B 54 (60 * s.toNatClampNeg + (3 * m + 2))) = true
      · rw [if_pos g] at e2 f2
        by_cases g2 : a_ne B + m < 24
        · rw [if_pos g2] at f2
          rw [nI_1]
          refine ih (24 - (m + 1)) (by omega) (m + 1) _ (Nat.le_refl _) (fun x hx => ?_) f2
          by_cases q : x = m
          · subst q
            simp only [rg, Bool.and_eq_true, decide_eq_true_eq]
            exact ⟨⟨h3, g2⟩, g⟩
          · exact hgd x (by omega)
        · exfalso
          rw [if_neg g2] at e2
          rw [e2] at h3
          exact h3 (by decide)
      · exfalso
        rw [if_neg g] at e2
        rw [e2] at h3
        exact h3 (by decide)

set_option maxHeartbeats 4000000 in
theorem c_X12_read {l : Launch} {G : mm_G} {d : Nat} {M : mm_M} {Q : Int32 → mm_T → mm_M → Prop} {B : mm_M} (hB : a_ok B) (hf : fr B M) {s w : Int32} (kN : ¬ ((0 ≤ s.toInt ∧ s.toInt ≤ 3) ∧ z_lb B w = true) → Q (-2) T0 M) (kL : 0 ≤ s.toInt ∧ s.toInt ≤ 3 → z_lb B w = true → B 52 s.toNatClampNeg = -1 → Q (-11) T0 (mm_up M 51 4 1)) (kG : 0 ≤ s.toInt ∧ s.toInt ≤ 3 → z_lb B w = true → ¬ B 52 s.toNatClampNeg = -1 → ∀ n M1, (∀ x, x < n → rg (fun x => B 54 (60 * s.toNatClampNeg + x)) (B 53 s.toNatClampNeg).toNatClampNeg (a_ne B) x = true) → ¬ rg (fun x => B 54 (60 * s.toNatClampNeg + x)) (B 53 s.toNatClampNeg).toNatClampNeg (a_ne B) n = true → fr (ers B (a_ne B) (fun x => B 54 (60 * s.toNatClampNeg + x)) w n) M1 → Q (nI n) T0 M1) : mm_met l G (d + 3) k_X12_read [.ref 51, .int s, .int w] T0 M (mm_pi Q) := by
  have ok := fun k (hk : k < 4) => hB.2.2.2.2.2.2.2 k hk
  refine mm_enter 3 [.ref 51, .int s, .int w, .double 0, .double 0, .double 0] o_X12_read rfl rfl ?_
  refine mm_iload_1 1 dX12_read_0 rfl ?_
  refine mm_cS1i 4 dX12_read_1 v_X12_105 rfl (Nat.le_of_ble_eq_true rfl) ⟨rfl, rfl⟩ ⟨Nat.zero_le _, Nat.zero_le _⟩ (c_X12_isSheet  (fun h1 => ?_) (fun h1 => ?_))
  · refine mm_if_eq 15 7 dX12_read_4 (by decide) rfl (fun h => absurd h (by decide)) (fun _ => ?_)
    refine mm_aload_0 8 dX12_read_7 rfl ?_
    refine mm_iload_2 9 dX12_read_8 rfl ?_
    refine mm_cV1i 12 dX12_read_9 v_X12_189 rfl t_51 (by decide) rfl rfl (Nat.le_of_ble_eq_true rfl) ⟨rfl, rfl⟩ ⟨Nat.zero_le _, Nat.zero_le _⟩ (c_X12_isLate hB hf (fun h2 => ?_) (fun h2 => ?_))
    · refine mm_if_ne 18 15 dX12_read_12 (by decide) rfl (fun _ => ?_) (fun h => absurd h (by decide))
      have cs := mm_cl2 (x := s) (n := 4) (by omega)
      refine mm_aload_0 19 dX12_read_18 rfl ?_
      refine mm_getR 22 dX12_read_19 f_X12_7 rfl t_51 rfl ?_
      refine mm_iload_1 23 dX12_read_22 rfl ?_
      refine mm_ialoadn 24 (s.toNatClampNeg) dX12_read_23 rfl t_52 (by decide) (cs.1) (by omega) ?_
      refine mm_if_ge 33 27 dX12_read_24 (by decide) rfl (fun h3 => ?_) (fun h3 => ?_)
      · refine mm_iconst 34 0 dX12_read_33 rfl (by decide) ?_
        refine mm_istore_3 35 dX12_read_34 rfl rfl ?_
        refine mm_iconst 36 1 dX12_read_35 rfl (by decide) ?_
        refine mm_istore_4 38 dX12_read_36 rfl rfl ?_
        have o1 := (ok _ cs.2.1).1
        rw [hf.a 52] at h3
        exact w_X12_read hB cs h2 (kG h1 h2 (by (try simp only [Int32.lt_iff_toInt_lt, Int32.le_iff_toInt_le, ← Int32.toInt_inj, vp_in_iff, Int32.reduceToInt, mm_t1, mm_t2, mm_t3, mm_t4, mm_t10] at h3 ⊢); omega)) 24 0 M (by omega) (fun x hx => by omega) hf
      · refine mm_aload_0 28 dX12_read_27 rfl ?_
        refine mm_iconst 29 1 dX12_read_28 rfl (by decide) ?_
        refine mm_cV1i 32 dX12_read_29 v_X12_111 rfl t_51 (by decide) rfl rfl (Nat.le_of_ble_eq_true rfl) ⟨rfl, rfl⟩ ⟨Nat.zero_le _, Nat.zero_le _⟩ (c_X12_met (fun r4 e4 => ?_))
        refine mm_iret dX12_read_32 rfl ⟨rfl, Nat.zero_le _⟩ ?_
        rw [e4]
        have o1 := (ok _ cs.2.1).1
        rw [hf.a 52] at h3
        exact kL h1 h2 (by (try simp only [Int32.lt_iff_toInt_lt, Int32.le_iff_toInt_le, ← Int32.toInt_inj, vp_in_iff, Int32.reduceToInt, mm_t1, mm_t2, mm_t3, mm_t4, mm_t10] at h3 ⊢); omega)
    · refine mm_if_ne 18 15 dX12_read_12 (by decide) rfl (fun h => absurd h (by decide)) (fun _ => ?_)
      refine mm_bipush 17 (-2) dX12_read_15 rfl (by decide) ?_
      refine mm_iret dX12_read_17 rfl ⟨rfl, Nat.zero_le _⟩ ?_
      exact kN (fun q => h2 q.2)
  · refine mm_if_eq 15 7 dX12_read_4 (by decide) rfl (fun _ => ?_) (fun h => absurd h (by decide))
    refine mm_bipush 17 (-2) dX12_read_15 rfl (by decide) ?_
    refine mm_iret dX12_read_17 rfl ⟨rfl, Nat.zero_le _⟩ ?_
    exact kN (fun q => h1 q.1)

def wn (A : mm_M) (k : Nat) : Nat := if (A 53 k).toInt < a_nl A then (A 53 k).toNatClampNeg else a_nl A
def wrow (A : mm_M) (k y : Nat) (x : Nat) : Int32 := g_cut (A 52 k) (zr A (-1) y 62 x)

set_option maxHeartbeats 4000000 in
theorem w_X11_write {l : Launch} {G : mm_G} {d : Nat} {M : mm_M} {Q : Int32 → mm_T → mm_M → Prop} {A : mm_M} (hi : iv A) (hf : fr A M) {s w : Int32} {k y B : Nat} (hk : k < 4) (nl : ¬ A 52 k = -1) (hw : v_w M (zr A (-1) y) (a_nl A) (a_np A) B) (h : Q (nI (wn A k)) T0 (va_up M (44 + 2 * k) (va_cpy (wrow A k y) (M (44 + 2 * k)) 0 0 (wn A k)))) : ∀ (z j : Nat), wn A k - j ≤ z → j ≤ wn A k → mm_wp l G (d + 5) k_X11_write (mm_pi Q) 62 [.ref 0, .int w, .int s, .ref (43 + 2 * k), .int (nI (wn A k)), .int (nI j)] [] T0 (va_up M (44 + 2 * k) (va_cpy (wrow A k y) (M (44 + 2 * k)) 0 0 j)) 0 0 := by
  have n6 := hi.1.nl
  have sh := hi.sh hf hk
  have fm := sh.2.1 nl
  have cz := mm_cl2 (x := A 53 k) (n := 61) ⟨sh.2.2.1.2.1, by omega⟩
  have wl : wn A k ≤ a_nl A ∧ (wn A k : Int) ≤ (A 53 k).toInt := by unfold wn; split <;> omega
  intro z
  induction z using Nat.strongRecOn with | _ z ih => ?_
  intro j hze hjn
  have hji : (nI j).toInt = j := mm_ti (by omega)
  have hjc : (nI j).toNatClampNeg = j := mm_cn (by omega)
  have hni : (nI (wn A k)).toInt = wn A k := mm_ti (by omega)
  have c5 : ((va_up M (44 + 2 * k) (va_cpy (wrow A k y) (M (44 + 2 * k)) 0 0 j)) 5 1).toInt = a_nl A := by rw [show (va_up M (44 + 2 * k) (va_cpy (wrow A k y) (M (44 + 2 * k)) 0 0 j)) 5 = M 5 from va_upn _ _ (by omega)]; exact (hf.vd hi).1.li
  have c21 : (va_up M (44 + 2 * k) (va_cpy (wrow A k y) (M (44 + 2 * k)) 0 0 j)) 21 = M 21 := va_upn _ _ (by omega)
  refine mm_iload_5 64 dX11_write_62 rfl ?_
  refine mm_iload_4 66 dX11_write_64 rfl ?_
  refine mm_ic_ge 90 69 dX11_write_66 (by decide) rfl (fun h1 => ?_) (fun h1 => ?_)
  · refine mm_iload_4 92 dX11_write_90 rfl ?_
    refine mm_iret dX11_write_92 rfl ⟨rfl, Nat.zero_le _⟩ ?_
    have hz : j = wn A k := by (try simp only [hji, hni, Int32.lt_iff_toInt_lt, Int32.le_iff_toInt_le, ← Int32.toInt_inj, vp_in_iff, Int32.reduceToInt, mm_t1, mm_t2, mm_t3, mm_t4, mm_t10] at h1); omega
    rw [hz]
    exact h
  · have hlt : j < wn A k := by (try simp only [hji, hni, Int32.lt_iff_toInt_lt, Int32.le_iff_toInt_le, ← Int32.toInt_inj, vp_in_iff, Int32.reduceToInt, mm_t1, mm_t2, mm_t3, mm_t4, mm_t10] at h1); omega
    refine mm_aload_3 70 dX11_write_69 rfl ?_
    refine mm_iload_5 72 dX11_write_70 rfl ?_
    refine mm_aload_0 73 dX11_write_72 rfl ?_
    refine mm_getR 76 dX11_write_73 f_X11_56 rfl t_0 rfl ?_
    refine mm_iload_5 78 dX11_write_76 rfl ?_
    refine mm_cV1i 81 dX11_write_78 v_X11_204 rfl t_20 (by decide) rfl rfl (Nat.le_of_ble_eq_true rfl) ⟨rfl, rfl⟩ ⟨Nat.zero_le _, Nat.zero_le _⟩ (c_X10_widthOf (by rw [c5]; omega) (fun r2 e2 => ?_))
    have wv : r2 = zr A (-1) y 62 j := by rw [e2]; unfold s_X10_widthOf; rw [c5, hji, hjc, if_pos ⟨by omega, by omega⟩, c21]; exact (hw.1 j (by omega)).1
    rw [wv]
    refine mm_cV2v 84 dX11_write_81 v_X11_274 rfl (t_sh hk).1 (by decide) rfl rfl (Nat.le_of_ble_eq_true rfl) ⟨rfl, rfl⟩ ⟨Nat.zero_le _, Nat.zero_le _⟩ (c_X5_put (t_sh hk).1 (t_sh hk).2 ⟨by omega, by rw [show (va_up M (44 + 2 * k) (va_cpy (wrow A k y) (M (44 + 2 * k)) 0 0 j)) (43 + 2 * k) = M (43 + 2 * k) from va_upn _ _ (by omega), fm.2.1]; omega, by omega⟩ ?_)
    refine mm_iinc_5 87 1 dX11_write_84 rfl (by decide) rfl ?_
    refine mm_goto 62 dX11_write_87 (by decide) ?_
    rw [nI_1, hjc, mm_upva, show (va_up M (44 + 2 * k) (va_cpy (wrow A k y) (M (44 + 2 * k)) 0 0 j)) (43 + 2 * k) = M (43 + 2 * k) from va_upn _ _ (by omega), fm.1]
    have hh := ih (wn A k - (j + 1)) (by omega) (j + 1) (Nat.le_refl _) (by omega)
    rw [← cpy_s, Nat.zero_add] at hh
    exact hh

set_option maxHeartbeats 4000000 in
theorem c_X11_write {l : Launch} {G : mm_G} {d : Nat} {M : mm_M} {Q : Int32 → mm_T → mm_M → Prop} {A : mm_M} (hi : iv A) (hf : fr A M) {w s : Int32} (kN : ¬ ((0 ≤ s.toInt ∧ s.toInt ≤ 3) ∧ 0 ≤ w.toInt ∧ w.toInt ≤ a_ne A) → Q (-2) T0 M) (kL : 0 ≤ s.toInt ∧ s.toInt ≤ 3 → 0 ≤ w.toInt ∧ w.toInt ≤ a_ne A → A 52 s.toNatClampNeg = -1 → Q (-11) T0 (mm_up M 0 11 1)) (kG : 0 ≤ s.toInt ∧ s.toInt ≤ 3 → 0 ≤ w.toInt ∧ w.toInt ≤ a_ne A → ¬ A 52 s.toNatClampNeg = -1 → ∀ M1, fr (va_up A (44 + 2 * s.toNatClampNeg) (va_cpy (wrow A s.toNatClampNeg w.toNatClampNeg) (A (44 + 2 * s.toNatClampNeg)) 0 0 (wn A s.toNatClampNeg))) M1 → Q (nI (wn A s.toNatClampNeg)) T0 M1) : mm_met l G (d + 5) k_X11_write [.ref 0, .int w, .int s] T0 M (mm_pi Q) := by
  refine mm_enter 3 [.ref 0, .int w, .int s, .double 0, .double 0, .double 0] o_X11_write rfl rfl ?_
  refine mm_aload_0 1 dX11_write_0 rfl ?_
  refine mm_iload_2 2 dX11_write_1 rfl ?_
  refine mm_cV1r 5 dX11_write_2 v_X11_171 rfl t_0 (by decide) rfl rfl (Nat.le_of_ble_eq_true rfl) ⟨rfl, rfl⟩ ⟨Nat.zero_le _, Nat.zero_le _⟩ (c_X11_sheetAt (fun k hk es => ?_) (fun h1 => ?_))
  · refine mm_astore_3 6 dX11_write_5 rfl rfl ?_
    refine mm_aload_3 7 dX11_write_6 rfl ?_
    refine mm_nullR 10 dX11_write_7 rfl ?_
    have sk : s.toNatClampNeg = k := by rw [es]; exact mm_cn (by omega)
    have si : s.toInt = k := by rw [es]; exact mm_ti (by omega)
    have sh := hi.sh hf hk
    refine mm_aload_0 11 dX11_write_10 rfl ?_
    refine mm_iload_1 12 dX11_write_11 rfl ?_
    refine mm_cV1i 15 dX11_write_12 v_X11_201 rfl t_0 (by decide) rfl rfl (Nat.le_of_ble_eq_true rfl) ⟨rfl, rfl⟩ ⟨Nat.zero_le _, Nat.zero_le _⟩ (c_X11_mayBeBehind hi hf (fun h2 => ?_) (fun h2 => ?_))
    · refine mm_if_ne 21 18 dX11_write_15 (by decide) rfl (fun _ => ?_) (fun h => absurd h (by decide))
      refine mm_aload_3 22 dX11_write_21 rfl ?_
      refine mm_cV0i 25 dX11_write_22 v_X11_175 rfl (t_sh hk).1 (by decide) rfl rfl (Nat.le_of_ble_eq_true rfl) ⟨rfl, rfl⟩ ⟨Nat.zero_le _, Nat.zero_le _⟩ (c_X5_isLost (t_sh hk).1 (t_sh hk).2 (fun h3 => ?_) (fun h3 => ?_))
      · refine mm_if_eq 34 28 dX11_write_25 (by decide) rfl (fun h => absurd h (by decide)) (fun _ => ?_)
        refine mm_aload_0 29 dX11_write_28 rfl ?_
        refine mm_iconst 30 1 dX11_write_29 rfl (by decide) ?_
        refine mm_cV1i 33 dX11_write_30 v_X11_178 rfl t_0 (by decide) rfl rfl (Nat.le_of_ble_eq_true rfl) ⟨rfl, rfl⟩ ⟨Nat.zero_le _, Nat.zero_le _⟩ (c_X11_finding (fun r4 e4 => ?_))
        refine mm_iret dX11_write_33 rfl ⟨rfl, Nat.zero_le _⟩ ?_
        rw [e4]
        exact kL (by omega) h2 (by rw [sk]; exact sh.1.mp h3)
      · refine mm_if_eq 34 28 dX11_write_25 (by decide) rfl (fun _ => ?_) (fun h => absurd h (by decide))
        have n24 := hi.1.ne.2
        have cw := mm_cl2 (x := w) (n := 25) (by omega)
        refine mm_aload_0 35 dX11_write_34 rfl ?_
        refine mm_getR 38 dX11_write_35 f_X11_56 rfl t_0 rfl ?_
        refine mm_iload_1 39 dX11_write_38 rfl ?_
        refine mm_iconst 40 (-1) dX11_write_39 rfl (by decide) ?_
        refine mm_cV2v 43 dX11_write_40 v_X11_190 rfl t_20 (by decide) rfl rfl (Nat.le_of_ble_eq_true rfl) ⟨rfl, rfl⟩ ⟨Nat.zero_le _, Nat.zero_le _⟩ (b_play hi hf cw.1 (by omega) (fun M5 g5 w5 X5 => ?_))
        refine mm_aload_3 44 dX11_write_43 rfl ?_
        refine mm_cV0i 47 dX11_write_44 v_X11_181 rfl (t_sh hk).1 (by decide) rfl rfl (Nat.le_of_ble_eq_true rfl) ⟨rfl, rfl⟩ ⟨Nat.zero_le _, Nat.zero_le _⟩ (c_X5_size (t_sh hk).1 (t_sh hk).2 (fun r6 e6 => ?_))
        refine mm_aload_0 48 dX11_write_47 rfl ?_
        refine mm_getR 51 dX11_write_48 f_X11_26 rfl t_0 rfl ?_
        refine mm_cV0i 54 dX11_write_51 v_X11_288 rfl t_5 (by decide) rfl rfl (Nat.le_of_ble_eq_true rfl) ⟨rfl, rfl⟩ ⟨Nat.zero_le _, Nat.zero_le _⟩ (c_X3_number  (fun r7 e7 => ?_))
        refine mm_mmin 57 dX11_write_54 j_X11_289 rfl (Nat.le_of_ble_eq_true rfl) ⟨Nat.zero_le _, Nat.zero_le _⟩ ?_
        refine mm_istore_4 59 dX11_write_57 rfl rfl ?_
        refine mm_iconst 60 0 dX11_write_59 rfl (by decide) ?_
        refine mm_istore_5 62 dX11_write_60 rfl rfl ?_
        have nl : ¬ A 52 k = -1 := fun q => h3 (sh.1.mpr q)
        have fm := (hi.sh X5 hk).2.1 nl
        have cz := mm_cl2 (x := A 53 k) (n := 61) ⟨sh.2.2.1.2.1, by omega⟩
        have n6 := hi.1.nl
        have e1 : r7 = nI (a_nl A) := by rw [e7]; exact ((X5).vd hi).1.2.2.2.1
        have en : (if r7 < r6 then r7 else r6) = nI (wn A k) := by
          rw [e6, fm.2.1, e1]
          unfold wn
          simp only [mm_lt]
          rw [mm_ti (by omega)]
          by_cases q : (a_nl A : Int) < (A 53 k).toInt
          · rw [if_pos q, if_neg (by omega)]
          · rw [if_neg q]
            by_cases q2 : (A 53 k).toInt < a_nl A
            · rw [if_pos q2]; exact cz.1
            · rw [if_neg q2]; exact mm_ii (by rw [mm_ti (by omega)]; omega)
        rw [en]
        have wl : wn A k ≤ a_nl A := by unfold wn; split <;> omega
        have kk := kG (by omega) h2 (by rw [sk]; exact nl)
        rw [sk] at kk
        refine mm_memo ?_ (w_X11_write hi X5 hk nl w5 (kk _ ?_) 60 0 (by omega) (by omega))
        · rw [cpy_0, va_same]
        · exact X5.rowb (by rw [(X5).a _ (bs_c hk).2]) (by omega)
    · refine mm_if_ne 21 18 dX11_write_15 (by decide) rfl (fun h => absurd h (by decide)) (fun _ => ?_)
      refine mm_bipush 20 (-2) dX11_write_18 rfl (by decide) ?_
      refine mm_iret dX11_write_20 rfl ⟨rfl, Nat.zero_le _⟩ ?_
      exact kN (fun q => h2 q.2)
  · refine mm_nstore_3 6 dX11_write_5 rfl rfl ?_
    refine mm_nload_3 7 dX11_write_6 rfl ?_
    refine mm_nullN 18 dX11_write_7 (by decide) ?_
    refine mm_bipush 20 (-2) dX11_write_18 rfl (by decide) ?_
    refine mm_iret dX11_write_20 rfl ⟨rfl, Nat.zero_le _⟩ ?_
    exact kN (fun q => by (try simp only [Int32.lt_iff_toInt_lt, Int32.le_iff_toInt_le, ← Int32.toInt_inj, vp_in_iff, Int32.reduceToInt, mm_t1, mm_t2, mm_t3, mm_t4, mm_t10] at h1); omega)

