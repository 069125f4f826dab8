/-! Calls on sheets: the reference -/
def sh_r (B : mm_M) (s f n : Int32) : mm_M := if ((0 ≤ s.toInt ∧ s.toInt ≤ 3) ∧ 0 ≤ f.toInt ∧ f.toInt ≤ 2) ∧ n.toInt ≤ 60 then (if n.toInt < 0 then mm_up B 51 4 5 else va_up (mm_up (mm_up B 52 s.toNatClampNeg f) 53 s.toNatClampNeg n) 54 (va_cpy (fun _ => 0) (B 54) 0 (60 * s.toNatClampNeg) n.toNatClampNeg)) else B
def lo_r (B : mm_M) (s : Int32) : mm_M := if 0 ≤ s.toInt ∧ s.toInt ≤ 3 then (if B 52 s.toNatClampNeg = -1 then mm_up B 51 4 1 else mm_up B 52 s.toNatClampNeg (-1)) else B
def la_r (B : mm_M) (s f i v : Int32) : mm_M := if (0 ≤ s.toInt ∧ s.toInt ≤ 3) ∧ 0 ≤ f.toInt ∧ f.toInt ≤ 2 then (if lk B s.toNatClampNeg f i = 0 then mm_up B 54 (60 * s.toNatClampNeg + i.toNatClampNeg) (g_cut f v) else mm_up B 51 4 (lk B s.toNatClampNeg f i)) else B
def ge_r (B : mm_M) (s f i : Int32) : mm_M := if (0 ≤ s.toInt ∧ s.toInt ≤ 3) ∧ 0 ≤ f.toInt ∧ f.toInt ≤ 2 then (if lk B s.toNatClampNeg f i = 0 then B else mm_up B 51 4 (lk B s.toNatClampNeg f i)) else B
def co_r (B : mm_M) (s i t j n : Int32) : mm_M := if (0 ≤ s.toInt ∧ s.toInt ≤ 3) ∧ 0 ≤ t.toInt ∧ t.toInt ≤ 3 then (if ck B s.toNatClampNeg t.toNatClampNeg i j n = 0 then va_up B 54 (va_cpy (B 54) (B 54) (60 * s.toNatClampNeg + i.toNatClampNeg) (60 * t.toNatClampNeg + j.toNatClampNeg) n.toNatClampNeg) else mm_up B 51 4 (ck B s.toNatClampNeg t.toNatClampNeg i j n)) else B
theorem mm_upva (M : mm_M) (c : Nat) (row : Nat → Int32) (x : Nat) (v : Int32) : mm_up (va_up M c row) c x v = va_up M c (upd row x v) := by
  funext i j
  by_cases h : i = c
  · subst h; simp [mm_up, va_up]
  · simp [mm_up, va_up, h]
theorem cpy_s (f g : Nat → Int32) (sp dp i : Nat) : upd (va_cpy f g sp dp i) (dp + i) (f (sp + i)) = va_cpy f g sp dp (i + 1) := by
  funext x
  simp only [upd, va_cpy]
  by_cases h : x = dp + i
  · rw [if_pos h, if_pos (by omega), h, show dp + i - dp = i by omega]
  · rw [if_neg h]
    by_cases q : dp ≤ x ∧ x < dp + i
    · rw [if_pos q, if_pos (by omega)]
    · rw [if_neg q, if_neg (by omega)]
theorem cpy_0 (f g : Nat → Int32) (sp dp : Nat) : va_cpy f g sp dp 0 = g := by
  funext x
  simp only [va_cpy]
  rw [if_neg (by omega)]
theorem va_same (M : mm_M) (c : Nat) : va_up M c (M c) = M := mm_up_same M c
theorem l_add (a b : Int32) : (a.toInt64 + b.toInt64).toInt = a.toInt + b.toInt := by
  have h1 := mm_bd a
  have h2 := mm_bd b
  rw [Int64.toInt_add, Int32.toInt_toInt64, Int32.toInt_toInt64]
  apply Int.bmod_eq_of_le <;> omega
theorem l60 : (60 : Int32) = nI 60 := rfl

set_option maxHeartbeats 4000000 in
theorem w_X12_sheet {l : Launch} {G : mm_G} {d : Nat} {M : mm_M} {Q : Int32 → mm_T → mm_M → Prop} {s f n : Int32} (cs : s = nI s.toNatClampNeg ∧ s.toNatClampNeg < 4 ∧ (s.toNatClampNeg : Int) = s.toInt) (cn : n = nI n.toNatClampNeg ∧ n.toNatClampNeg < 61 ∧ (n.toNatClampNeg : Int) = n.toInt) (h : Q n T0 (va_up M 54 (va_cpy (fun _ => 0) (M 54) 0 (60 * s.toNatClampNeg) n.toNatClampNeg))) : ∀ (z i : Nat), n.toNatClampNeg - i ≤ z → i ≤ n.toNatClampNeg → mm_wp l G (d + 2) k_X12_sheet (mm_pi Q) 55 [.ref 51, .int s, .int f, .int n, .int (nI i)] [] T0 (va_up M 54 (va_cpy (fun _ => 0) (M 54) 0 (60 * s.toNatClampNeg) i)) 0 0 := by
  intro z
  induction z using Nat.strongRecOn with | _ z ih => ?_
  intro i hze hin
  have hii : (nI i).toInt = i := mm_ti (by omega)
  refine mm_iload_4 57 dX12_sheet_55 rfl ?_
  refine mm_iload_3 58 dX12_sheet_57 rfl ?_
  refine mm_ic_ge 80 61 dX12_sheet_58 (by decide) rfl (fun h1 => ?_) (fun h1 => ?_)
  · refine mm_iload_3 81 dX12_sheet_80 rfl ?_
    refine mm_iret dX12_sheet_81 rfl ⟨rfl, Nat.zero_le _⟩ ?_
    have hz : i = n.toNatClampNeg := by (try simp only [hii, Int32.lt_iff_toInt_lt, Int32.le_iff_toInt_le, ← Int32.toInt_inj, vp_in_iff, Int32.reduceToInt, mm_t1, mm_t2, mm_t3, mm_t4, mm_t10] at h1); omega
    rw [hz]
    exact h
  · have hlt : i < n.toNatClampNeg := by (try simp only [hii, Int32.lt_iff_toInt_lt, Int32.le_iff_toInt_le, ← Int32.toInt_inj, vp_in_iff, Int32.reduceToInt, mm_t1, mm_t2, mm_t3, mm_t4, mm_t10] at h1); omega
    refine mm_aload_0 62 dX12_sheet_61 rfl ?_
    refine mm_getR 65 dX12_sheet_62 f_X12_16 rfl t_51 rfl ?_
    refine mm_bipush 67 60 dX12_sheet_65 rfl (by decide) ?_
    refine mm_iload_1 68 dX12_sheet_67 rfl ?_
    refine mm_imul 69 dX12_sheet_68 rfl ?_
    refine mm_iload_4 71 dX12_sheet_69 rfl ?_
    refine mm_iadd 72 dX12_sheet_71 rfl ?_
    refine mm_iconst 73 0 dX12_sheet_72 rfl (by decide) ?_
    refine mm_iastoren 74 (60 * s.toNatClampNeg + i) dX12_sheet_73 rfl t_54 (by decide) (by rw [l60, cs.1, pk_mul, nI_add, mm_cn (by omega)]) (by omega) ?_
    refine mm_iinc_4 77 1 dX12_sheet_74 rfl (by decide) rfl ?_
    refine mm_goto 55 dX12_sheet_77 (by decide) ?_
    have hh := ih (n.toNatClampNeg - (i + 1)) (by omega) (i + 1) (Nat.le_refl _) (by omega)
    rw [← cpy_s] at hh
    rw [nI_1, mm_upva]
    exact hh

set_option maxHeartbeats 4000000 in
theorem c_X12_sheet {l : Launch} {G : mm_G} {d : Nat} {M : mm_M} {Q : Int32 → mm_T → mm_M → Prop} {B : mm_M} (hB : a_ok B) (hf : fr B M) {s f n : Int32} (h : ∀ r M1, r = z_sheet s f n → fr (sh_r B s f n) M1 → Q r T0 M1) : mm_met l G (d + 2) k_X12_sheet [.ref 51, .int s, .int f, .int n] T0 M (mm_pi Q) := by
  have ok := fun k (hk : k < 4) => hB.2.2.2.2.2.2.2 k hk
  refine mm_enter 1 [.ref 51, .int s, .int f, .int n, .double 0] o_X12_sheet rfl rfl ?_
  refine mm_iload_1 1 dX12_sheet_0 rfl ?_
  refine mm_cS1i 4 dX12_sheet_1 v_X12_105 rfl (Nat.le_of_ble_eq_true rfl) ⟨rfl, rfl⟩ ⟨Nat.zero_le _, Nat.zero_le _⟩ (c_X12_isSheet  (fun h1 => ?_) (fun h1 => ?_))
  · refine mm_if_eq 25 7 dX12_sheet_4 (by decide) rfl (fun h => absurd h (by decide)) (fun _ => ?_)
    refine mm_iload_2 8 dX12_sheet_7 rfl ?_
    refine mm_i2l 9 dX12_sheet_8 rfl ?_
    refine mm_lconst 10 0 dX12_sheet_9 rfl (by decide) ?_
    refine mm_ldc2 13 2 dX12_sheet_10 rfl j_X12_109 ?_
    refine mm_cS3i 16 dX12_sheet_13 v_X12_95 rfl (Nat.le_of_ble_eq_true rfl) ⟨rfl, rfl⟩ ⟨Nat.zero_le _, Nat.zero_le _⟩ (c_X12_in  (fun h2 => ?_) (fun h2 => ?_))
    · refine mm_if_eq 25 19 dX12_sheet_16 (by decide) rfl (fun h => absurd h (by decide)) (fun _ => ?_)
      refine mm_iload_3 20 dX12_sheet_19 rfl ?_
      refine mm_bipush 22 60 dX12_sheet_20 rfl (by decide) ?_
      refine mm_ic_le 28 25 dX12_sheet_22 (by decide) rfl (fun h3 => ?_) (fun h3 => ?_)
      · refine mm_iload_3 29 dX12_sheet_28 rfl ?_
        refine mm_if_ge 38 32 dX12_sheet_29 (by decide) rfl (fun h4 => ?_) (fun h4 => ?_)
        · have cs := mm_cl2 (x := s) (n := 4) (by (try simp only [lg_cmp_lt, lg_cmp_gt, lg_cmp_le, lg_cmp_ge] at h1 h2 h3 h4); (try simp only [Int32.lt_iff_toInt_lt, Int32.le_iff_toInt_le, ← Int32.toInt_inj, vp_in_iff, Int32.reduceToInt, mm_t1, mm_t2, mm_t3, mm_t4, mm_t10, Int64.lt_iff_toInt_lt, Int64.le_iff_toInt_le, Int64.reduceToInt, Int32.toInt_toInt64] at h1 h2 h3 h4 ⊢); omega)
          have cn := mm_cl2 (x := n) (n := 61) (by (try simp only [lg_cmp_lt, lg_cmp_gt, lg_cmp_le, lg_cmp_ge] at h1 h2 h3 h4); (try simp only [Int32.lt_iff_toInt_lt, Int32.le_iff_toInt_le, ← Int32.toInt_inj, vp_in_iff, Int32.reduceToInt, mm_t1, mm_t2, mm_t3, mm_t4, mm_t10, Int64.lt_iff_toInt_lt, Int64.le_iff_toInt_le, Int64.reduceToInt, Int32.toInt_toInt64] at h1 h2 h3 h4 ⊢); omega)
          refine mm_aload_0 39 dX12_sheet_38 rfl ?_
          refine mm_getR 42 dX12_sheet_39 f_X12_7 rfl t_51 rfl ?_
          refine mm_iload_1 43 dX12_sheet_42 rfl ?_
          refine mm_iload_2 44 dX12_sheet_43 rfl ?_
          refine mm_iastoren 45 (s.toNatClampNeg) dX12_sheet_44 rfl t_52 (by decide) (cs.1) (by omega) ?_
          refine mm_aload_0 46 dX12_sheet_45 rfl ?_
          refine mm_getR 49 dX12_sheet_46 f_X12_13 rfl t_51 rfl ?_
          refine mm_iload_1 50 dX12_sheet_49 rfl ?_
          refine mm_iload_3 51 dX12_sheet_50 rfl ?_
          refine mm_iastoren 52 (s.toNatClampNeg) dX12_sheet_51 rfl t_53 (by decide) (cs.1) (by omega) ?_
          refine mm_iconst 53 0 dX12_sheet_52 rfl (by decide) ?_
          refine mm_istore_4 55 dX12_sheet_53 rfl rfl ?_
          refine mm_memo ?_ (w_X12_sheet (M := mm_up (mm_up M 52 s.toNatClampNeg f) 53 s.toNatClampNeg n) cs cn ?_ 60 0 (by omega) (by omega))
          · rw [cpy_0, va_same]
          · refine h _ _ ?_ ?_
            · unfold z_sheet
              rw [if_pos (by (try simp only [lg_cmp_lt, lg_cmp_gt, lg_cmp_le, lg_cmp_ge] at h1 h2 h3 h4); (try simp only [Int32.lt_iff_toInt_lt, Int32.le_iff_toInt_le, ← Int32.toInt_inj, vp_in_iff, Int32.reduceToInt, mm_t1, mm_t2, mm_t3, mm_t4, mm_t10, Int64.lt_iff_toInt_lt, Int64.le_iff_toInt_le, Int64.reduceToInt, Int32.toInt_toInt64] at h1 h2 h3 h4 ⊢); omega), if_neg (by (try simp only [lg_cmp_lt, lg_cmp_gt, lg_cmp_le, lg_cmp_ge] at h1 h2 h3 h4); (try simp only [Int32.lt_iff_toInt_lt, Int32.le_iff_toInt_le, ← Int32.toInt_inj, vp_in_iff, Int32.reduceToInt, mm_t1, mm_t2, mm_t3, mm_t4, mm_t10, Int64.lt_iff_toInt_lt, Int64.le_iff_toInt_le, Int64.reduceToInt, Int32.toInt_toInt64] at h1 h2 h3 h4 ⊢); omega)]
            · unfold sh_r
              rw [if_pos (by (try simp only [lg_cmp_lt, lg_cmp_gt, lg_cmp_le, lg_cmp_ge] at h1 h2 h3 h4); (try simp only [Int32.lt_iff_toInt_lt, Int32.le_iff_toInt_le, ← Int32.toInt_inj, vp_in_iff, Int32.reduceToInt, mm_t1, mm_t2, mm_t3, mm_t4, mm_t10, Int64.lt_iff_toInt_lt, Int64.le_iff_toInt_le, Int64.reduceToInt, Int32.toInt_toInt64] at h1 h2 h3 h4 ⊢); omega), if_neg (by (try simp only [lg_cmp_lt, lg_cmp_gt, lg_cmp_le, lg_cmp_ge] at h1 h2 h3 h4); (try simp only [Int32.lt_iff_toInt_lt, Int32.le_iff_toInt_le, ← Int32.toInt_inj, vp_in_iff, Int32.reduceToInt, mm_t1, mm_t2, mm_t3, mm_t4, mm_t10, Int64.lt_iff_toInt_lt, Int64.le_iff_toInt_le, Int64.reduceToInt, Int32.toInt_toInt64] at h1 h2 h3 h4 ⊢); omega)]
              exact ((hf.both _ _ _).both _ _ _).rowb (by rw [mm_upn _ _ _ (by decide), mm_upn _ _ _ (by decide), hf.a 54]) (by decide)
        · refine mm_aload_0 33 dX12_sheet_32 rfl ?_
          refine mm_iconst 34 5 dX12_sheet_33 rfl (by decide) ?_
          refine mm_cV1i 37 dX12_sheet_34 v_X12_111 rfl t_51 (by decide) rfl rfl (Nat.le_of_ble_eq_true rfl) ⟨rfl, rfl⟩ ⟨Nat.zero_le _, Nat.zero_le _⟩ (c_X12_met (fun r5 e5 => ?_))
          refine mm_iret dX12_sheet_37 rfl ⟨rfl, Nat.zero_le _⟩ ?_
          refine h _ _ ?_ ?_
          · unfold z_sheet
            rw [if_pos (by (try simp only [lg_cmp_lt, lg_cmp_gt, lg_cmp_le, lg_cmp_ge] at h1 h2 h3 h4); (try simp only [Int32.lt_iff_toInt_lt, Int32.le_iff_toInt_le, ← Int32.toInt_inj, vp_in_iff, Int32.reduceToInt, mm_t1, mm_t2, mm_t3, mm_t4, mm_t10, Int64.lt_iff_toInt_lt, Int64.le_iff_toInt_le, Int64.reduceToInt, Int32.toInt_toInt64] at h1 h2 h3 h4 ⊢); omega), if_pos (by (try simp only [lg_cmp_lt, lg_cmp_gt, lg_cmp_le, lg_cmp_ge] at h1 h2 h3 h4); (try simp only [Int32.lt_iff_toInt_lt, Int32.le_iff_toInt_le, ← Int32.toInt_inj, vp_in_iff, Int32.reduceToInt, mm_t1, mm_t2, mm_t3, mm_t4, mm_t10, Int64.lt_iff_toInt_lt, Int64.le_iff_toInt_le, Int64.reduceToInt, Int32.toInt_toInt64] at h1 h2 h3 h4 ⊢); omega)]
            rw [e5]; rfl
          · unfold sh_r
            rw [if_pos (by (try simp only [lg_cmp_lt, lg_cmp_gt, lg_cmp_le, lg_cmp_ge] at h1 h2 h3 h4); (try simp only [Int32.lt_iff_toInt_lt, Int32.le_iff_toInt_le, ← Int32.toInt_inj, vp_in_iff, Int32.reduceToInt, mm_t1, mm_t2, mm_t3, mm_t4, mm_t10, Int64.lt_iff_toInt_lt, Int64.le_iff_toInt_le, Int64.reduceToInt, Int32.toInt_toInt64] at h1 h2 h3 h4 ⊢); omega), if_pos (by (try simp only [lg_cmp_lt, lg_cmp_gt, lg_cmp_le, lg_cmp_ge] at h1 h2 h3 h4); (try simp only [Int32.lt_iff_toInt_lt, Int32.le_iff_toInt_le, ← Int32.toInt_inj, vp_in_iff, Int32.reduceToInt, mm_t1, mm_t2, mm_t3, mm_t4, mm_t10, Int64.lt_iff_toInt_lt, Int64.le_iff_toInt_le, Int64.reduceToInt, Int32.toInt_toInt64] at h1 h2 h3 h4 ⊢); omega)]
            exact hf.both _ _ _
      · refine mm_bipush 27 (-2) dX12_sheet_25 rfl (by decide) ?_
        refine mm_iret dX12_sheet_27 rfl ⟨rfl, Nat.zero_le _⟩ ?_
        refine h _ _ ?_ ?_
        · unfold z_sheet
          rw [if_neg (by (try simp only [lg_cmp_lt, lg_cmp_gt, lg_cmp_le, lg_cmp_ge] at h1 h2 h3); (try simp only [Int32.lt_iff_toInt_lt, Int32.le_iff_toInt_le, ← Int32.toInt_inj, vp_in_iff, Int32.reduceToInt, mm_t1, mm_t2, mm_t3, mm_t4, mm_t10, Int64.lt_iff_toInt_lt, Int64.le_iff_toInt_le, Int64.reduceToInt, Int32.toInt_toInt64] at h1 h2 h3 ⊢); omega)]
        · unfold sh_r
          rw [if_neg (by (try simp only [lg_cmp_lt, lg_cmp_gt, lg_cmp_le, lg_cmp_ge] at h1 h2 h3); (try simp only [Int32.lt_iff_toInt_lt, Int32.le_iff_toInt_le, ← Int32.toInt_inj, vp_in_iff, Int32.reduceToInt, mm_t1, mm_t2, mm_t3, mm_t4, mm_t10, Int64.lt_iff_toInt_lt, Int64.le_iff_toInt_le, Int64.reduceToInt, Int32.toInt_toInt64] at h1 h2 h3 ⊢); omega)]
          exact hf
    · refine mm_if_eq 25 19 dX12_sheet_16 (by decide) rfl (fun _ => ?_) (fun h => absurd h (by decide))
      refine mm_bipush 27 (-2) dX12_sheet_25 rfl (by decide) ?_
      refine mm_iret dX12_sheet_27 rfl ⟨rfl, Nat.zero_le _⟩ ?_
      refine h _ _ ?_ ?_
      · unfold z_sheet
        rw [if_neg (by (try simp only [lg_cmp_lt, lg_cmp_gt, lg_cmp_le, lg_cmp_ge] at h1 h2); (try simp only [Int32.lt_iff_toInt_lt, Int32.le_iff_toInt_le, ← Int32.toInt_inj, vp_in_iff, Int32.reduceToInt, mm_t1, mm_t2, mm_t3, mm_t4, mm_t10, Int64.lt_iff_toInt_lt, Int64.le_iff_toInt_le, Int64.reduceToInt, Int32.toInt_toInt64] at h1 h2 ⊢); omega)]
      · unfold sh_r
        rw [if_neg (by (try simp only [lg_cmp_lt, lg_cmp_gt, lg_cmp_le, lg_cmp_ge] at h1 h2); (try simp only [Int32.lt_iff_toInt_lt, Int32.le_iff_toInt_le, ← Int32.toInt_inj, vp_in_iff, Int32.reduceToInt, mm_t1, mm_t2, mm_t3, mm_t4, mm_t10, Int64.lt_iff_toInt_lt, Int64.le_iff_toInt_le, Int64.reduceToInt, Int32.toInt_toInt64] at h1 h2 ⊢); omega)]
        exact hf
  · refine mm_if_eq 25 7 dX12_sheet_4 (by decide) rfl (fun _ => ?_) (fun h => absurd h (by decide))
    refine mm_bipush 27 (-2) dX12_sheet_25 rfl (by decide) ?_
    refine mm_iret dX12_sheet_27 rfl ⟨rfl, Nat.zero_le _⟩ ?_
    refine h _ _ ?_ ?_
    · unfold z_sheet
      rw [if_neg (by (try simp only [lg_cmp_lt, lg_cmp_gt, lg_cmp_le, lg_cmp_ge] at h1); (try simp only [Int32.lt_iff_toInt_lt, Int32.le_iff_toInt_le, ← Int32.toInt_inj, vp_in_iff, Int32.reduceToInt, mm_t1, mm_t2, mm_t3, mm_t4, mm_t10, Int64.lt_iff_toInt_lt, Int64.le_iff_toInt_le, Int64.reduceToInt, Int32.toInt_toInt64] at h1 ⊢); omega)]
    · unfold sh_r
      rw [if_neg (by (try simp only [lg_cmp_lt, lg_cmp_gt, lg_cmp_le, lg_cmp_ge] at h1); (try simp only [Int32.lt_iff_toInt_lt, Int32.le_iff_toInt_le, ← Int32.toInt_inj, vp_in_iff, Int32.reduceToInt, mm_t1, mm_t2, mm_t3, mm_t4, mm_t10, Int64.lt_iff_toInt_lt, Int64.le_iff_toInt_le, Int64.reduceToInt, Int32.toInt_toInt64] at h1 ⊢); omega)]
      exact hf

set_option maxHeartbeats 4000000 in
theorem c_X12_lose {l : Launch} {G : mm_G} {d : Nat} {M : mm_M} {Q : Int32 → mm_T → mm_M → Prop} {B : mm_M} (hB : a_ok B) (hf : fr B M) {s : Int32} (h : ∀ r M1, r = z_lose B s → fr (lo_r B s) M1 → Q r T0 M1) : mm_met l G (d + 2) k_X12_lose [.ref 51, .int s] T0 M (mm_pi Q) := by
  have ok := fun k (hk : k < 4) => hB.2.2.2.2.2.2.2 k hk
  refine mm_enter 0 [.ref 51, .int s] o_X12_lose rfl rfl ?_
  refine mm_iload_1 1 dX12_lose_0 rfl ?_
  refine mm_cS1i 4 dX12_lose_1 v_X12_105 rfl (Nat.le_of_ble_eq_true rfl) ⟨rfl, rfl⟩ ⟨Nat.zero_le _, Nat.zero_le _⟩ (c_X12_isSheet  (fun h1 => ?_) (fun h1 => ?_))
  · refine mm_if_ne 10 7 dX12_lose_4 (by decide) rfl (fun _ => ?_) (fun h => absurd h (by decide))
    have cs := mm_cl2 (x := s) (n := 4) (by (try simp only [lg_cmp_lt, lg_cmp_gt, lg_cmp_le, lg_cmp_ge] at h1); (try simp only [Int32.lt_iff_toInt_lt, Int32.le_iff_toInt_le, ← Int32.toInt_inj, vp_in_iff, Int32.reduceToInt, mm_t1, mm_t2, mm_t3, mm_t4, mm_t10, Int64.lt_iff_toInt_lt, Int64.le_iff_toInt_le, Int64.reduceToInt, Int32.toInt_toInt64] at h1 ⊢); omega)
    refine mm_aload_0 11 dX12_lose_10 rfl ?_
    refine mm_getR 14 dX12_lose_11 f_X12_7 rfl t_51 rfl ?_
    refine mm_iload_1 15 dX12_lose_14 rfl ?_
    refine mm_ialoadn 16 (s.toNatClampNeg) dX12_lose_15 rfl t_52 (by decide) (cs.1) (by omega) ?_
    refine mm_if_ge 25 19 dX12_lose_16 (by decide) rfl (fun h2 => ?_) (fun h2 => ?_)
    · refine mm_aload_0 26 dX12_lose_25 rfl ?_
      refine mm_getR 29 dX12_lose_26 f_X12_7 rfl t_51 rfl ?_
      refine mm_iload_1 30 dX12_lose_29 rfl ?_
      refine mm_iconst 31 (-1) dX12_lose_30 rfl (by decide) ?_
      refine mm_iastoren 32 (s.toNatClampNeg) dX12_lose_31 rfl t_52 (by decide) (cs.1) (by omega) ?_
      refine mm_aload_0 33 dX12_lose_32 rfl ?_
      refine mm_getR 36 dX12_lose_33 f_X12_13 rfl t_51 rfl ?_
      refine mm_iload_1 37 dX12_lose_36 rfl ?_
      refine mm_ialoadn 38 (s.toNatClampNeg) dX12_lose_37 rfl t_53 (by decide) (cs.1) (by omega) ?_
      refine mm_iret dX12_lose_38 rfl ⟨rfl, Nat.zero_le _⟩ ?_
      have o1 := (ok _ cs.2.1).1
      rw [hf.a 52] at h2
      refine h _ _ ?_ ?_
      · unfold z_lose
        rw [if_pos (by omega), if_neg (by (try simp only [Int32.lt_iff_toInt_lt, Int32.le_iff_toInt_le, ← Int32.toInt_inj, vp_in_iff, Int32.reduceToInt, mm_t1, mm_t2, mm_t3, mm_t4, mm_t10] at h2 ⊢); omega)]
        rw [mm_upn _ _ _ (by decide), hf.a 53]
      · unfold lo_r
        rw [if_pos (by omega), if_neg (by (try simp only [Int32.lt_iff_toInt_lt, Int32.le_iff_toInt_le, ← Int32.toInt_inj, vp_in_iff, Int32.reduceToInt, mm_t1, mm_t2, mm_t3, mm_t4, mm_t10] at h2 ⊢); omega)]
        exact hf.both _ _ _
    · refine mm_aload_0 20 dX12_lose_19 rfl ?_
      refine mm_iconst 21 1 dX12_lose_20 rfl (by decide) ?_
      refine mm_cV1i 24 dX12_lose_21 v_X12_111 rfl t_51 (by decide) rfl rfl (Nat.le_of_ble_eq_true rfl) ⟨rfl, rfl⟩ ⟨Nat.zero_le _, Nat.zero_le _⟩ (c_X12_met (fun r3 e3 => ?_))
      refine mm_iret dX12_lose_24 rfl ⟨rfl, Nat.zero_le _⟩ ?_
      have o1 := (ok _ cs.2.1).1
      rw [hf.a 52] at h2
      refine h _ _ ?_ ?_
      · unfold z_lose
        rw [if_pos (by omega), if_pos (by (try simp only [Int32.lt_iff_toInt_lt, Int32.le_iff_toInt_le, ← Int32.toInt_inj, vp_in_iff, Int32.reduceToInt, mm_t1, mm_t2, mm_t3, mm_t4, mm_t10] at h2 ⊢); omega)]
        rw [e3]; rfl
      · unfold lo_r
        rw [if_pos (by omega), if_pos (by (try simp only [Int32.lt_iff_toInt_lt, Int32.le_iff_toInt_le, ← Int32.toInt_inj, vp_in_iff, Int32.reduceToInt, mm_t1, mm_t2, mm_t3, mm_t4, mm_t10] at h2 ⊢); omega)]
        exact hf.both _ _ _
  · refine mm_if_ne 10 7 dX12_lose_4 (by decide) rfl (fun h => absurd h (by decide)) (fun _ => ?_)
    refine mm_bipush 9 (-2) dX12_lose_7 rfl (by decide) ?_
    refine mm_iret dX12_lose_9 rfl ⟨rfl, Nat.zero_le _⟩ ?_
    refine h _ _ ?_ ?_
    · unfold z_lose
      rw [if_neg (by (try simp only [Int32.lt_iff_toInt_lt, Int32.le_iff_toInt_le, ← Int32.toInt_inj, vp_in_iff, Int32.reduceToInt, mm_t1, mm_t2, mm_t3, mm_t4, mm_t10] at h1 ⊢); omega)]
    · unfold lo_r
      rw [if_neg (by (try simp only [Int32.lt_iff_toInt_lt, Int32.le_iff_toInt_le, ← Int32.toInt_inj, vp_in_iff, Int32.reduceToInt, mm_t1, mm_t2, mm_t3, mm_t4, mm_t10] at h1 ⊢); omega)]
      exact hf

set_option maxHeartbeats 4000000 in
theorem c_X12_lacks {l : Launch} {G : mm_G} {d : Nat} {M : mm_M} {Q : Int32 → mm_T → mm_M → Prop} {B : mm_M} (hB : a_ok B) (hf : fr B M) {s f i : Int32} (cs : s = nI s.toNatClampNeg ∧ s.toNatClampNeg < 4 ∧ (s.toNatClampNeg : Int) = s.toInt) (k0 : lk B s.toNatClampNeg f i = 0 → Q 0 T0 M) (k1 : lk B s.toNatClampNeg f i = 1 → Q (-11) T0 (mm_up M 51 4 1)) (k2 : lk B s.toNatClampNeg f i = 2 → Q (-12) T0 (mm_up M 51 4 2)) (k3 : lk B s.toNatClampNeg f i = 3 → Q (-13) T0 (mm_up M 51 4 3)) : mm_met l G (d + 1) k_X12_lacks [.ref 51, .int s, .int f, .int i] T0 M (mm_pi Q) := by
  have ok := fun k (hk : k < 4) => hB.2.2.2.2.2.2.2 k hk
  refine mm_enter 0 [.ref 51, .int s, .int f, .int i] o_X12_lacks rfl rfl ?_
  refine mm_aload_0 1 dX12_lacks_0 rfl ?_
  refine mm_getR 4 dX12_lacks_1 f_X12_7 rfl t_51 rfl ?_
  refine mm_iload_1 5 dX12_lacks_4 rfl ?_
  refine mm_ialoadn 6 (s.toNatClampNeg) dX12_lacks_5 rfl t_52 (by decide) (cs.1) (by omega) ?_
  refine mm_if_ge 15 9 dX12_lacks_6 (by decide) rfl (fun h1 => ?_) (fun h1 => ?_)
  · refine mm_aload_0 16 dX12_lacks_15 rfl ?_
    refine mm_getR 19 dX12_lacks_16 f_X12_7 rfl t_51 rfl ?_
    refine mm_iload_1 20 dX12_lacks_19 rfl ?_
    refine mm_ialoadn 21 (s.toNatClampNeg) dX12_lacks_20 rfl t_52 (by decide) (cs.1) (by omega) ?_
    refine mm_iload_2 22 dX12_lacks_21 rfl ?_
    refine mm_ic_eq 31 25 dX12_lacks_22 (by decide) rfl (fun h2 => ?_) (fun h2 => ?_)
    · refine mm_iload_3 32 dX12_lacks_31 rfl ?_
      refine mm_i2l 33 dX12_lacks_32 rfl ?_
      refine mm_lconst 34 0 dX12_lacks_33 rfl (by decide) ?_
      refine mm_aload_0 35 dX12_lacks_34 rfl ?_
      refine mm_getR 38 dX12_lacks_35 f_X12_13 rfl t_51 rfl ?_
      refine mm_iload_1 39 dX12_lacks_38 rfl ?_
      refine mm_ialoadn 40 (s.toNatClampNeg) dX12_lacks_39 rfl t_53 (by decide) (cs.1) (by omega) ?_
      refine mm_iconst 41 1 dX12_lacks_40 rfl (by decide) ?_
      refine mm_isub 42 dX12_lacks_41 rfl ?_
      refine mm_i2l 43 dX12_lacks_42 rfl ?_
      refine mm_cS3i 46 dX12_lacks_43 v_X12_95 rfl (Nat.le_of_ble_eq_true rfl) ⟨rfl, rfl⟩ ⟨Nat.zero_le _, Nat.zero_le _⟩ (c_X12_in  (fun h3 => ?_) (fun h3 => ?_))
      · refine mm_if_eq 53 49 dX12_lacks_46 (by decide) rfl (fun h => absurd h (by decide)) (fun _ => ?_)
        refine mm_iconst 50 0 dX12_lacks_49 rfl (by decide) ?_
        refine mm_goto 58 dX12_lacks_50 (by decide) ?_
        refine mm_iret dX12_lacks_58 rfl ⟨rfl, Nat.zero_le _⟩ ?_
        have o1 := (ok _ cs.2.1).1
        have o2 := (ok _ cs.2.1).2
        rw [hf.a 52] at h1
        have nl : ¬ B 52 s.toNatClampNeg = -1 := by (try simp only [Int32.lt_iff_toInt_lt, Int32.le_iff_toInt_le, ← Int32.toInt_inj, vp_in_iff, Int32.reduceToInt, mm_t1, mm_t2, mm_t3, mm_t4, mm_t10] at h1 ⊢); omega
        rw [hf.a 52] at h2
        rw [hf.a 53] at h3
        have sm : (B 53 s.toNatClampNeg - 1).toInt = (B 53 s.toNatClampNeg).toInt - 1 := by rw [mm_sub (by rw [show (1 : Int32).toInt = 1 from rfl]; omega)]; rfl
        exact k0 (by unfold lk; rw [if_neg nl, if_neg (fun q => q h2), if_pos (by (try simp only [lg_cmp_lt, lg_cmp_gt, lg_cmp_le, lg_cmp_ge] at h3 sm); (try simp only [Int32.lt_iff_toInt_lt, Int32.le_iff_toInt_le, ← Int32.toInt_inj, vp_in_iff, Int32.reduceToInt, mm_t1, mm_t2, mm_t3, mm_t4, mm_t10, Int64.lt_iff_toInt_lt, Int64.le_iff_toInt_le, Int64.reduceToInt, Int32.toInt_toInt64] at h3 sm ⊢); omega)])
      · refine mm_if_eq 53 49 dX12_lacks_46 (by decide) rfl (fun _ => ?_) (fun h => absurd h (by decide))
        refine mm_aload_0 54 dX12_lacks_53 rfl ?_
        refine mm_iconst 55 2 dX12_lacks_54 rfl (by decide) ?_
        refine mm_cV1i 58 dX12_lacks_55 v_X12_111 rfl t_51 (by decide) rfl rfl (Nat.le_of_ble_eq_true rfl) ⟨rfl, rfl⟩ ⟨Nat.zero_le _, Nat.zero_le _⟩ (c_X12_met (fun r4 e4 => ?_))
        refine mm_iret dX12_lacks_58 rfl ⟨rfl, Nat.zero_le _⟩ ?_
        have o1 := (ok _ cs.2.1).1
        have o2 := (ok _ cs.2.1).2
        rw [hf.a 52] at h1
        have nl : ¬ B 52 s.toNatClampNeg = -1 := by (try simp only [Int32.lt_iff_toInt_lt, Int32.le_iff_toInt_le, ← Int32.toInt_inj, vp_in_iff, Int32.reduceToInt, mm_t1, mm_t2, mm_t3, mm_t4, mm_t10] at h1 ⊢); omega
        rw [hf.a 52] at h2
        rw [hf.a 53] at h3
        have sm : (B 53 s.toNatClampNeg - 1).toInt = (B 53 s.toNatClampNeg).toInt - 1 := by rw [mm_sub (by rw [show (1 : Int32).toInt = 1 from rfl]; omega)]; rfl
        rw [e4]
        exact k2 (by unfold lk; rw [if_neg nl, if_neg (fun q => q h2), if_neg (by (try simp only [lg_cmp_lt, lg_cmp_gt, lg_cmp_le, lg_cmp_ge] at h3 sm); (try simp only [Int32.lt_iff_toInt_lt, Int32.le_iff_toInt_le, ← Int32.toInt_inj, vp_in_iff, Int32.reduceToInt, mm_t1, mm_t2, mm_t3, mm_t4, mm_t10, Int64.lt_iff_toInt_lt, Int64.le_iff_toInt_le, Int64.reduceToInt, Int32.toInt_toInt64] at h3 sm ⊢); omega)])
    · refine mm_aload_0 26 dX12_lacks_25 rfl ?_
      refine mm_iconst 27 3 dX12_lacks_26 rfl (by decide) ?_
      refine mm_cV1i 30 dX12_lacks_27 v_X12_111 rfl t_51 (by decide) rfl rfl (Nat.le_of_ble_eq_true rfl) ⟨rfl, rfl⟩ ⟨Nat.zero_le _, Nat.zero_le _⟩ (c_X12_met (fun r5 e5 => ?_))
      refine mm_iret dX12_lacks_30 rfl ⟨rfl, Nat.zero_le _⟩ ?_
      have o1 := (ok _ cs.2.1).1
      have o2 := (ok _ cs.2.1).2
      rw [hf.a 52] at h1
      have nl : ¬ B 52 s.toNatClampNeg = -1 := by (try simp only [Int32.lt_iff_toInt_lt, Int32.le_iff_toInt_le, ← Int32.toInt_inj, vp_in_iff, Int32.reduceToInt, mm_t1, mm_t2, mm_t3, mm_t4, mm_t10] at h1 ⊢); omega
      rw [hf.a 52] at h2
      rw [e5]
      exact k3 (by unfold lk; rw [if_neg nl, if_pos h2])
  · refine mm_aload_0 10 dX12_lacks_9 rfl ?_
    refine mm_iconst 11 1 dX12_lacks_10 rfl (by decide) ?_
    refine mm_cV1i 14 dX12_lacks_11 v_X12_111 rfl t_51 (by decide) rfl rfl (Nat.le_of_ble_eq_true rfl) ⟨rfl, rfl⟩ ⟨Nat.zero_le _, Nat.zero_le _⟩ (c_X12_met (fun r6 e6 => ?_))
    refine mm_iret dX12_lacks_14 rfl ⟨rfl, Nat.zero_le _⟩ ?_
    have o1 := (ok _ cs.2.1).1
    have o2 := (ok _ cs.2.1).2
    rw [hf.a 52] at h1
    rw [e6]
    exact k1 (by unfold lk; rw [if_pos (by (try simp only [Int32.lt_iff_toInt_lt, Int32.le_iff_toInt_le, ← Int32.toInt_inj, vp_in_iff, Int32.reduceToInt, mm_t1, mm_t2, mm_t3, mm_t4, mm_t10] at h1 ⊢); omega)])

set_option maxHeartbeats 4000000 in
theorem c_X12_lay {l : Launch} {G : mm_G} {d : Nat} {M : mm_M} {Q : Int32 → mm_T → mm_M → Prop} {B : mm_M} (hB : a_ok B) (hf : fr B M) {s f i v : Int32} (h : ∀ r M1, r = z_lay B s f i → fr (la_r B s f i v) M1 → Q r T0 M1) : mm_met l G (d + 2) k_X12_lay [.ref 51, .int s, .int f, .int i, .int v] T0 M (mm_pi Q) := by
  have ok := fun k (hk : k < 4) => hB.2.2.2.2.2.2.2 k hk
  refine mm_enter 1 [.ref 51, .int s, .int f, .int i, .int v, .double 0] o_X12_lay rfl rfl ?_
  refine mm_iload_1 1 dX12_lay_0 rfl ?_
  refine mm_cS1i 4 dX12_lay_1 v_X12_105 rfl (Nat.le_of_ble_eq_true rfl) ⟨rfl, rfl⟩ ⟨Nat.zero_le _, Nat.zero_le _⟩ (c_X12_isSheet  (fun h1 => ?_) (fun h1 => ?_))
  · refine mm_if_eq 19 7 dX12_lay_4 (by decide) rfl (fun h => absurd h (by decide)) (fun _ => ?_)
    refine mm_iload_2 8 dX12_lay_7 rfl ?_
    refine mm_i2l 9 dX12_lay_8 rfl ?_
    refine mm_lconst 10 0 dX12_lay_9 rfl (by decide) ?_
    refine mm_ldc2 13 2 dX12_lay_10 rfl j_X12_109 ?_
    refine mm_cS3i 16 dX12_lay_13 v_X12_95 rfl (Nat.le_of_ble_eq_true rfl) ⟨rfl, rfl⟩ ⟨Nat.zero_le _, Nat.zero_le _⟩ (c_X12_in  (fun h2 => ?_) (fun h2 => ?_))
    · refine mm_if_ne 22 19 dX12_lay_16 (by decide) rfl (fun _ => ?_) (fun h => absurd h (by decide))
      have cs := mm_cl2 (x := s) (n := 4) (by (try simp only [lg_cmp_lt, lg_cmp_gt, lg_cmp_le, lg_cmp_ge] at h1 h2); (try simp only [Int32.lt_iff_toInt_lt, Int32.le_iff_toInt_le, ← Int32.toInt_inj, vp_in_iff, Int32.reduceToInt, mm_t1, mm_t2, mm_t3, mm_t4, mm_t10, Int64.lt_iff_toInt_lt, Int64.le_iff_toInt_le, Int64.reduceToInt, Int32.toInt_toInt64] at h1 h2 ⊢); omega)
      refine mm_aload_0 23 dX12_lay_22 rfl ?_
      refine mm_iload_1 24 dX12_lay_23 rfl ?_
      refine mm_iload_2 25 dX12_lay_24 rfl ?_
      refine mm_iload_3 26 dX12_lay_25 rfl ?_
      refine mm_cV3i 29 dX12_lay_26 v_X12_115 rfl t_51 (by decide) rfl rfl (Nat.le_of_ble_eq_true rfl) ⟨rfl, rfl⟩ ⟨Nat.zero_le _, Nat.zero_le _⟩ (c_X12_lacks hB hf cs (fun h3 => ?_) (fun h3 => ?_) (fun h3 => ?_) (fun h3 => ?_))
      · refine mm_istore_5 31 dX12_lay_29 rfl rfl ?_
        refine mm_iload_5 33 dX12_lay_31 rfl ?_
        refine mm_if_eq 39 36 dX12_lay_33 (by decide) rfl (fun _ => ?_) (fun h => absurd h (by decide))
        have nl : ¬ B 52 s.toNatClampNeg = -1 := fun q => by unfold lk at h3; rw [if_pos q] at h3; exact absurd h3 (by decide)
        have fq : B 52 s.toNatClampNeg = f := Classical.byContradiction (fun q => by unfold lk at h3; rw [if_neg nl, if_pos q] at h3; exact absurd h3 (by decide))
        have iq : 0 ≤ i.toInt ∧ i.toInt < (B 53 s.toNatClampNeg).toInt := Classical.byContradiction (fun q => by unfold lk at h3; rw [if_neg nl, if_neg (fun z => z fq), if_neg q] at h3; exact absurd h3 (by decide))
        have o2 := (ok _ cs.2.1).2
        have ci := mm_cl2 (x := i) (n := 60) (by omega)
        refine mm_aload_0 40 dX12_lay_39 rfl ?_
        refine mm_getR 43 dX12_lay_40 f_X12_16 rfl t_51 rfl ?_
        refine mm_bipush 45 60 dX12_lay_43 rfl (by decide) ?_
        refine mm_iload_1 46 dX12_lay_45 rfl ?_
        refine mm_imul 47 dX12_lay_46 rfl ?_
        refine mm_iload_3 48 dX12_lay_47 rfl ?_
        refine mm_iadd 49 dX12_lay_48 rfl ?_
        refine mm_iload_2 50 dX12_lay_49 rfl ?_
        refine mm_iload_4 52 dX12_lay_50 rfl ?_
        refine mm_cS2i 55 dX12_lay_52 v_X12_119 rfl (Nat.le_of_ble_eq_true rfl) ⟨rfl, rfl⟩ ⟨Nat.zero_le _, Nat.zero_le _⟩ (c_X12_cut  (fun r4 e4 => ?_))
        refine mm_iastoren 56 (60 * s.toNatClampNeg + i.toNatClampNeg) dX12_lay_55 rfl t_54 (by decide) (by rw [l60, cs.1, pk_mul, ci.1, nI_add, mm_cn (by omega), mm_cn (by omega)]) (by omega) ?_
        refine mm_iconst 57 1 dX12_lay_56 rfl (by decide) ?_
        refine mm_iret dX12_lay_57 rfl ⟨rfl, Nat.zero_le _⟩ ?_
        refine h _ _ ?_ ?_
        · unfold z_lay
          rw [if_pos (by (try simp only [lg_cmp_lt, lg_cmp_gt, lg_cmp_le, lg_cmp_ge] at h1 h2); (try simp only [Int32.lt_iff_toInt_lt, Int32.le_iff_toInt_le, ← Int32.toInt_inj, vp_in_iff, Int32.reduceToInt, mm_t1, mm_t2, mm_t3, mm_t4, mm_t10, Int64.lt_iff_toInt_lt, Int64.le_iff_toInt_le, Int64.reduceToInt, Int32.toInt_toInt64] at h1 h2 ⊢); omega), if_pos h3]
        · unfold la_r
          rw [if_pos (by (try simp only [lg_cmp_lt, lg_cmp_gt, lg_cmp_le, lg_cmp_ge] at h1 h2); (try simp only [Int32.lt_iff_toInt_lt, Int32.le_iff_toInt_le, ← Int32.toInt_inj, vp_in_iff, Int32.reduceToInt, mm_t1, mm_t2, mm_t3, mm_t4, mm_t10, Int64.lt_iff_toInt_lt, Int64.le_iff_toInt_le, Int64.reduceToInt, Int32.toInt_toInt64] at h1 h2 ⊢); omega), if_pos h3]
          rw [e4]
          exact hf.both _ _ _
      · refine mm_istore_5 31 dX12_lay_29 rfl rfl ?_
        refine mm_iload_5 33 dX12_lay_31 rfl ?_
        refine mm_if_eq 39 36 dX12_lay_33 (by decide) rfl (fun h => absurd h (by decide)) (fun _ => ?_)
        refine mm_iload_5 38 dX12_lay_36 rfl ?_
        refine mm_iret dX12_lay_38 rfl ⟨rfl, Nat.zero_le _⟩ ?_
        refine h _ _ ?_ ?_
        · unfold z_lay
          rw [if_pos (by (try simp only [lg_cmp_lt, lg_cmp_gt, lg_cmp_le, lg_cmp_ge] at h1 h2); (try simp only [Int32.lt_iff_toInt_lt, Int32.le_iff_toInt_le, ← Int32.toInt_inj, vp_in_iff, Int32.reduceToInt, mm_t1, mm_t2, mm_t3, mm_t4, mm_t10, Int64.lt_iff_toInt_lt, Int64.le_iff_toInt_le, Int64.reduceToInt, Int32.toInt_toInt64] at h1 h2 ⊢); omega), h3, if_neg (by decide)]
          try rfl
        · unfold la_r
          rw [if_pos (by (try simp only [lg_cmp_lt, lg_cmp_gt, lg_cmp_le, lg_cmp_ge] at h1 h2); (try simp only [Int32.lt_iff_toInt_lt, Int32.le_iff_toInt_le, ← Int32.toInt_inj, vp_in_iff, Int32.reduceToInt, mm_t1, mm_t2, mm_t3, mm_t4, mm_t10, Int64.lt_iff_toInt_lt, Int64.le_iff_toInt_le, Int64.reduceToInt, Int32.toInt_toInt64] at h1 h2 ⊢); omega), h3, if_neg (by decide)]
          exact hf.both _ _ _
      · refine mm_istore_5 31 dX12_lay_29 rfl rfl ?_
        refine mm_iload_5 33 dX12_lay_31 rfl ?_
        refine mm_if_eq 39 36 dX12_lay_33 (by decide) rfl (fun h => absurd h (by decide)) (fun _ => ?_)
        refine mm_iload_5 38 dX12_lay_36 rfl ?_
        refine mm_iret dX12_lay_38 rfl ⟨rfl, Nat.zero_le _⟩ ?_
        refine h _ _ ?_ ?_
        · unfold z_lay
          rw [if_pos (by (try simp only [lg_cmp_lt, lg_cmp_gt, lg_cmp_le, lg_cmp_ge] at h1 h2); (try simp only [Int32.lt_iff_toInt_lt, Int32.le_iff_toInt_le, ← Int32.toInt_inj, vp_in_iff, Int32.reduceToInt, mm_t1, mm_t2, mm_t3, mm_t4, mm_t10, Int64.lt_iff_toInt_lt, Int64.le_iff_toInt_le, Int64.reduceToInt, Int32.toInt_toInt64] at h1 h2 ⊢); omega), h3, if_neg (by decide)]
          try rfl
        · unfold la_r
          rw [if_pos (by (try simp only [lg_cmp_lt, lg_cmp_gt, lg_cmp_le, lg_cmp_ge] at h1 h2); (try simp only [Int32.lt_iff_toInt_lt, Int32.le_iff_toInt_le, ← Int32.toInt_inj, vp_in_iff, Int32.reduceToInt, mm_t1, mm_t2, mm_t3, mm_t4, mm_t10, Int64.lt_iff_toInt_lt, Int64.le_iff_toInt_le, Int64.reduceToInt, Int32.toInt_toInt64] at h1 h2 ⊢); omega), h3, if_neg (by decide)]
          exact hf.both _ _ _
      · refine mm_istore_5 31 dX12_lay_29 rfl rfl ?_
        refine mm_iload_5 33 dX12_lay_31 rfl ?_
        refine mm_if_eq 39 36 dX12_lay_33 (by decide) rfl (fun h => absurd h (by decide)) (fun _ => ?_)
        refine mm_iload_5 38 dX12_lay_36 rfl ?_
        refine mm_iret dX12_lay_38 rfl ⟨rfl, Nat.zero_le _⟩ ?_
        refine h _ _ ?_ ?_
        · unfold z_lay
          rw [if_pos (by (try simp only [lg_cmp_lt, lg_cmp_gt, lg_cmp_le, lg_cmp_ge] at h1 h2); (try simp only [Int32.lt_iff_toInt_lt, Int32.le_iff_toInt_le, ← Int32.toInt_inj, vp_in_iff, Int32.reduceToInt, mm_t1, mm_t2, mm_t3, mm_t4, mm_t10, Int64.lt_iff_toInt_lt, Int64.le_iff_toInt_le, Int64.reduceToInt, Int32.toInt_toInt64] at h1 h2 ⊢); omega), h3, if_neg (by decide)]
          try rfl
        · unfold la_r
          rw [if_pos (by (try simp only [lg_cmp_lt, lg_cmp_gt, lg_cmp_le, lg_cmp_ge] at h1 h2); (try simp only [Int32.lt_iff_toInt_lt, Int32.le_iff_toInt_le, ← Int32.toInt_inj, vp_in_iff, Int32.reduceToInt, mm_t1, mm_t2, mm_t3, mm_t4, mm_t10, Int64.lt_iff_toInt_lt, Int64.le_iff_toInt_le, Int64.reduceToInt, Int32.toInt_toInt64] at h1 h2 ⊢); omega), h3, if_neg (by decide)]
          exact hf.both _ _ _
    · refine mm_if_ne 22 19 dX12_lay_16 (by decide) rfl (fun h => absurd h (by decide)) (fun _ => ?_)
      refine mm_bipush 21 (-2) dX12_lay_19 rfl (by decide) ?_
      refine mm_iret dX12_lay_21 rfl ⟨rfl, Nat.zero_le _⟩ ?_
      refine h _ _ ?_ ?_
      · unfold z_lay
        rw [if_neg (by (try simp only [lg_cmp_lt, lg_cmp_gt, lg_cmp_le, lg_cmp_ge] at h1 h2); (try simp only [Int32.lt_iff_toInt_lt, Int32.le_iff_toInt_le, ← Int32.toInt_inj, vp_in_iff, Int32.reduceToInt, mm_t1, mm_t2, mm_t3, mm_t4, mm_t10, Int64.lt_iff_toInt_lt, Int64.le_iff_toInt_le, Int64.reduceToInt, Int32.toInt_toInt64] at h1 h2 ⊢); omega)]
      · unfold la_r
        rw [if_neg (by (try simp only [lg_cmp_lt, lg_cmp_gt, lg_cmp_le, lg_cmp_ge] at h1 h2); (try simp only [Int32.lt_iff_toInt_lt, Int32.le_iff_toInt_le, ← Int32.toInt_inj, vp_in_iff, Int32.reduceToInt, mm_t1, mm_t2, mm_t3, mm_t4, mm_t10, Int64.lt_iff_toInt_lt, Int64.le_iff_toInt_le, Int64.reduceToInt, Int32.toInt_toInt64] at h1 h2 ⊢); omega)]
        exact hf
  · refine mm_if_eq 19 7 dX12_lay_4 (by decide) rfl (fun _ => ?_) (fun h => absurd h (by decide))
    refine mm_bipush 21 (-2) dX12_lay_19 rfl (by decide) ?_
    refine mm_iret dX12_lay_21 rfl ⟨rfl, Nat.zero_le _⟩ ?_
    refine h _ _ ?_ ?_
    · unfold z_lay
      rw [if_neg (by (try simp only [lg_cmp_lt, lg_cmp_gt, lg_cmp_le, lg_cmp_ge] at h1); (try simp only [Int32.lt_iff_toInt_lt, Int32.le_iff_toInt_le, ← Int32.toInt_inj, vp_in_iff, Int32.reduceToInt, mm_t1, mm_t2, mm_t3, mm_t4, mm_t10, Int64.lt_iff_toInt_lt, Int64.le_iff_toInt_le, Int64.reduceToInt, Int32.toInt_toInt64] at h1 ⊢); omega)]
    · unfold la_r
      rw [if_neg (by (try simp only [lg_cmp_lt, lg_cmp_gt, lg_cmp_le, lg_cmp_ge] at h1); (try simp only [Int32.lt_iff_toInt_lt, Int32.le_iff_toInt_le, ← Int32.toInt_inj, vp_in_iff, Int32.reduceToInt, mm_t1, mm_t2, mm_t3, mm_t4, mm_t10, Int64.lt_iff_toInt_lt, Int64.le_iff_toInt_le, Int64.reduceToInt, Int32.toInt_toInt64] at h1 ⊢); omega)]
      exact hf

set_option maxHeartbeats 4000000 in
theorem c_X12_get {l : Launch} {G : mm_G} {d : Nat} {M : mm_M} {Q : Int32 → mm_T → mm_M → Prop} {B : mm_M} (hB : a_ok B) (hf : fr B M) {s f i : Int32} (h : ∀ r M1, r = z_get B s f i → fr (ge_r B s f i) M1 → Q r T0 M1) : mm_met l G (d + 2) k_X12_get [.ref 51, .int s, .int f, .int i] T0 M (mm_pi Q) := by
  have ok := fun k (hk : k < 4) => hB.2.2.2.2.2.2.2 k hk
  refine mm_enter 0 [.ref 51, .int s, .int f, .int i] o_X12_get rfl rfl ?_
  refine mm_iload_1 1 dX12_get_0 rfl ?_
  refine mm_cS1i 4 dX12_get_1 v_X12_105 rfl (Nat.le_of_ble_eq_true rfl) ⟨rfl, rfl⟩ ⟨Nat.zero_le _, Nat.zero_le _⟩ (c_X12_isSheet  (fun h1 => ?_) (fun h1 => ?_))
  · refine mm_if_eq 29 7 dX12_get_4 (by decide) rfl (fun h => absurd h (by decide)) (fun _ => ?_)
    refine mm_iload_2 8 dX12_get_7 rfl ?_
    refine mm_i2l 9 dX12_get_8 rfl ?_
    refine mm_lconst 10 0 dX12_get_9 rfl (by decide) ?_
    refine mm_ldc2 13 2 dX12_get_10 rfl j_X12_109 ?_
    refine mm_cS3i 16 dX12_get_13 v_X12_95 rfl (Nat.le_of_ble_eq_true rfl) ⟨rfl, rfl⟩ ⟨Nat.zero_le _, Nat.zero_le _⟩ (c_X12_in  (fun h2 => ?_) (fun h2 => ?_))
    · refine mm_if_eq 29 19 dX12_get_16 (by decide) rfl (fun h => absurd h (by decide)) (fun _ => ?_)
      have cs := mm_cl2 (x := s) (n := 4) (by (try simp only [lg_cmp_lt, lg_cmp_gt, lg_cmp_le, lg_cmp_ge] at h1 h2); (try simp only [Int32.lt_iff_toInt_lt, Int32.le_iff_toInt_le, ← Int32.toInt_inj, vp_in_iff, Int32.reduceToInt, mm_t1, mm_t2, mm_t3, mm_t4, mm_t10, Int64.lt_iff_toInt_lt, Int64.le_iff_toInt_le, Int64.reduceToInt, Int32.toInt_toInt64] at h1 h2 ⊢); omega)
      refine mm_aload_0 20 dX12_get_19 rfl ?_
      refine mm_iload_1 21 dX12_get_20 rfl ?_
      refine mm_iload_2 22 dX12_get_21 rfl ?_
      refine mm_iload_3 23 dX12_get_22 rfl ?_
      refine mm_cV3i 26 dX12_get_23 v_X12_115 rfl t_51 (by decide) rfl rfl (Nat.le_of_ble_eq_true rfl) ⟨rfl, rfl⟩ ⟨Nat.zero_le _, Nat.zero_le _⟩ (c_X12_lacks hB hf cs (fun h3 => ?_) (fun h3 => ?_) (fun h3 => ?_) (fun h3 => ?_))
      · refine mm_if_eq 32 29 dX12_get_26 (by decide) rfl (fun _ => ?_) (fun h => absurd h (by decide))
        have nl : ¬ B 52 s.toNatClampNeg = -1 := fun q => by unfold lk at h3; rw [if_pos q] at h3; exact absurd h3 (by decide)
        have fq : B 52 s.toNatClampNeg = f := Classical.byContradiction (fun q => by unfold lk at h3; rw [if_neg nl, if_pos q] at h3; exact absurd h3 (by decide))
        have iq : 0 ≤ i.toInt ∧ i.toInt < (B 53 s.toNatClampNeg).toInt := Classical.byContradiction (fun q => by unfold lk at h3; rw [if_neg nl, if_neg (fun z => z fq), if_neg q] at h3; exact absurd h3 (by decide))
        have o2 := (ok _ cs.2.1).2
        have ci := mm_cl2 (x := i) (n := 60) (by omega)
        refine mm_aload_0 33 dX12_get_32 rfl ?_
        refine mm_getR 36 dX12_get_33 f_X12_16 rfl t_51 rfl ?_
        refine mm_bipush 38 60 dX12_get_36 rfl (by decide) ?_
        refine mm_iload_1 39 dX12_get_38 rfl ?_
        refine mm_imul 40 dX12_get_39 rfl ?_
        refine mm_iload_3 41 dX12_get_40 rfl ?_
        refine mm_iadd 42 dX12_get_41 rfl ?_
        refine mm_ialoadn 43 (60 * s.toNatClampNeg + i.toNatClampNeg) dX12_get_42 rfl t_54 (by decide) (by rw [l60, cs.1, pk_mul, ci.1, nI_add, mm_cn (by omega), mm_cn (by omega)]) (by omega) ?_
        refine mm_iret dX12_get_43 rfl ⟨rfl, Nat.zero_le _⟩ ?_
        refine h _ _ ?_ ?_
        · unfold z_get
          rw [if_pos (by (try simp only [lg_cmp_lt, lg_cmp_gt, lg_cmp_le, lg_cmp_ge] at h1 h2); (try simp only [Int32.lt_iff_toInt_lt, Int32.le_iff_toInt_le, ← Int32.toInt_inj, vp_in_iff, Int32.reduceToInt, mm_t1, mm_t2, mm_t3, mm_t4, mm_t10, Int64.lt_iff_toInt_lt, Int64.le_iff_toInt_le, Int64.reduceToInt, Int32.toInt_toInt64] at h1 h2 ⊢); omega), if_pos h3]
          rw [hf.a 54]
        · unfold ge_r
          rw [if_pos (by (try simp only [lg_cmp_lt, lg_cmp_gt, lg_cmp_le, lg_cmp_ge] at h1 h2); (try simp only [Int32.lt_iff_toInt_lt, Int32.le_iff_toInt_le, ← Int32.toInt_inj, vp_in_iff, Int32.reduceToInt, mm_t1, mm_t2, mm_t3, mm_t4, mm_t10, Int64.lt_iff_toInt_lt, Int64.le_iff_toInt_le, Int64.reduceToInt, Int32.toInt_toInt64] at h1 h2 ⊢); omega), if_pos h3]
          exact hf
      · refine mm_if_eq 32 29 dX12_get_26 (by decide) rfl (fun h => absurd h (by decide)) (fun _ => ?_)
        refine mm_ldc 31 (-2147483648) dX12_get_29 rfl j_X12_123 ?_
        refine mm_iret dX12_get_31 rfl ⟨rfl, Nat.zero_le _⟩ ?_
        refine h _ _ ?_ ?_
        · unfold z_get
          rw [if_pos (by (try simp only [lg_cmp_lt, lg_cmp_gt, lg_cmp_le, lg_cmp_ge] at h1 h2); (try simp only [Int32.lt_iff_toInt_lt, Int32.le_iff_toInt_le, ← Int32.toInt_inj, vp_in_iff, Int32.reduceToInt, mm_t1, mm_t2, mm_t3, mm_t4, mm_t10, Int64.lt_iff_toInt_lt, Int64.le_iff_toInt_le, Int64.reduceToInt, Int32.toInt_toInt64] at h1 h2 ⊢); omega), h3, if_neg (by decide)]
        · unfold ge_r
          rw [if_pos (by (try simp only [lg_cmp_lt, lg_cmp_gt, lg_cmp_le, lg_cmp_ge] at h1 h2); (try simp only [Int32.lt_iff_toInt_lt, Int32.le_iff_toInt_le, ← Int32.toInt_inj, vp_in_iff, Int32.reduceToInt, mm_t1, mm_t2, mm_t3, mm_t4, mm_t10, Int64.lt_iff_toInt_lt, Int64.le_iff_toInt_le, Int64.reduceToInt, Int32.toInt_toInt64] at h1 h2 ⊢); omega), h3, if_neg (by decide)]
          exact hf.both _ _ _
      · refine mm_if_eq 32 29 dX12_get_26 (by decide) rfl (fun h => absurd h (by decide)) (fun _ => ?_)
        refine mm_ldc 31 (-2147483648) dX12_get_29 rfl j_X12_123 ?_
        refine mm_iret dX12_get_31 rfl ⟨rfl, Nat.zero_le _⟩ ?_
        refine h _ _ ?_ ?_
        · unfold z_get
          rw [if_pos (by (try simp only [lg_cmp_lt, lg_cmp_gt, lg_cmp_le, lg_cmp_ge] at h1 h2); (try simp only [Int32.lt_iff_toInt_lt, Int32.le_iff_toInt_le, ← Int32.toInt_inj, vp_in_iff, Int32.reduceToInt, mm_t1, mm_t2, mm_t3, mm_t4, mm_t10, Int64.lt_iff_toInt_lt, Int64.le_iff_toInt_le, Int64.reduceToInt, Int32.toInt_toInt64] at h1 h2 ⊢); omega), h3, if_neg (by decide)]
        · unfold ge_r
          rw [if_pos (by (try simp only [lg_cmp_lt, lg_cmp_gt, lg_cmp_le, lg_cmp_ge] at h1 h2); (try simp only [Int32.lt_iff_toInt_lt, Int32.le_iff_toInt_le, ← Int32.toInt_inj, vp_in_iff, Int32.reduceToInt, mm_t1, mm_t2, mm_t3, mm_t4, mm_t10, Int64.lt_iff_toInt_lt, Int64.le_iff_toInt_le, Int64.reduceToInt, Int32.toInt_toInt64] at h1 h2 ⊢); omega), h3, if_neg (by decide)]
          exact hf.both _ _ _
      · refine mm_if_eq 32 29 dX12_get_26 (by decide) rfl (fun h => absurd h (by decide)) (fun _ => ?_)
        refine mm_ldc 31 (-2147483648) dX12_get_29 rfl j_X12_123 ?_
        refine mm_iret dX12_get_31 rfl ⟨rfl, Nat.zero_le _⟩ ?_
        refine h _ _ ?_ ?_
        · unfold z_get
          rw [if_pos (by (try simp only [lg_cmp_lt, lg_cmp_gt, lg_cmp_le, lg_cmp_ge] at h1 h2); (try simp only [Int32.lt_iff_toInt_lt, Int32.le_iff_toInt_le, ← Int32.toInt_inj, vp_in_iff, Int32.reduceToInt, mm_t1, mm_t2, mm_t3, mm_t4, mm_t10, Int64.lt_iff_toInt_lt, Int64.le_iff_toInt_le, Int64.reduceToInt, Int32.toInt_toInt64] at h1 h2 ⊢); omega), h3, if_neg (by decide)]
        · unfold ge_r
          rw [if_pos (by (try simp only [lg_cmp_lt, lg_cmp_gt, lg_cmp_le, lg_cmp_ge] at h1 h2); (try simp only [Int32.lt_iff_toInt_lt, Int32.le_iff_toInt_le, ← Int32.toInt_inj, vp_in_iff, Int32.reduceToInt, mm_t1, mm_t2, mm_t3, mm_t4, mm_t10, Int64.lt_iff_toInt_lt, Int64.le_iff_toInt_le, Int64.reduceToInt, Int32.toInt_toInt64] at h1 h2 ⊢); omega), h3, if_neg (by decide)]
          exact hf.both _ _ _
    · refine mm_if_eq 29 19 dX12_get_16 (by decide) rfl (fun _ => ?_) (fun h => absurd h (by decide))
      refine mm_ldc 31 (-2147483648) dX12_get_29 rfl j_X12_123 ?_
      refine mm_iret dX12_get_31 rfl ⟨rfl, Nat.zero_le _⟩ ?_
      refine h _ _ ?_ ?_
      · unfold z_get
        rw [if_neg (by (try simp only [lg_cmp_lt, lg_cmp_gt, lg_cmp_le, lg_cmp_ge] at h1 h2); (try simp only [Int32.lt_iff_toInt_lt, Int32.le_iff_toInt_le, ← Int32.toInt_inj, vp_in_iff, Int32.reduceToInt, mm_t1, mm_t2, mm_t3, mm_t4, mm_t10, Int64.lt_iff_toInt_lt, Int64.le_iff_toInt_le, Int64.reduceToInt, Int32.toInt_toInt64] at h1 h2 ⊢); omega)]
      · unfold ge_r
        rw [if_neg (by (try simp only [lg_cmp_lt, lg_cmp_gt, lg_cmp_le, lg_cmp_ge] at h1 h2); (try simp only [Int32.lt_iff_toInt_lt, Int32.le_iff_toInt_le, ← Int32.toInt_inj, vp_in_iff, Int32.reduceToInt, mm_t1, mm_t2, mm_t3, mm_t4, mm_t10, Int64.lt_iff_toInt_lt, Int64.le_iff_toInt_le, Int64.reduceToInt, Int32.toInt_toInt64] at h1 h2 ⊢); omega)]
        exact hf
  · refine mm_if_eq 29 7 dX12_get_4 (by decide) rfl (fun _ => ?_) (fun h => absurd h (by decide))
    refine mm_ldc 31 (-2147483648) dX12_get_29 rfl j_X12_123 ?_
    refine mm_iret dX12_get_31 rfl ⟨rfl, Nat.zero_le _⟩ ?_
    refine h _ _ ?_ ?_
    · unfold z_get
      rw [if_neg (by (try simp only [lg_cmp_lt, lg_cmp_gt, lg_cmp_le, lg_cmp_ge] at h1); (try simp only [Int32.lt_iff_toInt_lt, Int32.le_iff_toInt_le, ← Int32.toInt_inj, vp_in_iff, Int32.reduceToInt, mm_t1, mm_t2, mm_t3, mm_t4, mm_t10, Int64.lt_iff_toInt_lt, Int64.le_iff_toInt_le, Int64.reduceToInt, Int32.toInt_toInt64] at h1 ⊢); omega)]
    · unfold ge_r
      rw [if_neg (by (try simp only [lg_cmp_lt, lg_cmp_gt, lg_cmp_le, lg_cmp_ge] at h1); (try simp only [Int32.lt_iff_toInt_lt, Int32.le_iff_toInt_le, ← Int32.toInt_inj, vp_in_iff, Int32.reduceToInt, mm_t1, mm_t2, mm_t3, mm_t4, mm_t10, Int64.lt_iff_toInt_lt, Int64.le_iff_toInt_le, Int64.reduceToInt, Int32.toInt_toInt64] at h1 ⊢); omega)]
      exact hf

set_option maxHeartbeats 4000000 in
theorem w_X12_copy2 {l : Launch} {G : mm_G} {d : Nat} {M : mm_M} {Q : Int32 → mm_T → mm_M → Prop} {s i t j n : Int32} (cs : s = nI s.toNatClampNeg ∧ s.toNatClampNeg < 4 ∧ (s.toNatClampNeg : Int) = s.toInt) (ct : t = nI t.toNatClampNeg ∧ t.toNatClampNeg < 4 ∧ (t.toNatClampNeg : Int) = t.toInt) (ci : i = nI i.toNatClampNeg ∧ i.toNatClampNeg < 61 ∧ (i.toNatClampNeg : Int) = i.toInt) (cj : j = nI j.toNatClampNeg ∧ j.toNatClampNeg < 61 ∧ (j.toNatClampNeg : Int) = j.toInt) (cn : n = nI n.toNatClampNeg ∧ n.toNatClampNeg < 61 ∧ (n.toNatClampNeg : Int) = n.toInt) (s1 : i.toNatClampNeg + n.toNatClampNeg ≤ 60) (s2 : j.toNatClampNeg + n.toNatClampNeg ≤ 60) {R : Nat → Int32} (hm : ∀ x, x < n.toNatClampNeg → M 55 x = R ((60 * s.toNatClampNeg + i.toNatClampNeg) + x)) (h : Q 1 T0 (va_up M 54 (va_cpy R (M 54) (60 * s.toNatClampNeg + i.toNatClampNeg) (60 * t.toNatClampNeg + j.toNatClampNeg) n.toNatClampNeg))) : ∀ (z a : Nat), n.toNatClampNeg - a ≤ z → a ≤ n.toNatClampNeg → mm_wp l G (d + 2) k_X12_copy (mm_pi Q) 157 [.ref 51, .int s, .int i, .int t, .int j, .int n, .int (nI a)] [] T0 (va_up M 54 (va_cpy R (M 54) (60 * s.toNatClampNeg + i.toNatClampNeg) (60 * t.toNatClampNeg + j.toNatClampNeg) a)) 0 0 := by
  intro z
  induction z using Nat.strongRecOn with | _ z ih => ?_
  intro a hze han
  have hii : (nI a).toInt = a := mm_ti (by omega)
  refine mm_iload_6 159 dX12_copy_157 rfl ?_
  refine mm_iload_5 161 dX12_copy_159 rfl ?_
  refine mm_ic_ge 192 164 dX12_copy_161 (by decide) rfl (fun h1 => ?_) (fun h1 => ?_)
  · refine mm_iconst 193 1 dX12_copy_192 rfl (by decide) ?_
    refine mm_iret dX12_copy_193 rfl ⟨rfl, Nat.zero_le _⟩ ?_
    have hz : a = n.toNatClampNeg := by (try simp only [hii, Int32.lt_iff_toInt_lt, Int32.le_iff_toInt_le, ← Int32.toInt_inj, vp_in_iff, Int32.reduceToInt, mm_t1, mm_t2, mm_t3, mm_t4, mm_t10] at h1); omega
    rw [hz]
    exact h
  · have hlt : a < n.toNatClampNeg := by (try simp only [hii, Int32.lt_iff_toInt_lt, Int32.le_iff_toInt_le, ← Int32.toInt_inj, vp_in_iff, Int32.reduceToInt, mm_t1, mm_t2, mm_t3, mm_t4, mm_t10] at h1); omega
    refine mm_aload_0 165 dX12_copy_164 rfl ?_
    refine mm_getR 168 dX12_copy_165 f_X12_16 rfl t_51 rfl ?_
    refine mm_bipush 170 60 dX12_copy_168 rfl (by decide) ?_
    refine mm_iload_3 171 dX12_copy_170 rfl ?_
    refine mm_imul 172 dX12_copy_171 rfl ?_
    refine mm_iload_4 174 dX12_copy_172 rfl ?_
    refine mm_iadd 175 dX12_copy_174 rfl ?_
    refine mm_iload_6 177 dX12_copy_175 rfl ?_
    refine mm_iadd 178 dX12_copy_177 rfl ?_
    refine mm_aload_0 179 dX12_copy_178 rfl ?_
    refine mm_getR 182 dX12_copy_179 f_X12_19 rfl t_51 rfl ?_
    refine mm_iload_6 184 dX12_copy_182 rfl ?_
    refine mm_ialoadn 185 (a) dX12_copy_184 rfl t_55 (by decide) (rfl) (by omega) ?_
    rw [show (va_up M 54 (va_cpy R (M 54) (60 * s.toNatClampNeg + i.toNatClampNeg) (60 * t.toNatClampNeg + j.toNatClampNeg) a)) 55 a = R ((60 * s.toNatClampNeg + i.toNatClampNeg) + a) from by simp [va_up]; exact hm a hlt]
    refine mm_iastoren 186 ((60 * t.toNatClampNeg + j.toNatClampNeg) + a) dX12_copy_185 rfl t_54 (by decide) (by rw [l60, ct.1, pk_mul, cj.1, nI_add, nI_add, mm_cn (by omega), mm_cn (by omega)]) (by omega) ?_
    refine mm_iinc_6 189 1 dX12_copy_186 rfl (by decide) rfl ?_
    refine mm_goto 157 dX12_copy_189 (by decide) ?_
    have hh := ih (n.toNatClampNeg - (a + 1)) (by omega) (a + 1) (Nat.le_refl _) (by omega)
    rw [← cpy_s] at hh
    rw [nI_1, mm_upva]
    exact hh

set_option maxHeartbeats 4000000 in
theorem w_X12_copy1 {l : Launch} {G : mm_G} {d : Nat} {M : mm_M} {Q : Int32 → mm_T → mm_M → Prop} {s i t j n : Int32} (cs : s = nI s.toNatClampNeg ∧ s.toNatClampNeg < 4 ∧ (s.toNatClampNeg : Int) = s.toInt) (ct : t = nI t.toNatClampNeg ∧ t.toNatClampNeg < 4 ∧ (t.toNatClampNeg : Int) = t.toInt) (ci : i = nI i.toNatClampNeg ∧ i.toNatClampNeg < 61 ∧ (i.toNatClampNeg : Int) = i.toInt) (cj : j = nI j.toNatClampNeg ∧ j.toNatClampNeg < 61 ∧ (j.toNatClampNeg : Int) = j.toInt) (cn : n = nI n.toNatClampNeg ∧ n.toNatClampNeg < 61 ∧ (n.toNatClampNeg : Int) = n.toInt) (s1 : i.toNatClampNeg + n.toNatClampNeg ≤ 60) (s2 : j.toNatClampNeg + n.toNatClampNeg ≤ 60) (h : ∀ M1 : mm_M, (∀ c, c ≠ 55 → M1 c = M c) → Q 1 T0 (va_up M1 54 (va_cpy (M 54) (M 54) (60 * s.toNatClampNeg + i.toNatClampNeg) (60 * t.toNatClampNeg + j.toNatClampNeg) n.toNatClampNeg))) : ∀ (z a : Nat), n.toNatClampNeg - a ≤ z → a ≤ n.toNatClampNeg → mm_wp l G (d + 2) k_X12_copy (mm_pi Q) 120 [.ref 51, .int s, .int i, .int t, .int j, .int n, .int (nI a)] [] T0 (va_up M 55 (va_cpy (M 54) (M 55) (60 * s.toNatClampNeg + i.toNatClampNeg) 0 a)) 0 0 := by
  intro z
  induction z using Nat.strongRecOn with | _ z ih => ?_
  intro a hze han
  have hii : (nI a).toInt = a := mm_ti (by omega)
  refine mm_iload_6 122 dX12_copy_120 rfl ?_
  refine mm_iload_5 124 dX12_copy_122 rfl ?_
  refine mm_ic_ge 154 127 dX12_copy_124 (by decide) rfl (fun h1 => ?_) (fun h1 => ?_)
  · refine mm_iconst 155 0 dX12_copy_154 rfl (by decide) ?_
    refine mm_istore_6 157 dX12_copy_155 rfl rfl ?_
    have hz : a = n.toNatClampNeg := by (try simp only [hii, Int32.lt_iff_toInt_lt, Int32.le_iff_toInt_le, ← Int32.toInt_inj, vp_in_iff, Int32.reduceToInt, mm_t1, mm_t2, mm_t3, mm_t4, mm_t10] at h1); omega
    have e54 : va_up M 55 (va_cpy (M 54) (M 55) (60 * s.toNatClampNeg + i.toNatClampNeg) 0 a) 54 = M 54 := by simp [va_up]
    refine mm_memo ?_ (w_X12_copy2 (M := va_up M 55 (va_cpy (M 54) (M 55) (60 * s.toNatClampNeg + i.toNatClampNeg) 0 a)) (R := M 54) cs ct ci cj cn s1 s2 (fun x hx => ?_) ?_ 60 0 (by omega) (by omega))
    · rw [cpy_0, va_same]
    · simp only [va_up, if_true, va_cpy]
      rw [if_pos (by omega), Nat.sub_zero]
    · rw [e54]
      exact h _ (fun c hc => by simp [va_up, hc])
  · have hlt : a < n.toNatClampNeg := by (try simp only [hii, Int32.lt_iff_toInt_lt, Int32.le_iff_toInt_le, ← Int32.toInt_inj, vp_in_iff, Int32.reduceToInt, mm_t1, mm_t2, mm_t3, mm_t4, mm_t10] at h1); omega
    refine mm_aload_0 128 dX12_copy_127 rfl ?_
    refine mm_getR 131 dX12_copy_128 f_X12_19 rfl t_51 rfl ?_
    refine mm_iload_6 133 dX12_copy_131 rfl ?_
    refine mm_aload_0 134 dX12_copy_133 rfl ?_
    refine mm_getR 137 dX12_copy_134 f_X12_16 rfl t_51 rfl ?_
    refine mm_bipush 139 60 dX12_copy_137 rfl (by decide) ?_
    refine mm_iload_1 140 dX12_copy_139 rfl ?_
    refine mm_imul 141 dX12_copy_140 rfl ?_
    refine mm_iload_2 142 dX12_copy_141 rfl ?_
    refine mm_iadd 143 dX12_copy_142 rfl ?_
    refine mm_iload_6 145 dX12_copy_143 rfl ?_
    refine mm_iadd 146 dX12_copy_145 rfl ?_
    refine mm_ialoadn 147 ((60 * s.toNatClampNeg + i.toNatClampNeg) + a) dX12_copy_146 rfl t_54 (by decide) (by rw [l60, cs.1, pk_mul, ci.1, nI_add, nI_add, mm_cn (by omega), mm_cn (by omega)]) (by omega) ?_
    refine mm_iastoren 148 (a) dX12_copy_147 rfl t_55 (by decide) (rfl) (by omega) ?_
    refine mm_iinc_6 151 1 dX12_copy_148 rfl (by decide) rfl ?_
    refine mm_goto 120 dX12_copy_151 (by decide) ?_
    have hh := ih (n.toNatClampNeg - (a + 1)) (by omega) (a + 1) (Nat.le_refl _) (by omega)
    rw [← cpy_s, Nat.zero_add] at hh
    rw [nI_1, mm_upva, show ∀ row, va_up M 55 row 54 = M 54 from fun row => by simp [va_up]]
    exact hh

set_option maxHeartbeats 4000000 in
theorem c_X12_copy {l : Launch} {G : mm_G} {d : Nat} {M : mm_M} {Q : Int32 → mm_T → mm_M → Prop} {B : mm_M} (hB : a_ok B) (hf : fr B M) {s i t j n : Int32} (h : ∀ r M1, r = z_copy B s i t j n → fr (co_r B s i t j n) M1 → Q r T0 M1) : mm_met l G (d + 2) k_X12_copy [.ref 51, .int s, .int i, .int t, .int j, .int n] T0 M (mm_pi Q) := by
  have ok := fun k (hk : k < 4) => hB.2.2.2.2.2.2.2 k hk
  refine mm_enter 1 [.ref 51, .int s, .int i, .int t, .int j, .int n, .double 0] o_X12_copy rfl rfl ?_
  refine mm_iload_1 1 dX12_copy_0 rfl ?_
  refine mm_cS1i 4 dX12_copy_1 v_X12_105 rfl (Nat.le_of_ble_eq_true rfl) ⟨rfl, rfl⟩ ⟨Nat.zero_le _, Nat.zero_le _⟩ (c_X12_isSheet  (fun h1 => ?_) (fun h1 => ?_))
  · refine mm_if_eq 14 7 dX12_copy_4 (by decide) rfl (fun h => absurd h (by decide)) (fun _ => ?_)
    refine mm_iload_3 8 dX12_copy_7 rfl ?_
    refine mm_cS1i 11 dX12_copy_8 v_X12_105 rfl (Nat.le_of_ble_eq_true rfl) ⟨rfl, rfl⟩ ⟨Nat.zero_le _, Nat.zero_le _⟩ (c_X12_isSheet  (fun h2 => ?_) (fun h2 => ?_))
    · refine mm_if_ne 17 14 dX12_copy_11 (by decide) rfl (fun _ => ?_) (fun h => absurd h (by decide))
      have cs := mm_cl2 (x := s) (n := 4) (by (try simp only [lg_cmp_lt, lg_cmp_gt, lg_cmp_le, lg_cmp_ge] at h1 h2); (try simp only [Int32.lt_iff_toInt_lt, Int32.le_iff_toInt_le, ← Int32.toInt_inj, vp_in_iff, Int32.reduceToInt, mm_t1, mm_t2, mm_t3, mm_t4, mm_t10, Int64.lt_iff_toInt_lt, Int64.le_iff_toInt_le, Int64.reduceToInt, Int32.toInt_toInt64] at h1 h2 ⊢); omega)
      have ct := mm_cl2 (x := t) (n := 4) (by (try simp only [lg_cmp_lt, lg_cmp_gt, lg_cmp_le, lg_cmp_ge] at h1 h2); (try simp only [Int32.lt_iff_toInt_lt, Int32.le_iff_toInt_le, ← Int32.toInt_inj, vp_in_iff, Int32.reduceToInt, mm_t1, mm_t2, mm_t3, mm_t4, mm_t10, Int64.lt_iff_toInt_lt, Int64.le_iff_toInt_le, Int64.reduceToInt, Int32.toInt_toInt64] at h1 h2 ⊢); omega)
      refine mm_aload_0 18 dX12_copy_17 rfl ?_
      refine mm_getR 21 dX12_copy_18 f_X12_7 rfl t_51 rfl ?_
      refine mm_iload_1 22 dX12_copy_21 rfl ?_
      refine mm_ialoadn 23 (s.toNatClampNeg) dX12_copy_22 rfl t_52 (by decide) (cs.1) (by omega) ?_
      refine mm_if_lt 35 26 dX12_copy_23 (by decide) rfl (fun h3 => ?_) (fun h3 => ?_)
      · refine mm_aload_0 36 dX12_copy_35 rfl ?_
        refine mm_iconst 37 1 dX12_copy_36 rfl (by decide) ?_
        refine mm_cV1i 40 dX12_copy_37 v_X12_111 rfl t_51 (by decide) rfl rfl (Nat.le_of_ble_eq_true rfl) ⟨rfl, rfl⟩ ⟨Nat.zero_le _, Nat.zero_le _⟩ (c_X12_met (fun r4 e4 => ?_))
        refine mm_iret dX12_copy_40 rfl ⟨rfl, Nat.zero_le _⟩ ?_
        have o1 := ok _ cs.2.1
        have o2 := ok _ ct.2.1
        rw [hf.a 52] at h3
        have cq : ck B s.toNatClampNeg t.toNatClampNeg i j n = 1 := by unfold ck; rw [if_pos (Or.inl (by (try simp only [Int32.lt_iff_toInt_lt, Int32.le_iff_toInt_le, ← Int32.toInt_inj, vp_in_iff, Int32.reduceToInt, mm_t1, mm_t2, mm_t3, mm_t4, mm_t10] at h3 ⊢); omega))]
        refine h _ _ ?_ ?_
        · unfold z_copy
          rw [if_pos (by omega), cq, if_neg (by decide)]
          rw [e4]
        · unfold co_r
          rw [if_pos (by omega), cq, if_neg (by decide)]
          exact hf.both _ _ _
      · refine mm_aload_0 27 dX12_copy_26 rfl ?_
        refine mm_getR 30 dX12_copy_27 f_X12_7 rfl t_51 rfl ?_
        refine mm_iload_3 31 dX12_copy_30 rfl ?_
        refine mm_ialoadn 32 (t.toNatClampNeg) dX12_copy_31 rfl t_52 (by decide) (ct.1) (by omega) ?_
        refine mm_if_ge 41 35 dX12_copy_32 (by decide) rfl (fun h5 => ?_) (fun h5 => ?_)
        · refine mm_aload_0 42 dX12_copy_41 rfl ?_
          refine mm_getR 45 dX12_copy_42 f_X12_7 rfl t_51 rfl ?_
          refine mm_iload_1 46 dX12_copy_45 rfl ?_
          refine mm_ialoadn 47 (s.toNatClampNeg) dX12_copy_46 rfl t_52 (by decide) (cs.1) (by omega) ?_
          refine mm_aload_0 48 dX12_copy_47 rfl ?_
          refine mm_getR 51 dX12_copy_48 f_X12_7 rfl t_51 rfl ?_
          refine mm_iload_3 52 dX12_copy_51 rfl ?_
          refine mm_ialoadn 53 (t.toNatClampNeg) dX12_copy_52 rfl t_52 (by decide) (ct.1) (by omega) ?_
          refine mm_ic_eq 62 56 dX12_copy_53 (by decide) rfl (fun h6 => ?_) (fun h6 => ?_)
          · refine mm_iload_2 63 dX12_copy_62 rfl ?_
            refine mm_if_lt 111 66 dX12_copy_63 (by decide) rfl (fun h7 => ?_) (fun h7 => ?_)
            · refine mm_aload_0 112 dX12_copy_111 rfl ?_
              refine mm_iconst 113 2 dX12_copy_112 rfl (by decide) ?_
              refine mm_cV1i 116 dX12_copy_113 v_X12_111 rfl t_51 (by decide) rfl rfl (Nat.le_of_ble_eq_true rfl) ⟨rfl, rfl⟩ ⟨Nat.zero_le _, Nat.zero_le _⟩ (c_X12_met (fun r8 e8 => ?_))
              refine mm_iret dX12_copy_116 rfl ⟨rfl, Nat.zero_le _⟩ ?_
              have o1 := ok _ cs.2.1
              have o2 := ok _ ct.2.1
              rw [hf.a 52] at h3
              rw [hf.a 52] at h5
              rw [hf.a 52] at h6
              have nl : ¬ (B 52 s.toNatClampNeg = -1 ∨ B 52 t.toNatClampNeg = -1) := by (try simp only [Int32.lt_iff_toInt_lt, Int32.le_iff_toInt_le, ← Int32.toInt_inj, vp_in_iff, Int32.reduceToInt, mm_t1, mm_t2, mm_t3, mm_t4, mm_t10] at h3 h5 ⊢); omega
              have cq : ck B s.toNatClampNeg t.toNatClampNeg i j n = 2 := by unfold ck; rw [if_neg nl, if_neg (fun q => q h6), if_neg (by (try simp only [lg_cmp_lt, lg_cmp_gt, lg_cmp_le, lg_cmp_ge] at h7); (try simp only [Int32.lt_iff_toInt_lt, Int32.le_iff_toInt_le, ← Int32.toInt_inj, vp_in_iff, Int32.reduceToInt, mm_t1, mm_t2, mm_t3, mm_t4, mm_t10, Int64.lt_iff_toInt_lt, Int64.le_iff_toInt_le, Int64.reduceToInt, Int32.toInt_toInt64, l_add] at h7 ⊢); omega)]
              refine h _ _ ?_ ?_
              · unfold z_copy
                rw [if_pos (by omega), cq, if_neg (by decide)]
                rw [e8]
              · unfold co_r
                rw [if_pos (by omega), cq, if_neg (by decide)]
                exact hf.both _ _ _
            · refine mm_iload_4 68 dX12_copy_66 rfl ?_
              refine mm_if_lt 111 71 dX12_copy_68 (by decide) rfl (fun h9 => ?_) (fun h9 => ?_)
              · refine mm_aload_0 112 dX12_copy_111 rfl ?_
                refine mm_iconst 113 2 dX12_copy_112 rfl (by decide) ?_
                refine mm_cV1i 116 dX12_copy_113 v_X12_111 rfl t_51 (by decide) rfl rfl (Nat.le_of_ble_eq_true rfl) ⟨rfl, rfl⟩ ⟨Nat.zero_le _, Nat.zero_le _⟩ (c_X12_met (fun r10 e10 => ?_))
                refine mm_iret dX12_copy_116 rfl ⟨rfl, Nat.zero_le _⟩ ?_
                have o1 := ok _ cs.2.1
                have o2 := ok _ ct.2.1
                rw [hf.a 52] at h3
                rw [hf.a 52] at h5
                rw [hf.a 52] at h6
                have nl : ¬ (B 52 s.toNatClampNeg = -1 ∨ B 52 t.toNatClampNeg = -1) := by (try simp only [Int32.lt_iff_toInt_lt, Int32.le_iff_toInt_le, ← Int32.toInt_inj, vp_in_iff, Int32.reduceToInt, mm_t1, mm_t2, mm_t3, mm_t4, mm_t10] at h3 h5 ⊢); omega
                have cq : ck B s.toNatClampNeg t.toNatClampNeg i j n = 2 := by unfold ck; rw [if_neg nl, if_neg (fun q => q h6), if_neg (by (try simp only [lg_cmp_lt, lg_cmp_gt, lg_cmp_le, lg_cmp_ge] at h7 h9); (try simp only [Int32.lt_iff_toInt_lt, Int32.le_iff_toInt_le, ← Int32.toInt_inj, vp_in_iff, Int32.reduceToInt, mm_t1, mm_t2, mm_t3, mm_t4, mm_t10, Int64.lt_iff_toInt_lt, Int64.le_iff_toInt_le, Int64.reduceToInt, Int32.toInt_toInt64, l_add] at h7 h9 ⊢); omega)]
                refine h _ _ ?_ ?_
                · unfold z_copy
                  rw [if_pos (by omega), cq, if_neg (by decide)]
                  rw [e10]
                · unfold co_r
                  rw [if_pos (by omega), cq, if_neg (by decide)]
                  exact hf.both _ _ _
              · refine mm_iload_5 73 dX12_copy_71 rfl ?_
                refine mm_if_lt 111 76 dX12_copy_73 (by decide) rfl (fun h11 => ?_) (fun h11 => ?_)
                · refine mm_aload_0 112 dX12_copy_111 rfl ?_
                  refine mm_iconst 113 2 dX12_copy_112 rfl (by decide) ?_
                  refine mm_cV1i 116 dX12_copy_113 v_X12_111 rfl t_51 (by decide) rfl rfl (Nat.le_of_ble_eq_true rfl) ⟨rfl, rfl⟩ ⟨Nat.zero_le _, Nat.zero_le _⟩ (c_X12_met (fun r12 e12 => ?_))
                  refine mm_iret dX12_copy_116 rfl ⟨rfl, Nat.zero_le _⟩ ?_
                  have o1 := ok _ cs.2.1
                  have o2 := ok _ ct.2.1
                  rw [hf.a 52] at h3
                  rw [hf.a 52] at h5
                  rw [hf.a 52] at h6
                  have nl : ¬ (B 52 s.toNatClampNeg = -1 ∨ B 52 t.toNatClampNeg = -1) := by (try simp only [Int32.lt_iff_toInt_lt, Int32.le_iff_toInt_le, ← Int32.toInt_inj, vp_in_iff, Int32.reduceToInt, mm_t1, mm_t2, mm_t3, mm_t4, mm_t10] at h3 h5 ⊢); omega
                  have cq : ck B s.toNatClampNeg t.toNatClampNeg i j n = 2 := by unfold ck; rw [if_neg nl, if_neg (fun q => q h6), if_neg (by (try simp only [lg_cmp_lt, lg_cmp_gt, lg_cmp_le, lg_cmp_ge] at h7 h9 h11); (try simp only [Int32.lt_iff_toInt_lt, Int32.le_iff_toInt_le, ← Int32.toInt_inj, vp_in_iff, Int32.reduceToInt, mm_t1, mm_t2, mm_t3, mm_t4, mm_t10, Int64.lt_iff_toInt_lt, Int64.le_iff_toInt_le, Int64.reduceToInt, Int32.toInt_toInt64, l_add] at h7 h9 h11 ⊢); omega)]
                  refine h _ _ ?_ ?_
                  · unfold z_copy
                    rw [if_pos (by omega), cq, if_neg (by decide)]
                    rw [e12]
                  · unfold co_r
                    rw [if_pos (by omega), cq, if_neg (by decide)]
                    exact hf.both _ _ _
                · refine mm_iload_2 77 dX12_copy_76 rfl ?_
                  refine mm_i2l 78 dX12_copy_77 rfl ?_
                  refine mm_iload_5 80 dX12_copy_78 rfl ?_
                  refine mm_i2l 81 dX12_copy_80 rfl ?_
                  refine mm_ladd 82 dX12_copy_81 rfl ?_
                  refine mm_aload_0 83 dX12_copy_82 rfl ?_
                  refine mm_getR 86 dX12_copy_83 f_X12_13 rfl t_51 rfl ?_
                  refine mm_iload_1 87 dX12_copy_86 rfl ?_
                  refine mm_ialoadn 88 (s.toNatClampNeg) dX12_copy_87 rfl t_53 (by decide) (cs.1) (by omega) ?_
                  refine mm_i2l 89 dX12_copy_88 rfl ?_
                  refine mm_lcmp 90 dX12_copy_89 rfl ?_
                  refine mm_if_gt 111 93 dX12_copy_90 (by decide) rfl (fun h13 => ?_) (fun h13 => ?_)
                  · refine mm_aload_0 112 dX12_copy_111 rfl ?_
                    refine mm_iconst 113 2 dX12_copy_112 rfl (by decide) ?_
                    refine mm_cV1i 116 dX12_copy_113 v_X12_111 rfl t_51 (by decide) rfl rfl (Nat.le_of_ble_eq_true rfl) ⟨rfl, rfl⟩ ⟨Nat.zero_le _, Nat.zero_le _⟩ (c_X12_met (fun r14 e14 => ?_))
                    refine mm_iret dX12_copy_116 rfl ⟨rfl, Nat.zero_le _⟩ ?_
                    have o1 := ok _ cs.2.1
                    have o2 := ok _ ct.2.1
                    rw [hf.a 52] at h3
                    rw [hf.a 52] at h5
                    rw [hf.a 52] at h6
                    have nl : ¬ (B 52 s.toNatClampNeg = -1 ∨ B 52 t.toNatClampNeg = -1) := by (try simp only [Int32.lt_iff_toInt_lt, Int32.le_iff_toInt_le, ← Int32.toInt_inj, vp_in_iff, Int32.reduceToInt, mm_t1, mm_t2, mm_t3, mm_t4, mm_t10] at h3 h5 ⊢); omega
                    rw [hf.a 53] at h13
                    have cq : ck B s.toNatClampNeg t.toNatClampNeg i j n = 2 := by unfold ck; rw [if_neg nl, if_neg (fun q => q h6), if_neg (by (try simp only [lg_cmp_lt, lg_cmp_gt, lg_cmp_le, lg_cmp_ge] at h7 h9 h11 h13); (try simp only [Int32.lt_iff_toInt_lt, Int32.le_iff_toInt_le, ← Int32.toInt_inj, vp_in_iff, Int32.reduceToInt, mm_t1, mm_t2, mm_t3, mm_t4, mm_t10, Int64.lt_iff_toInt_lt, Int64.le_iff_toInt_le, Int64.reduceToInt, Int32.toInt_toInt64, l_add] at h7 h9 h11 h13 ⊢); omega)]
                    refine h _ _ ?_ ?_
                    · unfold z_copy
                      rw [if_pos (by omega), cq, if_neg (by decide)]
                      rw [e14]
                    · unfold co_r
                      rw [if_pos (by omega), cq, if_neg (by decide)]
                      exact hf.both _ _ _
                  · refine mm_iload_4 95 dX12_copy_93 rfl ?_
                    refine mm_i2l 96 dX12_copy_95 rfl ?_
                    refine mm_iload_5 98 dX12_copy_96 rfl ?_
                    refine mm_i2l 99 dX12_copy_98 rfl ?_
                    refine mm_ladd 100 dX12_copy_99 rfl ?_
                    refine mm_aload_0 101 dX12_copy_100 rfl ?_
                    refine mm_getR 104 dX12_copy_101 f_X12_13 rfl t_51 rfl ?_
                    refine mm_iload_3 105 dX12_copy_104 rfl ?_
                    refine mm_ialoadn 106 (t.toNatClampNeg) dX12_copy_105 rfl t_53 (by decide) (ct.1) (by omega) ?_
                    refine mm_i2l 107 dX12_copy_106 rfl ?_
                    refine mm_lcmp 108 dX12_copy_107 rfl ?_
                    refine mm_if_le 117 111 dX12_copy_108 (by decide) rfl (fun h15 => ?_) (fun h15 => ?_)
                    · refine mm_iconst 118 0 dX12_copy_117 rfl (by decide) ?_
                      refine mm_istore_6 120 dX12_copy_118 rfl rfl ?_
                      have o1 := ok _ cs.2.1
                      have o2 := ok _ ct.2.1
                      rw [hf.a 52] at h3
                      rw [hf.a 52] at h5
                      rw [hf.a 52] at h6
                      rw [hf.a 53] at h13
                      rw [hf.a 53] at h15
                      have nl : ¬ (B 52 s.toNatClampNeg = -1 ∨ B 52 t.toNatClampNeg = -1) := by (try simp only [Int32.lt_iff_toInt_lt, Int32.le_iff_toInt_le, ← Int32.toInt_inj, vp_in_iff, Int32.reduceToInt, mm_t1, mm_t2, mm_t3, mm_t4, mm_t10] at h3 h5 ⊢); omega
                      have sq : (0 ≤ i.toInt ∧ 0 ≤ n.toInt ∧ i.toInt + n.toInt ≤ (B 53 s.toNatClampNeg).toInt) ∧ 0 ≤ j.toInt ∧ 0 ≤ n.toInt ∧ j.toInt + n.toInt ≤ (B 53 t.toNatClampNeg).toInt := by (try simp only [lg_cmp_lt, lg_cmp_gt, lg_cmp_le, lg_cmp_ge] at h7 h9 h11 h13 h15); (try simp only [Int32.lt_iff_toInt_lt, Int32.le_iff_toInt_le, ← Int32.toInt_inj, vp_in_iff, Int32.reduceToInt, mm_t1, mm_t2, mm_t3, mm_t4, mm_t10, Int64.lt_iff_toInt_lt, Int64.le_iff_toInt_le, Int64.reduceToInt, Int32.toInt_toInt64, l_add] at h7 h9 h11 h13 h15 ⊢); omega
                      have ci := mm_cl2 (x := i) (n := 61) (by omega)
                      have cj := mm_cl2 (x := j) (n := 61) (by omega)
                      have cn := mm_cl2 (x := n) (n := 61) (by omega)
                      have cq : ck B s.toNatClampNeg t.toNatClampNeg i j n = 0 := by unfold ck; rw [if_neg nl, if_neg (fun q => q h6), if_pos sq]
                      refine mm_memo ?_ (w_X12_copy1 (M := M) cs ct ci cj cn (by omega) (by omega) (fun M1 hM => ?_) 60 0 (by omega) (by omega))
                      · rw [cpy_0, va_same]
                      · refine h _ _ ?_ ?_
                        · unfold z_copy
                          rw [if_pos (by omega), cq, if_pos rfl]
                        · unfold co_r
                          rw [if_pos (by omega), cq, if_pos rfl]
                          exact (hf.of (fun c hc => hM c (fun e => by rw [e] at hc; exact absurd hc (by decide))) (by rw [hM 51 (by decide)]) (by rw [hM 51 (by decide)]) (by rw [hM 51 (by decide)])).rowb (by rw [hf.a 54]) (by decide)
                    · refine mm_aload_0 112 dX12_copy_111 rfl ?_
                      refine mm_iconst 113 2 dX12_copy_112 rfl (by decide) ?_
                      refine mm_cV1i 116 dX12_copy_113 v_X12_111 rfl t_51 (by decide) rfl rfl (Nat.le_of_ble_eq_true rfl) ⟨rfl, rfl⟩ ⟨Nat.zero_le _, Nat.zero_le _⟩ (c_X12_met (fun r16 e16 => ?_))
                      refine mm_iret dX12_copy_116 rfl ⟨rfl, Nat.zero_le _⟩ ?_
                      have o1 := ok _ cs.2.1
                      have o2 := ok _ ct.2.1
                      rw [hf.a 52] at h3
                      rw [hf.a 52] at h5
                      rw [hf.a 52] at h6
                      have nl : ¬ (B 52 s.toNatClampNeg = -1 ∨ B 52 t.toNatClampNeg = -1) := by (try simp only [Int32.lt_iff_toInt_lt, Int32.le_iff_toInt_le, ← Int32.toInt_inj, vp_in_iff, Int32.reduceToInt, mm_t1, mm_t2, mm_t3, mm_t4, mm_t10] at h3 h5 ⊢); omega
                      rw [hf.a 53] at h13
                      rw [hf.a 53] at h15
                      have cq : ck B s.toNatClampNeg t.toNatClampNeg i j n = 2 := by unfold ck; rw [if_neg nl, if_neg (fun q => q h6), if_neg (by (try simp only [lg_cmp_lt, lg_cmp_gt, lg_cmp_le, lg_cmp_ge] at h7 h9 h11 h13 h15); (try simp only [Int32.lt_iff_toInt_lt, Int32.le_iff_toInt_le, ← Int32.toInt_inj, vp_in_iff, Int32.reduceToInt, mm_t1, mm_t2, mm_t3, mm_t4, mm_t10, Int64.lt_iff_toInt_lt, Int64.le_iff_toInt_le, Int64.reduceToInt, Int32.toInt_toInt64, l_add] at h7 h9 h11 h13 h15 ⊢); omega)]
                      refine h _ _ ?_ ?_
                      · unfold z_copy
                        rw [if_pos (by omega), cq, if_neg (by decide)]
                        rw [e16]
                      · unfold co_r
                        rw [if_pos (by omega), cq, if_neg (by decide)]
                        exact hf.both _ _ _
          · refine mm_aload_0 57 dX12_copy_56 rfl ?_
            refine mm_iconst 58 4 dX12_copy_57 rfl (by decide) ?_
            refine mm_cV1i 61 dX12_copy_58 v_X12_111 rfl t_51 (by decide) rfl rfl (Nat.le_of_ble_eq_true rfl) ⟨rfl, rfl⟩ ⟨Nat.zero_le _, Nat.zero_le _⟩ (c_X12_met (fun r17 e17 => ?_))
            refine mm_iret dX12_copy_61 rfl ⟨rfl, Nat.zero_le _⟩ ?_
            have o1 := ok _ cs.2.1
            have o2 := ok _ ct.2.1
            rw [hf.a 52] at h3
            rw [hf.a 52] at h5
            rw [hf.a 52] at h6
            have nl : ¬ (B 52 s.toNatClampNeg = -1 ∨ B 52 t.toNatClampNeg = -1) := by (try simp only [Int32.lt_iff_toInt_lt, Int32.le_iff_toInt_le, ← Int32.toInt_inj, vp_in_iff, Int32.reduceToInt, mm_t1, mm_t2, mm_t3, mm_t4, mm_t10] at h3 h5 ⊢); omega
            have cq : ck B s.toNatClampNeg t.toNatClampNeg i j n = 4 := by unfold ck; rw [if_neg nl, if_pos h6]
            refine h _ _ ?_ ?_
            · unfold z_copy
              rw [if_pos (by omega), cq, if_neg (by decide)]
              rw [e17]
            · unfold co_r
              rw [if_pos (by omega), cq, if_neg (by decide)]
              exact hf.both _ _ _
        · refine mm_aload_0 36 dX12_copy_35 rfl ?_
          refine mm_iconst 37 1 dX12_copy_36 rfl (by decide) ?_
          refine mm_cV1i 40 dX12_copy_37 v_X12_111 rfl t_51 (by decide) rfl rfl (Nat.le_of_ble_eq_true rfl) ⟨rfl, rfl⟩ ⟨Nat.zero_le _, Nat.zero_le _⟩ (c_X12_met (fun r18 e18 => ?_))
          refine mm_iret dX12_copy_40 rfl ⟨rfl, Nat.zero_le _⟩ ?_
          have o1 := ok _ cs.2.1
          have o2 := ok _ ct.2.1
          rw [hf.a 52] at h3
          rw [hf.a 52] at h5
          have cq : ck B s.toNatClampNeg t.toNatClampNeg i j n = 1 := by unfold ck; rw [if_pos (Or.inr (by (try simp only [Int32.lt_iff_toInt_lt, Int32.le_iff_toInt_le, ← Int32.toInt_inj, vp_in_iff, Int32.reduceToInt, mm_t1, mm_t2, mm_t3, mm_t4, mm_t10] at h5 ⊢); omega))]
          refine h _ _ ?_ ?_
          · unfold z_copy
            rw [if_pos (by omega), cq, if_neg (by decide)]
            rw [e18]
          · unfold co_r
            rw [if_pos (by omega), cq, if_neg (by decide)]
            exact hf.both _ _ _
    · refine mm_if_ne 17 14 dX12_copy_11 (by decide) rfl (fun h => absurd h (by decide)) (fun _ => ?_)
      refine mm_bipush 16 (-2) dX12_copy_14 rfl (by decide) ?_
      refine mm_iret dX12_copy_16 rfl ⟨rfl, Nat.zero_le _⟩ ?_
      refine h _ _ ?_ ?_
      · unfold z_copy
        rw [if_neg (by (try simp only [Int32.lt_iff_toInt_lt, Int32.le_iff_toInt_le, ← Int32.toInt_inj, vp_in_iff, Int32.reduceToInt, mm_t1, mm_t2, mm_t3, mm_t4, mm_t10] at h1 h2 ⊢); omega)]
      · unfold co_r
        rw [if_neg (by (try simp only [Int32.lt_iff_toInt_lt, Int32.le_iff_toInt_le, ← Int32.toInt_inj, vp_in_iff, Int32.reduceToInt, mm_t1, mm_t2, mm_t3, mm_t4, mm_t10] at h1 h2 ⊢); omega)]
        exact hf
  · refine mm_if_eq 14 7 dX12_copy_4 (by decide) rfl (fun _ => ?_) (fun h => absurd h (by decide))
    refine mm_bipush 16 (-2) dX12_copy_14 rfl (by decide) ?_
    refine mm_iret dX12_copy_16 rfl ⟨rfl, Nat.zero_le _⟩ ?_
    refine h _ _ ?_ ?_
    · unfold z_copy
      rw [if_neg (by (try simp only [Int32.lt_iff_toInt_lt, Int32.le_iff_toInt_le, ← Int32.toInt_inj, vp_in_iff, Int32.reduceToInt, mm_t1, mm_t2, mm_t3, mm_t4, mm_t10] at h1 ⊢); omega)]
    · unfold co_r
      rw [if_neg (by (try simp only [Int32.lt_iff_toInt_lt, Int32.le_iff_toInt_le, ← Int32.toInt_inj, vp_in_iff, Int32.reduceToInt, mm_t1, mm_t2, mm_t3, mm_t4, mm_t10] at h1 ⊢); omega)]
      exact hf

