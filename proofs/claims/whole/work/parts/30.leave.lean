/-! leave -/
def z_mt (A : mm_M) (p : Nat) : Int32 := zr A (-1) (a_ne A) 63 p
def z_mn (A : mm_M) (p : Nat) : Nat := (z_mt A p).toNatClampNeg
def z_w (A : mm_M) (p k : Nat) : Int32 := q_wh (a_b1 A) p k
def z_wb (A : mm_M) (a b : Nat) : Bool := decide ((z_w A a 0 = 0 ∧ z_w A b 0 = 1) ∧ (¬ z_mt A a = -1 ∧ ¬ z_mt A b = -1 ∧ ¬ z_mt A a = nI b) ∧ (z_w A a 1 - z_w A b 1 = 1 ∨ z_w A a 1 - z_w A b 1 = -1) ∧ (z_w A a 2).toInt < (z_w A (z_mn A b) 2).toInt ∧ (z_w A b 2).toInt < (z_w A (z_mn A a) 2).toInt)
def z_wl (A : mm_M) (a b : Nat) : Prop := (z_w A a 0 = 0 ∧ z_w A b 0 = 1) ∧ (¬ z_mt A a = -1 ∧ ¬ z_mt A b = -1 ∧ ¬ z_mt A a = nI b) ∧ (z_w A a 1 - z_w A b 1 = 1 ∨ z_w A a 1 - z_w A b 1 = -1) ∧ (z_w A a 2).toInt < (z_w A (z_mn A b) 2).toInt ∧ (z_w A b 2).toInt < (z_w A (z_mn A a) 2).toInt
theorem z_wb_iff {A : mm_M} {a b : Nat} : z_wb A a b = true ↔ z_wl A a b := decide_eq_true_iff
def cnt (f : Nat → Bool) : Nat → Nat
  | 0 => 0
  | k + 1 => if f k = true then cnt f k + 1 else cnt f k
def cn2 (f : Nat → Nat → Bool) (n : Nat) : Nat → Nat
  | 0 => 0
  | a + 1 => cn2 f n a + cnt (f a) n
theorem cnt_t {f : Nat → Bool} {k : Nat} (h : f k = true) : cnt f (k + 1) = cnt f k + 1 := by show (if _ then _ else _) = _; rw [if_pos h]
theorem cnt_f {f : Nat → Bool} {k : Nat} (h : ¬ f k = true) : cnt f (k + 1) = cnt f k := by show (if _ then _ else _) = _; rw [if_neg h]
def z_leave (A : mm_M) : Int32 := nI (cn2 (z_wb A) (a_np A) (a_np A))
theorem zr_mate {A : mm_M} (hi : iv A) {p : Nat} (hp : p < a_np A) (h : ¬ z_mt A p = -1) : z_mt A p = nI (z_mn A p) ∧ z_mn A p < a_np A := by
  obtain ⟨q, hq, e⟩ := ((zr_c hi (M := A) (y := -1) (fun _ _ => rfl) (Nat.le_refl _)).2.2.1 p hp h).1
  have n12 := hi.1.np
  have e' : z_mt A p = nI q := e
  have c : z_mn A p = q := by unfold z_mn; rw [e', mm_cn (by omega)]
  exact ⟨by rw [c]; exact e', by omega⟩

set_option maxHeartbeats 4000000 in
theorem c_X12_wouldLeave {l : Launch} {G : mm_G} {d : Nat} {M : mm_M} {Q : Int32 → mm_T → mm_M → Prop} {A : mm_M} (hi : iv A) (hx : r_x A M) (hw : e_w A M (zr A (-1) (a_ne A))) {x y : Int32} {a b : Nat} (hxa : x = nI a) (ha : a < a_np A) (hyb : y = nI b) (hb : b < a_np A) (ht : z_wl A a b → Q 1 T0 M) (hn : ¬ z_wl A a b → Q 0 T0 M) : mm_met l G d k_X12_wouldLeave [.ref 51, .int x, .int y] T0 M (mm_pi Q) := by
  have n6 := hi.1.nl
  have n12 := hi.1.np
  have n24 := hi.1.ne.2
  subst hxa
  subst hyb
  have xa : (nI a).toInt = a := mm_ti (by omega)
  have fa : M 59 (4 * a) = z_w A a 0 := hx.2.2.2.2 a 0 ha (by decide)
  have fb : M 59 (4 * b) = z_w A b 0 := hx.2.2.2.2 b 0 hb (by decide)
  have ga : M 59 (4 * a + 1) = z_w A a 1 := hx.2.2.2.2 a 1 ha (by decide)
  have gb : M 59 (4 * b + 1) = z_w A b 1 := hx.2.2.2.2 b 1 hb (by decide)
  have ka : M 59 (4 * a + 2) = z_w A a 2 := hx.2.2.2.2 a 2 ha (by decide)
  have kb : M 59 (4 * b + 2) = z_w A b 2 := hx.2.2.2.2 b 2 hb (by decide)
  have ma : M 63 a = z_mt A a := (hw.2.1 a ha).1
  have mb : M 63 b = z_mt A b := (hw.2.1 b hb).1
  have nb : (nI b).toInt = b := mm_ti (by omega)
  refine mm_enter 2 [.ref 51, .int (nI a), .int (nI b), .double 0, .double 0] o_X12_wouldLeave rfl rfl ?_
  refine mm_aload_0 1 dX12_wouldLeave_0 rfl ?_
  refine mm_getR 4 dX12_wouldLeave_1 f_X12_31 rfl t_51 rfl ?_
  refine mm_iconst 5 4 dX12_wouldLeave_4 rfl (by decide) ?_
  refine mm_iload_1 6 dX12_wouldLeave_5 rfl ?_
  refine mm_imul 7 dX12_wouldLeave_6 rfl ?_
  refine mm_ialoadn 8 (4 * a) dX12_wouldLeave_7 rfl t_59 (by decide) (by rw [mm_l4, pk_mul]) (by omega) ?_
  refine mm_if_ne 53 11 dX12_wouldLeave_8 (by decide) rfl (fun h1 => ?_) (fun h1 => ?_)
  · refine mm_iconst 54 0 dX12_wouldLeave_53 rfl (by decide) ?_
    refine mm_zret dX12_wouldLeave_54 rfl ⟨rfl, Nat.zero_le _⟩ (Or.inl rfl) ?_
    refine hn (fun q => ?_)
    obtain ⟨⟨q1, q2⟩, ⟨q3, q4, q5⟩, q6, q7, q8⟩ := q
    simp only [fa, fb, ga, gb, ka, kb, ma, mb, Int32.lt_iff_toInt_lt, Int32.le_iff_toInt_le, ← Int32.toInt_inj, vp_in_iff, Int32.reduceToInt, mm_t1, mm_t2, mm_t3, mm_t4, mm_t10] at h1 q1 q2 q3 q4 q5 q6 q7 q8
    omega
  · refine mm_aload_0 12 dX12_wouldLeave_11 rfl ?_
    refine mm_getR 15 dX12_wouldLeave_12 f_X12_31 rfl t_51 rfl ?_
    refine mm_iconst 16 4 dX12_wouldLeave_15 rfl (by decide) ?_
    refine mm_iload_2 17 dX12_wouldLeave_16 rfl ?_
    refine mm_imul 18 dX12_wouldLeave_17 rfl ?_
    refine mm_ialoadn 19 (4 * b) dX12_wouldLeave_18 rfl t_59 (by decide) (by rw [mm_l4, pk_mul]) (by omega) ?_
    refine mm_iconst 20 1 dX12_wouldLeave_19 rfl (by decide) ?_
    refine mm_ic_ne 53 23 dX12_wouldLeave_20 (by decide) rfl (fun h2 => ?_) (fun h2 => ?_)
    · refine mm_iconst 54 0 dX12_wouldLeave_53 rfl (by decide) ?_
      refine mm_zret dX12_wouldLeave_54 rfl ⟨rfl, Nat.zero_le _⟩ (Or.inl rfl) ?_
      refine hn (fun q => ?_)
      obtain ⟨⟨q1, q2⟩, ⟨q3, q4, q5⟩, q6, q7, q8⟩ := q
      simp only [fa, fb, ga, gb, ka, kb, ma, mb, Int32.lt_iff_toInt_lt, Int32.le_iff_toInt_le, ← Int32.toInt_inj, vp_in_iff, Int32.reduceToInt, mm_t1, mm_t2, mm_t3, mm_t4, mm_t10] at h1 h2 q1 q2 q3 q4 q5 q6 q7 q8
      omega
    · refine mm_aload_0 24 dX12_wouldLeave_23 rfl ?_
      refine mm_getR 27 dX12_wouldLeave_24 f_X12_43 rfl t_51 rfl ?_
      refine mm_iload_1 28 dX12_wouldLeave_27 rfl ?_
      refine mm_ialoadn 29 (a) dX12_wouldLeave_28 rfl t_63 (by decide) (rfl) (by omega) ?_
      refine mm_iconst 30 (-1) dX12_wouldLeave_29 rfl (by decide) ?_
      refine mm_ic_eq 53 33 dX12_wouldLeave_30 (by decide) rfl (fun h3 => ?_) (fun h3 => ?_)
      · refine mm_iconst 54 0 dX12_wouldLeave_53 rfl (by decide) ?_
        refine mm_zret dX12_wouldLeave_54 rfl ⟨rfl, Nat.zero_le _⟩ (Or.inl rfl) ?_
        refine hn (fun q => ?_)
        obtain ⟨⟨q1, q2⟩, ⟨q3, q4, q5⟩, q6, q7, q8⟩ := q
        simp only [fa, fb, ga, gb, ka, kb, ma, mb, Int32.lt_iff_toInt_lt, Int32.le_iff_toInt_le, ← Int32.toInt_inj, vp_in_iff, Int32.reduceToInt, mm_t1, mm_t2, mm_t3, mm_t4, mm_t10] at h1 h2 h3 q1 q2 q3 q4 q5 q6 q7 q8
        omega
      · refine mm_aload_0 34 dX12_wouldLeave_33 rfl ?_
        refine mm_getR 37 dX12_wouldLeave_34 f_X12_43 rfl t_51 rfl ?_
        refine mm_iload_2 38 dX12_wouldLeave_37 rfl ?_
        refine mm_ialoadn 39 (b) dX12_wouldLeave_38 rfl t_63 (by decide) (rfl) (by omega) ?_
        refine mm_iconst 40 (-1) dX12_wouldLeave_39 rfl (by decide) ?_
        refine mm_ic_eq 53 43 dX12_wouldLeave_40 (by decide) rfl (fun h4 => ?_) (fun h4 => ?_)
        · refine mm_iconst 54 0 dX12_wouldLeave_53 rfl (by decide) ?_
          refine mm_zret dX12_wouldLeave_54 rfl ⟨rfl, Nat.zero_le _⟩ (Or.inl rfl) ?_
          refine hn (fun q => ?_)
          obtain ⟨⟨q1, q2⟩, ⟨q3, q4, q5⟩, q6, q7, q8⟩ := q
          simp only [fa, fb, ga, gb, ka, kb, ma, mb, Int32.lt_iff_toInt_lt, Int32.le_iff_toInt_le, ← Int32.toInt_inj, vp_in_iff, Int32.reduceToInt, mm_t1, mm_t2, mm_t3, mm_t4, mm_t10] at h1 h2 h3 h4 q1 q2 q3 q4 q5 q6 q7 q8
          omega
        · refine mm_aload_0 44 dX12_wouldLeave_43 rfl ?_
          refine mm_getR 47 dX12_wouldLeave_44 f_X12_43 rfl t_51 rfl ?_
          refine mm_iload_1 48 dX12_wouldLeave_47 rfl ?_
          refine mm_ialoadn 49 (a) dX12_wouldLeave_48 rfl t_63 (by decide) (rfl) (by omega) ?_
          refine mm_iload_2 50 dX12_wouldLeave_49 rfl ?_
          refine mm_ic_ne 55 53 dX12_wouldLeave_50 (by decide) rfl (fun h5 => ?_) (fun h5 => ?_)
          · refine mm_aload_0 56 dX12_wouldLeave_55 rfl ?_
            refine mm_getR 59 dX12_wouldLeave_56 f_X12_31 rfl t_51 rfl ?_
            refine mm_iconst 60 4 dX12_wouldLeave_59 rfl (by decide) ?_
            refine mm_iload_1 61 dX12_wouldLeave_60 rfl ?_
            refine mm_imul 62 dX12_wouldLeave_61 rfl ?_
            refine mm_iconst 63 1 dX12_wouldLeave_62 rfl (by decide) ?_
            refine mm_iadd 64 dX12_wouldLeave_63 rfl ?_
            refine mm_ialoadn 65 (4 * a + 1) dX12_wouldLeave_64 rfl t_59 (by decide) (by rw [mm_l4, pk_mul, mm_l1, nI_add]) (by omega) ?_
            refine mm_aload_0 66 dX12_wouldLeave_65 rfl ?_
            refine mm_getR 69 dX12_wouldLeave_66 f_X12_31 rfl t_51 rfl ?_
            refine mm_iconst 70 4 dX12_wouldLeave_69 rfl (by decide) ?_
            refine mm_iload_2 71 dX12_wouldLeave_70 rfl ?_
            refine mm_imul 72 dX12_wouldLeave_71 rfl ?_
            refine mm_iconst 73 1 dX12_wouldLeave_72 rfl (by decide) ?_
            refine mm_iadd 74 dX12_wouldLeave_73 rfl ?_
            refine mm_ialoadn 75 (4 * b + 1) dX12_wouldLeave_74 rfl t_59 (by decide) (by rw [mm_l4, pk_mul, mm_l1, nI_add]) (by omega) ?_
            refine mm_isub 76 dX12_wouldLeave_75 rfl ?_
            refine mm_istore_3 77 dX12_wouldLeave_76 rfl rfl ?_
            refine mm_iload_3 78 dX12_wouldLeave_77 rfl ?_
            refine mm_iconst 79 1 dX12_wouldLeave_78 rfl (by decide) ?_
            refine mm_ic_eq 87 82 dX12_wouldLeave_79 (by decide) rfl (fun h6 => ?_) (fun h6 => ?_)
            · refine mm_iconst 88 1 dX12_wouldLeave_87 rfl (by decide) ?_
              refine mm_goto 92 dX12_wouldLeave_88 (by decide) ?_
              refine mm_istore_4 94 dX12_wouldLeave_92 rfl rfl ?_
              refine mm_iload_4 96 dX12_wouldLeave_94 rfl ?_
              refine mm_if_eq 159 99 dX12_wouldLeave_96 (by decide) rfl (fun h => absurd h (by decide)) (fun _ => ?_)
              have mA := zr_mate hi ha (by rw [← ma]; exact h3)
              have mB := zr_mate hi hb (by rw [← mb]; exact h4)
              have jb : M 59 (4 * z_mn A b + 2) = z_w A (z_mn A b) 2 := hx.2.2.2.2 _ 2 mB.2 (by decide)
              have ja : M 59 (4 * z_mn A a + 2) = z_w A (z_mn A a) 2 := hx.2.2.2.2 _ 2 mA.2 (by decide)
              refine mm_aload_0 100 dX12_wouldLeave_99 rfl ?_
              refine mm_getR 103 dX12_wouldLeave_100 f_X12_31 rfl t_51 rfl ?_
              refine mm_iconst 104 4 dX12_wouldLeave_103 rfl (by decide) ?_
              refine mm_iload_1 105 dX12_wouldLeave_104 rfl ?_
              refine mm_imul 106 dX12_wouldLeave_105 rfl ?_
              refine mm_iconst 107 2 dX12_wouldLeave_106 rfl (by decide) ?_
              refine mm_iadd 108 dX12_wouldLeave_107 rfl ?_
              refine mm_ialoadn 109 (4 * a + 2) dX12_wouldLeave_108 rfl t_59 (by decide) (by rw [mm_l4, pk_mul, mm_l2, nI_add]) (by omega) ?_
              refine mm_aload_0 110 dX12_wouldLeave_109 rfl ?_
              refine mm_getR 113 dX12_wouldLeave_110 f_X12_31 rfl t_51 rfl ?_
              refine mm_iconst 114 4 dX12_wouldLeave_113 rfl (by decide) ?_
              refine mm_aload_0 115 dX12_wouldLeave_114 rfl ?_
              refine mm_getR 118 dX12_wouldLeave_115 f_X12_43 rfl t_51 rfl ?_
              refine mm_iload_2 119 dX12_wouldLeave_118 rfl ?_
              refine mm_ialoadn 120 (b) dX12_wouldLeave_119 rfl t_63 (by decide) (rfl) (by omega) ?_
              refine mm_imul 121 dX12_wouldLeave_120 rfl ?_
              refine mm_iconst 122 2 dX12_wouldLeave_121 rfl (by decide) ?_
              refine mm_iadd 123 dX12_wouldLeave_122 rfl ?_
              refine mm_ialoadn 124 (4 * z_mn A b + 2) dX12_wouldLeave_123 rfl t_59 (by decide) (by rw [mb, mB.1, mm_l4, pk_mul, mm_l2, nI_add]) (by omega) ?_
              refine mm_ic_ge 159 127 dX12_wouldLeave_124 (by decide) rfl (fun h7 => ?_) (fun h7 => ?_)
              · refine mm_iconst 160 0 dX12_wouldLeave_159 rfl (by decide) ?_
                refine mm_zret dX12_wouldLeave_160 rfl ⟨rfl, Nat.zero_le _⟩ (Or.inl rfl) ?_
                refine hn (fun q => ?_)
                obtain ⟨⟨q1, q2⟩, ⟨q3, q4, q5⟩, q6, q7, q8⟩ := q
                simp only [fa, fb, ga, gb, ka, kb, ma, mb, jb, Int32.lt_iff_toInt_lt, Int32.le_iff_toInt_le, ← Int32.toInt_inj, vp_in_iff, Int32.reduceToInt, mm_t1, mm_t2, mm_t3, mm_t4, mm_t10] at h1 h2 h3 h4 h5 h6 h7 q1 q2 q3 q4 q5 q6 q7 q8
                omega
              · refine mm_aload_0 128 dX12_wouldLeave_127 rfl ?_
                refine mm_getR 131 dX12_wouldLeave_128 f_X12_31 rfl t_51 rfl ?_
                refine mm_iconst 132 4 dX12_wouldLeave_131 rfl (by decide) ?_
                refine mm_iload_2 133 dX12_wouldLeave_132 rfl ?_
                refine mm_imul 134 dX12_wouldLeave_133 rfl ?_
                refine mm_iconst 135 2 dX12_wouldLeave_134 rfl (by decide) ?_
                refine mm_iadd 136 dX12_wouldLeave_135 rfl ?_
                refine mm_ialoadn 137 (4 * b + 2) dX12_wouldLeave_136 rfl t_59 (by decide) (by rw [mm_l4, pk_mul, mm_l2, nI_add]) (by omega) ?_
                refine mm_aload_0 138 dX12_wouldLeave_137 rfl ?_
                refine mm_getR 141 dX12_wouldLeave_138 f_X12_31 rfl t_51 rfl ?_
                refine mm_iconst 142 4 dX12_wouldLeave_141 rfl (by decide) ?_
                refine mm_aload_0 143 dX12_wouldLeave_142 rfl ?_
                refine mm_getR 146 dX12_wouldLeave_143 f_X12_43 rfl t_51 rfl ?_
                refine mm_iload_1 147 dX12_wouldLeave_146 rfl ?_
                refine mm_ialoadn 148 (a) dX12_wouldLeave_147 rfl t_63 (by decide) (rfl) (by omega) ?_
                refine mm_imul 149 dX12_wouldLeave_148 rfl ?_
                refine mm_iconst 150 2 dX12_wouldLeave_149 rfl (by decide) ?_
                refine mm_iadd 151 dX12_wouldLeave_150 rfl ?_
                refine mm_ialoadn 152 (4 * z_mn A a + 2) dX12_wouldLeave_151 rfl t_59 (by decide) (by rw [ma, mA.1, mm_l4, pk_mul, mm_l2, nI_add]) (by omega) ?_
                refine mm_ic_ge 159 155 dX12_wouldLeave_152 (by decide) rfl (fun h8 => ?_) (fun h8 => ?_)
                · refine mm_iconst 160 0 dX12_wouldLeave_159 rfl (by decide) ?_
                  refine mm_zret dX12_wouldLeave_160 rfl ⟨rfl, Nat.zero_le _⟩ (Or.inl rfl) ?_
                  refine hn (fun q => ?_)
                  obtain ⟨⟨q1, q2⟩, ⟨q3, q4, q5⟩, q6, q7, q8⟩ := q
                  simp only [fa, fb, ga, gb, ka, kb, ma, mb, jb, ja, Int32.lt_iff_toInt_lt, Int32.le_iff_toInt_le, ← Int32.toInt_inj, vp_in_iff, Int32.reduceToInt, mm_t1, mm_t2, mm_t3, mm_t4, mm_t10] at h1 h2 h3 h4 h5 h6 h7 h8 q1 q2 q3 q4 q5 q6 q7 q8
                  omega
                · refine mm_iconst 156 1 dX12_wouldLeave_155 rfl (by decide) ?_
                  refine mm_goto 160 dX12_wouldLeave_156 (by decide) ?_
                  refine mm_zret dX12_wouldLeave_160 rfl ⟨rfl, Nat.zero_le _⟩ (Or.inr rfl) ?_
                  refine ht ?_
                  unfold z_wl
                  simp only [fa, fb, ga, gb, ka, kb, ma, mb, jb, ja, Int32.lt_iff_toInt_lt, Int32.le_iff_toInt_le, ← Int32.toInt_inj, vp_in_iff, Int32.reduceToInt, mm_t1, mm_t2, mm_t3, mm_t4, mm_t10] at h1 h2 h3 h4 h5 h6 h7 h8 ⊢
                  omega
            · refine mm_iload_3 83 dX12_wouldLeave_82 rfl ?_
              refine mm_iconst 84 (-1) dX12_wouldLeave_83 rfl (by decide) ?_
              refine mm_ic_ne 91 87 dX12_wouldLeave_84 (by decide) rfl (fun h9 => ?_) (fun h9 => ?_)
              · refine mm_iconst 92 0 dX12_wouldLeave_91 rfl (by decide) ?_
                refine mm_istore_4 94 dX12_wouldLeave_92 rfl rfl ?_
                refine mm_iload_4 96 dX12_wouldLeave_94 rfl ?_
                refine mm_if_eq 159 99 dX12_wouldLeave_96 (by decide) rfl (fun _ => ?_) (fun h => absurd h (by decide))
                refine mm_iconst 160 0 dX12_wouldLeave_159 rfl (by decide) ?_
                refine mm_zret dX12_wouldLeave_160 rfl ⟨rfl, Nat.zero_le _⟩ (Or.inl rfl) ?_
                refine hn (fun q => ?_)
                obtain ⟨⟨q1, q2⟩, ⟨q3, q4, q5⟩, q6, q7, q8⟩ := q
                simp only [fa, fb, ga, gb, ka, kb, ma, mb, Int32.lt_iff_toInt_lt, Int32.le_iff_toInt_le, ← Int32.toInt_inj, vp_in_iff, Int32.reduceToInt, mm_t1, mm_t2, mm_t3, mm_t4, mm_t10] at h1 h2 h3 h4 h5 h6 h9 q1 q2 q3 q4 q5 q6 q7 q8
                omega
              · refine mm_iconst 88 1 dX12_wouldLeave_87 rfl (by decide) ?_
                refine mm_goto 92 dX12_wouldLeave_88 (by decide) ?_
                refine mm_istore_4 94 dX12_wouldLeave_92 rfl rfl ?_
                refine mm_iload_4 96 dX12_wouldLeave_94 rfl ?_
                refine mm_if_eq 159 99 dX12_wouldLeave_96 (by decide) rfl (fun h => absurd h (by decide)) (fun _ => ?_)
                have mA := zr_mate hi ha (by rw [← ma]; exact h3)
                have mB := zr_mate hi hb (by rw [← mb]; exact h4)
                have jb : M 59 (4 * z_mn A b + 2) = z_w A (z_mn A b) 2 := hx.2.2.2.2 _ 2 mB.2 (by decide)
                have ja : M 59 (4 * z_mn A a + 2) = z_w A (z_mn A a) 2 := hx.2.2.2.2 _ 2 mA.2 (by decide)
                refine mm_aload_0 100 dX12_wouldLeave_99 rfl ?_
                refine mm_getR 103 dX12_wouldLeave_100 f_X12_31 rfl t_51 rfl ?_
                refine mm_iconst 104 4 dX12_wouldLeave_103 rfl (by decide) ?_
                refine mm_iload_1 105 dX12_wouldLeave_104 rfl ?_
                refine mm_imul 106 dX12_wouldLeave_105 rfl ?_
                refine mm_iconst 107 2 dX12_wouldLeave_106 rfl (by decide) ?_
                refine mm_iadd 108 dX12_wouldLeave_107 rfl ?_
                refine mm_ialoadn 109 (4 * a + 2) dX12_wouldLeave_108 rfl t_59 (by decide) (by rw [mm_l4, pk_mul, mm_l2, nI_add]) (by omega) ?_
                refine mm_aload_0 110 dX12_wouldLeave_109 rfl ?_
                refine mm_getR 113 dX12_wouldLeave_110 f_X12_31 rfl t_51 rfl ?_
                refine mm_iconst 114 4 dX12_wouldLeave_113 rfl (by decide) ?_
                refine mm_aload_0 115 dX12_wouldLeave_114 rfl ?_
                refine mm_getR 118 dX12_wouldLeave_115 f_X12_43 rfl t_51 rfl ?_
                refine mm_iload_2 119 dX12_wouldLeave_118 rfl ?_
                refine mm_ialoadn 120 (b) dX12_wouldLeave_119 rfl t_63 (by decide) (rfl) (by omega) ?_
                refine mm_imul 121 dX12_wouldLeave_120 rfl ?_
                refine mm_iconst 122 2 dX12_wouldLeave_121 rfl (by decide) ?_
                refine mm_iadd 123 dX12_wouldLeave_122 rfl ?_
                refine mm_ialoadn 124 (4 * z_mn A b + 2) dX12_wouldLeave_123 rfl t_59 (by decide) (by rw [mb, mB.1, mm_l4, pk_mul, mm_l2, nI_add]) (by omega) ?_
                refine mm_ic_ge 159 127 dX12_wouldLeave_124 (by decide) rfl (fun h10 => ?_) (fun h10 => ?_)
                · refine mm_iconst 160 0 dX12_wouldLeave_159 rfl (by decide) ?_
                  refine mm_zret dX12_wouldLeave_160 rfl ⟨rfl, Nat.zero_le _⟩ (Or.inl rfl) ?_
                  refine hn (fun q => ?_)
                  obtain ⟨⟨q1, q2⟩, ⟨q3, q4, q5⟩, q6, q7, q8⟩ := q
                  simp only [fa, fb, ga, gb, ka, kb, ma, mb, jb, Int32.lt_iff_toInt_lt, Int32.le_iff_toInt_le, ← Int32.toInt_inj, vp_in_iff, Int32.reduceToInt, mm_t1, mm_t2, mm_t3, mm_t4, mm_t10] at h1 h2 h3 h4 h5 h6 h9 h10 q1 q2 q3 q4 q5 q6 q7 q8
                  omega
                · refine mm_aload_0 128 dX12_wouldLeave_127 rfl ?_
                  refine mm_getR 131 dX12_wouldLeave_128 f_X12_31 rfl t_51 rfl ?_
                  refine mm_iconst 132 4 dX12_wouldLeave_131 rfl (by decide) ?_
                  refine mm_iload_2 133 dX12_wouldLeave_132 rfl ?_
                  refine mm_imul 134 dX12_wouldLeave_133 rfl ?_
                  refine mm_iconst 135 2 dX12_wouldLeave_134 rfl (by decide) ?_
                  refine mm_iadd 136 dX12_wouldLeave_135 rfl ?_
                  refine mm_ialoadn 137 (4 * b + 2) dX12_wouldLeave_136 rfl t_59 (by decide) (by rw [mm_l4, pk_mul, mm_l2, nI_add]) (by omega) ?_
                  refine mm_aload_0 138 dX12_wouldLeave_137 rfl ?_
                  refine mm_getR 141 dX12_wouldLeave_138 f_X12_31 rfl t_51 rfl ?_
                  refine mm_iconst 142 4 dX12_wouldLeave_141 rfl (by decide) ?_
                  refine mm_aload_0 143 dX12_wouldLeave_142 rfl ?_
                  refine mm_getR 146 dX12_wouldLeave_143 f_X12_43 rfl t_51 rfl ?_
                  refine mm_iload_1 147 dX12_wouldLeave_146 rfl ?_
                  refine mm_ialoadn 148 (a) dX12_wouldLeave_147 rfl t_63 (by decide) (rfl) (by omega) ?_
                  refine mm_imul 149 dX12_wouldLeave_148 rfl ?_
                  refine mm_iconst 150 2 dX12_wouldLeave_149 rfl (by decide) ?_
                  refine mm_iadd 151 dX12_wouldLeave_150 rfl ?_
                  refine mm_ialoadn 152 (4 * z_mn A a + 2) dX12_wouldLeave_151 rfl t_59 (by decide) (by rw [ma, mA.1, mm_l4, pk_mul, mm_l2, nI_add]) (by omega) ?_
                  refine mm_ic_ge 159 155 dX12_wouldLeave_152 (by decide) rfl (fun h11 => ?_) (fun h11 => ?_)
                  · refine mm_iconst 160 0 dX12_wouldLeave_159 rfl (by decide) ?_
                    refine mm_zret dX12_wouldLeave_160 rfl ⟨rfl, Nat.zero_le _⟩ (Or.inl rfl) ?_
                    refine hn (fun q => ?_)
                    obtain ⟨⟨q1, q2⟩, ⟨q3, q4, q5⟩, q6, q7, q8⟩ := q
                    simp only [fa, fb, ga, gb, ka, kb, ma, mb, jb, ja, Int32.lt_iff_toInt_lt, Int32.le_iff_toInt_le, ← Int32.toInt_inj, vp_in_iff, Int32.reduceToInt, mm_t1, mm_t2, mm_t3, mm_t4, mm_t10] at h1 h2 h3 h4 h5 h6 h9 h10 h11 q1 q2 q3 q4 q5 q6 q7 q8
                    omega
                  · refine mm_iconst 156 1 dX12_wouldLeave_155 rfl (by decide) ?_
                    refine mm_goto 160 dX12_wouldLeave_156 (by decide) ?_
                    refine mm_zret dX12_wouldLeave_160 rfl ⟨rfl, Nat.zero_le _⟩ (Or.inr rfl) ?_
                    refine ht ?_
                    unfold z_wl
                    simp only [fa, fb, ga, gb, ka, kb, ma, mb, jb, ja, Int32.lt_iff_toInt_lt, Int32.le_iff_toInt_le, ← Int32.toInt_inj, vp_in_iff, Int32.reduceToInt, mm_t1, mm_t2, mm_t3, mm_t4, mm_t10] at h1 h2 h3 h4 h5 h6 h9 h10 h11 ⊢
                    omega
          · refine mm_iconst 54 0 dX12_wouldLeave_53 rfl (by decide) ?_
            refine mm_zret dX12_wouldLeave_54 rfl ⟨rfl, Nat.zero_le _⟩ (Or.inl rfl) ?_
            refine hn (fun q => ?_)
            obtain ⟨⟨q1, q2⟩, ⟨q3, q4, q5⟩, q6, q7, q8⟩ := q
            simp only [fa, fb, ga, gb, ka, kb, ma, mb, Int32.lt_iff_toInt_lt, Int32.le_iff_toInt_le, ← Int32.toInt_inj, vp_in_iff, Int32.reduceToInt, mm_t1, mm_t2, mm_t3, mm_t4, mm_t10] at h1 h2 h3 h4 h5 q1 q2 q3 q4 q5 q6 q7 q8
            omega

set_option maxHeartbeats 4000000 in
theorem w_X12_leave2 {l : Launch} {G : mm_G} {d : Nat} {Mi : mm_M} {Q : Int32 → mm_T → mm_M → Prop} {A : mm_M} (hi : iv A) (hq : r_x A Mi) (hqw : e_w A Mi (zr A (-1) (a_ne A))) {a : Nat} (ha : a < a_np A) (h : mm_wp l G (d + 5) k_X12_leaveNow (mm_pi Q) 8 [.ref 51, .int (nI (cn2 (z_wb A) (a_np A) (a + 1))), .int (nI (a + 1)), .int (nI (a_np A))] [] T0 Mi 0 0) : ∀ (z b : Nat), a_np A - b ≤ z → b ≤ a_np A → mm_wp l G (d + 5) k_X12_leaveNow (mm_pi Q) 18 [.ref 51, .int (nI (cn2 (z_wb A) (a_np A) a + cnt (z_wb A a) b)), .int (nI a), .int (nI b)] [] T0 Mi 0 0 := by
  have n6 := hi.1.nl
  have n12 := hi.1.np
  have n24 := hi.1.ne.2
  intro z
  induction z using Nat.strongRecOn with | _ z ih => ?_
  intro b hze hbn
  have hbi : (nI b).toInt = b := mm_ti (by omega)
  have hni : (nI (a_np A)).toInt = a_np A := mm_ti (by omega)
  refine mm_iload_3 19 dX12_leaveNow_18 rfl ?_
  refine mm_aload_0 20 dX12_leaveNow_19 rfl ?_
  refine mm_getI 23 dX12_leaveNow_20 f_X12_144 rfl t_51 rfl ?_
  rw [hq.2.2.2.1]
  refine mm_ic_ge 49 26 dX12_leaveNow_23 (by decide) rfl (fun h1 => ?_) (fun h1 => ?_)
  · refine mm_iinc_2 52 1 dX12_leaveNow_49 rfl (by decide) rfl ?_
    refine mm_goto 8 dX12_leaveNow_52 (by decide) ?_
    have hz : b = a_np A := by (try simp only [hbi, hni, Int32.lt_iff_toInt_lt, Int32.le_iff_toInt_le, ← Int32.toInt_inj, vp_in_iff, Int32.reduceToInt, mm_t1, mm_t2, mm_t3, mm_t4, mm_t10] at h1); omega
    rw [nI_1, hz]
    exact h
  · have hlt : b < a_np A := by (try simp only [hbi, hni, Int32.lt_iff_toInt_lt, Int32.le_iff_toInt_le, ← Int32.toInt_inj, vp_in_iff, Int32.reduceToInt, mm_t1, mm_t2, mm_t3, mm_t4, mm_t10] at h1); omega
    refine mm_iload_1 27 dX12_leaveNow_26 rfl ?_
    refine mm_aload_0 28 dX12_leaveNow_27 rfl ?_
    refine mm_iload_2 29 dX12_leaveNow_28 rfl ?_
    refine mm_iload_3 30 dX12_leaveNow_29 rfl ?_
    refine mm_cV2i 33 dX12_leaveNow_30 v_X12_283 rfl t_51 (by decide) rfl rfl (Nat.le_of_ble_eq_true rfl) ⟨rfl, rfl⟩ ⟨Nat.zero_le _, Nat.zero_le _⟩ (c_X12_wouldLeave hi hq hqw rfl ha rfl hlt (fun h2 => ?_) (fun h2 => ?_))
    · refine mm_if_eq 40 36 dX12_leaveNow_33 (by decide) rfl (fun h => absurd h (by decide)) (fun _ => ?_)
      refine mm_iconst 37 1 dX12_leaveNow_36 rfl (by decide) ?_
      refine mm_goto 41 dX12_leaveNow_37 (by decide) ?_
      refine mm_iadd 42 dX12_leaveNow_41 rfl ?_
      refine mm_istore_1 43 dX12_leaveNow_42 rfl rfl ?_
      refine mm_iinc_3 46 1 dX12_leaveNow_43 rfl (by decide) rfl ?_
      refine mm_goto 18 dX12_leaveNow_46 (by decide) ?_
      rw [nI_1, nI_1]
      have hh := ih (a_np A - (b + 1)) (by omega) (b + 1) (Nat.le_refl _) (by omega)
      rw [cnt_t (by rw [z_wb_iff]; exact h2)] at hh
      exact hh
    · refine mm_if_eq 40 36 dX12_leaveNow_33 (by decide) rfl (fun _ => ?_) (fun h => absurd h (by decide))
      refine mm_iconst 41 0 dX12_leaveNow_40 rfl (by decide) ?_
      refine mm_iadd 42 dX12_leaveNow_41 rfl ?_
      refine mm_istore_1 43 dX12_leaveNow_42 rfl rfl ?_
      refine mm_iinc_3 46 1 dX12_leaveNow_43 rfl (by decide) rfl ?_
      refine mm_goto 18 dX12_leaveNow_46 (by decide) ?_
      rw [nI_1, Int32.add_zero]
      have hh := ih (a_np A - (b + 1)) (by omega) (b + 1) (Nat.le_refl _) (by omega)
      rw [cnt_f (by rw [z_wb_iff]; exact h2)] at hh
      exact hh

set_option maxHeartbeats 4000000 in
theorem w_X12_leave1 {l : Launch} {G : mm_G} {d : Nat} {Mi : mm_M} {Q : Int32 → mm_T → mm_M → Prop} {A : mm_M} (hi : iv A) (hq : r_x A Mi) (hqw : e_w A Mi (zr A (-1) (a_ne A))) (h : ∀ r M1, r = z_leave A → r_x A M1 → Q r T0 M1) : ∀ (z a : Nat) {x3 : Value}, a_np A - a ≤ z → a ≤ a_np A → mm_wp l G (d + 5) k_X12_leaveNow (mm_pi Q) 8 [.ref 51, .int (nI (cn2 (z_wb A) (a_np A) a)), .int (nI a), x3] [] T0 Mi 0 0 := by
  have n6 := hi.1.nl
  have n12 := hi.1.np
  have n24 := hi.1.ne.2
  intro z
  induction z using Nat.strongRecOn with | _ z ih => ?_
  intro a x3 hze hbn
  have hbi : (nI a).toInt = a := mm_ti (by omega)
  have hni : (nI (a_np A)).toInt = a_np A := mm_ti (by omega)
  refine mm_iload_2 9 dX12_leaveNow_8 rfl ?_
  refine mm_aload_0 10 dX12_leaveNow_9 rfl ?_
  refine mm_getI 13 dX12_leaveNow_10 f_X12_144 rfl t_51 rfl ?_
  rw [hq.2.2.2.1]
  refine mm_ic_ge 55 16 dX12_leaveNow_13 (by decide) rfl (fun h1 => ?_) (fun h1 => ?_)
  · refine mm_iload_1 56 dX12_leaveNow_55 rfl ?_
    refine mm_iret dX12_leaveNow_56 rfl ⟨rfl, Nat.zero_le _⟩ ?_
    have hz : a = a_np A := by (try simp only [hbi, hni, Int32.lt_iff_toInt_lt, Int32.le_iff_toInt_le, ← Int32.toInt_inj, vp_in_iff, Int32.reduceToInt, mm_t1, mm_t2, mm_t3, mm_t4, mm_t10] at h1); omega
    rw [hz]
    exact h _ _ rfl hq
  · have hlt : a < a_np A := by (try simp only [hbi, hni, Int32.lt_iff_toInt_lt, Int32.le_iff_toInt_le, ← Int32.toInt_inj, vp_in_iff, Int32.reduceToInt, mm_t1, mm_t2, mm_t3, mm_t4, mm_t10] at h1); omega
    refine mm_iconst 17 0 dX12_leaveNow_16 rfl (by decide) ?_
    refine mm_istore_3 18 dX12_leaveNow_17 rfl rfl ?_
    exact w_X12_leave2 hi hq hqw hlt (ih (a_np A - (a + 1)) (by omega) (a + 1) (Nat.le_refl _) (by omega)) (a_np A) 0 (by omega) (by omega)

set_option maxHeartbeats 4000000 in
theorem c_X12_leaveNow {l : Launch} {G : mm_G} {d : Nat} {M : mm_M} {Q : Int32 → mm_T → mm_M → Prop} {A : mm_M} (hi : iv A) (hx : r_x A M) (h : ∀ r M1, r = z_leave A → r_x A M1 → Q r T0 M1) : mm_met l G (d + 5) k_X12_leaveNow [.ref 51] T0 M (mm_pi Q) := by
  have n6 := hi.1.nl
  have n12 := hi.1.np
  have n24 := hi.1.ne.2
  refine mm_enter 3 [.ref 51, .double 0, .double 0, .double 0] o_X12_leaveNow rfl rfl ?_
  refine mm_aload_0 1 dX12_leaveNow_0 rfl ?_
  refine mm_cV0v 4 dX12_leaveNow_1 v_X12_242 rfl t_51 (by decide) rfl rfl (Nat.le_of_ble_eq_true rfl) ⟨rfl, rfl⟩ ⟨Nat.zero_le _, Nat.zero_le _⟩ (b_goesAll hi hx (fun M1 g1 w1 X1 => ?_))
  refine mm_iconst 5 0 dX12_leaveNow_4 rfl (by decide) ?_
  refine mm_istore_1 6 dX12_leaveNow_5 rfl rfl ?_
  refine mm_iconst 7 0 dX12_leaveNow_6 rfl (by decide) ?_
  refine mm_istore_2 8 dX12_leaveNow_7 rfl rfl ?_
  exact w_X12_leave1 hi X1 w1 h (a_np A) 0 (by omega) (by omega)

set_option maxHeartbeats 4000000 in
theorem c_X12_leave {l : Launch} {G : mm_G} {d : Nat} {M : mm_M} {Q : Int32 → mm_T → mm_M → Prop} {A : mm_M} (hi : iv A) (hf : fr A M) (h : ∀ r M1, r = z_leave A → fr A M1 → Q r T0 M1) : mm_met l G (d + 6) k_X12_leave [.ref 51] T0 M (mm_pi Q) := by
  have n6 := hi.1.nl
  have n12 := hi.1.np
  have n24 := hi.1.ne.2
  refine mm_enter 0 [.ref 51] o_X12_leave rfl rfl ?_
  refine mm_aload_0 1 dX12_leave_0 rfl ?_
  refine mm_cV0v 4 dX12_leave_1 v_X12_163 rfl t_51 (by decide) rfl rfl (Nat.le_of_ble_eq_true rfl) ⟨rfl, rfl⟩ ⟨Nat.zero_le _, Nat.zero_le _⟩ (b_find hi hf (fun M1 X1 => ?_))
  refine mm_aload_0 5 dX12_leave_4 rfl ?_
  refine mm_cV0i 8 dX12_leave_5 v_X12_286 rfl t_51 (by decide) rfl rfl (Nat.le_of_ble_eq_true rfl) ⟨rfl, rfl⟩ ⟨Nat.zero_le _, Nat.zero_le _⟩ (c_X12_leaveNow hi X1 (fun r2 M2 e2 X2 => ?_))
  refine mm_iret dX12_leave_8 rfl ⟨rfl, Nat.zero_le _⟩ ?_
  exact h _ _ e2 X2.1

set_option maxHeartbeats 4000000 in
theorem c_X11_wouldLeave {l : Launch} {G : mm_G} {d : Nat} {M : mm_M} {Q : Int32 → mm_T → mm_M → Prop} {A : mm_M} (hi : iv A) (hf : fr A M) {B : Nat} (hw : v_w M (zr A (-1) (a_ne A)) (a_nl A) (a_np A) B) {x y : Int32} {a b : Nat} (hxa : x = nI a) (ha : a < a_np A) (hyb : y = nI b) (hb : b < a_np A) (s0 : z_w A a 0 = 0) (ht : z_wl A a b → Q 1 T0 M) (hn : ¬ z_wl A a b → Q 0 T0 M) : mm_met l G (d + 2) k_X11_wouldLeave [.ref 0, .int x, .int y] T0 M (mm_pi Q) := by
  have n6 := hi.1.nl
  have n12 := hi.1.np
  have n24 := hi.1.ne.2
  have hd := hf.vd hi
  have k5 := hd.1.li
  have k7 := hd.1.pi
  have k14 := hd.1.ei
  subst hxa
  subst hyb
  have ht7 := hi.2.2.1.2.2.2.2.2
  have xa : (nI a).toInt = a := mm_ti (by omega)
  have xb : (nI b).toInt = b := mm_ti (by omega)
  have ca : (nI a).toNatClampNeg = a := mm_cn (by omega)
  have cb : (nI b).toNatClampNeg = b := mm_cn (by omega)
  have fa : M 8 a = z_w A a 0 := by rw [hf.a 8]; exact (ht7 a ha).1
  have fb : M 8 b = z_w A b 0 := by rw [hf.a 8]; exact (ht7 b hb).1
  have ga : M 9 a = z_w A a 1 := by rw [hf.a 9]; exact (ht7 a ha).2.1
  have gb : M 9 b = z_w A b 1 := by rw [hf.a 9]; exact (ht7 b hb).2.1
  have hgt : ∀ p, p < a_np A → s_X4_heightOf M (nI p) = z_w A p 2 := fun p hp => by
    unfold s_X4_heightOf
    rw [k7, mm_ti (by omega), mm_cn (by omega), if_pos ⟨by omega, by omega⟩, hf.a 10]
    exact (ht7 p hp).2.2.1
  have sb := (a_wh hi.1 hb).1
  refine mm_enter 2 [.ref 0, .int (nI a), .int (nI b), .double 0, .double 0] o_X11_wouldLeave rfl rfl ?_
  refine mm_aload_0 1 dX11_wouldLeave_0 rfl ?_
  refine mm_getR 4 dX11_wouldLeave_1 f_X11_56 rfl t_0 rfl ?_
  refine mm_iload_1 5 dX11_wouldLeave_4 rfl ?_
  refine mm_cV1i 8 dX11_wouldLeave_5 v_X11_207 rfl t_20 (by decide) rfl rfl (Nat.le_of_ble_eq_true rfl) ⟨rfl, rfl⟩ ⟨Nat.zero_le _, Nat.zero_le _⟩ (b_partnerOf hi hf hw (by omega) (fun r1 e1 => ?_))
  refine mm_istore_3 9 dX11_wouldLeave_8 rfl rfl ?_
  refine mm_aload_0 10 dX11_wouldLeave_9 rfl ?_
  refine mm_getR 13 dX11_wouldLeave_10 f_X11_56 rfl t_0 rfl ?_
  refine mm_iload_2 14 dX11_wouldLeave_13 rfl ?_
  refine mm_cV1i 17 dX11_wouldLeave_14 v_X11_207 rfl t_20 (by decide) rfl rfl (Nat.le_of_ble_eq_true rfl) ⟨rfl, rfl⟩ ⟨Nat.zero_le _, Nat.zero_le _⟩ (b_partnerOf hi hf hw (by omega) (fun r2 e2 => ?_))
  refine mm_istore_4 19 dX11_wouldLeave_17 rfl rfl ?_
  refine mm_iload_3 20 dX11_wouldLeave_19 rfl ?_
  refine mm_iconst 21 (-1) dX11_wouldLeave_20 rfl (by decide) ?_
  refine mm_ic_eq 90 24 dX11_wouldLeave_21 (by decide) rfl (fun h3 => ?_) (fun h3 => ?_)
  · refine mm_iconst 91 0 dX11_wouldLeave_90 rfl (by decide) ?_
    refine mm_zret dX11_wouldLeave_91 rfl ⟨rfl, Nat.zero_le _⟩ (Or.inl rfl) ?_
    rw [ca] at e1
    rw [cb] at e2
    have ea : r1 = z_mt A a := e1
    have eb : r2 = z_mt A b := e2
    have w0 : z_w A b 0 = 0 ∨ z_w A b 0 = 1 := by
      have t0 : (0 : Int32).toInt = 0 := by decide
      have t1 : (1 : Int32).toInt = 1 := by decide
      by_cases q : (z_w A b 0).toInt = 0
      · exact Or.inl (mm_ii q)
      · exact Or.inr (mm_ii (by unfold z_w at q ⊢; omega))
    refine hn (fun q => ?_)
    obtain ⟨⟨q1, q2⟩, ⟨q3, q4, q5⟩, q6, q7, q8⟩ := q
    simp only [ea, eb, s0, fa, fb, ga, gb, xa, xb, true_and, Int32.lt_iff_toInt_lt, Int32.le_iff_toInt_le, ← Int32.toInt_inj, vp_in_iff, Int32.reduceToInt, mm_t1, mm_t2, mm_t3, mm_t4, mm_t10] at h3 w0 q1 q2 q3 q4 q5 q6 q7 q8
    omega
  · refine mm_iload_4 26 dX11_wouldLeave_24 rfl ?_
    refine mm_iconst 27 (-1) dX11_wouldLeave_26 rfl (by decide) ?_
    refine mm_ic_eq 90 30 dX11_wouldLeave_27 (by decide) rfl (fun h4 => ?_) (fun h4 => ?_)
    · refine mm_iconst 91 0 dX11_wouldLeave_90 rfl (by decide) ?_
      refine mm_zret dX11_wouldLeave_91 rfl ⟨rfl, Nat.zero_le _⟩ (Or.inl rfl) ?_
      rw [ca] at e1
      rw [cb] at e2
      have ea : r1 = z_mt A a := e1
      have eb : r2 = z_mt A b := e2
      have w0 : z_w A b 0 = 0 ∨ z_w A b 0 = 1 := by
        have t0 : (0 : Int32).toInt = 0 := by decide
        have t1 : (1 : Int32).toInt = 1 := by decide
        by_cases q : (z_w A b 0).toInt = 0
        · exact Or.inl (mm_ii q)
        · exact Or.inr (mm_ii (by unfold z_w at q ⊢; omega))
      refine hn (fun q => ?_)
      obtain ⟨⟨q1, q2⟩, ⟨q3, q4, q5⟩, q6, q7, q8⟩ := q
      simp only [ea, eb, s0, fa, fb, ga, gb, xa, xb, true_and, Int32.lt_iff_toInt_lt, Int32.le_iff_toInt_le, ← Int32.toInt_inj, vp_in_iff, Int32.reduceToInt, mm_t1, mm_t2, mm_t3, mm_t4, mm_t10] at h3 h4 w0 q1 q2 q3 q4 q5 q6 q7 q8
      omega
    · refine mm_iload_3 31 dX11_wouldLeave_30 rfl ?_
      refine mm_iload_2 32 dX11_wouldLeave_31 rfl ?_
      refine mm_ic_eq 90 35 dX11_wouldLeave_32 (by decide) rfl (fun h5 => ?_) (fun h5 => ?_)
      · refine mm_iconst 91 0 dX11_wouldLeave_90 rfl (by decide) ?_
        refine mm_zret dX11_wouldLeave_91 rfl ⟨rfl, Nat.zero_le _⟩ (Or.inl rfl) ?_
        rw [ca] at e1
        rw [cb] at e2
        have ea : r1 = z_mt A a := e1
        have eb : r2 = z_mt A b := e2
        have w0 : z_w A b 0 = 0 ∨ z_w A b 0 = 1 := by
          have t0 : (0 : Int32).toInt = 0 := by decide
          have t1 : (1 : Int32).toInt = 1 := by decide
          by_cases q : (z_w A b 0).toInt = 0
          · exact Or.inl (mm_ii q)
          · exact Or.inr (mm_ii (by unfold z_w at q ⊢; omega))
        refine hn (fun q => ?_)
        obtain ⟨⟨q1, q2⟩, ⟨q3, q4, q5⟩, q6, q7, q8⟩ := q
        simp only [ea, eb, s0, fa, fb, ga, gb, xa, xb, true_and, Int32.lt_iff_toInt_lt, Int32.le_iff_toInt_le, ← Int32.toInt_inj, vp_in_iff, Int32.reduceToInt, mm_t1, mm_t2, mm_t3, mm_t4, mm_t10] at h3 h4 h5 w0 q1 q2 q3 q4 q5 q6 q7 q8
        omega
      · refine mm_aload_0 36 dX11_wouldLeave_35 rfl ?_
        refine mm_getR 39 dX11_wouldLeave_36 f_X11_33 rfl t_0 rfl ?_
        refine mm_iload_1 40 dX11_wouldLeave_39 rfl ?_
        refine mm_iload_2 41 dX11_wouldLeave_40 rfl ?_
        refine mm_cV2i 44 dX11_wouldLeave_41 v_X11_361 rfl t_7 (by decide) rfl rfl (Nat.le_of_ble_eq_true rfl) ⟨rfl, rfl⟩ ⟨Nat.zero_le _, Nat.zero_le _⟩ (c_X4_areMatch hd.1 rfl (by omega) rfl (by omega) (fun h6 => ?_) (fun h6 => ?_))
        · refine mm_if_eq 90 47 dX11_wouldLeave_44 (by decide) rfl (fun h => absurd h (by decide)) (fun _ => ?_)
          have mA := zr_mate hi ha (by have q := h3; rw [e1, ca] at q; exact q)
          have mB := zr_mate hi hb (by have q := h4; rw [e2, cb] at q; exact q)
          refine mm_aload_0 48 dX11_wouldLeave_47 rfl ?_
          refine mm_getR 51 dX11_wouldLeave_48 f_X11_33 rfl t_0 rfl ?_
          refine mm_iload_1 52 dX11_wouldLeave_51 rfl ?_
          refine mm_cV1i 55 dX11_wouldLeave_52 v_X11_134 rfl t_7 (by decide) rfl rfl (Nat.le_of_ble_eq_true rfl) ⟨rfl, rfl⟩ ⟨Nat.zero_le _, Nat.zero_le _⟩ (c_X4_heightOf (by rw [k7]; omega) (fun r7 e7 => ?_))
          refine mm_aload_0 56 dX11_wouldLeave_55 rfl ?_
          refine mm_getR 59 dX11_wouldLeave_56 f_X11_33 rfl t_0 rfl ?_
          refine mm_iload_4 61 dX11_wouldLeave_59 rfl ?_
          refine mm_cV1i 64 dX11_wouldLeave_61 v_X11_134 rfl t_7 (by decide) rfl rfl (Nat.le_of_ble_eq_true rfl) ⟨rfl, rfl⟩ ⟨Nat.zero_le _, Nat.zero_le _⟩ (c_X4_heightOf (by rw [k7]; omega) (fun r8 e8 => ?_))
          refine mm_ic_ge 90 67 dX11_wouldLeave_64 (by decide) rfl (fun h9 => ?_) (fun h9 => ?_)
          · refine mm_iconst 91 0 dX11_wouldLeave_90 rfl (by decide) ?_
            refine mm_zret dX11_wouldLeave_91 rfl ⟨rfl, Nat.zero_le _⟩ (Or.inl rfl) ?_
            rw [ca] at e1
            rw [cb] at e2
            have ea : r1 = z_mt A a := e1
            have eb : r2 = z_mt A b := e2
            simp only [h_match, Bool.and_eq_true, Bool.or_eq_true, decide_eq_true_eq, k7] at h6
            rw [hgt a ha] at e7
            have f3 : r8 = z_w A (z_mn A b) 2 := by rw [e8, eb, mB.1]; exact hgt _ mB.2
            have w0 : z_w A b 0 = 0 ∨ z_w A b 0 = 1 := by
              have t0 : (0 : Int32).toInt = 0 := by decide
              have t1 : (1 : Int32).toInt = 1 := by decide
              by_cases q : (z_w A b 0).toInt = 0
              · exact Or.inl (mm_ii q)
              · exact Or.inr (mm_ii (by unfold z_w at q ⊢; omega))
            refine hn (fun q => ?_)
            obtain ⟨⟨q1, q2⟩, ⟨q3, q4, q5⟩, q6, q7, q8⟩ := q
            simp only [ea, eb, s0, fa, fb, ga, gb, xa, xb, e7, f3, true_and, Int32.lt_iff_toInt_lt, Int32.le_iff_toInt_le, ← Int32.toInt_inj, vp_in_iff, Int32.reduceToInt, mm_t1, mm_t2, mm_t3, mm_t4, mm_t10] at h3 h4 h5 h6 h9 w0 q1 q2 q3 q4 q5 q6 q7 q8
            omega
          · refine mm_aload_0 68 dX11_wouldLeave_67 rfl ?_
            refine mm_getR 71 dX11_wouldLeave_68 f_X11_33 rfl t_0 rfl ?_
            refine mm_iload_2 72 dX11_wouldLeave_71 rfl ?_
            refine mm_cV1i 75 dX11_wouldLeave_72 v_X11_134 rfl t_7 (by decide) rfl rfl (Nat.le_of_ble_eq_true rfl) ⟨rfl, rfl⟩ ⟨Nat.zero_le _, Nat.zero_le _⟩ (c_X4_heightOf (by rw [k7]; omega) (fun r10 e10 => ?_))
            refine mm_aload_0 76 dX11_wouldLeave_75 rfl ?_
            refine mm_getR 79 dX11_wouldLeave_76 f_X11_33 rfl t_0 rfl ?_
            refine mm_iload_3 80 dX11_wouldLeave_79 rfl ?_
            refine mm_cV1i 83 dX11_wouldLeave_80 v_X11_134 rfl t_7 (by decide) rfl rfl (Nat.le_of_ble_eq_true rfl) ⟨rfl, rfl⟩ ⟨Nat.zero_le _, Nat.zero_le _⟩ (c_X4_heightOf (by rw [k7]; omega) (fun r11 e11 => ?_))
            refine mm_ic_ge 90 86 dX11_wouldLeave_83 (by decide) rfl (fun h12 => ?_) (fun h12 => ?_)
            · refine mm_iconst 91 0 dX11_wouldLeave_90 rfl (by decide) ?_
              refine mm_zret dX11_wouldLeave_91 rfl ⟨rfl, Nat.zero_le _⟩ (Or.inl rfl) ?_
              rw [ca] at e1
              rw [cb] at e2
              have ea : r1 = z_mt A a := e1
              have eb : r2 = z_mt A b := e2
              simp only [h_match, Bool.and_eq_true, Bool.or_eq_true, decide_eq_true_eq, k7] at h6
              rw [hgt a ha] at e7
              have f3 : r8 = z_w A (z_mn A b) 2 := by rw [e8, eb, mB.1]; exact hgt _ mB.2
              rw [hgt b hb] at e10
              have f5 : r11 = z_w A (z_mn A a) 2 := by rw [e11, ea, mA.1]; exact hgt _ mA.2
              have w0 : z_w A b 0 = 0 ∨ z_w A b 0 = 1 := by
                have t0 : (0 : Int32).toInt = 0 := by decide
                have t1 : (1 : Int32).toInt = 1 := by decide
                by_cases q : (z_w A b 0).toInt = 0
                · exact Or.inl (mm_ii q)
                · exact Or.inr (mm_ii (by unfold z_w at q ⊢; omega))
              refine hn (fun q => ?_)
              obtain ⟨⟨q1, q2⟩, ⟨q3, q4, q5⟩, q6, q7, q8⟩ := q
              simp only [ea, eb, s0, fa, fb, ga, gb, xa, xb, e7, f3, e10, f5, true_and, Int32.lt_iff_toInt_lt, Int32.le_iff_toInt_le, ← Int32.toInt_inj, vp_in_iff, Int32.reduceToInt, mm_t1, mm_t2, mm_t3, mm_t4, mm_t10] at h3 h4 h5 h6 h9 h12 w0 q1 q2 q3 q4 q5 q6 q7 q8
              omega
            · refine mm_iconst 87 1 dX11_wouldLeave_86 rfl (by decide) ?_
              refine mm_goto 91 dX11_wouldLeave_87 (by decide) ?_
              refine mm_zret dX11_wouldLeave_91 rfl ⟨rfl, Nat.zero_le _⟩ (Or.inr rfl) ?_
              rw [ca] at e1
              rw [cb] at e2
              have ea : r1 = z_mt A a := e1
              have eb : r2 = z_mt A b := e2
              simp only [h_match, Bool.and_eq_true, Bool.or_eq_true, decide_eq_true_eq, k7] at h6
              rw [hgt a ha] at e7
              have f3 : r8 = z_w A (z_mn A b) 2 := by rw [e8, eb, mB.1]; exact hgt _ mB.2
              rw [hgt b hb] at e10
              have f5 : r11 = z_w A (z_mn A a) 2 := by rw [e11, ea, mA.1]; exact hgt _ mA.2
              have w0 : z_w A b 0 = 0 ∨ z_w A b 0 = 1 := by
                have t0 : (0 : Int32).toInt = 0 := by decide
                have t1 : (1 : Int32).toInt = 1 := by decide
                by_cases q : (z_w A b 0).toInt = 0
                · exact Or.inl (mm_ii q)
                · exact Or.inr (mm_ii (by unfold z_w at q ⊢; omega))
              refine ht ?_
              unfold z_wl
              simp only [ea, eb, s0, fa, fb, ga, gb, xa, xb, e7, f3, e10, f5, true_and, Int32.lt_iff_toInt_lt, Int32.le_iff_toInt_le, ← Int32.toInt_inj, vp_in_iff, Int32.reduceToInt, mm_t1, mm_t2, mm_t3, mm_t4, mm_t10] at h3 h4 h5 h6 h9 h12 w0 ⊢
              omega
        · refine mm_if_eq 90 47 dX11_wouldLeave_44 (by decide) rfl (fun _ => ?_) (fun h => absurd h (by decide))
          refine mm_iconst 91 0 dX11_wouldLeave_90 rfl (by decide) ?_
          refine mm_zret dX11_wouldLeave_91 rfl ⟨rfl, Nat.zero_le _⟩ (Or.inl rfl) ?_
          rw [ca] at e1
          rw [cb] at e2
          have ea : r1 = z_mt A a := e1
          have eb : r2 = z_mt A b := e2
          simp only [h_match, Bool.and_eq_true, Bool.or_eq_true, decide_eq_true_eq, k7] at h6
          have w0 : z_w A b 0 = 0 ∨ z_w A b 0 = 1 := by
            have t0 : (0 : Int32).toInt = 0 := by decide
            have t1 : (1 : Int32).toInt = 1 := by decide
            by_cases q : (z_w A b 0).toInt = 0
            · exact Or.inl (mm_ii q)
            · exact Or.inr (mm_ii (by unfold z_w at q ⊢; omega))
          refine hn (fun q => ?_)
          obtain ⟨⟨q1, q2⟩, ⟨q3, q4, q5⟩, q6, q7, q8⟩ := q
          simp only [ea, eb, s0, fa, fb, ga, gb, xa, xb, true_and, Int32.lt_iff_toInt_lt, Int32.le_iff_toInt_le, ← Int32.toInt_inj, vp_in_iff, Int32.reduceToInt, mm_t1, mm_t2, mm_t3, mm_t4, mm_t10] at h3 h4 h5 h6 w0 q1 q2 q3 q4 q5 q6 q7 q8
          omega

set_option maxHeartbeats 4000000 in
theorem w_X11_leave2 {l : Launch} {G : mm_G} {d : Nat} {Mi : mm_M} {Q : Int32 → mm_T → mm_M → Prop} {A : mm_M} (hi : iv A) (hq : fr A Mi) {B : Nat} (hqw : v_w Mi (zr A (-1) (a_ne A)) (a_nl A) (a_np A) B) {a : Nat} (ha : a < a_np A) (h : mm_wp l G (d + 5) k_X11_leave (mm_pi Q) 19 [.ref 0, .int (nI (cn2 (z_wb A) (a_np A) (a + 1))), .int (nI (a + 1)), .int (nI (a_np A))] [] T0 Mi 0 0) : ∀ (z b : Nat), a_np A - b ≤ z → b ≤ a_np A → mm_wp l G (d + 5) k_X11_leave (mm_pi Q) 32 [.ref 0, .int (nI (cn2 (z_wb A) (a_np A) a + cnt (z_wb A a) b)), .int (nI a), .int (nI b)] [] T0 Mi 0 0 := by
  have n6 := hi.1.nl
  have n12 := hi.1.np
  have n24 := hi.1.ne.2
  have k7e : Mi 7 4 = nI (a_np A) := (hq.vd hi).1.2.2.2.2.1
  have k7 : (Mi 7 4).toInt = a_np A := (hq.vd hi).1.pi
  have sx : ∀ p, p < a_np A → s_X4_sexOf Mi (nI p) = z_w A p 0 := fun p hp => by
    unfold s_X4_sexOf
    rw [k7, mm_ti (by omega), mm_cn (by omega), if_pos ⟨by omega, by omega⟩, hq.a 8]
    exact (hi.2.2.1.2.2.2.2.2 p hp).1
  intro z
  induction z using Nat.strongRecOn with | _ z ih => ?_
  intro b hze hbn
  have hbi : (nI b).toInt = b := mm_ti (by omega)
  have hni : (nI (a_np A)).toInt = a_np A := mm_ti (by omega)
  refine mm_iload_3 33 dX11_leave_32 rfl ?_
  refine mm_aload_0 34 dX11_leave_33 rfl ?_
  refine mm_getR 37 dX11_leave_34 f_X11_33 rfl t_0 rfl ?_
  refine mm_cV0i 40 dX11_leave_37 v_X11_225 rfl t_7 (by decide) rfl rfl (Nat.le_of_ble_eq_true rfl) ⟨rfl, rfl⟩ ⟨Nat.zero_le _, Nat.zero_le _⟩ (c_X4_number  (fun r1 e1 => ?_))
  rw [e1, k7e]
  refine mm_ic_ge 72 43 dX11_leave_40 (by decide) rfl (fun h2 => ?_) (fun h2 => ?_)
  · refine mm_iinc_2 75 1 dX11_leave_72 rfl (by decide) rfl ?_
    refine mm_goto 19 dX11_leave_75 (by decide) ?_
    have hz : b = a_np A := by (try simp only [hbi, hni, Int32.lt_iff_toInt_lt, Int32.le_iff_toInt_le, ← Int32.toInt_inj, vp_in_iff, Int32.reduceToInt, mm_t1, mm_t2, mm_t3, mm_t4, mm_t10] at h2); omega
    rw [nI_1, hz]
    exact h
  · have hlt : b < a_np A := by (try simp only [hbi, hni, Int32.lt_iff_toInt_lt, Int32.le_iff_toInt_le, ← Int32.toInt_inj, vp_in_iff, Int32.reduceToInt, mm_t1, mm_t2, mm_t3, mm_t4, mm_t10] at h2); omega
    refine mm_aload_0 44 dX11_leave_43 rfl ?_
    refine mm_getR 47 dX11_leave_44 f_X11_33 rfl t_0 rfl ?_
    refine mm_iload_2 48 dX11_leave_47 rfl ?_
    refine mm_cV1i 51 dX11_leave_48 v_X11_127 rfl t_7 (by decide) rfl rfl (Nat.le_of_ble_eq_true rfl) ⟨rfl, rfl⟩ ⟨Nat.zero_le _, Nat.zero_le _⟩ (c_X4_sexOf (by rw [k7]; omega) (fun r3 e3 => ?_))
    refine mm_if_ne 66 54 dX11_leave_51 (by decide) rfl (fun h4 => ?_) (fun h4 => ?_)
    · refine mm_iinc_3 69 1 dX11_leave_66 rfl (by decide) rfl ?_
      refine mm_goto 32 dX11_leave_69 (by decide) ?_
      rw [nI_1]
      have hh := ih (a_np A - (b + 1)) (by omega) (b + 1) (Nat.le_refl _) (by omega)
      rw [cnt_f (by rw [z_wb_iff]; intro q; apply h4; rw [e3, sx a ha]; exact q.1.1)] at hh
      exact hh
    · have s0 : z_w A a 0 = 0 := by rw [← sx a ha, ← e3]; exact h4
      refine mm_aload_0 55 dX11_leave_54 rfl ?_
      refine mm_iload_2 56 dX11_leave_55 rfl ?_
      refine mm_iload_3 57 dX11_leave_56 rfl ?_
      refine mm_cV2i 60 dX11_leave_57 v_X11_226 rfl t_0 (by decide) rfl rfl (Nat.le_of_ble_eq_true rfl) ⟨rfl, rfl⟩ ⟨Nat.zero_le _, Nat.zero_le _⟩ (c_X11_wouldLeave hi hq hqw rfl ha rfl hlt s0 (fun h5 => ?_) (fun h5 => ?_))
      · refine mm_if_eq 66 63 dX11_leave_60 (by decide) rfl (fun h => absurd h (by decide)) (fun _ => ?_)
        refine mm_iinc_1 66 1 dX11_leave_63 rfl (by decide) rfl ?_
        refine mm_iinc_3 69 1 dX11_leave_66 rfl (by decide) rfl ?_
        refine mm_goto 32 dX11_leave_69 (by decide) ?_
        rw [nI_1, nI_1]
        have hh := ih (a_np A - (b + 1)) (by omega) (b + 1) (Nat.le_refl _) (by omega)
        rw [cnt_t (by rw [z_wb_iff]; exact h5)] at hh
        exact hh
      · refine mm_if_eq 66 63 dX11_leave_60 (by decide) rfl (fun _ => ?_) (fun h => absurd h (by decide))
        refine mm_iinc_3 69 1 dX11_leave_66 rfl (by decide) rfl ?_
        refine mm_goto 32 dX11_leave_69 (by decide) ?_
        rw [nI_1]
        have hh := ih (a_np A - (b + 1)) (by omega) (b + 1) (Nat.le_refl _) (by omega)
        rw [cnt_f (by rw [z_wb_iff]; exact h5)] at hh
        exact hh

set_option maxHeartbeats 4000000 in
theorem w_X11_leave1 {l : Launch} {G : mm_G} {d : Nat} {Mi : mm_M} {Q : Int32 → mm_T → mm_M → Prop} {A : mm_M} (hi : iv A) (hq : fr A Mi) {B : Nat} (hqw : v_w Mi (zr A (-1) (a_ne A)) (a_nl A) (a_np A) B) (h : ∀ r M1, r = z_leave A → fr A M1 → Q r T0 M1) : ∀ (z a : Nat) {x3 : Value}, a_np A - a ≤ z → a ≤ a_np A → mm_wp l G (d + 5) k_X11_leave (mm_pi Q) 19 [.ref 0, .int (nI (cn2 (z_wb A) (a_np A) a)), .int (nI a), x3] [] T0 Mi 0 0 := by
  have n6 := hi.1.nl
  have n12 := hi.1.np
  have n24 := hi.1.ne.2
  have k7e : Mi 7 4 = nI (a_np A) := (hq.vd hi).1.2.2.2.2.1
  have k7 : (Mi 7 4).toInt = a_np A := (hq.vd hi).1.pi
  have sx : ∀ p, p < a_np A → s_X4_sexOf Mi (nI p) = z_w A p 0 := fun p hp => by
    unfold s_X4_sexOf
    rw [k7, mm_ti (by omega), mm_cn (by omega), if_pos ⟨by omega, by omega⟩, hq.a 8]
    exact (hi.2.2.1.2.2.2.2.2 p hp).1
  intro z
  induction z using Nat.strongRecOn with | _ z ih => ?_
  intro a x3 hze hbn
  have hbi : (nI a).toInt = a := mm_ti (by omega)
  have hni : (nI (a_np A)).toInt = a_np A := mm_ti (by omega)
  refine mm_iload_2 20 dX11_leave_19 rfl ?_
  refine mm_aload_0 21 dX11_leave_20 rfl ?_
  refine mm_getR 24 dX11_leave_21 f_X11_33 rfl t_0 rfl ?_
  refine mm_cV0i 27 dX11_leave_24 v_X11_225 rfl t_7 (by decide) rfl rfl (Nat.le_of_ble_eq_true rfl) ⟨rfl, rfl⟩ ⟨Nat.zero_le _, Nat.zero_le _⟩ (c_X4_number  (fun r1 e1 => ?_))
  rw [e1, k7e]
  refine mm_ic_ge 78 30 dX11_leave_27 (by decide) rfl (fun h2 => ?_) (fun h2 => ?_)
  · refine mm_iload_1 79 dX11_leave_78 rfl ?_
    refine mm_iret dX11_leave_79 rfl ⟨rfl, Nat.zero_le _⟩ ?_
    have hz : a = a_np A := by (try simp only [hbi, hni, Int32.lt_iff_toInt_lt, Int32.le_iff_toInt_le, ← Int32.toInt_inj, vp_in_iff, Int32.reduceToInt, mm_t1, mm_t2, mm_t3, mm_t4, mm_t10] at h2); omega
    rw [hz]
    exact h _ _ rfl hq
  · have hlt : a < a_np A := by (try simp only [hbi, hni, Int32.lt_iff_toInt_lt, Int32.le_iff_toInt_le, ← Int32.toInt_inj, vp_in_iff, Int32.reduceToInt, mm_t1, mm_t2, mm_t3, mm_t4, mm_t10] at h2); omega
    refine mm_iconst 31 0 dX11_leave_30 rfl (by decide) ?_
    refine mm_istore_3 32 dX11_leave_31 rfl rfl ?_
    exact w_X11_leave2 hi hq hqw hlt (ih (a_np A - (a + 1)) (by omega) (a + 1) (Nat.le_refl _) (by omega)) (a_np A) 0 (by omega) (by omega)

set_option maxHeartbeats 4000000 in
theorem c_X11_leave {l : Launch} {G : mm_G} {d : Nat} {M : mm_M} {Q : Int32 → mm_T → mm_M → Prop} {A : mm_M} (hi : iv A) (hf : fr A M) (h : ∀ r M1, r = z_leave A → fr A M1 → Q r T0 M1) : mm_met l G (d + 5) k_X11_leave [.ref 0] T0 M (mm_pi Q) := by
  have n6 := hi.1.nl
  have n12 := hi.1.np
  have n24 := hi.1.ne.2
  have hd := hf.vd hi
  have k5 := hd.1.li
  have k7 := hd.1.pi
  have k14 := hd.1.ei
  refine mm_enter 3 [.ref 0, .double 0, .double 0, .double 0] o_X11_leave rfl rfl ?_
  refine mm_aload_0 1 dX11_leave_0 rfl ?_
  refine mm_getR 4 dX11_leave_1 f_X11_56 rfl t_0 rfl ?_
  refine mm_aload_0 5 dX11_leave_4 rfl ?_
  refine mm_getR 8 dX11_leave_5 f_X11_47 rfl t_0 rfl ?_
  refine mm_cV0i 11 dX11_leave_8 v_X11_165 rfl t_14 (by decide) rfl rfl (Nat.le_of_ble_eq_true rfl) ⟨rfl, rfl⟩ ⟨Nat.zero_le _, Nat.zero_le _⟩ (b_eno hi hf (fun r1 e1 => ?_))
  refine mm_iconst 12 (-1) dX11_leave_11 rfl (by decide) ?_
  refine mm_cV2v 15 dX11_leave_12 v_X11_190 rfl t_20 (by decide) rfl rfl (Nat.le_of_ble_eq_true rfl) ⟨rfl, rfl⟩ ⟨Nat.zero_le _, Nat.zero_le _⟩ (b_play hi hf e1 (Nat.le_refl _) (fun M2 g2 w2 X2 => ?_))
  refine mm_iconst 16 0 dX11_leave_15 rfl (by decide) ?_
  refine mm_istore_1 17 dX11_leave_16 rfl rfl ?_
  refine mm_iconst 18 0 dX11_leave_17 rfl (by decide) ?_
  refine mm_istore_2 19 dX11_leave_18 rfl rfl ?_
  exact w_X11_leave1 hi X2 w2 h (a_np A) 0 (by omega) (by omega)

