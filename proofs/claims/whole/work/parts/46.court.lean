/-! The class's search for weddings -/
def wd (M : mm_M) (j : Nat) : Int := (M 30 j).toInt
def cst (C : mcx) (M : mm_M) (L : List (Nat × Nat)) (fa most : Nat) : Prop := ((M 27 5).toInt = C.ow ∧ (M 27 6).toInt = C.wb ∧ (M 27 7).toInt = C.wa) ∧ M 27 8 = nI fa ∧ M 27 9 = nI most ∧ crep M 31 32 33 L ∧ L.length ≤ 36 ∧ fa ≤ 36 ∧ ∀ e a b, L[e]? = some (a, b) → (a < 12 ∧ b < 12) ∧ (M 28 e).toInt = C.gn a b ∧ M 29 e = sbt a ||| sbt b ∧ (0 < C.gn a b → C.us a b = true) ∧ (fa ≤ e ↔ ¬ C.lo b = true)
theorem cst.of {C : mcx} {M N : mm_M} {L : List (Nat × Nat)} {fa most : Nat} (h : cst C M L fa most) (k : ∀ c, c ≠ 30 → N c = M c) : cst C N L fa most := by
  unfold cst crep at h ⊢
  rw [k 27 (by decide), k 28 (by decide), k 29 (by decide), k 31 (by decide), k 32 (by decide), k 33 (by decide)]
  exact h
/-- who is taken -/
def tkn (x : Int32) (f : Nat → Option Nat) : Prop := ∀ i, i < 12 → (bq x i = true ↔ (∃ b, f i = some b) ∨ ∃ a, f a = some i)
theorem tkn_f0 : tkn 0 f0 := fun i hi => by
  rw [bq_0 i (by omega)]
  simp [f0]
theorem tkn_free {C : mcx} (hC : c_ok C) {x : Int32} {f : Nat → Option Nat} {a b : Nat} (h : tkn x f) (hf : ms C f) (hu : C.us a b = true) : x &&& (sbt a ||| sbt b) = 0 ↔ f a = none ∧ ∀ i, ¬ f i = some b := by
  have hc := hC.1 a b hu
  rw [bq_and0 hc.1 hc.2.1]
  have ha := h a hc.1
  have hb := h b hc.2.1
  constructor
  · rintro ⟨h1, h2⟩
    rw [h1] at ha
    rw [h2] at hb
    refine ⟨?_, fun i hi => absurd (hb.mpr (Or.inr ⟨i, hi⟩)) (by decide)⟩
    cases e : f a with
    | none => rfl
    | some y => exact absurd (ha.mpr (Or.inl ⟨y, e⟩)) (by decide)
  · rintro ⟨h1, h2⟩
    constructor
    · cases q : bq x a with
      | false => rfl
      | true =>
        rcases ha.mp q with ⟨y, e⟩ | ⟨y, e⟩
        · rw [h1] at e; exact absurd e (by simp)
        · exact absurd rfl (hC.2.1 a b y a hu (hf.1 y a e))
    · cases q : bq x b with
      | false => rfl
      | true =>
        rcases hb.mp q with ⟨y, e⟩ | ⟨y, e⟩
        · exact absurd rfl (hC.2.1 b y a b (hf.1 b y e) hu)
        · exact absurd e (h2 y)
theorem tkn_up {x : Int32} {f : Nat → Option Nat} {a b : Nat} (h : tkn x f) (ha : a < 12) (hb : b < 12) (hf : f a = none) : tkn (x ||| (sbt a ||| sbt b)) (fup f a b) := by
  intro i hi
  rw [bq_or, bq_or, bq_sb a ha i (by omega), bq_sb b hb i (by omega)]
  simp only [Bool.or_eq_true, decide_eq_true_eq]
  rw [h i hi]
  constructor
  · rintro ((⟨y, e⟩ | ⟨y, e⟩) | rfl | rfl)
    · by_cases q : i = a
      · rw [q, hf] at e; exact absurd e (by simp)
      · exact Or.inl ⟨y, by rw [fup_n f q]; exact e⟩
    · by_cases q : y = a
      · rw [q, hf] at e; exact absurd e (by simp)
      · exact Or.inr ⟨y, by rw [fup_n f q]; exact e⟩
    · exact Or.inl ⟨b, fup_s f i b⟩
    · exact Or.inr ⟨a, fup_s f a i⟩
  · rintro (⟨y, e⟩ | ⟨y, e⟩)
    · by_cases q : i = a
      · exact Or.inr (Or.inl q)
      · rw [fup_n f q] at e
        exact Or.inl (Or.inl ⟨y, e⟩)
    · by_cases q : y = a
      · rw [q, fup_s] at e
        cases e
        exact Or.inr (Or.inr rfl)
      · rw [fup_n f q] at e
        exact Or.inl (Or.inr ⟨y, e⟩)
theorem mxi {x y : Int32} : (if x < y then y else x).toInt = if x.toInt ≤ y.toInt then y.toInt else x.toInt := by
  by_cases q : x < y
  · rw [if_pos q]
    rw [mm_lt] at q
    rw [if_pos (by omega)]
  · rw [if_neg q]
    rw [mm_lt] at q
    split <;> omega
theorem note_V {C : mcx} (hC : c_ok C) {f : Nat → Option Nat} (hf : ms C f) {p q s bl ab : Int32} (h1 : p.toInt = C.ow) (h2 : q.toInt = C.wb) (h3 : s.toInt = C.wa) (hbl : bl.toInt = sm (lf C f) 12) (hab : ab.toInt = sm (rf C f) 12) : ((p + (if q < bl then q else bl)) + (if s < ab then s else ab)).toInt = vl C f := by
  have e1 : (if q < bl then q else bl).toInt = mi (sm (lf C f) 12) C.wb := by
    unfold mi
    simp only [mm_lt]
    rw [← hbl, ← h2]
    split <;> split <;> omega
  have e2 : (if s < ab then s else ab).toInt = mi (sm (rf C f) 12) C.wa := by
    unfold mi
    simp only [mm_lt]
    rw [← hab, ← h3]
    split <;> split <;> omega
  have b1 := lf_bd hC hf
  have b2 := rf_bd hC hf
  have m1 := mi_le (sm (lf C f) 12) C.wb
  have m2 := mi_le (sm (rf C f) 12) C.wa
  have m3 := mi_n b1.1 hC.2.2.2.1.1
  have m4 := mi_n b2.1 hC.2.2.2.2.1
  have w := hC.2.2
  have s1 := mm_add (a := p) (b := (if q < bl then q else bl)) (by omega)
  have s2 := mm_add (a := p + (if q < bl then q else bl)) (b := (if s < ab then s else ab)) (by omega)
  unfold vl
  omega

set_option maxHeartbeats 4000000 in
theorem c_X1_note {l : Launch} {G : mm_G} {d : Nat} {M : mm_M} {Q : mm_T → mm_M → Prop} {w bl ab : Int32} {n : Nat} {v : Int} (hw : w = nI n) (hn : n ≤ 6) (hv : ((M 27 5 + (if M 27 6 < bl then M 27 6 else bl)) + (if M 27 7 < ab then M 27 7 else ab)).toInt = v) (h : ∀ M1, (∀ c, c ≠ 30 → M1 c = M c) → (∀ j, j ≤ 6 → wd M1 j = if j = n ∧ wd M j ≤ v then v else wd M j) → Q T0 M1) : mm_met l G (d + 1) k_X1_note [.ref 27, .int w, .int bl, .int ab] T0 M (mm_pv Q) := by
  subst hw
  have hwi : (nI n).toInt = n := mm_ti (by omega)
  refine mm_enter 1 [.ref 27, .int (nI n), .int bl, .int ab, .double 0] o_X1_note rfl rfl ?_
  refine mm_aload_0 1 dX1_note_0 rfl ?_
  refine mm_getI 4 dX1_note_1 f_X1_21 rfl t_27 rfl ?_
  refine mm_iload_2 5 dX1_note_4 rfl ?_
  refine mm_aload_0 6 dX1_note_5 rfl ?_
  refine mm_getI 9 dX1_note_6 f_X1_25 rfl t_27 rfl ?_
  refine mm_mmin 12 dX1_note_9 j_X1_66 rfl (Nat.le_of_ble_eq_true rfl) ⟨Nat.zero_le _, Nat.zero_le _⟩ ?_
  refine mm_iadd 13 dX1_note_12 rfl ?_
  refine mm_iload_3 14 dX1_note_13 rfl ?_
  refine mm_aload_0 15 dX1_note_14 rfl ?_
  refine mm_getI 18 dX1_note_15 f_X1_28 rfl t_27 rfl ?_
  refine mm_mmin 21 dX1_note_18 j_X1_66 rfl (Nat.le_of_ble_eq_true rfl) ⟨Nat.zero_le _, Nat.zero_le _⟩ ?_
  refine mm_iadd 22 dX1_note_21 rfl ?_
  refine mm_istore_4 24 dX1_note_22 rfl rfl ?_
  refine mm_iload_1 25 dX1_note_24 rfl ?_
  refine mm_if_lt 51 28 dX1_note_25 (by decide) rfl (fun h1 => absurd h1 (by rw [mm_lt, hwi]; simp only [Int32.reduceToInt]; omega)) (fun h1 => ?_)
  refine mm_iload_1 29 dX1_note_28 rfl ?_
  refine mm_bipush 31 6 dX1_note_29 rfl (by decide) ?_
  refine mm_ic_gt 51 34 dX1_note_31 (by decide) rfl (fun h2 => absurd h2 (by rw [mm_lt, hwi]; simp only [Int32.reduceToInt]; omega)) (fun h2 => ?_)
  refine mm_aload_0 35 dX1_note_34 rfl ?_
  refine mm_getR 38 dX1_note_35 f_X1_18 rfl t_27 rfl ?_
  refine mm_iload_1 39 dX1_note_38 rfl ?_
  refine mm_aload_0 40 dX1_note_39 rfl ?_
  refine mm_getR 43 dX1_note_40 f_X1_18 rfl t_27 rfl ?_
  refine mm_iload_1 44 dX1_note_43 rfl ?_
  refine mm_ialoadn 45 (n) dX1_note_44 rfl t_30 (by decide) (rfl) (by omega) ?_
  refine mm_iload_4 47 dX1_note_45 rfl ?_
  refine mm_mmax 50 dX1_note_47 j_X1_54 rfl (Nat.le_of_ble_eq_true rfl) ⟨Nat.zero_le _, Nat.zero_le _⟩ ?_
  refine mm_iastoren 51 (n) dX1_note_50 rfl t_30 (by decide) (rfl) (by omega) ?_
  refine mm_vret dX1_note_51 rfl ⟨rfl, Nat.zero_le _⟩ ?_
  refine h _ (fun c hc => mm_upn _ _ _ hc) (fun j hj => ?_)
  unfold wd
  rw [mm_upc]
  by_cases q : j = n
  · subst q
    simp only [upd, if_true]
    rw [mxi, hv]
    simp only [true_and]
  · simp only [upd, if_neg q]
    rw [if_neg (fun z => q z.1)]

set_option maxHeartbeats 4000000 in
theorem c_X1_hasAll {l : Launch} {G : mm_G} {d : Nat} {M : mm_M} {Q : Int32 → mm_T → mm_M → Prop} {bl ab : Int32} (ht : (M 27 6).toInt ≤ bl.toInt ∧ (M 27 7).toInt ≤ ab.toInt → Q 1 T0 M) (hf : ¬ ((M 27 6).toInt ≤ bl.toInt ∧ (M 27 7).toInt ≤ ab.toInt) → Q 0 T0 M) : mm_met l G d k_X1_hasAll [.ref 27, .int bl, .int ab] T0 M (mm_pi Q) := by
  refine mm_enter 0 [.ref 27, .int bl, .int ab] o_X1_hasAll rfl rfl ?_
  refine mm_iload_1 1 dX1_hasAll_0 rfl ?_
  refine mm_aload_0 2 dX1_hasAll_1 rfl ?_
  refine mm_getI 5 dX1_hasAll_2 f_X1_25 rfl t_27 rfl ?_
  refine mm_ic_lt 20 8 dX1_hasAll_5 (by decide) rfl (fun h1 => ?_) (fun h1 => ?_)
  · refine mm_iconst 21 0 dX1_hasAll_20 rfl (by decide) ?_
    refine mm_zret dX1_hasAll_21 rfl ⟨rfl, Nat.zero_le _⟩ (Or.inl rfl) ?_
    refine hf ?_
    try simp only [Int32.lt_iff_toInt_lt, Int32.le_iff_toInt_le, ← Int32.toInt_inj, vp_in_iff, Int32.reduceToInt, mm_t1, mm_t2, mm_t3, mm_t4, mm_t10] at h1 ⊢
    omega
  · refine mm_iload_2 9 dX1_hasAll_8 rfl ?_
    refine mm_aload_0 10 dX1_hasAll_9 rfl ?_
    refine mm_getI 13 dX1_hasAll_10 f_X1_28 rfl t_27 rfl ?_
    refine mm_ic_lt 20 16 dX1_hasAll_13 (by decide) rfl (fun h2 => ?_) (fun h2 => ?_)
    · refine mm_iconst 21 0 dX1_hasAll_20 rfl (by decide) ?_
      refine mm_zret dX1_hasAll_21 rfl ⟨rfl, Nat.zero_le _⟩ (Or.inl rfl) ?_
      refine hf ?_
      try simp only [Int32.lt_iff_toInt_lt, Int32.le_iff_toInt_le, ← Int32.toInt_inj, vp_in_iff, Int32.reduceToInt, mm_t1, mm_t2, mm_t3, mm_t4, mm_t10] at h1 h2 ⊢
      omega
    · refine mm_iconst 17 1 dX1_hasAll_16 rfl (by decide) ?_
      refine mm_goto 21 dX1_hasAll_17 (by decide) ?_
      refine mm_zret dX1_hasAll_21 rfl ⟨rfl, Nat.zero_le _⟩ (Or.inr rfl) ?_
      refine ht ?_
      try simp only [Int32.lt_iff_toInt_lt, Int32.le_iff_toInt_le, ← Int32.toInt_inj, vp_in_iff, Int32.reduceToInt, mm_t1, mm_t2, mm_t3, mm_t4, mm_t10] at h1 h2 ⊢
      omega

def cct (l : Launch) (G : mm_G) (C : mcx) (L : List (Nat × Nat)) (fa most n : Nat) : Prop := ∀ (d : Nat) (M : mm_M) (Q : mm_T → mm_M → Prop) (fm w tk bl ab : Int32) (f : Nat → Option Nat) (c : Nat), cst C M L fa most → ms C f → sz f + n = most → w = nI (sz f) → fm = nI c → c ≤ 36 → tkn tk f → bl.toInt = sm (lf C f) 12 → ab.toInt = sm (rf C f) 12 → snd_ C most (wd M) → (∀ M1, (∀ c, c ≠ 30 → M1 c = M c) → snd_ C most (wd M1) → moW (wd M) (wd M1) → allc C most L f c (wd M1) → Q T0 M1) → mm_met l G (d + n + 2) k_X1_court [.ref 27, .int fm, .int w, .int tk, .int bl, .int ab] T0 M (mm_pv Q)

set_option maxHeartbeats 4000000 in
theorem w_X1_court {l : Launch} {G : mm_G} {d : Nat} {C : mcx} (hC : c_ok C) {L : List (Nat × Nat)} {fa most n : Nat} (hm : most ≤ 6) (IH : cct l G C L fa most n) {M M0 : mm_M} {Q : mm_T → mm_M → Prop} {fm tk bl ab : Int32} {f : Nat → Option Nat} {c : Nat} (hs : cst C M L fa most) (hf : ms C f) (hz : sz f + (n + 1) = most) (htk : tkn tk f) (hbl : bl.toInt = sm (lf C f) 12) (hab : ab.toInt = sm (rf C f) 12) (h : ∀ M1, (∀ c, c ≠ 30 → M1 c = M c) → snd_ C most (wd M1) → moW (wd M0) (wd M1) → allc C most L f c (wd M1) → Q T0 M1) : ∀ (z e : Nat) (Mi : mm_M) {x8 x9 : Value}, L.length - e ≤ z → e ≤ 36 → (∀ c, c ≠ 30 → Mi c = M c) → snd_ C most (wd Mi) → moW (wd M0) (wd Mi) → part C most L f c e (wd Mi) → cvd C (wd Mi) f → mm_wp l G (d + (n + 1) + 2) k_X1_court (mm_pv Q) 50 [.ref 27, .int fm, .int (nI (sz f)), .int tk, .int bl, .int ab, .int (nI L.length), .int (nI e), x8, x9] [] T0 Mi 0 0 := by
  have h36 := hs.2.2.2.2.1
  have f36 := hs.2.2.2.2.2.1
  have hni : (nI L.length).toInt = L.length := mm_ti (by omega)
  intro z
  induction z using Nat.strongRecOn with | _ z ih => ?_
  intro e Mi x8 x9 hze hen ko hsn hmo hpt hcv
  have hei : (nI e).toInt = e := mm_ti (by omega)
  refine mm_iload_7 52 dX1_court_50 rfl ?_
  refine mm_iload_6 54 dX1_court_52 rfl ?_
  refine mm_ic_ge 155 57 dX1_court_54 (by decide) rfl (fun h1 => ?_) (fun h1 => ?_)
  · refine mm_vret dX1_court_155 rfl ⟨rfl, Nat.zero_le _⟩ ?_
    have hz2 : L.length ≤ e := by (try simp only [hei, hni, Int32.lt_iff_toInt_lt, Int32.le_iff_toInt_le, ← Int32.toInt_inj, vp_in_iff, Int32.reduceToInt, mm_t1, mm_t2, mm_t3, mm_t4, mm_t10] at h1); omega
    exact h Mi ko hsn hmo (allc_end hpt hz2 hcv)
  · have hlt : e < L.length := by (try simp only [hei, hni, Int32.lt_iff_toInt_lt, Int32.le_iff_toInt_le, ← Int32.toInt_inj, vp_in_iff, Int32.reduceToInt, mm_t1, mm_t2, mm_t3, mm_t4, mm_t10] at h1); omega
    obtain ⟨⟨a, b⟩, hab2⟩ : ∃ q, L[e]? = some q := ⟨_, List.getElem?_eq_getElem hlt⟩
    obtain ⟨⟨a12, b12⟩, gE, bE, uE, fE⟩ := hs.2.2.2.2.2.2 e a b hab2
    refine mm_aload_0 58 dX1_court_57 rfl ?_
    refine mm_getR 61 dX1_court_58 f_X1_9 rfl t_27 rfl ?_
    refine mm_iload_7 63 dX1_court_61 rfl ?_
    refine mm_ialoadn 64 (e) dX1_court_63 rfl t_28 (by decide) (rfl) (by omega) ?_
    refine mm_istore_8 66 dX1_court_64 rfl rfl ?_
    refine mm_iload_8 68 dX1_court_66 rfl ?_
    refine mm_if_le 149 71 dX1_court_68 (by decide) rfl (fun h2 => ?_) (fun h2 => ?_)
    · refine mm_iinc_7 152 1 dX1_court_149 rfl (by decide) rfl ?_
      refine mm_goto 50 dX1_court_152 (by decide) ?_
      rw [nI_1]
      exact ih (L.length - (e + 1)) (by omega) (e + 1) Mi (Nat.le_refl _) (by omega) ko hsn hmo (part_no hpt hab2 (fun q => by rw [ko 28 (by decide), mm_le] at h2; simp only [Int32.reduceToInt] at h2; have := (hC.1 a b q.1).2.2.1; omega)) hcv
    · refine mm_iload_3 72 dX1_court_71 rfl ?_
      refine mm_aload_0 73 dX1_court_72 rfl ?_
      refine mm_getR 76 dX1_court_73 f_X1_15 rfl t_27 rfl ?_
      refine mm_iload_7 78 dX1_court_76 rfl ?_
      refine mm_ialoadn 79 (e) dX1_court_78 rfl t_29 (by decide) (rfl) (by omega) ?_
      refine mm_iand 80 dX1_court_79 rfl ?_
      refine mm_if_ne 149 83 dX1_court_80 (by decide) rfl (fun h3 => ?_) (fun h3 => ?_)
      · refine mm_iinc_7 152 1 dX1_court_149 rfl (by decide) rfl ?_
        refine mm_goto 50 dX1_court_152 (by decide) ?_
        rw [nI_1]
        exact ih (L.length - (e + 1)) (by omega) (e + 1) Mi (Nat.le_refl _) (by omega) ko hsn hmo (part_no hpt hab2 (fun q => by rw [ko 29 (by decide), bE] at h3; exact h3 ((tkn_free hC htk hf q.1).mpr q.2))) hcv
      · have gp : 0 < C.gn a b := by rw [ko 28 (by decide), mm_le] at h2; simp only [Int32.reduceToInt] at h2; omega
        have hu := uE gp
        rw [ko 29 (by decide), bE] at h3
        have hfr := (tkn_free hC htk hf hu).mp h3
        have ha := hC.1 a b hu
        have b1 := lf_bd hC hf
        have b2 := rf_bd hC hf
        have z1 := sz_up (b := b) hfr.1 a12
        have z2 := lf_up (C := C) (b := b) hfr.1 a12
        have z3 := rf_up (C := C) (b := b) hfr.1 a12
        refine mm_iload_7 85 dX1_court_83 rfl ?_
        refine mm_aload_0 86 dX1_court_85 rfl ?_
        refine mm_getI 89 dX1_court_86 f_X1_31 rfl t_27 rfl ?_
        refine mm_ic_lt 96 92 dX1_court_89 (by decide) rfl (fun h4 => ?_) (fun h4 => ?_)
        · refine mm_iconst 97 0 dX1_court_96 rfl (by decide) ?_
          refine mm_istore_9 99 dX1_court_97 rfl rfl ?_
          refine mm_aload_0 100 dX1_court_99 rfl ?_
          refine mm_iload_7 102 dX1_court_100 rfl ?_
          refine mm_iconst 103 1 dX1_court_102 rfl (by decide) ?_
          refine mm_iadd 104 dX1_court_103 rfl ?_
          refine mm_iload_2 105 dX1_court_104 rfl ?_
          refine mm_iconst 106 1 dX1_court_105 rfl (by decide) ?_
          refine mm_iadd 107 dX1_court_106 rfl ?_
          refine mm_iload_3 108 dX1_court_107 rfl ?_
          refine mm_aload_0 109 dX1_court_108 rfl ?_
          refine mm_getR 112 dX1_court_109 f_X1_15 rfl t_27 rfl ?_
          refine mm_iload_7 114 dX1_court_112 rfl ?_
          refine mm_ialoadn 115 (e) dX1_court_114 rfl t_29 (by decide) (rfl) (by omega) ?_
          refine mm_ior 116 dX1_court_115 rfl ?_
          refine mm_iload_9 118 dX1_court_116 rfl ?_
          refine mm_if_eq 126 121 dX1_court_118 (by decide) rfl (fun _ => ?_) (fun h => absurd h (by decide))
          refine mm_iload_4 128 dX1_court_126 rfl ?_
          refine mm_iload_8 130 dX1_court_128 rfl ?_
          refine mm_iadd 131 dX1_court_130 rfl ?_
          refine mm_iload_9 133 dX1_court_131 rfl ?_
          refine mm_if_eq 144 136 dX1_court_133 (by decide) rfl (fun _ => ?_) (fun h => absurd h (by decide))
          refine mm_iload_5 146 dX1_court_144 rfl ?_
          refine mm_cS6v 149 dX1_court_146 v_X1_91 rfl (Nat.le_of_ble_eq_true rfl) ⟨rfl, rfl⟩ ⟨Nat.zero_le _, Nat.zero_le _⟩ (IH _ _ _ _ _ _ _ _ (fup f a b) (e + 1) (hs.of ko) (ms_up hf hu hfr.2) (by omega) (by rw [nI_1, z1]) (nI_1 e) (by omega) (by rw [ko 29 (by decide), bE]; exact tkn_up htk a12 b12 hfr.1) (by rw [z2, if_pos (Classical.byContradiction (fun y => absurd (fE.mpr y) (by rw [ko 27 (by decide), hs.2.1, mm_lt, hei, mm_ti (by omega)] at h4; omega))), ko 28 (by decide), mm_add (by omega), hbl, gE]) (by rw [z3, if_pos (Classical.byContradiction (fun y => absurd (fE.mpr y) (by rw [ko 27 (by decide), hs.2.1, mm_lt, hei, mm_ti (by omega)] at h4; omega))), Int.add_zero]; exact hab) hsn (fun Mk k1 k2 k3 k4 => ?_))
          refine mm_iinc_7 152 1 dX1_court_149 rfl (by decide) rfl ?_
          refine mm_goto 50 dX1_court_152 (by decide) ?_
          rw [nI_1]
          exact ih (L.length - (e + 1)) (by omega) (e + 1) Mk (Nat.le_refl _) (by omega) (fun c q => (k1 c q).trans (ko c q)) k2 (hmo.tr k3) (part_go hpt k3 hab2 hfr.1 k4) (hcv.mo k3)
        · refine mm_iconst 93 1 dX1_court_92 rfl (by decide) ?_
          refine mm_goto 97 dX1_court_93 (by decide) ?_
          refine mm_istore_9 99 dX1_court_97 rfl rfl ?_
          refine mm_aload_0 100 dX1_court_99 rfl ?_
          refine mm_iload_7 102 dX1_court_100 rfl ?_
          refine mm_iconst 103 1 dX1_court_102 rfl (by decide) ?_
          refine mm_iadd 104 dX1_court_103 rfl ?_
          refine mm_iload_2 105 dX1_court_104 rfl ?_
          refine mm_iconst 106 1 dX1_court_105 rfl (by decide) ?_
          refine mm_iadd 107 dX1_court_106 rfl ?_
          refine mm_iload_3 108 dX1_court_107 rfl ?_
          refine mm_aload_0 109 dX1_court_108 rfl ?_
          refine mm_getR 112 dX1_court_109 f_X1_15 rfl t_27 rfl ?_
          refine mm_iload_7 114 dX1_court_112 rfl ?_
          refine mm_ialoadn 115 (e) dX1_court_114 rfl t_29 (by decide) (rfl) (by omega) ?_
          refine mm_ior 116 dX1_court_115 rfl ?_
          refine mm_iload_9 118 dX1_court_116 rfl ?_
          refine mm_if_eq 126 121 dX1_court_118 (by decide) rfl (fun h => absurd h (by decide)) (fun _ => ?_)
          refine mm_iload_4 123 dX1_court_121 rfl ?_
          refine mm_goto 131 dX1_court_123 (by decide) ?_
          refine mm_iload_9 133 dX1_court_131 rfl ?_
          refine mm_if_eq 144 136 dX1_court_133 (by decide) rfl (fun h => absurd h (by decide)) (fun _ => ?_)
          refine mm_iload_5 138 dX1_court_136 rfl ?_
          refine mm_iload_8 140 dX1_court_138 rfl ?_
          refine mm_iadd 141 dX1_court_140 rfl ?_
          refine mm_goto 146 dX1_court_141 (by decide) ?_
          refine mm_cS6v 149 dX1_court_146 v_X1_91 rfl (Nat.le_of_ble_eq_true rfl) ⟨rfl, rfl⟩ ⟨Nat.zero_le _, Nat.zero_le _⟩ (IH _ _ _ _ _ _ _ _ (fup f a b) (e + 1) (hs.of ko) (ms_up hf hu hfr.2) (by omega) (by rw [nI_1, z1]) (nI_1 e) (by omega) (by rw [ko 29 (by decide), bE]; exact tkn_up htk a12 b12 hfr.1) (by rw [z2, if_neg (fE.mp (by rw [ko 27 (by decide), hs.2.1, mm_lt, hei, mm_ti (by omega)] at h4; omega)), Int.add_zero]; exact hbl) (by rw [z3, if_neg (fE.mp (by rw [ko 27 (by decide), hs.2.1, mm_lt, hei, mm_ti (by omega)] at h4; omega)), ko 28 (by decide), mm_add (by omega), hab, gE]) hsn (fun Mk k1 k2 k3 k4 => ?_))
          refine mm_iinc_7 152 1 dX1_court_149 rfl (by decide) rfl ?_
          refine mm_goto 50 dX1_court_152 (by decide) ?_
          rw [nI_1]
          exact ih (L.length - (e + 1)) (by omega) (e + 1) Mk (Nat.le_refl _) (by omega) (fun c q => (k1 c q).trans (ko c q)) k2 (hmo.tr k3) (part_go hpt k3 hab2 hfr.1 k4) (hcv.mo k3)

set_option maxHeartbeats 4000000 in
theorem c_X1_court0 {l : Launch} {G : mm_G} {C : mcx} (hC : c_ok C) {L : List (Nat × Nat)} {fa most : Nat} (hm : most ≤ 6) : cct l G C L fa most 0 := by
  intro d M Q fm w tk bl ab f c hs hf hz hw hc c36 htk hbl hab hsn h
  subst hw
  subst hc
  have h36 := hs.2.2.2.2.1
  refine mm_enter 4 [.ref 27, .int (nI c), .int (nI (sz f)), .int tk, .int bl, .int ab, .double 0, .double 0, .double 0, .double 0] o_X1_court rfl rfl ?_
  refine mm_aload_0 1 dX1_court_0 rfl ?_
  refine mm_iload_2 2 dX1_court_1 rfl ?_
  refine mm_iload_4 4 dX1_court_2 rfl ?_
  refine mm_iload_5 6 dX1_court_4 rfl ?_
  refine mm_cV3v 9 dX1_court_6 v_X1_95 rfl t_27 (by decide) rfl rfl (Nat.le_of_ble_eq_true rfl) ⟨rfl, rfl⟩ ⟨Nat.zero_le _, Nat.zero_le _⟩ (c_X1_note rfl (by omega) (note_V hC hf hs.1.1 hs.1.2.1 hs.1.2.2 hbl hab) (fun M1 q1 q2 => ?_))
  obtain ⟨n1, n2⟩ := note_snd hf (by omega) hsn q2
  have n3 := note_cvd (by omega) q2
  refine mm_iload_2 10 dX1_court_9 rfl ?_
  refine mm_aload_0 11 dX1_court_10 rfl ?_
  refine mm_getI 14 dX1_court_11 f_X1_34 rfl t_27 rfl ?_
  rw [q1 27 (by decide), hs.2.2.1]
  refine mm_ic_ge 28 17 dX1_court_14 (by decide) rfl (fun h1 => ?_) (fun h1 => absurd (by rw [mm_le, mm_ti (by omega), mm_ti (by omega)]; omega) h1)
  refine mm_vret dX1_court_28 rfl ⟨rfl, Nat.zero_le _⟩ ?_
  exact h M1 q1 n1 n2 (allc_most hC (by omega) n3)

set_option maxHeartbeats 4000000 in
theorem c_X1_courtS {l : Launch} {G : mm_G} {C : mcx} (hC : c_ok C) {L : List (Nat × Nat)} {fa most n : Nat} (hm : most ≤ 6) (IH : cct l G C L fa most n) : cct l G C L fa most (n + 1) := by
  intro d M Q fm w tk bl ab f c hs hf hz hw hc c36 htk hbl hab hsn h
  subst hw
  subst hc
  have h36 := hs.2.2.2.2.1
  refine mm_enter 4 [.ref 27, .int (nI c), .int (nI (sz f)), .int tk, .int bl, .int ab, .double 0, .double 0, .double 0, .double 0] o_X1_court rfl rfl ?_
  refine mm_aload_0 1 dX1_court_0 rfl ?_
  refine mm_iload_2 2 dX1_court_1 rfl ?_
  refine mm_iload_4 4 dX1_court_2 rfl ?_
  refine mm_iload_5 6 dX1_court_4 rfl ?_
  refine mm_cV3v 9 dX1_court_6 v_X1_95 rfl t_27 (by decide) rfl rfl (Nat.le_of_ble_eq_true rfl) ⟨rfl, rfl⟩ ⟨Nat.zero_le _, Nat.zero_le _⟩ (c_X1_note rfl (by omega) (note_V hC hf hs.1.1 hs.1.2.1 hs.1.2.2 hbl hab) (fun M1 q1 q2 => ?_))
  obtain ⟨n1, n2⟩ := note_snd hf (by omega) hsn q2
  have n3 := note_cvd (by omega) q2
  refine mm_iload_2 10 dX1_court_9 rfl ?_
  refine mm_aload_0 11 dX1_court_10 rfl ?_
  refine mm_getI 14 dX1_court_11 f_X1_34 rfl t_27 rfl ?_
  rw [q1 27 (by decide), hs.2.2.1]
  refine mm_ic_ge 28 17 dX1_court_14 (by decide) rfl (fun h1 => absurd h1 (by rw [mm_le, mm_ti (by omega), mm_ti (by omega)]; omega)) (fun h1 => ?_)
  refine mm_aload_0 18 dX1_court_17 rfl ?_
  refine mm_iload_4 20 dX1_court_18 rfl ?_
  refine mm_iload_5 22 dX1_court_20 rfl ?_
  refine mm_cV2i 25 dX1_court_22 v_X1_99 rfl t_27 (by decide) rfl rfl (Nat.le_of_ble_eq_true rfl) ⟨rfl, rfl⟩ ⟨Nat.zero_le _, Nat.zero_le _⟩ (c_X1_hasAll (fun h1 => ?_) (fun h1 => ?_))
  · refine mm_if_eq 29 28 dX1_court_25 (by decide) rfl (fun h => absurd h (by decide)) (fun _ => ?_)
    refine mm_vret dX1_court_28 rfl ⟨rfl, Nat.zero_le _⟩ ?_
    rw [q1 27 (by decide), hs.1.2.1, hs.1.2.2, hbl, hab] at h1
    exact h M1 q1 n1 n2 (allc_all hC h1.1 h1.2 n3)
  · refine mm_if_eq 29 28 dX1_court_25 (by decide) rfl (fun _ => ?_) (fun h => absurd h (by decide))
    refine mm_aload_0 30 dX1_court_29 rfl ?_
    refine mm_getR 33 dX1_court_30 f_X1_46 rfl t_27 rfl ?_
    refine mm_cV0i 36 dX1_court_33 v_X1_75 rfl t_31 (by decide) rfl rfl (Nat.le_of_ble_eq_true rfl) ⟨rfl, rfl⟩ ⟨Nat.zero_le _, Nat.zero_le _⟩ (c_X0_number t_31 t_32 t_33 (fun r2 e2 => ?_))
    refine mm_bipush 38 36 dX1_court_36 rfl (by decide) ?_
    refine mm_mmin 41 dX1_court_38 j_X1_66 rfl (Nat.le_of_ble_eq_true rfl) ⟨Nat.zero_le _, Nat.zero_le _⟩ ?_
    rw [e2, q1 31 (by decide), hs.2.2.2.1.1, if_neg (by rw [mm_lt, mm_ti (by omega)]; simp only [Int32.reduceToInt]; omega)]
    refine mm_istore_6 43 dX1_court_41 rfl rfl ?_
    refine mm_iload_1 44 dX1_court_43 rfl ?_
    refine mm_iconst 45 0 dX1_court_44 rfl (by decide) ?_
    refine mm_mmax 48 dX1_court_45 j_X1_54 rfl (Nat.le_of_ble_eq_true rfl) ⟨Nat.zero_le _, Nat.zero_le _⟩ ?_
    rw [if_neg (by rw [mm_lt, mm_ti (by omega)]; simp only [Int32.reduceToInt]; omega)]
    refine mm_istore_7 50 dX1_court_48 rfl rfl ?_
    exact w_X1_court hC hm IH (hs.of q1) hf hz htk hbl hab (fun M2 a1 a2 a3 a4 => h M2 (fun c q => (a1 c q).trans (q1 c q)) a2 a3 a4) L.length c M1 (by omega) (by omega) (fun _ _ => rfl) n1 n2 part_0 n3

theorem c_X1_court {l : Launch} {G : mm_G} {C : mcx} (hC : c_ok C) {L : List (Nat × Nat)} {fa most : Nat} (hm : most ≤ 6) : ∀ n, cct l G C L fa most n
  | 0 => c_X1_court0 hC hm
  | n + 1 => c_X1_courtS hC hm (c_X1_court hC hm n)

