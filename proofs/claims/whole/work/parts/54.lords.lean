/-! Two lords in turn, in the class -/
theorem take_s {L : List (Nat × Nat)} {e : Nat} {q : Nat × Nat} (h : L[e]? = some q) : L.take (e + 1) = L.take e ++ [q] := by
  rw [List.take_add_one, h]
  rfl
def hsi (acc : Option (Int × Nat × Nat)) : Int32 := match acc with
  | none => 0
  | some _ => 1
theorem hsi_0 {acc : Option (Int × Nat × Nat)} (h : hsi acc = 0) : acc = none := by
  cases acc with
  | none => rfl
  | some r => exact absurd h (by show ¬ (1 : Int32) = 0; decide)
theorem hsi_1 {acc : Option (Int × Nat × Nat)} (h : ¬ hsi acc = 0) : ∃ r, acc = some r := by
  cases acc with
  | none => exact absurd rfl h
  | some r => exact ⟨r, rfl⟩
def lok (A : mm_M) (L : List (Nat × Nat)) : Prop := L.length ≤ 36 ∧ ∀ (e a b : Nat), L[e]? = some (a, b) → a < a_np A ∧ b < a_np A
def tvf (A : mm_M) (all : Int) (L : List (Nat × Nat)) (n dp : Nat) (U : Nat → Bool) (w : Int) (q : Nat × Nat) : Int := tvl (zg A) all L n (dp + 1) (uad U q) (clp all (w + zg A q.1 q.2))
theorem tvl_s {A : mm_M} {all : Int} {L : List (Nat × Nat)} {n dp : Nat} {U : Nat → Bool} {w : Int} : tvl (zg A) all L (n + 1) dp U w = rsl (tgo dp (fre2 U) (tvf A all L n dp U w) L none) (2 * w - all) := rfl
def tct (l : Launch) (G : mm_G) (A : mm_M) (L : List (Nat × Nat)) (all : Int) (n : Nat) : Prop := ∀ (d : Nat) (M : mm_M) (Q : Int32 → mm_T → mm_M → Prop) (dp : Nat) (x tk w ow : Int32) (U : Nat → Bool), fr A M → crep M 35 36 37 L → dp + n = 4 → x = nI dp → tkU tk U → 0 ≤ w.toInt → 0 ≤ ow.toInt → w.toInt + ow.toInt = all → (∀ r M1, r.toInt = tvl (zg A) all L n dp U w.toInt → (∀ c, c ≠ 34 → M1 c = M c) → (dp ≠ 0 → M1 = M) → (∀ m, dp = 0 → n = m + 1 → M1 34 2 = fpi (M 34 2) (tgo dp (fre2 U) (tvf A all L m dp U w.toInt) L none)) → Q r T0 M1) → mm_met l G (d + n + 4) k_X9_takeTurn [.ref 34, .int x, .int tk, .int w, .int ow] T0 M (mm_pi Q)

set_option maxHeartbeats 4000000 in
theorem c_X9_noteFirst {l : Launch} {G : mm_G} {d : Nat} {M : mm_M} {Q : mm_T → mm_M → Prop} {L : List (Nat × Nat)} (hL : crep M 35 36 37 L) (h36 : L.length ≤ 36) {x y : Int32} {dp e a b : Nat} (hx : x = nI dp) (hdp : dp < 1000) (hy : y = nI e) (he : L[e]? = some (a, b)) (h : ∀ M1, (∀ c, c ≠ 34 → M1 c = M c) → (dp ≠ 0 → M1 = M) → (dp = 0 → M1 34 2 = nI (12 * a + b)) → Q T0 M1) : mm_met l G (d + 2) k_X9_noteFirst [.ref 34, .int x, .int y] T0 M (mm_pv Q) := by
  refine mm_enter 0 [.ref 34, .int x, .int y] o_X9_noteFirst rfl rfl ?_
  refine mm_iload_1 1 dX9_noteFirst_0 rfl ?_
  refine mm_if_ne 28 4 dX9_noteFirst_1 (by decide) rfl (fun h1 => ?_) (fun h1 => ?_)
  · refine mm_vret dX9_noteFirst_28 rfl ⟨rfl, Nat.zero_le _⟩ ?_
    exact h M (fun _ _ => rfl) (fun _ => rfl) (fun q => absurd (by rw [hx, q]; rfl) h1)
  · refine mm_aload_0 5 dX9_noteFirst_4 rfl ?_
    refine mm_bipush 7 12 dX9_noteFirst_5 rfl (by decide) ?_
    refine mm_aload_0 8 dX9_noteFirst_7 rfl ?_
    refine mm_getR 11 dX9_noteFirst_8 f_X9_24 rfl t_34 rfl ?_
    refine mm_iload_2 12 dX9_noteFirst_11 rfl ?_
    refine mm_cV1i 15 dX9_noteFirst_12 v_X9_62 rfl t_35 (by decide) rfl rfl (Nat.le_of_ble_eq_true rfl) ⟨rfl, rfl⟩ ⟨Nat.zero_le _, Nat.zero_le _⟩ (c_X0_oneOf t_35 t_36 t_37 hL h36 hy he (fun r2 e2 => ?_))
    refine mm_imul 16 dX9_noteFirst_15 rfl ?_
    refine mm_aload_0 17 dX9_noteFirst_16 rfl ?_
    refine mm_getR 20 dX9_noteFirst_17 f_X9_24 rfl t_34 rfl ?_
    refine mm_iload_2 21 dX9_noteFirst_20 rfl ?_
    refine mm_cV1i 24 dX9_noteFirst_21 v_X9_65 rfl t_35 (by decide) rfl rfl (Nat.le_of_ble_eq_true rfl) ⟨rfl, rfl⟩ ⟨Nat.zero_le _, Nat.zero_le _⟩ (c_X0_otherOf t_35 t_36 t_37 hL h36 hy he (fun r3 e3 => ?_))
    refine mm_iadd 25 dX9_noteFirst_24 rfl ?_
    refine mm_putI 28 dX9_noteFirst_25 p_X9_9 ⟨rfl, rfl⟩ rfl t_34 rfl ?_
    refine mm_vret dX9_noteFirst_28 rfl ⟨rfl, Nat.zero_le _⟩ ?_
    have d0 : dp = 0 := by
      have q := congrArg Int32.toInt h1
      rw [hx, mm_ti (by omega)] at q
      simp only [Int32.reduceToInt] at q
      omega
    rw [e2, e3, mm_l12, pk_mul, nI_add]
    exact h _ (fun c q => mm_upn _ _ _ q) (fun q => absurd d0 q) (fun _ => mm_upv _ _ _ _)

set_option maxHeartbeats 4000000 in
theorem w_X9_take {l : Launch} {G : mm_G} {d : Nat} {A : mm_M} (hi : iv A) {L : List (Nat × Nat)} (hl : lok A L) {all : Int} (hb : all ≤ 20000) {n : Nat} (IH : tct l G A L all n) {M : mm_M} {Q : Int32 → mm_T → mm_M → Prop} {dp : Nat} {tk w ow s : Int32} {U : Nat → Bool} (hf : fr A M) (hc : crep M 35 36 37 L) (hdn : dp + (n + 1) = 4) (htk : tkU tk U) (w0 : 0 ≤ w.toInt) (o0 : 0 ≤ ow.toInt) (hall : w.toInt + ow.toInt = all) (hs : s = if dp % 2 = 0 then 1 else 0) (h : ∀ r M1, r.toInt = rsl (tgo dp (fre2 U) (tvf A all L n dp U w.toInt) L none) (2 * w.toInt - all) → (∀ c, c ≠ 34 → M1 c = M c) → (dp ≠ 0 → M1 = M) → (dp = 0 → M1 34 2 = fpi (M 34 2) (tgo dp (fre2 U) (tvf A all L n dp U w.toInt) L none)) → Q r T0 M1) : ∀ (z e : Nat) (Mi : mm_M) (best : Int32) (acc : Option (Int × Nat × Nat)) {x9 x10 x11 : Value}, L.length - e ≤ z → e ≤ L.length → acc = (tgo dp (fre2 U) (tvf A all L n dp U w.toInt) (L.take e) none) → best.toInt = rsl acc (2 * w.toInt - all) → (∀ c, c ≠ 34 → Mi c = M c) → (dp ≠ 0 → Mi = M) → (dp = 0 → Mi 34 2 = fpi (M 34 2) acc) → mm_wp l G (d + (n + 1) + 4) k_X9_takeTurn (mm_pi Q) 33 [.ref 34, .int (nI dp), .int tk, .int w, .int ow, .int best, .int s, .int (hsi acc), .int (nI e), x9, x10, x11] [] T0 Mi 0 0 := by
  have n12 := hi.1.np
  have h36 := hl.1
  have hni : (nI L.length).toInt = L.length := mm_ti (by omega)
  intro z
  induction z using Nat.strongRecOn with | _ z ih => ?_
  intro e Mi best acc x9 x10 x11 hze hen hacc hbest ko kd k0
  have hei : (nI e).toInt = e := mm_ti (by omega)
  have fi : fr A Mi := hf.kk (fun c q => ko c (by omega))
  have ci : crep Mi 35 36 37 L := hc.of (by rw [ko 35 (by decide)]) (ko 36 (by decide)) (ko 37 (by decide))
  refine mm_iload_8 35 dX9_takeTurn_33 rfl ?_
  refine mm_aload_0 36 dX9_takeTurn_35 rfl ?_
  refine mm_getR 39 dX9_takeTurn_36 f_X9_24 rfl t_34 rfl ?_
  refine mm_cV0i 42 dX9_takeTurn_39 v_X9_45 rfl t_35 (by decide) rfl rfl (Nat.le_of_ble_eq_true rfl) ⟨rfl, rfl⟩ ⟨Nat.zero_le _, Nat.zero_le _⟩ (c_X0_number t_35 t_36 t_37 (fun r1 e1 => ?_))
  rw [e1, ci.1]
  refine mm_ic_ge 152 45 dX9_takeTurn_42 (by decide) rfl (fun h2 => ?_) (fun h2 => ?_)
  · refine mm_iload_5 154 dX9_takeTurn_152 rfl ?_
    refine mm_iret dX9_takeTurn_154 rfl ⟨rfl, Nat.zero_le _⟩ ?_
    have hz : e = L.length := by (try simp only [hei, hni, Int32.lt_iff_toInt_lt, Int32.le_iff_toInt_le, ← Int32.toInt_inj, vp_in_iff, Int32.reduceToInt, mm_t1, mm_t2, mm_t3, mm_t4, mm_t10] at h2); omega
    rw [hz, List.take_length] at hacc
    rw [hacc] at hbest k0
    exact h _ Mi hbest ko kd k0
  · have hlt : e < L.length := by (try simp only [hei, hni, Int32.lt_iff_toInt_lt, Int32.le_iff_toInt_le, ← Int32.toInt_inj, vp_in_iff, Int32.reduceToInt, mm_t1, mm_t2, mm_t3, mm_t4, mm_t10] at h2); omega
    obtain ⟨⟨a, b⟩, hab⟩ : ∃ q, L[e]? = some q := ⟨_, List.getElem?_eq_getElem hlt⟩
    have ab := hl.2 e a b hab
    have gB := zg_b hi ab.1 ab.2
    have tS := take_s hab
    refine mm_aload_0 46 dX9_takeTurn_45 rfl ?_
    refine mm_getR 49 dX9_takeTurn_46 f_X9_24 rfl t_34 rfl ?_
    refine mm_iload_8 51 dX9_takeTurn_49 rfl ?_
    refine mm_cV1i 54 dX9_takeTurn_51 v_X9_49 rfl t_35 (by decide) rfl rfl (Nat.le_of_ble_eq_true rfl) ⟨rfl, rfl⟩ ⟨Nat.zero_le _, Nat.zero_le _⟩ (c_X0_bitsOf t_35 t_36 t_37 ci hl.1 rfl hab (fun r3 e3 => ?_))
    rw [e3]
    refine mm_istore_9 56 dX9_takeTurn_54 rfl rfl ?_
    refine mm_iload_2 57 dX9_takeTurn_56 rfl ?_
    refine mm_iload_9 59 dX9_takeTurn_57 rfl ?_
    refine mm_iand 60 dX9_takeTurn_59 rfl ?_
    refine mm_if_eq 66 63 dX9_takeTurn_60 (by decide) rfl (fun h4 => ?_) (fun h4 => ?_)
    · refine mm_aload_0 67 dX9_takeTurn_66 rfl ?_
      refine mm_getR 70 dX9_takeTurn_67 f_X9_24 rfl t_34 rfl ?_
      refine mm_iload_8 72 dX9_takeTurn_70 rfl ?_
      refine mm_cV1i 75 dX9_takeTurn_72 v_X9_52 rfl t_35 (by decide) rfl rfl (Nat.le_of_ble_eq_true rfl) ⟨rfl, rfl⟩ ⟨Nat.zero_le _, Nat.zero_le _⟩ (c_X0_differenceOf t_35 t_36 t_37 hi fi ci hl.1 rfl hab ab.1 ab.2 (fun r5 e5 => ?_))
      refine mm_iload_3 76 dX9_takeTurn_75 rfl ?_
      refine mm_iload_4 78 dX9_takeTurn_76 rfl ?_
      refine mm_cS3i 81 dX9_takeTurn_78 v_X9_55 rfl (Nat.le_of_ble_eq_true rfl) ⟨rfl, rfl⟩ ⟨Nat.zero_le _, Nat.zero_le _⟩ (c_X10_gain  (fun r6 e6 => ?_))
      rw [e6, e5]
      have okq : fre2 U (a, b) = true := (tkU_f htk (by omega) (by omega)).mp h4
      have cg := clp_g (g := zgi A a b) (w := w) (v := ow) gB w0 o0 hall hb
      refine mm_istore_10 83 dX9_takeTurn_81 rfl rfl ?_
      refine mm_aload_0 84 dX9_takeTurn_83 rfl ?_
      refine mm_iload_1 85 dX9_takeTurn_84 rfl ?_
      refine mm_iconst 86 1 dX9_takeTurn_85 rfl (by decide) ?_
      refine mm_iadd 87 dX9_takeTurn_86 rfl ?_
      refine mm_iload_2 88 dX9_takeTurn_87 rfl ?_
      refine mm_iload_9 90 dX9_takeTurn_88 rfl ?_
      refine mm_ior 91 dX9_takeTurn_90 rfl ?_
      refine mm_iload_3 92 dX9_takeTurn_91 rfl ?_
      refine mm_iload_10 94 dX9_takeTurn_92 rfl ?_
      refine mm_iadd 95 dX9_takeTurn_94 rfl ?_
      refine mm_iload_4 97 dX9_takeTurn_95 rfl ?_
      refine mm_iload_10 99 dX9_takeTurn_97 rfl ?_
      refine mm_isub 100 dX9_takeTurn_99 rfl ?_
      refine mm_cS5i 103 dX9_takeTurn_100 v_X9_41 rfl (Nat.le_of_ble_eq_true rfl) ⟨rfl, rfl⟩ ⟨Nat.zero_le _, Nat.zero_le _⟩ (IH _ _ _ (dp + 1) _ _ _ _ (uad U (a, b)) fi ci (by omega) (nI_1 dp) (tkU_up htk (by omega) (by omega)) (by rw [cg.1]; exact (clp_b (by omega)).1) (by rw [cg.2]; have := (clp_b (all := all) (w := w.toInt + (zgi A a b).toInt) (by omega)).2; omega) (by rw [cg.1, cg.2]; omega) (fun r M1 r1 r2 r3 r4 => ?_))
      have r3 := r3 (by omega)
      subst r3
      clear r2 r4
      have rv : r.toInt = tvf A all L n dp U w.toInt (a, b) := by rw [r1, cg.1]; rfl
      refine mm_istore_11 105 dX9_takeTurn_103 rfl rfl ?_
      refine mm_iload_7 107 dX9_takeTurn_105 rfl ?_
      refine mm_if_eq 132 110 dX9_takeTurn_107 (by decide) rfl (fun h7 => ?_) (fun h7 => ?_)
      · refine mm_iload_11 134 dX9_takeTurn_132 rfl ?_
        refine mm_istore_5 136 dX9_takeTurn_134 rfl rfl ?_
        refine mm_iconst 137 1 dX9_takeTurn_136 rfl (by decide) ?_
        refine mm_istore_7 139 dX9_takeTurn_137 rfl rfl ?_
        refine mm_aload_0 140 dX9_takeTurn_139 rfl ?_
        refine mm_iload_1 141 dX9_takeTurn_140 rfl ?_
        refine mm_iload_8 143 dX9_takeTurn_141 rfl ?_
        refine mm_cV2v 146 dX9_takeTurn_143 v_X9_59 rfl t_34 (by decide) rfl rfl (Nat.le_of_ble_eq_true rfl) ⟨rfl, rfl⟩ ⟨Nat.zero_le _, Nat.zero_le _⟩ (c_X9_noteFirst ci hl.1 rfl (by omega) rfl hab (fun M2 n1 n2 n3 => ?_))
        refine mm_iinc_8 149 1 dX9_takeTurn_146 rfl (by decide) rfl ?_
        refine mm_goto 33 dX9_takeTurn_149 (by decide) ?_
        have an : acc = none := hsi_0 h7
        have bt : tbet dp acc r.toInt (a, b) = some (r.toInt, a, b) := by rw [an]; rfl
        rw [nI_1]
        exact ih (L.length - (e + 1)) (by omega) (e + 1) M2 r (some (r.toInt, a, b)) (Nat.le_refl _) (by omega) (by rw [tS, tgo_1 okq, ← hacc, ← rv, bt]) rfl (fun c q => (n1 c q).trans (ko c q)) (fun q => (n2 q).trans (kd q)) (fun q => by rw [n3 q]; rfl)
      · refine mm_iload_6 112 dX9_takeTurn_110 rfl ?_
        refine mm_if_eq 125 115 dX9_takeTurn_112 (by decide) rfl (fun h8 => ?_) (fun h8 => ?_)
        · refine mm_iload_11 127 dX9_takeTurn_125 rfl ?_
          refine mm_iload_5 129 dX9_takeTurn_127 rfl ?_
          refine mm_ic_ge 146 132 dX9_takeTurn_129 (by decide) rfl (fun h9 => ?_) (fun h9 => ?_)
          · refine mm_iinc_8 149 1 dX9_takeTurn_146 rfl (by decide) rfl ?_
            refine mm_goto 33 dX9_takeTurn_149 (by decide) ?_
            obtain ⟨ra, an⟩ := hsi_1 h7
            have be : best.toInt = ra.1 := by rw [hbest, an]; rfl
            have od : ¬ dp % 2 = 0 := fun q => by rw [hs, if_pos q] at h8; exact absurd h8 (by decide)
            have cm : ¬ r.toInt < ra.1 := by rw [mm_le] at h9; omega
            have bt : tbet dp acc r.toInt (a, b) = acc := by
              rw [an]
              show (if (dp % 2 = 0 ∧ ra.1 < r.toInt) ∨ (¬ dp % 2 = 0 ∧ r.toInt < ra.1) then _ else _) = _
              rw [if_neg (fun q => (by rcases q with q | q; exact od q.1; exact cm q.2))]
            rw [nI_1]
            exact ih (L.length - (e + 1)) (by omega) (e + 1) _ best acc (Nat.le_refl _) (by omega) (by rw [tS, tgo_1 okq, ← hacc, ← rv, bt]) hbest ko kd k0
          · refine mm_iload_11 134 dX9_takeTurn_132 rfl ?_
            refine mm_istore_5 136 dX9_takeTurn_134 rfl rfl ?_
            refine mm_iconst 137 1 dX9_takeTurn_136 rfl (by decide) ?_
            refine mm_istore_7 139 dX9_takeTurn_137 rfl rfl ?_
            refine mm_aload_0 140 dX9_takeTurn_139 rfl ?_
            refine mm_iload_1 141 dX9_takeTurn_140 rfl ?_
            refine mm_iload_8 143 dX9_takeTurn_141 rfl ?_
            refine mm_cV2v 146 dX9_takeTurn_143 v_X9_59 rfl t_34 (by decide) rfl rfl (Nat.le_of_ble_eq_true rfl) ⟨rfl, rfl⟩ ⟨Nat.zero_le _, Nat.zero_le _⟩ (c_X9_noteFirst ci hl.1 rfl (by omega) rfl hab (fun M2 n1 n2 n3 => ?_))
            refine mm_iinc_8 149 1 dX9_takeTurn_146 rfl (by decide) rfl ?_
            refine mm_goto 33 dX9_takeTurn_149 (by decide) ?_
            obtain ⟨ra, an⟩ := hsi_1 h7
            have be : best.toInt = ra.1 := by rw [hbest, an]; rfl
            have od : ¬ dp % 2 = 0 := fun q => by rw [hs, if_pos q] at h8; exact absurd h8 (by decide)
            have cm : r.toInt < ra.1 := by rw [mm_le] at h9; omega
            have bt : tbet dp acc r.toInt (a, b) = some (r.toInt, a, b) := by
              rw [an]
              show (if (dp % 2 = 0 ∧ ra.1 < r.toInt) ∨ (¬ dp % 2 = 0 ∧ r.toInt < ra.1) then _ else _) = _
              rw [if_pos (Or.inr ⟨od, cm⟩)]
            rw [nI_1]
            exact ih (L.length - (e + 1)) (by omega) (e + 1) M2 r (some (r.toInt, a, b)) (Nat.le_refl _) (by omega) (by rw [tS, tgo_1 okq, ← hacc, ← rv, bt]) rfl (fun c q => (n1 c q).trans (ko c q)) (fun q => (n2 q).trans (kd q)) (fun q => by rw [n3 q]; rfl)
        · refine mm_iload_11 117 dX9_takeTurn_115 rfl ?_
          refine mm_iload_5 119 dX9_takeTurn_117 rfl ?_
          refine mm_ic_le 146 122 dX9_takeTurn_119 (by decide) rfl (fun h10 => ?_) (fun h10 => ?_)
          · refine mm_iinc_8 149 1 dX9_takeTurn_146 rfl (by decide) rfl ?_
            refine mm_goto 33 dX9_takeTurn_149 (by decide) ?_
            obtain ⟨ra, an⟩ := hsi_1 h7
            have be : best.toInt = ra.1 := by rw [hbest, an]; rfl
            have od : dp % 2 = 0 := Classical.byContradiction (fun q => h8 (by rw [hs, if_neg q]))
            have cm : ¬ ra.1 < r.toInt := by rw [mm_le] at h10; omega
            have bt : tbet dp acc r.toInt (a, b) = acc := by
              rw [an]
              show (if (dp % 2 = 0 ∧ ra.1 < r.toInt) ∨ (¬ dp % 2 = 0 ∧ r.toInt < ra.1) then _ else _) = _
              rw [if_neg (fun q => (by rcases q with q | q; exact cm q.2; exact q.1 od))]
            rw [nI_1]
            exact ih (L.length - (e + 1)) (by omega) (e + 1) _ best acc (Nat.le_refl _) (by omega) (by rw [tS, tgo_1 okq, ← hacc, ← rv, bt]) hbest ko kd k0
          · refine mm_goto 132 dX9_takeTurn_122 (by decide) ?_
            refine mm_iload_11 134 dX9_takeTurn_132 rfl ?_
            refine mm_istore_5 136 dX9_takeTurn_134 rfl rfl ?_
            refine mm_iconst 137 1 dX9_takeTurn_136 rfl (by decide) ?_
            refine mm_istore_7 139 dX9_takeTurn_137 rfl rfl ?_
            refine mm_aload_0 140 dX9_takeTurn_139 rfl ?_
            refine mm_iload_1 141 dX9_takeTurn_140 rfl ?_
            refine mm_iload_8 143 dX9_takeTurn_141 rfl ?_
            refine mm_cV2v 146 dX9_takeTurn_143 v_X9_59 rfl t_34 (by decide) rfl rfl (Nat.le_of_ble_eq_true rfl) ⟨rfl, rfl⟩ ⟨Nat.zero_le _, Nat.zero_le _⟩ (c_X9_noteFirst ci hl.1 rfl (by omega) rfl hab (fun M2 n1 n2 n3 => ?_))
            refine mm_iinc_8 149 1 dX9_takeTurn_146 rfl (by decide) rfl ?_
            refine mm_goto 33 dX9_takeTurn_149 (by decide) ?_
            obtain ⟨ra, an⟩ := hsi_1 h7
            have be : best.toInt = ra.1 := by rw [hbest, an]; rfl
            have od : dp % 2 = 0 := Classical.byContradiction (fun q => h8 (by rw [hs, if_neg q]))
            have cm : ra.1 < r.toInt := by rw [mm_le] at h10; omega
            have bt : tbet dp acc r.toInt (a, b) = some (r.toInt, a, b) := by
              rw [an]
              show (if (dp % 2 = 0 ∧ ra.1 < r.toInt) ∨ (¬ dp % 2 = 0 ∧ r.toInt < ra.1) then _ else _) = _
              rw [if_pos (Or.inl ⟨od, cm⟩)]
            rw [nI_1]
            exact ih (L.length - (e + 1)) (by omega) (e + 1) M2 r (some (r.toInt, a, b)) (Nat.le_refl _) (by omega) (by rw [tS, tgo_1 okq, ← hacc, ← rv, bt]) rfl (fun c q => (n1 c q).trans (ko c q)) (fun q => (n2 q).trans (kd q)) (fun q => by rw [n3 q]; rfl)
    · refine mm_goto 146 dX9_takeTurn_63 (by decide) ?_
      refine mm_iinc_8 149 1 dX9_takeTurn_146 rfl (by decide) rfl ?_
      refine mm_goto 33 dX9_takeTurn_149 (by decide) ?_
      rw [nI_1]
      have nok : ¬ fre2 U (a, b) = true := fun q => h4 ((tkU_f htk (by omega) (by omega)).mpr q)
      exact ih (L.length - (e + 1)) (by omega) (e + 1) Mi best acc (Nat.le_refl _) (by omega) (by rw [tS, tgo_0 nok]; exact hacc) hbest ko kd k0

set_option maxHeartbeats 4000000 in
theorem c_X9_take0 {l : Launch} {G : mm_G} {A : mm_M} {L : List (Nat × Nat)} {all : Int} (hb : all ≤ 20000) : tct l G A L all 0 := by
  intro d M Q dp x tk w ow U hf hc hdn hx htk w0 o0 hall h
  subst hx
  have hdi : (nI dp).toInt = dp := mm_ti (by omega)
  have sb := mm_sub (a := w) (b := ow) (by omega)
  refine mm_enter 7 [.ref 34, .int (nI dp), .int tk, .int w, .int ow, .double 0, .double 0, .double 0, .double 0, .double 0, .double 0, .double 0] o_X9_takeTurn rfl rfl ?_
  refine mm_iload_3 1 dX9_takeTurn_0 rfl ?_
  refine mm_iload_4 3 dX9_takeTurn_1 rfl ?_
  refine mm_isub 4 dX9_takeTurn_3 rfl ?_
  refine mm_istore_5 6 dX9_takeTurn_4 rfl rfl ?_
  refine mm_iload_1 7 dX9_takeTurn_6 rfl ?_
  refine mm_iconst 8 4 dX9_takeTurn_7 rfl (by decide) ?_
  refine mm_ic_lt 14 11 dX9_takeTurn_8 (by decide) rfl (fun h1 => absurd h1 (by rw [mm_lt, hdi]; simp only [Int32.reduceToInt]; omega)) (fun h1 => ?_)
  refine mm_iload_5 13 dX9_takeTurn_11 rfl ?_
  refine mm_iret dX9_takeTurn_13 rfl ⟨rfl, Nat.zero_le _⟩ ?_
  refine h _ M ?_ (fun _ _ => rfl) (fun _ => rfl) (fun m q1 q2 => by omega)
  rw [sb]
  show _ = 2 * w.toInt - all
  omega

set_option maxHeartbeats 4000000 in
theorem c_X9_takeS {l : Launch} {G : mm_G} {A : mm_M} (hi : iv A) {L : List (Nat × Nat)} (hl : lok A L) {all : Int} (hb : all ≤ 20000) {n : Nat} (IH : tct l G A L all n) : tct l G A L all (n + 1) := by
  intro d M Q dp x tk w ow U hf hc hdn hx htk w0 o0 hall h
  subst hx
  have hdi : (nI dp).toInt = dp := mm_ti (by omega)
  have sb := mm_sub (a := w) (b := ow) (by omega)
  refine mm_enter 7 [.ref 34, .int (nI dp), .int tk, .int w, .int ow, .double 0, .double 0, .double 0, .double 0, .double 0, .double 0, .double 0] o_X9_takeTurn rfl rfl ?_
  refine mm_iload_3 1 dX9_takeTurn_0 rfl ?_
  refine mm_iload_4 3 dX9_takeTurn_1 rfl ?_
  refine mm_isub 4 dX9_takeTurn_3 rfl ?_
  refine mm_istore_5 6 dX9_takeTurn_4 rfl rfl ?_
  refine mm_iload_1 7 dX9_takeTurn_6 rfl ?_
  refine mm_iconst 8 4 dX9_takeTurn_7 rfl (by decide) ?_
  refine mm_ic_lt 14 11 dX9_takeTurn_8 (by decide) rfl (fun h1 => ?_) (fun h1 => absurd (by rw [mm_lt, hdi]; simp only [Int32.reduceToInt]; omega) h1)
  refine mm_iload_1 15 dX9_takeTurn_14 rfl ?_
  refine mm_iconst 16 2 dX9_takeTurn_15 rfl (by decide) ?_
  refine mm_irem 17 dX9_takeTurn_16 rfl (by decide) ?_
  refine mm_if_ne 24 20 dX9_takeTurn_17 (by decide) rfl (fun h2 => ?_) (fun h2 => ?_)
  · refine mm_iconst 25 0 dX9_takeTurn_24 rfl (by decide) ?_
    refine mm_istore_6 27 dX9_takeTurn_25 rfl rfl ?_
    refine mm_iconst 28 0 dX9_takeTurn_27 rfl (by decide) ?_
    refine mm_istore_7 30 dX9_takeTurn_28 rfl rfl ?_
    refine mm_iconst 31 0 dX9_takeTurn_30 rfl (by decide) ?_
    refine mm_istore_8 33 dX9_takeTurn_31 rfl rfl ?_
    have pm : nI dp - nI dp / 2 * 2 = nI (dp % 2) := mm_rem 2 rfl (by omega) mm_l2 (by decide) (by decide)
    rw [pm] at h2
    have par : ¬ dp % 2 = 0 := by
      intro q; apply h2; rw [q]; rfl
    refine w_X9_take (n := n) (s := 0) hi hl hb IH hf hc hdn htk w0 o0 hall (by rw [if_neg par]) (fun r M1 a1 a2 a3 a4 => h r M1 a1 a2 a3 (fun m q1 q2 => by rw [show m = n by omega]; exact a4 q1)) L.length 0 M _ none (by omega) (by omega) (by rw [List.take_zero]; rfl) ?_ (fun _ _ => rfl) (fun _ => rfl) (fun _ => rfl)
    rw [sb]
    show _ = 2 * w.toInt - all
    omega
  · refine mm_iconst 21 1 dX9_takeTurn_20 rfl (by decide) ?_
    refine mm_goto 25 dX9_takeTurn_21 (by decide) ?_
    refine mm_istore_6 27 dX9_takeTurn_25 rfl rfl ?_
    refine mm_iconst 28 0 dX9_takeTurn_27 rfl (by decide) ?_
    refine mm_istore_7 30 dX9_takeTurn_28 rfl rfl ?_
    refine mm_iconst 31 0 dX9_takeTurn_30 rfl (by decide) ?_
    refine mm_istore_8 33 dX9_takeTurn_31 rfl rfl ?_
    have pm : nI dp - nI dp / 2 * 2 = nI (dp % 2) := mm_rem 2 rfl (by omega) mm_l2 (by decide) (by decide)
    rw [pm] at h2
    have par : dp % 2 = 0 := by
      have q := congrArg Int32.toInt h2
      rw [mm_ti (by omega)] at q
      simp only [Int32.reduceToInt] at q
      omega
    refine w_X9_take (n := n) (s := 1) hi hl hb IH hf hc hdn htk w0 o0 hall (by rw [if_pos par]) (fun r M1 a1 a2 a3 a4 => h r M1 a1 a2 a3 (fun m q1 q2 => by rw [show m = n by omega]; exact a4 q1)) L.length 0 M _ none (by omega) (by omega) (by rw [List.take_zero]; rfl) ?_ (fun _ _ => rfl) (fun _ => rfl) (fun _ => rfl)
    rw [sb]
    show _ = 2 * w.toInt - all
    omega

theorem c_X9_take {l : Launch} {G : mm_G} {A : mm_M} (hi : iv A) {L : List (Nat × Nat)} (hl : lok A L) {all : Int} (hb : all ≤ 20000) : ∀ n, tct l G A L all n
  | 0 => c_X9_take0 hb
  | n + 1 => c_X9_takeS hi hl hb (c_X9_take hi hl hb n)
def zTL (A : mm_M) (x y : Nat) : List (Nat × Nat) := call_ (zP A (nI x) (nI y)) (a_np A) (a_np A)
def zTall (A : mm_M) (x y : Nat) : Int := (zE A 62 x).toInt + (zE A 62 y).toInt
def zTv (A : mm_M) (x y : Nat) : Int := tvl (zg A) (zTall A x y) (zTL A x y) 4 0 (fun _ => false) (zE A 62 x).toInt
def zTf (A : mm_M) (x y : Nat) : Int32 := fpi (-1) (tgo 0 (fre2 (fun _ => false)) (tvf A (zTall A x y) (zTL A x y) 3 0 (fun _ => false) (zE A 62 x).toInt) (zTL A x y) none)
def z_lords (A : mm_M) (a b w : Int32) : Int32 := if ((0 ≤ a.toInt ∧ a.toInt < a_nl A) ∧ (0 ≤ b.toInt ∧ b.toInt < a_nl A) ∧ (a.toInt - b.toInt = 1 ∨ a.toInt - b.toInt = -1)) ∧ 0 ≤ w.toInt ∧ w.toInt ≤ 1 then (if cnt (io A a.toNatClampNeg) (a_np A) ≤ 4 ∧ cnt (io A b.toNatClampNeg) (a_np A) ≤ 4 then (if w.toInt = 0 then Int32.ofInt (zTv A a.toNatClampNeg b.toNatClampNeg) else zTf A a.toNatClampNeg b.toNatClampNeg) else -10004) else -10002
theorem zTL_ok {A : mm_M} (hi : iv A) (x y : Nat) : cn2 (zP A (nI x) (nI y)) (a_np A) (a_np A) ≤ 36 ∧ lok A (zTL A x y) := by
  have h := zP_36 hi (P := zP A (nI x) (nI y)) (x := nI x) (fun a b q => ⟨(zP_i q).1, (zP_i q).2.2⟩)
  refine ⟨h, by unfold zTL; rw [call_l]; exact h, fun e a b q => ?_⟩
  have m := (call_m (a_np A)).mp (List.mem_of_getElem? q)
  exact ⟨m.1, m.2.1⟩

set_option maxHeartbeats 4000000 in
theorem c_X9_playOut {l : Launch} {G : mm_G} {d : Nat} {M : mm_M} {Q : Int32 → mm_T → mm_M → Prop} {A : mm_M} (hi : iv A) (hf : fr A M) {B : Nat} (hw : v_w M (zE A) (a_nl A) (a_np A) B) {x y : Nat} (hx : x < a_nl A) (hy : y < a_nl A) {xi yi : Int32} (ex : xi = nI x) (ey : yi = nI y) (h : ∀ r M1, r.toInt = zTv A x y → M1 34 2 = zTf A x y → kk M M1 → Q r T0 M1) : mm_met l G (d + 9) k_X9_playOut [.ref 34, .int xi, .int yi] T0 M (mm_pi Q) := by
  subst ex
  subst ey
  have n6 := hi.1.nl
  have xi : (nI x).toInt = x := mm_ti (by omega)
  have yi : (nI y).toInt = y := mm_ti (by omega)
  have xc : (nI x).toNatClampNeg = x := mm_cn (by omega)
  have yc : (nI y).toNatClampNeg = y := mm_cn (by omega)
  have wx := zE_w hi hx
  have wy := zE_w hi hy
  refine mm_enter 0 [.ref 34, .int (nI x), .int (nI y)] o_X9_playOut rfl rfl ?_
  refine mm_aload_0 1 dX9_playOut_0 rfl ?_
  refine mm_getR 4 dX9_playOut_1 f_X9_24 rfl t_34 rfl ?_
  refine mm_cV0v 7 dX9_playOut_4 v_X9_28 rfl t_35 (by decide) rfl rfl (Nat.le_of_ble_eq_true rfl) ⟨rfl, rfl⟩ ⟨Nat.zero_le _, Nat.zero_le _⟩ (c_X0_clear t_35 t_36 t_37 ?_)
  generalize hN0 : mm_up M 35 4 0 = N0
  have k0 : kk M N0 := by rw [← hN0]; exact kk.rf.up (by decide)
  have cA : crep N0 35 36 37 [] := ⟨by rw [← hN0, mm_upv]; rfl, fun e a b q => absurd q (by simp)⟩
  have fA : fr A N0 := hf.kk k0
  have wA : v_w N0 (zE A) (a_nl A) (a_np A) B := hw.kk k0
  refine mm_aload_0 8 dX9_playOut_7 rfl ?_
  refine mm_getR 11 dX9_playOut_8 f_X9_24 rfl t_34 rfl ?_
  refine mm_iload_1 12 dX9_playOut_11 rfl ?_
  refine mm_iload_2 13 dX9_playOut_12 rfl ?_
  refine mm_cV2v 16 dX9_playOut_13 v_X9_31 rfl t_35 (by decide) rfl rfl (Nat.le_of_ble_eq_true rfl) ⟨rfl, rfl⟩ ⟨Nat.zero_le _, Nat.zero_le _⟩ (c_X0_gather t_35 t_36 t_37 (by decide) (by decide) hi fA wA (L := []) (by show 0 + _ ≤ 36; have := (zTL_ok hi x y).1; omega) cA (fun N1 c1 k1 => ?_))
  refine mm_aload_0 17 dX9_playOut_16 rfl ?_
  refine mm_iconst 18 (-1) dX9_playOut_17 rfl (by decide) ?_
  refine mm_putI 21 dX9_playOut_18 p_X9_9 ⟨rfl, rfl⟩ rfl t_34 rfl ?_
  generalize hN3 : mm_up N1 34 2 (-1) = N3
  have k3 : kk N1 N3 := by rw [← hN3]; exact kk.rf.up (by decide)
  have fB : fr A N3 := (fA.kk (k1.kk (by decide))).kk k3
  have wB : v_w N3 (zE A) (a_nl A) (a_np A) B := (wA.kk (k1.kk (by decide))).kk k3
  have cB : crep N3 35 36 37 (zTL A x y) := by rw [← hN3]; exact c1.of (by rw [mm_upn _ _ _ (by decide)]) (mm_upn _ _ _ (by decide)) (mm_upn _ _ _ (by decide))
  have p2 : N3 34 2 = -1 := by rw [← hN3, mm_upv]
  refine mm_aload_0 22 dX9_playOut_21 rfl ?_
  refine mm_iconst 23 0 dX9_playOut_22 rfl (by decide) ?_
  refine mm_iconst 24 0 dX9_playOut_23 rfl (by decide) ?_
  refine mm_aload_0 25 dX9_playOut_24 rfl ?_
  refine mm_getR 28 dX9_playOut_25 f_X9_15 rfl t_34 rfl ?_
  refine mm_iload_1 29 dX9_playOut_28 rfl ?_
  refine mm_cV1i 32 dX9_playOut_29 v_X9_35 rfl t_20 (by decide) rfl rfl (Nat.le_of_ble_eq_true rfl) ⟨rfl, rfl⟩ ⟨Nat.zero_le _, Nat.zero_le _⟩ (b_widthOf hi fB wB (by rw [xi]; omega) (fun r1 e1 => ?_))
  refine mm_aload_0 33 dX9_playOut_32 rfl ?_
  refine mm_getR 36 dX9_playOut_33 f_X9_15 rfl t_34 rfl ?_
  refine mm_iload_2 37 dX9_playOut_36 rfl ?_
  refine mm_cV1i 40 dX9_playOut_37 v_X9_35 rfl t_20 (by decide) rfl rfl (Nat.le_of_ble_eq_true rfl) ⟨rfl, rfl⟩ ⟨Nat.zero_le _, Nat.zero_le _⟩ (b_widthOf hi fB wB (by rw [yi]; omega) (fun r2 e2 => ?_))
  refine mm_cS5i 43 dX9_playOut_40 v_X9_41 rfl (Nat.le_of_ble_eq_true rfl) ⟨rfl, rfl⟩ ⟨Nat.zero_le _, Nat.zero_le _⟩ (c_X9_take hi (zTL_ok hi x y).2 (all := zTall A x y) (by unfold zTall; omega) 4 d N3 _ 0 0 0 _ _ (fun _ => false) fB cB (by omega) rfl tkU_0 (by rw [e1, xc]; omega) (by rw [e2, yc]; omega) (by rw [e1, e2, xc, yc]; rfl) (fun r M1 a1 a2 a3 a4 => ?_))
  refine mm_iret dX9_playOut_43 rfl ⟨rfl, Nat.zero_le _⟩ ?_
  rw [e1, xc] at a1 a4
  refine h r M1 a1 ?_ ((k0.tr (k1.kk (by decide))).tr (k3.tr (fun c q => a2 c (by omega))))
  rw [a4 3 rfl rfl, p2]
  rfl

set_option maxHeartbeats 4000000 in
theorem w_X10_freeIn {l : Launch} {G : mm_G} {d : Nat} {M : mm_M} {Q : Int32 → mm_T → mm_M → Prop} {A : mm_M} (hi : iv A) (hf : fr A M) {B : Nat} (hw : v_w M (zE A) (a_nl A) (a_np A) B) {j : Nat} (h : ∀ r, r = nI (cnt (io A j) (a_np A)) → Q r T0 M) : ∀ (z p : Nat), a_np A - p ≤ z → p ≤ a_np A → mm_wp l G (d + 2) k_X10_freeIn (mm_pi Q) 4 [.ref 20, .int (nI j), .int (nI (cnt (io A j) p)), .int (nI p)] [] T0 M 0 0 := by
  have n12 := hi.1.np
  have hni : (nI (a_np A)).toInt = a_np A := mm_ti (by omega)
  have hd := zE_d hi hf.lo
  have k7e : M 7 4 = nI (a_np A) := hd.1.2.2.2.2.1
  have hom : ∀ p, p < a_np A → s_X4_homeOf M (nI p) = z_w A p 1 := fun p hp => by
    unfold s_X4_homeOf
    rw [hd.1.pi, mm_ti (by omega), mm_cn (by omega), if_pos ⟨by omega, by omega⟩, hf.a 9]
    exact (hi.2.2.1.2.2.2.2.2 p hp).2.1
  intro z
  induction z using Nat.strongRecOn with | _ z ih => ?_
  intro p hze hpn
  have hpi : (nI p).toInt = p := mm_ti (by omega)
  refine mm_iload_3 5 dX10_freeIn_4 rfl ?_
  refine mm_aload_0 6 dX10_freeIn_5 rfl ?_
  refine mm_getR 9 dX10_freeIn_6 f_X10_48 rfl t_20 rfl ?_
  refine mm_cV0i 12 dX10_freeIn_9 v_X10_73 rfl t_7 (by decide) rfl rfl (Nat.le_of_ble_eq_true rfl) ⟨rfl, rfl⟩ ⟨Nat.zero_le _, Nat.zero_le _⟩ (c_X4_number  (fun r1 e1 => ?_))
  rw [e1, k7e]
  refine mm_ic_ge 44 15 dX10_freeIn_12 (by decide) rfl (fun h2 => ?_) (fun h2 => ?_)
  · refine mm_iload_2 45 dX10_freeIn_44 rfl ?_
    refine mm_iret dX10_freeIn_45 rfl ⟨rfl, Nat.zero_le _⟩ ?_
    have hz : p = a_np A := by (try simp only [hpi, hni, Int32.lt_iff_toInt_lt, Int32.le_iff_toInt_le, ← Int32.toInt_inj, vp_in_iff, Int32.reduceToInt, mm_t1, mm_t2, mm_t3, mm_t4, mm_t10] at h2); omega
    rw [hz]
    exact h _ rfl
  · have hlt : p < a_np A := by (try simp only [hpi, hni, Int32.lt_iff_toInt_lt, Int32.le_iff_toInt_le, ← Int32.toInt_inj, vp_in_iff, Int32.reduceToInt, mm_t1, mm_t2, mm_t3, mm_t4, mm_t10] at h2); omega
    have gf : g_free (zE A) p = true ↔ ¬ M 24 p = 0 ∧ M 22 p = -1 := by
      obtain ⟨q1, q2, q3, q4⟩ := hw.2.1 p hlt
      unfold g_free
      simp only [Bool.and_eq_true, decide_eq_true_eq]
      rw [q1, q3]
      have e0 : ¬ (1 : Int32) = 0 := by decide
      constructor
      · rintro ⟨y1, y2⟩
        exact ⟨by rw [y1]; exact e0, y2⟩
      · rintro ⟨y1, y2⟩
        exact ⟨by rcases q4 with q4 | q4; exact absurd q4 y1; exact q4, y2⟩
    refine mm_aload_0 16 dX10_freeIn_15 rfl ?_
    refine mm_getR 19 dX10_freeIn_16 f_X10_48 rfl t_20 rfl ?_
    refine mm_iload_3 20 dX10_freeIn_19 rfl ?_
    refine mm_cV1i 23 dX10_freeIn_20 v_X10_77 rfl t_7 (by decide) rfl rfl (Nat.le_of_ble_eq_true rfl) ⟨rfl, rfl⟩ ⟨Nat.zero_le _, Nat.zero_le _⟩ (c_X4_homeOf (by rw [hd.1.pi]; omega) (fun r3 e3 => ?_))
    refine mm_iload_1 24 dX10_freeIn_23 rfl ?_
    refine mm_ic_ne 38 27 dX10_freeIn_24 (by decide) rfl (fun h4 => ?_) (fun h4 => ?_)
    · refine mm_iinc_3 41 1 dX10_freeIn_38 rfl (by decide) rfl ?_
      refine mm_goto 4 dX10_freeIn_41 (by decide) ?_
      rw [nI_1]
      have no : ¬ io A j p = true := fun q => h4 (by rw [e3, hom p hlt]; exact (io_i q).2.1)
      have hh := ih (a_np A - (p + 1)) (by omega) (p + 1) (Nat.le_refl _) (by omega)
      rw [cnt_f no] at hh
      exact hh
    · refine mm_aload_0 28 dX10_freeIn_27 rfl ?_
      refine mm_iload_3 29 dX10_freeIn_28 rfl ?_
      refine mm_cV1i 32 dX10_freeIn_29 v_X10_81 rfl t_20 (by decide) rfl rfl (Nat.le_of_ble_eq_true rfl) ⟨rfl, rfl⟩ ⟨Nat.zero_le _, Nat.zero_le _⟩ (c_X10_isFree (by rw [hd.1.pi]; omega) (fun h5 => ?_) (fun h5 => ?_))
      · refine mm_if_eq 38 35 dX10_freeIn_32 (by decide) rfl (fun h => absurd h (by decide)) (fun _ => ?_)
        refine mm_iinc_2 38 1 dX10_freeIn_35 rfl (by decide) rfl ?_
        refine mm_iinc_3 41 1 dX10_freeIn_38 rfl (by decide) rfl ?_
        refine mm_goto 4 dX10_freeIn_41 (by decide) ?_
        rw [hd.1.pi, hpi, mm_cn (by omega)] at h5
        rw [nI_1, nI_1]
        have yes : io A j p = true := io_t hlt (by rw [← hom p hlt, ← e3]; exact h4) (gf.mpr h5.2)
        have hh := ih (a_np A - (p + 1)) (by omega) (p + 1) (Nat.le_refl _) (by omega)
        rw [cnt_t yes] at hh
        exact hh
      · refine mm_if_eq 38 35 dX10_freeIn_32 (by decide) rfl (fun _ => ?_) (fun h => absurd h (by decide))
        refine mm_iinc_3 41 1 dX10_freeIn_38 rfl (by decide) rfl ?_
        refine mm_goto 4 dX10_freeIn_41 (by decide) ?_
        rw [hd.1.pi, hpi, mm_cn (by omega)] at h5
        rw [nI_1]
        have no : ¬ io A j p = true := fun q => h5 ⟨⟨by omega, by omega⟩, gf.mp (io_i q).2.2⟩
        have hh := ih (a_np A - (p + 1)) (by omega) (p + 1) (Nat.le_refl _) (by omega)
        rw [cnt_f no] at hh
        exact hh

set_option maxHeartbeats 4000000 in
theorem c_X10_freeIn {l : Launch} {G : mm_G} {d : Nat} {M : mm_M} {Q : Int32 → mm_T → mm_M → Prop} {A : mm_M} (hi : iv A) (hf : fr A M) {B : Nat} (hw : v_w M (zE A) (a_nl A) (a_np A) B) {j : Nat} {x : Int32} (hx : x = nI j) (h : ∀ r, r = nI (cnt (io A j) (a_np A)) → Q r T0 M) : mm_met l G (d + 2) k_X10_freeIn [.ref 20, .int x] T0 M (mm_pi Q) := by
  subst hx
  refine mm_enter 2 [.ref 20, .int (nI j), .double 0, .double 0] o_X10_freeIn rfl rfl ?_
  refine mm_iconst 1 0 dX10_freeIn_0 rfl (by decide) ?_
  refine mm_istore_2 2 dX10_freeIn_1 rfl rfl ?_
  refine mm_iconst 3 0 dX10_freeIn_2 rfl (by decide) ?_
  refine mm_istore_3 4 dX10_freeIn_3 rfl rfl ?_
  exact w_X10_freeIn hi hf hw h (a_np A) 0 (by omega) (by omega)

set_option maxHeartbeats 4000000 in
theorem c_X11_lords {l : Launch} {G : mm_G} {d : Nat} {M : mm_M} {Q : Int32 → mm_T → mm_M → Prop} {A : mm_M} (hi : iv A) (hf : fr A M) {a b w : Int32} (h : ∀ r M1, r = z_lords A a b w → fr A M1 → Q r T0 M1) : mm_met l G (d + 10) k_X11_lords [.ref 0, .int a, .int b, .int w] T0 M (mm_pi Q) := by
  have n6 := hi.1.nl
  have n12 := hi.1.np
  have n24 := hi.1.ne.2
  have hd := hf.vd hi
  have k5 := hd.1.li
  have k7 := hd.1.pi
  have k14 := hd.1.ei
  refine mm_enter 1 [.ref 0, .int a, .int b, .int w, .double 0] o_X11_lords rfl rfl ?_
  refine mm_aload_0 1 dX11_lords_0 rfl ?_
  refine mm_getR 4 dX11_lords_1 f_X11_26 rfl t_0 rfl ?_
  refine mm_iload_1 5 dX11_lords_4 rfl ?_
  refine mm_cV1i 8 dX11_lords_5 v_X11_200 rfl t_5 (by decide) rfl rfl (Nat.le_of_ble_eq_true rfl) ⟨rfl, rfl⟩ ⟨Nat.zero_le _, Nat.zero_le _⟩ (c_X3_has  (fun h1 => ?_) (fun h1 => ?_))
  · refine mm_if_eq 41 11 dX11_lords_8 (by decide) rfl (fun h => absurd h (by decide)) (fun _ => ?_)
    refine mm_aload_0 12 dX11_lords_11 rfl ?_
    refine mm_getR 15 dX11_lords_12 f_X11_26 rfl t_0 rfl ?_
    refine mm_iload_2 16 dX11_lords_15 rfl ?_
    refine mm_cV1i 19 dX11_lords_16 v_X11_200 rfl t_5 (by decide) rfl rfl (Nat.le_of_ble_eq_true rfl) ⟨rfl, rfl⟩ ⟨Nat.zero_le _, Nat.zero_le _⟩ (c_X3_has  (fun h2 => ?_) (fun h2 => ?_))
    · refine mm_if_eq 41 22 dX11_lords_19 (by decide) rfl (fun h => absurd h (by decide)) (fun _ => ?_)
      refine mm_iload_1 23 dX11_lords_22 rfl ?_
      refine mm_iload_2 24 dX11_lords_23 rfl ?_
      refine mm_isub 25 dX11_lords_24 rfl ?_
      refine mm_mabs 28 dX11_lords_25 j_X11_247 rfl (Nat.le_of_ble_eq_true rfl) ⟨Nat.zero_le _, Nat.zero_le _⟩ ?_
      refine mm_iconst 29 1 dX11_lords_28 rfl (by decide) ?_
      refine mm_ic_ne 41 32 dX11_lords_29 (by decide) rfl (fun h3 => ?_) (fun h3 => ?_)
      · refine mm_sipush 44 (-10002) dX11_lords_41 rfl (by decide) ?_
        refine mm_iret dX11_lords_44 rfl ⟨rfl, Nat.zero_le _⟩ ?_
        refine h _ _ ?_ hf
        unfold z_lords
        rw [if_neg]
        rintro ⟨⟨q1, q2, q3⟩, q4⟩
        have sab := mm_sub (a := a) (b := b) (by omega)
        apply h3
        split
        · rename_i z
          rw [mm_le, sab] at z
          apply mm_ii
          rw [sab]
          simp only [Int32.reduceToInt] at z ⊢
          omega
        · rename_i z
          rw [mm_le, sab] at z
          apply mm_ii
          rw [mm_sub (by rw [sab]; simp only [Int32.reduceToInt]; omega), sab]
          simp only [Int32.reduceToInt] at z ⊢
          omega
      · refine mm_iload_3 33 dX11_lords_32 rfl ?_
        refine mm_iconst 34 0 dX11_lords_33 rfl (by decide) ?_
        refine mm_iconst 35 1 dX11_lords_34 rfl (by decide) ?_
        refine mm_cS3i 38 dX11_lords_35 v_X11_98 rfl (Nat.le_of_ble_eq_true rfl) ⟨rfl, rfl⟩ ⟨Nat.zero_le _, Nat.zero_le _⟩ (c_X11_isWithin  (fun h4 => ?_) (fun h4 => ?_))
        · refine mm_if_ne 45 41 dX11_lords_38 (by decide) rfl (fun _ => ?_) (fun h => absurd h (by decide))
          have ca := mm_cl2 (x := a) (n := a_nl A) (by (try simp only [Int32.lt_iff_toInt_lt, Int32.le_iff_toInt_le, ← Int32.toInt_inj, vp_in_iff, Int32.reduceToInt, mm_t1, mm_t2, mm_t3, mm_t4, mm_t10] at h1 h2 h4 k5 k7 k14 ⊢); omega)
          have cb := mm_cl2 (x := b) (n := a_nl A) (by (try simp only [Int32.lt_iff_toInt_lt, Int32.le_iff_toInt_le, ← Int32.toInt_inj, vp_in_iff, Int32.reduceToInt, mm_t1, mm_t2, mm_t3, mm_t4, mm_t10] at h1 h2 h4 k5 k7 k14 ⊢); omega)
          have sab := mm_sub (a := a) (b := b) (by omega)
          have fa4 := cnt_le (f := io A a.toNatClampNeg) (a_np A)
          have fb4 := cnt_le (f := io A b.toNatClampNeg) (a_np A)
          refine mm_aload_0 46 dX11_lords_45 rfl ?_
          refine mm_getR 49 dX11_lords_46 f_X11_56 rfl t_0 rfl ?_
          refine mm_aload_0 50 dX11_lords_49 rfl ?_
          refine mm_getR 53 dX11_lords_50 f_X11_47 rfl t_0 rfl ?_
          refine mm_cV0i 56 dX11_lords_53 v_X11_165 rfl t_14 (by decide) rfl rfl (Nat.le_of_ble_eq_true rfl) ⟨rfl, rfl⟩ ⟨Nat.zero_le _, Nat.zero_le _⟩ (b_eno hi hf (fun r5 e5 => ?_))
          refine mm_iconst 57 (-1) dX11_lords_56 rfl (by decide) ?_
          refine mm_cV2v 60 dX11_lords_57 v_X11_190 rfl t_20 (by decide) rfl rfl (Nat.le_of_ble_eq_true rfl) ⟨rfl, rfl⟩ ⟨Nat.zero_le _, Nat.zero_le _⟩ (b_play hi hf e5 (Nat.le_refl _) (fun M6 g6 w6 X6 => ?_))
          refine mm_aload_0 61 dX11_lords_60 rfl ?_
          refine mm_getR 64 dX11_lords_61 f_X11_56 rfl t_0 rfl ?_
          refine mm_iload_1 65 dX11_lords_64 rfl ?_
          refine mm_cV1i 68 dX11_lords_65 v_X11_252 rfl t_20 (by decide) rfl rfl (Nat.le_of_ble_eq_true rfl) ⟨rfl, rfl⟩ ⟨Nat.zero_le _, Nat.zero_le _⟩ (c_X10_freeIn hi X6 w6 ca.1 (fun r7 e7 => ?_))
          have eA := e7
          refine mm_iconst 69 4 dX11_lords_68 rfl (by decide) ?_
          refine mm_ic_gt 84 72 dX11_lords_69 (by decide) rfl (fun h8 => ?_) (fun h8 => ?_)
          · refine mm_sipush 87 (-10004) dX11_lords_84 rfl (by decide) ?_
            refine mm_iret dX11_lords_87 rfl ⟨rfl, Nat.zero_le _⟩ ?_
            have cw : 0 ≤ w.toInt ∧ w.toInt ≤ 1 := by (try simp only [Int32.lt_iff_toInt_lt, Int32.le_iff_toInt_le, ← Int32.toInt_inj, vp_in_iff, Int32.reduceToInt, mm_t1, mm_t2, mm_t3, mm_t4, mm_t10] at h1 h2 h4 h8 k5 k7 k14 ⊢); omega
            have hab1 : a.toInt - b.toInt = 1 ∨ a.toInt - b.toInt = -1 := by
              have q := h3
              rw [← sab]
              split at q
              · rw [q]; exact Or.inl rfl
              · have q := congrArg Int32.toInt q
                rw [mm_sub (by rw [sab]; simp only [Int32.reduceToInt]; omega)] at q
                simp only [Int32.reduceToInt] at q
                omega
            refine h _ _ ?_ X6
            unfold z_lords
            rw [if_pos ⟨⟨⟨by omega, by omega⟩, ⟨by omega, by omega⟩, hab1⟩, cw⟩]
            have q := h8
            rw [e7, mm_lt, mm_ti (by omega)] at q
            simp only [Int32.reduceToInt] at q
            rw [if_neg (by omega)]
          · refine mm_aload_0 73 dX11_lords_72 rfl ?_
            refine mm_getR 76 dX11_lords_73 f_X11_56 rfl t_0 rfl ?_
            refine mm_iload_2 77 dX11_lords_76 rfl ?_
            refine mm_cV1i 80 dX11_lords_77 v_X11_252 rfl t_20 (by decide) rfl rfl (Nat.le_of_ble_eq_true rfl) ⟨rfl, rfl⟩ ⟨Nat.zero_le _, Nat.zero_le _⟩ (c_X10_freeIn hi X6 w6 cb.1 (fun r9 e9 => ?_))
            have eB := e9
            refine mm_iconst 81 4 dX11_lords_80 rfl (by decide) ?_
            refine mm_ic_le 88 84 dX11_lords_81 (by decide) rfl (fun h10 => ?_) (fun h10 => ?_)
            · refine mm_aload_0 89 dX11_lords_88 rfl ?_
              refine mm_getR 92 dX11_lords_89 f_X11_72 rfl t_0 rfl ?_
              refine mm_iload_1 93 dX11_lords_92 rfl ?_
              refine mm_iload_2 94 dX11_lords_93 rfl ?_
              refine mm_cV2i 97 dX11_lords_94 v_X11_255 rfl t_34 (by decide) rfl rfl (Nat.le_of_ble_eq_true rfl) ⟨rfl, rfl⟩ ⟨Nat.zero_le _, Nat.zero_le _⟩ (c_X9_playOut hi X6 w6 ca.2.1 cb.2.1 ca.1 cb.1 (fun rp Mp pl1 pl2 kk1 => ?_))
              refine mm_istore_4 99 dX11_lords_97 rfl rfl ?_
              refine mm_iload_3 100 dX11_lords_99 rfl ?_
              refine mm_if_ne 108 103 dX11_lords_100 (by decide) rfl (fun h11 => ?_) (fun h11 => ?_)
              · refine mm_aload_0 109 dX11_lords_108 rfl ?_
                refine mm_getR 112 dX11_lords_109 f_X11_72 rfl t_0 rfl ?_
                refine mm_cV0i 115 dX11_lords_112 v_X11_258 rfl t_34 (by decide) rfl rfl (Nat.le_of_ble_eq_true rfl) ⟨rfl, rfl⟩ ⟨Nat.zero_le _, Nat.zero_le _⟩ (c_X9_firstWedding  (fun r12 e12 => ?_))
                refine mm_iret dX11_lords_115 rfl ⟨rfl, Nat.zero_le _⟩ ?_
                have cw : 0 ≤ w.toInt ∧ w.toInt ≤ 1 := by (try simp only [Int32.lt_iff_toInt_lt, Int32.le_iff_toInt_le, ← Int32.toInt_inj, vp_in_iff, Int32.reduceToInt, mm_t1, mm_t2, mm_t3, mm_t4, mm_t10] at h1 h2 h4 h8 h10 h11 k5 k7 k14 ⊢); omega
                have hab1 : a.toInt - b.toInt = 1 ∨ a.toInt - b.toInt = -1 := by
                  have q := h3
                  rw [← sab]
                  split at q
                  · rw [q]; exact Or.inl rfl
                  · have q := congrArg Int32.toInt q
                    rw [mm_sub (by rw [sab]; simp only [Int32.reduceToInt]; omega)] at q
                    simp only [Int32.reduceToInt] at q
                    omega
                refine h _ _ ?_ (X6.kk kk1)
                unfold z_lords
                rw [if_pos ⟨⟨⟨by omega, by omega⟩, ⟨by omega, by omega⟩, hab1⟩, cw⟩]
                have q1 := h8
                have q2 := h10
                rw [eA, mm_lt, mm_ti (by omega)] at q1
                rw [eB, mm_le, mm_ti (by omega)] at q2
                simp only [Int32.reduceToInt] at q1 q2
                rw [if_pos ⟨by omega, by omega⟩]
                rw [if_neg (fun q => h11 (mm_ii (by rw [q]; rfl))), e12, pl2]
              · refine mm_iload_4 105 dX11_lords_103 rfl ?_
                refine mm_goto 115 dX11_lords_105 (by decide) ?_
                refine mm_iret dX11_lords_115 rfl ⟨rfl, Nat.zero_le _⟩ ?_
                have cw : 0 ≤ w.toInt ∧ w.toInt ≤ 1 := by (try simp only [Int32.lt_iff_toInt_lt, Int32.le_iff_toInt_le, ← Int32.toInt_inj, vp_in_iff, Int32.reduceToInt, mm_t1, mm_t2, mm_t3, mm_t4, mm_t10] at h1 h2 h4 h8 h10 h11 k5 k7 k14 ⊢); omega
                have hab1 : a.toInt - b.toInt = 1 ∨ a.toInt - b.toInt = -1 := by
                  have q := h3
                  rw [← sab]
                  split at q
                  · rw [q]; exact Or.inl rfl
                  · have q := congrArg Int32.toInt q
                    rw [mm_sub (by rw [sab]; simp only [Int32.reduceToInt]; omega)] at q
                    simp only [Int32.reduceToInt] at q
                    omega
                refine h _ _ ?_ (X6.kk kk1)
                unfold z_lords
                rw [if_pos ⟨⟨⟨by omega, by omega⟩, ⟨by omega, by omega⟩, hab1⟩, cw⟩]
                have q1 := h8
                have q2 := h10
                rw [eA, mm_lt, mm_ti (by omega)] at q1
                rw [eB, mm_le, mm_ti (by omega)] at q2
                simp only [Int32.reduceToInt] at q1 q2
                rw [if_pos ⟨by omega, by omega⟩]
                rw [if_pos (by rw [h11]; rfl), ← pl1, Int32.ofInt_toInt]
            · refine mm_sipush 87 (-10004) dX11_lords_84 rfl (by decide) ?_
              refine mm_iret dX11_lords_87 rfl ⟨rfl, Nat.zero_le _⟩ ?_
              have cw : 0 ≤ w.toInt ∧ w.toInt ≤ 1 := by (try simp only [Int32.lt_iff_toInt_lt, Int32.le_iff_toInt_le, ← Int32.toInt_inj, vp_in_iff, Int32.reduceToInt, mm_t1, mm_t2, mm_t3, mm_t4, mm_t10] at h1 h2 h4 h8 h10 k5 k7 k14 ⊢); omega
              have hab1 : a.toInt - b.toInt = 1 ∨ a.toInt - b.toInt = -1 := by
                have q := h3
                rw [← sab]
                split at q
                · rw [q]; exact Or.inl rfl
                · have q := congrArg Int32.toInt q
                  rw [mm_sub (by rw [sab]; simp only [Int32.reduceToInt]; omega)] at q
                  simp only [Int32.reduceToInt] at q
                  omega
              refine h _ _ ?_ X6
              unfold z_lords
              rw [if_pos ⟨⟨⟨by omega, by omega⟩, ⟨by omega, by omega⟩, hab1⟩, cw⟩]
              have q := h10
              rw [e9, mm_le, mm_ti (by omega)] at q
              simp only [Int32.reduceToInt] at q
              rw [if_neg (by omega)]
        · refine mm_if_ne 45 41 dX11_lords_38 (by decide) rfl (fun h => absurd h (by decide)) (fun _ => ?_)
          refine mm_sipush 44 (-10002) dX11_lords_41 rfl (by decide) ?_
          refine mm_iret dX11_lords_44 rfl ⟨rfl, Nat.zero_le _⟩ ?_
          refine h _ _ ?_ hf
          unfold z_lords
          rw [if_neg (by (try simp only [Int32.lt_iff_toInt_lt, Int32.le_iff_toInt_le, ← Int32.toInt_inj, vp_in_iff, Int32.reduceToInt, mm_t1, mm_t2, mm_t3, mm_t4, mm_t10] at h1 h2 h4 k5 k7 k14); omega)]
    · refine mm_if_eq 41 22 dX11_lords_19 (by decide) rfl (fun _ => ?_) (fun h => absurd h (by decide))
      refine mm_sipush 44 (-10002) dX11_lords_41 rfl (by decide) ?_
      refine mm_iret dX11_lords_44 rfl ⟨rfl, Nat.zero_le _⟩ ?_
      refine h _ _ ?_ hf
      unfold z_lords
      rw [if_neg (by (try simp only [Int32.lt_iff_toInt_lt, Int32.le_iff_toInt_le, ← Int32.toInt_inj, vp_in_iff, Int32.reduceToInt, mm_t1, mm_t2, mm_t3, mm_t4, mm_t10] at h1 h2 k5 k7 k14); omega)]
  · refine mm_if_eq 41 11 dX11_lords_8 (by decide) rfl (fun _ => ?_) (fun h => absurd h (by decide))
    refine mm_sipush 44 (-10002) dX11_lords_41 rfl (by decide) ?_
    refine mm_iret dX11_lords_44 rfl ⟨rfl, Nat.zero_le _⟩ ?_
    refine h _ _ ?_ hf
    unfold z_lords
    rw [if_neg (by (try simp only [Int32.lt_iff_toInt_lt, Int32.le_iff_toInt_le, ← Int32.toInt_inj, vp_in_iff, Int32.reduceToInt, mm_t1, mm_t2, mm_t3, mm_t4, mm_t10] at h1 k5 k7 k14); omega)]

