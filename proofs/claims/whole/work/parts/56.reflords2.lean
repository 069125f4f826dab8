/-! Two lords in turn, in the reference: the search -/
def lst (A : mm_M) (x y dp : Nat) (U : Nat → Bool) (val : Nat × Nat → Int) (X Y : mm_M) (q : Nat) (acc : Option (Int × Nat × Nat)) : Prop := frT dp X Y ∧ Y 75 dp = nI q ∧ acc = tgo dp (fre2 U) val (prQ A x y q) none ∧ Y 77 dp = hsi acc ∧ (∀ r, acc = some r → (Y 76 dp).toInt = r.1) ∧ (Y 78 dp = X 78 dp ∧ Y 79 dp = X 79 dp) ∧ (dp ≠ 0 → Y 51 40 = X 51 40) ∧ (dp = 0 → Y 51 40 = fpi (X 51 40) acc)
def rtn (l : Launch) (G : mm_G) (d : Nat) (A : mm_M) (x y n : Nat) : Prop := ∀ (Q : Int32 → mm_T → mm_M → Prop) (dp : Nat) (X : mm_M) (U : Nat → Bool) (xa xb wh al v6 : Int32) (x7 x8 : Value), dp + n = 4 → rtt A x y X → al.toInt = zTall A x y → (0 ≤ (X 79 dp).toInt ∧ (X 79 dp).toInt ≤ zTall A x y) → X 75 dp = 0 → X 77 dp = 0 → tkF A x y (X 78 dp) U → cnt (fun i => U (oF A x i)) (fmA A x) = dp → (∀ (Y : mm_M) (v : Int32) (y7 y8 : Value), frT dp X Y → v.toInt = tvl (zg A) (zTall A x y) (zTL A x y) n dp U (X 79 dp).toInt → (dp ≠ 0 → Y 51 40 = X 51 40) → (∀ m, dp = 0 → n = m + 1 → Y 51 40 = fpi (X 51 40) (tgo dp (fre2 U) (tvf A (zTall A x y) (zTL A x y) m dp U (X 79 dp).toInt) (zTL A x y) none)) → mm_wp l G (d + 5) k_X12_turnsOf (mm_pi Q) 248 [.ref 51, .int xa, .int xb, .int wh, .int al, .int (nI dp + -1), .int v, y7, y8] [] T0 Y 0 0) → mm_wp l G (d + 5) k_X12_turnsOf (mm_pi Q) 88 [.ref 51, .int xa, .int xb, .int wh, .int al, .int (nI dp), .int v6, x7, x8] [] T0 X 0 0
theorem ent_c {M : mm_M} {k c i : Nat} {t w : Int32} (h : i ≠ k ∨ c < 75 ∨ c = 76 ∨ 79 < c) : ent M k t w c i = M c i := by
  unfold ent
  by_cases q : i = k
  · rw [mm_upn _ _ _ (by omega), mm_upn _ _ _ (by omega), mm_upn _ _ _ (by omega), mm_upn _ _ _ (by omega)]
  · have u : ∀ (N : mm_M) (e : Nat) (v : Int32), mm_up N e k v c i = N c i := fun N e v => by
      by_cases z : c = e
      · subst z; rw [mm_upc]; simp only [upd, if_neg q]
      · rw [mm_upn _ _ _ z]
    rw [u, u, u, u]
theorem ent_f {X Y : mm_M} {dp k : Nat} {t w : Int32} (h : frT dp X Y) (hk : dp ≤ k) : frT dp X (ent Y k t w) := (((h.up (by decide) hk).up (by decide) hk).up (by decide) hk).up (by decide) hk
theorem ent_v {M : mm_M} {k : Nat} {t w : Int32} : ent M k t w 75 k = 0 ∧ ent M k t w 77 k = 0 ∧ ent M k t w 78 k = t ∧ ent M k t w 79 k = w := by
  unfold ent
  refine ⟨?_, ?_, ?_, mm_upv _ _ _ _⟩
  · rw [mm_upn _ _ _ (by decide), mm_upn _ _ _ (by decide), mm_upn _ _ _ (by decide), mm_upv]
  · rw [mm_upn _ _ _ (by decide), mm_upn _ _ _ (by decide), mm_upv]
  · rw [mm_upn _ _ _ (by decide), mm_upv]
theorem lst.child {A X Y Z : mm_M} {x y dp q : Nat} {U : Nat → Bool} {val : Nat × Nat → Int} {acc : Option (Int × Nat × Nat)} {t w : Int32} (h : lst A x y dp U val X Y q acc) (k : frT (dp + 1) (ent Y (dp + 1) t w) Z) (k4 : Z 51 40 = ent Y (dp + 1) t w 51 40) : lst A x y dp U val X Z q acc := by
  obtain ⟨h1, h2, h3, h4, h5, h6, h7, h8⟩ := h
  have e : ∀ c, 75 ≤ c → c ≤ 79 → Z c dp = Y c dp := fun c a b => by rw [k.2.2 c a b dp (by omega), ent_c (Or.inl (by omega))]
  have e4 : Z 51 40 = Y 51 40 := by rw [k4, ent_c (Or.inr (by omega))]
  refine ⟨(ent_f h1 (by omega)).tr k (by omega), by rw [e 75 (by decide) (by decide)]; exact h2, h3, by rw [e 77 (by decide) (by decide)]; exact h4, by rw [e 76 (by decide) (by decide)]; exact h5, by rw [e 78 (by decide) (by decide), e 79 (by decide) (by decide)]; exact h6, by rw [e4]; exact h7, by rw [e4]; exact h8⟩
theorem lst.next {A X Y : mm_M} {x y dp q : Nat} {U : Nat → Bool} {val : Nat × Nat → Int} {acc : Option (Int × Nat × Nat)} (h : lst A x y dp U val X Y q acc) {v : Int32} (hv : v = nI (q + 1)) (he : acc = tgo dp (fre2 U) val (prQ A x y (q + 1)) none) : lst A x y dp U val X (mm_up Y 75 dp v) (q + 1) acc := by
  obtain ⟨h1, h2, h3, h4, h5, h6, h7, h8⟩ := h
  exact ⟨h1.up (by decide) (Nat.le_refl _), by rw [mm_upv]; exact hv, he, by rw [mm_upn _ _ _ (by decide)]; exact h4, by rw [mm_upn _ _ _ (by decide)]; exact h5, by rw [mm_upn _ _ _ (by decide), mm_upn _ _ _ (by decide)]; exact h6, by rw [mm_upn _ _ _ (by decide)]; exact h7, by rw [mm_upn _ _ _ (by decide)]; exact h8⟩

set_option maxHeartbeats 4000000 in
theorem w_X12_tIN {l : Launch} {G : mm_G} {d : Nat} {A : mm_M} (hi : iv A) {x y : Nat} (hx : x < a_nl A) (hy : y < a_nl A) (hxy : x = y + 1 ∨ y = x + 1) (f1 : fmA A x ≤ 4) (f2 : fmA A y ≤ 4) {Q : Int32 → mm_T → mm_M → Prop} {dp : Nat} (hdp : dp ≤ 4) {X : mm_M} (hr : rtt A x y X) {U : Nat → Bool} (hu : tkF A x y (X 78 dp) U) {val : Nat × Nat → Int} {acc : Option (Int × Nat × Nat)} {xa xb wh al v6 : Int32} {x7 x8 : Value} (K : ∀ (q : Nat) (Y : mm_M), q ≤ 16 → lst A x y dp U val X Y q acc → (q < 16 → vq A x y q ∧ fre2 U (pq A x y q) = true) → mm_wp l G (d + 5) k_X12_turnsOf (mm_pi Q) 135 [.ref 51, .int xa, .int xb, .int wh, .int al, .int (nI dp), .int v6, x7, x8] [] T0 Y 0 0) : ∀ (z q : Nat) (Y : mm_M), 16 - q ≤ z → q ≤ 16 → lst A x y dp U val X Y q acc → mm_wp l G (d + 5) k_X12_turnsOf (mm_pi Q) 93 [.ref 51, .int xa, .int xb, .int wh, .int al, .int (nI dp), .int v6, x7, x8] [] T0 Y 0 0 := by
  intro z
  induction z using Nat.strongRecOn with | _ z ih => ?_
  intro q Y hze hqn hl
  have hqi : (nI q).toInt = q := mm_ti (by omega)
  refine mm_aload_0 94 dX12_turnsOf_93 rfl ?_
  refine mm_getR 97 dX12_turnsOf_94 f_X12_79 rfl t_51 rfl ?_
  refine mm_iload_5 99 dX12_turnsOf_97 rfl ?_
  refine mm_ialoadn 100 (dp) dX12_turnsOf_99 rfl t_75 (by decide) (rfl) (by omega) ?_
  refine mm_bipush 102 16 dX12_turnsOf_100 rfl (by decide) ?_
  rw [hl.2.1]
  refine mm_ic_ge 135 105 dX12_turnsOf_102 (by decide) rfl (fun h1 => ?_) (fun h1 => ?_)
  · have hz : 16 ≤ q := by (try simp only [hqi, Int32.lt_iff_toInt_lt, Int32.le_iff_toInt_le, ← Int32.toInt_inj, vp_in_iff, Int32.reduceToInt, mm_t1, mm_t2, mm_t3, mm_t4, mm_t10] at h1); omega
    exact K q Y hqn hl (fun z => by omega)
  · have hlt : q < 16 := by (try simp only [hqi, Int32.lt_iff_toInt_lt, Int32.le_iff_toInt_le, ← Int32.toInt_inj, vp_in_iff, Int32.reduceToInt, mm_t1, mm_t2, mm_t3, mm_t4, mm_t10] at h1); omega
    refine mm_aload_0 106 dX12_turnsOf_105 rfl ?_
    refine mm_iload_5 108 dX12_turnsOf_106 rfl ?_
    refine mm_aload_0 109 dX12_turnsOf_108 rfl ?_
    refine mm_getR 112 dX12_turnsOf_109 f_X12_79 rfl t_51 rfl ?_
    refine mm_iload_5 114 dX12_turnsOf_112 rfl ?_
    refine mm_ialoadn 115 (dp) dX12_turnsOf_114 rfl t_75 (by decide) (rfl) (by omega) ?_
    refine mm_cV2i 118 dX12_turnsOf_115 v_X12_332 rfl t_51 (by decide) rfl rfl (Nat.le_of_ble_eq_true rfl) ⟨rfl, rfl⟩ ⟨Nat.zero_le _, Nat.zero_le _⟩ (c_X12_mayPick hi hx hy hxy f1 f2 (hr.of hl.1) (by omega) hlt (by rw [hl.2.2.2.2.2.1.1]; exact hu) rfl hl.2.1 (fun m1 m2 => ?_) (fun m3 => ?_))
    · refine mm_if_ne 135 121 dX12_turnsOf_118 (by decide) rfl (fun _ => ?_) (fun h => absurd h (by decide))
      exact K q Y hqn hl (fun _ => ⟨m1, m2⟩)
    · refine mm_if_ne 135 121 dX12_turnsOf_118 (by decide) rfl (fun h => absurd h (by decide)) (fun _ => ?_)
      refine mm_aload_0 122 dX12_turnsOf_121 rfl ?_
      refine mm_getR 125 dX12_turnsOf_122 f_X12_79 rfl t_51 rfl ?_
      refine mm_iload_5 127 dX12_turnsOf_125 rfl ?_
      refine mm_dup2 128 dX12_turnsOf_127 rfl rfl rfl ?_
      refine mm_ialoadn 129 (dp) dX12_turnsOf_128 rfl t_75 (by decide) (rfl) (by omega) ?_
      refine mm_iconst 130 1 dX12_turnsOf_129 rfl (by decide) ?_
      refine mm_iadd 131 dX12_turnsOf_130 rfl ?_
      refine mm_iastoren 132 (dp) dX12_turnsOf_131 rfl t_75 (by decide) (rfl) (by omega) ?_
      refine mm_goto 93 dX12_turnsOf_132 (by decide) ?_
      rw [hl.2.1, nI_1]
      refine ih (16 - (q + 1)) (by omega) (q + 1) _ (Nat.le_refl _) (by omega) (hl.next rfl ?_)
      by_cases z : vq A x y q
      · rw [prQ_t z, tgo_0 (fun k => m3 ⟨z, k⟩)]; exact hl.2.2.1
      · rw [prQ_f z]; exact hl.2.2.1

set_option maxHeartbeats 4000000 in
theorem w_X12_tIN2 {l : Launch} {G : mm_G} {d : Nat} {A : mm_M} (hi : iv A) {x y : Nat} (hx : x < a_nl A) (hy : y < a_nl A) (hxy : x = y + 1 ∨ y = x + 1) (f1 : fmA A x ≤ 4) (f2 : fmA A y ≤ 4) {Q : Int32 → mm_T → mm_M → Prop} {dp : Nat} (hdp : dp ≤ 4) {X : mm_M} (hr : rtt A x y X) {U : Nat → Bool} (hu : tkF A x y (X 78 dp) U) {val : Nat × Nat → Int} {acc : Option (Int × Nat × Nat)} {xa xb wh al v6 : Int32} {x7 x8 : Value} {q0 : Nat} (K : ∀ (q : Nat) (Y : mm_M), q0 ≤ q → q ≤ 16 → lst A x y dp U val X Y q acc → (q < 16 → vq A x y q ∧ fre2 U (pq A x y q) = true) → mm_wp l G (d + 5) k_X12_turnsOf (mm_pi Q) 135 [.ref 51, .int xa, .int xb, .int wh, .int al, .int (nI dp), .int v6, x7, x8] [] T0 Y 0 0) : ∀ (z q : Nat) (Y : mm_M), 16 - q ≤ z → q0 ≤ q → q ≤ 16 → lst A x y dp U val X Y q acc → mm_wp l G (d + 5) k_X12_turnsOf (mm_pi Q) 93 [.ref 51, .int xa, .int xb, .int wh, .int al, .int (nI dp), .int v6, x7, x8] [] T0 Y 0 0 := by
  intro z
  induction z using Nat.strongRecOn with | _ z ih => ?_
  intro q Y hze hq0 hqn hl
  have hqi : (nI q).toInt = q := mm_ti (by omega)
  refine mm_aload_0 94 dX12_turnsOf_93 rfl ?_
  refine mm_getR 97 dX12_turnsOf_94 f_X12_79 rfl t_51 rfl ?_
  refine mm_iload_5 99 dX12_turnsOf_97 rfl ?_
  refine mm_ialoadn 100 (dp) dX12_turnsOf_99 rfl t_75 (by decide) (rfl) (by omega) ?_
  refine mm_bipush 102 16 dX12_turnsOf_100 rfl (by decide) ?_
  rw [hl.2.1]
  refine mm_ic_ge 135 105 dX12_turnsOf_102 (by decide) rfl (fun h1 => ?_) (fun h1 => ?_)
  · have hz : 16 ≤ q := by (try simp only [hqi, Int32.lt_iff_toInt_lt, Int32.le_iff_toInt_le, ← Int32.toInt_inj, vp_in_iff, Int32.reduceToInt, mm_t1, mm_t2, mm_t3, mm_t4, mm_t10] at h1); omega
    exact K q Y hq0 hqn hl (fun z => by omega)
  · have hlt : q < 16 := by (try simp only [hqi, Int32.lt_iff_toInt_lt, Int32.le_iff_toInt_le, ← Int32.toInt_inj, vp_in_iff, Int32.reduceToInt, mm_t1, mm_t2, mm_t3, mm_t4, mm_t10] at h1); omega
    refine mm_aload_0 106 dX12_turnsOf_105 rfl ?_
    refine mm_iload_5 108 dX12_turnsOf_106 rfl ?_
    refine mm_aload_0 109 dX12_turnsOf_108 rfl ?_
    refine mm_getR 112 dX12_turnsOf_109 f_X12_79 rfl t_51 rfl ?_
    refine mm_iload_5 114 dX12_turnsOf_112 rfl ?_
    refine mm_ialoadn 115 (dp) dX12_turnsOf_114 rfl t_75 (by decide) (rfl) (by omega) ?_
    refine mm_cV2i 118 dX12_turnsOf_115 v_X12_332 rfl t_51 (by decide) rfl rfl (Nat.le_of_ble_eq_true rfl) ⟨rfl, rfl⟩ ⟨Nat.zero_le _, Nat.zero_le _⟩ (c_X12_mayPick hi hx hy hxy f1 f2 (hr.of hl.1) (by omega) hlt (by rw [hl.2.2.2.2.2.1.1]; exact hu) rfl hl.2.1 (fun m1 m2 => ?_) (fun m3 => ?_))
    · refine mm_if_ne 135 121 dX12_turnsOf_118 (by decide) rfl (fun _ => ?_) (fun h => absurd h (by decide))
      exact K q Y hq0 hqn hl (fun _ => ⟨m1, m2⟩)
    · refine mm_if_ne 135 121 dX12_turnsOf_118 (by decide) rfl (fun h => absurd h (by decide)) (fun _ => ?_)
      refine mm_aload_0 122 dX12_turnsOf_121 rfl ?_
      refine mm_getR 125 dX12_turnsOf_122 f_X12_79 rfl t_51 rfl ?_
      refine mm_iload_5 127 dX12_turnsOf_125 rfl ?_
      refine mm_dup2 128 dX12_turnsOf_127 rfl rfl rfl ?_
      refine mm_ialoadn 129 (dp) dX12_turnsOf_128 rfl t_75 (by decide) (rfl) (by omega) ?_
      refine mm_iconst 130 1 dX12_turnsOf_129 rfl (by decide) ?_
      refine mm_iadd 131 dX12_turnsOf_130 rfl ?_
      refine mm_iastoren 132 (dp) dX12_turnsOf_131 rfl t_75 (by decide) (rfl) (by omega) ?_
      refine mm_goto 93 dX12_turnsOf_132 (by decide) ?_
      rw [hl.2.1, nI_1]
      refine ih (16 - (q + 1)) (by omega) (q + 1) _ (Nat.le_refl _) (by omega) (by omega) (hl.next rfl ?_)
      by_cases z : vq A x y q
      · rw [prQ_t z, tgo_0 (fun k => m3 ⟨z, k⟩)]; exact hl.2.2.1
      · rw [prQ_f z]; exact hl.2.2.1

set_option maxHeartbeats 4000000 in
theorem w_X12_tFin {l : Launch} {G : mm_G} {d : Nat} {A : mm_M} {x y : Nat} {Q : Int32 → mm_T → mm_M → Prop} {dp : Nat} (hdp : dp ≤ 4) {X : mm_M} {U : Nat → Bool} {val : Nat × Nat → Int} {acc : Option (Int × Nat × Nat)} {xa xb wh al v6 : Int32} {x7 x8 : Value} (hal : al.toInt = zTall A x y) (hb : zTall A x y ≤ 20000) (hw : 0 ≤ (X 79 dp).toInt ∧ (X 79 dp).toInt ≤ zTall A x y) {Y : mm_M} (hl : lst A x y dp U val X Y 16 acc) (K : ∀ v : Int32, v.toInt = rsl acc (2 * (X 79 dp).toInt - zTall A x y) → mm_wp l G (d + 5) k_X12_turnsOf (mm_pi Q) 248 [.ref 51, .int xa, .int xb, .int wh, .int al, .int (nI dp + -1), .int v, x7, x8] [] T0 Y 0 0) : mm_wp l G (d + 5) k_X12_turnsOf (mm_pi Q) 135 [.ref 51, .int xa, .int xb, .int wh, .int al, .int (nI dp), .int v6, x7, x8] [] T0 Y 0 0 := by
  refine mm_aload_0 136 dX12_turnsOf_135 rfl ?_
  refine mm_getR 139 dX12_turnsOf_136 f_X12_79 rfl t_51 rfl ?_
  refine mm_iload_5 141 dX12_turnsOf_139 rfl ?_
  refine mm_ialoadn 142 (dp) dX12_turnsOf_141 rfl t_75 (by decide) (rfl) (by omega) ?_
  refine mm_bipush 144 16 dX12_turnsOf_142 rfl (by decide) ?_
  rw [hl.2.1]
  refine mm_ic_ge 211 147 dX12_turnsOf_144 (by decide) rfl (fun h1 => ?_) (fun h1 => absurd (by decide) h1)
  refine mm_aload_0 212 dX12_turnsOf_211 rfl ?_
  refine mm_getR 215 dX12_turnsOf_212 f_X12_85 rfl t_51 rfl ?_
  refine mm_iload_5 217 dX12_turnsOf_215 rfl ?_
  refine mm_baloadn 218 (dp) dX12_turnsOf_217 rfl t_77 (by decide) (rfl) (by omega) ?_
  refine mm_if_eq 231 221 dX12_turnsOf_218 (by decide) rfl (fun h2 => ?_) (fun h2 => ?_)
  · refine mm_iconst 232 2 dX12_turnsOf_231 rfl (by decide) ?_
    refine mm_aload_0 233 dX12_turnsOf_232 rfl ?_
    refine mm_getR 236 dX12_turnsOf_233 f_X12_92 rfl t_51 rfl ?_
    refine mm_iload_5 238 dX12_turnsOf_236 rfl ?_
    refine mm_ialoadn 239 (dp) dX12_turnsOf_238 rfl t_79 (by decide) (rfl) (by omega) ?_
    refine mm_imul 240 dX12_turnsOf_239 rfl ?_
    refine mm_iload_4 242 dX12_turnsOf_240 rfl ?_
    refine mm_isub 243 dX12_turnsOf_242 rfl ?_
    refine mm_istore_6 245 dX12_turnsOf_243 rfl rfl ?_
    refine mm_iinc_5 248 (-1) dX12_turnsOf_245 rfl (by decide) rfl ?_
    have an : acc = none := hsi_0 (by rw [← hl.2.2.2.1]; exact h2)
    refine K _ ?_
    rw [an]
    show _ = 2 * (X 79 dp).toInt - zTall A x y
    have w2 := hl.2.2.2.2.2.1.2
    have t2 : (2 : Int32).toInt = 2 := by decide
    have s1 := mm_mul (a := 2) (b := Y 79 dp) (by rw [t2, w2]; omega)
    rw [t2, w2] at s1
    have s2 := mm_sub (a := 2 * Y 79 dp) (b := al) (by rw [w2]; omega)
    rw [w2] at s2 ⊢
    omega
  · refine mm_aload_0 222 dX12_turnsOf_221 rfl ?_
    refine mm_getR 225 dX12_turnsOf_222 f_X12_82 rfl t_51 rfl ?_
    refine mm_iload_5 227 dX12_turnsOf_225 rfl ?_
    refine mm_ialoadn 228 (dp) dX12_turnsOf_227 rfl t_76 (by decide) (rfl) (by omega) ?_
    refine mm_goto 243 dX12_turnsOf_228 (by decide) ?_
    refine mm_istore_6 245 dX12_turnsOf_243 rfl rfl ?_
    refine mm_iinc_5 248 (-1) dX12_turnsOf_245 rfl (by decide) rfl ?_
    obtain ⟨ra, an⟩ := hsi_1 (acc := acc) (by rw [← hl.2.2.2.1]; exact h2)
    refine K _ ?_
    rw [hl.2.2.2.2.1 ra an, an]
    rfl

set_option maxHeartbeats 4000000 in
theorem w_X12_tPick {l : Launch} {G : mm_G} {d : Nat} {A : mm_M} (hi : iv A) {x y : Nat} (hx : x < a_nl A) (hy : y < a_nl A) (hxy : x = y + 1 ∨ y = x + 1) (f1 : fmA A x ≤ 4) (f2 : fmA A y ≤ 4) {Q : Int32 → mm_T → mm_M → Prop} {dp : Nat} (hdp : dp ≤ 4) {X : mm_M} (hr : rtt A x y X) {U : Nat → Bool} {val : Nat × Nat → Int} {acc : Option (Int × Nat × Nat)} {xa xb wh al v6 : Int32} {x7 x8 : Value} (hal : al.toInt = zTall A x y) (hb : zTall A x y ≤ 20000) (hw : 0 ≤ (X 79 dp).toInt ∧ (X 79 dp).toInt ≤ zTall A x y) (h3 : dp ≤ 3) {Y : mm_M} {q : Nat} (hq : q < 16) (hv : vq A x y q) (hl : lst A x y dp U val X Y q acc) (K : ∀ th : Int32, th.toInt = clp (zTall A x y) ((X 79 dp).toInt + zg A (pq A x y q).1 (pq A x y q).2) → mm_wp l G (d + 5) k_X12_turnsOf (mm_pi Q) 88 [.ref 51, .int xa, .int xb, .int wh, .int al, .int (nI (dp + 1)), .int v6, .int (nI q), .int th] [] T0 (ent Y (dp + 1) ((X 78 dp ||| 1 <<< (nI (q / 4) &&& 31)) ||| 16 <<< (nI (q % 4) &&& 31)) th) 0 0) : mm_wp l G (d + 5) k_X12_turnsOf (mm_pi Q) 135 [.ref 51, .int xa, .int xb, .int wh, .int al, .int (nI dp), .int v6, x7, x8] [] T0 Y 0 0 := by
  have n12 := hi.1.np
  have qd : nI q / 4 = nI (q / 4) := mm_div 4 rfl (by omega) mm_l4 (by decide) (by decide)
  have qm : nI q - nI q / 4 * 4 = nI (q % 4) := mm_rem 4 rfl (by omega) mm_l4 (by decide) (by decide)
  refine mm_aload_0 136 dX12_turnsOf_135 rfl ?_
  refine mm_getR 139 dX12_turnsOf_136 f_X12_79 rfl t_51 rfl ?_
  refine mm_iload_5 141 dX12_turnsOf_139 rfl ?_
  refine mm_ialoadn 142 (dp) dX12_turnsOf_141 rfl t_75 (by decide) (rfl) (by omega) ?_
  refine mm_bipush 144 16 dX12_turnsOf_142 rfl (by decide) ?_
  rw [hl.2.1]
  refine mm_ic_ge 211 147 dX12_turnsOf_144 (by decide) rfl (fun h1 => absurd h1 (by rw [mm_le, mm_ti (by omega)]; simp only [Int32.reduceToInt]; omega)) (fun h1 => ?_)
  refine mm_aload_0 148 dX12_turnsOf_147 rfl ?_
  refine mm_getR 151 dX12_turnsOf_148 f_X12_79 rfl t_51 rfl ?_
  refine mm_iload_5 153 dX12_turnsOf_151 rfl ?_
  refine mm_ialoadn 154 (dp) dX12_turnsOf_153 rfl t_75 (by decide) (rfl) (by omega) ?_
  rw [hl.2.1]
  refine mm_istore_7 156 dX12_turnsOf_154 rfl rfl ?_
  refine mm_aload_0 157 dX12_turnsOf_156 rfl ?_
  refine mm_aload_0 158 dX12_turnsOf_157 rfl ?_
  refine mm_getR 161 dX12_turnsOf_158 f_X12_92 rfl t_51 rfl ?_
  refine mm_iload_5 163 dX12_turnsOf_161 rfl ?_
  refine mm_ialoadn 164 (dp) dX12_turnsOf_163 rfl t_79 (by decide) (rfl) (by omega) ?_
  refine mm_iload_4 166 dX12_turnsOf_164 rfl ?_
  refine mm_iload_7 168 dX12_turnsOf_166 rfl ?_
  refine mm_cV3i 171 dX12_turnsOf_168 v_X12_335 rfl t_51 (by decide) rfl rfl (Nat.le_of_ble_eq_true rfl) ⟨rfl, rfl⟩ ⟨Nat.zero_le _, Nat.zero_le _⟩ (c_X12_widthBehind hi hx hy hxy f1 f2 (hr.of hl.1) hq hv (by rw [hl.2.2.2.2.2.1.2, hal]; exact hw) (by rw [hal]; exact hb) rfl (fun rth eth => ?_))
  refine mm_istore_8 173 dX12_turnsOf_171 rfl rfl ?_
  refine mm_aload_0 174 dX12_turnsOf_173 rfl ?_
  refine mm_iload_5 176 dX12_turnsOf_174 rfl ?_
  refine mm_iconst 177 1 dX12_turnsOf_176 rfl (by decide) ?_
  refine mm_iadd 178 dX12_turnsOf_177 rfl ?_
  refine mm_aload_0 179 dX12_turnsOf_178 rfl ?_
  refine mm_getR 182 dX12_turnsOf_179 f_X12_89 rfl t_51 rfl ?_
  refine mm_iload_5 184 dX12_turnsOf_182 rfl ?_
  refine mm_ialoadn 185 (dp) dX12_turnsOf_184 rfl t_78 (by decide) (rfl) (by omega) ?_
  refine mm_iconst 186 1 dX12_turnsOf_185 rfl (by decide) ?_
  refine mm_iload_7 188 dX12_turnsOf_186 rfl ?_
  refine mm_iconst 189 4 dX12_turnsOf_188 rfl (by decide) ?_
  refine mm_idiv 190 dX12_turnsOf_189 rfl (by decide) ?_
  rw [qd]
  refine mm_ishl 191 dX12_turnsOf_190 rfl ?_
  refine mm_ior 192 dX12_turnsOf_191 rfl ?_
  refine mm_bipush 194 16 dX12_turnsOf_192 rfl (by decide) ?_
  refine mm_iload_7 196 dX12_turnsOf_194 rfl ?_
  refine mm_iconst 197 4 dX12_turnsOf_196 rfl (by decide) ?_
  refine mm_irem 198 dX12_turnsOf_197 rfl (by decide) ?_
  rw [qm]
  refine mm_ishl 199 dX12_turnsOf_198 rfl ?_
  refine mm_ior 200 dX12_turnsOf_199 rfl ?_
  refine mm_iload_8 202 dX12_turnsOf_200 rfl ?_
  rw [nI_1]
  refine mm_cV3v 205 dX12_turnsOf_202 v_X12_328 rfl t_51 (by decide) rfl rfl (Nat.le_of_ble_eq_true rfl) ⟨rfl, rfl⟩ ⟨Nat.zero_le _, Nat.zero_le _⟩ (c_X12_enters (k := dp + 1) (by omega) rfl ?_)
  refine mm_iinc_5 208 1 dX12_turnsOf_205 rfl (by decide) rfl ?_
  refine mm_goto 88 dX12_turnsOf_208 (by decide) ?_
  rw [hl.2.2.2.2.2.1.1]
  rw [hl.2.2.2.2.2.1.2, hal] at eth
  rw [nI_1]
  exact K rth eth

set_option maxHeartbeats 4000000 in
theorem w_X12_tBack {l : Launch} {G : mm_G} {d : Nat} {A : mm_M} (hi : iv A) {x y : Nat} (hx : x < a_nl A) (hy : y < a_nl A) (hxy : x = y + 1 ∨ y = x + 1) (f1 : fmA A x ≤ 4) (f2 : fmA A y ≤ 4) {Q : Int32 → mm_T → mm_M → Prop} {dp : Nat} (hdp : dp ≤ 4) {X : mm_M} (hr : rtt A x y X) {U : Nat → Bool} {val : Nat × Nat → Int} {acc : Option (Int × Nat × Nat)} {xa xb wh al v : Int32} {x7 x8 : Value} {Y : mm_M} {q : Nat} (hq : q < 16) (hv : vq A x y q) (hok : fre2 U (pq A x y q) = true) (hval : v.toInt = val (pq A x y q)) (hl : lst A x y dp U val X Y q acc) (K : ∀ (Z : mm_M) (acc2 : Option (Int × Nat × Nat)), lst A x y dp U val X Z (q + 1) acc2 → mm_wp l G (d + 5) k_X12_turnsOf (mm_pi Q) 88 [.ref 51, .int xa, .int xb, .int wh, .int al, .int (nI dp), .int v, x7, x8] [] T0 Z 0 0) : mm_wp l G (d + 5) k_X12_turnsOf (mm_pi Q) 248 [.ref 51, .int xa, .int xb, .int wh, .int al, .int (nI dp), .int v, x7, x8] [] T0 Y 0 0 := by
  refine mm_iload_5 250 dX12_turnsOf_248 rfl ?_
  refine mm_if_lt 88 253 dX12_turnsOf_250 (by decide) rfl (fun h1 => absurd h1 (by rw [mm_lt, mm_ti (by omega)]; simp only [Int32.reduceToInt]; omega)) (fun h1 => ?_)
  refine mm_aload_0 254 dX12_turnsOf_253 rfl ?_
  refine mm_iload_5 256 dX12_turnsOf_254 rfl ?_
  refine mm_iload_6 258 dX12_turnsOf_256 rfl ?_
  refine mm_cV2v 261 dX12_turnsOf_258 v_X12_338 rfl t_51 (by decide) rfl rfl (Nat.le_of_ble_eq_true rfl) ⟨rfl, rfl⟩ ⟨Nat.zero_le _, Nat.zero_le _⟩ (c_X12_keeps hi hx hy hxy f1 f2 (hr.of hl.1) (by omega) hq hv (fun z => by have k := hl.2.1; rw [z] at k; exact k) rfl (fun kb fp _ g1 g2 => ?_) (fun kb => ?_))
  · refine mm_aload_0 262 dX12_turnsOf_261 rfl ?_
    refine mm_getR 265 dX12_turnsOf_262 f_X12_79 rfl t_51 rfl ?_
    refine mm_iload_5 267 dX12_turnsOf_265 rfl ?_
    refine mm_dup2 268 dX12_turnsOf_267 rfl rfl rfl ?_
    refine mm_ialoadn 269 (dp) dX12_turnsOf_268 rfl t_75 (by decide) (rfl) (by omega) ?_
    refine mm_iconst 270 1 dX12_turnsOf_269 rfl (by decide) ?_
    refine mm_iadd 271 dX12_turnsOf_270 rfl ?_
    refine mm_iastoren 272 (dp) dX12_turnsOf_271 rfl t_75 (by decide) (rfl) (by omega) ?_
    refine mm_goto 88 dX12_turnsOf_272 (by decide) ?_
    have bt : tbet dp acc v.toInt (pq A x y q) = some (v.toInt, pq A x y q) := by
      rw [hl.2.2.2.1] at kb
      cases e : acc with
      | none => rfl
      | some r =>
        have e5 := hl.2.2.2.2.1 r e
        rw [e, e5] at kb
        show (if (dp % 2 = 0 ∧ r.1 < v.toInt) ∨ (¬ dp % 2 = 0 ∧ v.toInt < r.1) then _ else _) = _
        rcases kb with kb | kb
        · exact absurd kb (by show ¬ (1 : Int32) = 0; decide)
        · rw [if_pos kb]
    rw [mm_upn _ _ _ (show (75 : Nat) ≠ 51 by decide), mm_upn _ _ _ (show (75 : Nat) ≠ 77 by decide), mm_upn _ _ _ (show (75 : Nat) ≠ 76 by decide), hl.2.1, nI_1]
    refine K _ (some (v.toInt, pq A x y q)) ?_
    obtain ⟨l1, l2, l3, l4, l5, l6, l7, l8⟩ := hl
    refine ⟨(((l1.up (by decide) (Nat.le_refl _)).up (by decide) (Nat.le_refl _)).u40).up (by decide) (Nat.le_refl _), mm_upv _ _ _ _, ?_, ?_, ?_, ⟨?_, ?_⟩, ?_, ?_⟩
    · rw [prQ_t hv, tgo_1 hok, ← l3, ← hval, bt]
    · rw [mm_upn _ _ _ (by decide), mm_upn _ _ _ (by decide), mm_upv]; rfl
    · intro r e
      cases e
      rw [mm_upn _ _ _ (by decide), mm_upn _ _ _ (by decide), mm_upn _ _ _ (by decide), mm_upv]
    · rw [mm_upn _ _ _ (by decide), mm_upn _ _ _ (by decide), mm_upn _ _ _ (by decide), mm_upn _ _ _ (by decide)]; exact l6.1
    · rw [mm_upn _ _ _ (by decide), mm_upn _ _ _ (by decide), mm_upn _ _ _ (by decide), mm_upn _ _ _ (by decide)]; exact l6.2
    · intro z
      rw [mm_upn _ _ _ (by decide), mm_upv, g2 z]
      exact l7 z
    · intro z
      rw [mm_upn _ _ _ (by decide), mm_upv, g1 z]
      rfl
  · refine mm_aload_0 262 dX12_turnsOf_261 rfl ?_
    refine mm_getR 265 dX12_turnsOf_262 f_X12_79 rfl t_51 rfl ?_
    refine mm_iload_5 267 dX12_turnsOf_265 rfl ?_
    refine mm_dup2 268 dX12_turnsOf_267 rfl rfl rfl ?_
    refine mm_ialoadn 269 (dp) dX12_turnsOf_268 rfl t_75 (by decide) (rfl) (by omega) ?_
    refine mm_iconst 270 1 dX12_turnsOf_269 rfl (by decide) ?_
    refine mm_iadd 271 dX12_turnsOf_270 rfl ?_
    refine mm_iastoren 272 (dp) dX12_turnsOf_271 rfl t_75 (by decide) (rfl) (by omega) ?_
    refine mm_goto 88 dX12_turnsOf_272 (by decide) ?_
    have bt : tbet dp acc v.toInt (pq A x y q) = acc := by
      rw [hl.2.2.2.1] at kb
      cases e : acc with
      | none => rw [e] at kb; exact absurd (Or.inl rfl) kb
      | some r =>
        have e5 := hl.2.2.2.2.1 r e
        rw [e, e5] at kb
        show (if (dp % 2 = 0 ∧ r.1 < v.toInt) ∨ (¬ dp % 2 = 0 ∧ v.toInt < r.1) then _ else _) = _
        rw [if_neg (fun z => kb (Or.inr z))]
    rw [hl.2.1, nI_1]
    refine K _ acc (hl.next rfl ?_)
    rw [prQ_t hv, tgo_1 hok, ← hl.2.2.1, ← hval, bt]

set_option maxHeartbeats 4000000 in
theorem w_X12_t88 {l : Launch} {G : mm_G} {d : Nat} {Q : Int32 → mm_T → mm_M → Prop} {dp : Nat} (hdp : dp ≤ 4) {xa xb wh al v6 : Int32} {x7 x8 : Value} {Y : mm_M} (K : mm_wp l G (d + 5) k_X12_turnsOf (mm_pi Q) 93 [.ref 51, .int xa, .int xb, .int wh, .int al, .int (nI dp), .int v6, x7, x8] [] T0 Y 0 0) : mm_wp l G (d + 5) k_X12_turnsOf (mm_pi Q) 88 [.ref 51, .int xa, .int xb, .int wh, .int al, .int (nI dp), .int v6, x7, x8] [] T0 Y 0 0 := by
  refine mm_iload_5 90 dX12_turnsOf_88 rfl ?_
  refine mm_if_lt 275 93 dX12_turnsOf_90 (by decide) rfl (fun h1 => absurd h1 (by rw [mm_lt, mm_ti (by omega)]; simp only [Int32.reduceToInt]; omega)) (fun h1 => ?_)
  exact K

theorem lst_0 {A X : mm_M} {x y dp : Nat} {U : Nat → Bool} {val : Nat × Nat → Int} (h5 : X 75 dp = 0) (h7 : X 77 dp = 0) : lst A x y dp U val X X 0 none :=
  ⟨frT.rf, h5, rfl, h7, (fun _ e => nomatch e), ⟨rfl, rfl⟩, fun _ => rfl, fun _ => rfl⟩
theorem cnt_full {f : Nat → Bool} {n : Nat} (h : n ≤ cnt f n) : ∀ i, i < n → f i = true := fun i hi => by
  have e : cnt (fun _ => true) n ≤ n := cnt_le n
  exact cnt_same (f := f) (g := fun _ => true) n (fun _ _ _ => rfl) (Nat.le_trans e h) i hi rfl
theorem w_X12_rt0 {l : Launch} {G : mm_G} {d : Nat} {A : mm_M} (hi : iv A) {x y : Nat} (hx : x < a_nl A) (hy : y < a_nl A) (hxy : x = y + 1 ∨ y = x + 1) (f1 : fmA A x ≤ 4) (f2 : fmA A y ≤ 4) (hb : zTall A x y ≤ 20000) : rtn l G d A x y 0 := by
  intro Q dp X U xa xb wh al v6 x7 x8 hdn hr hal hw h5 h7 hu hc K
  refine w_X12_t88 (by omega) (w_X12_tIN hi hx hy hxy f1 f2 (by omega) hr hu (val := fun _ => 0) (acc := none) (fun q Y hq hl hv => ?_) 16 0 X (by omega) (by omega) (lst_0 h5 h7))
  have q16 : q = 16 := by
    by_cases z : q = 16
    · exact z
    · obtain ⟨v1, v2⟩ := hv (by omega)
      have t := cnt_full (f := fun i => U (oF A x i)) (n := fmA A x) (by omega) (q / 4) v1.1
      have v2 : (!U (oF A x (q / 4)) && !U (oF A y (q % 4))) = true := v2
      rw [show U (oF A x (q / 4)) = true from t] at v2
      exact absurd v2 (by simp)
  subst q16
  refine w_X12_tFin (by omega) hal hb hw hl (fun v ev => K Y v x7 x8 hl.1 ev hl.2.2.2.2.2.2.1 (fun m _ e => by omega))
theorem w_X12_rtS {l : Launch} {G : mm_G} {d : Nat} {A : mm_M} (hi : iv A) {x y : Nat} (hx : x < a_nl A) (hy : y < a_nl A) (hxy : x = y + 1 ∨ y = x + 1) (f1 : fmA A x ≤ 4) (f2 : fmA A y ≤ 4) (hb : zTall A x y ≤ 20000) (h0 : 0 ≤ zTall A x y) {n : Nat} (IH : rtn l G d A x y n) : rtn l G d A x y (n + 1) := by
  intro Q dp X U xa xb wh al v6 x7 x8 hdn hr hal hw h5 h7 hu hc K
  have p16 := prQ_16 hi hx hy hxy f1 f2
  have lv : ∀ (z q : Nat) (Y : mm_M) (acc : Option (Int × Nat × Nat)) (v6 : Int32) (x7 x8 : Value), 17 - q ≤ z → q ≤ 16 → lst A x y dp U (tvf A (zTall A x y) (zTL A x y) n dp U (X 79 dp).toInt) X Y q acc → mm_wp l G (d + 5) k_X12_turnsOf (mm_pi Q) 88 [.ref 51, .int xa, .int xb, .int wh, .int al, .int (nI dp), .int v6, x7, x8] [] T0 Y 0 0 := by
    intro z
    induction z using Nat.strongRecOn with | _ z ih => ?_
    intro q Y acc v6 x7 x8 hze hqn hl
    refine w_X12_t88 (by omega) (w_X12_tIN2 hi hx hy hxy f1 f2 (by omega) hr hu (q0 := q) (fun q2 Y2 hqq hq2 hl2 hv2 => ?_) 16 q Y (by omega) (Nat.le_refl _) hqn hl)
    by_cases q16 : q2 = 16
    · subst q16
      refine w_X12_tFin (by omega) hal hb hw hl2 (fun v ev => K Y2 v x7 x8 hl2.1 ?_ hl2.2.2.2.2.2.2.1 (fun m e1 e2 => ?_))
      · rw [ev, tvl_s, hl2.2.2.1, p16]
      · rw [show m = n by omega, hl2.2.2.2.2.2.2.2 e1, hl2.2.2.1, p16]
    · obtain ⟨v1, v2⟩ := hv2 (by omega)
      refine w_X12_tPick hi hx hy hxy f1 f2 (by omega) hr hal hb hw (by omega) (by omega) v1 hl2 (fun th eth => ?_)
      have tb := clp_b (all := zTall A x y) (w := (X 79 dp).toInt + zg A (pq A x y q2).1 (pq A x y q2).2) h0
      have ev := @ent_v Y2 (dp + 1) ((X 78 dp ||| 1 <<< (nI (q2 / 4) &&& 31)) ||| 16 <<< (nI (q2 % 4) &&& 31)) th
      refine IH Q (dp + 1) _ (uad U (pq A x y q2)) xa xb wh al v6 _ _ (by omega) (hr.of (ent_f hl2.1 (by omega))) hal (by rw [ev.2.2.2, eth]; exact tb) ev.1 ev.2.1 (by rw [ev.2.2.1]; exact tkF_up hi hx hy hxy f1 f2 hu v1.1 v1.2.1) ?_ (fun Z v y7 y8 z1 z2 z3 z4 => ?_)
      · rw [← hc]
        have ce : cnt (fun i => uad U (pq A x y q2) (oF A x i)) (fmA A x) = cnt (fun i => U (oF A x i) || decide (i = q2 / 4)) (fmA A x) := cnt_eq _ (fun i hi2 => by
          show (U (oF A x i) || (decide (oF A x i = oF A x (q2 / 4)) || decide (oF A x i = oF A y (q2 % 4)))) = _
          rw [decide_eq_false (oF_ne hi hx hy hxy hi2 v1.2.1), Bool.or_false, decide_eq_decide.mpr (show oF A x i = oF A x (q2 / 4) ↔ i = q2 / 4 from ⟨fun e => rkp_inj hi2 v1.1 e, fun e => by rw [e]⟩)])
        rw [ce]
        refine cnt_add (a := q2 / 4) v1.1 ?_ ?_ (fun i hne => ?_)
        · have v2 : (!U (oF A x (q2 / 4)) && !U (oF A y (q2 % 4))) = true := v2
          simp only [Bool.and_eq_true, Bool.not_eq_true'] at v2
          exact v2.1
        · simp
        · simp [hne]
      · rw [nI_d (by omega)]
        rw [ev.2.2.2, eth] at z2
        refine w_X12_tBack hi hx hy hxy f1 f2 (by omega) hr (q := q2) (by omega) v1 v2 z2 (hl2.child z1 (z3 (by omega))) (fun Z2 acc2 k => ?_)
        exact ih (17 - (q2 + 1)) (by omega) (q2 + 1) Z2 acc2 v y7 y8 (Nat.le_refl _) (by omega) k
  exact lv 17 0 X none v6 x7 x8 (by omega) (by omega) (lst_0 h5 h7)

theorem w_X12_rt {l : Launch} {G : mm_G} {d : Nat} {A : mm_M} (hi : iv A) {x y : Nat} (hx : x < a_nl A) (hy : y < a_nl A) (hxy : x = y + 1 ∨ y = x + 1) (f1 : fmA A x ≤ 4) (f2 : fmA A y ≤ 4) (hb : zTall A x y ≤ 20000) (h0 : 0 ≤ zTall A x y) : ∀ n, rtn l G d A x y n
  | 0 => w_X12_rt0 hi hx hy hxy f1 f2 hb
  | n + 1 => w_X12_rtS hi hx hy hxy f1 f2 hb h0 (w_X12_rt hi hx hy hxy f1 f2 hb h0 n)

