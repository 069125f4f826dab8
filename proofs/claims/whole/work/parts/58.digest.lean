/-! digest -/
def hz (h : Int64) (r : Int32) : Int64 := 31 * h + r.toInt64
def dgl (g : Nat → Int64 → Int64) : Nat → Int64 → Int64
  | 0, h => h
  | k + 1, h => g k (dgl g k h)
def dg1 (A : mm_M) (k : Nat) (h : Int64) : Int64 := hz h (z_count A (nI k))
def dg2 (A : mm_M) (e : Nat) (h : Int64) : Int64 := hz (hz h (z_moved A (nI e))) (z_without A (nI e) 0)
noncomputable def dg3 (A : mm_M) (l : Nat) (h : Int64) : Int64 := hz (hz (hz (hz (hz (hz h (z_width A (nI l) (nI (a_ne A)))) (z_reach A (nI l) 150)) (z_grows A (nI l) 2)) (z_blame A (nI l))) (z_lords A (nI l) (nI (l + 1)) 0)) (z_lords A (nI l) (nI (l + 1)) 1)
def dg4 (A : mm_M) (p k : Nat) (h : Int64) : Int64 := hz h (z_person A (nI p) (nI k))
def dg5 (A : mm_M) (p k : Nat) (h : Int64) : Int64 := hz h (z_state A (nI p) (nI (a_ne A)) (nI k))
def dg6 (A : mm_M) (p : Nat) (h : Int64) : Int64 := hz (dgl (dg5 A p) 3 (hz (dgl (dg4 A p) 4 h) (z_shadow A (nI p) 6))) (z_forged A (nI p))
def dgA (A : mm_M) : Int64 := hz (hz (hz (dgl (dg1 A) 8 17) (z_fault A 0)) (z_fault A 1)) (z_judged A)
noncomputable def z_digest (A : mm_M) : Int64 := hz (hz (hz (dgl (dg6 A) (a_np A) (dgl (dg3 A) (a_nl A) (dgl (dg2 A) (a_ne A) (dgA A)))) (z_nobody A (nI (a_ne A)))) (z_leave A)) (z_unlike A)

set_option maxHeartbeats 4000000 in
theorem w_X11_d1 {l : Launch} {G : mm_G} {d : Nat} {Q : Int64 → mm_T → mm_M → Prop} {A : mm_M} (hi : iv A) {h0 : Int64} (K : ∀ (M1 : mm_M) (x4 : Value), fr A M1 → mm_wp l G (d + 12) k_X11_digest (mm_pl Q) 31 [.ref 0, .long (dgl (dg1 A) 8 h0), .double 0, .int (nI 8), x4] [] T0 M1 0 0) : ∀ (z k : Nat) (Mi : mm_M) (x4 : Value), 8 - k ≤ z → k ≤ 8 → fr A Mi → mm_wp l G (d + 12) k_X11_digest (mm_pl Q) 6 [.ref 0, .long (dgl (dg1 A) k h0), .double 0, .int (nI k), x4] [] T0 Mi 0 0 := by
  have n6 := hi.1.nl
  have n12 := hi.1.np
  have n24 := hi.1.ne.2
  have hNi : (nI 8).toInt = 8 := mm_ti (by omega)
  intro z
  induction z using Nat.strongRecOn with | _ z ih => ?_
  intro k Mi x4 hze hkn hq
  have hki : (nI k).toInt = k := mm_ti (by omega)
  refine mm_iload_3 7 dX11_digest_6 rfl ?_
  refine mm_bipush 9 7 dX11_digest_7 rfl (by decide) ?_
  refine mm_ic_gt 31 12 dX11_digest_9 (by decide) rfl (fun h1 => ?_) (fun h1 => ?_)
  · have hz : k = 8 := by (try simp only [hki, hNi, Int32.lt_iff_toInt_lt, Int32.le_iff_toInt_le, ← Int32.toInt_inj, vp_in_iff, Int32.reduceToInt, mm_t1, mm_t2, mm_t3, mm_t4, mm_t10] at h1); omega
    rw [hz]
    exact K Mi x4 hq
  · have hlt : k < 8 := by (try simp only [hki, hNi, Int32.lt_iff_toInt_lt, Int32.le_iff_toInt_le, ← Int32.toInt_inj, vp_in_iff, Int32.reduceToInt, mm_t1, mm_t2, mm_t3, mm_t4, mm_t10] at h1); omega
    refine mm_ldc2 15 31 dX11_digest_12 rfl j_X11_300 ?_
    refine mm_lload_1 16 dX11_digest_15 rfl ?_
    refine mm_lmul 17 dX11_digest_16 rfl ?_
    refine mm_aload_0 18 dX11_digest_17 rfl ?_
    refine mm_iload_3 19 dX11_digest_18 rfl ?_
    refine mm_cV1i 22 dX11_digest_19 v_X11_302 rfl t_0 (by decide) rfl rfl (Nat.le_of_ble_eq_true rfl) ⟨rfl, rfl⟩ ⟨Nat.zero_le _, Nat.zero_le _⟩ (c_X11_count hi hq (fun r2 M2 e2 X2 => ?_))
    refine mm_i2l 23 dX11_digest_22 rfl ?_
    refine mm_ladd 24 dX11_digest_23 rfl ?_
    refine mm_lstore_1 25 dX11_digest_24 rfl rfl ?_
    refine mm_iinc_3 28 1 dX11_digest_25 rfl (by decide) rfl ?_
    refine mm_goto 6 dX11_digest_28 (by decide) ?_
    rw [nI_1, e2]
    exact ih (8 - (k + 1)) (by omega) (k + 1) _ _ (Nat.le_refl _) (by omega) X2

set_option maxHeartbeats 4000000 in
theorem w_X11_d2 {l : Launch} {G : mm_G} {d : Nat} {Q : Int64 → mm_T → mm_M → Prop} {A : mm_M} (hi : iv A) {h0 : Int64} (K : ∀ (M1 : mm_M) (x4 : Value), fr A M1 → mm_wp l G (d + 12) k_X11_digest (mm_pl Q) 115 [.ref 0, .long (dgl (dg2 A) (a_ne A) h0), .double 0, .int (nI (a_ne A)), x4] [] T0 M1 0 0) : ∀ (z k : Nat) (Mi : mm_M) (x4 : Value), (a_ne A) - k ≤ z → k ≤ (a_ne A) → fr A Mi → mm_wp l G (d + 12) k_X11_digest (mm_pl Q) 71 [.ref 0, .long (dgl (dg2 A) k h0), .double 0, .int (nI k), x4] [] T0 Mi 0 0 := by
  have n6 := hi.1.nl
  have n12 := hi.1.np
  have n24 := hi.1.ne.2
  have hNi : (nI (a_ne A)).toInt = (a_ne A) := mm_ti (by omega)
  intro z
  induction z using Nat.strongRecOn with | _ z ih => ?_
  intro k Mi x4 hze hkn hq
  have hki : (nI k).toInt = k := mm_ti (by omega)
  refine mm_iload_3 72 dX11_digest_71 rfl ?_
  refine mm_aload_0 73 dX11_digest_72 rfl ?_
  refine mm_getR 76 dX11_digest_73 f_X11_47 rfl t_0 rfl ?_
  refine mm_cV0i 79 dX11_digest_76 v_X11_165 rfl t_14 (by decide) rfl rfl (Nat.le_of_ble_eq_true rfl) ⟨rfl, rfl⟩ ⟨Nat.zero_le _, Nat.zero_le _⟩ (b_eno hi hq (fun r1 e1 => ?_))
  rw [e1]
  refine mm_ic_ge 115 82 dX11_digest_79 (by decide) rfl (fun h2 => ?_) (fun h2 => ?_)
  · have hz : k = (a_ne A) := by (try simp only [hki, hNi, Int32.lt_iff_toInt_lt, Int32.le_iff_toInt_le, ← Int32.toInt_inj, vp_in_iff, Int32.reduceToInt, mm_t1, mm_t2, mm_t3, mm_t4, mm_t10] at h2); omega
    rw [hz]
    exact K Mi x4 hq
  · have hlt : k < (a_ne A) := by (try simp only [hki, hNi, Int32.lt_iff_toInt_lt, Int32.le_iff_toInt_le, ← Int32.toInt_inj, vp_in_iff, Int32.reduceToInt, mm_t1, mm_t2, mm_t3, mm_t4, mm_t10] at h2); omega
    refine mm_ldc2 85 31 dX11_digest_82 rfl j_X11_300 ?_
    refine mm_lload_1 86 dX11_digest_85 rfl ?_
    refine mm_lmul 87 dX11_digest_86 rfl ?_
    refine mm_aload_0 88 dX11_digest_87 rfl ?_
    refine mm_iload_3 89 dX11_digest_88 rfl ?_
    refine mm_cV1i 92 dX11_digest_89 v_X11_311 rfl t_0 (by decide) rfl rfl (Nat.le_of_ble_eq_true rfl) ⟨rfl, rfl⟩ ⟨Nat.zero_le _, Nat.zero_le _⟩ (c_X11_moved hi hq (fun r3 M3 e3 X3 => ?_))
    refine mm_i2l 93 dX11_digest_92 rfl ?_
    refine mm_ladd 94 dX11_digest_93 rfl ?_
    refine mm_lstore_1 95 dX11_digest_94 rfl rfl ?_
    refine mm_ldc2 98 31 dX11_digest_95 rfl j_X11_300 ?_
    refine mm_lload_1 99 dX11_digest_98 rfl ?_
    refine mm_lmul 100 dX11_digest_99 rfl ?_
    refine mm_aload_0 101 dX11_digest_100 rfl ?_
    refine mm_iload_3 102 dX11_digest_101 rfl ?_
    refine mm_iconst 103 0 dX11_digest_102 rfl (by decide) ?_
    refine mm_cV2i 106 dX11_digest_103 v_X11_314 rfl t_0 (by decide) rfl rfl (Nat.le_of_ble_eq_true rfl) ⟨rfl, rfl⟩ ⟨Nat.zero_le _, Nat.zero_le _⟩ (c_X11_without hi X3 (fun r4 M4 e4 X4 => ?_))
    refine mm_i2l 107 dX11_digest_106 rfl ?_
    refine mm_ladd 108 dX11_digest_107 rfl ?_
    refine mm_lstore_1 109 dX11_digest_108 rfl rfl ?_
    refine mm_iinc_3 112 1 dX11_digest_109 rfl (by decide) rfl ?_
    refine mm_goto 71 dX11_digest_112 (by decide) ?_
    rw [nI_1, e3, e4]
    exact ih ((a_ne A) - (k + 1)) (by omega) (k + 1) _ _ (Nat.le_refl _) (by omega) X4

set_option maxHeartbeats 4000000 in
theorem w_X11_d3 {l : Launch} {G : mm_G} {d : Nat} {Q : Int64 → mm_T → mm_M → Prop} {A : mm_M} (hi : iv A) {h0 : Int64} (K : ∀ (M1 : mm_M) (x4 : Value), fr A M1 → mm_wp l G (d + 12) k_X11_digest (mm_pl Q) 231 [.ref 0, .long (dgl (dg3 A) (a_nl A) h0), .double 0, .int (nI (a_nl A)), x4] [] T0 M1 0 0) : ∀ (z k : Nat) (Mi : mm_M) (x4 : Value), (a_nl A) - k ≤ z → k ≤ (a_nl A) → fr A Mi → mm_wp l G (d + 12) k_X11_digest (mm_pl Q) 117 [.ref 0, .long (dgl (dg3 A) k h0), .double 0, .int (nI k), x4] [] T0 Mi 0 0 := by
  have n6 := hi.1.nl
  have n12 := hi.1.np
  have n24 := hi.1.ne.2
  have hNi : (nI (a_nl A)).toInt = (a_nl A) := mm_ti (by omega)
  intro z
  induction z using Nat.strongRecOn with | _ z ih => ?_
  intro k Mi x4 hze hkn hq
  have hki : (nI k).toInt = k := mm_ti (by omega)
  refine mm_iload_3 118 dX11_digest_117 rfl ?_
  refine mm_aload_0 119 dX11_digest_118 rfl ?_
  refine mm_getR 122 dX11_digest_119 f_X11_26 rfl t_0 rfl ?_
  refine mm_cV0i 125 dX11_digest_122 v_X11_288 rfl t_5 (by decide) rfl rfl (Nat.le_of_ble_eq_true rfl) ⟨rfl, rfl⟩ ⟨Nat.zero_le _, Nat.zero_le _⟩ (c_X3_number  (fun r1 e1 => ?_))
  rw [e1, (hq.vd hi).1.2.2.2.1]
  refine mm_ic_ge 231 128 dX11_digest_125 (by decide) rfl (fun h2 => ?_) (fun h2 => ?_)
  · have hz : k = (a_nl A) := by (try simp only [hki, hNi, Int32.lt_iff_toInt_lt, Int32.le_iff_toInt_le, ← Int32.toInt_inj, vp_in_iff, Int32.reduceToInt, mm_t1, mm_t2, mm_t3, mm_t4, mm_t10] at h2); omega
    rw [hz]
    exact K Mi x4 hq
  · have hlt : k < (a_nl A) := by (try simp only [hki, hNi, Int32.lt_iff_toInt_lt, Int32.le_iff_toInt_le, ← Int32.toInt_inj, vp_in_iff, Int32.reduceToInt, mm_t1, mm_t2, mm_t3, mm_t4, mm_t10] at h2); omega
    refine mm_ldc2 131 31 dX11_digest_128 rfl j_X11_300 ?_
    refine mm_lload_1 132 dX11_digest_131 rfl ?_
    refine mm_lmul 133 dX11_digest_132 rfl ?_
    refine mm_aload_0 134 dX11_digest_133 rfl ?_
    refine mm_iload_3 135 dX11_digest_134 rfl ?_
    refine mm_aload_0 136 dX11_digest_135 rfl ?_
    refine mm_getR 139 dX11_digest_136 f_X11_47 rfl t_0 rfl ?_
    refine mm_cV0i 142 dX11_digest_139 v_X11_165 rfl t_14 (by decide) rfl rfl (Nat.le_of_ble_eq_true rfl) ⟨rfl, rfl⟩ ⟨Nat.zero_le _, Nat.zero_le _⟩ (b_eno hi hq (fun r3 e3 => ?_))
    rw [e3]
    refine mm_cV2i 145 dX11_digest_142 v_X11_317 rfl t_0 (by decide) rfl rfl (Nat.le_of_ble_eq_true rfl) ⟨rfl, rfl⟩ ⟨Nat.zero_le _, Nat.zero_le _⟩ (c_X11_width hi hq (fun r4 M4 e4 X4 => ?_))
    refine mm_i2l 146 dX11_digest_145 rfl ?_
    refine mm_ladd 147 dX11_digest_146 rfl ?_
    refine mm_lstore_1 148 dX11_digest_147 rfl rfl ?_
    refine mm_ldc2 151 31 dX11_digest_148 rfl j_X11_300 ?_
    refine mm_lload_1 152 dX11_digest_151 rfl ?_
    refine mm_lmul 153 dX11_digest_152 rfl ?_
    refine mm_aload_0 154 dX11_digest_153 rfl ?_
    refine mm_iload_3 155 dX11_digest_154 rfl ?_
    refine mm_sipush 158 150 dX11_digest_155 rfl (by decide) ?_
    refine mm_cV2i 161 dX11_digest_158 v_X11_320 rfl t_0 (by decide) rfl rfl (Nat.le_of_ble_eq_true rfl) ⟨rfl, rfl⟩ ⟨Nat.zero_le _, Nat.zero_le _⟩ (c_X11_reach hi X4 (fun r5 M5 e5 X5 => ?_))
    refine mm_i2l 162 dX11_digest_161 rfl ?_
    refine mm_ladd 163 dX11_digest_162 rfl ?_
    refine mm_lstore_1 164 dX11_digest_163 rfl rfl ?_
    refine mm_ldc2 167 31 dX11_digest_164 rfl j_X11_300 ?_
    refine mm_lload_1 168 dX11_digest_167 rfl ?_
    refine mm_lmul 169 dX11_digest_168 rfl ?_
    refine mm_aload_0 170 dX11_digest_169 rfl ?_
    refine mm_iload_3 171 dX11_digest_170 rfl ?_
    refine mm_iconst 172 2 dX11_digest_171 rfl (by decide) ?_
    refine mm_cV2i 175 dX11_digest_172 v_X11_323 rfl t_0 (by decide) rfl rfl (Nat.le_of_ble_eq_true rfl) ⟨rfl, rfl⟩ ⟨Nat.zero_le _, Nat.zero_le _⟩ (c_X11_grows hi X5 (fun r6 M6 e6 X6 => ?_))
    refine mm_i2l 176 dX11_digest_175 rfl ?_
    refine mm_ladd 177 dX11_digest_176 rfl ?_
    refine mm_lstore_1 178 dX11_digest_177 rfl rfl ?_
    refine mm_ldc2 181 31 dX11_digest_178 rfl j_X11_300 ?_
    refine mm_lload_1 182 dX11_digest_181 rfl ?_
    refine mm_lmul 183 dX11_digest_182 rfl ?_
    refine mm_aload_0 184 dX11_digest_183 rfl ?_
    refine mm_iload_3 185 dX11_digest_184 rfl ?_
    refine mm_cV1i 188 dX11_digest_185 v_X11_326 rfl t_0 (by decide) rfl rfl (Nat.le_of_ble_eq_true rfl) ⟨rfl, rfl⟩ ⟨Nat.zero_le _, Nat.zero_le _⟩ (c_X11_blame hi X6 (fun r7 M7 e7 X7 => ?_))
    refine mm_i2l 189 dX11_digest_188 rfl ?_
    refine mm_ladd 190 dX11_digest_189 rfl ?_
    refine mm_lstore_1 191 dX11_digest_190 rfl rfl ?_
    refine mm_ldc2 194 31 dX11_digest_191 rfl j_X11_300 ?_
    refine mm_lload_1 195 dX11_digest_194 rfl ?_
    refine mm_lmul 196 dX11_digest_195 rfl ?_
    refine mm_aload_0 197 dX11_digest_196 rfl ?_
    refine mm_iload_3 198 dX11_digest_197 rfl ?_
    refine mm_iload_3 199 dX11_digest_198 rfl ?_
    refine mm_iconst 200 1 dX11_digest_199 rfl (by decide) ?_
    refine mm_iadd 201 dX11_digest_200 rfl ?_
    refine mm_iconst 202 0 dX11_digest_201 rfl (by decide) ?_
    rw [nI_1]
    refine mm_cV3i 205 dX11_digest_202 v_X11_329 rfl t_0 (by decide) rfl rfl (Nat.le_of_ble_eq_true rfl) ⟨rfl, rfl⟩ ⟨Nat.zero_le _, Nat.zero_le _⟩ (c_X11_lords hi X7 (fun r8 M8 e8 X8 => ?_))
    refine mm_i2l 206 dX11_digest_205 rfl ?_
    refine mm_ladd 207 dX11_digest_206 rfl ?_
    refine mm_lstore_1 208 dX11_digest_207 rfl rfl ?_
    refine mm_ldc2 211 31 dX11_digest_208 rfl j_X11_300 ?_
    refine mm_lload_1 212 dX11_digest_211 rfl ?_
    refine mm_lmul 213 dX11_digest_212 rfl ?_
    refine mm_aload_0 214 dX11_digest_213 rfl ?_
    refine mm_iload_3 215 dX11_digest_214 rfl ?_
    refine mm_iload_3 216 dX11_digest_215 rfl ?_
    refine mm_iconst 217 1 dX11_digest_216 rfl (by decide) ?_
    refine mm_iadd 218 dX11_digest_217 rfl ?_
    refine mm_iconst 219 1 dX11_digest_218 rfl (by decide) ?_
    rw [nI_1]
    refine mm_cV3i 222 dX11_digest_219 v_X11_329 rfl t_0 (by decide) rfl rfl (Nat.le_of_ble_eq_true rfl) ⟨rfl, rfl⟩ ⟨Nat.zero_le _, Nat.zero_le _⟩ (c_X11_lords hi X8 (fun r9 M9 e9 X9 => ?_))
    refine mm_i2l 223 dX11_digest_222 rfl ?_
    refine mm_ladd 224 dX11_digest_223 rfl ?_
    refine mm_lstore_1 225 dX11_digest_224 rfl rfl ?_
    refine mm_iinc_3 228 1 dX11_digest_225 rfl (by decide) rfl ?_
    refine mm_goto 117 dX11_digest_228 (by decide) ?_
    rw [nI_1, e4, e5, e6, e7, e8, e9]
    exact ih ((a_nl A) - (k + 1)) (by omega) (k + 1) _ _ (Nat.le_refl _) (by omega) X9

set_option maxHeartbeats 4000000 in
theorem w_X11_d4 {l : Launch} {G : mm_G} {d : Nat} {Q : Int64 → mm_T → mm_M → Prop} {A : mm_M} (hi : iv A) {p : Nat} (hp : p < a_np A) {h0 : Int64} (K : ∀ M1 : mm_M, fr A M1 → mm_wp l G (d + 12) k_X11_digest (mm_pl Q) 274 [.ref 0, .long (dgl (dg4 A p) 4 h0), .double 0, .int (nI p), .int (nI 4)] [] T0 M1 0 0) : ∀ (z k : Nat) (Mi : mm_M), 4 - k ≤ z → k ≤ 4 → fr A Mi → mm_wp l G (d + 12) k_X11_digest (mm_pl Q) 247 [.ref 0, .long (dgl (dg4 A p) k h0), .double 0, .int (nI p), .int (nI k)] [] T0 Mi 0 0 := by
  have n6 := hi.1.nl
  have n12 := hi.1.np
  have n24 := hi.1.ne.2
  have hNi : (nI 4).toInt = 4 := mm_ti (by omega)
  intro z
  induction z using Nat.strongRecOn with | _ z ih => ?_
  intro k Mi hze hkn hq
  have hki : (nI k).toInt = k := mm_ti (by omega)
  refine mm_iload_4 249 dX11_digest_247 rfl ?_
  refine mm_iconst 250 3 dX11_digest_249 rfl (by decide) ?_
  refine mm_ic_gt 274 253 dX11_digest_250 (by decide) rfl (fun h1 => ?_) (fun h1 => ?_)
  · have hz : k = 4 := by (try simp only [hki, hNi, Int32.lt_iff_toInt_lt, Int32.le_iff_toInt_le, ← Int32.toInt_inj, vp_in_iff, Int32.reduceToInt, mm_t1, mm_t2, mm_t3, mm_t4, mm_t10] at h1); omega
    rw [hz]
    exact K Mi hq
  · have hlt : k < 4 := by (try simp only [hki, hNi, Int32.lt_iff_toInt_lt, Int32.le_iff_toInt_le, ← Int32.toInt_inj, vp_in_iff, Int32.reduceToInt, mm_t1, mm_t2, mm_t3, mm_t4, mm_t10] at h1); omega
    refine mm_ldc2 256 31 dX11_digest_253 rfl j_X11_300 ?_
    refine mm_lload_1 257 dX11_digest_256 rfl ?_
    refine mm_lmul 258 dX11_digest_257 rfl ?_
    refine mm_aload_0 259 dX11_digest_258 rfl ?_
    refine mm_iload_3 260 dX11_digest_259 rfl ?_
    refine mm_iload_4 262 dX11_digest_260 rfl ?_
    refine mm_cV2i 265 dX11_digest_262 v_X11_333 rfl t_0 (by decide) rfl rfl (Nat.le_of_ble_eq_true rfl) ⟨rfl, rfl⟩ ⟨Nat.zero_le _, Nat.zero_le _⟩ (c_X11_person hi hq (fun r2 M2 e2 X2 => ?_))
    refine mm_i2l 266 dX11_digest_265 rfl ?_
    refine mm_ladd 267 dX11_digest_266 rfl ?_
    refine mm_lstore_1 268 dX11_digest_267 rfl rfl ?_
    refine mm_iinc_4 271 1 dX11_digest_268 rfl (by decide) rfl ?_
    refine mm_goto 247 dX11_digest_271 (by decide) ?_
    rw [nI_1, e2]
    exact ih (4 - (k + 1)) (by omega) (k + 1) _ (Nat.le_refl _) (by omega) X2

set_option maxHeartbeats 4000000 in
theorem w_X11_d5 {l : Launch} {G : mm_G} {d : Nat} {Q : Int64 → mm_T → mm_M → Prop} {A : mm_M} (hi : iv A) {p : Nat} (hp : p < a_np A) {h0 : Int64} (K : ∀ M1 : mm_M, fr A M1 → mm_wp l G (d + 12) k_X11_digest (mm_pl Q) 326 [.ref 0, .long (dgl (dg5 A p) 3 h0), .double 0, .int (nI p), .int (nI 3)] [] T0 M1 0 0) : ∀ (z k : Nat) (Mi : mm_M), 3 - k ≤ z → k ≤ 3 → fr A Mi → mm_wp l G (d + 12) k_X11_digest (mm_pl Q) 292 [.ref 0, .long (dgl (dg5 A p) k h0), .double 0, .int (nI p), .int (nI k)] [] T0 Mi 0 0 := by
  have n6 := hi.1.nl
  have n12 := hi.1.np
  have n24 := hi.1.ne.2
  have hNi : (nI 3).toInt = 3 := mm_ti (by omega)
  intro z
  induction z using Nat.strongRecOn with | _ z ih => ?_
  intro k Mi hze hkn hq
  have hki : (nI k).toInt = k := mm_ti (by omega)
  refine mm_iload_4 294 dX11_digest_292 rfl ?_
  refine mm_iconst 295 2 dX11_digest_294 rfl (by decide) ?_
  refine mm_ic_gt 326 298 dX11_digest_295 (by decide) rfl (fun h1 => ?_) (fun h1 => ?_)
  · have hz : k = 3 := by (try simp only [hki, hNi, Int32.lt_iff_toInt_lt, Int32.le_iff_toInt_le, ← Int32.toInt_inj, vp_in_iff, Int32.reduceToInt, mm_t1, mm_t2, mm_t3, mm_t4, mm_t10] at h1); omega
    rw [hz]
    exact K Mi hq
  · have hlt : k < 3 := by (try simp only [hki, hNi, Int32.lt_iff_toInt_lt, Int32.le_iff_toInt_le, ← Int32.toInt_inj, vp_in_iff, Int32.reduceToInt, mm_t1, mm_t2, mm_t3, mm_t4, mm_t10] at h1); omega
    refine mm_ldc2 301 31 dX11_digest_298 rfl j_X11_300 ?_
    refine mm_lload_1 302 dX11_digest_301 rfl ?_
    refine mm_lmul 303 dX11_digest_302 rfl ?_
    refine mm_aload_0 304 dX11_digest_303 rfl ?_
    refine mm_iload_3 305 dX11_digest_304 rfl ?_
    refine mm_aload_0 306 dX11_digest_305 rfl ?_
    refine mm_getR 309 dX11_digest_306 f_X11_47 rfl t_0 rfl ?_
    refine mm_cV0i 312 dX11_digest_309 v_X11_165 rfl t_14 (by decide) rfl rfl (Nat.le_of_ble_eq_true rfl) ⟨rfl, rfl⟩ ⟨Nat.zero_le _, Nat.zero_le _⟩ (b_eno hi hq (fun r2 e2 => ?_))
    refine mm_iload_4 314 dX11_digest_312 rfl ?_
    rw [e2]
    refine mm_cV3i 317 dX11_digest_314 v_X11_339 rfl t_0 (by decide) rfl rfl (Nat.le_of_ble_eq_true rfl) ⟨rfl, rfl⟩ ⟨Nat.zero_le _, Nat.zero_le _⟩ (c_X11_state hi hq (fun r3 M3 e3 X3 => ?_))
    refine mm_i2l 318 dX11_digest_317 rfl ?_
    refine mm_ladd 319 dX11_digest_318 rfl ?_
    refine mm_lstore_1 320 dX11_digest_319 rfl rfl ?_
    refine mm_iinc_4 323 1 dX11_digest_320 rfl (by decide) rfl ?_
    refine mm_goto 292 dX11_digest_323 (by decide) ?_
    rw [nI_1, e3]
    exact ih (3 - (k + 1)) (by omega) (k + 1) _ (Nat.le_refl _) (by omega) X3

set_option maxHeartbeats 4000000 in
theorem w_X11_d6 {l : Launch} {G : mm_G} {d : Nat} {Q : Int64 → mm_T → mm_M → Prop} {A : mm_M} (hi : iv A) {p : Nat} (hp : p < a_np A) {x4 : Value} {h0 : Int64} {Mi : mm_M} (hq : fr A Mi) (K : ∀ M1 : mm_M, fr A M1 → mm_wp l G (d + 12) k_X11_digest (mm_pl Q) 292 [.ref 0, .long (hz h0 (z_shadow A (nI p) 6)), .double 0, .int (nI p), .int (nI 0)] [] T0 M1 0 0) : mm_wp l G (d + 12) k_X11_digest (mm_pl Q) 274 [.ref 0, .long (h0), .double 0, .int (nI p), x4] [] T0 Mi 0 0 := by
  have n6 := hi.1.nl
  have n12 := hi.1.np
  have n24 := hi.1.ne.2
  refine mm_ldc2 277 31 dX11_digest_274 rfl j_X11_300 ?_
  refine mm_lload_1 278 dX11_digest_277 rfl ?_
  refine mm_lmul 279 dX11_digest_278 rfl ?_
  refine mm_aload_0 280 dX11_digest_279 rfl ?_
  refine mm_iload_3 281 dX11_digest_280 rfl ?_
  refine mm_bipush 283 6 dX11_digest_281 rfl (by decide) ?_
  refine mm_cV2i 286 dX11_digest_283 v_X11_336 rfl t_0 (by decide) rfl rfl (Nat.le_of_ble_eq_true rfl) ⟨rfl, rfl⟩ ⟨Nat.zero_le _, Nat.zero_le _⟩ (c_X11_shadow hi hq (fun r1 M1 e1 X1 => ?_))
  refine mm_i2l 287 dX11_digest_286 rfl ?_
  refine mm_ladd 288 dX11_digest_287 rfl ?_
  refine mm_lstore_1 289 dX11_digest_288 rfl rfl ?_
  refine mm_iconst 290 0 dX11_digest_289 rfl (by decide) ?_
  refine mm_istore_4 292 dX11_digest_290 rfl rfl ?_
  rw [e1]
  exact K _ X1

set_option maxHeartbeats 4000000 in
theorem w_X11_d7 {l : Launch} {G : mm_G} {d : Nat} {Q : Int64 → mm_T → mm_M → Prop} {A : mm_M} (hi : iv A) {p : Nat} (hp : p < a_np A) {h0 : Int64} {Mi : mm_M} {x4 : Value} (hq : fr A Mi) (K : ∀ M1 : mm_M, fr A M1 → mm_wp l G (d + 12) k_X11_digest (mm_pl Q) 233 [.ref 0, .long (hz h0 (z_forged A (nI p))), .double 0, .int (nI (p + 1)), x4] [] T0 M1 0 0) : mm_wp l G (d + 12) k_X11_digest (mm_pl Q) 326 [.ref 0, .long (h0), .double 0, .int (nI p), x4] [] T0 Mi 0 0 := by
  have n6 := hi.1.nl
  have n12 := hi.1.np
  have n24 := hi.1.ne.2
  refine mm_ldc2 329 31 dX11_digest_326 rfl j_X11_300 ?_
  refine mm_lload_1 330 dX11_digest_329 rfl ?_
  refine mm_lmul 331 dX11_digest_330 rfl ?_
  refine mm_aload_0 332 dX11_digest_331 rfl ?_
  refine mm_iload_3 333 dX11_digest_332 rfl ?_
  refine mm_cV1i 336 dX11_digest_333 v_X11_342 rfl t_0 (by decide) rfl rfl (Nat.le_of_ble_eq_true rfl) ⟨rfl, rfl⟩ ⟨Nat.zero_le _, Nat.zero_le _⟩ (c_X11_forged hi hq (fun r1 M1 e1 X1 => ?_))
  refine mm_i2l 337 dX11_digest_336 rfl ?_
  refine mm_ladd 338 dX11_digest_337 rfl ?_
  refine mm_lstore_1 339 dX11_digest_338 rfl rfl ?_
  refine mm_iinc_3 342 1 dX11_digest_339 rfl (by decide) rfl ?_
  refine mm_goto 233 dX11_digest_342 (by decide) ?_
  rw [nI_1, e1]
  exact K _ X1

set_option maxHeartbeats 4000000 in
theorem w_X11_d8 {l : Launch} {G : mm_G} {d : Nat} {Q : Int64 → mm_T → mm_M → Prop} {A : mm_M} (hi : iv A) {h0 : Int64} (K : ∀ (M1 : mm_M) (x4 : Value), fr A M1 → mm_wp l G (d + 12) k_X11_digest (mm_pl Q) 345 [.ref 0, .long (dgl (dg6 A) (a_np A) h0), .double 0, .int (nI (a_np A)), x4] [] T0 M1 0 0) : ∀ (z k : Nat) (Mi : mm_M) (x4 : Value), (a_np A) - k ≤ z → k ≤ (a_np A) → fr A Mi → mm_wp l G (d + 12) k_X11_digest (mm_pl Q) 233 [.ref 0, .long (dgl (dg6 A) k h0), .double 0, .int (nI k), x4] [] T0 Mi 0 0 := by
  have n6 := hi.1.nl
  have n12 := hi.1.np
  have n24 := hi.1.ne.2
  have hNi : (nI (a_np A)).toInt = (a_np A) := mm_ti (by omega)
  intro z
  induction z using Nat.strongRecOn with | _ z ih => ?_
  intro k Mi x4 hze hkn hq
  have hki : (nI k).toInt = k := mm_ti (by omega)
  refine mm_iload_3 234 dX11_digest_233 rfl ?_
  refine mm_aload_0 235 dX11_digest_234 rfl ?_
  refine mm_getR 238 dX11_digest_235 f_X11_33 rfl t_0 rfl ?_
  refine mm_cV0i 241 dX11_digest_238 v_X11_225 rfl t_7 (by decide) rfl rfl (Nat.le_of_ble_eq_true rfl) ⟨rfl, rfl⟩ ⟨Nat.zero_le _, Nat.zero_le _⟩ (c_X4_number  (fun r1 e1 => ?_))
  rw [e1, (hq.vd hi).1.2.2.2.2.1]
  refine mm_ic_ge 345 244 dX11_digest_241 (by decide) rfl (fun h2 => ?_) (fun h2 => ?_)
  · have hz : k = (a_np A) := by (try simp only [hki, hNi, Int32.lt_iff_toInt_lt, Int32.le_iff_toInt_le, ← Int32.toInt_inj, vp_in_iff, Int32.reduceToInt, mm_t1, mm_t2, mm_t3, mm_t4, mm_t10] at h2); omega
    rw [hz]
    exact K Mi x4 hq
  · have hlt : k < (a_np A) := by (try simp only [hki, hNi, Int32.lt_iff_toInt_lt, Int32.le_iff_toInt_le, ← Int32.toInt_inj, vp_in_iff, Int32.reduceToInt, mm_t1, mm_t2, mm_t3, mm_t4, mm_t10] at h2); omega
    refine mm_iconst 245 0 dX11_digest_244 rfl (by decide) ?_
    refine mm_istore_4 247 dX11_digest_245 rfl rfl ?_
    exact w_X11_d4 hi hlt (fun Ma qa => w_X11_d6 hi hlt qa (fun Mb qb => w_X11_d5 hi hlt (fun Mc qc => w_X11_d7 hi hlt qc (fun Md qd => ih (a_np A - (k + 1)) (by omega) (k + 1) _ _ (Nat.le_refl _) (by omega) qd)) 3 0 Mb (by omega) (by omega) qb)) 4 0 Mi (by omega) (by omega) hq

set_option maxHeartbeats 4000000 in
theorem w_X11_d9 {l : Launch} {G : mm_G} {d : Nat} {Q : Int64 → mm_T → mm_M → Prop} {A : mm_M} (hi : iv A) {h0 : Int64} {x3 x4 : Value} {Mi : mm_M} (hq : fr A Mi) (h : ∀ r M1, r = hz (hz (hz h0 (z_nobody A (nI (a_ne A)))) (z_leave A)) (z_unlike A) → fr A M1 → Q r T0 M1) : mm_wp l G (d + 12) k_X11_digest (mm_pl Q) 345 [.ref 0, .long (h0), .double 0, x3, x4] [] T0 Mi 0 0 := by
  have n6 := hi.1.nl
  have n12 := hi.1.np
  have n24 := hi.1.ne.2
  refine mm_ldc2 348 31 dX11_digest_345 rfl j_X11_300 ?_
  refine mm_lload_1 349 dX11_digest_348 rfl ?_
  refine mm_lmul 350 dX11_digest_349 rfl ?_
  refine mm_aload_0 351 dX11_digest_350 rfl ?_
  refine mm_aload_0 352 dX11_digest_351 rfl ?_
  refine mm_getR 355 dX11_digest_352 f_X11_47 rfl t_0 rfl ?_
  refine mm_cV0i 358 dX11_digest_355 v_X11_165 rfl t_14 (by decide) rfl rfl (Nat.le_of_ble_eq_true rfl) ⟨rfl, rfl⟩ ⟨Nat.zero_le _, Nat.zero_le _⟩ (b_eno hi hq (fun r1 e1 => ?_))
  rw [e1]
  refine mm_cV1i 361 dX11_digest_358 v_X11_345 rfl t_0 (by decide) rfl rfl (Nat.le_of_ble_eq_true rfl) ⟨rfl, rfl⟩ ⟨Nat.zero_le _, Nat.zero_le _⟩ (c_X11_nobody hi hq (fun r2 M2 e2 X2 => ?_))
  refine mm_i2l 362 dX11_digest_361 rfl ?_
  refine mm_ladd 363 dX11_digest_362 rfl ?_
  refine mm_lstore_1 364 dX11_digest_363 rfl rfl ?_
  refine mm_ldc2 367 31 dX11_digest_364 rfl j_X11_300 ?_
  refine mm_lload_1 368 dX11_digest_367 rfl ?_
  refine mm_lmul 369 dX11_digest_368 rfl ?_
  refine mm_aload_0 370 dX11_digest_369 rfl ?_
  refine mm_cV0i 373 dX11_digest_370 v_X11_348 rfl t_0 (by decide) rfl rfl (Nat.le_of_ble_eq_true rfl) ⟨rfl, rfl⟩ ⟨Nat.zero_le _, Nat.zero_le _⟩ (c_X11_leave hi X2 (fun r3 M3 e3 X3 => ?_))
  refine mm_i2l 374 dX11_digest_373 rfl ?_
  refine mm_ladd 375 dX11_digest_374 rfl ?_
  refine mm_lstore_1 376 dX11_digest_375 rfl rfl ?_
  refine mm_ldc2 379 31 dX11_digest_376 rfl j_X11_300 ?_
  refine mm_lload_1 380 dX11_digest_379 rfl ?_
  refine mm_lmul 381 dX11_digest_380 rfl ?_
  refine mm_aload_0 382 dX11_digest_381 rfl ?_
  refine mm_cV0i 385 dX11_digest_382 v_X11_351 rfl t_0 (by decide) rfl rfl (Nat.le_of_ble_eq_true rfl) ⟨rfl, rfl⟩ ⟨Nat.zero_le _, Nat.zero_le _⟩ (c_X11_unlike hi X3 (fun r4 M4 e4 X4 => ?_))
  refine mm_i2l 386 dX11_digest_385 rfl ?_
  refine mm_ladd 387 dX11_digest_386 rfl ?_
  refine mm_lret dX11_digest_387 rfl ⟨rfl, Nat.zero_le _⟩ ?_
  refine h _ _ ?_ X4
  rw [e2, e3, e4]
  rfl

set_option maxHeartbeats 4000000 in
theorem w_X11_d10 {l : Launch} {G : mm_G} {d : Nat} {Q : Int64 → mm_T → mm_M → Prop} {A : mm_M} (hi : iv A) {x4 : Value} {k : Int32} {Mi : mm_M} (hq : fr A Mi) (K : ∀ M1 : mm_M, fr A M1 → mm_wp l G (d + 12) k_X11_digest (mm_pl Q) 71 [.ref 0, .long (dgA A), .double 0, .int 0, x4] [] T0 M1 0 0) : mm_wp l G (d + 12) k_X11_digest (mm_pl Q) 31 [.ref 0, .long (dgl (dg1 A) 8 17), .double 0, .int k, x4] [] T0 Mi 0 0 := by
  have n6 := hi.1.nl
  have n12 := hi.1.np
  have n24 := hi.1.ne.2
  refine mm_ldc2 34 31 dX11_digest_31 rfl j_X11_300 ?_
  refine mm_lload_1 35 dX11_digest_34 rfl ?_
  refine mm_lmul 36 dX11_digest_35 rfl ?_
  refine mm_aload_0 37 dX11_digest_36 rfl ?_
  refine mm_iconst 38 0 dX11_digest_37 rfl (by decide) ?_
  refine mm_cV1i 41 dX11_digest_38 v_X11_305 rfl t_0 (by decide) rfl rfl (Nat.le_of_ble_eq_true rfl) ⟨rfl, rfl⟩ ⟨Nat.zero_le _, Nat.zero_le _⟩ (c_X11_fault hi hq (fun r1 M1 e1 X1 => ?_))
  refine mm_i2l 42 dX11_digest_41 rfl ?_
  refine mm_ladd 43 dX11_digest_42 rfl ?_
  refine mm_lstore_1 44 dX11_digest_43 rfl rfl ?_
  refine mm_ldc2 47 31 dX11_digest_44 rfl j_X11_300 ?_
  refine mm_lload_1 48 dX11_digest_47 rfl ?_
  refine mm_lmul 49 dX11_digest_48 rfl ?_
  refine mm_aload_0 50 dX11_digest_49 rfl ?_
  refine mm_iconst 51 1 dX11_digest_50 rfl (by decide) ?_
  refine mm_cV1i 54 dX11_digest_51 v_X11_305 rfl t_0 (by decide) rfl rfl (Nat.le_of_ble_eq_true rfl) ⟨rfl, rfl⟩ ⟨Nat.zero_le _, Nat.zero_le _⟩ (c_X11_fault hi X1 (fun r2 M2 e2 X2 => ?_))
  refine mm_i2l 55 dX11_digest_54 rfl ?_
  refine mm_ladd 56 dX11_digest_55 rfl ?_
  refine mm_lstore_1 57 dX11_digest_56 rfl rfl ?_
  refine mm_ldc2 60 31 dX11_digest_57 rfl j_X11_300 ?_
  refine mm_lload_1 61 dX11_digest_60 rfl ?_
  refine mm_lmul 62 dX11_digest_61 rfl ?_
  refine mm_aload_0 63 dX11_digest_62 rfl ?_
  refine mm_cV0i 66 dX11_digest_63 v_X11_308 rfl t_0 (by decide) rfl rfl (Nat.le_of_ble_eq_true rfl) ⟨rfl, rfl⟩ ⟨Nat.zero_le _, Nat.zero_le _⟩ (c_X11_judged hi X2 (fun r3 M3 e3 X3 => ?_))
  refine mm_i2l 67 dX11_digest_66 rfl ?_
  refine mm_ladd 68 dX11_digest_67 rfl ?_
  refine mm_lstore_1 69 dX11_digest_68 rfl rfl ?_
  refine mm_iconst 70 0 dX11_digest_69 rfl (by decide) ?_
  refine mm_istore_3 71 dX11_digest_70 rfl rfl ?_
  rw [e1, e2, e3]
  exact K _ X3

theorem s_X11_d1 {l : Launch} {G : mm_G} {d : Nat} {Q : Int64 → mm_T → mm_M → Prop} {A : mm_M} (hi : iv A) {h0 : Int64} (K : ∀ (M1 : mm_M) (x4 : Value), fr A M1 → mm_wp l G (d + 12) k_X11_digest (mm_pl Q) 31 [.ref 0, .long (dgl (dg1 A) 8 h0), .double 0, .int (nI 8), x4] [] T0 M1 0 0) {Mi : mm_M} {x4 : Value} (hq : fr A Mi) : mm_wp l G (d + 12) k_X11_digest (mm_pl Q) 6 [.ref 0, .long (h0), .double 0, .int (nI 0), x4] [] T0 Mi 0 0 := w_X11_d1 hi K 8 0 Mi x4 (Nat.le_refl _) (Nat.zero_le _) hq

theorem s_X11_d2 {l : Launch} {G : mm_G} {d : Nat} {Q : Int64 → mm_T → mm_M → Prop} {A : mm_M} (hi : iv A) {h0 : Int64} (K : ∀ (M1 : mm_M) (x4 : Value), fr A M1 → mm_wp l G (d + 12) k_X11_digest (mm_pl Q) 115 [.ref 0, .long (dgl (dg2 A) (a_ne A) h0), .double 0, .int (nI (a_ne A)), x4] [] T0 M1 0 0) {Mi : mm_M} {x4 : Value} (hq : fr A Mi) : mm_wp l G (d + 12) k_X11_digest (mm_pl Q) 71 [.ref 0, .long (h0), .double 0, .int (nI 0), x4] [] T0 Mi 0 0 := w_X11_d2 hi K (a_ne A) 0 Mi x4 (Nat.le_refl _) (Nat.zero_le _) hq

theorem s_X11_d3 {l : Launch} {G : mm_G} {d : Nat} {Q : Int64 → mm_T → mm_M → Prop} {A : mm_M} (hi : iv A) {h0 : Int64} (K : ∀ (M1 : mm_M) (x4 : Value), fr A M1 → mm_wp l G (d + 12) k_X11_digest (mm_pl Q) 231 [.ref 0, .long (dgl (dg3 A) (a_nl A) h0), .double 0, .int (nI (a_nl A)), x4] [] T0 M1 0 0) {Mi : mm_M} {x4 : Value} (hq : fr A Mi) : mm_wp l G (d + 12) k_X11_digest (mm_pl Q) 117 [.ref 0, .long (h0), .double 0, .int (nI 0), x4] [] T0 Mi 0 0 := w_X11_d3 hi K (a_nl A) 0 Mi x4 (Nat.le_refl _) (Nat.zero_le _) hq

theorem s_X11_d8 {l : Launch} {G : mm_G} {d : Nat} {Q : Int64 → mm_T → mm_M → Prop} {A : mm_M} (hi : iv A) {h0 : Int64} (K : ∀ (M1 : mm_M) (x4 : Value), fr A M1 → mm_wp l G (d + 12) k_X11_digest (mm_pl Q) 345 [.ref 0, .long (dgl (dg6 A) (a_np A) h0), .double 0, .int (nI (a_np A)), x4] [] T0 M1 0 0) {Mi : mm_M} {x4 : Value} (hq : fr A Mi) : mm_wp l G (d + 12) k_X11_digest (mm_pl Q) 233 [.ref 0, .long (h0), .double 0, .int (nI 0), x4] [] T0 Mi 0 0 := w_X11_d8 hi K (a_np A) 0 Mi x4 (Nat.le_refl _) (Nat.zero_le _) hq

set_option maxHeartbeats 4000000 in
theorem w_X11_d11 {l : Launch} {G : mm_G} {d : Nat} {Q : Int64 → mm_T → mm_M → Prop} {h0 : Int64} {x3 x4 : Value} {Mi : mm_M} (K : mm_wp l G (d + 12) k_X11_digest (mm_pl Q) 117 [.ref 0, .long (h0), .double 0, .int (nI 0), x4] [] T0 Mi 0 0) : mm_wp l G (d + 12) k_X11_digest (mm_pl Q) 115 [.ref 0, .long (h0), .double 0, x3, x4] [] T0 Mi 0 0 := by
  refine mm_iconst 116 0 dX11_digest_115 rfl (by decide) ?_
  refine mm_istore_3 117 dX11_digest_116 rfl rfl ?_
  exact K

set_option maxHeartbeats 4000000 in
theorem w_X11_d12 {l : Launch} {G : mm_G} {d : Nat} {Q : Int64 → mm_T → mm_M → Prop} {h0 : Int64} {x3 x4 : Value} {Mi : mm_M} (K : mm_wp l G (d + 12) k_X11_digest (mm_pl Q) 233 [.ref 0, .long (h0), .double 0, .int (nI 0), x4] [] T0 Mi 0 0) : mm_wp l G (d + 12) k_X11_digest (mm_pl Q) 231 [.ref 0, .long (h0), .double 0, x3, x4] [] T0 Mi 0 0 := by
  refine mm_iconst 232 0 dX11_digest_231 rfl (by decide) ?_
  refine mm_istore_3 233 dX11_digest_232 rfl rfl ?_
  exact K

set_option maxHeartbeats 4000000 in
theorem c_X11_digest {l : Launch} {G : mm_G} {d : Nat} {M : mm_M} {Q : Int64 → mm_T → mm_M → Prop} {A : mm_M} (hi : iv A) (hf : fr A M) (h : ∀ r M1, r = z_digest A → fr A M1 → Q r T0 M1) : mm_met l G (d + 12) k_X11_digest [.ref 0] T0 M (mm_pl Q) := by
  unfold z_digest at h
  refine mm_enter 4 [.ref 0, .double 0, .double 0, .double 0, .double 0] o_X11_digest rfl rfl ?_
  refine mm_ldc2 3 17 dX11_digest_0 rfl j_X11_298 ?_
  refine mm_lstore_1 4 dX11_digest_3 rfl rfl ?_
  refine mm_iconst 5 0 dX11_digest_4 rfl (by decide) ?_
  refine mm_istore_3 6 dX11_digest_5 rfl rfl ?_
  refine s_X11_d1 hi (h0 := 17) (fun Ma x qa => w_X11_d10 hi qa (fun Mb qb => ?_)) hf
  refine s_X11_d2 hi (h0 := dgA A) (fun Mc x2 qc => ?_) qb
  refine w_X11_d11 (s_X11_d3 hi (h0 := dgl (dg2 A) (a_ne A) (dgA A)) (fun Md x3 qd => ?_) qc)
  refine w_X11_d12 (s_X11_d8 hi (h0 := dgl (dg3 A) (a_nl A) (dgl (dg2 A) (a_ne A) (dgA A))) (fun Me x4 qe => ?_) qd)
  exact w_X11_d9 hi qe h

