set_option maxHeartbeats 4000000 in
theorem c_X12_weds {l : Launch} {G : mm_G} {d : Nat} {M : mm_M} {Q : mm_T → mm_M → Prop} {x : Int32} {e : Nat} (hx : x = nI e) (he : g_ev M e) (hk : g_ok M) (hm : g_may M (g_a M e) (g_b M e) = true) (h : Q T0 (g_wed M e)) : mm_met l G (d + 1) k_X12_weds [.ref 51, .int x] T0 M (mm_pv Q) := by
  have hab := g_may_np hm
  have hA := hk.ho hab.1
  have hB := hk.ho hab.2
  have nA : ¬ M 59 (4 * g_a M e + 1) = -1 := fun q => by
    have q := congrArg Int32.toInt q
    rw [mm_t1] at q
    omega
  have nB : ¬ M 59 (4 * g_b M e + 1) = -1 := fun q => by
    have q := congrArg Int32.toInt q
    rw [mm_t1] at q
    omega
  refine mm_enter 7 [.ref 51, .int x, .double 0, .double 0, .double 0, .double 0, .double 0, .double 0, .double 0] o_X12_weds rfl rfl ?_
  refine mm_aload_0 1 dX12_weds_0 rfl ?_
  refine mm_getR 4 dX12_weds_1 f_X12_37 rfl t_51 rfl ?_
  refine mm_iconst 5 5 dX12_weds_4 rfl (by decide) ?_
  refine mm_iload_1 6 dX12_weds_5 rfl ?_
  refine mm_imul 7 dX12_weds_6 rfl ?_
  refine mm_iconst 8 2 dX12_weds_7 rfl (by decide) ?_
  refine mm_iadd 9 dX12_weds_8 rfl ?_
  refine mm_ialoadn 10 (5 * e + 2) dX12_weds_9 rfl t_61 (by decide) (by rw [hx, mm_l5, mm_l2, pk_mul, nI_add]) (by have := he.1; omega) ?_
  refine mm_istore_2 11 dX12_weds_10 rfl rfl ?_
  refine mm_aload_0 12 dX12_weds_11 rfl ?_
  refine mm_getR 15 dX12_weds_12 f_X12_37 rfl t_51 rfl ?_
  refine mm_iconst 16 5 dX12_weds_15 rfl (by decide) ?_
  refine mm_iload_1 17 dX12_weds_16 rfl ?_
  refine mm_imul 18 dX12_weds_17 rfl ?_
  refine mm_iconst 19 3 dX12_weds_18 rfl (by decide) ?_
  refine mm_iadd 20 dX12_weds_19 rfl ?_
  refine mm_ialoadn 21 (5 * e + 3) dX12_weds_20 rfl t_61 (by decide) (by rw [hx, mm_l5, mm_l3, pk_mul, nI_add]) (by have := he.1; omega) ?_
  refine mm_istore_3 22 dX12_weds_21 rfl rfl ?_
  refine mm_aload_0 23 dX12_weds_22 rfl ?_
  refine mm_getR 26 dX12_weds_23 f_X12_34 rfl t_51 rfl ?_
  refine mm_aload_0 27 dX12_weds_26 rfl ?_
  refine mm_getR 30 dX12_weds_27 f_X12_37 rfl t_51 rfl ?_
  refine mm_iconst 31 5 dX12_weds_30 rfl (by decide) ?_
  refine mm_iload_1 32 dX12_weds_31 rfl ?_
  refine mm_imul 33 dX12_weds_32 rfl ?_
  refine mm_iconst 34 1 dX12_weds_33 rfl (by decide) ?_
  refine mm_iadd 35 dX12_weds_34 rfl ?_
  refine mm_ialoadn 36 (5 * e + 1) dX12_weds_35 rfl t_61 (by decide) (by rw [hx, mm_l5, mm_l1, pk_mul, nI_add]) (by have := he.1; omega) ?_
  refine mm_ialoadn 37 (g_w M e) dX12_weds_36 rfl t_60 (by decide) (he.w.1) (he.w.2) ?_
  refine mm_iconst 38 1 dX12_weds_37 rfl (by decide) ?_
  refine mm_ic_ne 45 41 dX12_weds_38 (by decide) rfl (fun h1 => ?_) (fun h1 => ?_)
  · refine mm_iconst 46 0 dX12_weds_45 rfl (by decide) ?_
    refine mm_istore_4 48 dX12_weds_46 rfl rfl ?_
    refine mm_iload_4 50 dX12_weds_48 rfl ?_
    refine mm_if_eq 57 53 dX12_weds_50 (by decide) rfl (fun _ => ?_) (fun h => absurd h (by decide))
    refine mm_aload_0 58 dX12_weds_57 rfl ?_
    refine mm_iload_2 59 dX12_weds_58 rfl ?_
    refine mm_aload_0 60 dX12_weds_59 rfl ?_
    refine mm_getR 63 dX12_weds_60 f_X12_37 rfl t_51 rfl ?_
    refine mm_iconst 64 5 dX12_weds_63 rfl (by decide) ?_
    refine mm_iload_1 65 dX12_weds_64 rfl ?_
    refine mm_imul 66 dX12_weds_65 rfl ?_
    refine mm_iconst 67 4 dX12_weds_66 rfl (by decide) ?_
    refine mm_iadd 68 dX12_weds_67 rfl ?_
    refine mm_ialoadn 69 (5 * e + 4) dX12_weds_68 rfl t_61 (by decide) (by rw [hx, mm_l5, mm_l4, pk_mul, nI_add]) (by have := he.1; omega) ?_
    refine mm_cV2i 72 dX12_weds_69 v_X12_176 rfl t_51 (by decide) rfl rfl (Nat.le_of_ble_eq_true rfl) ⟨rfl, rfl⟩ ⟨Nat.zero_le _, Nat.zero_le _⟩ (c_X12_shadowOf he.a.1 he.a.2 (fun r2 e3 => ?_))
    refine mm_aload_0 73 dX12_weds_72 rfl ?_
    refine mm_iload_3 74 dX12_weds_73 rfl ?_
    refine mm_aload_0 75 dX12_weds_74 rfl ?_
    refine mm_getR 78 dX12_weds_75 f_X12_37 rfl t_51 rfl ?_
    refine mm_iconst 79 5 dX12_weds_78 rfl (by decide) ?_
    refine mm_iload_1 80 dX12_weds_79 rfl ?_
    refine mm_imul 81 dX12_weds_80 rfl ?_
    refine mm_iconst 82 4 dX12_weds_81 rfl (by decide) ?_
    refine mm_iadd 83 dX12_weds_82 rfl ?_
    refine mm_ialoadn 84 (5 * e + 4) dX12_weds_83 rfl t_61 (by decide) (by rw [hx, mm_l5, mm_l4, pk_mul, nI_add]) (by have := he.1; omega) ?_
    refine mm_cV2i 87 dX12_weds_84 v_X12_176 rfl t_51 (by decide) rfl rfl (Nat.le_of_ble_eq_true rfl) ⟨rfl, rfl⟩ ⟨Nat.zero_le _, Nat.zero_le _⟩ (c_X12_shadowOf he.b.1 he.b.2 (fun r4 e5 => ?_))
    refine mm_isub 88 dX12_weds_87 rfl ?_
    refine mm_topi (fun y ey => ?_)
    refine mm_istore_5 90 dX12_weds_88 rfl rfl ?_
    refine mm_iload_5 92 dX12_weds_90 rfl ?_
    refine mm_if_le 108 95 dX12_weds_92 (by decide) rfl (fun h6 => ?_) (fun h6 => ?_)
    · refine mm_iload_5 110 dX12_weds_108 rfl ?_
      refine mm_if_ge 126 113 dX12_weds_110 (by decide) rfl (fun h7 => ?_) (fun h7 => ?_)
      · refine mm_iconst 127 (-1) dX12_weds_126 rfl (by decide) ?_
        refine mm_istore_6 129 dX12_weds_127 rfl rfl ?_
        refine mm_iload_5 131 dX12_weds_129 rfl ?_
        refine mm_if_le 147 134 dX12_weds_131 (by decide) rfl (fun h8 => ?_) (fun h8 => absurd (h6) h8)
        refine mm_aload_0 148 dX12_weds_147 rfl ?_
        refine mm_getR 151 dX12_weds_148 f_X12_31 rfl t_51 rfl ?_
        refine mm_iconst 152 4 dX12_weds_151 rfl (by decide) ?_
        refine mm_iload_2 153 dX12_weds_152 rfl ?_
        refine mm_imul 154 dX12_weds_153 rfl ?_
        refine mm_iconst 155 1 dX12_weds_154 rfl (by decide) ?_
        refine mm_iadd 156 dX12_weds_155 rfl ?_
        refine mm_ialoadn 157 (4 * g_a M e + 1) dX12_weds_156 rfl t_59 (by decide) (by rw [he.a.1, mm_l4, mm_l1, pk_mul, nI_add]) (by have := he.a.2; omega) ?_
        refine mm_istore_7 159 dX12_weds_157 rfl rfl ?_
        refine mm_iload_6 161 dX12_weds_159 rfl ?_
        refine mm_iconst 162 (-1) dX12_weds_161 rfl (by decide) ?_
        refine mm_ic_ne 169 165 dX12_weds_162 (by decide) rfl (fun h => absurd h (by decide)) (fun _ => ?_)
        refine mm_iconst 166 0 dX12_weds_165 rfl (by decide) ?_
        refine mm_goto 188 dX12_weds_166 (by decide) ?_
        refine mm_istore_8 190 dX12_weds_188 rfl rfl ?_
        refine mm_iload_6 192 dX12_weds_190 rfl ?_
        refine mm_iconst 193 (-1) dX12_weds_192 rfl (by decide) ?_
        refine mm_ic_eq 229 196 dX12_weds_193 (by decide) rfl (fun _ => ?_) (fun h => absurd h (by decide))
        refine mm_aload_0 230 dX12_weds_229 rfl ?_
        refine mm_getR 233 dX12_weds_230 f_X12_43 rfl t_51 rfl ?_
        refine mm_iload_2 234 dX12_weds_233 rfl ?_
        refine mm_iload_3 235 dX12_weds_234 rfl ?_
        refine mm_iastoren 236 (g_a M e) dX12_weds_235 rfl t_63 (by decide) (he.a.1) (he.a.2) ?_
        refine mm_aload_0 237 dX12_weds_236 rfl ?_
        refine mm_getR 240 dX12_weds_237 f_X12_43 rfl t_51 rfl ?_
        refine mm_iload_3 241 dX12_weds_240 rfl ?_
        refine mm_iload_2 242 dX12_weds_241 rfl ?_
        refine mm_iastoren 243 (g_b M e) dX12_weds_242 rfl t_63 (by decide) (he.b.1) (he.b.2) ?_
        refine mm_aload_0 244 dX12_weds_243 rfl ?_
        refine mm_getR 247 dX12_weds_244 f_X12_46 rfl t_51 rfl ?_
        refine mm_iload_2 248 dX12_weds_247 rfl ?_
        refine mm_iload_8 250 dX12_weds_248 rfl ?_
        refine mm_iastoren 251 (g_a M e) dX12_weds_250 rfl t_64 (by decide) (he.a.1) (he.a.2) ?_
        refine mm_aload_0 252 dX12_weds_251 rfl ?_
        refine mm_getR 255 dX12_weds_252 f_X12_46 rfl t_51 rfl ?_
        refine mm_iload_3 256 dX12_weds_255 rfl ?_
        refine mm_iload_8 258 dX12_weds_256 rfl ?_
        refine mm_iastoren 259 (g_b M e) dX12_weds_258 rfl t_64 (by decide) (he.b.1) (he.b.2) ?_
        refine mm_aload_0 260 dX12_weds_259 rfl ?_
        refine mm_getR 263 dX12_weds_260 f_X12_49 rfl t_51 rfl ?_
        refine mm_iload_2 264 dX12_weds_263 rfl ?_
        refine mm_iload_6 266 dX12_weds_264 rfl ?_
        refine mm_iastoren 267 (g_a M e) dX12_weds_266 rfl t_65 (by decide) (he.a.1) (he.a.2) ?_
        refine mm_aload_0 268 dX12_weds_267 rfl ?_
        refine mm_getR 271 dX12_weds_268 f_X12_49 rfl t_51 rfl ?_
        refine mm_iload_3 272 dX12_weds_271 rfl ?_
        refine mm_iload_6 274 dX12_weds_272 rfl ?_
        refine mm_iastoren 275 (g_b M e) dX12_weds_274 rfl t_65 (by decide) (he.b.1) (he.b.2) ?_
        refine mm_vret dX12_weds_275 rfl ⟨rfl, Nat.zero_le _⟩ ?_
        have hy : g_by M e = y := by unfold g_by; rw [if_neg h1, ey, e3, e5]
        have hh := h
        unfold g_wed at hh
        rw [hy] at hh
        simp only [Int32.lt_iff_toInt_lt, Int32.le_iff_toInt_le, ← Int32.toInt_inj, vp_in_iff, Int32.reduceToInt, mm_t1, mm_t2, mm_t3, mm_t4, mm_t10] at h6 h7
        rw [if_neg (by omega), if_neg (by omega)] at hh
        exact hh
      · refine mm_aload_0 114 dX12_weds_113 rfl ?_
        refine mm_getR 117 dX12_weds_114 f_X12_31 rfl t_51 rfl ?_
        refine mm_iconst 118 4 dX12_weds_117 rfl (by decide) ?_
        refine mm_iload_3 119 dX12_weds_118 rfl ?_
        refine mm_imul 120 dX12_weds_119 rfl ?_
        refine mm_iconst 121 1 dX12_weds_120 rfl (by decide) ?_
        refine mm_iadd 122 dX12_weds_121 rfl ?_
        refine mm_ialoadn 123 (4 * g_b M e + 1) dX12_weds_122 rfl t_59 (by decide) (by rw [he.b.1, mm_l4, mm_l1, pk_mul, nI_add]) (by have := he.b.2; omega) ?_
        refine mm_goto 127 dX12_weds_123 (by decide) ?_
        refine mm_istore_6 129 dX12_weds_127 rfl rfl ?_
        refine mm_iload_5 131 dX12_weds_129 rfl ?_
        refine mm_if_le 147 134 dX12_weds_131 (by decide) rfl (fun h9 => ?_) (fun h9 => absurd (h6) h9)
        refine mm_aload_0 148 dX12_weds_147 rfl ?_
        refine mm_getR 151 dX12_weds_148 f_X12_31 rfl t_51 rfl ?_
        refine mm_iconst 152 4 dX12_weds_151 rfl (by decide) ?_
        refine mm_iload_2 153 dX12_weds_152 rfl ?_
        refine mm_imul 154 dX12_weds_153 rfl ?_
        refine mm_iconst 155 1 dX12_weds_154 rfl (by decide) ?_
        refine mm_iadd 156 dX12_weds_155 rfl ?_
        refine mm_ialoadn 157 (4 * g_a M e + 1) dX12_weds_156 rfl t_59 (by decide) (by rw [he.a.1, mm_l4, mm_l1, pk_mul, nI_add]) (by have := he.a.2; omega) ?_
        refine mm_istore_7 159 dX12_weds_157 rfl rfl ?_
        refine mm_iload_6 161 dX12_weds_159 rfl ?_
        refine mm_iconst 162 (-1) dX12_weds_161 rfl (by decide) ?_
        refine mm_ic_ne 169 165 dX12_weds_162 (by decide) rfl (fun h10 => ?_) (fun h10 => absurd h10 (nB))
        refine mm_aload_0 170 dX12_weds_169 rfl ?_
        refine mm_iload_7 172 dX12_weds_170 rfl ?_
        refine mm_iload_5 174 dX12_weds_172 rfl ?_
        refine mm_if_ge 183 177 dX12_weds_174 (by decide) rfl (fun h11 => absurd h11 (h7)) (fun h11 => ?_)
        refine mm_iload_5 179 dX12_weds_177 rfl ?_
        refine mm_ineg 180 dX12_weds_179 rfl ?_
        refine mm_goto 185 dX12_weds_180 (by decide) ?_
        refine mm_cV2i 188 dX12_weds_185 v_X12_219 rfl t_51 (by decide) rfl rfl (Nat.le_of_ble_eq_true rfl) ⟨rfl, rfl⟩ ⟨Nat.zero_le _, Nat.zero_le _⟩ (c_X12_takes hA.1 hA.2.1 (fun r12 e13 => ?_))
        refine mm_istore_8 190 dX12_weds_188 rfl rfl ?_
        refine mm_iload_6 192 dX12_weds_190 rfl ?_
        refine mm_iconst 193 (-1) dX12_weds_192 rfl (by decide) ?_
        refine mm_ic_eq 229 196 dX12_weds_193 (by decide) rfl (fun h14 => absurd h14 (nB)) (fun h14 => ?_)
        refine mm_aload_0 197 dX12_weds_196 rfl ?_
        refine mm_getR 200 dX12_weds_197 f_X12_40 rfl t_51 rfl ?_
        refine mm_iload_6 202 dX12_weds_200 rfl ?_
        refine mm_dup2 203 dX12_weds_202 rfl rfl rfl ?_
        refine mm_ialoadn 204 (g_ho M (g_b M e)) dX12_weds_203 rfl t_62 (by decide) (hB.1) (hB.2.1) ?_
        refine mm_iload_8 206 dX12_weds_204 rfl ?_
        refine mm_iadd 207 dX12_weds_206 rfl ?_
        refine mm_iastoren 208 (g_ho M (g_b M e)) dX12_weds_207 rfl t_62 (by decide) (hB.1) (hB.2.1) ?_
        refine mm_aload_0 209 dX12_weds_208 rfl ?_
        refine mm_getR 212 dX12_weds_209 f_X12_58 rfl t_51 rfl ?_
        refine mm_iload_1 213 dX12_weds_212 rfl ?_
        refine mm_iload_6 215 dX12_weds_213 rfl ?_
        refine mm_iload_7 217 dX12_weds_215 rfl ?_
        refine mm_ic_ge 225 220 dX12_weds_217 (by decide) rfl (fun h15 => ?_) (fun h15 => ?_)
        · refine mm_iload_8 227 dX12_weds_225 rfl ?_
          refine mm_ineg 228 dX12_weds_227 rfl ?_
          refine mm_iastoren 229 (e) dX12_weds_228 rfl t_68 (by decide) (hx) (he.1) ?_
          refine mm_aload_0 230 dX12_weds_229 rfl ?_
          refine mm_getR 233 dX12_weds_230 f_X12_43 rfl t_51 rfl ?_
          refine mm_iload_2 234 dX12_weds_233 rfl ?_
          refine mm_iload_3 235 dX12_weds_234 rfl ?_
          refine mm_iastoren 236 (g_a M e) dX12_weds_235 rfl t_63 (by decide) (he.a.1) (he.a.2) ?_
          refine mm_aload_0 237 dX12_weds_236 rfl ?_
          refine mm_getR 240 dX12_weds_237 f_X12_43 rfl t_51 rfl ?_
          refine mm_iload_3 241 dX12_weds_240 rfl ?_
          refine mm_iload_2 242 dX12_weds_241 rfl ?_
          refine mm_iastoren 243 (g_b M e) dX12_weds_242 rfl t_63 (by decide) (he.b.1) (he.b.2) ?_
          refine mm_aload_0 244 dX12_weds_243 rfl ?_
          refine mm_getR 247 dX12_weds_244 f_X12_46 rfl t_51 rfl ?_
          refine mm_iload_2 248 dX12_weds_247 rfl ?_
          refine mm_iload_8 250 dX12_weds_248 rfl ?_
          refine mm_iastoren 251 (g_a M e) dX12_weds_250 rfl t_64 (by decide) (he.a.1) (he.a.2) ?_
          refine mm_aload_0 252 dX12_weds_251 rfl ?_
          refine mm_getR 255 dX12_weds_252 f_X12_46 rfl t_51 rfl ?_
          refine mm_iload_3 256 dX12_weds_255 rfl ?_
          refine mm_iload_8 258 dX12_weds_256 rfl ?_
          refine mm_iastoren 259 (g_b M e) dX12_weds_258 rfl t_64 (by decide) (he.b.1) (he.b.2) ?_
          refine mm_aload_0 260 dX12_weds_259 rfl ?_
          refine mm_getR 263 dX12_weds_260 f_X12_49 rfl t_51 rfl ?_
          refine mm_iload_2 264 dX12_weds_263 rfl ?_
          refine mm_iload_6 266 dX12_weds_264 rfl ?_
          refine mm_iastoren 267 (g_a M e) dX12_weds_266 rfl t_65 (by decide) (he.a.1) (he.a.2) ?_
          refine mm_aload_0 268 dX12_weds_267 rfl ?_
          refine mm_getR 271 dX12_weds_268 f_X12_49 rfl t_51 rfl ?_
          refine mm_iload_3 272 dX12_weds_271 rfl ?_
          refine mm_iload_6 274 dX12_weds_272 rfl ?_
          refine mm_iastoren 275 (g_b M e) dX12_weds_274 rfl t_65 (by decide) (he.b.1) (he.b.2) ?_
          refine mm_vret dX12_weds_275 rfl ⟨rfl, Nat.zero_le _⟩ ?_
          have hy : g_by M e = y := by unfold g_by; rw [if_neg h1, ey, e3, e5]
          have hh := h
          unfold g_wed at hh
          rw [hy] at hh
          simp only [Int32.lt_iff_toInt_lt, Int32.le_iff_toInt_le, ← Int32.toInt_inj, vp_in_iff, Int32.reduceToInt, mm_t1, mm_t2, mm_t3, mm_t4, mm_t10] at h6 h7 h15
          rw [if_neg (by omega), if_pos (by omega)] at hh
          unfold g_wf g_wx at hh
          rw [← e13, if_neg (by omega)] at hh
          exact hh
        · refine mm_iload_8 222 dX12_weds_220 rfl ?_
          refine mm_goto 228 dX12_weds_222 (by decide) ?_
          refine mm_iastoren 229 (e) dX12_weds_228 rfl t_68 (by decide) (hx) (he.1) ?_
          refine mm_aload_0 230 dX12_weds_229 rfl ?_
          refine mm_getR 233 dX12_weds_230 f_X12_43 rfl t_51 rfl ?_
          refine mm_iload_2 234 dX12_weds_233 rfl ?_
          refine mm_iload_3 235 dX12_weds_234 rfl ?_
          refine mm_iastoren 236 (g_a M e) dX12_weds_235 rfl t_63 (by decide) (he.a.1) (he.a.2) ?_
          refine mm_aload_0 237 dX12_weds_236 rfl ?_
          refine mm_getR 240 dX12_weds_237 f_X12_43 rfl t_51 rfl ?_
          refine mm_iload_3 241 dX12_weds_240 rfl ?_
          refine mm_iload_2 242 dX12_weds_241 rfl ?_
          refine mm_iastoren 243 (g_b M e) dX12_weds_242 rfl t_63 (by decide) (he.b.1) (he.b.2) ?_
          refine mm_aload_0 244 dX12_weds_243 rfl ?_
          refine mm_getR 247 dX12_weds_244 f_X12_46 rfl t_51 rfl ?_
          refine mm_iload_2 248 dX12_weds_247 rfl ?_
          refine mm_iload_8 250 dX12_weds_248 rfl ?_
          refine mm_iastoren 251 (g_a M e) dX12_weds_250 rfl t_64 (by decide) (he.a.1) (he.a.2) ?_
          refine mm_aload_0 252 dX12_weds_251 rfl ?_
          refine mm_getR 255 dX12_weds_252 f_X12_46 rfl t_51 rfl ?_
          refine mm_iload_3 256 dX12_weds_255 rfl ?_
          refine mm_iload_8 258 dX12_weds_256 rfl ?_
          refine mm_iastoren 259 (g_b M e) dX12_weds_258 rfl t_64 (by decide) (he.b.1) (he.b.2) ?_
          refine mm_aload_0 260 dX12_weds_259 rfl ?_
          refine mm_getR 263 dX12_weds_260 f_X12_49 rfl t_51 rfl ?_
          refine mm_iload_2 264 dX12_weds_263 rfl ?_
          refine mm_iload_6 266 dX12_weds_264 rfl ?_
          refine mm_iastoren 267 (g_a M e) dX12_weds_266 rfl t_65 (by decide) (he.a.1) (he.a.2) ?_
          refine mm_aload_0 268 dX12_weds_267 rfl ?_
          refine mm_getR 271 dX12_weds_268 f_X12_49 rfl t_51 rfl ?_
          refine mm_iload_3 272 dX12_weds_271 rfl ?_
          refine mm_iload_6 274 dX12_weds_272 rfl ?_
          refine mm_iastoren 275 (g_b M e) dX12_weds_274 rfl t_65 (by decide) (he.b.1) (he.b.2) ?_
          refine mm_vret dX12_weds_275 rfl ⟨rfl, Nat.zero_le _⟩ ?_
          have hy : g_by M e = y := by unfold g_by; rw [if_neg h1, ey, e3, e5]
          have hh := h
          unfold g_wed at hh
          rw [hy] at hh
          simp only [Int32.lt_iff_toInt_lt, Int32.le_iff_toInt_le, ← Int32.toInt_inj, vp_in_iff, Int32.reduceToInt, mm_t1, mm_t2, mm_t3, mm_t4, mm_t10] at h6 h7 h15
          rw [if_neg (by omega), if_pos (by omega)] at hh
          unfold g_wf g_wx at hh
          rw [← e13, if_pos (by omega)] at hh
          exact hh
    · refine mm_aload_0 96 dX12_weds_95 rfl ?_
      refine mm_getR 99 dX12_weds_96 f_X12_31 rfl t_51 rfl ?_
      refine mm_iconst 100 4 dX12_weds_99 rfl (by decide) ?_
      refine mm_iload_2 101 dX12_weds_100 rfl ?_
      refine mm_imul 102 dX12_weds_101 rfl ?_
      refine mm_iconst 103 1 dX12_weds_102 rfl (by decide) ?_
      refine mm_iadd 104 dX12_weds_103 rfl ?_
      refine mm_ialoadn 105 (4 * g_a M e + 1) dX12_weds_104 rfl t_59 (by decide) (by rw [he.a.1, mm_l4, mm_l1, pk_mul, nI_add]) (by have := he.a.2; omega) ?_
      refine mm_goto 127 dX12_weds_105 (by decide) ?_
      refine mm_istore_6 129 dX12_weds_127 rfl rfl ?_
      refine mm_iload_5 131 dX12_weds_129 rfl ?_
      refine mm_if_le 147 134 dX12_weds_131 (by decide) rfl (fun h16 => absurd h16 (h6)) (fun h16 => ?_)
      refine mm_aload_0 135 dX12_weds_134 rfl ?_
      refine mm_getR 138 dX12_weds_135 f_X12_31 rfl t_51 rfl ?_
      refine mm_iconst 139 4 dX12_weds_138 rfl (by decide) ?_
      refine mm_iload_3 140 dX12_weds_139 rfl ?_
      refine mm_imul 141 dX12_weds_140 rfl ?_
      refine mm_iconst 142 1 dX12_weds_141 rfl (by decide) ?_
      refine mm_iadd 143 dX12_weds_142 rfl ?_
      refine mm_ialoadn 144 (4 * g_b M e + 1) dX12_weds_143 rfl t_59 (by decide) (by rw [he.b.1, mm_l4, mm_l1, pk_mul, nI_add]) (by have := he.b.2; omega) ?_
      refine mm_goto 157 dX12_weds_144 (by decide) ?_
      refine mm_istore_7 159 dX12_weds_157 rfl rfl ?_
      refine mm_iload_6 161 dX12_weds_159 rfl ?_
      refine mm_iconst 162 (-1) dX12_weds_161 rfl (by decide) ?_
      refine mm_ic_ne 169 165 dX12_weds_162 (by decide) rfl (fun h17 => ?_) (fun h17 => absurd h17 (nA))
      refine mm_aload_0 170 dX12_weds_169 rfl ?_
      refine mm_iload_7 172 dX12_weds_170 rfl ?_
      refine mm_iload_5 174 dX12_weds_172 rfl ?_
      refine mm_if_ge 183 177 dX12_weds_174 (by decide) rfl (fun h18 => ?_) (fun h18 => absurd (Int32.le_of_lt (Int32.not_le.mp h6)) h18)
      refine mm_iload_5 185 dX12_weds_183 rfl ?_
      refine mm_cV2i 188 dX12_weds_185 v_X12_219 rfl t_51 (by decide) rfl rfl (Nat.le_of_ble_eq_true rfl) ⟨rfl, rfl⟩ ⟨Nat.zero_le _, Nat.zero_le _⟩ (c_X12_takes hB.1 hB.2.1 (fun r19 e20 => ?_))
      refine mm_istore_8 190 dX12_weds_188 rfl rfl ?_
      refine mm_iload_6 192 dX12_weds_190 rfl ?_
      refine mm_iconst 193 (-1) dX12_weds_192 rfl (by decide) ?_
      refine mm_ic_eq 229 196 dX12_weds_193 (by decide) rfl (fun h21 => absurd h21 (nA)) (fun h21 => ?_)
      refine mm_aload_0 197 dX12_weds_196 rfl ?_
      refine mm_getR 200 dX12_weds_197 f_X12_40 rfl t_51 rfl ?_
      refine mm_iload_6 202 dX12_weds_200 rfl ?_
      refine mm_dup2 203 dX12_weds_202 rfl rfl rfl ?_
      refine mm_ialoadn 204 (g_ho M (g_a M e)) dX12_weds_203 rfl t_62 (by decide) (hA.1) (hA.2.1) ?_
      refine mm_iload_8 206 dX12_weds_204 rfl ?_
      refine mm_iadd 207 dX12_weds_206 rfl ?_
      refine mm_iastoren 208 (g_ho M (g_a M e)) dX12_weds_207 rfl t_62 (by decide) (hA.1) (hA.2.1) ?_
      refine mm_aload_0 209 dX12_weds_208 rfl ?_
      refine mm_getR 212 dX12_weds_209 f_X12_58 rfl t_51 rfl ?_
      refine mm_iload_1 213 dX12_weds_212 rfl ?_
      refine mm_iload_6 215 dX12_weds_213 rfl ?_
      refine mm_iload_7 217 dX12_weds_215 rfl ?_
      refine mm_ic_ge 225 220 dX12_weds_217 (by decide) rfl (fun h22 => ?_) (fun h22 => ?_)
      · refine mm_iload_8 227 dX12_weds_225 rfl ?_
        refine mm_ineg 228 dX12_weds_227 rfl ?_
        refine mm_iastoren 229 (e) dX12_weds_228 rfl t_68 (by decide) (hx) (he.1) ?_
        refine mm_aload_0 230 dX12_weds_229 rfl ?_
        refine mm_getR 233 dX12_weds_230 f_X12_43 rfl t_51 rfl ?_
        refine mm_iload_2 234 dX12_weds_233 rfl ?_
        refine mm_iload_3 235 dX12_weds_234 rfl ?_
        refine mm_iastoren 236 (g_a M e) dX12_weds_235 rfl t_63 (by decide) (he.a.1) (he.a.2) ?_
        refine mm_aload_0 237 dX12_weds_236 rfl ?_
        refine mm_getR 240 dX12_weds_237 f_X12_43 rfl t_51 rfl ?_
        refine mm_iload_3 241 dX12_weds_240 rfl ?_
        refine mm_iload_2 242 dX12_weds_241 rfl ?_
        refine mm_iastoren 243 (g_b M e) dX12_weds_242 rfl t_63 (by decide) (he.b.1) (he.b.2) ?_
        refine mm_aload_0 244 dX12_weds_243 rfl ?_
        refine mm_getR 247 dX12_weds_244 f_X12_46 rfl t_51 rfl ?_
        refine mm_iload_2 248 dX12_weds_247 rfl ?_
        refine mm_iload_8 250 dX12_weds_248 rfl ?_
        refine mm_iastoren 251 (g_a M e) dX12_weds_250 rfl t_64 (by decide) (he.a.1) (he.a.2) ?_
        refine mm_aload_0 252 dX12_weds_251 rfl ?_
        refine mm_getR 255 dX12_weds_252 f_X12_46 rfl t_51 rfl ?_
        refine mm_iload_3 256 dX12_weds_255 rfl ?_
        refine mm_iload_8 258 dX12_weds_256 rfl ?_
        refine mm_iastoren 259 (g_b M e) dX12_weds_258 rfl t_64 (by decide) (he.b.1) (he.b.2) ?_
        refine mm_aload_0 260 dX12_weds_259 rfl ?_
        refine mm_getR 263 dX12_weds_260 f_X12_49 rfl t_51 rfl ?_
        refine mm_iload_2 264 dX12_weds_263 rfl ?_
        refine mm_iload_6 266 dX12_weds_264 rfl ?_
        refine mm_iastoren 267 (g_a M e) dX12_weds_266 rfl t_65 (by decide) (he.a.1) (he.a.2) ?_
        refine mm_aload_0 268 dX12_weds_267 rfl ?_
        refine mm_getR 271 dX12_weds_268 f_X12_49 rfl t_51 rfl ?_
        refine mm_iload_3 272 dX12_weds_271 rfl ?_
        refine mm_iload_6 274 dX12_weds_272 rfl ?_
        refine mm_iastoren 275 (g_b M e) dX12_weds_274 rfl t_65 (by decide) (he.b.1) (he.b.2) ?_
        refine mm_vret dX12_weds_275 rfl ⟨rfl, Nat.zero_le _⟩ ?_
        have hy : g_by M e = y := by unfold g_by; rw [if_neg h1, ey, e3, e5]
        have hh := h
        unfold g_wed at hh
        rw [hy] at hh
        simp only [Int32.lt_iff_toInt_lt, Int32.le_iff_toInt_le, ← Int32.toInt_inj, vp_in_iff, Int32.reduceToInt, mm_t1, mm_t2, mm_t3, mm_t4, mm_t10] at h6 h22
        rw [if_pos (by omega)] at hh
        unfold g_wf g_wx at hh
        rw [← e20, if_neg (by omega)] at hh
        exact hh
      · refine mm_iload_8 222 dX12_weds_220 rfl ?_
        refine mm_goto 228 dX12_weds_222 (by decide) ?_
        refine mm_iastoren 229 (e) dX12_weds_228 rfl t_68 (by decide) (hx) (he.1) ?_
        refine mm_aload_0 230 dX12_weds_229 rfl ?_
        refine mm_getR 233 dX12_weds_230 f_X12_43 rfl t_51 rfl ?_
        refine mm_iload_2 234 dX12_weds_233 rfl ?_
        refine mm_iload_3 235 dX12_weds_234 rfl ?_
        refine mm_iastoren 236 (g_a M e) dX12_weds_235 rfl t_63 (by decide) (he.a.1) (he.a.2) ?_
        refine mm_aload_0 237 dX12_weds_236 rfl ?_
        refine mm_getR 240 dX12_weds_237 f_X12_43 rfl t_51 rfl ?_
        refine mm_iload_3 241 dX12_weds_240 rfl ?_
        refine mm_iload_2 242 dX12_weds_241 rfl ?_
        refine mm_iastoren 243 (g_b M e) dX12_weds_242 rfl t_63 (by decide) (he.b.1) (he.b.2) ?_
        refine mm_aload_0 244 dX12_weds_243 rfl ?_
        refine mm_getR 247 dX12_weds_244 f_X12_46 rfl t_51 rfl ?_
        refine mm_iload_2 248 dX12_weds_247 rfl ?_
        refine mm_iload_8 250 dX12_weds_248 rfl ?_
        refine mm_iastoren 251 (g_a M e) dX12_weds_250 rfl t_64 (by decide) (he.a.1) (he.a.2) ?_
        refine mm_aload_0 252 dX12_weds_251 rfl ?_
        refine mm_getR 255 dX12_weds_252 f_X12_46 rfl t_51 rfl ?_
        refine mm_iload_3 256 dX12_weds_255 rfl ?_
        refine mm_iload_8 258 dX12_weds_256 rfl ?_
        refine mm_iastoren 259 (g_b M e) dX12_weds_258 rfl t_64 (by decide) (he.b.1) (he.b.2) ?_
        refine mm_aload_0 260 dX12_weds_259 rfl ?_
        refine mm_getR 263 dX12_weds_260 f_X12_49 rfl t_51 rfl ?_
        refine mm_iload_2 264 dX12_weds_263 rfl ?_
        refine mm_iload_6 266 dX12_weds_264 rfl ?_
        refine mm_iastoren 267 (g_a M e) dX12_weds_266 rfl t_65 (by decide) (he.a.1) (he.a.2) ?_
        refine mm_aload_0 268 dX12_weds_267 rfl ?_
        refine mm_getR 271 dX12_weds_268 f_X12_49 rfl t_51 rfl ?_
        refine mm_iload_3 272 dX12_weds_271 rfl ?_
        refine mm_iload_6 274 dX12_weds_272 rfl ?_
        refine mm_iastoren 275 (g_b M e) dX12_weds_274 rfl t_65 (by decide) (he.b.1) (he.b.2) ?_
        refine mm_vret dX12_weds_275 rfl ⟨rfl, Nat.zero_le _⟩ ?_
        have hy : g_by M e = y := by unfold g_by; rw [if_neg h1, ey, e3, e5]
        have hh := h
        unfold g_wed at hh
        rw [hy] at hh
        simp only [Int32.lt_iff_toInt_lt, Int32.le_iff_toInt_le, ← Int32.toInt_inj, vp_in_iff, Int32.reduceToInt, mm_t1, mm_t2, mm_t3, mm_t4, mm_t10] at h6 h22
        rw [if_pos (by omega)] at hh
        unfold g_wf g_wx at hh
        rw [← e20, if_pos (by omega)] at hh
        exact hh
  · refine mm_iconst 42 1 dX12_weds_41 rfl (by decide) ?_
    refine mm_goto 46 dX12_weds_42 (by decide) ?_
    refine mm_istore_4 48 dX12_weds_46 rfl rfl ?_
    refine mm_iload_4 50 dX12_weds_48 rfl ?_
    refine mm_if_eq 57 53 dX12_weds_50 (by decide) rfl (fun h => absurd h (by decide)) (fun _ => ?_)
    refine mm_iconst 54 0 dX12_weds_53 rfl (by decide) ?_
    refine mm_goto 88 dX12_weds_54 (by decide) ?_
    skip
    refine mm_istore_5 90 dX12_weds_88 rfl rfl ?_
    refine mm_iload_5 92 dX12_weds_90 rfl ?_
    refine mm_if_le 108 95 dX12_weds_92 (by decide) rfl (fun _ => ?_) (fun h => absurd h (by decide))
    refine mm_iload_5 110 dX12_weds_108 rfl ?_
    refine mm_if_ge 126 113 dX12_weds_110 (by decide) rfl (fun _ => ?_) (fun h => absurd h (by decide))
    refine mm_iconst 127 (-1) dX12_weds_126 rfl (by decide) ?_
    refine mm_istore_6 129 dX12_weds_127 rfl rfl ?_
    refine mm_iload_5 131 dX12_weds_129 rfl ?_
    refine mm_if_le 147 134 dX12_weds_131 (by decide) rfl (fun _ => ?_) (fun h => absurd h (by decide))
    refine mm_aload_0 148 dX12_weds_147 rfl ?_
    refine mm_getR 151 dX12_weds_148 f_X12_31 rfl t_51 rfl ?_
    refine mm_iconst 152 4 dX12_weds_151 rfl (by decide) ?_
    refine mm_iload_2 153 dX12_weds_152 rfl ?_
    refine mm_imul 154 dX12_weds_153 rfl ?_
    refine mm_iconst 155 1 dX12_weds_154 rfl (by decide) ?_
    refine mm_iadd 156 dX12_weds_155 rfl ?_
    refine mm_ialoadn 157 (4 * g_a M e + 1) dX12_weds_156 rfl t_59 (by decide) (by rw [he.a.1, mm_l4, mm_l1, pk_mul, nI_add]) (by have := he.a.2; omega) ?_
    refine mm_istore_7 159 dX12_weds_157 rfl rfl ?_
    refine mm_iload_6 161 dX12_weds_159 rfl ?_
    refine mm_iconst 162 (-1) dX12_weds_161 rfl (by decide) ?_
    refine mm_ic_ne 169 165 dX12_weds_162 (by decide) rfl (fun h => absurd h (by decide)) (fun _ => ?_)
    refine mm_iconst 166 0 dX12_weds_165 rfl (by decide) ?_
    refine mm_goto 188 dX12_weds_166 (by decide) ?_
    refine mm_istore_8 190 dX12_weds_188 rfl rfl ?_
    refine mm_iload_6 192 dX12_weds_190 rfl ?_
    refine mm_iconst 193 (-1) dX12_weds_192 rfl (by decide) ?_
    refine mm_ic_eq 229 196 dX12_weds_193 (by decide) rfl (fun _ => ?_) (fun h => absurd h (by decide))
    refine mm_aload_0 230 dX12_weds_229 rfl ?_
    refine mm_getR 233 dX12_weds_230 f_X12_43 rfl t_51 rfl ?_
    refine mm_iload_2 234 dX12_weds_233 rfl ?_
    refine mm_iload_3 235 dX12_weds_234 rfl ?_
    refine mm_iastoren 236 (g_a M e) dX12_weds_235 rfl t_63 (by decide) (he.a.1) (he.a.2) ?_
    refine mm_aload_0 237 dX12_weds_236 rfl ?_
    refine mm_getR 240 dX12_weds_237 f_X12_43 rfl t_51 rfl ?_
    refine mm_iload_3 241 dX12_weds_240 rfl ?_
    refine mm_iload_2 242 dX12_weds_241 rfl ?_
    refine mm_iastoren 243 (g_b M e) dX12_weds_242 rfl t_63 (by decide) (he.b.1) (he.b.2) ?_
    refine mm_aload_0 244 dX12_weds_243 rfl ?_
    refine mm_getR 247 dX12_weds_244 f_X12_46 rfl t_51 rfl ?_
    refine mm_iload_2 248 dX12_weds_247 rfl ?_
    refine mm_iload_8 250 dX12_weds_248 rfl ?_
    refine mm_iastoren 251 (g_a M e) dX12_weds_250 rfl t_64 (by decide) (he.a.1) (he.a.2) ?_
    refine mm_aload_0 252 dX12_weds_251 rfl ?_
    refine mm_getR 255 dX12_weds_252 f_X12_46 rfl t_51 rfl ?_
    refine mm_iload_3 256 dX12_weds_255 rfl ?_
    refine mm_iload_8 258 dX12_weds_256 rfl ?_
    refine mm_iastoren 259 (g_b M e) dX12_weds_258 rfl t_64 (by decide) (he.b.1) (he.b.2) ?_
    refine mm_aload_0 260 dX12_weds_259 rfl ?_
    refine mm_getR 263 dX12_weds_260 f_X12_49 rfl t_51 rfl ?_
    refine mm_iload_2 264 dX12_weds_263 rfl ?_
    refine mm_iload_6 266 dX12_weds_264 rfl ?_
    refine mm_iastoren 267 (g_a M e) dX12_weds_266 rfl t_65 (by decide) (he.a.1) (he.a.2) ?_
    refine mm_aload_0 268 dX12_weds_267 rfl ?_
    refine mm_getR 271 dX12_weds_268 f_X12_49 rfl t_51 rfl ?_
    refine mm_iload_3 272 dX12_weds_271 rfl ?_
    refine mm_iload_6 274 dX12_weds_272 rfl ?_
    refine mm_iastoren 275 (g_b M e) dX12_weds_274 rfl t_65 (by decide) (he.b.1) (he.b.2) ?_
    refine mm_vret dX12_weds_275 rfl ⟨rfl, Nat.zero_le _⟩ ?_
    have ey : g_by M e = 0 := by unfold g_by; rw [if_pos h1]
    have hh := h
    unfold g_wed at hh
    rw [ey, if_neg (by decide), if_neg (by decide)] at hh
    exact hh

def g_pm (X : mm_M) (a : Nat) : Int32 := if X 65 a = -1 then 0 else g_mn (X 62 (X 65 a).toNatClampNeg) (X 64 a)
def g_px (X : mm_M) (a : Nat) : mm_M := mm_up (mm_up (if X 65 a = -1 then X else g_tk X (X 65 a).toNatClampNeg (X 64 a)) 63 a (-1)) 63 (X 63 a).toNatClampNeg (-1)
def g_do (X : mm_M) (e : Nat) : mm_M :=
  if X 61 (5 * e) = 0 then g_wed X e
  else if X 61 (5 * e) = 1 then mm_up (mm_up (g_px X (g_a X e)) 68 e (g_pm X (g_a X e))) 51 21 ((mm_up (g_px X (g_a X e)) 68 e (g_pm X (g_a X e))) 51 21 + (mm_up (g_px X (g_a X e)) 68 e (g_pm X (g_a X e))) 68 e)
  else if X 63 (g_a X e) = -1 then mm_up X 67 (g_a X e) 0
  else mm_up (mm_up (g_px (mm_up X 67 (g_a X e) 0) (g_a X e)) 68 e (g_pm (mm_up X 67 (g_a X e) 0) (g_a X e))) 66 (X 63 (g_a X e)).toNatClampNeg ((mm_up (g_px (mm_up X 67 (g_a X e) 0) (g_a X e)) 68 e (g_pm (mm_up X 67 (g_a X e) 0) (g_a X e))) 66 (X 63 (g_a X e)).toNatClampNeg + (mm_up (g_px (mm_up X 67 (g_a X e) 0) (g_a X e)) 68 e (g_pm (mm_up X 67 (g_a X e) 0) (g_a X e))) 68 e)
theorem g_i1 {x : Int32} (h : -1 ≤ x.toInt) (hn : ¬ x = -1) : 0 ≤ x.toInt := by
  by_cases q : 0 ≤ x.toInt
  · exact q
  · exact absurd (Int32.toInt_inj.mp (by rw [mm_t1]; omega)) hn
theorem g_i2 {x : Int32} {n : Nat} (h : -1 ≤ x.toInt ∧ x.toInt ≤ n) (hn : ¬ x = -1) : x = nI x.toNatClampNeg ∧ x.toNatClampNeg ≤ n := by
  have h1 := g_i1 h.1 hn
  have h2 := mm_cl h1
  exact ⟨mm_nc h1, by omega⟩

set_option maxHeartbeats 4000000 in
theorem c_X12_parts {l : Launch} {G : mm_G} {d : Nat} {M : mm_M} {Q : Int32 → mm_T → mm_M → Prop} {x : Int32} {a : Nat} (hx : x = nI a) (ha : a < 12) (hk : g_ok M) (hw : ¬ M 63 a = -1) (h : ∀ r, r = g_pm M a → Q r T0 (g_px M a)) : mm_met l G (d + 1) k_X12_parts [.ref 51, .int x] T0 M (mm_pi Q) := by
  refine mm_enter 2 [.ref 51, .int x, .double 0, .double 0] o_X12_parts rfl rfl ?_
  refine mm_aload_0 1 dX12_parts_0 rfl ?_
  refine mm_getR 4 dX12_parts_1 f_X12_43 rfl t_51 rfl ?_
  refine mm_iload_1 5 dX12_parts_4 rfl ?_
  refine mm_ialoadn 6 (a) dX12_parts_5 rfl t_63 (by decide) (hx) (ha) ?_
  refine mm_istore_2 7 dX12_parts_6 rfl rfl ?_
  refine mm_aload_0 8 dX12_parts_7 rfl ?_
  refine mm_getR 11 dX12_parts_8 f_X12_49 rfl t_51 rfl ?_
  refine mm_iload_1 12 dX12_parts_11 rfl ?_
  refine mm_ialoadn 13 (a) dX12_parts_12 rfl t_65 (by decide) (hx) (ha) ?_
  refine mm_iconst 14 (-1) dX12_parts_13 rfl (by decide) ?_
  refine mm_ic_ne 21 17 dX12_parts_14 (by decide) rfl (fun h1 => ?_) (fun h1 => ?_)
  · refine mm_aload_0 22 dX12_parts_21 rfl ?_
    refine mm_aload_0 23 dX12_parts_22 rfl ?_
    refine mm_getR 26 dX12_parts_23 f_X12_49 rfl t_51 rfl ?_
    refine mm_iload_1 27 dX12_parts_26 rfl ?_
    refine mm_ialoadn 28 (a) dX12_parts_27 rfl t_65 (by decide) (hx) (ha) ?_
    refine mm_aload_0 29 dX12_parts_28 rfl ?_
    refine mm_getR 32 dX12_parts_29 f_X12_46 rfl t_51 rfl ?_
    refine mm_iload_1 33 dX12_parts_32 rfl ?_
    refine mm_ialoadn 34 (a) dX12_parts_33 rfl t_64 (by decide) (hx) (ha) ?_
    refine mm_cV2i 37 dX12_parts_34 v_X12_219 rfl t_51 (by decide) rfl rfl (Nat.le_of_ble_eq_true rfl) ⟨rfl, rfl⟩ ⟨Nat.zero_le _, Nat.zero_le _⟩ (c_X12_takes (g_i2 (hk.2.2.2 a ha) h1).1 (Nat.lt_succ_of_le (g_i2 (hk.2.2.2 a ha) h1).2) (fun r2 e3 => ?_))
    refine mm_istore_3 38 dX12_parts_37 rfl rfl ?_
    refine mm_aload_0 39 dX12_parts_38 rfl ?_
    refine mm_getR 42 dX12_parts_39 f_X12_43 rfl t_51 rfl ?_
    refine mm_iload_1 43 dX12_parts_42 rfl ?_
    refine mm_iconst 44 (-1) dX12_parts_43 rfl (by decide) ?_
    refine mm_iastoren 45 (a) dX12_parts_44 rfl t_63 (by decide) (hx) (ha) ?_
    refine mm_aload_0 46 dX12_parts_45 rfl ?_
    refine mm_getR 49 dX12_parts_46 f_X12_43 rfl t_51 rfl ?_
    refine mm_iload_2 50 dX12_parts_49 rfl ?_
    refine mm_iconst 51 (-1) dX12_parts_50 rfl (by decide) ?_
    refine mm_iastoren 52 ((M 63 a).toNatClampNeg) dX12_parts_51 rfl t_63 (by decide) ((g_i2 (hk.2.2.1 a ha) hw).1) (Nat.lt_succ_of_le (g_i2 (hk.2.2.1 a ha) hw).2) ?_
    refine mm_iload_3 53 dX12_parts_52 rfl ?_
    refine mm_iret dX12_parts_53 rfl ⟨rfl, Nat.zero_le _⟩ ?_
    have e1 : g_pm M a = r2 := by unfold g_pm; rw [if_neg h1, e3]
    have hh := h _ e1.symm
    unfold g_px at hh
    rw [if_neg h1] at hh
    exact hh
  · refine mm_iconst 18 0 dX12_parts_17 rfl (by decide) ?_
    refine mm_goto 37 dX12_parts_18 (by decide) ?_
    refine mm_istore_3 38 dX12_parts_37 rfl rfl ?_
    refine mm_aload_0 39 dX12_parts_38 rfl ?_
    refine mm_getR 42 dX12_parts_39 f_X12_43 rfl t_51 rfl ?_
    refine mm_iload_1 43 dX12_parts_42 rfl ?_
    refine mm_iconst 44 (-1) dX12_parts_43 rfl (by decide) ?_
    refine mm_iastoren 45 (a) dX12_parts_44 rfl t_63 (by decide) (hx) (ha) ?_
    refine mm_aload_0 46 dX12_parts_45 rfl ?_
    refine mm_getR 49 dX12_parts_46 f_X12_43 rfl t_51 rfl ?_
    refine mm_iload_2 50 dX12_parts_49 rfl ?_
    refine mm_iconst 51 (-1) dX12_parts_50 rfl (by decide) ?_
    refine mm_iastoren 52 ((M 63 a).toNatClampNeg) dX12_parts_51 rfl t_63 (by decide) ((g_i2 (hk.2.2.1 a ha) hw).1) (Nat.lt_succ_of_le (g_i2 (hk.2.2.1 a ha) hw).2) ?_
    refine mm_iload_3 53 dX12_parts_52 rfl ?_
    refine mm_iret dX12_parts_53 rfl ⟨rfl, Nat.zero_le _⟩ ?_
    have e1 : g_pm M a = 0 := by unfold g_pm; rw [if_pos h1]
    have hh := h _ e1.symm
    unfold g_px at hh
    rw [if_pos h1] at hh
    exact hh

theorem g_ok_67 {X : mm_M} {a : Nat} {v : Int32} (h : g_ok X) : g_ok (mm_up X 67 a v) := by
  unfold g_ok at h ⊢
  simpa [mm_upn _ _ _ (show (51:Nat) ≠ 67 by decide), mm_upn _ _ _ (show (59:Nat) ≠ 67 by decide), mm_upn _ _ _ (show (63:Nat) ≠ 67 by decide), mm_upn _ _ _ (show (65:Nat) ≠ 67 by decide)] using h

set_option maxHeartbeats 4000000 in
theorem c_X12_does {l : Launch} {G : mm_G} {d : Nat} {M : mm_M} {Q : mm_T → mm_M → Prop} {x : Int32} {e : Nat} (hx : x = nI e) (he : g_ev M e) (hk : g_ok M) (hl : g_law M e = true) (h : Q T0 (g_do M e)) : mm_met l G (d + 2) k_X12_does [.ref 51, .int x] T0 M (mm_pv Q) := by
  refine mm_enter 2 [.ref 51, .int x, .double 0, .double 0] o_X12_does rfl rfl ?_
  refine mm_aload_0 1 dX12_does_0 rfl ?_
  refine mm_getR 4 dX12_does_1 f_X12_37 rfl t_51 rfl ?_
  refine mm_iconst 5 5 dX12_does_4 rfl (by decide) ?_
  refine mm_iload_1 6 dX12_does_5 rfl ?_
  refine mm_imul 7 dX12_does_6 rfl ?_
  refine mm_iconst 8 2 dX12_does_7 rfl (by decide) ?_
  refine mm_iadd 9 dX12_does_8 rfl ?_
  refine mm_ialoadn 10 (5 * e + 2) dX12_does_9 rfl t_61 (by decide) (by rw [hx, mm_l5, mm_l2, pk_mul, nI_add]) (by have := he.1; omega) ?_
  refine mm_istore_2 11 dX12_does_10 rfl rfl ?_
  refine mm_aload_0 12 dX12_does_11 rfl ?_
  refine mm_getR 15 dX12_does_12 f_X12_37 rfl t_51 rfl ?_
  refine mm_iconst 16 5 dX12_does_15 rfl (by decide) ?_
  refine mm_iload_1 17 dX12_does_16 rfl ?_
  refine mm_imul 18 dX12_does_17 rfl ?_
  refine mm_ialoadn 19 (5 * e) dX12_does_18 rfl t_61 (by decide) (by rw [hx, mm_l5, pk_mul]) (by have := he.1; omega) ?_
  refine mm_if_ne 30 22 dX12_does_19 (by decide) rfl (fun h1 => ?_) (fun h1 => ?_)
  · refine mm_aload_0 31 dX12_does_30 rfl ?_
    refine mm_getR 34 dX12_does_31 f_X12_37 rfl t_51 rfl ?_
    refine mm_iconst 35 5 dX12_does_34 rfl (by decide) ?_
    refine mm_iload_1 36 dX12_does_35 rfl ?_
    refine mm_imul 37 dX12_does_36 rfl ?_
    refine mm_ialoadn 38 (5 * e) dX12_does_37 rfl t_61 (by decide) (by rw [hx, mm_l5, pk_mul]) (by have := he.1; omega) ?_
    refine mm_iconst 39 1 dX12_does_38 rfl (by decide) ?_
    refine mm_ic_ne 71 42 dX12_does_39 (by decide) rfl (fun h2 => ?_) (fun h2 => ?_)
    · refine mm_aload_0 72 dX12_does_71 rfl ?_
      refine mm_getR 75 dX12_does_72 f_X12_43 rfl t_51 rfl ?_
      refine mm_iload_2 76 dX12_does_75 rfl ?_
      refine mm_ialoadn 77 (g_a M e) dX12_does_76 rfl t_63 (by decide) (he.a.1) (he.a.2) ?_
      refine mm_istore_3 78 dX12_does_77 rfl rfl ?_
      refine mm_aload_0 79 dX12_does_78 rfl ?_
      refine mm_getR 82 dX12_does_79 f_X12_55 rfl t_51 rfl ?_
      refine mm_iload_2 83 dX12_does_82 rfl ?_
      refine mm_iconst 84 0 dX12_does_83 rfl (by decide) ?_
      refine mm_iastoren 85 (g_a M e) dX12_does_84 rfl t_67 (by decide) (he.a.1) (he.a.2) ?_
      refine mm_iload_3 86 dX12_does_85 rfl ?_
      refine mm_iconst 87 (-1) dX12_does_86 rfl (by decide) ?_
      refine mm_ic_eq 116 90 dX12_does_87 (by decide) rfl (fun h3 => ?_) (fun h3 => ?_)
      · refine mm_vret dX12_does_116 rfl ⟨rfl, Nat.zero_le _⟩ ?_
        have hh := h
        unfold g_do at hh
        rw [if_neg h1, if_neg h2, if_pos h3] at hh
        exact hh
      · refine mm_aload_0 91 dX12_does_90 rfl ?_
        refine mm_getR 94 dX12_does_91 f_X12_58 rfl t_51 rfl ?_
        refine mm_iload_1 95 dX12_does_94 rfl ?_
        refine mm_aload_0 96 dX12_does_95 rfl ?_
        refine mm_iload_2 97 dX12_does_96 rfl ?_
        refine mm_cV1i 100 dX12_does_97 v_X12_226 rfl t_51 (by decide) rfl rfl (Nat.le_of_ble_eq_true rfl) ⟨rfl, rfl⟩ ⟨Nat.zero_le _, Nat.zero_le _⟩ (c_X12_parts he.a.1 he.a.2 (g_ok_67 hk) (by rw [mm_upn _ _ _ (by decide)]; exact h3) (fun r4 e5 => ?_))
        refine mm_iastoren 101 (e) dX12_does_100 rfl t_68 (by decide) (hx) (he.1) ?_
        refine mm_aload_0 102 dX12_does_101 rfl ?_
        refine mm_getR 105 dX12_does_102 f_X12_52 rfl t_51 rfl ?_
        refine mm_iload_3 106 dX12_does_105 rfl ?_
        refine mm_dup2 107 dX12_does_106 rfl rfl rfl ?_
        refine mm_ialoadn 108 ((M 63 (g_a M e)).toNatClampNeg) dX12_does_107 rfl t_66 (by decide) ((g_i2 (hk.2.2.1 _ he.a.2) h3).1) (Nat.lt_succ_of_le (g_i2 (hk.2.2.1 _ he.a.2) h3).2) ?_
        refine mm_aload_0 109 dX12_does_108 rfl ?_
        refine mm_getR 112 dX12_does_109 f_X12_58 rfl t_51 rfl ?_
        refine mm_iload_1 113 dX12_does_112 rfl ?_
        refine mm_ialoadn 114 (e) dX12_does_113 rfl t_68 (by decide) (hx) (he.1) ?_
        refine mm_iadd 115 dX12_does_114 rfl ?_
        refine mm_iastoren 116 ((M 63 (g_a M e)).toNatClampNeg) dX12_does_115 rfl t_66 (by decide) ((g_i2 (hk.2.2.1 _ he.a.2) h3).1) (Nat.lt_succ_of_le (g_i2 (hk.2.2.1 _ he.a.2) h3).2) ?_
        refine mm_vret dX12_does_116 rfl ⟨rfl, Nat.zero_le _⟩ ?_
        have hh := h
        unfold g_do at hh
        rw [if_neg h1, if_neg h2, if_neg h3] at hh
        rw [e5]
        exact hh
    · refine mm_aload_0 43 dX12_does_42 rfl ?_
      refine mm_getR 46 dX12_does_43 f_X12_58 rfl t_51 rfl ?_
      refine mm_iload_1 47 dX12_does_46 rfl ?_
      refine mm_aload_0 48 dX12_does_47 rfl ?_
      refine mm_iload_2 49 dX12_does_48 rfl ?_
      refine mm_cV1i 52 dX12_does_49 v_X12_226 rfl t_51 (by decide) rfl rfl (Nat.le_of_ble_eq_true rfl) ⟨rfl, rfl⟩ ⟨Nat.zero_le _, Nat.zero_le _⟩ (c_X12_parts he.a.1 he.a.2 hk (by have q := hl; unfold g_law at q; rw [if_neg h1, if_pos h2] at q; simp at q; exact q.2) (fun r6 e7 => ?_))
      refine mm_iastoren 53 (e) dX12_does_52 rfl t_68 (by decide) (hx) (he.1) ?_
      refine mm_aload_0 54 dX12_does_53 rfl ?_
      refine mm_dup 55 dX12_does_54 rfl rfl ?_
      refine mm_getI 58 dX12_does_55 f_X12_203 rfl t_51 rfl ?_
      refine mm_aload_0 59 dX12_does_58 rfl ?_
      refine mm_getR 62 dX12_does_59 f_X12_58 rfl t_51 rfl ?_
      refine mm_iload_1 63 dX12_does_62 rfl ?_
      refine mm_ialoadn 64 (e) dX12_does_63 rfl t_68 (by decide) (hx) (he.1) ?_
      refine mm_iadd 65 dX12_does_64 rfl ?_
      refine mm_putI 68 dX12_does_65 p_X12_203 ⟨rfl, rfl⟩ rfl t_51 rfl ?_
      refine mm_goto 116 dX12_does_68 (by decide) ?_
      refine mm_vret dX12_does_116 rfl ⟨rfl, Nat.zero_le _⟩ ?_
      have hh := h
      unfold g_do at hh
      rw [if_neg h1, if_pos h2] at hh
      rw [e7]
      exact hh
  · refine mm_aload_0 23 dX12_does_22 rfl ?_
    refine mm_iload_1 24 dX12_does_23 rfl ?_
    refine mm_cV1v 27 dX12_does_24 v_X12_222 rfl t_51 (by decide) rfl rfl (Nat.le_of_ble_eq_true rfl) ⟨rfl, rfl⟩ ⟨Nat.zero_le _, Nat.zero_le _⟩ (c_X12_weds hx he hk (by have q := hl; unfold g_law at q; rw [if_pos h1] at q; exact q) ?_)
    refine mm_goto 116 dX12_does_27 (by decide) ?_
    refine mm_vret dX12_does_116 rfl ⟨rfl, Nat.zero_le _⟩ ?_
    have hh := h
    unfold g_do at hh
    rw [if_pos h1] at hh
    exact hh

