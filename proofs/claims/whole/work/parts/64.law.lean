/-! The law: each command on both sides -/

set_option maxHeartbeats 4000000 in
theorem w_L_0 {l : Launch} {G : mm_G} {d : Nat} {Q : Int32 → mm_T → mm_M → Prop} {z : UInt32} {i : Nat} {M : mm_M} (hi : iv M) (hG : G.len < 2147483648) (hl : i + 6 ≤ G.len) (K : ∀ M1, iv M1 → mm_wp l G (d + 13) k_L_law (mm_pi Q) 1200 [.float z, .ref 0, .ref 51, .int (nI i)] [] T0 M1 80 1835) : mm_wp l G (d + 13) k_L_law (mm_pi Q) 180 [.float z, .ref 0, .ref 51, .int (nI i)] [] T0 M 80 1835 := by
  refine mm_aload_1 181 dL_law_180 rfl ?_
  refine mm_sload_0 182 dL_law_181 rfl ?_
  refine mm_iload_3 183 dL_law_182 rfl ?_
  refine mm_iconst 184 1 dL_law_183 rfl (by decide) ?_
  refine mm_iadd 185 dL_law_184 rfl ?_
  refine mm_sloadn 186 (i + 1) dL_law_185 rfl hG (by rw [mm_l1, nI_add]) (by omega) ?_
  refine mm_sload_0 187 dL_law_186 rfl ?_
  refine mm_iload_3 188 dL_law_187 rfl ?_
  refine mm_iconst 189 2 dL_law_188 rfl (by decide) ?_
  refine mm_iadd 190 dL_law_189 rfl ?_
  refine mm_sloadn 191 (i + 2) dL_law_190 rfl hG (by rw [mm_l2, nI_add]) (by omega) ?_
  refine mm_cV2i 194 dL_law_191 v_L_13 rfl t_0 (by decide) rfl rfl (Nat.le_of_ble_eq_true rfl) ⟨rfl, rfl⟩ ⟨Nat.le_refl _, Nat.le_refl _⟩ (c_X11_type2 hi (fun r1 M1 o1 e1 v1 => ?_))
  refine mm_aload_2 195 dL_law_194 rfl ?_
  refine mm_sload_0 196 dL_law_195 rfl ?_
  refine mm_iload_3 197 dL_law_196 rfl ?_
  refine mm_iconst 198 1 dL_law_197 rfl (by decide) ?_
  refine mm_iadd 199 dL_law_198 rfl ?_
  refine mm_sloadn 200 (i + 1) dL_law_199 rfl hG (by rw [mm_l1, nI_add]) (by omega) ?_
  refine mm_sload_0 201 dL_law_200 rfl ?_
  refine mm_iload_3 202 dL_law_201 rfl ?_
  refine mm_iconst 203 2 dL_law_202 rfl (by decide) ?_
  refine mm_iadd 204 dL_law_203 rfl ?_
  refine mm_sloadn 205 (i + 2) dL_law_204 rfl hG (by rw [mm_l2, nI_add]) (by omega) ?_
  refine mm_cV2i 208 dL_law_205 v_L_17 rfl t_51 (by decide) rfl rfl (Nat.le_of_ble_eq_true rfl) ⟨rfl, rfl⟩ ⟨Nat.le_refl _, Nat.le_refl _⟩ (c_X12_type2 o1 ?_)
  refine mm_ic_eq 1200 211 dL_law_208 (by decide) rfl (fun h1 => ?_) (fun h1 => absurd (e1) h1)
  exact K _ v1

set_option maxHeartbeats 4000000 in
theorem w_L_1 {l : Launch} {G : mm_G} {d : Nat} {Q : Int32 → mm_T → mm_M → Prop} {z : UInt32} {i : Nat} {M : mm_M} (hi : iv M) (hG : G.len < 2147483648) (hl : i + 6 ≤ G.len) (K : ∀ M1, iv M1 → mm_wp l G (d + 13) k_L_law (mm_pi Q) 1200 [.float z, .ref 0, .ref 51, .int (nI i)] [] T0 M1 80 1835) : mm_wp l G (d + 13) k_L_law (mm_pi Q) 213 [.float z, .ref 0, .ref 51, .int (nI i)] [] T0 M 80 1835 := by
  refine mm_aload_1 214 dL_law_213 rfl ?_
  refine mm_sload_0 215 dL_law_214 rfl ?_
  refine mm_iload_3 216 dL_law_215 rfl ?_
  refine mm_iconst 217 1 dL_law_216 rfl (by decide) ?_
  refine mm_iadd 218 dL_law_217 rfl ?_
  refine mm_sloadn 219 (i + 1) dL_law_218 rfl hG (by rw [mm_l1, nI_add]) (by omega) ?_
  refine mm_cV1i 222 dL_law_219 v_L_18 rfl t_0 (by decide) rfl rfl (Nat.le_of_ble_eq_true rfl) ⟨rfl, rfl⟩ ⟨Nat.le_refl _, Nat.le_refl _⟩ (c_X11_wipe2 hi (fun r1 M1 o1 e1 v1 => ?_))
  refine mm_aload_2 223 dL_law_222 rfl ?_
  refine mm_sload_0 224 dL_law_223 rfl ?_
  refine mm_iload_3 225 dL_law_224 rfl ?_
  refine mm_iconst 226 1 dL_law_225 rfl (by decide) ?_
  refine mm_iadd 227 dL_law_226 rfl ?_
  refine mm_sloadn 228 (i + 1) dL_law_227 rfl hG (by rw [mm_l1, nI_add]) (by omega) ?_
  refine mm_cV1i 231 dL_law_228 v_L_22 rfl t_51 (by decide) rfl rfl (Nat.le_of_ble_eq_true rfl) ⟨rfl, rfl⟩ ⟨Nat.le_refl _, Nat.le_refl _⟩ (c_X12_wipe2 o1 ?_)
  refine mm_ic_eq 1200 234 dL_law_231 (by decide) rfl (fun h1 => ?_) (fun h1 => absurd (e1) h1)
  exact K _ v1

set_option maxHeartbeats 4000000 in
theorem w_L_2 {l : Launch} {G : mm_G} {d : Nat} {Q : Int32 → mm_T → mm_M → Prop} {z : UInt32} {i : Nat} {M : mm_M} (hi : iv M) (hG : G.len < 2147483648) (hl : i + 6 ≤ G.len) (K : ∀ M1, iv M1 → mm_wp l G (d + 13) k_L_law (mm_pi Q) 1200 [.float z, .ref 0, .ref 51, .int (nI i)] [] T0 M1 80 1835) : mm_wp l G (d + 13) k_L_law (mm_pi Q) 236 [.float z, .ref 0, .ref 51, .int (nI i)] [] T0 M 80 1835 := by
  refine mm_aload_1 237 dL_law_236 rfl ?_
  refine mm_sload_0 238 dL_law_237 rfl ?_
  refine mm_iload_3 239 dL_law_238 rfl ?_
  refine mm_iconst 240 1 dL_law_239 rfl (by decide) ?_
  refine mm_iadd 241 dL_law_240 rfl ?_
  refine mm_sloadn 242 (i + 1) dL_law_241 rfl hG (by rw [mm_l1, nI_add]) (by omega) ?_
  refine mm_cV1i 245 dL_law_242 v_L_23 rfl t_0 (by decide) rfl rfl (Nat.le_of_ble_eq_true rfl) ⟨rfl, rfl⟩ ⟨Nat.le_refl _, Nat.le_refl _⟩ (c_X11_fault hi fr.rf (fun r1 M1 e1 X1 => ?_))
  refine mm_aload_2 246 dL_law_245 rfl ?_
  refine mm_sload_0 247 dL_law_246 rfl ?_
  refine mm_iload_3 248 dL_law_247 rfl ?_
  refine mm_iconst 249 1 dL_law_248 rfl (by decide) ?_
  refine mm_iadd 250 dL_law_249 rfl ?_
  refine mm_sloadn 251 (i + 1) dL_law_250 rfl hG (by rw [mm_l1, nI_add]) (by omega) ?_
  refine mm_cV1i 254 dL_law_251 v_L_26 rfl t_51 (by decide) rfl rfl (Nat.le_of_ble_eq_true rfl) ⟨rfl, rfl⟩ ⟨Nat.le_refl _, Nat.le_refl _⟩ (c_X12_fault hi X1 (fun r2 M2 e2 X2 => ?_))
  refine mm_ic_eq 1200 257 dL_law_254 (by decide) rfl (fun h3 => ?_) (fun h3 => absurd (by rw [e1, e2]) h3)
  exact K _ (X2.toiv hi)

set_option maxHeartbeats 4000000 in
theorem w_L_3 {l : Launch} {G : mm_G} {d : Nat} {Q : Int32 → mm_T → mm_M → Prop} {z : UInt32} {i : Nat} {M : mm_M} (hi : iv M) (hG : G.len < 2147483648) (hl : i + 6 ≤ G.len) (K : ∀ M1, iv M1 → mm_wp l G (d + 13) k_L_law (mm_pi Q) 1200 [.float z, .ref 0, .ref 51, .int (nI i)] [] T0 M1 80 1835) : mm_wp l G (d + 13) k_L_law (mm_pi Q) 259 [.float z, .ref 0, .ref 51, .int (nI i)] [] T0 M 80 1835 := by
  refine mm_aload_1 260 dL_law_259 rfl ?_
  refine mm_sload_0 261 dL_law_260 rfl ?_
  refine mm_iload_3 262 dL_law_261 rfl ?_
  refine mm_iconst 263 1 dL_law_262 rfl (by decide) ?_
  refine mm_iadd 264 dL_law_263 rfl ?_
  refine mm_sloadn 265 (i + 1) dL_law_264 rfl hG (by rw [mm_l1, nI_add]) (by omega) ?_
  refine mm_sload_0 266 dL_law_265 rfl ?_
  refine mm_iload_3 267 dL_law_266 rfl ?_
  refine mm_iconst 268 2 dL_law_267 rfl (by decide) ?_
  refine mm_iadd 269 dL_law_268 rfl ?_
  refine mm_sloadn 270 (i + 2) dL_law_269 rfl hG (by rw [mm_l2, nI_add]) (by omega) ?_
  refine mm_cV2i 273 dL_law_270 v_L_27 rfl t_0 (by decide) rfl rfl (Nat.le_of_ble_eq_true rfl) ⟨rfl, rfl⟩ ⟨Nat.le_refl _, Nat.le_refl _⟩ (c_X11_person hi fr.rf (fun r1 M1 e1 X1 => ?_))
  refine mm_aload_2 274 dL_law_273 rfl ?_
  refine mm_sload_0 275 dL_law_274 rfl ?_
  refine mm_iload_3 276 dL_law_275 rfl ?_
  refine mm_iconst 277 1 dL_law_276 rfl (by decide) ?_
  refine mm_iadd 278 dL_law_277 rfl ?_
  refine mm_sloadn 279 (i + 1) dL_law_278 rfl hG (by rw [mm_l1, nI_add]) (by omega) ?_
  refine mm_sload_0 280 dL_law_279 rfl ?_
  refine mm_iload_3 281 dL_law_280 rfl ?_
  refine mm_iconst 282 2 dL_law_281 rfl (by decide) ?_
  refine mm_iadd 283 dL_law_282 rfl ?_
  refine mm_sloadn 284 (i + 2) dL_law_283 rfl hG (by rw [mm_l2, nI_add]) (by omega) ?_
  refine mm_cV2i 287 dL_law_284 v_L_30 rfl t_51 (by decide) rfl rfl (Nat.le_of_ble_eq_true rfl) ⟨rfl, rfl⟩ ⟨Nat.le_refl _, Nat.le_refl _⟩ (c_X12_person hi X1 (fun r2 M2 e2 X2 => ?_))
  refine mm_ic_eq 1200 290 dL_law_287 (by decide) rfl (fun h3 => ?_) (fun h3 => absurd (by rw [e1, e2]) h3)
  exact K _ (X2.toiv hi)

set_option maxHeartbeats 4000000 in
theorem w_L_4 {l : Launch} {G : mm_G} {d : Nat} {Q : Int32 → mm_T → mm_M → Prop} {z : UInt32} {i : Nat} {M : mm_M} (hi : iv M) (hG : G.len < 2147483648) (hl : i + 6 ≤ G.len) (K : ∀ M1, iv M1 → mm_wp l G (d + 13) k_L_law (mm_pi Q) 1200 [.float z, .ref 0, .ref 51, .int (nI i)] [] T0 M1 80 1835) : mm_wp l G (d + 13) k_L_law (mm_pi Q) 292 [.float z, .ref 0, .ref 51, .int (nI i)] [] T0 M 80 1835 := by
  refine mm_aload_1 293 dL_law_292 rfl ?_
  refine mm_sload_0 294 dL_law_293 rfl ?_
  refine mm_iload_3 295 dL_law_294 rfl ?_
  refine mm_iconst 296 1 dL_law_295 rfl (by decide) ?_
  refine mm_iadd 297 dL_law_296 rfl ?_
  refine mm_sloadn 298 (i + 1) dL_law_297 rfl hG (by rw [mm_l1, nI_add]) (by omega) ?_
  refine mm_sload_0 299 dL_law_298 rfl ?_
  refine mm_iload_3 300 dL_law_299 rfl ?_
  refine mm_iconst 301 2 dL_law_300 rfl (by decide) ?_
  refine mm_iadd 302 dL_law_301 rfl ?_
  refine mm_sloadn 303 (i + 2) dL_law_302 rfl hG (by rw [mm_l2, nI_add]) (by omega) ?_
  refine mm_cV2i 306 dL_law_303 v_L_31 rfl t_0 (by decide) rfl rfl (Nat.le_of_ble_eq_true rfl) ⟨rfl, rfl⟩ ⟨Nat.le_refl _, Nat.le_refl _⟩ (c_X11_shadow hi fr.rf (fun r1 M1 e1 X1 => ?_))
  refine mm_aload_2 307 dL_law_306 rfl ?_
  refine mm_sload_0 308 dL_law_307 rfl ?_
  refine mm_iload_3 309 dL_law_308 rfl ?_
  refine mm_iconst 310 1 dL_law_309 rfl (by decide) ?_
  refine mm_iadd 311 dL_law_310 rfl ?_
  refine mm_sloadn 312 (i + 1) dL_law_311 rfl hG (by rw [mm_l1, nI_add]) (by omega) ?_
  refine mm_sload_0 313 dL_law_312 rfl ?_
  refine mm_iload_3 314 dL_law_313 rfl ?_
  refine mm_iconst 315 2 dL_law_314 rfl (by decide) ?_
  refine mm_iadd 316 dL_law_315 rfl ?_
  refine mm_sloadn 317 (i + 2) dL_law_316 rfl hG (by rw [mm_l2, nI_add]) (by omega) ?_
  refine mm_cV2i 320 dL_law_317 v_L_34 rfl t_51 (by decide) rfl rfl (Nat.le_of_ble_eq_true rfl) ⟨rfl, rfl⟩ ⟨Nat.le_refl _, Nat.le_refl _⟩ (c_X12_shadow hi X1 (fun r2 M2 e2 X2 => ?_))
  refine mm_ic_eq 1200 323 dL_law_320 (by decide) rfl (fun h3 => ?_) (fun h3 => absurd (by rw [e1, e2]) h3)
  exact K _ (X2.toiv hi)

set_option maxHeartbeats 4000000 in
theorem w_L_5 {l : Launch} {G : mm_G} {d : Nat} {Q : Int32 → mm_T → mm_M → Prop} {z : UInt32} {i : Nat} {M : mm_M} (hi : iv M) (hG : G.len < 2147483648) (hl : i + 6 ≤ G.len) (K : ∀ M1, iv M1 → mm_wp l G (d + 13) k_L_law (mm_pi Q) 1200 [.float z, .ref 0, .ref 51, .int (nI i)] [] T0 M1 80 1835) : mm_wp l G (d + 13) k_L_law (mm_pi Q) 325 [.float z, .ref 0, .ref 51, .int (nI i)] [] T0 M 80 1835 := by
  refine mm_aload_1 326 dL_law_325 rfl ?_
  refine mm_sload_0 327 dL_law_326 rfl ?_
  refine mm_iload_3 328 dL_law_327 rfl ?_
  refine mm_iconst 329 1 dL_law_328 rfl (by decide) ?_
  refine mm_iadd 330 dL_law_329 rfl ?_
  refine mm_sloadn 331 (i + 1) dL_law_330 rfl hG (by rw [mm_l1, nI_add]) (by omega) ?_
  refine mm_sload_0 332 dL_law_331 rfl ?_
  refine mm_iload_3 333 dL_law_332 rfl ?_
  refine mm_iconst 334 2 dL_law_333 rfl (by decide) ?_
  refine mm_iadd 335 dL_law_334 rfl ?_
  refine mm_sloadn 336 (i + 2) dL_law_335 rfl hG (by rw [mm_l2, nI_add]) (by omega) ?_
  refine mm_cV2i 339 dL_law_336 v_L_35 rfl t_0 (by decide) rfl rfl (Nat.le_of_ble_eq_true rfl) ⟨rfl, rfl⟩ ⟨Nat.le_refl _, Nat.le_refl _⟩ (c_X11_cloud hi fr.rf (fun r1 M1 e1 X1 => ?_))
  refine mm_aload_2 340 dL_law_339 rfl ?_
  refine mm_sload_0 341 dL_law_340 rfl ?_
  refine mm_iload_3 342 dL_law_341 rfl ?_
  refine mm_iconst 343 1 dL_law_342 rfl (by decide) ?_
  refine mm_iadd 344 dL_law_343 rfl ?_
  refine mm_sloadn 345 (i + 1) dL_law_344 rfl hG (by rw [mm_l1, nI_add]) (by omega) ?_
  refine mm_sload_0 346 dL_law_345 rfl ?_
  refine mm_iload_3 347 dL_law_346 rfl ?_
  refine mm_iconst 348 2 dL_law_347 rfl (by decide) ?_
  refine mm_iadd 349 dL_law_348 rfl ?_
  refine mm_sloadn 350 (i + 2) dL_law_349 rfl hG (by rw [mm_l2, nI_add]) (by omega) ?_
  refine mm_cV2i 353 dL_law_350 v_L_38 rfl t_51 (by decide) rfl rfl (Nat.le_of_ble_eq_true rfl) ⟨rfl, rfl⟩ ⟨Nat.le_refl _, Nat.le_refl _⟩ (c_X12_cloud (m_cloud hi _ _).1 X1 (fun r2 M2 e2 X2 => ?_))
  refine mm_ic_eq 1200 356 dL_law_353 (by decide) rfl (fun h3 => ?_) (fun h3 => absurd (by rw [e1, e2, (m_cloud hi _ _).2.1]) h3)
  exact K _ (X2.toiv (m_cloud hi _ _).2.2)

set_option maxHeartbeats 4000000 in
theorem w_L_6 {l : Launch} {G : mm_G} {d : Nat} {Q : Int32 → mm_T → mm_M → Prop} {z : UInt32} {i : Nat} {M : mm_M} (hi : iv M) (hG : G.len < 2147483648) (hl : i + 6 ≤ G.len) (K : ∀ M1, iv M1 → mm_wp l G (d + 13) k_L_law (mm_pi Q) 1200 [.float z, .ref 0, .ref 51, .int (nI i)] [] T0 M1 80 1835) : mm_wp l G (d + 13) k_L_law (mm_pi Q) 358 [.float z, .ref 0, .ref 51, .int (nI i)] [] T0 M 80 1835 := by
  refine mm_aload_1 359 dL_law_358 rfl ?_
  refine mm_sload_0 360 dL_law_359 rfl ?_
  refine mm_iload_3 361 dL_law_360 rfl ?_
  refine mm_iconst 362 1 dL_law_361 rfl (by decide) ?_
  refine mm_iadd 363 dL_law_362 rfl ?_
  refine mm_sloadn 364 (i + 1) dL_law_363 rfl hG (by rw [mm_l1, nI_add]) (by omega) ?_
  refine mm_sload_0 365 dL_law_364 rfl ?_
  refine mm_iload_3 366 dL_law_365 rfl ?_
  refine mm_iconst 367 2 dL_law_366 rfl (by decide) ?_
  refine mm_iadd 368 dL_law_367 rfl ?_
  refine mm_sloadn 369 (i + 2) dL_law_368 rfl hG (by rw [mm_l2, nI_add]) (by omega) ?_
  refine mm_sload_0 370 dL_law_369 rfl ?_
  refine mm_iload_3 371 dL_law_370 rfl ?_
  refine mm_iconst 372 3 dL_law_371 rfl (by decide) ?_
  refine mm_iadd 373 dL_law_372 rfl ?_
  refine mm_sloadn 374 (i + 3) dL_law_373 rfl hG (by rw [mm_l3, nI_add]) (by omega) ?_
  refine mm_sload_0 375 dL_law_374 rfl ?_
  refine mm_iload_3 376 dL_law_375 rfl ?_
  refine mm_iconst 377 4 dL_law_376 rfl (by decide) ?_
  refine mm_iadd 378 dL_law_377 rfl ?_
  refine mm_sloadn 379 (i + 4) dL_law_378 rfl hG (by rw [mm_l4, nI_add]) (by omega) ?_
  refine mm_cV4i 382 dL_law_379 v_L_39 rfl t_0 (by decide) rfl rfl (Nat.le_of_ble_eq_true rfl) ⟨rfl, rfl⟩ ⟨Nat.le_refl _, Nat.le_refl _⟩ (c_X11_wed hi fr.rf (fun r1 M1 e1 X1 => ?_))
  refine mm_aload_2 383 dL_law_382 rfl ?_
  refine mm_sload_0 384 dL_law_383 rfl ?_
  refine mm_iload_3 385 dL_law_384 rfl ?_
  refine mm_iconst 386 1 dL_law_385 rfl (by decide) ?_
  refine mm_iadd 387 dL_law_386 rfl ?_
  refine mm_sloadn 388 (i + 1) dL_law_387 rfl hG (by rw [mm_l1, nI_add]) (by omega) ?_
  refine mm_sload_0 389 dL_law_388 rfl ?_
  refine mm_iload_3 390 dL_law_389 rfl ?_
  refine mm_iconst 391 2 dL_law_390 rfl (by decide) ?_
  refine mm_iadd 392 dL_law_391 rfl ?_
  refine mm_sloadn 393 (i + 2) dL_law_392 rfl hG (by rw [mm_l2, nI_add]) (by omega) ?_
  refine mm_sload_0 394 dL_law_393 rfl ?_
  refine mm_iload_3 395 dL_law_394 rfl ?_
  refine mm_iconst 396 3 dL_law_395 rfl (by decide) ?_
  refine mm_iadd 397 dL_law_396 rfl ?_
  refine mm_sloadn 398 (i + 3) dL_law_397 rfl hG (by rw [mm_l3, nI_add]) (by omega) ?_
  refine mm_sload_0 399 dL_law_398 rfl ?_
  refine mm_iload_3 400 dL_law_399 rfl ?_
  refine mm_iconst 401 4 dL_law_400 rfl (by decide) ?_
  refine mm_iadd 402 dL_law_401 rfl ?_
  refine mm_sloadn 403 (i + 4) dL_law_402 rfl hG (by rw [mm_l4, nI_add]) (by omega) ?_
  refine mm_cV4i 406 dL_law_403 v_L_43 rfl t_51 (by decide) rfl rfl (Nat.le_of_ble_eq_true rfl) ⟨rfl, rfl⟩ ⟨Nat.le_refl _, Nat.le_refl _⟩ (c_X12_wed (m_wed hi _ _ _ _).1 X1 (fun r2 M2 e2 X2 => ?_))
  refine mm_ic_eq 1200 409 dL_law_406 (by decide) rfl (fun h3 => ?_) (fun h3 => absurd (by rw [e1, e2, (m_wed hi _ _ _ _).2.1]) h3)
  exact K _ (X2.toiv (m_wed hi _ _ _ _).2.2)

set_option maxHeartbeats 4000000 in
theorem w_L_7 {l : Launch} {G : mm_G} {d : Nat} {Q : Int32 → mm_T → mm_M → Prop} {z : UInt32} {i : Nat} {M : mm_M} (hi : iv M) (hG : G.len < 2147483648) (hl : i + 6 ≤ G.len) (K : ∀ M1, iv M1 → mm_wp l G (d + 13) k_L_law (mm_pi Q) 1200 [.float z, .ref 0, .ref 51, .int (nI i)] [] T0 M1 80 1835) : mm_wp l G (d + 13) k_L_law (mm_pi Q) 411 [.float z, .ref 0, .ref 51, .int (nI i)] [] T0 M 80 1835 := by
  refine mm_aload_1 412 dL_law_411 rfl ?_
  refine mm_sload_0 413 dL_law_412 rfl ?_
  refine mm_iload_3 414 dL_law_413 rfl ?_
  refine mm_iconst 415 1 dL_law_414 rfl (by decide) ?_
  refine mm_iadd 416 dL_law_415 rfl ?_
  refine mm_sloadn 417 (i + 1) dL_law_416 rfl hG (by rw [mm_l1, nI_add]) (by omega) ?_
  refine mm_sload_0 418 dL_law_417 rfl ?_
  refine mm_iload_3 419 dL_law_418 rfl ?_
  refine mm_iconst 420 2 dL_law_419 rfl (by decide) ?_
  refine mm_iadd 421 dL_law_420 rfl ?_
  refine mm_sloadn 422 (i + 2) dL_law_421 rfl hG (by rw [mm_l2, nI_add]) (by omega) ?_
  refine mm_sload_0 423 dL_law_422 rfl ?_
  refine mm_iload_3 424 dL_law_423 rfl ?_
  refine mm_iconst 425 3 dL_law_424 rfl (by decide) ?_
  refine mm_iadd 426 dL_law_425 rfl ?_
  refine mm_sloadn 427 (i + 3) dL_law_426 rfl hG (by rw [mm_l3, nI_add]) (by omega) ?_
  refine mm_cV3i 430 dL_law_427 v_L_44 rfl t_0 (by decide) rfl rfl (Nat.le_of_ble_eq_true rfl) ⟨rfl, rfl⟩ ⟨Nat.le_refl _, Nat.le_refl _⟩ (c_X11_ends hi fr.rf (fun r1 M1 e1 X1 => ?_))
  refine mm_aload_2 431 dL_law_430 rfl ?_
  refine mm_sload_0 432 dL_law_431 rfl ?_
  refine mm_iload_3 433 dL_law_432 rfl ?_
  refine mm_iconst 434 1 dL_law_433 rfl (by decide) ?_
  refine mm_iadd 435 dL_law_434 rfl ?_
  refine mm_sloadn 436 (i + 1) dL_law_435 rfl hG (by rw [mm_l1, nI_add]) (by omega) ?_
  refine mm_sload_0 437 dL_law_436 rfl ?_
  refine mm_iload_3 438 dL_law_437 rfl ?_
  refine mm_iconst 439 2 dL_law_438 rfl (by decide) ?_
  refine mm_iadd 440 dL_law_439 rfl ?_
  refine mm_sloadn 441 (i + 2) dL_law_440 rfl hG (by rw [mm_l2, nI_add]) (by omega) ?_
  refine mm_sload_0 442 dL_law_441 rfl ?_
  refine mm_iload_3 443 dL_law_442 rfl ?_
  refine mm_iconst 444 3 dL_law_443 rfl (by decide) ?_
  refine mm_iadd 445 dL_law_444 rfl ?_
  refine mm_sloadn 446 (i + 3) dL_law_445 rfl hG (by rw [mm_l3, nI_add]) (by omega) ?_
  refine mm_cV3i 449 dL_law_446 v_L_48 rfl t_51 (by decide) rfl rfl (Nat.le_of_ble_eq_true rfl) ⟨rfl, rfl⟩ ⟨Nat.le_refl _, Nat.le_refl _⟩ (c_X12_ends (m_ends hi _ _ _).1 X1 (fun r2 M2 e2 X2 => ?_))
  refine mm_ic_eq 1200 452 dL_law_449 (by decide) rfl (fun h3 => ?_) (fun h3 => absurd (by rw [e1, e2, (m_ends hi _ _ _).2.1]) h3)
  exact K _ (X2.toiv (m_ends hi _ _ _).2.2)

set_option maxHeartbeats 4000000 in
theorem w_L_8 {l : Launch} {G : mm_G} {d : Nat} {Q : Int32 → mm_T → mm_M → Prop} {z : UInt32} {i : Nat} {M : mm_M} (hi : iv M) (hG : G.len < 2147483648) (hl : i + 6 ≤ G.len) (K : ∀ M1, iv M1 → mm_wp l G (d + 13) k_L_law (mm_pi Q) 1200 [.float z, .ref 0, .ref 51, .int (nI i)] [] T0 M1 80 1835) : mm_wp l G (d + 13) k_L_law (mm_pi Q) 454 [.float z, .ref 0, .ref 51, .int (nI i)] [] T0 M 80 1835 := by
  refine mm_aload_1 455 dL_law_454 rfl ?_
  refine mm_sload_0 456 dL_law_455 rfl ?_
  refine mm_iload_3 457 dL_law_456 rfl ?_
  refine mm_iconst 458 1 dL_law_457 rfl (by decide) ?_
  refine mm_iadd 459 dL_law_458 rfl ?_
  refine mm_sloadn 460 (i + 1) dL_law_459 rfl hG (by rw [mm_l1, nI_add]) (by omega) ?_
  refine mm_sload_0 461 dL_law_460 rfl ?_
  refine mm_iload_3 462 dL_law_461 rfl ?_
  refine mm_iconst 463 2 dL_law_462 rfl (by decide) ?_
  refine mm_iadd 464 dL_law_463 rfl ?_
  refine mm_sloadn 465 (i + 2) dL_law_464 rfl hG (by rw [mm_l2, nI_add]) (by omega) ?_
  refine mm_cV2i 468 dL_law_465 v_L_49 rfl t_0 (by decide) rfl rfl (Nat.le_of_ble_eq_true rfl) ⟨rfl, rfl⟩ ⟨Nat.le_refl _, Nat.le_refl _⟩ (c_X11_read2 hi (fun r1 M1 e1 => ?_))
  refine mm_aload_2 469 dL_law_468 rfl ?_
  refine mm_sload_0 470 dL_law_469 rfl ?_
  refine mm_iload_3 471 dL_law_470 rfl ?_
  refine mm_iconst 472 1 dL_law_471 rfl (by decide) ?_
  refine mm_iadd 473 dL_law_472 rfl ?_
  refine mm_sloadn 474 (i + 1) dL_law_473 rfl hG (by rw [mm_l1, nI_add]) (by omega) ?_
  refine mm_sload_0 475 dL_law_474 rfl ?_
  refine mm_iload_3 476 dL_law_475 rfl ?_
  refine mm_iconst 477 2 dL_law_476 rfl (by decide) ?_
  refine mm_iadd 478 dL_law_477 rfl ?_
  refine mm_sloadn 479 (i + 2) dL_law_478 rfl hG (by rw [mm_l2, nI_add]) (by omega) ?_
  refine mm_cV2i 482 dL_law_479 v_L_52 rfl t_51 (by decide) rfl rfl (Nat.le_of_ble_eq_true rfl) ⟨rfl, rfl⟩ ⟨Nat.le_refl _, Nat.le_refl _⟩ (c_X12_read2 hi e1 (fun M2 v2 => ?_))
  refine mm_ic_eq 1200 485 dL_law_482 (by decide) rfl (fun h1 => ?_) (fun h1 => absurd (rfl) h1)
  exact K _ v2

set_option maxHeartbeats 4000000 in
theorem w_L_9 {l : Launch} {G : mm_G} {d : Nat} {Q : Int32 → mm_T → mm_M → Prop} {z : UInt32} {i : Nat} {M : mm_M} (hi : iv M) (hG : G.len < 2147483648) (hl : i + 6 ≤ G.len) (K : ∀ M1, iv M1 → mm_wp l G (d + 13) k_L_law (mm_pi Q) 1200 [.float z, .ref 0, .ref 51, .int (nI i)] [] T0 M1 80 1835) : mm_wp l G (d + 13) k_L_law (mm_pi Q) 487 [.float z, .ref 0, .ref 51, .int (nI i)] [] T0 M 80 1835 := by
  refine mm_aload_1 488 dL_law_487 rfl ?_
  refine mm_cV0i 491 dL_law_488 v_L_53 rfl t_0 (by decide) rfl rfl (Nat.le_of_ble_eq_true rfl) ⟨rfl, rfl⟩ ⟨Nat.le_refl _, Nat.le_refl _⟩ (c_X11_undo hi fr.rf (fun r1 M1 e1 X1 => ?_))
  refine mm_aload_2 492 dL_law_491 rfl ?_
  refine mm_cV0i 495 dL_law_492 v_L_57 rfl t_51 (by decide) rfl rfl (Nat.le_of_ble_eq_true rfl) ⟨rfl, rfl⟩ ⟨Nat.le_refl _, Nat.le_refl _⟩ (c_X12_undo (m_undo hi).1 X1 (fun r2 M2 e2 X2 => ?_))
  refine mm_ic_eq 1200 498 dL_law_495 (by decide) rfl (fun h3 => ?_) (fun h3 => absurd (by rw [e1, e2, (m_undo hi).2.1]) h3)
  exact K _ (X2.toiv (m_undo hi).2.2)

set_option maxHeartbeats 4000000 in
theorem w_L_10 {l : Launch} {G : mm_G} {d : Nat} {Q : Int32 → mm_T → mm_M → Prop} {z : UInt32} {i : Nat} {M : mm_M} (hi : iv M) (hG : G.len < 2147483648) (hl : i + 6 ≤ G.len) (K : ∀ M1, iv M1 → mm_wp l G (d + 13) k_L_law (mm_pi Q) 1200 [.float z, .ref 0, .ref 51, .int (nI i)] [] T0 M1 80 1835) : mm_wp l G (d + 13) k_L_law (mm_pi Q) 500 [.float z, .ref 0, .ref 51, .int (nI i)] [] T0 M 80 1835 := by
  refine mm_aload_1 501 dL_law_500 rfl ?_
  refine mm_cV0i 504 dL_law_501 v_L_58 rfl t_0 (by decide) rfl rfl (Nat.le_of_ble_eq_true rfl) ⟨rfl, rfl⟩ ⟨Nat.le_refl _, Nat.le_refl _⟩ (c_X11_judged hi fr.rf (fun r1 M1 e1 X1 => ?_))
  refine mm_aload_2 505 dL_law_504 rfl ?_
  refine mm_cV0i 508 dL_law_505 v_L_61 rfl t_51 (by decide) rfl rfl (Nat.le_of_ble_eq_true rfl) ⟨rfl, rfl⟩ ⟨Nat.le_refl _, Nat.le_refl _⟩ (c_X12_judged hi X1 (fun r2 M2 e2 X2 => ?_))
  refine mm_ic_eq 1200 511 dL_law_508 (by decide) rfl (fun h3 => ?_) (fun h3 => absurd (by rw [e1, e2]) h3)
  exact K _ (X2.toiv hi)

set_option maxHeartbeats 4000000 in
theorem w_L_11 {l : Launch} {G : mm_G} {d : Nat} {Q : Int32 → mm_T → mm_M → Prop} {z : UInt32} {i : Nat} {M : mm_M} (hi : iv M) (hG : G.len < 2147483648) (hl : i + 6 ≤ G.len) (K : ∀ M1, iv M1 → mm_wp l G (d + 13) k_L_law (mm_pi Q) 1200 [.float z, .ref 0, .ref 51, .int (nI i)] [] T0 M1 80 1835) : mm_wp l G (d + 13) k_L_law (mm_pi Q) 513 [.float z, .ref 0, .ref 51, .int (nI i)] [] T0 M 80 1835 := by
  refine mm_aload_1 514 dL_law_513 rfl ?_
  refine mm_sload_0 515 dL_law_514 rfl ?_
  refine mm_iload_3 516 dL_law_515 rfl ?_
  refine mm_iconst 517 1 dL_law_516 rfl (by decide) ?_
  refine mm_iadd 518 dL_law_517 rfl ?_
  refine mm_sloadn 519 (i + 1) dL_law_518 rfl hG (by rw [mm_l1, nI_add]) (by omega) ?_
  refine mm_cV1i 522 dL_law_519 v_L_62 rfl t_0 (by decide) rfl rfl (Nat.le_of_ble_eq_true rfl) ⟨rfl, rfl⟩ ⟨Nat.le_refl _, Nat.le_refl _⟩ (c_X11_moved hi fr.rf (fun r1 M1 e1 X1 => ?_))
  refine mm_aload_2 523 dL_law_522 rfl ?_
  refine mm_sload_0 524 dL_law_523 rfl ?_
  refine mm_iload_3 525 dL_law_524 rfl ?_
  refine mm_iconst 526 1 dL_law_525 rfl (by decide) ?_
  refine mm_iadd 527 dL_law_526 rfl ?_
  refine mm_sloadn 528 (i + 1) dL_law_527 rfl hG (by rw [mm_l1, nI_add]) (by omega) ?_
  refine mm_cV1i 531 dL_law_528 v_L_65 rfl t_51 (by decide) rfl rfl (Nat.le_of_ble_eq_true rfl) ⟨rfl, rfl⟩ ⟨Nat.le_refl _, Nat.le_refl _⟩ (c_X12_moved hi X1 (fun r2 M2 e2 X2 => ?_))
  refine mm_ic_eq 1200 534 dL_law_531 (by decide) rfl (fun h3 => ?_) (fun h3 => absurd (by rw [e1, e2]) h3)
  exact K _ (X2.toiv hi)

set_option maxHeartbeats 4000000 in
theorem w_L_12 {l : Launch} {G : mm_G} {d : Nat} {Q : Int32 → mm_T → mm_M → Prop} {z : UInt32} {i : Nat} {M : mm_M} (hi : iv M) (hG : G.len < 2147483648) (hl : i + 6 ≤ G.len) (K : ∀ M1, iv M1 → mm_wp l G (d + 13) k_L_law (mm_pi Q) 1200 [.float z, .ref 0, .ref 51, .int (nI i)] [] T0 M1 80 1835) : mm_wp l G (d + 13) k_L_law (mm_pi Q) 536 [.float z, .ref 0, .ref 51, .int (nI i)] [] T0 M 80 1835 := by
  refine mm_aload_1 537 dL_law_536 rfl ?_
  refine mm_sload_0 538 dL_law_537 rfl ?_
  refine mm_iload_3 539 dL_law_538 rfl ?_
  refine mm_iconst 540 1 dL_law_539 rfl (by decide) ?_
  refine mm_iadd 541 dL_law_540 rfl ?_
  refine mm_sloadn 542 (i + 1) dL_law_541 rfl hG (by rw [mm_l1, nI_add]) (by omega) ?_
  refine mm_sload_0 543 dL_law_542 rfl ?_
  refine mm_iload_3 544 dL_law_543 rfl ?_
  refine mm_iconst 545 2 dL_law_544 rfl (by decide) ?_
  refine mm_iadd 546 dL_law_545 rfl ?_
  refine mm_sloadn 547 (i + 2) dL_law_546 rfl hG (by rw [mm_l2, nI_add]) (by omega) ?_
  refine mm_cV2i 550 dL_law_547 v_L_66 rfl t_0 (by decide) rfl rfl (Nat.le_of_ble_eq_true rfl) ⟨rfl, rfl⟩ ⟨Nat.le_refl _, Nat.le_refl _⟩ (c_X11_width hi fr.rf (fun r1 M1 e1 X1 => ?_))
  refine mm_aload_2 551 dL_law_550 rfl ?_
  refine mm_sload_0 552 dL_law_551 rfl ?_
  refine mm_iload_3 553 dL_law_552 rfl ?_
  refine mm_iconst 554 1 dL_law_553 rfl (by decide) ?_
  refine mm_iadd 555 dL_law_554 rfl ?_
  refine mm_sloadn 556 (i + 1) dL_law_555 rfl hG (by rw [mm_l1, nI_add]) (by omega) ?_
  refine mm_sload_0 557 dL_law_556 rfl ?_
  refine mm_iload_3 558 dL_law_557 rfl ?_
  refine mm_iconst 559 2 dL_law_558 rfl (by decide) ?_
  refine mm_iadd 560 dL_law_559 rfl ?_
  refine mm_sloadn 561 (i + 2) dL_law_560 rfl hG (by rw [mm_l2, nI_add]) (by omega) ?_
  refine mm_cV2i 564 dL_law_561 v_L_69 rfl t_51 (by decide) rfl rfl (Nat.le_of_ble_eq_true rfl) ⟨rfl, rfl⟩ ⟨Nat.le_refl _, Nat.le_refl _⟩ (c_X12_width hi X1 (fun r2 M2 e2 X2 => ?_))
  refine mm_ic_eq 1200 567 dL_law_564 (by decide) rfl (fun h3 => ?_) (fun h3 => absurd (by rw [e1, e2]) h3)
  exact K _ (X2.toiv hi)

set_option maxHeartbeats 4000000 in
theorem w_L_13 {l : Launch} {G : mm_G} {d : Nat} {Q : Int32 → mm_T → mm_M → Prop} {z : UInt32} {i : Nat} {M : mm_M} (hi : iv M) (hG : G.len < 2147483648) (hl : i + 6 ≤ G.len) (K : ∀ M1, iv M1 → mm_wp l G (d + 13) k_L_law (mm_pi Q) 1200 [.float z, .ref 0, .ref 51, .int (nI i)] [] T0 M1 80 1835) : mm_wp l G (d + 13) k_L_law (mm_pi Q) 569 [.float z, .ref 0, .ref 51, .int (nI i)] [] T0 M 80 1835 := by
  refine mm_aload_1 570 dL_law_569 rfl ?_
  refine mm_sload_0 571 dL_law_570 rfl ?_
  refine mm_iload_3 572 dL_law_571 rfl ?_
  refine mm_iconst 573 1 dL_law_572 rfl (by decide) ?_
  refine mm_iadd 574 dL_law_573 rfl ?_
  refine mm_sloadn 575 (i + 1) dL_law_574 rfl hG (by rw [mm_l1, nI_add]) (by omega) ?_
  refine mm_sload_0 576 dL_law_575 rfl ?_
  refine mm_iload_3 577 dL_law_576 rfl ?_
  refine mm_iconst 578 2 dL_law_577 rfl (by decide) ?_
  refine mm_iadd 579 dL_law_578 rfl ?_
  refine mm_sloadn 580 (i + 2) dL_law_579 rfl hG (by rw [mm_l2, nI_add]) (by omega) ?_
  refine mm_sload_0 581 dL_law_580 rfl ?_
  refine mm_iload_3 582 dL_law_581 rfl ?_
  refine mm_iconst 583 3 dL_law_582 rfl (by decide) ?_
  refine mm_iadd 584 dL_law_583 rfl ?_
  refine mm_sloadn 585 (i + 3) dL_law_584 rfl hG (by rw [mm_l3, nI_add]) (by omega) ?_
  refine mm_cV3i 588 dL_law_585 v_L_70 rfl t_0 (by decide) rfl rfl (Nat.le_of_ble_eq_true rfl) ⟨rfl, rfl⟩ ⟨Nat.le_refl _, Nat.le_refl _⟩ (c_X11_state hi fr.rf (fun r1 M1 e1 X1 => ?_))
  refine mm_aload_2 589 dL_law_588 rfl ?_
  refine mm_sload_0 590 dL_law_589 rfl ?_
  refine mm_iload_3 591 dL_law_590 rfl ?_
  refine mm_iconst 592 1 dL_law_591 rfl (by decide) ?_
  refine mm_iadd 593 dL_law_592 rfl ?_
  refine mm_sloadn 594 (i + 1) dL_law_593 rfl hG (by rw [mm_l1, nI_add]) (by omega) ?_
  refine mm_sload_0 595 dL_law_594 rfl ?_
  refine mm_iload_3 596 dL_law_595 rfl ?_
  refine mm_iconst 597 2 dL_law_596 rfl (by decide) ?_
  refine mm_iadd 598 dL_law_597 rfl ?_
  refine mm_sloadn 599 (i + 2) dL_law_598 rfl hG (by rw [mm_l2, nI_add]) (by omega) ?_
  refine mm_sload_0 600 dL_law_599 rfl ?_
  refine mm_iload_3 601 dL_law_600 rfl ?_
  refine mm_iconst 602 3 dL_law_601 rfl (by decide) ?_
  refine mm_iadd 603 dL_law_602 rfl ?_
  refine mm_sloadn 604 (i + 3) dL_law_603 rfl hG (by rw [mm_l3, nI_add]) (by omega) ?_
  refine mm_cV3i 607 dL_law_604 v_L_73 rfl t_51 (by decide) rfl rfl (Nat.le_of_ble_eq_true rfl) ⟨rfl, rfl⟩ ⟨Nat.le_refl _, Nat.le_refl _⟩ (c_X12_state hi X1 (fun r2 M2 e2 X2 => ?_))
  refine mm_ic_eq 1200 610 dL_law_607 (by decide) rfl (fun h3 => ?_) (fun h3 => absurd (by rw [e1, e2]) h3)
  exact K _ (X2.toiv hi)

set_option maxHeartbeats 4000000 in
theorem w_L_14 {l : Launch} {G : mm_G} {d : Nat} {Q : Int32 → mm_T → mm_M → Prop} {z : UInt32} {i : Nat} {M : mm_M} (hi : iv M) (hG : G.len < 2147483648) (hl : i + 6 ≤ G.len) (K : ∀ M1, iv M1 → mm_wp l G (d + 13) k_L_law (mm_pi Q) 1200 [.float z, .ref 0, .ref 51, .int (nI i)] [] T0 M1 80 1835) : mm_wp l G (d + 13) k_L_law (mm_pi Q) 612 [.float z, .ref 0, .ref 51, .int (nI i)] [] T0 M 80 1835 := by
  refine mm_aload_1 613 dL_law_612 rfl ?_
  refine mm_sload_0 614 dL_law_613 rfl ?_
  refine mm_iload_3 615 dL_law_614 rfl ?_
  refine mm_iconst 616 1 dL_law_615 rfl (by decide) ?_
  refine mm_iadd 617 dL_law_616 rfl ?_
  refine mm_sloadn 618 (i + 1) dL_law_617 rfl hG (by rw [mm_l1, nI_add]) (by omega) ?_
  refine mm_cV1i 621 dL_law_618 v_L_74 rfl t_0 (by decide) rfl rfl (Nat.le_of_ble_eq_true rfl) ⟨rfl, rfl⟩ ⟨Nat.le_refl _, Nat.le_refl _⟩ (c_X11_nobody hi fr.rf (fun r1 M1 e1 X1 => ?_))
  refine mm_aload_2 622 dL_law_621 rfl ?_
  refine mm_sload_0 623 dL_law_622 rfl ?_
  refine mm_iload_3 624 dL_law_623 rfl ?_
  refine mm_iconst 625 1 dL_law_624 rfl (by decide) ?_
  refine mm_iadd 626 dL_law_625 rfl ?_
  refine mm_sloadn 627 (i + 1) dL_law_626 rfl hG (by rw [mm_l1, nI_add]) (by omega) ?_
  refine mm_cV1i 630 dL_law_627 v_L_77 rfl t_51 (by decide) rfl rfl (Nat.le_of_ble_eq_true rfl) ⟨rfl, rfl⟩ ⟨Nat.le_refl _, Nat.le_refl _⟩ (c_X12_nobody hi X1 (fun r2 M2 e2 X2 => ?_))
  refine mm_ic_eq 1200 633 dL_law_630 (by decide) rfl (fun h3 => ?_) (fun h3 => absurd (by rw [e1, e2]) h3)
  exact K _ (X2.toiv hi)

set_option maxHeartbeats 4000000 in
theorem w_L_15 {l : Launch} {G : mm_G} {d : Nat} {Q : Int32 → mm_T → mm_M → Prop} {z : UInt32} {i : Nat} {M : mm_M} (hi : iv M) (hG : G.len < 2147483648) (hl : i + 6 ≤ G.len) (K : ∀ M1, iv M1 → mm_wp l G (d + 13) k_L_law (mm_pi Q) 1200 [.float z, .ref 0, .ref 51, .int (nI i)] [] T0 M1 80 1835) : mm_wp l G (d + 13) k_L_law (mm_pi Q) 635 [.float z, .ref 0, .ref 51, .int (nI i)] [] T0 M 80 1835 := by
  refine mm_aload_1 636 dL_law_635 rfl ?_
  refine mm_sload_0 637 dL_law_636 rfl ?_
  refine mm_iload_3 638 dL_law_637 rfl ?_
  refine mm_iconst 639 1 dL_law_638 rfl (by decide) ?_
  refine mm_iadd 640 dL_law_639 rfl ?_
  refine mm_sloadn 641 (i + 1) dL_law_640 rfl hG (by rw [mm_l1, nI_add]) (by omega) ?_
  refine mm_sload_0 642 dL_law_641 rfl ?_
  refine mm_iload_3 643 dL_law_642 rfl ?_
  refine mm_iconst 644 2 dL_law_643 rfl (by decide) ?_
  refine mm_iadd 645 dL_law_644 rfl ?_
  refine mm_sloadn 646 (i + 2) dL_law_645 rfl hG (by rw [mm_l2, nI_add]) (by omega) ?_
  refine mm_cV2i 649 dL_law_646 v_L_78 rfl t_0 (by decide) rfl rfl (Nat.le_of_ble_eq_true rfl) ⟨rfl, rfl⟩ ⟨Nat.le_refl _, Nat.le_refl _⟩ (c_X11_reach hi fr.rf (fun r1 M1 e1 X1 => ?_))
  refine mm_aload_2 650 dL_law_649 rfl ?_
  refine mm_sload_0 651 dL_law_650 rfl ?_
  refine mm_iload_3 652 dL_law_651 rfl ?_
  refine mm_iconst 653 1 dL_law_652 rfl (by decide) ?_
  refine mm_iadd 654 dL_law_653 rfl ?_
  refine mm_sloadn 655 (i + 1) dL_law_654 rfl hG (by rw [mm_l1, nI_add]) (by omega) ?_
  refine mm_sload_0 656 dL_law_655 rfl ?_
  refine mm_iload_3 657 dL_law_656 rfl ?_
  refine mm_iconst 658 2 dL_law_657 rfl (by decide) ?_
  refine mm_iadd 659 dL_law_658 rfl ?_
  refine mm_sloadn 660 (i + 2) dL_law_659 rfl hG (by rw [mm_l2, nI_add]) (by omega) ?_
  refine mm_cV2i 663 dL_law_660 v_L_81 rfl t_51 (by decide) rfl rfl (Nat.le_of_ble_eq_true rfl) ⟨rfl, rfl⟩ ⟨Nat.le_refl _, Nat.le_refl _⟩ (c_X12_reach hi X1 (fun r2 M2 e2 X2 => ?_))
  refine mm_ic_eq 1200 666 dL_law_663 (by decide) rfl (fun h3 => ?_) (fun h3 => absurd (by rw [e1, e2]) h3)
  exact K _ (X2.toiv hi)

set_option maxHeartbeats 4000000 in
theorem w_L_16 {l : Launch} {G : mm_G} {d : Nat} {Q : Int32 → mm_T → mm_M → Prop} {z : UInt32} {i : Nat} {M : mm_M} (hi : iv M) (hG : G.len < 2147483648) (hl : i + 6 ≤ G.len) (K : ∀ M1, iv M1 → mm_wp l G (d + 13) k_L_law (mm_pi Q) 1200 [.float z, .ref 0, .ref 51, .int (nI i)] [] T0 M1 80 1835) : mm_wp l G (d + 13) k_L_law (mm_pi Q) 668 [.float z, .ref 0, .ref 51, .int (nI i)] [] T0 M 80 1835 := by
  refine mm_aload_1 669 dL_law_668 rfl ?_
  refine mm_sload_0 670 dL_law_669 rfl ?_
  refine mm_iload_3 671 dL_law_670 rfl ?_
  refine mm_iconst 672 1 dL_law_671 rfl (by decide) ?_
  refine mm_iadd 673 dL_law_672 rfl ?_
  refine mm_sloadn 674 (i + 1) dL_law_673 rfl hG (by rw [mm_l1, nI_add]) (by omega) ?_
  refine mm_sload_0 675 dL_law_674 rfl ?_
  refine mm_iload_3 676 dL_law_675 rfl ?_
  refine mm_iconst 677 2 dL_law_676 rfl (by decide) ?_
  refine mm_iadd 678 dL_law_677 rfl ?_
  refine mm_sloadn 679 (i + 2) dL_law_678 rfl hG (by rw [mm_l2, nI_add]) (by omega) ?_
  refine mm_cV2i 682 dL_law_679 v_L_82 rfl t_0 (by decide) rfl rfl (Nat.le_of_ble_eq_true rfl) ⟨rfl, rfl⟩ ⟨Nat.le_refl _, Nat.le_refl _⟩ (c_X11_grows hi fr.rf (fun r1 M1 e1 X1 => ?_))
  refine mm_aload_2 683 dL_law_682 rfl ?_
  refine mm_sload_0 684 dL_law_683 rfl ?_
  refine mm_iload_3 685 dL_law_684 rfl ?_
  refine mm_iconst 686 1 dL_law_685 rfl (by decide) ?_
  refine mm_iadd 687 dL_law_686 rfl ?_
  refine mm_sloadn 688 (i + 1) dL_law_687 rfl hG (by rw [mm_l1, nI_add]) (by omega) ?_
  refine mm_sload_0 689 dL_law_688 rfl ?_
  refine mm_iload_3 690 dL_law_689 rfl ?_
  refine mm_iconst 691 2 dL_law_690 rfl (by decide) ?_
  refine mm_iadd 692 dL_law_691 rfl ?_
  refine mm_sloadn 693 (i + 2) dL_law_692 rfl hG (by rw [mm_l2, nI_add]) (by omega) ?_
  refine mm_cV2i 696 dL_law_693 v_L_85 rfl t_51 (by decide) rfl rfl (Nat.le_of_ble_eq_true rfl) ⟨rfl, rfl⟩ ⟨Nat.le_refl _, Nat.le_refl _⟩ (c_X12_grows hi X1 (fun r2 M2 e2 X2 => ?_))
  refine mm_ic_eq 1200 699 dL_law_696 (by decide) rfl (fun h3 => ?_) (fun h3 => absurd (by rw [e1, e2]) h3)
  exact K _ (X2.toiv hi)

set_option maxHeartbeats 4000000 in
theorem w_L_17 {l : Launch} {G : mm_G} {d : Nat} {Q : Int32 → mm_T → mm_M → Prop} {z : UInt32} {i : Nat} {M : mm_M} (hi : iv M) (hG : G.len < 2147483648) (hl : i + 6 ≤ G.len) (K : ∀ M1, iv M1 → mm_wp l G (d + 13) k_L_law (mm_pi Q) 1200 [.float z, .ref 0, .ref 51, .int (nI i)] [] T0 M1 80 1835) : mm_wp l G (d + 13) k_L_law (mm_pi Q) 701 [.float z, .ref 0, .ref 51, .int (nI i)] [] T0 M 80 1835 := by
  refine mm_aload_1 702 dL_law_701 rfl ?_
  refine mm_cV0i 705 dL_law_702 v_L_86 rfl t_0 (by decide) rfl rfl (Nat.le_of_ble_eq_true rfl) ⟨rfl, rfl⟩ ⟨Nat.le_refl _, Nat.le_refl _⟩ (c_X11_leave hi fr.rf (fun r1 M1 e1 X1 => ?_))
  refine mm_aload_2 706 dL_law_705 rfl ?_
  refine mm_cV0i 709 dL_law_706 v_L_89 rfl t_51 (by decide) rfl rfl (Nat.le_of_ble_eq_true rfl) ⟨rfl, rfl⟩ ⟨Nat.le_refl _, Nat.le_refl _⟩ (c_X12_leave hi X1 (fun r2 M2 e2 X2 => ?_))
  refine mm_ic_eq 1200 712 dL_law_709 (by decide) rfl (fun h3 => ?_) (fun h3 => absurd (by rw [e1, e2]) h3)
  exact K _ (X2.toiv hi)

set_option maxHeartbeats 4000000 in
theorem w_L_18 {l : Launch} {G : mm_G} {d : Nat} {Q : Int32 → mm_T → mm_M → Prop} {z : UInt32} {i : Nat} {M : mm_M} (hi : iv M) (hG : G.len < 2147483648) (hl : i + 6 ≤ G.len) (K : ∀ M1, iv M1 → mm_wp l G (d + 13) k_L_law (mm_pi Q) 1200 [.float z, .ref 0, .ref 51, .int (nI i)] [] T0 M1 80 1835) : mm_wp l G (d + 13) k_L_law (mm_pi Q) 714 [.float z, .ref 0, .ref 51, .int (nI i)] [] T0 M 80 1835 := by
  refine mm_aload_1 715 dL_law_714 rfl ?_
  refine mm_sload_0 716 dL_law_715 rfl ?_
  refine mm_iload_3 717 dL_law_716 rfl ?_
  refine mm_iconst 718 1 dL_law_717 rfl (by decide) ?_
  refine mm_iadd 719 dL_law_718 rfl ?_
  refine mm_sloadn 720 (i + 1) dL_law_719 rfl hG (by rw [mm_l1, nI_add]) (by omega) ?_
  refine mm_sload_0 721 dL_law_720 rfl ?_
  refine mm_iload_3 722 dL_law_721 rfl ?_
  refine mm_iconst 723 2 dL_law_722 rfl (by decide) ?_
  refine mm_iadd 724 dL_law_723 rfl ?_
  refine mm_sloadn 725 (i + 2) dL_law_724 rfl hG (by rw [mm_l2, nI_add]) (by omega) ?_
  refine mm_sload_0 726 dL_law_725 rfl ?_
  refine mm_iload_3 727 dL_law_726 rfl ?_
  refine mm_iconst 728 3 dL_law_727 rfl (by decide) ?_
  refine mm_iadd 729 dL_law_728 rfl ?_
  refine mm_sloadn 730 (i + 3) dL_law_729 rfl hG (by rw [mm_l3, nI_add]) (by omega) ?_
  refine mm_cV3i 733 dL_law_730 v_L_90 rfl t_0 (by decide) rfl rfl (Nat.le_of_ble_eq_true rfl) ⟨rfl, rfl⟩ ⟨Nat.le_refl _, Nat.le_refl _⟩ (c_X11_survey hi fr.rf (fun r1 M1 e1 X1 => ?_))
  refine mm_aload_2 734 dL_law_733 rfl ?_
  refine mm_sload_0 735 dL_law_734 rfl ?_
  refine mm_iload_3 736 dL_law_735 rfl ?_
  refine mm_iconst 737 1 dL_law_736 rfl (by decide) ?_
  refine mm_iadd 738 dL_law_737 rfl ?_
  refine mm_sloadn 739 (i + 1) dL_law_738 rfl hG (by rw [mm_l1, nI_add]) (by omega) ?_
  refine mm_sload_0 740 dL_law_739 rfl ?_
  refine mm_iload_3 741 dL_law_740 rfl ?_
  refine mm_iconst 742 2 dL_law_741 rfl (by decide) ?_
  refine mm_iadd 743 dL_law_742 rfl ?_
  refine mm_sloadn 744 (i + 2) dL_law_743 rfl hG (by rw [mm_l2, nI_add]) (by omega) ?_
  refine mm_sload_0 745 dL_law_744 rfl ?_
  refine mm_iload_3 746 dL_law_745 rfl ?_
  refine mm_iconst 747 3 dL_law_746 rfl (by decide) ?_
  refine mm_iadd 748 dL_law_747 rfl ?_
  refine mm_sloadn 749 (i + 3) dL_law_748 rfl hG (by rw [mm_l3, nI_add]) (by omega) ?_
  refine mm_cV3i 752 dL_law_749 v_L_93 rfl t_51 (by decide) rfl rfl (Nat.le_of_ble_eq_true rfl) ⟨rfl, rfl⟩ ⟨Nat.le_refl _, Nat.le_refl _⟩ (c_X12_survey (m_survey hi _ _ _).1 X1 (fun r2 M2 e2 X2 => ?_))
  refine mm_ic_eq 1200 755 dL_law_752 (by decide) rfl (fun h3 => ?_) (fun h3 => absurd (by rw [e1, e2, (m_survey hi _ _ _).2.1]) h3)
  exact K _ (X2.toiv (m_survey hi _ _ _).2.2)

set_option maxHeartbeats 4000000 in
theorem w_L_19 {l : Launch} {G : mm_G} {d : Nat} {Q : Int32 → mm_T → mm_M → Prop} {z : UInt32} {i : Nat} {M : mm_M} (hi : iv M) (hG : G.len < 2147483648) (hl : i + 6 ≤ G.len) (K : ∀ M1, iv M1 → mm_wp l G (d + 13) k_L_law (mm_pi Q) 1200 [.float z, .ref 0, .ref 51, .int (nI i)] [] T0 M1 80 1835) : mm_wp l G (d + 13) k_L_law (mm_pi Q) 757 [.float z, .ref 0, .ref 51, .int (nI i)] [] T0 M 80 1835 := by
  refine mm_aload_1 758 dL_law_757 rfl ?_
  refine mm_cV0i 761 dL_law_758 v_L_94 rfl t_0 (by decide) rfl rfl (Nat.le_of_ble_eq_true rfl) ⟨rfl, rfl⟩ ⟨Nat.le_refl _, Nat.le_refl _⟩ (c_X11_forget hi fr.rf (fun r1 M1 e1 X1 => ?_))
  refine mm_aload_2 762 dL_law_761 rfl ?_
  refine mm_cV0i 765 dL_law_762 v_L_97 rfl t_51 (by decide) rfl rfl (Nat.le_of_ble_eq_true rfl) ⟨rfl, rfl⟩ ⟨Nat.le_refl _, Nat.le_refl _⟩ (c_X12_forget (m_forget hi).1 X1 (fun r2 M2 e2 X2 => ?_))
  refine mm_ic_eq 1200 768 dL_law_765 (by decide) rfl (fun h3 => ?_) (fun h3 => absurd (by rw [e1, e2, (m_forget hi).2.1]) h3)
  exact K _ (X2.toiv (m_forget hi).2.2)

set_option maxHeartbeats 4000000 in
theorem w_L_20 {l : Launch} {G : mm_G} {d : Nat} {Q : Int32 → mm_T → mm_M → Prop} {z : UInt32} {i : Nat} {M : mm_M} (hi : iv M) (hG : G.len < 2147483648) (hl : i + 6 ≤ G.len) (K : ∀ M1, iv M1 → mm_wp l G (d + 13) k_L_law (mm_pi Q) 1200 [.float z, .ref 0, .ref 51, .int (nI i)] [] T0 M1 80 1835) : mm_wp l G (d + 13) k_L_law (mm_pi Q) 770 [.float z, .ref 0, .ref 51, .int (nI i)] [] T0 M 80 1835 := by
  refine mm_aload_1 771 dL_law_770 rfl ?_
  refine mm_sload_0 772 dL_law_771 rfl ?_
  refine mm_iload_3 773 dL_law_772 rfl ?_
  refine mm_iconst 774 1 dL_law_773 rfl (by decide) ?_
  refine mm_iadd 775 dL_law_774 rfl ?_
  refine mm_sloadn 776 (i + 1) dL_law_775 rfl hG (by rw [mm_l1, nI_add]) (by omega) ?_
  refine mm_cV1i 779 dL_law_776 v_L_98 rfl t_0 (by decide) rfl rfl (Nat.le_of_ble_eq_true rfl) ⟨rfl, rfl⟩ ⟨Nat.le_refl _, Nat.le_refl _⟩ (c_X11_forged hi fr.rf (fun r1 M1 e1 X1 => ?_))
  refine mm_aload_2 780 dL_law_779 rfl ?_
  refine mm_sload_0 781 dL_law_780 rfl ?_
  refine mm_iload_3 782 dL_law_781 rfl ?_
  refine mm_iconst 783 1 dL_law_782 rfl (by decide) ?_
  refine mm_iadd 784 dL_law_783 rfl ?_
  refine mm_sloadn 785 (i + 1) dL_law_784 rfl hG (by rw [mm_l1, nI_add]) (by omega) ?_
  refine mm_cV1i 788 dL_law_785 v_L_101 rfl t_51 (by decide) rfl rfl (Nat.le_of_ble_eq_true rfl) ⟨rfl, rfl⟩ ⟨Nat.le_refl _, Nat.le_refl _⟩ (c_X12_forged hi X1 (fun r2 M2 e2 X2 => ?_))
  refine mm_ic_eq 1200 791 dL_law_788 (by decide) rfl (fun h3 => ?_) (fun h3 => absurd (by rw [e1, e2]) h3)
  exact K _ (X2.toiv hi)

set_option maxHeartbeats 4000000 in
theorem w_L_21 {l : Launch} {G : mm_G} {d : Nat} {Q : Int32 → mm_T → mm_M → Prop} {z : UInt32} {i : Nat} {M : mm_M} (hi : iv M) (hG : G.len < 2147483648) (hl : i + 6 ≤ G.len) (K : ∀ M1, iv M1 → mm_wp l G (d + 13) k_L_law (mm_pi Q) 1200 [.float z, .ref 0, .ref 51, .int (nI i)] [] T0 M1 80 1835) : mm_wp l G (d + 13) k_L_law (mm_pi Q) 793 [.float z, .ref 0, .ref 51, .int (nI i)] [] T0 M 80 1835 := by
  refine mm_aload_1 794 dL_law_793 rfl ?_
  refine mm_cV0i 797 dL_law_794 v_L_102 rfl t_0 (by decide) rfl rfl (Nat.le_of_ble_eq_true rfl) ⟨rfl, rfl⟩ ⟨Nat.le_refl _, Nat.le_refl _⟩ (c_X11_unlike hi fr.rf (fun r1 M1 e1 X1 => ?_))
  refine mm_aload_2 798 dL_law_797 rfl ?_
  refine mm_cV0i 801 dL_law_798 v_L_105 rfl t_51 (by decide) rfl rfl (Nat.le_of_ble_eq_true rfl) ⟨rfl, rfl⟩ ⟨Nat.le_refl _, Nat.le_refl _⟩ (c_X12_unlike hi X1 (fun r2 M2 e2 X2 => ?_))
  refine mm_ic_eq 1200 804 dL_law_801 (by decide) rfl (fun h3 => ?_) (fun h3 => absurd (by rw [e1, e2]) h3)
  exact K _ (X2.toiv hi)

set_option maxHeartbeats 4000000 in
theorem w_L_22 {l : Launch} {G : mm_G} {d : Nat} {Q : Int32 → mm_T → mm_M → Prop} {z : UInt32} {i : Nat} {M : mm_M} (hi : iv M) (hG : G.len < 2147483648) (hl : i + 6 ≤ G.len) (K : ∀ M1, iv M1 → mm_wp l G (d + 13) k_L_law (mm_pi Q) 1200 [.float z, .ref 0, .ref 51, .int (nI i)] [] T0 M1 80 1835) : mm_wp l G (d + 13) k_L_law (mm_pi Q) 806 [.float z, .ref 0, .ref 51, .int (nI i)] [] T0 M 80 1835 := by
  refine mm_aload_1 807 dL_law_806 rfl ?_
  refine mm_sload_0 808 dL_law_807 rfl ?_
  refine mm_iload_3 809 dL_law_808 rfl ?_
  refine mm_iconst 810 1 dL_law_809 rfl (by decide) ?_
  refine mm_iadd 811 dL_law_810 rfl ?_
  refine mm_sloadn 812 (i + 1) dL_law_811 rfl hG (by rw [mm_l1, nI_add]) (by omega) ?_
  refine mm_sload_0 813 dL_law_812 rfl ?_
  refine mm_iload_3 814 dL_law_813 rfl ?_
  refine mm_iconst 815 2 dL_law_814 rfl (by decide) ?_
  refine mm_iadd 816 dL_law_815 rfl ?_
  refine mm_sloadn 817 (i + 2) dL_law_816 rfl hG (by rw [mm_l2, nI_add]) (by omega) ?_
  refine mm_cV2i 820 dL_law_817 v_L_106 rfl t_0 (by decide) rfl rfl (Nat.le_of_ble_eq_true rfl) ⟨rfl, rfl⟩ ⟨Nat.le_refl _, Nat.le_refl _⟩ (c_X11_without hi fr.rf (fun r1 M1 e1 X1 => ?_))
  refine mm_aload_2 821 dL_law_820 rfl ?_
  refine mm_sload_0 822 dL_law_821 rfl ?_
  refine mm_iload_3 823 dL_law_822 rfl ?_
  refine mm_iconst 824 1 dL_law_823 rfl (by decide) ?_
  refine mm_iadd 825 dL_law_824 rfl ?_
  refine mm_sloadn 826 (i + 1) dL_law_825 rfl hG (by rw [mm_l1, nI_add]) (by omega) ?_
  refine mm_sload_0 827 dL_law_826 rfl ?_
  refine mm_iload_3 828 dL_law_827 rfl ?_
  refine mm_iconst 829 2 dL_law_828 rfl (by decide) ?_
  refine mm_iadd 830 dL_law_829 rfl ?_
  refine mm_sloadn 831 (i + 2) dL_law_830 rfl hG (by rw [mm_l2, nI_add]) (by omega) ?_
  refine mm_cV2i 834 dL_law_831 v_L_109 rfl t_51 (by decide) rfl rfl (Nat.le_of_ble_eq_true rfl) ⟨rfl, rfl⟩ ⟨Nat.le_refl _, Nat.le_refl _⟩ (c_X12_without hi X1 (fun r2 M2 e2 X2 => ?_))
  refine mm_ic_eq 1200 837 dL_law_834 (by decide) rfl (fun h3 => ?_) (fun h3 => absurd (by rw [e1, e2]) h3)
  exact K _ (X2.toiv hi)

set_option maxHeartbeats 4000000 in
theorem w_L_23 {l : Launch} {G : mm_G} {d : Nat} {Q : Int32 → mm_T → mm_M → Prop} {z : UInt32} {i : Nat} {M : mm_M} (hi : iv M) (hG : G.len < 2147483648) (hl : i + 6 ≤ G.len) (K : ∀ M1, iv M1 → mm_wp l G (d + 13) k_L_law (mm_pi Q) 1200 [.float z, .ref 0, .ref 51, .int (nI i)] [] T0 M1 80 1835) : mm_wp l G (d + 13) k_L_law (mm_pi Q) 839 [.float z, .ref 0, .ref 51, .int (nI i)] [] T0 M 80 1835 := by
  refine mm_aload_1 840 dL_law_839 rfl ?_
  refine mm_sload_0 841 dL_law_840 rfl ?_
  refine mm_iload_3 842 dL_law_841 rfl ?_
  refine mm_iconst 843 1 dL_law_842 rfl (by decide) ?_
  refine mm_iadd 844 dL_law_843 rfl ?_
  refine mm_sloadn 845 (i + 1) dL_law_844 rfl hG (by rw [mm_l1, nI_add]) (by omega) ?_
  refine mm_cV1i 848 dL_law_845 v_L_110 rfl t_0 (by decide) rfl rfl (Nat.le_of_ble_eq_true rfl) ⟨rfl, rfl⟩ ⟨Nat.le_refl _, Nat.le_refl _⟩ (c_X11_blame hi fr.rf (fun r1 M1 e1 X1 => ?_))
  refine mm_aload_2 849 dL_law_848 rfl ?_
  refine mm_sload_0 850 dL_law_849 rfl ?_
  refine mm_iload_3 851 dL_law_850 rfl ?_
  refine mm_iconst 852 1 dL_law_851 rfl (by decide) ?_
  refine mm_iadd 853 dL_law_852 rfl ?_
  refine mm_sloadn 854 (i + 1) dL_law_853 rfl hG (by rw [mm_l1, nI_add]) (by omega) ?_
  refine mm_cV1i 857 dL_law_854 v_L_113 rfl t_51 (by decide) rfl rfl (Nat.le_of_ble_eq_true rfl) ⟨rfl, rfl⟩ ⟨Nat.le_refl _, Nat.le_refl _⟩ (c_X12_blame hi X1 (fun r2 M2 e2 X2 => ?_))
  refine mm_ic_eq 1200 860 dL_law_857 (by decide) rfl (fun h3 => ?_) (fun h3 => absurd (by rw [e1, e2]) h3)
  exact K _ (X2.toiv hi)

set_option maxHeartbeats 4000000 in
theorem w_L_24 {l : Launch} {G : mm_G} {d : Nat} {Q : Int32 → mm_T → mm_M → Prop} {z : UInt32} {i : Nat} {M : mm_M} (hi : iv M) (hG : G.len < 2147483648) (hl : i + 6 ≤ G.len) (K : ∀ M1, iv M1 → mm_wp l G (d + 13) k_L_law (mm_pi Q) 1200 [.float z, .ref 0, .ref 51, .int (nI i)] [] T0 M1 80 1835) : mm_wp l G (d + 13) k_L_law (mm_pi Q) 862 [.float z, .ref 0, .ref 51, .int (nI i)] [] T0 M 80 1835 := by
  refine mm_aload_1 863 dL_law_862 rfl ?_
  refine mm_sload_0 864 dL_law_863 rfl ?_
  refine mm_iload_3 865 dL_law_864 rfl ?_
  refine mm_iconst 866 1 dL_law_865 rfl (by decide) ?_
  refine mm_iadd 867 dL_law_866 rfl ?_
  refine mm_sloadn 868 (i + 1) dL_law_867 rfl hG (by rw [mm_l1, nI_add]) (by omega) ?_
  refine mm_sload_0 869 dL_law_868 rfl ?_
  refine mm_iload_3 870 dL_law_869 rfl ?_
  refine mm_iconst 871 2 dL_law_870 rfl (by decide) ?_
  refine mm_iadd 872 dL_law_871 rfl ?_
  refine mm_sloadn 873 (i + 2) dL_law_872 rfl hG (by rw [mm_l2, nI_add]) (by omega) ?_
  refine mm_sload_0 874 dL_law_873 rfl ?_
  refine mm_iload_3 875 dL_law_874 rfl ?_
  refine mm_iconst 876 3 dL_law_875 rfl (by decide) ?_
  refine mm_iadd 877 dL_law_876 rfl ?_
  refine mm_sloadn 878 (i + 3) dL_law_877 rfl hG (by rw [mm_l3, nI_add]) (by omega) ?_
  refine mm_cV3i 881 dL_law_878 v_L_114 rfl t_0 (by decide) rfl rfl (Nat.le_of_ble_eq_true rfl) ⟨rfl, rfl⟩ ⟨Nat.le_refl _, Nat.le_refl _⟩ (c_X11_lords hi fr.rf (fun r1 M1 e1 X1 => ?_))
  refine mm_aload_2 882 dL_law_881 rfl ?_
  refine mm_sload_0 883 dL_law_882 rfl ?_
  refine mm_iload_3 884 dL_law_883 rfl ?_
  refine mm_iconst 885 1 dL_law_884 rfl (by decide) ?_
  refine mm_iadd 886 dL_law_885 rfl ?_
  refine mm_sloadn 887 (i + 1) dL_law_886 rfl hG (by rw [mm_l1, nI_add]) (by omega) ?_
  refine mm_sload_0 888 dL_law_887 rfl ?_
  refine mm_iload_3 889 dL_law_888 rfl ?_
  refine mm_iconst 890 2 dL_law_889 rfl (by decide) ?_
  refine mm_iadd 891 dL_law_890 rfl ?_
  refine mm_sloadn 892 (i + 2) dL_law_891 rfl hG (by rw [mm_l2, nI_add]) (by omega) ?_
  refine mm_sload_0 893 dL_law_892 rfl ?_
  refine mm_iload_3 894 dL_law_893 rfl ?_
  refine mm_iconst 895 3 dL_law_894 rfl (by decide) ?_
  refine mm_iadd 896 dL_law_895 rfl ?_
  refine mm_sloadn 897 (i + 3) dL_law_896 rfl hG (by rw [mm_l3, nI_add]) (by omega) ?_
  refine mm_cV3i 900 dL_law_897 v_L_117 rfl t_51 (by decide) rfl rfl (Nat.le_of_ble_eq_true rfl) ⟨rfl, rfl⟩ ⟨Nat.le_refl _, Nat.le_refl _⟩ (c_X12_lords hi X1 (fun r2 M2 e2 X2 => ?_))
  refine mm_ic_eq 1200 903 dL_law_900 (by decide) rfl (fun h3 => ?_) (fun h3 => absurd (by rw [e1, e2]) h3)
  exact K _ (X2.toiv hi)

set_option maxHeartbeats 4000000 in
theorem w_L_25 {l : Launch} {G : mm_G} {d : Nat} {Q : Int32 → mm_T → mm_M → Prop} {z : UInt32} {i : Nat} {M : mm_M} (hi : iv M) (hG : G.len < 2147483648) (hl : i + 6 ≤ G.len) (K : ∀ M1, iv M1 → mm_wp l G (d + 13) k_L_law (mm_pi Q) 1200 [.float z, .ref 0, .ref 51, .int (nI i)] [] T0 M1 80 1835) : mm_wp l G (d + 13) k_L_law (mm_pi Q) 905 [.float z, .ref 0, .ref 51, .int (nI i)] [] T0 M 80 1835 := by
  refine mm_aload_1 906 dL_law_905 rfl ?_
  refine mm_sload_0 907 dL_law_906 rfl ?_
  refine mm_iload_3 908 dL_law_907 rfl ?_
  refine mm_iconst 909 1 dL_law_908 rfl (by decide) ?_
  refine mm_iadd 910 dL_law_909 rfl ?_
  refine mm_sloadn 911 (i + 1) dL_law_910 rfl hG (by rw [mm_l1, nI_add]) (by omega) ?_
  refine mm_sload_0 912 dL_law_911 rfl ?_
  refine mm_iload_3 913 dL_law_912 rfl ?_
  refine mm_iconst 914 2 dL_law_913 rfl (by decide) ?_
  refine mm_iadd 915 dL_law_914 rfl ?_
  refine mm_sloadn 916 (i + 2) dL_law_915 rfl hG (by rw [mm_l2, nI_add]) (by omega) ?_
  refine mm_sload_0 917 dL_law_916 rfl ?_
  refine mm_iload_3 918 dL_law_917 rfl ?_
  refine mm_iconst 919 3 dL_law_918 rfl (by decide) ?_
  refine mm_iadd 920 dL_law_919 rfl ?_
  refine mm_sloadn 921 (i + 3) dL_law_920 rfl hG (by rw [mm_l3, nI_add]) (by omega) ?_
  refine mm_cV3i 924 dL_law_921 v_L_118 rfl t_0 (by decide) rfl rfl (Nat.le_of_ble_eq_true rfl) ⟨rfl, rfl⟩ ⟨Nat.le_refl _, Nat.le_refl _⟩ (c_X11_sheet hi fr.rf (fun r1 M1 e1 X1 => ?_))
  refine mm_aload_2 925 dL_law_924 rfl ?_
  refine mm_sload_0 926 dL_law_925 rfl ?_
  refine mm_iload_3 927 dL_law_926 rfl ?_
  refine mm_iconst 928 1 dL_law_927 rfl (by decide) ?_
  refine mm_iadd 929 dL_law_928 rfl ?_
  refine mm_sloadn 930 (i + 1) dL_law_929 rfl hG (by rw [mm_l1, nI_add]) (by omega) ?_
  refine mm_sload_0 931 dL_law_930 rfl ?_
  refine mm_iload_3 932 dL_law_931 rfl ?_
  refine mm_iconst 933 2 dL_law_932 rfl (by decide) ?_
  refine mm_iadd 934 dL_law_933 rfl ?_
  refine mm_sloadn 935 (i + 2) dL_law_934 rfl hG (by rw [mm_l2, nI_add]) (by omega) ?_
  refine mm_sload_0 936 dL_law_935 rfl ?_
  refine mm_iload_3 937 dL_law_936 rfl ?_
  refine mm_iconst 938 3 dL_law_937 rfl (by decide) ?_
  refine mm_iadd 939 dL_law_938 rfl ?_
  refine mm_sloadn 940 (i + 3) dL_law_939 rfl hG (by rw [mm_l3, nI_add]) (by omega) ?_
  refine mm_cV3i 943 dL_law_940 v_L_121 rfl t_51 (by decide) rfl rfl (Nat.le_of_ble_eq_true rfl) ⟨rfl, rfl⟩ ⟨Nat.le_refl _, Nat.le_refl _⟩ (c_X12_sheet (m_sheet hi _ _ _).1 X1 (fun r2 M2 e2 X2 => ?_))
  refine mm_ic_eq 1200 946 dL_law_943 (by decide) rfl (fun h3 => ?_) (fun h3 => absurd (by rw [e1, e2]) h3)
  exact K _ (X2.toiv (m_sheet hi _ _ _).2)

set_option maxHeartbeats 4000000 in
theorem w_L_26 {l : Launch} {G : mm_G} {d : Nat} {Q : Int32 → mm_T → mm_M → Prop} {z : UInt32} {i : Nat} {M : mm_M} (hi : iv M) (hG : G.len < 2147483648) (hl : i + 6 ≤ G.len) (K : ∀ M1, iv M1 → mm_wp l G (d + 13) k_L_law (mm_pi Q) 1200 [.float z, .ref 0, .ref 51, .int (nI i)] [] T0 M1 80 1835) : mm_wp l G (d + 13) k_L_law (mm_pi Q) 948 [.float z, .ref 0, .ref 51, .int (nI i)] [] T0 M 80 1835 := by
  refine mm_aload_1 949 dL_law_948 rfl ?_
  refine mm_sload_0 950 dL_law_949 rfl ?_
  refine mm_iload_3 951 dL_law_950 rfl ?_
  refine mm_iconst 952 1 dL_law_951 rfl (by decide) ?_
  refine mm_iadd 953 dL_law_952 rfl ?_
  refine mm_sloadn 954 (i + 1) dL_law_953 rfl hG (by rw [mm_l1, nI_add]) (by omega) ?_
  refine mm_cV1i 957 dL_law_954 v_L_122 rfl t_0 (by decide) rfl rfl (Nat.le_of_ble_eq_true rfl) ⟨rfl, rfl⟩ ⟨Nat.le_refl _, Nat.le_refl _⟩ (c_X11_lose hi fr.rf (fun r1 M1 e1 X1 => ?_))
  refine mm_aload_2 958 dL_law_957 rfl ?_
  refine mm_sload_0 959 dL_law_958 rfl ?_
  refine mm_iload_3 960 dL_law_959 rfl ?_
  refine mm_iconst 961 1 dL_law_960 rfl (by decide) ?_
  refine mm_iadd 962 dL_law_961 rfl ?_
  refine mm_sloadn 963 (i + 1) dL_law_962 rfl hG (by rw [mm_l1, nI_add]) (by omega) ?_
  refine mm_cV1i 966 dL_law_963 v_L_125 rfl t_51 (by decide) rfl rfl (Nat.le_of_ble_eq_true rfl) ⟨rfl, rfl⟩ ⟨Nat.le_refl _, Nat.le_refl _⟩ (c_X12_lose (m_lose hi _).1 X1 (fun r2 M2 e2 X2 => ?_))
  refine mm_ic_eq 1200 969 dL_law_966 (by decide) rfl (fun h3 => ?_) (fun h3 => absurd (by rw [e1, e2, (m_lose hi _).2.1]) h3)
  exact K _ (X2.toiv (m_lose hi _).2.2)

set_option maxHeartbeats 4000000 in
theorem w_L_27 {l : Launch} {G : mm_G} {d : Nat} {Q : Int32 → mm_T → mm_M → Prop} {z : UInt32} {i : Nat} {M : mm_M} (hi : iv M) (hG : G.len < 2147483648) (hl : i + 6 ≤ G.len) (K : ∀ M1, iv M1 → mm_wp l G (d + 13) k_L_law (mm_pi Q) 1200 [.float z, .ref 0, .ref 51, .int (nI i)] [] T0 M1 80 1835) : mm_wp l G (d + 13) k_L_law (mm_pi Q) 971 [.float z, .ref 0, .ref 51, .int (nI i)] [] T0 M 80 1835 := by
  refine mm_aload_1 972 dL_law_971 rfl ?_
  refine mm_sload_0 973 dL_law_972 rfl ?_
  refine mm_iload_3 974 dL_law_973 rfl ?_
  refine mm_iconst 975 1 dL_law_974 rfl (by decide) ?_
  refine mm_iadd 976 dL_law_975 rfl ?_
  refine mm_sloadn 977 (i + 1) dL_law_976 rfl hG (by rw [mm_l1, nI_add]) (by omega) ?_
  refine mm_sload_0 978 dL_law_977 rfl ?_
  refine mm_iload_3 979 dL_law_978 rfl ?_
  refine mm_iconst 980 2 dL_law_979 rfl (by decide) ?_
  refine mm_iadd 981 dL_law_980 rfl ?_
  refine mm_sloadn 982 (i + 2) dL_law_981 rfl hG (by rw [mm_l2, nI_add]) (by omega) ?_
  refine mm_sload_0 983 dL_law_982 rfl ?_
  refine mm_iload_3 984 dL_law_983 rfl ?_
  refine mm_iconst 985 3 dL_law_984 rfl (by decide) ?_
  refine mm_iadd 986 dL_law_985 rfl ?_
  refine mm_sloadn 987 (i + 3) dL_law_986 rfl hG (by rw [mm_l3, nI_add]) (by omega) ?_
  refine mm_sload_0 988 dL_law_987 rfl ?_
  refine mm_iload_3 989 dL_law_988 rfl ?_
  refine mm_iconst 990 4 dL_law_989 rfl (by decide) ?_
  refine mm_iadd 991 dL_law_990 rfl ?_
  refine mm_sloadn 992 (i + 4) dL_law_991 rfl hG (by rw [mm_l4, nI_add]) (by omega) ?_
  refine mm_cV4i 995 dL_law_992 v_L_126 rfl t_0 (by decide) rfl rfl (Nat.le_of_ble_eq_true rfl) ⟨rfl, rfl⟩ ⟨Nat.le_refl _, Nat.le_refl _⟩ (c_X11_lay hi fr.rf (fun r1 M1 e1 X1 => ?_))
  refine mm_aload_2 996 dL_law_995 rfl ?_
  refine mm_sload_0 997 dL_law_996 rfl ?_
  refine mm_iload_3 998 dL_law_997 rfl ?_
  refine mm_iconst 999 1 dL_law_998 rfl (by decide) ?_
  refine mm_iadd 1000 dL_law_999 rfl ?_
  refine mm_sloadn 1001 (i + 1) dL_law_1000 rfl hG (by rw [mm_l1, nI_add]) (by omega) ?_
  refine mm_sload_0 1002 dL_law_1001 rfl ?_
  refine mm_iload_3 1003 dL_law_1002 rfl ?_
  refine mm_iconst 1004 2 dL_law_1003 rfl (by decide) ?_
  refine mm_iadd 1005 dL_law_1004 rfl ?_
  refine mm_sloadn 1006 (i + 2) dL_law_1005 rfl hG (by rw [mm_l2, nI_add]) (by omega) ?_
  refine mm_sload_0 1007 dL_law_1006 rfl ?_
  refine mm_iload_3 1008 dL_law_1007 rfl ?_
  refine mm_iconst 1009 3 dL_law_1008 rfl (by decide) ?_
  refine mm_iadd 1010 dL_law_1009 rfl ?_
  refine mm_sloadn 1011 (i + 3) dL_law_1010 rfl hG (by rw [mm_l3, nI_add]) (by omega) ?_
  refine mm_sload_0 1012 dL_law_1011 rfl ?_
  refine mm_iload_3 1013 dL_law_1012 rfl ?_
  refine mm_iconst 1014 4 dL_law_1013 rfl (by decide) ?_
  refine mm_iadd 1015 dL_law_1014 rfl ?_
  refine mm_sloadn 1016 (i + 4) dL_law_1015 rfl hG (by rw [mm_l4, nI_add]) (by omega) ?_
  refine mm_cV4i 1019 dL_law_1016 v_L_129 rfl t_51 (by decide) rfl rfl (Nat.le_of_ble_eq_true rfl) ⟨rfl, rfl⟩ ⟨Nat.le_refl _, Nat.le_refl _⟩ (c_X12_lay (m_lay hi _ _ _ _).1 X1 (fun r2 M2 e2 X2 => ?_))
  refine mm_ic_eq 1200 1022 dL_law_1019 (by decide) rfl (fun h3 => ?_) (fun h3 => absurd (by rw [e1, e2, (m_lay hi _ _ _ _).2.1]) h3)
  exact K _ (X2.toiv (m_lay hi _ _ _ _).2.2)

set_option maxHeartbeats 4000000 in
theorem w_L_28 {l : Launch} {G : mm_G} {d : Nat} {Q : Int32 → mm_T → mm_M → Prop} {z : UInt32} {i : Nat} {M : mm_M} (hi : iv M) (hG : G.len < 2147483648) (hl : i + 6 ≤ G.len) (K : ∀ M1, iv M1 → mm_wp l G (d + 13) k_L_law (mm_pi Q) 1200 [.float z, .ref 0, .ref 51, .int (nI i)] [] T0 M1 80 1835) : mm_wp l G (d + 13) k_L_law (mm_pi Q) 1024 [.float z, .ref 0, .ref 51, .int (nI i)] [] T0 M 80 1835 := by
  refine mm_aload_1 1025 dL_law_1024 rfl ?_
  refine mm_sload_0 1026 dL_law_1025 rfl ?_
  refine mm_iload_3 1027 dL_law_1026 rfl ?_
  refine mm_iconst 1028 1 dL_law_1027 rfl (by decide) ?_
  refine mm_iadd 1029 dL_law_1028 rfl ?_
  refine mm_sloadn 1030 (i + 1) dL_law_1029 rfl hG (by rw [mm_l1, nI_add]) (by omega) ?_
  refine mm_sload_0 1031 dL_law_1030 rfl ?_
  refine mm_iload_3 1032 dL_law_1031 rfl ?_
  refine mm_iconst 1033 2 dL_law_1032 rfl (by decide) ?_
  refine mm_iadd 1034 dL_law_1033 rfl ?_
  refine mm_sloadn 1035 (i + 2) dL_law_1034 rfl hG (by rw [mm_l2, nI_add]) (by omega) ?_
  refine mm_sload_0 1036 dL_law_1035 rfl ?_
  refine mm_iload_3 1037 dL_law_1036 rfl ?_
  refine mm_iconst 1038 3 dL_law_1037 rfl (by decide) ?_
  refine mm_iadd 1039 dL_law_1038 rfl ?_
  refine mm_sloadn 1040 (i + 3) dL_law_1039 rfl hG (by rw [mm_l3, nI_add]) (by omega) ?_
  refine mm_cV3i 1043 dL_law_1040 v_L_130 rfl t_0 (by decide) rfl rfl (Nat.le_of_ble_eq_true rfl) ⟨rfl, rfl⟩ ⟨Nat.le_refl _, Nat.le_refl _⟩ (c_X11_get hi fr.rf (fun r1 M1 e1 X1 => ?_))
  refine mm_aload_2 1044 dL_law_1043 rfl ?_
  refine mm_sload_0 1045 dL_law_1044 rfl ?_
  refine mm_iload_3 1046 dL_law_1045 rfl ?_
  refine mm_iconst 1047 1 dL_law_1046 rfl (by decide) ?_
  refine mm_iadd 1048 dL_law_1047 rfl ?_
  refine mm_sloadn 1049 (i + 1) dL_law_1048 rfl hG (by rw [mm_l1, nI_add]) (by omega) ?_
  refine mm_sload_0 1050 dL_law_1049 rfl ?_
  refine mm_iload_3 1051 dL_law_1050 rfl ?_
  refine mm_iconst 1052 2 dL_law_1051 rfl (by decide) ?_
  refine mm_iadd 1053 dL_law_1052 rfl ?_
  refine mm_sloadn 1054 (i + 2) dL_law_1053 rfl hG (by rw [mm_l2, nI_add]) (by omega) ?_
  refine mm_sload_0 1055 dL_law_1054 rfl ?_
  refine mm_iload_3 1056 dL_law_1055 rfl ?_
  refine mm_iconst 1057 3 dL_law_1056 rfl (by decide) ?_
  refine mm_iadd 1058 dL_law_1057 rfl ?_
  refine mm_sloadn 1059 (i + 3) dL_law_1058 rfl hG (by rw [mm_l3, nI_add]) (by omega) ?_
  refine mm_cV3i 1062 dL_law_1059 v_L_133 rfl t_51 (by decide) rfl rfl (Nat.le_of_ble_eq_true rfl) ⟨rfl, rfl⟩ ⟨Nat.le_refl _, Nat.le_refl _⟩ (c_X12_get (m_get hi _ _ _).1 X1 (fun r2 M2 e2 X2 => ?_))
  refine mm_ic_eq 1200 1065 dL_law_1062 (by decide) rfl (fun h3 => ?_) (fun h3 => absurd (by rw [e1, e2, (m_get hi _ _ _).2.1]) h3)
  exact K _ (X2.toiv (m_get hi _ _ _).2.2)

set_option maxHeartbeats 4000000 in
theorem w_L_29 {l : Launch} {G : mm_G} {d : Nat} {Q : Int32 → mm_T → mm_M → Prop} {z : UInt32} {i : Nat} {M : mm_M} (hi : iv M) (hG : G.len < 2147483648) (hl : i + 6 ≤ G.len) (K : ∀ M1, iv M1 → mm_wp l G (d + 13) k_L_law (mm_pi Q) 1200 [.float z, .ref 0, .ref 51, .int (nI i)] [] T0 M1 80 1835) : mm_wp l G (d + 13) k_L_law (mm_pi Q) 1067 [.float z, .ref 0, .ref 51, .int (nI i)] [] T0 M 80 1835 := by
  refine mm_aload_1 1068 dL_law_1067 rfl ?_
  refine mm_sload_0 1069 dL_law_1068 rfl ?_
  refine mm_iload_3 1070 dL_law_1069 rfl ?_
  refine mm_iconst 1071 1 dL_law_1070 rfl (by decide) ?_
  refine mm_iadd 1072 dL_law_1071 rfl ?_
  refine mm_sloadn 1073 (i + 1) dL_law_1072 rfl hG (by rw [mm_l1, nI_add]) (by omega) ?_
  refine mm_sload_0 1074 dL_law_1073 rfl ?_
  refine mm_iload_3 1075 dL_law_1074 rfl ?_
  refine mm_iconst 1076 2 dL_law_1075 rfl (by decide) ?_
  refine mm_iadd 1077 dL_law_1076 rfl ?_
  refine mm_sloadn 1078 (i + 2) dL_law_1077 rfl hG (by rw [mm_l2, nI_add]) (by omega) ?_
  refine mm_sload_0 1079 dL_law_1078 rfl ?_
  refine mm_iload_3 1080 dL_law_1079 rfl ?_
  refine mm_iconst 1081 3 dL_law_1080 rfl (by decide) ?_
  refine mm_iadd 1082 dL_law_1081 rfl ?_
  refine mm_sloadn 1083 (i + 3) dL_law_1082 rfl hG (by rw [mm_l3, nI_add]) (by omega) ?_
  refine mm_sload_0 1084 dL_law_1083 rfl ?_
  refine mm_iload_3 1085 dL_law_1084 rfl ?_
  refine mm_iconst 1086 4 dL_law_1085 rfl (by decide) ?_
  refine mm_iadd 1087 dL_law_1086 rfl ?_
  refine mm_sloadn 1088 (i + 4) dL_law_1087 rfl hG (by rw [mm_l4, nI_add]) (by omega) ?_
  refine mm_sload_0 1089 dL_law_1088 rfl ?_
  refine mm_iload_3 1090 dL_law_1089 rfl ?_
  refine mm_iconst 1091 5 dL_law_1090 rfl (by decide) ?_
  refine mm_iadd 1092 dL_law_1091 rfl ?_
  refine mm_sloadn 1093 (i + 5) dL_law_1092 rfl hG (by rw [mm_l5, nI_add]) (by omega) ?_
  refine mm_cV5i 1096 dL_law_1093 v_L_134 rfl t_0 (by decide) rfl rfl (Nat.le_of_ble_eq_true rfl) ⟨rfl, rfl⟩ ⟨Nat.le_refl _, Nat.le_refl _⟩ (c_X11_copy hi fr.rf (fun r1 M1 e1 X1 => ?_))
  refine mm_aload_2 1097 dL_law_1096 rfl ?_
  refine mm_sload_0 1098 dL_law_1097 rfl ?_
  refine mm_iload_3 1099 dL_law_1098 rfl ?_
  refine mm_iconst 1100 1 dL_law_1099 rfl (by decide) ?_
  refine mm_iadd 1101 dL_law_1100 rfl ?_
  refine mm_sloadn 1102 (i + 1) dL_law_1101 rfl hG (by rw [mm_l1, nI_add]) (by omega) ?_
  refine mm_sload_0 1103 dL_law_1102 rfl ?_
  refine mm_iload_3 1104 dL_law_1103 rfl ?_
  refine mm_iconst 1105 2 dL_law_1104 rfl (by decide) ?_
  refine mm_iadd 1106 dL_law_1105 rfl ?_
  refine mm_sloadn 1107 (i + 2) dL_law_1106 rfl hG (by rw [mm_l2, nI_add]) (by omega) ?_
  refine mm_sload_0 1108 dL_law_1107 rfl ?_
  refine mm_iload_3 1109 dL_law_1108 rfl ?_
  refine mm_iconst 1110 3 dL_law_1109 rfl (by decide) ?_
  refine mm_iadd 1111 dL_law_1110 rfl ?_
  refine mm_sloadn 1112 (i + 3) dL_law_1111 rfl hG (by rw [mm_l3, nI_add]) (by omega) ?_
  refine mm_sload_0 1113 dL_law_1112 rfl ?_
  refine mm_iload_3 1114 dL_law_1113 rfl ?_
  refine mm_iconst 1115 4 dL_law_1114 rfl (by decide) ?_
  refine mm_iadd 1116 dL_law_1115 rfl ?_
  refine mm_sloadn 1117 (i + 4) dL_law_1116 rfl hG (by rw [mm_l4, nI_add]) (by omega) ?_
  refine mm_sload_0 1118 dL_law_1117 rfl ?_
  refine mm_iload_3 1119 dL_law_1118 rfl ?_
  refine mm_iconst 1120 5 dL_law_1119 rfl (by decide) ?_
  refine mm_iadd 1121 dL_law_1120 rfl ?_
  refine mm_sloadn 1122 (i + 5) dL_law_1121 rfl hG (by rw [mm_l5, nI_add]) (by omega) ?_
  refine mm_cV5i 1125 dL_law_1122 v_L_138 rfl t_51 (by decide) rfl rfl (Nat.le_of_ble_eq_true rfl) ⟨rfl, rfl⟩ ⟨Nat.le_refl _, Nat.le_refl _⟩ (c_X12_copy (m_copy hi _ _ _ _ _).1 X1 (fun r2 M2 e2 X2 => ?_))
  refine mm_ic_eq 1200 1128 dL_law_1125 (by decide) rfl (fun h3 => ?_) (fun h3 => absurd (by rw [e1, e2, (m_copy hi _ _ _ _ _).2.1]) h3)
  exact K _ (X2.toiv (m_copy hi _ _ _ _ _).2.2)

set_option maxHeartbeats 4000000 in
theorem w_L_30 {l : Launch} {G : mm_G} {d : Nat} {Q : Int32 → mm_T → mm_M → Prop} {z : UInt32} {i : Nat} {M : mm_M} (hi : iv M) (hG : G.len < 2147483648) (hl : i + 6 ≤ G.len) (K : ∀ M1, iv M1 → mm_wp l G (d + 13) k_L_law (mm_pi Q) 1200 [.float z, .ref 0, .ref 51, .int (nI i)] [] T0 M1 80 1835) : mm_wp l G (d + 13) k_L_law (mm_pi Q) 1130 [.float z, .ref 0, .ref 51, .int (nI i)] [] T0 M 80 1835 := by
  refine mm_aload_1 1131 dL_law_1130 rfl ?_
  refine mm_sload_0 1132 dL_law_1131 rfl ?_
  refine mm_iload_3 1133 dL_law_1132 rfl ?_
  refine mm_iconst 1134 1 dL_law_1133 rfl (by decide) ?_
  refine mm_iadd 1135 dL_law_1134 rfl ?_
  refine mm_sloadn 1136 (i + 1) dL_law_1135 rfl hG (by rw [mm_l1, nI_add]) (by omega) ?_
  refine mm_sload_0 1137 dL_law_1136 rfl ?_
  refine mm_iload_3 1138 dL_law_1137 rfl ?_
  refine mm_iconst 1139 2 dL_law_1138 rfl (by decide) ?_
  refine mm_iadd 1140 dL_law_1139 rfl ?_
  refine mm_sloadn 1141 (i + 2) dL_law_1140 rfl hG (by rw [mm_l2, nI_add]) (by omega) ?_
  refine mm_cV2i 1144 dL_law_1141 v_L_139 rfl t_0 (by decide) rfl rfl (Nat.le_of_ble_eq_true rfl) ⟨rfl, rfl⟩ ⟨Nat.le_refl _, Nat.le_refl _⟩ (c_X11_write2 hi (fun r1 M1 e1 => ?_))
  refine mm_aload_2 1145 dL_law_1144 rfl ?_
  refine mm_sload_0 1146 dL_law_1145 rfl ?_
  refine mm_iload_3 1147 dL_law_1146 rfl ?_
  refine mm_iconst 1148 1 dL_law_1147 rfl (by decide) ?_
  refine mm_iadd 1149 dL_law_1148 rfl ?_
  refine mm_sloadn 1150 (i + 1) dL_law_1149 rfl hG (by rw [mm_l1, nI_add]) (by omega) ?_
  refine mm_sload_0 1151 dL_law_1150 rfl ?_
  refine mm_iload_3 1152 dL_law_1151 rfl ?_
  refine mm_iconst 1153 2 dL_law_1152 rfl (by decide) ?_
  refine mm_iadd 1154 dL_law_1153 rfl ?_
  refine mm_sloadn 1155 (i + 2) dL_law_1154 rfl hG (by rw [mm_l2, nI_add]) (by omega) ?_
  refine mm_cV2i 1158 dL_law_1155 v_L_142 rfl t_51 (by decide) rfl rfl (Nat.le_of_ble_eq_true rfl) ⟨rfl, rfl⟩ ⟨Nat.le_refl _, Nat.le_refl _⟩ (c_X12_write2 hi e1 (fun M2 v2 => ?_))
  refine mm_ic_eq 1200 1161 dL_law_1158 (by decide) rfl (fun h1 => ?_) (fun h1 => absurd (rfl) h1)
  exact K _ v2

set_option maxHeartbeats 4000000 in
theorem w_L_31 {l : Launch} {G : mm_G} {d : Nat} {Q : Int32 → mm_T → mm_M → Prop} {z : UInt32} {i : Nat} {M : mm_M} (hi : iv M) (hG : G.len < 2147483648) (hl : i + 6 ≤ G.len) (K : ∀ M1, iv M1 → mm_wp l G (d + 13) k_L_law (mm_pi Q) 1200 [.float z, .ref 0, .ref 51, .int (nI i)] [] T0 M1 80 1835) : mm_wp l G (d + 13) k_L_law (mm_pi Q) 1163 [.float z, .ref 0, .ref 51, .int (nI i)] [] T0 M 80 1835 := by
  refine mm_aload_1 1164 dL_law_1163 rfl ?_
  refine mm_sload_0 1165 dL_law_1164 rfl ?_
  refine mm_iload_3 1166 dL_law_1165 rfl ?_
  refine mm_iconst 1167 1 dL_law_1166 rfl (by decide) ?_
  refine mm_iadd 1168 dL_law_1167 rfl ?_
  refine mm_sloadn 1169 (i + 1) dL_law_1168 rfl hG (by rw [mm_l1, nI_add]) (by omega) ?_
  refine mm_cV1i 1172 dL_law_1169 v_L_143 rfl t_0 (by decide) rfl rfl (Nat.le_of_ble_eq_true rfl) ⟨rfl, rfl⟩ ⟨Nat.le_refl _, Nat.le_refl _⟩ (c_X11_count hi fr.rf (fun r1 M1 e1 X1 => ?_))
  refine mm_aload_2 1173 dL_law_1172 rfl ?_
  refine mm_sload_0 1174 dL_law_1173 rfl ?_
  refine mm_iload_3 1175 dL_law_1174 rfl ?_
  refine mm_iconst 1176 1 dL_law_1175 rfl (by decide) ?_
  refine mm_iadd 1177 dL_law_1176 rfl ?_
  refine mm_sloadn 1178 (i + 1) dL_law_1177 rfl hG (by rw [mm_l1, nI_add]) (by omega) ?_
  refine mm_cV1i 1181 dL_law_1178 v_L_146 rfl t_51 (by decide) rfl rfl (Nat.le_of_ble_eq_true rfl) ⟨rfl, rfl⟩ ⟨Nat.le_refl _, Nat.le_refl _⟩ (c_X12_count hi X1 (fun r2 M2 e2 X2 => ?_))
  refine mm_ic_eq 1200 1184 dL_law_1181 (by decide) rfl (fun h3 => ?_) (fun h3 => absurd (by rw [e1, e2]) h3)
  exact K _ (X2.1.toiv hi)

set_option maxHeartbeats 4000000 in
theorem w_L_32 {l : Launch} {G : mm_G} {d : Nat} {Q : Int32 → mm_T → mm_M → Prop} {z : UInt32} {i : Nat} {M : mm_M} (hi : iv M) (hG : G.len < 2147483648) (hl : i + 6 ≤ G.len) (K : ∀ M1, iv M1 → mm_wp l G (d + 13) k_L_law (mm_pi Q) 1200 [.float z, .ref 0, .ref 51, .int (nI i)] [] T0 M1 80 1835) : mm_wp l G (d + 13) k_L_law (mm_pi Q) 1186 [.float z, .ref 0, .ref 51, .int (nI i)] [] T0 M 80 1835 := by
  refine mm_aload_1 1187 dL_law_1186 rfl ?_
  refine mm_cV0l 1190 dL_law_1187 v_L_147 rfl t_0 (by decide) rfl rfl (Nat.le_of_ble_eq_true rfl) ⟨rfl, rfl⟩ ⟨Nat.le_refl _, Nat.le_refl _⟩ (c_X11_digest hi fr.rf (fun r1 M1 e1 X1 => ?_))
  refine mm_aload_2 1191 dL_law_1190 rfl ?_
  refine mm_cV0l 1194 dL_law_1191 v_L_151 rfl t_51 (by decide) rfl rfl (Nat.le_of_ble_eq_true rfl) ⟨rfl, rfl⟩ ⟨Nat.le_refl _, Nat.le_refl _⟩ (c_X12_digest hi X1 (fun r2 M2 e2 X2 => ?_))
  refine mm_lcmp 1195 dL_law_1194 rfl ?_
  refine mm_if_eq 1200 1198 dL_law_1195 (by decide) rfl (fun h3 => ?_) (fun h3 => absurd (by rw [e1, e2]; exact (lg_cmp_eq _ _).mpr rfl) h3)
  exact K _ (X2.toiv hi)

