/-! Whom to marry: what the last play leaves, in the couples' words -/
def zE (A : mm_M) : mm_M := zr A (-1) (a_ne A)
def z_may (A : mm_M) (a b : Nat) : Bool := g_may (zE A) a b
def zgi (A : mm_M) (a b : Nat) : Int32 := z_sh A a 6 - z_sh A b 6
def zg (A : mm_M) (a b : Nat) : Int := (zgi A a b).toInt
def zP (A : mm_M) (x y : Int32) (a b : Nat) : Bool := decide (z_w A a 1 = x) && (decide (z_w A b 1 = y) && z_may A a b)
def zC (A : mm_M) (x : Nat) : mcx := (fun a b => decide (z_w A a 1 = nI x) && (z_may A a b && decide (0 < zg A a b)), fun b => decide ((z_w A b 1).toInt < x), zg A, (zE A 62 x).toInt, if x = 0 then 0 else (zE A 62 (x - 1)).toInt, if x + 1 < a_nl A then (zE A 62 (x + 1)).toInt else 0)
theorem zE_x {A : mm_M} (hi : iv A) : r_x A (zE A) := g_run_x hi (zz_x A) (Nat.le_refl _)
theorem zE_d {A M : mm_M} (hi : iv A) (hm : ∀ c, c < 20 → M c = A c) : v_d M (zE A) (a_nl A) (a_np A) (a_ne A) := (zE_x hi).vd hi hm
theorem z_sh_b {A : mm_M} (hi : iv A) {a : Nat} (ha : a < a_np A) : 0 ≤ (z_sh A a 6).toInt ∧ (z_sh A a 6).toInt ≤ 126 := (v_sh (fr.rf.vd hi) ha rfl (by decide) (by decide)).2
theorem zg_b {A : mm_M} (hi : iv A) {a b : Nat} (ha : a < a_np A) (hb : b < a_np A) : -126 ≤ zg A a b ∧ zg A a b ≤ 126 := by
  have h1 := z_sh_b hi ha
  have h2 := z_sh_b hi hb
  unfold zg zgi
  rw [mm_sub (by omega)]
  omega
theorem z_may_i {A : mm_M} (hi : iv A) {a b : Nat} (h : z_may A a b = true) : a < a_np A ∧ b < a_np A ∧ ¬ z_w A a 0 = z_w A b 0 ∧ ((z_w A a 1).toInt - (z_w A b 1).toInt = 1 ∨ (z_w A a 1).toInt - (z_w A b 1).toInt = -1) := by
  have x := zE_x hi
  have p := g_may_np h
  rw [(zE_d hi (M := A) (fun _ _ => rfl)).pi] at p
  have ha : a < a_np A := by omega
  have hb : b < a_np A := by omega
  refine ⟨ha, hb, ?_⟩
  have fa : (zE A) 59 (4 * a) = z_w A a 0 := x.2.2.2.2 a 0 ha (by decide)
  have fb : (zE A) 59 (4 * b) = z_w A b 0 := x.2.2.2.2 b 0 hb (by decide)
  have ga : (zE A) 59 (4 * a + 1) = z_w A a 1 := x.2.2.2.2 a 1 ha (by decide)
  have gb : (zE A) 59 (4 * b + 1) = z_w A b 1 := x.2.2.2.2 b 1 hb (by decide)
  have wa := (a_wh hi.1 ha).2.1
  have wb := (a_wh hi.1 hb).2.1
  have n6 := hi.1.nl
  unfold z_may g_may g_next at h
  rw [fa, fb, ga, gb] at h
  simp only [Bool.and_eq_true, Bool.or_eq_true, decide_eq_true_eq] at h
  obtain ⟨-, -, -, -, h1, h2⟩ := h
  refine ⟨h1, ?_⟩
  have s := mm_sub (a := z_w A a 1) (b := z_w A b 1) (by unfold z_w; omega)
  rcases h2 with h2 | h2
  · rw [h2] at s; exact Or.inl s.symm
  · rw [h2] at s; exact Or.inr s.symm
theorem zP_i {A : mm_M} {x y : Int32} {a b : Nat} (h : zP A x y a b = true) : z_w A a 1 = x ∧ z_w A b 1 = y ∧ z_may A a b = true := by
  unfold zP at h
  simp only [Bool.and_eq_true, decide_eq_true_eq] at h
  exact h
theorem zP_t {A : mm_M} {x y : Int32} {a b : Nat} (h1 : z_w A a 1 = x) (h2 : z_w A b 1 = y) (h3 : z_may A a b = true) : zP A x y a b = true := by
  unfold zP
  simp only [Bool.and_eq_true, decide_eq_true_eq]
  exact ⟨h1, h2, h3⟩
theorem zE_w {A : mm_M} (hi : iv A) {j : Nat} (hj : j < a_nl A) : 0 ≤ (zE A 62 j).toInt ∧ (zE A 62 j).toInt ≤ 3123 := by
  have h := (zr_c hi (M := A) (y := -1) (fun _ _ => rfl) (Nat.le_refl (a_ne A))).1 j hj
  have n24 := hi.1.ne.2
  have h2 : 0 ≤ (zE A 62 j).toInt ∧ (zE A 62 j).toInt ≤ ((99 + 126 * a_ne A : Nat) : Int) := h.2
  omega
theorem zC_us {A : mm_M} {x a b : Nat} (h : (zC A x).us a b = true) : z_w A a 1 = nI x ∧ z_may A a b = true ∧ 0 < zg A a b := by
  have h : (decide (z_w A a 1 = nI x) && (z_may A a b && decide (0 < zg A a b))) = true := h
  simp only [Bool.and_eq_true, decide_eq_true_eq] at h
  exact h
theorem zC_ok {A : mm_M} (hi : iv A) {x : Nat} (hx : x < a_nl A) : c_ok (zC A x) := by
  have n12 := hi.1.np
  have n6 := hi.1.nl
  have xi : (nI x).toInt = x := mm_ti (by omega)
  refine ⟨fun a b h => ?_, fun a b c d h h2 => ?_, ?_, ?_, ?_⟩
  · obtain ⟨h1, h2, h3⟩ := zC_us h
    obtain ⟨m1, m2, -⟩ := z_may_i hi h2
    exact ⟨by omega, by omega, h3, (zg_b hi m1 m2).2⟩
  · obtain ⟨h1, -, -⟩ := zC_us h
    obtain ⟨k1, k2, -⟩ := zC_us h2
    obtain ⟨-, -, -, m⟩ := z_may_i hi k2
    intro e
    rw [← e, k1, h1] at m
    omega
  · have := zE_w hi hx
    show 0 ≤ (zE A 62 x).toInt ∧ (zE A 62 x).toInt ≤ 9999
    omega
  · show 0 ≤ (if x = 0 then 0 else (zE A 62 (x - 1)).toInt) ∧ (if x = 0 then 0 else (zE A 62 (x - 1)).toInt) ≤ 9999
    have := zE_w hi (j := x - 1) (by omega)
    split <;> omega
  · show 0 ≤ (if x + 1 < a_nl A then (zE A 62 (x + 1)).toInt else 0) ∧ (if x + 1 < a_nl A then (zE A 62 (x + 1)).toInt else 0) ≤ 9999
    split
    · rename_i q
      have := zE_w hi q
      omega
    · omega
/-- at most 36 couples of a land with others -/
theorem zP_36 {A : mm_M} (hi : iv A) {P : Nat → Nat → Bool} {x : Int32} (h : ∀ a b, P a b = true → z_w A a 1 = x ∧ z_may A a b = true) : cn2 P (a_np A) (a_np A) ≤ 36 := by
  refine cn2_36 (s := fun p => decide (z_w A p 0 = 0)) hi.1.np (fun a b ha hb q => ?_) (fun a b q => ?_)
  · obtain ⟨-, -, m, -⟩ := z_may_i hi (h a b q).2
    have wa := (a_wh hi.1 ha).1
    have wb := (a_wh hi.1 hb).1
    have t0 : (0 : Int32).toInt = 0 := by decide
    intro e
    apply m
    have e := decide_eq_decide.mp e
    by_cases z : z_w A a 0 = 0
    · rw [z, e.mp z]
    · have z2 : ¬ z_w A b 0 = 0 := fun k => z (e.mpr k)
      have y1 : ¬ (z_w A a 0).toInt = 0 := fun k => z (mm_ii (by rw [t0]; exact k))
      have y2 : ¬ (z_w A b 0).toInt = 0 := fun k => z2 (mm_ii (by rw [t0]; exact k))
      unfold z_w at y1 y2 ⊢
      exact mm_ii (by omega)
  · obtain ⟨-, -, -, m⟩ := z_may_i hi (h a b q.1).2
    rw [(h a b q.1).1, (h b a q.2).1] at m
    omega
/-- nothing but the searching cells has changed -/
def kk (M N : mm_M) : Prop := ∀ c, c < 27 ∨ 37 < c → N c = M c
theorem kk.rf {M : mm_M} : kk M M := fun _ _ => rfl
theorem kk.tr {M N K : mm_M} (h : kk M N) (h2 : kk N K) : kk M K := fun c q => (h2 c q).trans (h c q)
theorem kk.up {M N : mm_M} (h : kk M N) {c a : Nat} {v : Int32} (hc : 27 ≤ c ∧ c ≤ 37) : kk M (mm_up N c a v) := fun c' q => by rw [mm_upn _ _ _ (by omega)]; exact h c' q
theorem kk.vup {M N : mm_M} (h : kk M N) {c : Nat} {r : Nat → Int32} (hc : 27 ≤ c ∧ c ≤ 37) : kk M (va_up N c r) := fun c' q => by rw [va_upn _ _ (by omega)]; exact h c' q
theorem bs_k {c : Nat} (h : bs c = true) : c < 27 ∨ 37 < c := by
  simp only [bs, Bool.or_eq_true, decide_eq_true_eq] at h
  omega
theorem fr.kk {A M N : mm_M} (h : fr A M) (k : kk M N) : fr A N := h.of (fun c q => k c (bs_k q)) (by rw [k 51 (by decide)]) (by rw [k 51 (by decide)]) (by rw [k 51 (by decide)])
theorem v_w.kk {M N X : mm_M} {nl np B : Nat} (h : v_w M X nl np B) (k : kk M N) : v_w N X nl np B := by
  unfold v_w v_m at h ⊢
  rw [k 20 (by decide), k 21 (by decide), k 22 (by decide), k 23 (by decide), k 24 (by decide), k 25 (by decide), k 26 (by decide)]
  exact h
def ks (o o1 o2 : Nat) (M N : mm_M) : Prop := ∀ c, c ≠ o → c ≠ o1 → c ≠ o2 → N c = M c
theorem ks.rf {o o1 o2 : Nat} {M : mm_M} : ks o o1 o2 M M := fun _ _ _ _ => rfl
theorem ks.u0 {o o1 o2 : Nat} {M N : mm_M} (h : ks o o1 o2 M N) {a : Nat} {v : Int32} : ks o o1 o2 M (mm_up N o a v) := fun c q q1 q2 => by rw [mm_upn _ _ _ q]; exact h c q q1 q2
theorem ks.u1 {o o1 o2 : Nat} {M N : mm_M} (h : ks o o1 o2 M N) {a : Nat} {v : Int32} : ks o o1 o2 M (mm_up N o1 a v) := fun c q q1 q2 => by rw [mm_upn _ _ _ q1]; exact h c q q1 q2
theorem ks.u2 {o o1 o2 : Nat} {M N : mm_M} (h : ks o o1 o2 M N) {a : Nat} {v : Int32} : ks o o1 o2 M (mm_up N o2 a v) := fun c q q1 q2 => by rw [mm_upn _ _ _ q2]; exact h c q q1 q2
theorem ks.kk {o o1 o2 : Nat} {M N : mm_M} (h : ks o o1 o2 M N) (db : (27 ≤ o ∧ o ≤ 37) ∧ (27 ≤ o1 ∧ o1 ≤ 37) ∧ (27 ≤ o2 ∧ o2 ≤ 37)) : kk M N := fun c q => h c (by omega) (by omega) (by omega)
/-- the couples that cells hold -/
def crep (M : mm_M) (o o1 o2 : Nat) (L : List (Nat × Nat)) : Prop := M o 4 = nI L.length ∧ ∀ e a b, L[e]? = some (a, b) → M o1 e = nI a ∧ M o2 e = nI b
theorem crep.add {M : mm_M} {o o1 o2 : Nat} {L : List (Nat × Nat)} (h : crep M o o1 o2 L) (d : o ≠ o1 ∧ o ≠ o2 ∧ o1 ≠ o2) (a b : Nat) : crep (mm_up (mm_up (mm_up M o1 L.length (nI a)) o2 L.length (nI b)) o 4 (nI (L.length + 1))) o o1 o2 (L ++ [(a, b)]) := by
  refine ⟨by rw [mm_upv, List.length_append]; rfl, fun e x y q => ?_⟩
  rw [mm_upn _ _ _ (Ne.symm d.1), mm_upn _ _ _ d.2.2, mm_upc, mm_upn _ _ _ (Ne.symm d.2.1), mm_upc, mm_upn _ _ _ (Ne.symm d.2.2)]
  by_cases z : e = L.length
  · subst z
    rw [List.getElem?_append_right (Nat.le_refl _), Nat.sub_self] at q
    simp at q
    simp only [upd, if_true]
    exact ⟨by rw [q.1], by rw [q.2]⟩
  · have lt : e < L.length := by
      have := (List.getElem?_eq_some_iff.mp q).1
      rw [List.length_append] at this
      have : e < L.length + 1 := this
      omega
    rw [List.getElem?_append_left lt] at q
    simp only [upd, if_neg z]
    exact h.2 e x y q
theorem crep.of {M N : mm_M} {o o1 o2 : Nat} {L : List (Nat × Nat)} (h : crep M o o1 o2 L) (e0 : N o 4 = M o 4) (e1 : N o1 = M o1) (e2 : N o2 = M o2) : crep N o o1 o2 L := by
  unfold crep at h ⊢
  rw [e0, e1, e2]
  exact h

set_option maxHeartbeats 4000000 in
theorem c_X0_number {l : Launch} {G : mm_G} {d : Nat} {M : mm_M} {Q : Int32 → mm_T → mm_M → Prop} {o o1 o2 : Nat} (ho : T0[o]? = some (0, 0, [some (some 20), some (some 7), some (some o1), some (some o2), none])) (t1 : T0[o1]? = some (13, 36, [])) (t2 : T0[o2]? = some (13, 36, [])) (h : ∀ r, r = M o 4 → Q r T0 (M)) : mm_met l G d k_X0_number [.ref o] T0 M (mm_pi Q) := by
  refine mm_enter 0 [.ref o] o_X0_number rfl rfl ?_
  refine mm_aload_0 1 dX0_number_0 rfl ?_
  refine mm_getI 4 dX0_number_1 f_X0_18 rfl ho rfl ?_
  refine mm_iret dX0_number_4 rfl ⟨rfl, Nat.zero_le _⟩ ?_
  exact h _ rfl

set_option maxHeartbeats 4000000 in
theorem c_X0_clear {l : Launch} {G : mm_G} {d : Nat} {M : mm_M} {Q : mm_T → mm_M → Prop} {o o1 o2 : Nat} (ho : T0[o]? = some (0, 0, [some (some 20), some (some 7), some (some o1), some (some o2), none])) (t1 : T0[o1]? = some (13, 36, [])) (t2 : T0[o2]? = some (13, 36, [])) (h : Q T0 (mm_up M o 4 0)) : mm_met l G d k_X0_clear [.ref o] T0 M (mm_pv Q) := by
  refine mm_enter 0 [.ref o] o_X0_clear rfl rfl ?_
  refine mm_aload_0 1 dX0_clear_0 rfl ?_
  refine mm_iconst 2 0 dX0_clear_1 rfl (by decide) ?_
  refine mm_putI 5 dX0_clear_2 p_X0_18 ⟨rfl, rfl⟩ rfl ho rfl ?_
  refine mm_vret dX0_clear_5 rfl ⟨rfl, Nat.zero_le _⟩ ?_
  exact h

set_option maxHeartbeats 4000000 in
theorem c_X0_has {l : Launch} {G : mm_G} {d : Nat} {M : mm_M} {Q : Int32 → mm_T → mm_M → Prop} {o o1 o2 : Nat} (ho : T0[o]? = some (0, 0, [some (some 20), some (some 7), some (some o1), some (some o2), none])) (t1 : T0[o1]? = some (13, 36, [])) (t2 : T0[o2]? = some (13, 36, [])) {p : Int32} (ht : 0 ≤ p.toInt ∧ p.toInt < (M o 4).toInt → Q 1 T0 M) (hf : ¬ (0 ≤ p.toInt ∧ p.toInt < (M o 4).toInt) → Q 0 T0 M) : mm_met l G d k_X0_has [.ref o, .int p] T0 M (mm_pi Q) := by
  refine mm_enter 0 [.ref o, .int p] o_X0_has rfl rfl ?_
  refine mm_iload_1 1 dX0_has_0 rfl ?_
  refine mm_if_lt 16 4 dX0_has_1 (by decide) rfl (fun h1 => ?_) (fun h1 => ?_)
  · refine mm_iconst 17 0 dX0_has_16 rfl (by decide) ?_
    refine mm_zret dX0_has_17 rfl ⟨rfl, Nat.zero_le _⟩ (Or.inl rfl) ?_
    refine hf ?_
    try simp only [Int32.lt_iff_toInt_lt, Int32.le_iff_toInt_le, ← Int32.toInt_inj, vp_in_iff, Int32.reduceToInt, mm_t1, mm_t2, mm_t3, mm_t4, mm_t10] at h1 ⊢
    omega
  · refine mm_iload_1 5 dX0_has_4 rfl ?_
    refine mm_aload_0 6 dX0_has_5 rfl ?_
    refine mm_getI 9 dX0_has_6 f_X0_18 rfl ho rfl ?_
    refine mm_ic_ge 16 12 dX0_has_9 (by decide) rfl (fun h2 => ?_) (fun h2 => ?_)
    · refine mm_iconst 17 0 dX0_has_16 rfl (by decide) ?_
      refine mm_zret dX0_has_17 rfl ⟨rfl, Nat.zero_le _⟩ (Or.inl rfl) ?_
      refine hf ?_
      try simp only [Int32.lt_iff_toInt_lt, Int32.le_iff_toInt_le, ← Int32.toInt_inj, vp_in_iff, Int32.reduceToInt, mm_t1, mm_t2, mm_t3, mm_t4, mm_t10] at h1 h2 ⊢
      omega
    · refine mm_iconst 13 1 dX0_has_12 rfl (by decide) ?_
      refine mm_goto 17 dX0_has_13 (by decide) ?_
      refine mm_zret dX0_has_17 rfl ⟨rfl, Nat.zero_le _⟩ (Or.inr rfl) ?_
      refine ht ?_
      try simp only [Int32.lt_iff_toInt_lt, Int32.le_iff_toInt_le, ← Int32.toInt_inj, vp_in_iff, Int32.reduceToInt, mm_t1, mm_t2, mm_t3, mm_t4, mm_t10] at h1 h2 ⊢
      omega

set_option maxHeartbeats 4000000 in
theorem c_X0_oneOf {l : Launch} {G : mm_G} {d : Nat} {M : mm_M} {Q : Int32 → mm_T → mm_M → Prop} {o o1 o2 : Nat} (ho : T0[o]? = some (0, 0, [some (some 20), some (some 7), some (some o1), some (some o2), none])) (t1 : T0[o1]? = some (13, 36, [])) (t2 : T0[o2]? = some (13, 36, [])) {L : List (Nat × Nat)} (hL : crep M o o1 o2 L) (h36 : L.length ≤ 36) {x : Int32} {e a b : Nat} (hx : x = nI e) (he : L[e]? = some (a, b)) (h : ∀ r, r = nI a → Q r T0 (M)) : mm_met l G (d + 1) k_X0_oneOf [.ref o, .int x] T0 M (mm_pi Q) := by
  have le := (List.getElem?_eq_some_iff.mp he).1
  have hp : 0 ≤ x.toInt ∧ x.toInt < (M o 4).toInt := by rw [hx, hL.1, mm_ti (by omega), mm_ti (by omega)]; omega
  refine mm_enter 0 [.ref o, .int x] o_X0_oneOf rfl rfl ?_
  refine mm_aload_0 1 dX0_oneOf_0 rfl ?_
  refine mm_iload_1 2 dX0_oneOf_1 rfl ?_
  refine mm_cV1i 5 dX0_oneOf_2 v_X0_45 rfl ho (by decide) rfl rfl (Nat.le_of_ble_eq_true rfl) ⟨rfl, rfl⟩ ⟨Nat.zero_le _, Nat.zero_le _⟩ (c_X0_has ho t1 t2 (fun q1 => ?_) (fun q1 => absurd hp q1))
  refine mm_if_eq 17 8 dX0_oneOf_5 (by decide) rfl (fun h => absurd h (by decide)) (fun _ => ?_)
  refine mm_aload_0 9 dX0_oneOf_8 rfl ?_
  refine mm_getR 12 dX0_oneOf_9 f_X0_9 rfl ho rfl ?_
  refine mm_iload_1 13 dX0_oneOf_12 rfl ?_
  refine mm_ialoadn 14 (e) dX0_oneOf_13 rfl t1 (by decide) (hx) (by omega) ?_
  refine mm_goto 18 dX0_oneOf_14 (by decide) ?_
  refine mm_iret dX0_oneOf_18 rfl ⟨rfl, Nat.zero_le _⟩ ?_
  exact h _ (hL.2 e a b he).1

set_option maxHeartbeats 4000000 in
theorem c_X0_otherOf {l : Launch} {G : mm_G} {d : Nat} {M : mm_M} {Q : Int32 → mm_T → mm_M → Prop} {o o1 o2 : Nat} (ho : T0[o]? = some (0, 0, [some (some 20), some (some 7), some (some o1), some (some o2), none])) (t1 : T0[o1]? = some (13, 36, [])) (t2 : T0[o2]? = some (13, 36, [])) {L : List (Nat × Nat)} (hL : crep M o o1 o2 L) (h36 : L.length ≤ 36) {x : Int32} {e a b : Nat} (hx : x = nI e) (he : L[e]? = some (a, b)) (h : ∀ r, r = nI b → Q r T0 (M)) : mm_met l G (d + 1) k_X0_otherOf [.ref o, .int x] T0 M (mm_pi Q) := by
  have le := (List.getElem?_eq_some_iff.mp he).1
  have hp : 0 ≤ x.toInt ∧ x.toInt < (M o 4).toInt := by rw [hx, hL.1, mm_ti (by omega), mm_ti (by omega)]; omega
  refine mm_enter 0 [.ref o, .int x] o_X0_otherOf rfl rfl ?_
  refine mm_aload_0 1 dX0_otherOf_0 rfl ?_
  refine mm_iload_1 2 dX0_otherOf_1 rfl ?_
  refine mm_cV1i 5 dX0_otherOf_2 v_X0_45 rfl ho (by decide) rfl rfl (Nat.le_of_ble_eq_true rfl) ⟨rfl, rfl⟩ ⟨Nat.zero_le _, Nat.zero_le _⟩ (c_X0_has ho t1 t2 (fun q1 => ?_) (fun q1 => absurd hp q1))
  refine mm_if_eq 17 8 dX0_otherOf_5 (by decide) rfl (fun h => absurd h (by decide)) (fun _ => ?_)
  refine mm_aload_0 9 dX0_otherOf_8 rfl ?_
  refine mm_getR 12 dX0_otherOf_9 f_X0_15 rfl ho rfl ?_
  refine mm_iload_1 13 dX0_otherOf_12 rfl ?_
  refine mm_ialoadn 14 (e) dX0_otherOf_13 rfl t2 (by decide) (hx) (by omega) ?_
  refine mm_goto 18 dX0_otherOf_14 (by decide) ?_
  refine mm_iret dX0_otherOf_18 rfl ⟨rfl, Nat.zero_le _⟩ ?_
  exact h _ (hL.2 e a b he).2

set_option maxHeartbeats 4000000 in
theorem c_X0_bitsOf {l : Launch} {G : mm_G} {d : Nat} {M : mm_M} {Q : Int32 → mm_T → mm_M → Prop} {o o1 o2 : Nat} (ho : T0[o]? = some (0, 0, [some (some 20), some (some 7), some (some o1), some (some o2), none])) (t1 : T0[o1]? = some (13, 36, [])) (t2 : T0[o2]? = some (13, 36, [])) {L : List (Nat × Nat)} (hL : crep M o o1 o2 L) (h36 : L.length ≤ 36) {x : Int32} {e a b : Nat} (hx : x = nI e) (he : L[e]? = some (a, b)) (h : ∀ r, r = sbt a ||| sbt b → Q r T0 (M)) : mm_met l G (d + 1) k_X0_bitsOf [.ref o, .int x] T0 M (mm_pi Q) := by
  have le := (List.getElem?_eq_some_iff.mp he).1
  have hp : 0 ≤ x.toInt ∧ x.toInt < (M o 4).toInt := by rw [hx, hL.1, mm_ti (by omega), mm_ti (by omega)]; omega
  refine mm_enter 0 [.ref o, .int x] o_X0_bitsOf rfl rfl ?_
  refine mm_aload_0 1 dX0_bitsOf_0 rfl ?_
  refine mm_iload_1 2 dX0_bitsOf_1 rfl ?_
  refine mm_cV1i 5 dX0_bitsOf_2 v_X0_45 rfl ho (by decide) rfl rfl (Nat.le_of_ble_eq_true rfl) ⟨rfl, rfl⟩ ⟨Nat.zero_le _, Nat.zero_le _⟩ (c_X0_has ho t1 t2 (fun q1 => ?_) (fun q1 => absurd hp q1))
  refine mm_if_eq 28 8 dX0_bitsOf_5 (by decide) rfl (fun h => absurd h (by decide)) (fun _ => ?_)
  refine mm_iconst 9 1 dX0_bitsOf_8 rfl (by decide) ?_
  refine mm_aload_0 10 dX0_bitsOf_9 rfl ?_
  refine mm_getR 13 dX0_bitsOf_10 f_X0_9 rfl ho rfl ?_
  refine mm_iload_1 14 dX0_bitsOf_13 rfl ?_
  refine mm_ialoadn 15 (e) dX0_bitsOf_14 rfl t1 (by decide) (hx) (by omega) ?_
  refine mm_ishl 16 dX0_bitsOf_15 rfl ?_
  refine mm_iconst 17 1 dX0_bitsOf_16 rfl (by decide) ?_
  refine mm_aload_0 18 dX0_bitsOf_17 rfl ?_
  refine mm_getR 21 dX0_bitsOf_18 f_X0_15 rfl ho rfl ?_
  refine mm_iload_1 22 dX0_bitsOf_21 rfl ?_
  refine mm_ialoadn 23 (e) dX0_bitsOf_22 rfl t2 (by decide) (hx) (by omega) ?_
  refine mm_ishl 24 dX0_bitsOf_23 rfl ?_
  refine mm_ior 25 dX0_bitsOf_24 rfl ?_
  refine mm_goto 29 dX0_bitsOf_25 (by decide) ?_
  refine mm_iret dX0_bitsOf_29 rfl ⟨rfl, Nat.zero_le _⟩ ?_
  refine h _ ?_
  rw [(hL.2 e a b he).1, (hL.2 e a b he).2]
  rfl

set_option maxHeartbeats 4000000 in
theorem c_X0_differenceOf {l : Launch} {G : mm_G} {d : Nat} {M : mm_M} {Q : Int32 → mm_T → mm_M → Prop} {o o1 o2 : Nat} (ho : T0[o]? = some (0, 0, [some (some 20), some (some 7), some (some o1), some (some o2), none])) (t1 : T0[o1]? = some (13, 36, [])) (t2 : T0[o2]? = some (13, 36, [])) {A : mm_M} (hi : iv A) (hf : fr A M) {L : List (Nat × Nat)} (hL : crep M o o1 o2 L) (h36 : L.length ≤ 36) {x : Int32} {e a b : Nat} (hx : x = nI e) (he : L[e]? = some (a, b)) (ha : a < a_np A) (hb : b < a_np A) (h : ∀ r, r = zgi A a b → Q r T0 (M)) : mm_met l G (d + 2) k_X0_differenceOf [.ref o, .int x] T0 M (mm_pi Q) := by
  have hd := hf.vd hi
  have n12 := hi.1.np
  refine mm_enter 0 [.ref o, .int x] o_X0_differenceOf rfl rfl ?_
  refine mm_aload_0 1 dX0_differenceOf_0 rfl ?_
  refine mm_getR 4 dX0_differenceOf_1 f_X0_26 rfl ho rfl ?_
  refine mm_aload_0 5 dX0_differenceOf_4 rfl ?_
  refine mm_iload_1 6 dX0_differenceOf_5 rfl ?_
  refine mm_cV1i 9 dX0_differenceOf_6 v_X0_49 rfl ho (by decide) rfl rfl (Nat.le_of_ble_eq_true rfl) ⟨rfl, rfl⟩ ⟨Nat.zero_le _, Nat.zero_le _⟩ (c_X0_oneOf ho t1 t2 hL h36 hx he (fun r1 e1 => ?_))
  refine mm_bipush 11 6 dX0_differenceOf_9 rfl (by decide) ?_
  refine mm_cV2i 14 dX0_differenceOf_11 v_X0_52 rfl t_7 (by decide) rfl rfl (Nat.le_of_ble_eq_true rfl) ⟨rfl, rfl⟩ ⟨Nat.zero_le _, Nat.zero_le _⟩ (c_X4_shadowOf (by rw [hd.1.pi]; omega) (fun r2 e2 => ?_))
  refine mm_aload_0 15 dX0_differenceOf_14 rfl ?_
  refine mm_getR 18 dX0_differenceOf_15 f_X0_26 rfl ho rfl ?_
  refine mm_aload_0 19 dX0_differenceOf_18 rfl ?_
  refine mm_iload_1 20 dX0_differenceOf_19 rfl ?_
  refine mm_cV1i 23 dX0_differenceOf_20 v_X0_56 rfl ho (by decide) rfl rfl (Nat.le_of_ble_eq_true rfl) ⟨rfl, rfl⟩ ⟨Nat.zero_le _, Nat.zero_le _⟩ (c_X0_otherOf ho t1 t2 hL h36 hx he (fun r3 e3 => ?_))
  refine mm_bipush 25 6 dX0_differenceOf_23 rfl (by decide) ?_
  refine mm_cV2i 28 dX0_differenceOf_25 v_X0_52 rfl t_7 (by decide) rfl rfl (Nat.le_of_ble_eq_true rfl) ⟨rfl, rfl⟩ ⟨Nat.zero_le _, Nat.zero_le _⟩ (c_X4_shadowOf (by rw [hd.1.pi]; omega) (fun r4 e4 => ?_))
  refine mm_isub 29 dX0_differenceOf_28 rfl ?_
  refine mm_iret dX0_differenceOf_29 rfl ⟨rfl, Nat.zero_le _⟩ ?_
  refine h _ ?_
  rw [e2, e4, (v_sh hd ha e1 (by decide) (by decide)).1, (v_sh hd hb e3 (by decide) (by decide)).1]
  rfl

set_option maxHeartbeats 4000000 in
theorem w_X0_gather2 {l : Launch} {G : mm_G} {d : Nat} {M : mm_M} {Q : mm_T → mm_M → Prop} {o o1 o2 : Nat} (ho : T0[o]? = some (0, 0, [some (some 20), some (some 7), some (some o1), some (some o2), none])) (t1 : T0[o1]? = some (13, 36, [])) (t2 : T0[o2]? = some (13, 36, [])) (db : (27 ≤ o ∧ o ≤ 37) ∧ (27 ≤ o1 ∧ o1 ≤ 37) ∧ (27 ≤ o2 ∧ o2 ≤ 37)) (dd : o ≠ o1 ∧ o ≠ o2 ∧ o1 ≠ o2) {A : mm_M} (hi : iv A) (hf : fr A M) {B : Nat} (hw : v_w M (zE A) (a_nl A) (a_np A) B) {x y : Int32} {L : List (Nat × Nat)} (hb : L.length + cn2 (zP A x y) (a_np A) (a_np A) ≤ 36) {a : Nat} (ha : a < a_np A) (h : ∀ Mi, crep Mi o o1 o2 (L ++ call_ (zP A x y) (a_np A) (a + 1)) → ks o o1 o2 M Mi → mm_wp l G (d + 2) k_X0_gather (mm_pv Q) 2 [.ref o, .int x, .int y, .int (nI (a + 1)), .int (nI (a_np A))] [] T0 Mi 0 0) : ∀ (z b : Nat) (Mi : mm_M), a_np A - b ≤ z → b ≤ a_np A → crep Mi o o1 o2 (L ++ (call_ (zP A x y) (a_np A) a ++ crow (zP A x y) a b)) → ks o o1 o2 M Mi → mm_wp l G (d + 2) k_X0_gather (mm_pv Q) 16 [.ref o, .int x, .int y, .int (nI a), .int (nI b)] [] T0 Mi 0 0 := by
  have n12 := hi.1.np
  have hni : (nI (a_np A)).toInt = a_np A := mm_ti (by omega)
  intro z
  induction z using Nat.strongRecOn with | _ z ih => ?_
  intro b Mi hze hbn hL hk
  have hbi : (nI b).toInt = b := mm_ti (by omega)
  have fi : fr A Mi := hf.kk (hk.kk db)
  have wi : v_w Mi (zE A) (a_nl A) (a_np A) B := hw.kk (hk.kk db)
  have hd := zE_d hi fi.lo
  have k7e : Mi 7 4 = nI (a_np A) := hd.1.2.2.2.2.1
  have hom : ∀ p, p < a_np A → s_X4_homeOf Mi (nI p) = z_w A p 1 := fun p hp => by
    unfold s_X4_homeOf
    rw [hd.1.pi, mm_ti (by omega), mm_cn (by omega), if_pos ⟨by omega, by omega⟩, fi.a 9]
    exact (hi.2.2.1.2.2.2.2.2 p hp).2.1
  refine mm_iload_4 18 dX0_gather_16 rfl ?_
  refine mm_aload_0 19 dX0_gather_18 rfl ?_
  refine mm_getR 22 dX0_gather_19 f_X0_26 rfl ho rfl ?_
  refine mm_cV0i 25 dX0_gather_22 v_X0_30 rfl t_7 (by decide) rfl rfl (Nat.le_of_ble_eq_true rfl) ⟨rfl, rfl⟩ ⟨Nat.zero_le _, Nat.zero_le _⟩ (c_X4_number  (fun r1 e1 => ?_))
  rw [e1, k7e]
  refine mm_ic_ge 112 28 dX0_gather_25 (by decide) rfl (fun h2 => ?_) (fun h2 => ?_)
  · refine mm_iinc_3 115 1 dX0_gather_112 rfl (by decide) rfl ?_
    refine mm_goto 2 dX0_gather_115 (by decide) ?_
    have hz : b = a_np A := by (try simp only [hbi, hni, Int32.lt_iff_toInt_lt, Int32.le_iff_toInt_le, ← Int32.toInt_inj, vp_in_iff, Int32.reduceToInt, mm_t1, mm_t2, mm_t3, mm_t4, mm_t10] at h2); omega
    rw [nI_1, hz]
    rw [hz] at hL
    exact h Mi hL hk
  · have hlt : b < a_np A := by (try simp only [hbi, hni, Int32.lt_iff_toInt_lt, Int32.le_iff_toInt_le, ← Int32.toInt_inj, vp_in_iff, Int32.reduceToInt, mm_t1, mm_t2, mm_t3, mm_t4, mm_t10] at h2); omega
    refine mm_aload_0 29 dX0_gather_28 rfl ?_
    refine mm_getR 32 dX0_gather_29 f_X0_26 rfl ho rfl ?_
    refine mm_iload_3 33 dX0_gather_32 rfl ?_
    refine mm_cV1i 36 dX0_gather_33 v_X0_35 rfl t_7 (by decide) rfl rfl (Nat.le_of_ble_eq_true rfl) ⟨rfl, rfl⟩ ⟨Nat.zero_le _, Nat.zero_le _⟩ (c_X4_homeOf (by rw [hd.1.pi]; omega) (fun r3 e3 => ?_))
    refine mm_iload_1 37 dX0_gather_36 rfl ?_
    refine mm_ic_ne 106 40 dX0_gather_37 (by decide) rfl (fun h4 => ?_) (fun h4 => ?_)
    · refine mm_iinc_4 109 1 dX0_gather_106 rfl (by decide) rfl ?_
      refine mm_goto 16 dX0_gather_109 (by decide) ?_
      rw [nI_1]
      have no : ¬ zP A x y a b = true := fun q => by
        obtain ⟨q1, q2, q3⟩ := zP_i q
        exact h4 (by rw [e3, hom a ha]; exact q1)
      have hh := ih (a_np A - (b + 1)) (by omega) (b + 1) Mi (Nat.le_refl _) (by omega) (by rw [crow_f no]; exact hL) hk
      exact hh
    · refine mm_aload_0 41 dX0_gather_40 rfl ?_
      refine mm_getR 44 dX0_gather_41 f_X0_26 rfl ho rfl ?_
      refine mm_iload_4 46 dX0_gather_44 rfl ?_
      refine mm_cV1i 49 dX0_gather_46 v_X0_35 rfl t_7 (by decide) rfl rfl (Nat.le_of_ble_eq_true rfl) ⟨rfl, rfl⟩ ⟨Nat.zero_le _, Nat.zero_le _⟩ (c_X4_homeOf (by rw [hd.1.pi]; omega) (fun r5 e5 => ?_))
      refine mm_iload_2 50 dX0_gather_49 rfl ?_
      refine mm_ic_ne 106 53 dX0_gather_50 (by decide) rfl (fun h6 => ?_) (fun h6 => ?_)
      · refine mm_iinc_4 109 1 dX0_gather_106 rfl (by decide) rfl ?_
        refine mm_goto 16 dX0_gather_109 (by decide) ?_
        rw [nI_1]
        have no : ¬ zP A x y a b = true := fun q => by
          obtain ⟨q1, q2, q3⟩ := zP_i q
          exact h6 (by rw [e5, hom b hlt]; exact q2)
        have hh := ih (a_np A - (b + 1)) (by omega) (b + 1) Mi (Nat.le_refl _) (by omega) (by rw [crow_f no]; exact hL) hk
        exact hh
      · refine mm_aload_0 54 dX0_gather_53 rfl ?_
        refine mm_getR 57 dX0_gather_54 f_X0_22 rfl ho rfl ?_
        refine mm_iload_3 58 dX0_gather_57 rfl ?_
        refine mm_iload_4 60 dX0_gather_58 rfl ?_
        refine mm_cV2i 63 dX0_gather_60 v_X0_39 rfl t_20 (by decide) rfl rfl (Nat.le_of_ble_eq_true rfl) ⟨rfl, rfl⟩ ⟨Nat.zero_le _, Nat.zero_le _⟩ (c_X10_mayMarry hd.1 rfl (by omega) rfl (by omega) (fun h7 => ?_) (fun h7 => ?_))
        · refine mm_if_eq 106 66 dX0_gather_63 (by decide) rfl (fun h => absurd h (by decide)) (fun _ => ?_)
          have pt : zP A x y a b = true := zP_t (by rw [← hom a ha, ← e3]; exact h4) (by rw [← hom b hlt, ← e5]; exact h6) (by rw [v_may hd wi] at h7; exact h7)
          have ln := call_next (P := zP A x y) ha hlt pt
          have ll : (L ++ (call_ (zP A x y) (a_np A) a ++ crow (zP A x y) a b)).length < 36 := by rw [List.length_append]; omega
          refine mm_aload_0 67 dX0_gather_66 rfl ?_
          refine mm_getI 70 dX0_gather_67 f_X0_18 rfl ho rfl ?_
          refine mm_bipush 72 36 dX0_gather_70 rfl (by decide) ?_
          refine mm_ic_ge 106 75 dX0_gather_72 (by decide) rfl (fun h8 => absurd h8 (by rw [hL.1, mm_le, mm_ti (by omega)]; simp only [Int32.reduceToInt]; omega)) (fun h8 => ?_)
          
          refine mm_aload_0 76 dX0_gather_75 rfl ?_
          refine mm_getR 79 dX0_gather_76 f_X0_9 rfl ho rfl ?_
          refine mm_aload_0 80 dX0_gather_79 rfl ?_
          refine mm_getI 83 dX0_gather_80 f_X0_18 rfl ho rfl ?_
          refine mm_iload_3 84 dX0_gather_83 rfl ?_
          refine mm_iastoren 85 ((L ++ (call_ (zP A x y) (a_np A) a ++ crow (zP A x y) a b)).length) dX0_gather_84 rfl t1 (by decide) (by first | exact hL.1 | (rw [mm_upn _ _ _ dd.1]; exact hL.1)) (ll) ?_
          refine mm_aload_0 86 dX0_gather_85 rfl ?_
          refine mm_getR 89 dX0_gather_86 f_X0_15 rfl ho rfl ?_
          refine mm_aload_0 90 dX0_gather_89 rfl ?_
          refine mm_getI 93 dX0_gather_90 f_X0_18 rfl ho rfl ?_
          refine mm_iload_4 95 dX0_gather_93 rfl ?_
          refine mm_iastoren 96 ((L ++ (call_ (zP A x y) (a_np A) a ++ crow (zP A x y) a b)).length) dX0_gather_95 rfl t2 (by decide) (by first | exact hL.1 | (rw [mm_upn _ _ _ dd.1]; exact hL.1)) (ll) ?_
          refine mm_aload_0 97 dX0_gather_96 rfl ?_
          refine mm_dup 98 dX0_gather_97 rfl rfl ?_
          refine mm_getI 101 dX0_gather_98 f_X0_18 rfl ho rfl ?_
          refine mm_iconst 102 1 dX0_gather_101 rfl (by decide) ?_
          refine mm_iadd 103 dX0_gather_102 rfl ?_
          refine mm_putI 106 dX0_gather_103 p_X0_18 ⟨rfl, rfl⟩ rfl ho rfl ?_
          refine mm_iinc_4 109 1 dX0_gather_106 rfl (by decide) rfl ?_
          refine mm_goto 16 dX0_gather_109 (by decide) ?_
          rw [nI_1]
          refine ih (a_np A - (b + 1)) (by omega) (b + 1) _ (Nat.le_refl _) (by omega) ?_ hk.u1.u2.u0
          have e : L ++ (call_ (zP A x y) (a_np A) a ++ crow (zP A x y) a (b + 1)) = (L ++ (call_ (zP A x y) (a_np A) a ++ crow (zP A x y) a b)) ++ [(a, b)] := by rw [crow_t pt]; simp only [List.append_assoc]
          rw [e, mm_upn _ _ _ dd.2.1, mm_upn _ _ _ dd.1, hL.1, nI_1]
          exact hL.add dd a b
        · refine mm_if_eq 106 66 dX0_gather_63 (by decide) rfl (fun _ => ?_) (fun h => absurd h (by decide))
          refine mm_iinc_4 109 1 dX0_gather_106 rfl (by decide) rfl ?_
          refine mm_goto 16 dX0_gather_109 (by decide) ?_
          rw [nI_1]
          have no : ¬ zP A x y a b = true := fun q => by
            obtain ⟨q1, q2, q3⟩ := zP_i q
            exact h7 (by rw [v_may hd wi]; exact q3)
          have hh := ih (a_np A - (b + 1)) (by omega) (b + 1) Mi (Nat.le_refl _) (by omega) (by rw [crow_f no]; exact hL) hk
          exact hh

set_option maxHeartbeats 4000000 in
theorem w_X0_gather1 {l : Launch} {G : mm_G} {d : Nat} {M : mm_M} {Q : mm_T → mm_M → Prop} {o o1 o2 : Nat} (ho : T0[o]? = some (0, 0, [some (some 20), some (some 7), some (some o1), some (some o2), none])) (t1 : T0[o1]? = some (13, 36, [])) (t2 : T0[o2]? = some (13, 36, [])) (db : (27 ≤ o ∧ o ≤ 37) ∧ (27 ≤ o1 ∧ o1 ≤ 37) ∧ (27 ≤ o2 ∧ o2 ≤ 37)) (dd : o ≠ o1 ∧ o ≠ o2 ∧ o1 ≠ o2) {A : mm_M} (hi : iv A) (hf : fr A M) {B : Nat} (hw : v_w M (zE A) (a_nl A) (a_np A) B) {x y : Int32} {L : List (Nat × Nat)} (hb : L.length + cn2 (zP A x y) (a_np A) (a_np A) ≤ 36) (h : ∀ M1, crep M1 o o1 o2 (L ++ call_ (zP A x y) (a_np A) (a_np A)) → ks o o1 o2 M M1 → Q T0 M1) : ∀ (z a : Nat) (Mi : mm_M) {x4 : Value}, a_np A - a ≤ z → a ≤ a_np A → crep Mi o o1 o2 (L ++ call_ (zP A x y) (a_np A) a) → ks o o1 o2 M Mi → mm_wp l G (d + 2) k_X0_gather (mm_pv Q) 2 [.ref o, .int x, .int y, .int (nI a), x4] [] T0 Mi 0 0 := by
  have n12 := hi.1.np
  have hni : (nI (a_np A)).toInt = a_np A := mm_ti (by omega)
  intro z
  induction z using Nat.strongRecOn with | _ z ih => ?_
  intro a Mi x4 hze hbn hL hk
  have hbi : (nI a).toInt = a := mm_ti (by omega)
  have fi : fr A Mi := hf.kk (hk.kk db)
  have wi : v_w Mi (zE A) (a_nl A) (a_np A) B := hw.kk (hk.kk db)
  have hd := zE_d hi fi.lo
  have k7e : Mi 7 4 = nI (a_np A) := hd.1.2.2.2.2.1
  have hom : ∀ p, p < a_np A → s_X4_homeOf Mi (nI p) = z_w A p 1 := fun p hp => by
    unfold s_X4_homeOf
    rw [hd.1.pi, mm_ti (by omega), mm_cn (by omega), if_pos ⟨by omega, by omega⟩, fi.a 9]
    exact (hi.2.2.1.2.2.2.2.2 p hp).2.1
  refine mm_iload_3 3 dX0_gather_2 rfl ?_
  refine mm_aload_0 4 dX0_gather_3 rfl ?_
  refine mm_getR 7 dX0_gather_4 f_X0_26 rfl ho rfl ?_
  refine mm_cV0i 10 dX0_gather_7 v_X0_30 rfl t_7 (by decide) rfl rfl (Nat.le_of_ble_eq_true rfl) ⟨rfl, rfl⟩ ⟨Nat.zero_le _, Nat.zero_le _⟩ (c_X4_number  (fun r1 e1 => ?_))
  rw [e1, k7e]
  refine mm_ic_ge 118 13 dX0_gather_10 (by decide) rfl (fun h2 => ?_) (fun h2 => ?_)
  · refine mm_vret dX0_gather_118 rfl ⟨rfl, Nat.zero_le _⟩ ?_
    have hz : a = a_np A := by (try simp only [hbi, hni, Int32.lt_iff_toInt_lt, Int32.le_iff_toInt_le, ← Int32.toInt_inj, vp_in_iff, Int32.reduceToInt, mm_t1, mm_t2, mm_t3, mm_t4, mm_t10] at h2); omega
    rw [hz] at hL
    exact h Mi hL hk
  · have hlt : a < a_np A := by (try simp only [hbi, hni, Int32.lt_iff_toInt_lt, Int32.le_iff_toInt_le, ← Int32.toInt_inj, vp_in_iff, Int32.reduceToInt, mm_t1, mm_t2, mm_t3, mm_t4, mm_t10] at h2); omega
    refine mm_iconst 14 0 dX0_gather_13 rfl (by decide) ?_
    refine mm_istore_4 16 dX0_gather_14 rfl rfl ?_
    exact w_X0_gather2 ho t1 t2 db dd hi hf hw hb hlt (fun Mj c1 c2 => ih (a_np A - (a + 1)) (by omega) (a + 1) Mj (Nat.le_refl _) (by omega) c1 c2) (a_np A) 0 Mi (by omega) (by omega) (by rw [show crow (zP A x y) a 0 = [] from rfl, List.append_nil]; exact hL) hk

set_option maxHeartbeats 4000000 in
theorem c_X0_gather {l : Launch} {G : mm_G} {d : Nat} {M : mm_M} {Q : mm_T → mm_M → Prop} {o o1 o2 : Nat} (ho : T0[o]? = some (0, 0, [some (some 20), some (some 7), some (some o1), some (some o2), none])) (t1 : T0[o1]? = some (13, 36, [])) (t2 : T0[o2]? = some (13, 36, [])) (db : (27 ≤ o ∧ o ≤ 37) ∧ (27 ≤ o1 ∧ o1 ≤ 37) ∧ (27 ≤ o2 ∧ o2 ≤ 37)) (dd : o ≠ o1 ∧ o ≠ o2 ∧ o1 ≠ o2) {A : mm_M} (hi : iv A) (hf : fr A M) {B : Nat} (hw : v_w M (zE A) (a_nl A) (a_np A) B) {x y : Int32} {L : List (Nat × Nat)} (hb : L.length + cn2 (zP A x y) (a_np A) (a_np A) ≤ 36) (hL : crep M o o1 o2 L) (h : ∀ M1, crep M1 o o1 o2 (L ++ call_ (zP A x y) (a_np A) (a_np A)) → ks o o1 o2 M M1 → Q T0 M1) : mm_met l G (d + 2) k_X0_gather [.ref o, .int x, .int y] T0 M (mm_pv Q) := by
  refine mm_enter 2 [.ref o, .int x, .int y, .double 0, .double 0] o_X0_gather rfl rfl ?_
  refine mm_iconst 1 0 dX0_gather_0 rfl (by decide) ?_
  refine mm_istore_3 2 dX0_gather_1 rfl rfl ?_
  exact w_X0_gather1 ho t1 t2 db dd hi hf hw hb h (a_np A) 0 M (by omega) (by omega) (by rw [show call_ (zP A x y) (a_np A) 0 = [] from rfl, List.append_nil]; exact hL) ks.rf

