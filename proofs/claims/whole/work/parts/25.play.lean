/-! The class's play and the reference's go together: the steps -/
theorem mm_ii {x y : Int32} (h : x.toInt = y.toInt) : x = y := Int32.toInt_inj.mp h
theorem mm_lt {x y : Int32} : x < y ↔ x.toInt < y.toInt := Int32.lt_iff_toInt_lt
theorem mm_le {x y : Int32} : x ≤ y ↔ x.toInt ≤ y.toInt := Int32.le_iff_toInt_le
theorem mm_noop (M : mm_M) (c f : Nat) : mm_up M c f (M c f) = M := by
  funext i j
  by_cases h1 : i = c
  · subst h1
    by_cases h2 : j = f
    · subst h2; simp [mm_up, va_up, upd]
    · simp [mm_up, va_up, upd, h2]
  · simp [mm_up, va_up, h1]
theorem mm_comm1 (X : mm_M) (c a b : Nat) (v w : Int32) (h : a ≠ b ∨ v = w) : mm_up (mm_up X c a v) c b w = mm_up (mm_up X c b w) c a v := by
  funext i j
  by_cases h1 : i = c
  · subst h1
    simp only [mm_upc, upd]
    by_cases h2 : j = a
    · by_cases h3 : j = b
      · rcases h with h | h
        · exact absurd (h2.symm.trans h3) h
        · simp [h2, h3, h]
      · simp [h2, h3]
        intro h4; exact absurd (h2.trans h4) h3
    · simp [h2]
  · simp [mm_up, va_up, h1]
theorem v_d.pi {M X : mm_M} {nl np ne : Nat} (h : v_d M X nl np ne) : (X 51 10).toInt = np := by rw [h.2.2.1]; exact mm_ti (by have := h.1.2.1; omega)
theorem v_d.li {M X : mm_M} {nl np ne : Nat} (h : v_d M X nl np ne) : (X 51 8).toInt = nl := by rw [h.2.1]; exact mm_ti (by have := h.1.1; omega)
theorem v_may {M X : mm_M} {nl np ne B : Nat} (hd : v_d M X nl np ne) (hw : v_w M X nl np B) (a b : Nat) : h_mm M a b = g_may X a b := by
  have p1 := hd.1.pi
  have p2 := hd.pi
  unfold h_mm g_may h_match g_free g_next
  rw [p1, p2]
  by_cases qa : a < np
  · by_cases qb : b < np
    · obtain ⟨⟨a1, a2, -, -⟩, -⟩ := hd.2.2.2.2.2.1 a qa
      obtain ⟨⟨b1, b2, -, -⟩, -⟩ := hd.2.2.2.2.2.1 b qb
      obtain ⟨a3, -, a4, a5⟩ := hw.2.1 a qa
      obtain ⟨b3, -, b4, b5⟩ := hw.2.1 b qb
      rw [a1, a2, b1, b2, a3, a4, b3, b4]
      have qa' : (a : Int) < np := by omega
      have qb' : (b : Int) < np := by omega
      have e0 : ¬ (1 : Int32) = 0 := by decide
      have e1 : ¬ (0 : Int32) = 1 := by decide
      rcases a5 with a5 | a5 <;> rcases b5 with b5 | b5 <;> simp [qa, qb, a5, b5, e0, e1]
      cases decide (X 63 a = -1) <;> cases decide (X 63 b = -1) <;> simp [Bool.and_comm]
    · have qb' : ¬ (b : Int) < np := by omega
      simp [qb]
  · have qa' : ¬ (a : Int) < np := by omega
    simp [qa]
theorem v_sh {M X : mm_M} {nl np ne : Nat} (hd : v_d M X nl np ne) {a : Nat} (ha : a < np) {x h : Int32} (hx : x = nI a) (h6 : 6 ≤ h.toInt) (h18 : h.toInt ≤ 18) : h_sh M x h = g_sh X a h ∧ 0 ≤ (g_sh X a h).toInt ∧ (g_sh X a h).toInt ≤ 126 := by
  have p12 := hd.1.2.1
  obtain ⟨⟨-, -, a1, a2⟩, -, b1, b2⟩ := hd.2.2.2.2.2.1 a ha
  have p1 := hd.1.pi
  have xi : x.toInt = a := by rw [hx]; exact mm_ti (by omega)
  have xc : x.toNatClampNeg = a := by rw [hx]; exact mm_cn (by omega)
  have s1 := mm_add (a := X 59 (4 * a + 2)) (b := X 59 (4 * a + 3)) (by omega)
  have c12 : (12 : Int32).toInt = 12 := by decide
  have c1 : (1 : Int32).toInt = 1 := by decide
  have c0 : (0 : Int32).toInt = 0 := by decide
  have f : ∀ k : Int32, 0 ≤ k.toInt → k.toInt ≤ 6 → 0 ≤ ((X 59 (4 * a + 2) + X 59 (4 * a + 3)) * (1 + k)).toInt ∧ ((X 59 (4 * a + 2) + X 59 (4 * a + 3)) * (1 + k)).toInt ≤ 126 := by
    intro k k0 k6
    have s2 := mm_add (a := 1) (b := k) (by omega)
    have m0 : 0 ≤ (X 59 (4 * a + 2) + X 59 (4 * a + 3)).toInt * (1 + k).toInt := Int.mul_nonneg (by omega) (by omega)
    have m1 : (X 59 (4 * a + 2) + X 59 (4 * a + 3)).toInt * (1 + k).toInt ≤ 18 * 7 := Int.mul_le_mul (by omega) (by omega) (by omega) (by omega)
    rw [mm_mul (by omega)]
    omega
  unfold h_sh g_sh
  rw [p1, xi, xc, a1, a2, if_pos ⟨by omega, by omega⟩]
  have d1 := mm_sub (a := h) (b := 12) (by omega)
  have d2 := mm_sub (a := 12) (b := h) (by omega)
  by_cases q : h.toInt < 12
  · have e : h_abs (h - 12) = 12 - h := by
      unfold h_abs
      have q1 : ¬ (0 : Int32) ≤ h - 12 := by rw [mm_le]; omega
      rw [if_neg q1]
      apply mm_ii
      rw [mm_sub (by omega)]
      omega
    rw [e, if_pos q]
    exact ⟨rfl, f _ (by omega) (by omega)⟩
  · have e : h_abs (h - 12) = h - 12 := by
      unfold h_abs
      have q1 : (0 : Int32) ≤ h - 12 := by rw [mm_le]; omega
      rw [if_pos q1]
    rw [e, if_neg q]
    exact ⟨rfl, f _ (by omega) (by omega)⟩
theorem v_d.a {M X : mm_M} {nl np ne e : Nat} (hd : v_d M X nl np ne) (he : e < ne) : h_a M e = g_a X e := by
  unfold h_a g_a
  rw [(hd.2.2.2.2.2.2.2 e he).1.2.2.1]
theorem v_d.b {M X : mm_M} {nl np ne e : Nat} (hd : v_d M X nl np ne) (he : e < ne) (h0 : X 61 (5 * e) = 0) : h_b M e = g_b X e := by
  unfold h_b g_b
  rw [(hd.2.2.2.2.2.2.2 e he).1.2.2.2.1 h0]
theorem v_dif {M X : mm_M} {nl np ne e : Nat} (hd : v_d M X nl np ne) (he : e < ne) (h0 : X 61 (5 * e) = 0) (ha : g_a X e < np) (hb : g_b X e < np) : h_dif M e = g_by X e ∧ -126 ≤ (g_by X e).toInt ∧ (g_by X e).toInt ≤ 126 := by
  obtain ⟨⟨e1, e2, e3, e4, e5⟩, ev, t1, t2⟩ := hd.2.2.2.2.2.2.2 e he
  have s1 := v_sh hd ha (ev.a.1) t1 t2
  have s2 := v_sh hd hb (ev.b.1) t1 t2
  unfold h_dif g_by s_X6_cloudsIn
  rw [e2, e3, e4 h0, e5, s1.1, s2.1, if_pos ev.2.2.1, show (X 61 (5 * e + 1)).toNatClampNeg = g_w X e from rfl, hd.2.2.2.2.2.2.1 _ ev.w.2]
  refine ⟨rfl, ?_⟩
  split
  · decide
  · rw [mm_sub (by omega)]
    omega
theorem v_law {M X : mm_M} {nl np ne B e : Nat} (hd : v_d M X nl np ne) (hw : v_w M X nl np B) (he : e < ne) : h_law M np e = g_law X e := by
  obtain ⟨⟨e1, e2, e3, e4, e5⟩, ev, t1, t2⟩ := hd.2.2.2.2.2.2.2 e he
  unfold h_law g_law
  rw [e1, hd.a he, hd.pi]
  by_cases h0 : X 61 (5 * e) = 0
  · rw [if_pos h0, if_pos h0, hd.b he h0, v_may hd hw]
  · rw [if_neg h0, if_neg h0]
    by_cases q : g_a X e < np
    · obtain ⟨a3, -, a4, a5⟩ := hw.2.1 _ q
      have e0 : ¬ (1 : Int32) = 0 := by decide
      have e1 : ¬ (0 : Int32) = 1 := by decide
      rw [a3, a4]
      rcases a5 with a5 | a5 <;> simp [q, a5, e0, e1]
    · simp [q]
theorem v_mn {x y : Int32} : h_min x y = g_mn y x := by
  unfold h_min g_mn
  simp only [mm_lt]
theorem v_part {M X : mm_M} {nl np B a : Nat} (hn : nl ≤ 6) (hnp : np ≤ 12) (hw : v_w M X nl np B) (ha : a < np) (hm : ¬ X 63 a = -1) : h_dm M a = g_pm X a ∧ v_w (h_dx M a) (g_px X a) nl np B := by
  obtain ⟨⟨q, hq, e63⟩, e25, h64, ⟨t, ht, e26, hor⟩, hm1, hdj⟩ := hw.2.2.1 a ha hm
  obtain ⟨w1, w2, w3⟩ := hw.1 t ht
  have e22 : M 22 a = nI q := (hw.2.1 a ha).1.trans e63
  have c26 : (M 26 a).toNatClampNeg = t := by rw [e26]; exact mm_cn (by omega)
  have c22 : (M 22 a).toNatClampNeg = q := by rw [e22]; exact mm_cn (by omega)
  have c63 : (X 63 a).toNatClampNeg = q := by rw [e63]; exact mm_cn (by omega)
  have z0 : (0 : Int32).toInt = 0 := by decide
  unfold h_dx g_px
  rw [show h_dm M a = h_min (X 64 a) (X 62 t) by unfold h_dm; rw [e25, c26, w1], c26, c22, c63, v_mn, w1]
  by_cases z : X 64 a = 0
  · have k0 : g_mn (X 62 t) 0 = 0 := by unfold g_mn; rw [if_neg (by omega)]
    have kp : g_pm X a = 0 := by
      unfold g_pm
      split
      · rfl
      · rename_i hne
        obtain ⟨t2, ht2, e2⟩ := hdj.resolve_left hne
        rw [e2, mm_cn (by omega), z]
        unfold g_mn
        rw [if_neg (by have := (hw.1 t2 ht2).2.1; omega)]
    have kx : (if X 65 a = -1 then X else g_tk X (X 65 a).toNatClampNeg (X 64 a)) = X := by
      split
      · rfl
      · rename_i hne
        obtain ⟨t2, ht2, e2⟩ := hdj.resolve_left hne
        unfold g_tk
        rw [e2, mm_cn (by omega), z]
        have : g_mn (X 62 t2) 0 = 0 := by unfold g_mn; rw [if_neg (by have := (hw.1 t2 ht2).2.1; omega)]
        rw [this, Int32.sub_zero, mm_noop]
    rw [z, k0, kp, Int32.sub_zero, ← w1, mm_noop]
    rw [z] at kx
    rw [kx]
    refine ⟨rfl, ?_⟩
    rw [mm_comm1 X 63 a q _ _ (Or.inr rfl)]
    exact hw.free.free
  · have et := hor.resolve_right z
    have hne : ¬ X 65 a = -1 := by rw [et]; exact h_nn (by omega)
    unfold g_pm
    rw [if_neg hne, if_neg hne, et, mm_cn (by omega)]
    refine ⟨rfl, ?_⟩
    rw [mm_comm1 _ 63 a q _ _ (Or.inr rfl)]
    have b1 : 0 ≤ (g_mn (X 62 t) (X 64 a)).toInt ∧ (g_mn (X 62 t) (X 64 a)).toInt ≤ (X 62 t).toInt := by
      unfold g_mn
      split <;> omega
    have b2 := mm_bd (X 62 t)
    exact ((hw.wid (j := t) (w := X 62 t - g_mn (X 62 t) (X 64 a)) rfl (by rw [mm_sub (by omega)]; omega) (Nat.le_refl _)).free (a := q)).free (a := a)
theorem v_d.ho {M X : mm_M} {nl np ne p : Nat} (hd : v_d M X nl np ne) (hp : p < np) : M 9 p = nI (g_ho X p) ∧ X 59 (4 * p + 1) = nI (g_ho X p) ∧ g_ho X p < nl ∧ h_hom M p = g_ho X p := by
  obtain ⟨⟨-, a2, -, -⟩, ⟨b1, b2⟩, -⟩ := hd.2.2.2.2.2.1 p hp
  have c := mm_cl b1
  have e := mm_nc b1
  exact ⟨a2.trans e, e, by unfold g_ho; omega, by unfold h_hom g_ho; rw [a2]⟩
theorem v_next {M X : mm_M} {nl np ne a b : Nat} (hd : v_d M X nl np ne) (ha : a < np) (hb : b < np) (h : g_may X a b = true) : g_ho X a = g_ho X b + 1 ∨ g_ho X b = g_ho X a + 1 := by
  unfold g_may g_next at h
  simp only [Bool.and_eq_true, Bool.or_eq_true, decide_eq_true_eq] at h
  have h := h.2.2.2.2.2
  have n6 := hd.1.1
  obtain ⟨-, a1, a2, -⟩ := hd.ho ha
  obtain ⟨-, b1, b2, -⟩ := hd.ho hb
  rw [a1, b1] at h
  have ta := mm_ti (n := g_ho X a) (by omega)
  have tb := mm_ti (n := g_ho X b) (by omega)
  have s := mm_sub (a := nI (g_ho X a)) (b := nI (g_ho X b)) (by omega)
  have t1 : (1 : Int32).toInt = 1 := by decide
  rcases h with h | h
  · rw [h] at s; omega
  · rw [h, mm_t1] at s; omega
theorem h_bnd_20 (M : mm_M) (a : Nat) (y s t : Int32) : h_bnd M a y s t 20 = M 20 := by
  unfold h_bnd
  rw [mm_upn _ _ _ (by decide), mm_upn _ _ _ (by decide), mm_upn _ _ _ (by decide)]
theorem g_bnd_68 (M : mm_M) (a : Nat) (y s t : Int32) : g_bnd M a y s t 68 = M 68 := by
  unfold g_bnd
  rw [mm_upn _ _ _ (by decide), mm_upn _ _ _ (by decide), mm_upn _ _ _ (by decide)]
theorem v_bb {M X : mm_M} {nl np B a b t : Nat} {s w z : Int32} (h : v_w M X nl np B) (ha : a < np) (hb : b < np) (hs : 0 ≤ s.toInt) (ht : t < nl) (hz : z = nI t) (h1 : w = nI t ∨ s = 0) (h2 : w = -1 → s = 0) (h3 : w = -1 ∨ ∃ t, t < nl ∧ w = nI t) : v_w (h_bnd (h_bnd M a (nI b) s z) b (nI a) s z) (g_bnd (g_bnd X a (nI b) s w) b (nI a) s w) nl np B :=
  (h.bnd hb hs ht hz h1 h2 h3).bnd ha hs ht hz h1 h2 h3
theorem v_mar {M X : mm_M} {nl np ne B e : Nat} (hd : v_d M X nl np ne) (hw : v_w M X nl np B) (hB : B ≤ 100000) (he : e < ne) (h0 : X 61 (5 * e) = 0) (hm : g_may X (g_a X e) (g_b X e) = true) (hz : X 68 e = 0) : v_w (h_mar M (g_a X e) (g_b X e) (h_dif M e)) (g_wed X e) nl np (B + 126) ∧ h_mar M (g_a X e) (g_b X e) (h_dif M e) 20 11 = g_wed X e 68 e := by
  have hnp := g_may_np hm
  rw [hd.pi] at hnp
  have ha : g_a X e < np := by omega
  have hb : g_b X e < np := by omega
  have n6 := hd.1.1
  have hnx := v_next hd ha hb hm
  obtain ⟨hdf, b1, b2⟩ := v_dif hd he h0 ha hb
  obtain ⟨-, ev, -⟩ := hd.2.2.2.2.2.2.2 e he
  obtain ⟨m9a, x9a, la, ea⟩ := hd.ho ha
  obtain ⟨m9b, x9b, lb, eb⟩ := hd.ho hb
  obtain ⟨wa1, wa2, wa3⟩ := hw.1 _ la
  obtain ⟨wb1, wb2, wb3⟩ := hw.1 _ lb
  have ta := mm_ti (n := g_ho X (g_a X e)) (by omega)
  have tb := mm_ti (n := g_ho X (g_b X e)) (by omega)
  have z0 : (0 : Int32).toInt = 0 := by decide
  have hne : g_ho X (g_a X e) ≠ g_ho X (g_b X e) := by omega
  have hb3 : (nI (g_ho X (g_b X e)) = -1 ∨ ∃ t, t < nl ∧ nI (g_ho X (g_b X e)) = nI t) := Or.inr ⟨_, lb, rfl⟩
  have ha3 : (nI (g_ho X (g_a X e)) = -1 ∨ ∃ t, t < nl ∧ nI (g_ho X (g_a X e)) = nI t) := Or.inr ⟨_, la, rfl⟩
  have nna := h_nn (q := g_ho X (g_a X e)) (by omega)
  have nnb := h_nn (q := g_ho X (g_b X e)) (by omega)
  unfold h_mar g_wed
  simp only [g_wf_bnd, ev.a.1, ev.b.1]
  rw [hdf, ea, eb, m9a, m9b, wa1, wb1, ta, tb, mm_upc, show upd (M 21) (g_ho X (g_a X e)) (X 62 (g_ho X (g_a X e)) + h_gain (g_by X e) (X 62 (g_ho X (g_a X e))) (X 62 (g_ho X (g_b X e)))) (g_ho X (g_b X e)) = X 62 (g_ho X (g_b X e)) by simp [upd, Ne.symm hne, wb1]]
  simp only [h_bnd_20, mm_upv]
  by_cases q1 : 0 < (g_by X e).toInt
  · rw [if_pos q1]
    have eg : h_gain (g_by X e) (X 62 (g_ho X (g_a X e))) (X 62 (g_ho X (g_b X e))) = g_mn (X 62 (g_ho X (g_b X e))) (g_by X e) := by
      unfold h_gain
      rw [if_neg (by omega), v_mn]
    rw [eg]
    have bs : 0 ≤ (g_mn (X 62 (g_ho X (g_b X e))) (g_by X e)).toInt ∧ (g_mn (X 62 (g_ho X (g_b X e))) (g_by X e)).toInt ≤ 126 ∧ (g_mn (X 62 (g_ho X (g_b X e))) (g_by X e)).toInt ≤ (X 62 (g_ho X (g_b X e))).toInt := by
      unfold g_mn
      split <;> omega
    unfold g_wx g_tk
    rw [mm_upc, x9a, x9b, ta, tb]
    rw [show upd (X 62) (g_ho X (g_b X e)) (X 62 (g_ho X (g_b X e)) - g_mn (X 62 (g_ho X (g_b X e))) (g_by X e)) (g_ho X (g_a X e)) = X 62 (g_ho X (g_a X e)) by simp [upd, hne]]
    generalize g_mn (X 62 (g_ho X (g_b X e))) (g_by X e) = s at *
    have es : h_abs s = s := by
      unfold h_abs
      rw [if_pos (by rw [mm_le]; omega)]
    rw [es]
    refine ⟨?_, ?_⟩
    · have base := (((hw.wid (j := g_ho X (g_b X e)) (B' := B + 126) (w := X 62 (g_ho X (g_b X e)) - s) rfl (by rw [mm_sub (by omega)]; omega) (by omega)).wid (j := g_ho X (g_a X e)) (B' := B + 126) (w := X 62 (g_ho X (g_a X e)) + s) rfl (by rw [mm_add (by omega)]; omega) (by omega)).u68 (a := e) (v := if (g_ho X (g_a X e) : Int) < g_ho X (g_b X e) then s else -s)).uml (v := if (g_ho X (g_a X e) : Int) < g_ho X (g_b X e) then s else -s)
      rw [mm_comm1 M 21 _ _ _ _ (Or.inl (Ne.symm hne))] at base
      by_cases q : s.toInt ≤ 0
      · rw [if_pos q]
        exact v_bb base ha hb bs.1 lb rfl (Or.inr (mm_ii (by omega))) (fun h => absurd h nna) ha3
      · rw [if_neg q]
        exact v_bb base ha hb bs.1 la rfl (Or.inl rfl) (fun h => absurd h nna) ha3
    · rw [g_bnd_68, g_bnd_68, mm_upv]
  · rw [if_neg q1]
    by_cases q2 : (g_by X e).toInt < 0
    · rw [if_pos q2]
      have eg : h_gain (g_by X e) (X 62 (g_ho X (g_a X e))) (X 62 (g_ho X (g_b X e))) = -g_mn (X 62 (g_ho X (g_a X e))) (-g_by X e) := by
        unfold h_gain
        rw [if_pos q2, v_mn]
      have nby : (-g_by X e).toInt = -(g_by X e).toInt := by
        rw [← Int32.zero_sub, mm_sub (by omega)]; omega
      rw [eg]
      have bs : 0 ≤ (g_mn (X 62 (g_ho X (g_a X e))) (-g_by X e)).toInt ∧ (g_mn (X 62 (g_ho X (g_a X e))) (-g_by X e)).toInt ≤ 126 ∧ (g_mn (X 62 (g_ho X (g_a X e))) (-g_by X e)).toInt ≤ (X 62 (g_ho X (g_a X e))).toInt := by
        unfold g_mn
        split <;> omega
      unfold g_wx g_tk
      rw [mm_upc, x9a, x9b, ta, tb]
      rw [show upd (X 62) (g_ho X (g_a X e)) (X 62 (g_ho X (g_a X e)) - g_mn (X 62 (g_ho X (g_a X e))) (-g_by X e)) (g_ho X (g_b X e)) = X 62 (g_ho X (g_b X e)) by simp [upd, Ne.symm hne]]
      generalize g_mn (X 62 (g_ho X (g_a X e))) (-g_by X e) = s at *
      have ns : (-s).toInt = -s.toInt := by
        rw [← Int32.zero_sub, mm_sub (by omega)]; omega
      have nns : -(-s) = s := Int32.neg_neg
      have es : h_abs (-s) = s := by
        unfold h_abs
        split
        · rename_i q; rw [mm_le] at q; apply mm_ii; omega
        · rw [Int32.zero_sub]; exact nns
      have a1 : X 62 (g_ho X (g_a X e)) + -s = X 62 (g_ho X (g_a X e)) - s := (Int32.sub_eq_add_neg _ _).symm
      have a2 : X 62 (g_ho X (g_b X e)) - -s = X 62 (g_ho X (g_b X e)) + s := by rw [Int32.sub_eq_add_neg, nns]
      have mv : (if (g_ho X (g_a X e) : Int) < g_ho X (g_b X e) then -s else - -s) = if (g_ho X (g_b X e) : Int) < g_ho X (g_a X e) then s else -s := by
        rw [nns]
        by_cases q : (g_ho X (g_a X e) : Int) < g_ho X (g_b X e)
        · rw [if_pos q, if_neg (by omega)]
        · rw [if_neg q, if_pos (by omega)]
      rw [es, a1, a2, mv, if_pos (show (-s).toInt ≤ 0 by omega)]
      refine ⟨?_, ?_⟩
      · have base := (((hw.wid (j := g_ho X (g_a X e)) (B' := B + 126) (w := X 62 (g_ho X (g_a X e)) - s) rfl (by rw [mm_sub (by omega)]; omega) (by omega)).wid (j := g_ho X (g_b X e)) (B' := B + 126) (w := X 62 (g_ho X (g_b X e)) + s) rfl (by rw [mm_add (by omega)]; omega) (by omega)).u68 (a := e) (v := if (g_ho X (g_b X e) : Int) < g_ho X (g_a X e) then s else -s)).uml (v := if (g_ho X (g_b X e) : Int) < g_ho X (g_a X e) then s else -s)
        exact v_bb base ha hb bs.1 lb rfl (Or.inl rfl) (fun h => absurd h nnb) hb3
      · rw [g_bnd_68, g_bnd_68, mm_upv]
    · rw [if_neg q2]
      have eby : g_by X e = 0 := mm_ii (by omega)
      have eg : h_gain (g_by X e) (X 62 (g_ho X (g_a X e))) (X 62 (g_ho X (g_b X e))) = 0 := by
        unfold h_gain
        rw [if_neg (by omega), v_mn, eby]
        unfold g_mn
        rw [if_neg (by omega)]
      have e1 : (-0 : Int32) = 0 := by decide
      have e2 : h_abs 0 = 0 := by decide
      rw [eg, e1, e2, Int32.add_zero, Int32.sub_zero, ← wa1, mm_noop, ← wb1, mm_noop, if_pos (show (0 : Int32).toInt ≤ 0 by decide), ite_self]
      refine ⟨?_, ?_⟩
      · exact v_bb (hw.uml.mono (by omega)) ha hb (by decide) lb rfl (Or.inr rfl) (fun _ => rfl) (Or.inl rfl)
      · rw [g_bnd_68, g_bnd_68, hz]
theorem h_dx_20 (M : mm_M) (a : Nat) : h_dx M a 20 = M 20 := by
  unfold h_dx
  rw [mm_upn _ _ _ (by decide), mm_upn _ _ _ (by decide), mm_upn _ _ _ (by decide)]
theorem h_dx_23 (M : mm_M) (a : Nat) : h_dx M a 23 = M 23 := by
  unfold h_dx
  rw [mm_upn _ _ _ (by decide), mm_upn _ _ _ (by decide), mm_upn _ _ _ (by decide)]
theorem g_px_o (X : mm_M) (a c : Nat) (h : c ≠ 62 ∧ c ≠ 63) : g_px X a c = X c := by
  unfold g_px g_tk
  rw [mm_upn _ _ _ h.2, mm_upn _ _ _ h.2]
  split
  · rfl
  · rw [mm_upn _ _ _ h.1]
theorem v_do {M X : mm_M} {nl np ne B e : Nat} (hd : v_d M X nl np ne) (hw : v_w M X nl np B) (hB : B ≤ 100000) (he : e < ne) (hl : g_law X e = true) (hz : X 68 e = 0) (hz2 : M 20 11 = 0) : v_w (h_do M e) (g_do X e) nl np (B + 126) ∧ h_do M e 20 11 = g_do X e 68 e := by
  obtain ⟨⟨e1, -⟩, ev, -⟩ := hd.2.2.2.2.2.2.2 e he
  have n12 := hd.1.2.1
  unfold g_law at hl
  rw [hd.pi] at hl
  unfold h_do g_do
  rw [e1, hd.a he]
  by_cases h0 : X 61 (5 * e) = 0
  · rw [if_pos h0] at hl
    rw [if_pos h0, if_pos h0, hd.b he h0]
    exact v_mar hd hw hB he h0 hl hz
  · rw [if_neg h0] at hl
    rw [if_neg h0, if_neg h0]
    simp only [Bool.and_eq_true, decide_eq_true_eq] at hl
    have ha : g_a X e < np := by omega
    by_cases h1 : X 61 (5 * e) = 1
    · rw [if_pos h1] at hl
      rw [if_pos h1, if_pos h1]
      have hm : ¬ X 63 (g_a X e) = -1 := by simpa using hl.2
      obtain ⟨p1, p2⟩ := v_part hd.1.1 hd.1.2.1 hw ha hm
      unfold h_par
      rw [p1]
      refine ⟨((p2.uml.u68.sc (f := 10) (g := 21) (Or.inl ⟨rfl, rfl⟩) ?_).mono (by omega)), ?_⟩
      · rw [mm_upv, mm_upv]
        have := p2.2.2.2.1
        rw [show (mm_up (h_dx M (g_a X e)) 20 11 (g_pm X (g_a X e))) 20 10 = h_dx M (g_a X e) 20 10 by simp [mm_up, va_up, upd], mm_upn _ _ _ (show (51:Nat) ≠ 68 by decide), this]
      · rw [mm_upn _ _ _ (show (68:Nat) ≠ 51 by decide), mm_upv]
        simp [mm_up, va_up, upd]
    · rw [if_neg h1] at hl
      rw [if_neg h1, if_neg h1]
      have hal : X 67 (g_a X e) = 1 := by simpa using hl.2
      have e22 := (hw.2.1 _ ha).1
      unfold h_die
      rw [e22]
      by_cases hm : X 63 (g_a X e) = -1
      · rw [if_pos hm, if_pos hm]
        exact ⟨hw.dead.mono (by omega), by rw [mm_upn _ _ _ (by decide), mm_upn _ _ _ (by decide), hz, hz2]⟩
      · rw [if_neg hm, if_neg hm]
        have hm' : ¬ (mm_up X 67 (g_a X e) 0) 63 (g_a X e) = -1 := by rw [mm_upn _ _ _ (by decide)]; exact hm
        obtain ⟨p1, p2⟩ := v_part hd.1.1 hd.1.2.1 (hw.dead (a := g_a X e)) ha hm'
        obtain ⟨⟨q, hq, e63⟩, -⟩ := hw.2.2.1 _ ha hm
        have c63 : (X 63 (g_a X e)).toNatClampNeg = q := by rw [e63]; exact mm_cn (by omega)
        rw [p1, c63]
        refine ⟨((p2.uml.u68.prov ?_).mono (by omega)), ?_⟩
        · rw [mm_upv, mm_upv, mm_upn _ _ _ (show (23:Nat) ≠ 20 by decide), mm_upn _ _ _ (show (66:Nat) ≠ 68 by decide), (p2.2.1 q hq).2.1]
        · rw [mm_upn _ _ _ (show (68:Nat) ≠ 66 by decide), show ∀ (Y : mm_M) (v : Int32), mm_up Y 68 e v 68 e = v from fun Y v => mm_upv _ _ _ _, mm_upn _ _ _ (show (20:Nat) ≠ 23 by decide), mm_upv]
theorem v_one {M X : mm_M} {nl np ne B e : Nat} {y : Int32} (hd : v_d M X nl np ne) (hw : v_w M X nl np B) (hB : B ≤ 100000) (he : e < ne) (hy : ¬ nI e = y) : v_w (h_one M np e) (g_step X y e) nl np (B + 126) ∧ h_one M np e 20 11 = g_step X y e 68 e := by
  have hd' : v_d (mm_up M 20 11 0) (mm_up X 68 e 0) nl np ne := hd.kp (fun c hc => mm_upn _ _ _ (by omega)) (g_kp.rf.up (by decide))
  have hw' : v_w (mm_up M 20 11 0) (mm_up X 68 e 0) nl np B := hw.uml.u68
  have z1 : (mm_up X 68 e 0) 68 e = 0 := mm_upv _ _ _ _
  have z2 : (mm_up M 20 11 0) 20 11 = 0 := mm_upv _ _ _ _
  unfold h_one g_step
  rw [if_neg hy, v_law hd' hw' he]
  generalize mm_up M 20 11 0 = M' at *
  generalize mm_up X 68 e 0 = X' at *
  by_cases q : g_law X' e = true
  · rw [if_pos q, if_pos q]
    exact v_do hd' hw' hB he q z1 z2
  · rw [if_neg q, if_neg q]
    unfold h_no
    have e13 := hw'.2.2.2.2.2
    have e12 := hw'.2.2.2.2.1
    rw [e13, e12]
    by_cases q2 : X' 51 24 = -1
    · rw [if_pos q2, if_pos q2]
      exact ⟨((hw'.sc (Or.inr (Or.inl ⟨rfl, rfl⟩)) rfl).sc (Or.inr (Or.inr ⟨rfl, rfl⟩)) rfl).mono (by omega), by rw [mm_upn _ _ _ (show (68:Nat) ≠ 51 by decide), mm_upn _ _ _ (show (68:Nat) ≠ 51 by decide), z1]; simp [mm_up, va_up, upd]; exact z2⟩
    · rw [if_neg q2, if_neg q2]
      refine ⟨?_, by rw [mm_upn _ _ _ (show (68:Nat) ≠ 51 by decide), mm_upn _ _ _ (show (68:Nat) ≠ 51 by decide), z1]; simp [mm_up, va_up, upd]; exact z2⟩
      have hh := (hw'.sc (f := 12) (g := 23) (v := X' 51 23 + 1) (Or.inr (Or.inl ⟨rfl, rfl⟩)) rfl)
      have e24 : (mm_up X' 51 23 (X' 51 23 + 1)) 51 24 = X' 51 24 := by simp [mm_up, va_up, upd]
      rw [show X' 51 24 = (mm_up X' 51 23 (X' 51 23 + 1)) 51 24 from e24.symm, mm_noop]
      exact hh.mono (by omega)
theorem v_beg {M X : mm_M} {nl np ne : Nat} (hd : v_d M X nl np ne) : v_w (h_beg M) (g_beg X) nl np 99 := by
  have n6 := hd.1.1
  have n12 := hd.1.2.1
  unfold h_beg g_beg h_b0 g_b0
  refine ⟨fun j hj => ?_, fun p hp => ?_, fun p hp hn => ?_, by simp [mm_up, va_up, upd], by simp [mm_up, va_up, upd], by simp [mm_up, va_up, upd]⟩
  · obtain ⟨a1, a2, a3⟩ := hd.2.2.2.2.1 j hj
    have tj := mm_ti (n := j) (by omega)
    have cj := mm_cn (n := j) (by omega)
    have e : s_X3_toldWidth M (nI j) = X 58 j := by
      unfold s_X3_toldWidth
      rw [hd.1.li, tj, cj, if_pos ⟨by omega, by omega⟩, a1]
    have l1 := hd.li
    simp [mm_up, va_up, show j < 6 by omega, l1, hj, e]
    omega
  · simp [mm_up, va_up, show p < 12 by omega]
  · simp [mm_up, va_up, show p < 12 by omega] at hn
theorem v_run {M X : mm_M} {nl np ne : Nat} {y : Int32} (hd : v_d M X nl np ne) (hx : g_pre X) : ∀ k, k ≤ ne → v_w (h_run M np y k) (g_run X y k) nl np (99 + 126 * k)
  | 0, _ => v_beg hd
  | k + 1, hk => by
    have ih := v_run hd hx (y := y) k (by omega)
    have k1 := (h_run_ok hd.1 (y := y) k).1
    have k2 := (g_run_ok hx (y := y) k (fun e he => (hd.2.2.2.2.2.2.2 e (by omega)).2.1)).1
    have hd' := hd.kp k1.lo k2
    have n24 := hd.1.2.2.1
    unfold h_run g_run
    by_cases q : nI k = y
    · rw [if_pos q]
      unfold g_step
      rw [if_pos q]
      exact (ih.u68).mono (by omega)
    · rw [if_neg q]
      exact (v_one hd' ih (by omega) (by omega) q).1.mono (by omega)
theorem v_last {M X : mm_M} {nl np ne : Nat} {y : Int32} (hd : v_d M X nl np ne) (hx : g_pre X) (k : Nat) (hk : k < ne) (hy : ¬ nI k = y) : h_run M np y (k + 1) 20 11 = g_run X y (k + 1) 68 k := by
  have ih := v_run hd hx (y := y) k (by omega)
  have k1 := (h_run_ok hd.1 (y := y) k).1
  have k2 := (g_run_ok hx (y := y) k (fun e he => (hd.2.2.2.2.2.2.2 e (by omega)).2.1)).1
  have hd' := hd.kp k1.lo k2
  have n24 := hd.1.2.2.1
  unfold h_run g_run
  rw [if_neg hy]
  exact (v_one hd' ih (by omega) (by omega) hy).2
