/-! The class's play and the reference's go together -/
def v_d (M X : mm_M) (nl np ne : Nat) : Prop :=
  h_ok M nl np ne ∧ X 51 8 = nI nl ∧ X 51 10 = nI np ∧ X 51 13 = nI ne ∧ (∀ j, j < nl → M 6 j = X 58 j ∧ 0 ≤ (X 58 j).toInt ∧ (X 58 j).toInt ≤ 99) ∧
  (∀ p, p < np → (M 8 p = X 59 (4 * p) ∧ M 9 p = X 59 (4 * p + 1) ∧ M 10 p = X 59 (4 * p + 2) ∧ M 11 p = X 59 (4 * p + 3)) ∧ (0 ≤ (X 59 (4 * p + 1)).toInt ∧ (X 59 (4 * p + 1)).toInt < nl) ∧ (0 ≤ (X 59 (4 * p + 2)).toInt ∧ (X 59 (4 * p + 2)).toInt ≤ 9) ∧ 0 ≤ (X 59 (4 * p + 3)).toInt ∧ (X 59 (4 * p + 3)).toInt ≤ 9) ∧
  (∀ w, w < 52 → M 13 w = X 60 w) ∧
  (∀ e, e < ne → (M 16 e = X 61 (5 * e) ∧ M 15 e = X 61 (5 * e + 1) ∧ M 17 e = X 61 (5 * e + 2) ∧ (X 61 (5 * e) = 0 → M 18 e = X 61 (5 * e + 3)) ∧ M 19 e = X 61 (5 * e + 4)) ∧ g_ev X e ∧ 6 ≤ (X 61 (5 * e + 4)).toInt ∧ (X 61 (5 * e + 4)).toInt ≤ 18)
theorem v_d.kp {M X M2 X2 : mm_M} {nl np ne : Nat} (h : v_d M X nl np ne) (hm : ∀ c, c < 20 → M2 c = M c) (hx : g_kp X X2) : v_d M2 X2 nl np ne := by
  obtain ⟨h1, h2, h3, h4, h5, h6, h7, h8⟩ := h
  refine ⟨h1.kp hm, by rw [hx.2 8 (by decide) (by decide) (by decide)]; exact h2, by rw [hx.2 10 (by decide) (by decide) (by decide)]; exact h3, by rw [hx.2 13 (by decide) (by decide) (by decide)]; exact h4, ?_, ?_, ?_, ?_⟩
  · rw [hm 6 (by decide), hx.1 58 (by decide) (by decide)]; exact h5
  · rw [hm 8 (by decide), hm 9 (by decide), hm 10 (by decide), hm 11 (by decide), hx.1 59 (by decide) (by decide)]; exact h6
  · rw [hm 13 (by decide), hx.1 60 (by decide) (by decide)]; exact h7
  · rw [hm 16 (by decide), hm 15 (by decide), hm 17 (by decide), hm 18 (by decide), hm 19 (by decide), hx.1 61 (by decide) (by decide)]
    intro e he
    exact ⟨(h8 e he).1, (h8 e he).2.1.kp hx, (h8 e he).2.2⟩
/-- of one who is wed -/
def v_m (M X : mm_M) (nl np p : Nat) : Prop := (∃ q, q < np ∧ X 63 p = nI q) ∧ M 25 p = X 64 p ∧ 0 ≤ (X 64 p).toInt ∧ (∃ t, t < nl ∧ M 26 p = nI t ∧ (X 65 p = nI t ∨ X 64 p = 0)) ∧ (X 65 p = -1 → X 64 p = 0) ∧ (X 65 p = -1 ∨ ∃ t, t < nl ∧ X 65 p = nI t)
def v_w (M X : mm_M) (nl np B : Nat) : Prop :=
  (∀ j, j < nl → M 21 j = X 62 j ∧ 0 ≤ (X 62 j).toInt ∧ (X 62 j).toInt ≤ B) ∧ (∀ p, p < np → M 22 p = X 63 p ∧ M 23 p = X 66 p ∧ M 24 p = X 67 p ∧ (X 67 p = 0 ∨ X 67 p = 1)) ∧ (∀ p, p < np → ¬ X 63 p = -1 → v_m M X nl np p) ∧ M 20 10 = X 51 21 ∧ M 20 12 = X 51 23 ∧ M 20 13 = X 51 24
theorem v_w.mono {M X : mm_M} {nl np B B' : Nat} (h : v_w M X nl np B) (hB : B ≤ B') : v_w M X nl np B' := ⟨fun j hj => ⟨(h.1 j hj).1, (h.1 j hj).2.1, by have := (h.1 j hj).2.2; omega⟩, h.2⟩
theorem v_w.r {M X : mm_M} {nl np B f : Nat} {c a : Nat} {v : Int32} (h : v_w M X nl np B) (hc : c = 68 ∨ c = 20 ∧ a = f) : c = 68 → v_w M (mm_up X c a v) nl np B := by
  intro e
  subst e
  unfold v_w v_m at h ⊢
  simpa [mm_upn _ _ _ (show (62:Nat) ≠ 68 by decide), mm_upn _ _ _ (show (63:Nat) ≠ 68 by decide), mm_upn _ _ _ (show (64:Nat) ≠ 68 by decide), mm_upn _ _ _ (show (65:Nat) ≠ 68 by decide), mm_upn _ _ _ (show (66:Nat) ≠ 68 by decide), mm_upn _ _ _ (show (67:Nat) ≠ 68 by decide), mm_upn _ _ _ (show (51:Nat) ≠ 68 by decide)] using h
theorem v_w.u68 {M X : mm_M} {nl np B a : Nat} {v : Int32} (h : v_w M X nl np B) : v_w M (mm_up X 68 a v) nl np B := h.r (f := 0) (Or.inl rfl) rfl
theorem v_w.uml {M X : mm_M} {nl np B : Nat} {v : Int32} (h : v_w M X nl np B) : v_w (mm_up M 20 11 v) X nl np B := by
  obtain ⟨h1, h2, h3, h4, h5, h6⟩ := h
  refine ⟨by rw [mm_upn _ _ _ (by decide)]; exact h1, by rw [mm_upn _ _ _ (show (22:Nat) ≠ 20 by decide), mm_upn _ _ _ (show (23:Nat) ≠ 20 by decide), mm_upn _ _ _ (show (24:Nat) ≠ 20 by decide)]; exact h2, ?_, by simp [mm_up, va_up, upd, h4], by simp [mm_up, va_up, upd, h5], by simp [mm_up, va_up, upd, h6]⟩
  unfold v_m at h3 ⊢
  rw [mm_upn _ _ _ (show (25:Nat) ≠ 20 by decide), mm_upn _ _ _ (show (26:Nat) ≠ 20 by decide)]
  exact h3
theorem v_w.wid {M X : mm_M} {nl np B B' j : Nat} {v w : Int32} (h : v_w M X nl np B) (e : v = w) (hv : 0 ≤ w.toInt ∧ w.toInt ≤ B') (hB : B ≤ B') : v_w (mm_up M 21 j v) (mm_up X 62 j w) nl np B' := by
  subst e
  obtain ⟨h1, h2, h3, h4, h5, h6⟩ := h
  refine ⟨fun i hi => ?_, by rw [mm_upn _ _ _ (show (22:Nat) ≠ 21 by decide), mm_upn _ _ _ (show (23:Nat) ≠ 21 by decide), mm_upn _ _ _ (show (24:Nat) ≠ 21 by decide), mm_upn _ _ _ (show (63:Nat) ≠ 62 by decide), mm_upn _ _ _ (show (66:Nat) ≠ 62 by decide), mm_upn _ _ _ (show (67:Nat) ≠ 62 by decide)]; exact h2, ?_, by rw [mm_upn _ _ _ (by decide), mm_upn _ _ _ (by decide)]; exact h4, by rw [mm_upn _ _ _ (by decide), mm_upn _ _ _ (by decide)]; exact h5, by rw [mm_upn _ _ _ (by decide), mm_upn _ _ _ (by decide)]; exact h6⟩
  · rw [mm_upc, mm_upc]
    by_cases q : i = j
    · simp only [upd, if_pos q]; exact ⟨trivial, hv⟩
    · simp only [upd, if_neg q]; exact ⟨(h1 i hi).1, (h1 i hi).2.1, by have := (h1 i hi).2.2; omega⟩
  · unfold v_m at h3 ⊢
    rw [mm_upn _ _ _ (show (25:Nat) ≠ 21 by decide), mm_upn _ _ _ (show (26:Nat) ≠ 21 by decide), mm_upn _ _ _ (show (63:Nat) ≠ 62 by decide), mm_upn _ _ _ (show (64:Nat) ≠ 62 by decide), mm_upn _ _ _ (show (65:Nat) ≠ 62 by decide)]
    exact h3
theorem v_w.free {M X : mm_M} {nl np B a : Nat} (h : v_w M X nl np B) : v_w (mm_up M 22 a (-1)) (mm_up X 63 a (-1)) nl np B := by
  obtain ⟨h1, h2, h3, h4, h5, h6⟩ := h
  refine ⟨by rw [mm_upn _ _ _ (show (21:Nat) ≠ 22 by decide), mm_upn _ _ _ (show (62:Nat) ≠ 63 by decide)]; exact h1, fun p hp => ?_, fun p hp hn => ?_, by rw [mm_upn _ _ _ (by decide), mm_upn _ _ _ (by decide)]; exact h4, by rw [mm_upn _ _ _ (by decide), mm_upn _ _ _ (by decide)]; exact h5, by rw [mm_upn _ _ _ (by decide), mm_upn _ _ _ (by decide)]; exact h6⟩
  · rw [mm_upc, mm_upc, mm_upn _ _ _ (show (23:Nat) ≠ 22 by decide), mm_upn _ _ _ (show (24:Nat) ≠ 22 by decide), mm_upn _ _ _ (show (66:Nat) ≠ 63 by decide), mm_upn _ _ _ (show (67:Nat) ≠ 63 by decide)]
    refine ⟨?_, (h2 p hp).2⟩
    by_cases q : p = a
    · simp only [upd, if_pos q]
    · simp only [upd, if_neg q]; exact (h2 p hp).1
  · rw [mm_upc] at hn
    unfold v_m
    rw [mm_upc, mm_upn _ _ _ (show (25:Nat) ≠ 22 by decide), mm_upn _ _ _ (show (26:Nat) ≠ 22 by decide), mm_upn _ _ _ (show (64:Nat) ≠ 63 by decide), mm_upn _ _ _ (show (65:Nat) ≠ 63 by decide)]
    by_cases q : p = a
    · simp only [upd, if_pos q] at hn; exact absurd trivial hn
    · simp only [upd, if_neg q] at hn ⊢; exact h3 p hp hn
theorem v_w.prov {M X : mm_M} {nl np B a : Nat} {v w : Int32} (h : v_w M X nl np B) (e : v = w) : v_w (mm_up M 23 a v) (mm_up X 66 a w) nl np B := by
  subst e
  obtain ⟨h1, h2, h3, h4, h5, h6⟩ := h
  refine ⟨by rw [mm_upn _ _ _ (show (21:Nat) ≠ 23 by decide), mm_upn _ _ _ (show (62:Nat) ≠ 66 by decide)]; exact h1, fun p hp => ?_, ?_, by rw [mm_upn _ _ _ (by decide), mm_upn _ _ _ (by decide)]; exact h4, by rw [mm_upn _ _ _ (by decide), mm_upn _ _ _ (by decide)]; exact h5, by rw [mm_upn _ _ _ (by decide), mm_upn _ _ _ (by decide)]; exact h6⟩
  · rw [mm_upc, mm_upc, mm_upn _ _ _ (show (22:Nat) ≠ 23 by decide), mm_upn _ _ _ (show (24:Nat) ≠ 23 by decide), mm_upn _ _ _ (show (63:Nat) ≠ 66 by decide), mm_upn _ _ _ (show (67:Nat) ≠ 66 by decide)]
    refine ⟨(h2 p hp).1, ?_, (h2 p hp).2.2⟩
    by_cases q : p = a
    · simp only [upd, if_pos q]
    · simp only [upd, if_neg q]; exact (h2 p hp).2.1
  · unfold v_m at h3 ⊢
    rw [mm_upn _ _ _ (show (25:Nat) ≠ 23 by decide), mm_upn _ _ _ (show (26:Nat) ≠ 23 by decide), mm_upn _ _ _ (show (63:Nat) ≠ 66 by decide), mm_upn _ _ _ (show (64:Nat) ≠ 66 by decide), mm_upn _ _ _ (show (65:Nat) ≠ 66 by decide)]
    exact h3
theorem v_w.dead {M X : mm_M} {nl np B a : Nat} (h : v_w M X nl np B) : v_w (mm_up M 24 a 0) (mm_up X 67 a 0) nl np B := by
  obtain ⟨h1, h2, h3, h4, h5, h6⟩ := h
  refine ⟨by rw [mm_upn _ _ _ (show (21:Nat) ≠ 24 by decide), mm_upn _ _ _ (show (62:Nat) ≠ 67 by decide)]; exact h1, fun p hp => ?_, ?_, by rw [mm_upn _ _ _ (by decide), mm_upn _ _ _ (by decide)]; exact h4, by rw [mm_upn _ _ _ (by decide), mm_upn _ _ _ (by decide)]; exact h5, by rw [mm_upn _ _ _ (by decide), mm_upn _ _ _ (by decide)]; exact h6⟩
  · rw [mm_upc, mm_upc, mm_upn _ _ _ (show (22:Nat) ≠ 24 by decide), mm_upn _ _ _ (show (23:Nat) ≠ 24 by decide), mm_upn _ _ _ (show (63:Nat) ≠ 67 by decide), mm_upn _ _ _ (show (66:Nat) ≠ 67 by decide)]
    refine ⟨(h2 p hp).1, (h2 p hp).2.1, ?_⟩
    by_cases q : p = a
    · simp only [upd, if_pos q]; exact ⟨trivial, Or.inl trivial⟩
    · simp only [upd, if_neg q]; exact (h2 p hp).2.2
  · unfold v_m at h3 ⊢
    rw [mm_upn _ _ _ (show (25:Nat) ≠ 24 by decide), mm_upn _ _ _ (show (26:Nat) ≠ 24 by decide), mm_upn _ _ _ (show (63:Nat) ≠ 67 by decide), mm_upn _ _ _ (show (64:Nat) ≠ 67 by decide), mm_upn _ _ _ (show (65:Nat) ≠ 67 by decide)]
    exact h3
theorem v_w.sc {M X : mm_M} {nl np B f g : Nat} {v w : Int32} (h : v_w M X nl np B) (hf : f = 10 ∧ g = 21 ∨ f = 12 ∧ g = 23 ∨ f = 13 ∧ g = 24) (e : v = w) : v_w (mm_up M 20 f v) (mm_up X 51 g w) nl np B := by
  subst e
  obtain ⟨h1, h2, h3, h4, h5, h6⟩ := h
  refine ⟨by rw [mm_upn _ _ _ (show (21:Nat) ≠ 20 by decide), mm_upn _ _ _ (show (62:Nat) ≠ 51 by decide)]; exact h1, by rw [mm_upn _ _ _ (show (22:Nat) ≠ 20 by decide), mm_upn _ _ _ (show (23:Nat) ≠ 20 by decide), mm_upn _ _ _ (show (24:Nat) ≠ 20 by decide), mm_upn _ _ _ (show (63:Nat) ≠ 51 by decide), mm_upn _ _ _ (show (66:Nat) ≠ 51 by decide), mm_upn _ _ _ (show (67:Nat) ≠ 51 by decide)]; exact h2, ?_, ?_⟩
  · unfold v_m at h3 ⊢
    rw [mm_upn _ _ _ (show (25:Nat) ≠ 20 by decide), mm_upn _ _ _ (show (26:Nat) ≠ 20 by decide), mm_upn _ _ _ (show (63:Nat) ≠ 51 by decide), mm_upn _ _ _ (show (64:Nat) ≠ 51 by decide), mm_upn _ _ _ (show (65:Nat) ≠ 51 by decide)]
    exact h3
  · rcases hf with ⟨rfl, rfl⟩ | ⟨rfl, rfl⟩ | ⟨rfl, rfl⟩ <;> simp [mm_up, va_up, upd, h4, h5, h6]
def g_bnd (X : mm_M) (a : Nat) (y s w : Int32) : mm_M := mm_up (mm_up (mm_up X 63 a y) 64 a s) 65 a w
theorem v_w.bnd {M X : mm_M} {nl np B a b t : Nat} {s w z : Int32} (h : v_w M X nl np B) (hb : b < np) (hs : 0 ≤ s.toInt) (ht : t < nl) (hz : z = nI t) (h1 : w = nI t ∨ s = 0) (h2 : w = -1 → s = 0) (h3 : w = -1 ∨ ∃ t, t < nl ∧ w = nI t) : v_w (h_bnd M a (nI b) s z) (g_bnd X a (nI b) s w) nl np B := by
  obtain ⟨g1, g2, g3, g4, g5, g6⟩ := h
  unfold h_bnd g_bnd
  refine ⟨?_, fun p hp => ?_, fun p hp hn => ?_, ?_, ?_, ?_⟩
  · rw [mm_upn _ _ _ (show (21:Nat) ≠ 26 by decide), mm_upn _ _ _ (show (21:Nat) ≠ 25 by decide), mm_upn _ _ _ (show (21:Nat) ≠ 22 by decide), mm_upn _ _ _ (show (62:Nat) ≠ 65 by decide), mm_upn _ _ _ (show (62:Nat) ≠ 64 by decide), mm_upn _ _ _ (show (62:Nat) ≠ 63 by decide)]; exact g1
  · rw [mm_upn _ _ _ (show (22:Nat) ≠ 26 by decide), mm_upn _ _ _ (show (22:Nat) ≠ 25 by decide), mm_upc, mm_upn _ _ _ (show (23:Nat) ≠ 26 by decide), mm_upn _ _ _ (show (23:Nat) ≠ 25 by decide), mm_upn _ _ _ (show (23:Nat) ≠ 22 by decide), mm_upn _ _ _ (show (24:Nat) ≠ 26 by decide), mm_upn _ _ _ (show (24:Nat) ≠ 25 by decide), mm_upn _ _ _ (show (24:Nat) ≠ 22 by decide), mm_upn _ _ _ (show (63:Nat) ≠ 65 by decide), mm_upn _ _ _ (show (63:Nat) ≠ 64 by decide), mm_upc, mm_upn _ _ _ (show (66:Nat) ≠ 65 by decide), mm_upn _ _ _ (show (66:Nat) ≠ 64 by decide), mm_upn _ _ _ (show (66:Nat) ≠ 63 by decide), mm_upn _ _ _ (show (67:Nat) ≠ 65 by decide), mm_upn _ _ _ (show (67:Nat) ≠ 64 by decide), mm_upn _ _ _ (show (67:Nat) ≠ 63 by decide)]
    refine ⟨?_, (g2 p hp).2⟩
    by_cases q : p = a
    · simp only [upd, if_pos q]
    · simp only [upd, if_neg q]; exact (g2 p hp).1
  · rw [mm_upn _ _ _ (show (63:Nat) ≠ 65 by decide), mm_upn _ _ _ (show (63:Nat) ≠ 64 by decide), mm_upc] at hn
    unfold v_m
    rw [mm_upn _ _ _ (show (63:Nat) ≠ 65 by decide), mm_upn _ _ _ (show (63:Nat) ≠ 64 by decide), mm_upc, mm_upn _ _ _ (show (25:Nat) ≠ 26 by decide), mm_upc, mm_upn _ _ _ (show (25:Nat) ≠ 22 by decide), mm_upc, mm_upn _ _ _ (show (26:Nat) ≠ 25 by decide), mm_upn _ _ _ (show (26:Nat) ≠ 22 by decide), mm_upn _ _ _ (show (64:Nat) ≠ 65 by decide), mm_upc, mm_upn _ _ _ (show (64:Nat) ≠ 63 by decide), mm_upc, mm_upn _ _ _ (show (65:Nat) ≠ 64 by decide), mm_upn _ _ _ (show (65:Nat) ≠ 63 by decide)]
    by_cases q : p = a
    · simp only [upd, if_pos q]; exact ⟨⟨b, hb, rfl⟩, trivial, hs, ⟨t, ht, hz, h1⟩, h2, h3⟩
    · simp only [upd, if_neg q] at hn ⊢; exact g3 p hp hn
  · rw [mm_upn _ _ _ (show (20:Nat) ≠ 26 by decide), mm_upn _ _ _ (show (20:Nat) ≠ 25 by decide), mm_upn _ _ _ (show (20:Nat) ≠ 22 by decide), mm_upn _ _ _ (show (51:Nat) ≠ 65 by decide), mm_upn _ _ _ (show (51:Nat) ≠ 64 by decide), mm_upn _ _ _ (show (51:Nat) ≠ 63 by decide)]; exact g4
  · rw [mm_upn _ _ _ (show (20:Nat) ≠ 26 by decide), mm_upn _ _ _ (show (20:Nat) ≠ 25 by decide), mm_upn _ _ _ (show (20:Nat) ≠ 22 by decide), mm_upn _ _ _ (show (51:Nat) ≠ 65 by decide), mm_upn _ _ _ (show (51:Nat) ≠ 64 by decide), mm_upn _ _ _ (show (51:Nat) ≠ 63 by decide)]; exact g5
  · rw [mm_upn _ _ _ (show (20:Nat) ≠ 26 by decide), mm_upn _ _ _ (show (20:Nat) ≠ 25 by decide), mm_upn _ _ _ (show (20:Nat) ≠ 22 by decide), mm_upn _ _ _ (show (51:Nat) ≠ 65 by decide), mm_upn _ _ _ (show (51:Nat) ≠ 64 by decide), mm_upn _ _ _ (show (51:Nat) ≠ 63 by decide)]; exact g6
theorem mm_comm (X : mm_M) {c c' : Nat} (a b : Nat) (v w : Int32) (h : c ≠ c') : mm_up (mm_up X c a v) c' b w = mm_up (mm_up X c' b w) c a v := by
  funext i j
  by_cases h1 : i = c
  · subst h1; simp [mm_up, va_up, h]
  · by_cases h2 : i = c'
    · subst h2; simp [mm_up, va_up, h1, Ne.symm h]
    · simp [mm_up, va_up, h1, h2]
theorem g_wf_bnd (X Y : mm_M) (e : Nat) (s w : Int32) : g_wf X Y e s w = g_bnd (g_bnd Y (g_a X e) (X 61 (5 * e + 3)) s w) (g_b X e) (X 61 (5 * e + 2)) s w := by
  unfold g_wf g_bnd
  rw [mm_comm _ (g_a X e) (g_b X e) _ _ (show (65:Nat) ≠ 63 by decide), mm_comm _ (g_a X e) (g_b X e) _ _ (show (64:Nat) ≠ 63 by decide), mm_comm _ (g_a X e) (g_b X e) _ _ (show (65:Nat) ≠ 64 by decide)]
