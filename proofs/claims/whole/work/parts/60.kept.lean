/-! What is told is kept alike on both sides -/
theorem iv_t.of {A Y : mm_M} (h : iv_t A) (k : ∀ c, (1 ≤ c ∧ c ≤ 11) ∨ c = 56 ∨ c = 57 → Y c = A c) : iv_t Y := by
  unfold iv_t a_f0 a_f1 a_np a_nl a_n0 a_n1 a_b1 at h ⊢
  rw [k 56 (by decide), k 57 (by decide), k 1 (by decide), k 2 (by decide), k 3 (by decide), k 4 (by decide), k 5 (by decide), k 6 (by decide), k 7 (by decide), k 8 (by decide), k 9 (by decide), k 10 (by decide), k 11 (by decide)]
  exact h
theorem iv_e.of {A Y : mm_M} (h : iv_e A) (k : ∀ c, (14 ≤ c ∧ c ≤ 19) ∨ c = 61 → Y c = A c) (k5 : Y 51 13 = A 51 13) : iv_e Y := by
  unfold iv_e a_ne at h ⊢
  rw [k 61 (by decide), k 14 (by decide), k 15 (by decide), k 16 (by decide), k 17 (by decide), k 18 (by decide), k 19 (by decide), k5]
  exact h
theorem iv_m.of {A Y : mm_M} (h : iv_m A) (k : ∀ c, (38 ≤ c ∧ c ≤ 41) ∨ c = 72 → Y c = A c) (k5 : Y 51 29 = A 51 29) : iv_m Y := by
  unfold iv_m a_ns at h ⊢
  rw [k 72 (by decide), k 38 (by decide), k 39 (by decide), k 40 (by decide), k 41 (by decide), k5]
  exact h
theorem iv_h.of {A Y : mm_M} (h : iv_h A) (k : ∀ c, (43 ≤ c ∧ c ≤ 50) ∨ (52 ≤ c ∧ c ≤ 54) → Y c = A c) : iv_h Y := by
  intro s hs
  rw [k 52 (by decide), k 53 (by decide), k 54 (by decide), k (43 + 2 * s) (by omega), k (44 + 2 * s) (by omega)]
  exact h s hs
theorem a_ok.of {A Y : mm_M} (h : a_ok A) (k : ∀ c, c = 56 ∨ c = 57 ∨ c = 60 ∨ c = 61 ∨ c = 72 ∨ c = 52 ∨ c = 53 → Y c = A c) (k1 : Y 51 13 = A 51 13) (k2 : Y 51 29 = A 51 29) : a_ok Y := by
  unfold a_ok at h ⊢
  rw [k 56 (by decide), k 57 (by decide), k 60 (by decide), k 61 (by decide), k 72 (by decide), k 52 (by decide), k 53 (by decide), k1, k2]
  exact h
theorem up51 {M : mm_M} {f g : Nat} {v : Int32} (h : g ≠ f) : mm_up M 51 f v 51 g = M 51 g := by rw [mm_upc]; simp only [upd, if_neg h]
/-! a finding -/
theorem iv.met {A : mm_M} (hi : iv A) (v : Int32) : iv (mm_up (mm_up A 0 11 v) 51 4 v) := by
  have e : ∀ c, c ≠ 0 → c ≠ 51 → mm_up (mm_up A 0 11 v) 51 4 v c = A c := fun c a b => by rw [mm_upn _ _ _ b, mm_upn _ _ _ a]
  have f : ∀ g, g ≠ 4 → mm_up (mm_up A 0 11 v) 51 4 v 51 g = A 51 g := fun g h => by rw [up51 h, mm_upn _ _ _ (by decide)]
  obtain ⟨h1, h2, h3, h4, h5, h6, h7⟩ := hi
  refine ⟨h1.of (fun c q => e c (by omega) (by omega)) (f 13 (by decide)) (f 29 (by decide)), ?_, h3.of (fun c q => e c (by omega) (by omega)), ?_, h5.of (fun c q => e c (by omega) (by omega)) (f 13 (by decide)), h6.of (fun c q => e c (by omega) (by omega)) (f 29 (by decide)), h7.of (fun c q => e c (by omega) (by omega))⟩
  · rw [mm_upv, mm_upn _ _ _ (by decide), mm_upv]
  · rw [e 13 (by decide) (by decide), e 60 (by decide) (by decide)]; exact h4
/-! cloud -/
theorem m_cloud {A : mm_M} (hi : iv A) (w v : Int32) : a_ok (cl_c A w v) ∧ z_cloud (cl_c A w v) w v = z_cloud A w v ∧ iv (cl_r (cl_c A w v) w v) := by
  unfold cl_c z_cloud cl_r
  by_cases q : (0 ≤ w.toInt ∧ w.toInt ≤ 51) ∧ 0 ≤ v.toInt ∧ v.toInt ≤ 1
  · rw [if_pos q, if_pos q, if_pos q, if_pos q]
    have cw := mm_cl2 (x := w) (n := 52) (by omega)
    obtain ⟨h1, h2, h3, h4, h5, h6, h7⟩ := hi
    have e : ∀ c, c ≠ 13 → c ≠ 60 → mm_up (mm_up A 13 w.toNatClampNeg v) 60 w.toNatClampNeg v c = A c := fun c a b => by rw [mm_upn _ _ _ b, mm_upn _ _ _ a]
    refine ⟨h1.hi (fun c hc => mm_upn _ _ _ (by omega)), by rw [mm_upn _ _ _ (by decide)], ?_, by rw [e 0 (by decide) (by decide), e 51 (by decide) (by decide)]; exact h2, h3.of (fun c z => e c (by omega) (by omega)), fun j hj => ?_, h5.of (fun c z => e c (by omega) (by omega)) (by rw [e 51 (by decide) (by decide)]), h6.of (fun c z => e c (by omega) (by omega)) (by rw [e 51 (by decide) (by decide)]), h7.of (fun c z => e c (by omega) (by omega))⟩
    · obtain ⟨g1, g2, g3, g4, g5, g6, g7, g8⟩ := h1
      refine ⟨by rw [e 57 (by decide) (by decide)]; exact g1, by rw [e 56 (by decide) (by decide)]; exact g2, fun j hj => ?_, by rw [e 51 (by decide) (by decide)]; exact g4, by rw [e 51 (by decide) (by decide), e 61 (by decide) (by decide)]; exact g5, by rw [e 51 (by decide) (by decide)]; exact g6, by rw [e 51 (by decide) (by decide), e 72 (by decide) (by decide)]; exact g7, by rw [e 52 (by decide) (by decide), e 53 (by decide) (by decide)]; exact g8⟩
      rw [mm_upc, mm_upn _ _ _ (by decide)]
      by_cases z : j = w.toNatClampNeg
      · simp only [upd, if_pos z]; exact q.2
      · simp only [upd, if_neg z]; exact g3 j hj
    · rw [mm_upn _ _ _ (show (13 : Nat) ≠ 60 by decide), mm_upc, mm_upc, mm_upn _ _ _ (show (60 : Nat) ≠ 13 by decide)]
      by_cases z : j = w.toNatClampNeg
      · simp only [upd, if_pos z]
      · simp only [upd, if_neg z]; exact h4 j hj
  · rw [if_neg q, if_neg q, if_neg q]
    exact ⟨hi.1, rfl, hi⟩
/-! survey, forget -/
theorem sc_o {M : mm_M} {n : Nat} {x k w : Int32} {c : Nat} (h : c < 38 ∨ 41 < c) : sc M n x k w c = M c := by
  unfold sc
  rw [mm_upn _ _ _ (by omega), mm_upn _ _ _ (by omega), mm_upn _ _ _ (by omega), mm_upn _ _ _ (by omega)]
theorem sr_o {M : mm_M} {n : Nat} {x k w : Int32} {c : Nat} (h : c ≠ 51 ∧ c ≠ 72) : sr M n x k w c = M c := by
  unfold sr
  rw [mm_upn _ _ _ h.1, mm_upn _ _ _ h.2, mm_upn _ _ _ h.2, mm_upn _ _ _ h.2]
theorem sr_f {M : mm_M} {n : Nat} {x k w : Int32} {f : Nat} (h : f ≠ 29) : sr M n x k w 51 f = M 51 f := by
  unfold sr
  rw [up51 h, mm_upn _ _ _ (by decide), mm_upn _ _ _ (by decide), mm_upn _ _ _ (by decide)]
theorem sr_72 {M : mm_M} {n : Nat} {x k w : Int32} (j : Nat) : sr M n x k w 72 j = if j = 3 * n + 2 then w else if j = 3 * n + 1 then k else if j = 3 * n then x else M 72 j := by
  unfold sr
  rw [mm_upn _ _ _ (by decide), mm_upc, mm_upc, mm_upc]
  rfl
theorem sc_r {M : mm_M} {n : Nat} {x k w : Int32} (j : Nat) : sc M n x k w 39 j = (if j = n then x else M 39 j) ∧ sc M n x k w 40 j = (if j = n then k else M 40 j) ∧ sc M n x k w 41 j = (if j = n then w else M 41 j) := by
  unfold sc
  refine ⟨?_, ?_, ?_⟩
  · rw [mm_upn _ _ _ (by decide), mm_upn _ _ _ (by decide), mm_upn _ _ _ (by decide), mm_upc]; rfl
  · rw [mm_upn _ _ _ (by decide), mm_upn _ _ _ (by decide), mm_upc, mm_upn _ _ _ (by decide)]; rfl
  · rw [mm_upn _ _ _ (by decide), mm_upc, mm_upn _ _ _ (by decide), mm_upn _ _ _ (by decide)]; rfl
theorem m_survey {A : mm_M} (hi : iv A) (x k w : Int32) : a_ok (su_c A x k w) ∧ z_survey (su_c A x k w) x k w = z_survey A x k w ∧ iv (su_r (su_c A x k w) x k w) := by
  have hn := hi.1.ns
  unfold su_c z_survey su_r
  by_cases q : (0 ≤ x.toInt ∧ x.toInt ≤ 5) ∧ (0 ≤ k.toInt ∧ k.toInt ≤ 24) ∧ 0 ≤ w.toInt ∧ w.toInt ≤ 999
  · simp only [if_pos q]
    by_cases q2 : a_ns A < 8
    · simp only [if_pos q2]
      have en : a_ns (sc A (a_ns A) x k w) = a_ns A := by
        show ((sc A (a_ns A) x k w) 51 29).toNatClampNeg = (A 51 29).toNatClampNeg
        rw [sc_o (by decide)]
      rw [en]
      simp only [if_pos q2]
      obtain ⟨h1, h2, h3, h4, h5, h6, h7⟩ := hi
      have e : ∀ c, c < 38 ∨ 41 < c → c ≠ 51 → c ≠ 72 → sr (sc A (a_ns A) x k w) (a_ns A) x k w c = A c := fun c a b d => by rw [sr_o ⟨b, d⟩, sc_o a]
      have f : ∀ g, g ≠ 29 → sr (sc A (a_ns A) x k w) (a_ns A) x k w 51 g = A 51 g := fun g h => by rw [sr_f h, sc_o (by decide)]
      have f29 : sr (sc A (a_ns A) x k w) (a_ns A) x k w 51 29 = nI (a_ns A + 1) := by unfold sr; rw [mm_upv]
      have t29 : (nI (a_ns A + 1)).toInt = (a_ns A + 1 : Nat) := mm_ti (by omega)
      have t0 : (A 51 29).toInt = a_ns A := by rw [hn.1]; exact mm_ti (by omega)
      refine ⟨h1.hi (fun c hc => sc_o (by omega)), trivial, ?_, by rw [e 0 (by decide) (by decide) (by decide), f 4 (by decide)]; exact h2, h3.of (fun c z => e c (by omega) (by omega) (by omega)), by rw [e 13 (by decide) (by decide) (by decide), e 60 (by decide) (by decide) (by decide)]; exact h4, h5.of (fun c z => e c (by omega) (by omega) (by omega)) (f 13 (by decide)), ?_, h7.of (fun c z => e c (by omega) (by omega) (by omega))⟩
      · obtain ⟨g1, g2, g3, g4, g5, g6, g7, g8⟩ := h1
        refine ⟨by rw [e 57 (by decide) (by decide) (by decide)]; exact g1, by rw [e 56 (by decide) (by decide) (by decide)]; exact g2, by rw [e 60 (by decide) (by decide) (by decide)]; exact g3, by rw [f 13 (by decide)]; exact g4, by rw [f 13 (by decide), e 61 (by decide) (by decide) (by decide)]; exact g5, by rw [f29, t29]; omega, fun s hs => ?_, by rw [e 52 (by decide) (by decide) (by decide), e 53 (by decide) (by decide) (by decide)]; exact g8⟩
        rw [f29, t29] at hs
        rw [sr_72, sr_72, sr_72, sc_o (by decide)]
        by_cases z : s = a_ns A
        · subst z
          simp
          exact q
        · rw [if_neg (by omega), if_neg (by omega), if_neg (by omega), if_neg (by omega), if_neg (by omega), if_neg (by omega), if_neg (by omega), if_neg (by omega), if_neg (by omega)]
          exact g7 s (by omega)
      · refine ⟨?_, fun s hs => ?_⟩
        · rw [f29, sr_o (by decide)]
          unfold sc
          rw [mm_upv]
        · have hs : s < ((sr (sc A (a_ns A) x k w) (a_ns A) x k w) 51 29).toNatClampNeg := hs
          rw [f29, mm_cn (by omega)] at hs
          rw [sr_72, sr_72, sr_72, sc_o (c := 72) (by decide), sr_o (c := 39) (by decide), sr_o (c := 40) (by decide), sr_o (c := 41) (by decide), (sc_r s).1, (sc_r s).2.1, (sc_r s).2.2]
          by_cases z : s = a_ns A
          · subst z
            simp
          · rw [if_neg (by omega), if_neg (by omega), if_neg (by omega), if_neg (by omega), if_neg (by omega), if_neg (by omega), if_neg (by omega), if_neg (by omega), if_neg (by omega), if_neg (by omega), if_neg (by omega), if_neg (by omega)]
            exact h6.2 s (by omega)
    · simp only [if_neg q2]
      exact ⟨hi.1, trivial, hi⟩
  · simp only [if_neg q]
    exact ⟨hi.1, trivial, hi⟩
theorem m_forget {A : mm_M} (hi : iv A) : a_ok (mm_up A 38 3 0) ∧ mm_up A 38 3 0 51 29 = A 51 29 ∧ iv (mm_up (mm_up A 38 3 0) 51 29 0) := by
  obtain ⟨h1, h2, h3, h4, h5, h6, h7⟩ := hi
  have e : ∀ c, c ≠ 38 → c ≠ 51 → mm_up (mm_up A 38 3 0) 51 29 0 c = A c := fun c a b => by rw [mm_upn _ _ _ b, mm_upn _ _ _ a]
  have f : ∀ g, g ≠ 29 → mm_up (mm_up A 38 3 0) 51 29 0 51 g = A 51 g := fun g h => by rw [up51 h, mm_upn _ _ _ (by decide)]
  have f29 : mm_up (mm_up A 38 3 0) 51 29 0 51 29 = 0 := mm_upv _ _ _ _
  refine ⟨h1.hi (fun c hc => mm_upn _ _ _ (by omega)), by rw [mm_upn _ _ _ (by decide)], ?_, by rw [e 0 (by decide) (by decide), f 4 (by decide)]; exact h2, h3.of (fun c z => e c (by omega) (by omega)), by rw [e 13 (by decide) (by decide), e 60 (by decide) (by decide)]; exact h4, h5.of (fun c z => e c (by omega) (by omega)) (f 13 (by decide)), ?_, h7.of (fun c z => e c (by omega) (by omega))⟩
  · obtain ⟨g1, g2, g3, g4, g5, g6, g7, g8⟩ := h1
    refine ⟨by rw [e 57 (by decide) (by decide)]; exact g1, by rw [e 56 (by decide) (by decide)]; exact g2, by rw [e 60 (by decide) (by decide)]; exact g3, by rw [f 13 (by decide)]; exact g4, by rw [f 13 (by decide), e 61 (by decide) (by decide)]; exact g5, by rw [f29]; decide, fun s hs => ?_, by rw [e 52 (by decide) (by decide), e 53 (by decide) (by decide)]; exact g8⟩
    rw [f29] at hs
    exact absurd hs (by simp only [Int32.reduceToInt]; omega)
  · refine ⟨?_, fun s hs => ?_⟩
    · rw [f29, mm_upn _ _ _ (by decide), mm_upv]
    · have hs : s < (mm_up (mm_up A 38 3 0) 51 29 0 51 29).toNatClampNeg := hs
      rw [f29] at hs
      exact absurd hs (by show ¬ s < 0; omega)
/-! undo -/
theorem m_undo {A : mm_M} (hi : iv A) : a_ok (und_c A) ∧ z_undo (und_c A) = z_undo A ∧ iv (und_r (und_c A)) := by
  have hn := hi.1.ne
  unfold und_c z_undo und_r
  by_cases q : a_ne A = 0
  · simp only [if_pos q]
    exact ⟨hi.1, trivial, hi⟩
  · simp only [if_neg q]
    have en : a_ne (mm_up A 14 5 (nI (a_ne A - 1))) = a_ne A := by
      show (mm_up A 14 5 (nI (a_ne A - 1)) 51 13).toNatClampNeg = _
      rw [mm_upn _ _ _ (by decide)]
      rfl
    rw [en]
    simp only [if_neg q]
    obtain ⟨h1, h2, h3, h4, h5, h6, h7⟩ := hi
    have e : ∀ c, c ≠ 14 → c ≠ 51 → mm_up (mm_up A 14 5 (nI (a_ne A - 1))) 51 13 (nI (a_ne A - 1)) c = A c := fun c a b => by rw [mm_upn _ _ _ b, mm_upn _ _ _ a]
    have f : ∀ g, g ≠ 13 → mm_up (mm_up A 14 5 (nI (a_ne A - 1))) 51 13 (nI (a_ne A - 1)) 51 g = A 51 g := fun g h => by rw [up51 h, mm_upn _ _ _ (by decide)]
    have f13 : mm_up (mm_up A 14 5 (nI (a_ne A - 1))) 51 13 (nI (a_ne A - 1)) 51 13 = nI (a_ne A - 1) := mm_upv _ _ _ _
    have t13 : (nI (a_ne A - 1)).toInt = (a_ne A - 1 : Nat) := mm_ti (by omega)
    have t0 : (A 51 13).toInt = a_ne A := by rw [hn.1]; exact mm_ti (by omega)
    refine ⟨h1.hi (fun c hc => mm_upn _ _ _ (by omega)), trivial, ?_, by rw [e 0 (by decide) (by decide), f 4 (by decide)]; exact h2, h3.of (fun c z => e c (by omega) (by omega)), by rw [e 13 (by decide) (by decide), e 60 (by decide) (by decide)]; exact h4, ?_, h6.of (fun c z => e c (by omega) (by omega)) (f 29 (by decide)), h7.of (fun c z => e c (by omega) (by omega))⟩
    · obtain ⟨g1, g2, g3, g4, g5, g6, g7, g8⟩ := h1
      refine ⟨by rw [e 57 (by decide) (by decide)]; exact g1, by rw [e 56 (by decide) (by decide)]; exact g2, by rw [e 60 (by decide) (by decide)]; exact g3, by rw [f13, t13]; omega, fun s hs => ?_, by rw [f 29 (by decide)]; exact g6, by rw [f 29 (by decide), e 72 (by decide) (by decide)]; exact g7, by rw [e 52 (by decide) (by decide), e 53 (by decide) (by decide)]; exact g8⟩
      rw [f13, t13] at hs
      rw [e 61 (by decide) (by decide)]
      exact g5 s (by omega)
    · refine ⟨?_, fun s hs => ?_⟩
      · rw [f13, mm_upn _ _ _ (by decide), mm_upv]
      · have hs : s < (mm_up (mm_up A 14 5 (nI (a_ne A - 1))) 51 13 (nI (a_ne A - 1)) 51 13).toNatClampNeg := hs
        rw [f13, mm_cn (by omega)] at hs
        rw [e 61 (by decide) (by decide), e 15 (by decide) (by decide), e 16 (by decide) (by decide), e 17 (by decide) (by decide), e 18 (by decide) (by decide), e 19 (by decide) (by decide)]
        exact h5.2 s (by omega)
/-! events -/
def evq (X Y : mm_M) (n : Nat) : Prop := X 14 5 = nI n ∧ ∀ e, e < n → X 16 e = Y 61 (5 * e) ∧ X 15 e = Y 61 (5 * e + 1) ∧ X 17 e = Y 61 (5 * e + 2) ∧ (Y 61 (5 * e) = 0 → X 18 e = Y 61 (5 * e + 3)) ∧ X 19 e = Y 61 (5 * e + 4)
theorem ec_r {M : mm_M} {n : Nat} {k w a b t : Int32} (j : Nat) : ec M n k w a b t 15 j = (if j = n then w else M 15 j) ∧ ec M n k w a b t 16 j = (if j = n then k else M 16 j) ∧ ec M n k w a b t 17 j = (if j = n then a else M 17 j) ∧ ec M n k w a b t 18 j = (if j = n then b else M 18 j) ∧ ec M n k w a b t 19 j = (if j = n then t else M 19 j) := by
  unfold ec
  refine ⟨?_, ?_, ?_, ?_, ?_⟩ <;> simp [mm_up, va_up, upd]
theorem evq.step {X Y : mm_M} {n : Nat} (h : evq X Y n) {k w a b b2 t : Int32} (hb : k = 0 → b = b2) : evq (ec X n k w a b t) (er Y n k w a b2 t) (n + 1) := by
  obtain ⟨q0, q1, q2, q3, q4, q5⟩ := er_61 (M := Y) (n := n) (k := k) (w := w) (a := a) (b := b2) (t := t)
  refine ⟨ec_n, fun e he => ?_⟩
  obtain ⟨r1, r2, r3, r4, r5⟩ := ec_r (M := X) (n := n) (k := k) (w := w) (a := a) (b := b) (t := t) e
  rw [r1, r2, r3, r4, r5]
  by_cases z : e = n
  · subst z
    simp only [if_true]
    rw [q1, q2, q3, q4, q5]
    exact ⟨rfl, rfl, rfl, hb, rfl⟩
  · simp only [if_neg z]
    rw [q0 _ (by omega), q0 _ (by omega), q0 _ (by omega), q0 _ (by omega), q0 _ (by omega)]
    exact h.2 e (by omega)
theorem evq.cg {X Y X2 Y2 : mm_M} {n : Nat} (h : evq X Y n) (h1 : ∀ c, 14 ≤ c ∧ c ≤ 19 → X2 c = X c) (h2 : Y2 61 = Y 61) : evq X2 Y2 n := by
  unfold evq at h ⊢
  rw [h1 14 (by decide), h1 15 (by decide), h1 16 (by decide), h1 17 (by decide), h1 18 (by decide), h1 19 (by decide), h2]
  exact h
theorem iv.ev {A : mm_M} (hi : iv A) : evq A A (a_ne A) := ⟨by rw [hi.2.2.2.2.1.1]; exact hi.1.ne.1, hi.2.2.2.2.1.2⟩
/-- events told on both sides -/
theorem iv.told {A Y : mm_M} (hi : iv A) (hk : ∀ c, c < 14 ∨ (19 < c ∧ c ≠ 51 ∧ c ≠ 61) → Y c = A c) (hf : ∀ f, f ≠ 13 → Y 51 f = A 51 f) (ho : a_ok Y) (he : evq Y Y (a_ne Y)) : iv Y := by
  obtain ⟨h1, h2, h3, h4, h5, h6, h7⟩ := hi
  refine ⟨ho, by rw [hk 0 (by decide), hf 4 (by decide)]; exact h2, h3.of (fun c z => hk c (by omega)), by rw [hk 13 (by decide), hk 60 (by decide)]; exact h4, ⟨by rw [he.1]; exact ho.ne.1.symm, he.2⟩, h6.of (fun c z => hk c (by omega)) (hf 29 (by decide)), h7.of (fun c z => hk c (by omega))⟩
theorem er_c {X Y : mm_M} {n : Nat} {k w a b t : Int32} (h : Y 61 = X 61) : er Y n k w a b t 61 = er X n k w a b t 61 := by
  unfold er
  simp only [mm_upn _ _ _ (show (61 : Nat) ≠ 51 by decide), mm_upc, h]
theorem m_tell {A : mm_M} (hi : iv A) {k w a b b2 t : Int32} {ok : Bool} (hb : k = 0 → b = b2) (hok : ok = true → (0 ≤ k.toInt ∧ k.toInt ≤ 2) ∧ (0 ≤ w.toInt ∧ w.toInt ≤ 51) ∧ (0 ≤ a.toInt ∧ a.toInt ≤ 11) ∧ (0 ≤ b2.toInt ∧ b2.toInt ≤ 11) ∧ 6 ≤ t.toInt ∧ t.toInt ≤ 18) : a_ok (te A (ec A (a_ne A) k w a b t) ok) ∧ (∀ o2, z_tell (te A (ec A (a_ne A) k w a b t) ok) o2 = z_tell A o2) ∧ (∀ w2, z_lb (te A (ec A (a_ne A) k w a b t) ok) w2 = z_lb A w2) ∧ iv (te (te A (ec A (a_ne A) k w a b t) ok) (er (te A (ec A (a_ne A) k w a b t) ok) (a_ne (te A (ec A (a_ne A) k w a b t) ok)) k w a b2 t) ok) := by
  have en : ∀ o, a_ne (te A (ec A (a_ne A) k w a b t) o) = a_ne A := fun o => by
    unfold te
    split
    · split
      · show (ec A (a_ne A) k w a b t 51 13).toNatClampNeg = _
        rw [ec_o (by decide)]; rfl
      · rfl
    · rfl
  have e61 : te A (ec A (a_ne A) k w a b t) ok 61 = A 61 := by
    unfold te
    split
    · split
      · exact ec_o (by decide)
      · rfl
    · rfl
  have hB : a_ok (te A (ec A (a_ne A) k w a b t) ok) := by
    unfold te
    split
    · split
      · exact hi.1.hi (fun c hc => ec_o (by omega))
      · exact hi.1
    · exact hi.1
  refine ⟨hB, fun o2 => ?_, fun w2 => ?_, ?_⟩
  · unfold z_tell
    rw [en]
  · unfold z_lb z_lt
    rw [en, e61]
  · rw [en]
    by_cases q : ok = true
    · by_cases q2 : a_ne A < 24
      · have eB : te A (ec A (a_ne A) k w a b t) ok = ec A (a_ne A) k w a b t := by unfold te; rw [if_pos q, if_pos q2]
        have en2 := en ok
        rw [eB] at hB en2 ⊢
        have eT : te (ec A (a_ne A) k w a b t) (er (ec A (a_ne A) k w a b t) (a_ne A) k w a b2 t) ok = er (ec A (a_ne A) k w a b t) (a_ne A) k w a b2 t := by unfold te; rw [if_pos q, en2, if_pos q2]
        rw [eT]
        obtain ⟨o1, o2, o3, o4, o5⟩ := hok q
        have ho := er_ok (k := k) (w := w) (a := a) (b := b2) (t := t) hB (by rw [en2]; exact q2) o1 o2 o3 o4 o5
        rw [en2] at ho
        refine hi.told (fun c z => by rw [er_o (by omega), ec_o (by omega)]) (fun f z => by rw [er_51, if_neg z, ec_o (by decide)]) ho ?_
        rw [er_ne q2]
        refine (hi.ev.step (k := k) (w := w) (a := a) (b := b) (b2 := b2) (t := t) hb).cg (fun c z => by rw [er_o (by omega)]) (er_c (ec_o (by decide)))
      · have eB : te A (ec A (a_ne A) k w a b t) ok = A := by unfold te; rw [if_pos q, if_neg q2]
        rw [eB]
        unfold te
        rw [if_pos q, if_neg q2]
        exact hi
    · have eB : te A (ec A (a_ne A) k w a b t) ok = A := by unfold te; rw [if_neg q]
      rw [eB]
      unfold te
      rw [if_neg q]
      exact hi
theorem z_lb_i {B : mm_M} (hB : a_ok B) {w : Int32} (h : z_lb B w = true) : 0 ≤ w.toInt ∧ w.toInt ≤ 51 := by
  unfold z_lb z_lt at h
  have h := of_decide_eq_true h
  have n24 := hB.ne
  refine ⟨?_, h.2⟩
  have h1 := h.1
  split at h1
  · exact h1
  · have := hB.2.2.2.2.1 (a_ne B - 1) (by rw [n24.1, mm_ti (by omega)]; omega)
    omega
/-! read -/
theorem evq_s {A : mm_M} (hi : iv A) {it : Nat → Int32} {w : Int32} : ∀ m, evq (ecs A (a_ne A) it w m) (ers A (a_ne A) it w m) (a_ne A + m)
  | 0 => hi.ev
  | m + 1 => (evq_s hi m).step (fun _ => rfl)
theorem ers_c {X Y : mm_M} {n : Nat} {it : Nat → Int32} {w : Int32} (h : Y 61 = X 61) : ∀ m, ers Y n it w m 61 = ers X n it w m 61
  | 0 => h
  | m + 1 => er_c (ers_c h m)
theorem ers_f {X : mm_M} {n : Nat} {it : Nat → Int32} {w : Int32} {f : Nat} (h : f ≠ 13) : ∀ m, ers X n it w m 51 f = X 51 f
  | 0 => rfl
  | m + 1 => by
    show er _ _ _ _ _ _ _ 51 f = _
    rw [er_51, if_neg h]
    exact ers_f h m
theorem m_read {A : mm_M} (hi : iv A) {it : Nat → Int32} {sz : Nat} {w : Int32} (hw : z_lb A w = true) {n : Nat} (hr : ∀ x, x < n → rg it sz (a_ne A) x = true) : iv (ers (ecs A (a_ne A) it w n) (a_ne A) it w n) := by
  have hB : a_ok (ecs A (a_ne A) it w n) := hi.1.hi (fun c hc => ecs_o (by omega) n)
  have en : a_ne (ecs A (a_ne A) it w n) = a_ne A := by
    show (ecs A (a_ne A) it w n 51 13).toNatClampNeg = _
    rw [ecs_o (by decide)]; rfl
  have hl : z_lb (ecs A (a_ne A) it w n) w = true := by
    unfold z_lb z_lt at hw ⊢
    rw [en, ecs_o (by decide)]
    exact hw
  have ok := ers_ok hB (it := it) (sz := sz) hl n (by rw [en]; exact hr)
  rw [en] at ok
  refine hi.told (fun c z => by rw [ers_o (by omega), ecs_o (by omega)]) (fun f z => by rw [ers_f z, ecs_o (by decide)]) ok.1 ?_
  rw [ok.2.1]
  exact (evq_s hi (it := it) (w := w) n).cg (fun c z => by rw [ers_o (by omega)]) (ers_c (ecs_o (by decide) n) n)
