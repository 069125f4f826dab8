/-! Sheets are kept alike -/
theorem iv.shk {A Y : mm_M} (hi : iv A) {k : Nat} (hk4 : k < 4) (hc : ∀ c, c ≠ 43 + 2 * k → c ≠ 44 + 2 * k → c ≠ 52 → c ≠ 53 → c ≠ 54 → Y c = A c)
    (h52 : ∀ s, s < 4 → s ≠ k → Y 52 s = A 52 s) (h53 : ∀ s, s < 4 → s ≠ k → Y 53 s = A 53 s) (h54 : ∀ s, s < 4 → s ≠ k → ∀ i, i < 60 → Y 54 (60 * s + i) = A 54 (60 * s + i))
    (k1 : -1 ≤ (Y 52 k).toInt ∧ (Y 52 k).toInt ≤ 2) (k2 : 0 ≤ (Y 53 k).toInt ∧ (Y 53 k).toInt ≤ 60) (k3 : Y 52 k = -1 → Y (43 + 2 * k) 2 = -1)
    (k4 : ¬ Y 52 k = -1 → Y (43 + 2 * k) 1 = Y 52 k ∧ Y (43 + 2 * k) 2 = Y 53 k ∧ ∀ i : Nat, (i : Int) < (Y 53 k).toInt → Y (44 + 2 * k) i = Y 54 (60 * k + i)) : iv Y := by
  obtain ⟨h1, h2, h3, h4, h5, h6, h7⟩ := hi
  have c51 := hc 51 (by omega) (by omega) (by decide) (by decide) (by decide)
  refine ⟨?_, by rw [hc 0 (by omega) (by omega) (by decide) (by decide) (by decide), c51]; exact h2, h3.of (fun c z => hc c (by omega) (by omega) (by omega) (by omega) (by omega)), ?_, h5.of (fun c z => hc c (by omega) (by omega) (by omega) (by omega) (by omega)) (by rw [c51]), h6.of (fun c z => hc c (by omega) (by omega) (by omega) (by omega) (by omega)) (by rw [c51]), fun s hs => ?_⟩
  · obtain ⟨g1, g2, g3, g4, g5, g6, g7, g8⟩ := h1
    refine ⟨by rw [hc 57 (by omega) (by omega) (by decide) (by decide) (by decide)]; exact g1, by rw [hc 56 (by omega) (by omega) (by decide) (by decide) (by decide)]; exact g2, by rw [hc 60 (by omega) (by omega) (by decide) (by decide) (by decide)]; exact g3, by rw [c51]; exact g4, by rw [c51, hc 61 (by omega) (by omega) (by decide) (by decide) (by decide)]; exact g5, by rw [c51]; exact g6, by rw [c51, hc 72 (by omega) (by omega) (by decide) (by decide) (by decide)]; exact g7, fun s hs => ?_⟩
    by_cases z : s = k
    · rw [z]; exact ⟨k1, k2⟩
    · rw [h52 s hs z, h53 s hs z]; exact g8 s hs
  · rw [hc 13 (by omega) (by omega) (by decide) (by decide) (by decide), hc 60 (by omega) (by omega) (by decide) (by decide) (by decide)]; exact h4
  · by_cases z : s = k
    · rw [z]; exact ⟨k3, k4⟩
    · have g8 := (h1.2.2.2.2.2.2.2 s hs).2
      rw [h52 s hs z, h53 s hs z, hc (43 + 2 * s) (by omega) (by omega) (by omega) (by omega) (by omega), hc (44 + 2 * s) (by omega) (by omega) (by omega) (by omega) (by omega)]
      obtain ⟨q1, q2⟩ := h7 s hs
      refine ⟨q1, fun y => ⟨(q2 y).1, (q2 y).2.1, fun i hi2 => ?_⟩⟩
      rw [h54 s hs z i (by omega)]
      exact (q2 y).2.2 i hi2
theorem rn_o {M : mm_M} {c b : Nat} {f n : Int32} {x : Nat} (h1 : x ≠ c) (h2 : x ≠ b) : rn M c b f n x = M x := by
  unfold rn zfill
  rw [va_upn _ _ h2, mm_upn _ _ _ h1, mm_upn _ _ _ h1]
theorem m_sheet {A : mm_M} (hi : iv A) (s f n : Int32) : a_ok (sh_c A s f n) ∧ iv (sh_r (sh_c A s f n) s f n) := by
  unfold sh_c sh_r
  by_cases q : ((0 ≤ s.toInt ∧ s.toInt ≤ 3) ∧ 0 ≤ f.toInt ∧ f.toInt ≤ 2) ∧ n.toInt ≤ 60
  · simp only [if_pos q]
    by_cases q2 : n.toInt < 0
    · simp only [if_pos q2]
      exact ⟨hi.1.hi (fun c hc => mm_upn _ _ _ (by omega)), hi.met 5⟩
    · simp only [if_neg q2]
      have cs := mm_cl2 (x := s) (n := 4) (by omega)
      have cn := mm_cl2 (x := n) (n := 61) (by omega)
      generalize hk : s.toNatClampNeg = k at *
      have k4 := cs.2.1
      refine ⟨hi.1.hi (fun c hc => rn_o (by omega) (by omega)), ?_⟩
      generalize hB : rn A (43 + 2 * k) (44 + 2 * k) f n = B
      have eB : ∀ c, c ≠ 43 + 2 * k → c ≠ 44 + 2 * k → B c = A c := fun c a b => by rw [← hB]; exact rn_o a b
      have b1 : B (43 + 2 * k) 1 = f := by rw [← hB]; unfold rn zfill; rw [va_upn _ _ (by omega), mm_upc]; simp [upd, mm_up, va_up]
      have b2 : B (43 + 2 * k) 2 = n := by rw [← hB]; unfold rn zfill; rw [va_upn _ _ (by omega), mm_upv]
      have b3 : ∀ i, i < 60 → B (44 + 2 * k) i = 0 := fun i hi2 => by rw [← hB]; unfold rn zfill; simp only [va_up, if_true]; rw [if_pos hi2]
      generalize hY : va_up (mm_up (mm_up B 52 k f) 53 k n) 54 (va_cpy (fun _ => 0) (B 54) 0 (60 * k) n.toNatClampNeg) = Y
      have y52 : Y 52 = upd (A 52) k f := by rw [← hY, va_upn _ _ (by decide), mm_upn _ _ _ (by decide), mm_upc, eB 52 (by omega) (by omega)]
      have y53 : Y 53 = upd (A 53) k n := by rw [← hY, va_upn _ _ (by decide), mm_upc, mm_upn _ _ _ (by decide), eB 53 (by omega) (by omega)]
      have y54 : Y 54 = va_cpy (fun _ => 0) (A 54) 0 (60 * k) n.toNatClampNeg := by rw [← hY]; simp only [va_up, if_true]; rw [eB 54 (by omega) (by omega)]
      have yo : ∀ c, c ≠ 52 → c ≠ 53 → c ≠ 54 → Y c = B c := fun c a b d => by rw [← hY, va_upn _ _ d, mm_upn _ _ _ b, mm_upn _ _ _ a]
      refine hi.shk (k := k) k4 (fun c a b d e g => by rw [yo c d e g, eB c a b]) (fun t ht z => by rw [y52]; simp only [upd, if_neg z]) (fun t ht z => by rw [y53]; simp only [upd, if_neg z]) (fun t ht z i hi2 => ?_) ?_ ?_ (fun z => ?_) (fun z => ⟨?_, ?_, fun i hi2 => ?_⟩)
      · rw [y54]; unfold va_cpy; rw [if_neg (by omega)]
      · rw [y52]; simp only [upd, if_true]; omega
      · rw [y53]; simp only [upd, if_true]; omega
      · rw [y52] at z; simp only [upd, if_true] at z; rw [z] at q; exact absurd q.1.2.1 (by decide)
      · rw [y52, yo _ (by omega) (by omega) (by omega), b1]; simp only [upd, if_true]
      · rw [y53, yo _ (by omega) (by omega) (by omega), b2]; simp only [upd, if_true]
      · rw [y53] at hi2; simp only [upd, if_true] at hi2
        rw [yo _ (by omega) (by omega) (by omega), b3 i (by omega), y54]
        unfold va_cpy
        rw [if_pos (by omega)]
  · simp only [if_neg q]
    exact ⟨hi.1, hi⟩
theorem m_lose {A : mm_M} (hi : iv A) (s : Int32) : a_ok (lo_c A s) ∧ z_lose (lo_c A s) s = z_lose A s ∧ iv (lo_r (lo_c A s) s) := by
  unfold lo_c z_lose lo_r
  by_cases q : 0 ≤ s.toInt ∧ s.toInt ≤ 3
  · simp only [if_pos q]
    have cs := mm_cl2 (x := s) (n := 4) (by omega)
    generalize hk : s.toNatClampNeg = k at *
    have k4 := cs.2.1
    by_cases q2 : A 52 k = -1
    · simp only [if_pos q2]
      have e : mm_up A 0 11 1 52 = A 52 := mm_upn _ _ _ (by decide)
      rw [e]
      simp only [if_pos q2]
      exact ⟨hi.1.hi (fun c hc => mm_upn _ _ _ (by omega)), trivial, hi.met 1⟩
    · simp only [if_neg q2]
      have e : mm_up A (43 + 2 * k) 2 (-1) 52 = A 52 := mm_upn _ _ _ (by omega)
      have e3 : mm_up A (43 + 2 * k) 2 (-1) 53 = A 53 := mm_upn _ _ _ (by omega)
      rw [e, e3]
      simp only [if_neg q2]
      refine ⟨hi.1.hi (fun c hc => mm_upn _ _ _ (by omega)), trivial, ?_⟩
      generalize hY : mm_up (mm_up A (43 + 2 * k) 2 (-1)) 52 k (-1) = Y
      have y52 : Y 52 = upd (A 52) k (-1) := by rw [← hY, mm_upc, e]
      have yo : ∀ c, c ≠ 43 + 2 * k → c ≠ 52 → Y c = A c := fun c a b => by rw [← hY, mm_upn _ _ _ b, mm_upn _ _ _ a]
      have ok := hi.1.2.2.2.2.2.2.2 k k4
      refine hi.shk (k := k) k4 (fun c a b d e g => yo c a d) (fun t ht z => by rw [y52]; simp only [upd, if_neg z]) (fun t ht z => by rw [yo 53 (by omega) (by decide)]) (fun t ht z i hi2 => by rw [yo 54 (by omega) (by decide)]) ?_ (by rw [yo 53 (by omega) (by decide)]; exact ok.2) (fun z => ?_) (fun z => absurd ?_ z)
      · rw [y52]; simp only [upd, if_true]; decide
      · rw [← hY, mm_upn _ _ _ (by omega), mm_upv]
      · rw [y52]; simp only [upd, if_true]
  · simp only [if_neg q]
    exact ⟨hi.1, trivial, hi⟩
theorem lk_e {A B : mm_M} (h2 : B 52 = A 52) (h3 : B 53 = A 53) (k : Nat) (f i : Int32) : lk B k f i = lk A k f i := by unfold lk; rw [h2, h3]
theorem m_lay {A : mm_M} (hi : iv A) (s f i v : Int32) : a_ok (la_c A s f i v) ∧ z_lay (la_c A s f i v) s f i = z_lay A s f i ∧ iv (la_r (la_c A s f i v) s f i v) := by
  unfold la_c z_lay la_r
  by_cases q : (0 ≤ s.toInt ∧ s.toInt ≤ 3) ∧ 0 ≤ f.toInt ∧ f.toInt ≤ 2
  · simp only [if_pos q]
    have cs := mm_cl2 (x := s) (n := 4) (by omega)
    generalize hk : s.toNatClampNeg = k at *
    have k4 := cs.2.1
    by_cases q2 : lk A k f i = 0
    · simp only [if_pos q2]
      have e2 : mm_up A (44 + 2 * k) i.toNatClampNeg (g_cut f v) 52 = A 52 := mm_upn _ _ _ (by omega)
      have e3 : mm_up A (44 + 2 * k) i.toNatClampNeg (g_cut f v) 53 = A 53 := mm_upn _ _ _ (by omega)
      have e4 : mm_up A (44 + 2 * k) i.toNatClampNeg (g_cut f v) 54 = A 54 := mm_upn _ _ _ (by omega)
      rw [lk_e e2 e3]
      simp only [if_pos q2]
      refine ⟨hi.1.hi (fun c hc => mm_upn _ _ _ (by omega)), trivial, ?_⟩
      have ok := hi.1.2.2.2.2.2.2.2 k k4
      have ci : 0 ≤ i.toInt ∧ i.toInt < (A 53 k).toInt := by
        unfold lk at q2
        split at q2
        · exact absurd q2 (by decide)
        · split at q2
          · exact absurd q2 (by decide)
          · split at q2
            · assumption
            · exact absurd q2 (by decide)
      have ci2 := mm_cl2 (x := i) (n := 60) ⟨ci.1, by omega⟩
      generalize hY : mm_up (mm_up A (44 + 2 * k) i.toNatClampNeg (g_cut f v)) 54 (60 * k + i.toNatClampNeg) (g_cut f v) = Y
      have y54 : Y 54 = upd (A 54) (60 * k + i.toNatClampNeg) (g_cut f v) := by rw [← hY, mm_upc, e4]
      have yb : Y (44 + 2 * k) = upd (A (44 + 2 * k)) i.toNatClampNeg (g_cut f v) := by rw [← hY, mm_upn _ _ _ (by omega), mm_upc]
      have yo : ∀ c, c ≠ 44 + 2 * k → c ≠ 54 → Y c = A c := fun c a b => by rw [← hY, mm_upn _ _ _ b, mm_upn _ _ _ a]
      refine hi.shk (k := k) k4 (fun c a b d e g => yo c b g) (fun t ht z => by rw [yo 52 (by omega) (by decide)]) (fun t ht z => by rw [yo 53 (by omega) (by decide)]) (fun t ht z x hx => by rw [y54]; simp only [upd, if_neg (show ¬ 60 * t + x = 60 * k + i.toNatClampNeg by omega)]) (by rw [yo 52 (by omega) (by decide)]; exact ok.1) (by rw [yo 53 (by omega) (by decide)]; exact ok.2) (fun z => ?_) (fun z => ?_)
      · rw [yo 52 (by omega) (by decide)] at z
        rw [yo _ (by omega) (by omega)]
        exact (hi.2.2.2.2.2.2 k k4).1 z
      · rw [yo 52 (by omega) (by decide)] at z ⊢
        rw [yo 53 (by omega) (by decide), yo (43 + 2 * k) (by omega) (by omega)]
        obtain ⟨p1, p2, p3⟩ := (hi.2.2.2.2.2.2 k k4).2 z
        refine ⟨p1, p2, fun x hx => ?_⟩
        rw [yb, y54]
        by_cases w : x = i.toNatClampNeg
        · simp only [upd, if_pos w, if_pos (show 60 * k + x = 60 * k + i.toNatClampNeg by omega)]
        · simp only [upd, if_neg w, if_neg (show ¬ 60 * k + x = 60 * k + i.toNatClampNeg by omega)]
          exact p3 x hx
    · simp only [if_neg q2]
      have e2 : mm_up A 0 11 (lk A k f i) 52 = A 52 := mm_upn _ _ _ (by decide)
      have e3 : mm_up A 0 11 (lk A k f i) 53 = A 53 := mm_upn _ _ _ (by decide)
      rw [lk_e e2 e3]
      simp only [if_neg q2]
      exact ⟨hi.1.hi (fun c hc => mm_upn _ _ _ (by omega)), trivial, hi.met _⟩
  · simp only [if_neg q]
    exact ⟨hi.1, trivial, hi⟩
theorem m_get {A : mm_M} (hi : iv A) (s f i : Int32) : a_ok (ge_c A s f i) ∧ z_get (ge_c A s f i) s f i = z_get A s f i ∧ iv (ge_r (ge_c A s f i) s f i) := by
  unfold ge_c z_get ge_r
  by_cases q : (0 ≤ s.toInt ∧ s.toInt ≤ 3) ∧ 0 ≤ f.toInt ∧ f.toInt ≤ 2
  · simp only [if_pos q]
    by_cases q2 : lk A s.toNatClampNeg f i = 0
    · simp only [if_pos q2]
      exact ⟨hi.1, trivial, hi⟩
    · simp only [if_neg q2]
      have e2 : mm_up A 0 11 (lk A s.toNatClampNeg f i) 52 = A 52 := mm_upn _ _ _ (by decide)
      have e3 : mm_up A 0 11 (lk A s.toNatClampNeg f i) 53 = A 53 := mm_upn _ _ _ (by decide)
      rw [lk_e e2 e3]
      simp only [if_neg q2]
      exact ⟨hi.1.hi (fun c hc => mm_upn _ _ _ (by omega)), trivial, hi.met _⟩
  · simp only [if_neg q]
    exact ⟨hi.1, trivial, hi⟩
theorem ck_e {A B : mm_M} (h2 : B 52 = A 52) (h3 : B 53 = A 53) (k k2 : Nat) (i j n : Int32) : ck B k k2 i j n = ck A k k2 i j n := by unfold ck; rw [h2, h3]
/-- rows of a sheet are changed alike -/
theorem iv.rows {A : mm_M} (hi : iv A) {k : Nat} (k4 : k < 4) {r1 r2 : Nat → Int32} (h1 : ∀ t, t < 4 → t ≠ k → ∀ i, i < 60 → r2 (60 * t + i) = A 54 (60 * t + i)) (h2 : ¬ A 52 k = -1 → ∀ i : Nat, (i : Int) < (A 53 k).toInt → r1 i = r2 (60 * k + i)) : iv (va_up (va_up A (44 + 2 * k) r1) 54 r2) := by
  generalize hY : va_up (va_up A (44 + 2 * k) r1) 54 r2 = Y
  have y54 : Y 54 = r2 := by rw [← hY]; simp [va_up]
  have yb : Y (44 + 2 * k) = r1 := by rw [← hY, va_upn _ _ (by omega)]; simp [va_up]
  have yo : ∀ c, c ≠ 44 + 2 * k → c ≠ 54 → Y c = A c := fun c a b => by rw [← hY, va_upn _ _ b, va_upn _ _ a]
  have ok := hi.1.2.2.2.2.2.2.2 k k4
  refine hi.shk (k := k) k4 (fun c a b d e g => yo c b g) (fun t ht z => by rw [yo 52 (by omega) (by decide)]) (fun t ht z => by rw [yo 53 (by omega) (by decide)]) (fun t ht z x hx => by rw [y54]; exact h1 t ht z x hx) (by rw [yo 52 (by omega) (by decide)]; exact ok.1) (by rw [yo 53 (by omega) (by decide)]; exact ok.2) (fun z => ?_) (fun z => ?_)
  · rw [yo 52 (by omega) (by decide)] at z
    rw [yo _ (by omega) (by omega)]
    exact (hi.2.2.2.2.2.2 k k4).1 z
  · rw [yo 52 (by omega) (by decide)] at z ⊢
    rw [yo 53 (by omega) (by decide), yo (43 + 2 * k) (by omega) (by omega)]
    obtain ⟨p1, p2, p3⟩ := (hi.2.2.2.2.2.2 k k4).2 z
    refine ⟨p1, p2, fun x hx => ?_⟩
    rw [yb, y54]
    exact h2 z x hx
theorem m_copy {A : mm_M} (hi : iv A) (s i t j n : Int32) : a_ok (co_c A s i t j n) ∧ z_copy (co_c A s i t j n) s i t j n = z_copy A s i t j n ∧ iv (co_r (co_c A s i t j n) s i t j n) := by
  unfold co_c z_copy co_r
  by_cases q : (0 ≤ s.toInt ∧ s.toInt ≤ 3) ∧ 0 ≤ t.toInt ∧ t.toInt ≤ 3
  · simp only [if_pos q]
    have cs := mm_cl2 (x := s) (n := 4) (by omega)
    have ct := mm_cl2 (x := t) (n := 4) (by omega)
    generalize hk : s.toNatClampNeg = k at *
    generalize hk2 : t.toNatClampNeg = k2 at *
    have k4 := cs.2.1
    have k24 := ct.2.1
    by_cases q2 : ck A k k2 i j n = 0
    · simp only [if_pos q2]
      generalize hr1 : va_cpy (A (44 + 2 * k)) (A (44 + 2 * k2)) i.toNatClampNeg j.toNatClampNeg n.toNatClampNeg = r1
      have e2 : va_up A (44 + 2 * k2) r1 52 = A 52 := va_upn _ _ (by omega)
      have e3 : va_up A (44 + 2 * k2) r1 53 = A 53 := va_upn _ _ (by omega)
      have e4 : va_up A (44 + 2 * k2) r1 54 = A 54 := va_upn _ _ (by omega)
      rw [ck_e e2 e3, e4]
      simp only [if_pos q2]
      have cond : (¬ A 52 k = -1 ∧ ¬ A 52 k2 = -1) ∧ (0 ≤ i.toInt ∧ 0 ≤ n.toInt ∧ i.toInt + n.toInt ≤ (A 53 k).toInt) ∧ 0 ≤ j.toInt ∧ 0 ≤ n.toInt ∧ j.toInt + n.toInt ≤ (A 53 k2).toInt := by
        unfold ck at q2
        split at q2
        · exact absurd q2 (by decide)
        · rename_i z
          split at q2
          · exact absurd q2 (by decide)
          · split at q2
            · rename_i z2
              exact ⟨⟨fun y => z (Or.inl y), fun y => z (Or.inr y)⟩, z2⟩
            · exact absurd q2 (by decide)
      obtain ⟨⟨n1, n2⟩, ⟨i0, n0, i1⟩, j0, -, j1⟩ := cond
      have o1 := (hi.1.2.2.2.2.2.2.2 k k4).2
      have o2 := (hi.1.2.2.2.2.2.2.2 k2 k24).2
      have ci := mm_cl2 (x := i) (n := 61) ⟨i0, by omega⟩
      have cj := mm_cl2 (x := j) (n := 61) ⟨j0, by omega⟩
      have cn := mm_cl2 (x := n) (n := 61) ⟨n0, by omega⟩
      refine ⟨hi.1.hi (fun c hc => va_upn _ _ (by omega)), trivial, hi.rows k24 (fun t2 ht z x hx => ?_) (fun _ x hx => ?_)⟩
      · unfold va_cpy
        rw [if_neg (by omega)]
      · rw [← hr1]
        unfold va_cpy
        by_cases w : j.toNatClampNeg ≤ x ∧ x < j.toNatClampNeg + n.toNatClampNeg
        · rw [if_pos w, if_pos (by omega), ((hi.2.2.2.2.2.2 k k4).2 n1).2.2 _ (by omega)]
          congr 1
          omega
        · rw [if_neg w, if_neg (by omega)]
          exact ((hi.2.2.2.2.2.2 k2 k24).2 n2).2.2 x hx
    · simp only [if_neg q2]
      have e2 : mm_up A 0 11 (ck A k k2 i j n) 52 = A 52 := mm_upn _ _ _ (by decide)
      have e3 : mm_up A 0 11 (ck A k k2 i j n) 53 = A 53 := mm_upn _ _ _ (by decide)
      rw [ck_e e2 e3]
      simp only [if_neg q2]
      exact ⟨hi.1.hi (fun c hc => mm_upn _ _ _ (by omega)), trivial, hi.met _⟩
  · simp only [if_neg q]
    exact ⟨hi.1, trivial, hi⟩
theorem m_write {A : mm_M} (hi : iv A) {k y : Nat} (k4 : k < 4) : iv (va_up (va_up A (44 + 2 * k) (va_cpy (wrow A k y) (A (44 + 2 * k)) 0 0 (wn A k))) 54 (va_cpy (wrow A k y) (A 54) 0 (60 * k) (wn A k))) := by
  have o1 := (hi.1.2.2.2.2.2.2.2 k k4).2
  have c1 := mm_cl2 (x := A 53 k) (n := 61) ⟨o1.1, by omega⟩
  have wl : wn A k ≤ 60 := by
    unfold wn
    have := hi.1.nl
    split <;> omega
  refine hi.rows k4 (fun t2 ht z x hx => ?_) (fun z x hx => ?_)
  · unfold va_cpy
    rw [if_neg (by omega)]
  · unfold va_cpy
    by_cases w : 0 ≤ x ∧ x < 0 + wn A k
    · rw [if_pos w, if_pos (by omega)]
      congr 1
      omega
    · rw [if_neg w, if_neg (by omega)]
      exact ((hi.2.2.2.2.2.2 k k4).2 z).2.2 x hx
/-! Texts are kept alike -/
def okb (t b : Int32) : Bool := decide ((0 ≤ t.toInt ∧ t.toInt ≤ 1) ∧ 0 ≤ b.toInt ∧ b.toInt ≤ 255)
def z_type (B : mm_M) (t b : Int32) : Int32 := if okb t b = true then (if z_tn B t < z_rm t then nI (z_tn B t + 1) else -4) else -2
def tyr (B : mm_M) (t b : Int32) : mm_M := if okb t b = true then (if z_tn B t < z_rm t then (if t.toInt = 0 then mm_up (mm_up B 56 (a_n0 B) b) 57 0 (nI (a_n0 B + 1)) else mm_up (mm_up B 56 (20 + a_n1 B) b) 57 1 (nI (a_n1 B + 1))) else B) else B
theorem z_rm0 : z_rm 0 = 20 := if_pos (by decide)
theorem z_rm1 : z_rm 1 = 60 := if_neg (by decide)
theorem okb_t {t b : Int32} (h : (0 ≤ t.toInt ∧ t.toInt ≤ 1) ∧ 0 ≤ b.toInt ∧ b.toInt ≤ 255) : okb t b = true := decide_eq_true h
theorem okb_f {t b : Int32} (h : ¬ ((0 ≤ t.toInt ∧ t.toInt ≤ 1) ∧ 0 ≤ b.toInt ∧ b.toInt ≤ 255)) : ¬ okb t b = true := fun y => h (of_decide_eq_true y)
theorem iv.text {M M1 Y : mm_M} {n0 n1 : Nat} (hi : iv M) (h : tp M M1 n0 n1) (k0 : n0 ≤ 20) (k1 : n1 ≤ 60) (hy : ∀ c, c ≠ 56 → c ≠ 57 → Y c = M1 c) (y0 : Y 57 0 = nI n0) (y1 : Y 57 1 = nI n1) (yb : ∀ j, j < 80 → 0 ≤ (Y 56 j).toInt ∧ (Y 56 j).toInt ≤ 255) (e0 : ∀ j, j < n0 → M1 2 j = Y 56 j) (e1 : ∀ j, j < n1 → M1 4 j = Y 56 (20 + j)) : iv Y := by
  obtain ⟨hp, ho⟩ := h
  obtain ⟨h1, h2, h3, h4, h5, h6, h7⟩ := hi
  have hc : ∀ c, c = 0 ∨ 12 ≤ c → c ≠ 56 → c ≠ 57 → Y c = M c := fun c a b d => (hy c b d).trans (ho c a)
  have px2 : px Y n0 n1 := by
    unfold px at hp ⊢
    rw [hy 1 (by decide) (by decide), hy 2 (by decide) (by decide), hy 3 (by decide) (by decide), hy 4 (by decide) (by decide), hy 5 (by decide) (by decide), hy 6 (by decide) (by decide), hy 7 (by decide) (by decide), hy 8 (by decide) (by decide), hy 9 (by decide) (by decide), hy 10 (by decide) (by decide), hy 11 (by decide) (by decide)]
    exact hp
  refine ⟨?_, by rw [hc 0 (by decide) (by decide) (by decide), hc 51 (by decide) (by decide) (by decide)]; exact h2, px2.iv y0 y1 k0 k1 (by rw [hy 2 (by decide) (by decide)]; exact e0) (by rw [hy 4 (by decide) (by decide)]; exact e1), by rw [hc 13 (by decide) (by decide) (by decide), hc 60 (by decide) (by decide) (by decide)]; exact h4, h5.of (fun c z => hc c (by omega) (by omega) (by omega)) (by rw [hc 51 (by decide) (by decide) (by decide)]), h6.of (fun c z => hc c (by omega) (by omega) (by omega)) (by rw [hc 51 (by decide) (by decide) (by decide)]), h7.of (fun c z => hc c (by omega) (by omega) (by omega))⟩
  obtain ⟨g1, g2, g3, g4, g5, g6, g7, g8⟩ := h1
  refine ⟨by rw [y0, y1, mm_ti (by omega), mm_ti (by omega)]; omega, yb, by rw [hc 60 (by decide) (by decide) (by decide)]; exact g3, by rw [hc 51 (by decide) (by decide) (by decide)]; exact g4, by rw [hc 51 (by decide) (by decide) (by decide), hc 61 (by decide) (by decide) (by decide)]; exact g5, by rw [hc 51 (by decide) (by decide) (by decide)]; exact g6, by rw [hc 51 (by decide) (by decide) (by decide), hc 72 (by decide) (by decide) (by decide)]; exact g7, by rw [hc 52 (by decide) (by decide) (by decide), hc 53 (by decide) (by decide) (by decide)]; exact g8⟩
theorem tp_ok {M M1 : mm_M} {n0 n1 : Nat} (hi : iv M) (h : tp M M1 n0 n1) : a_ok M1 ∧ a_n0 M1 = a_n0 M ∧ a_n1 M1 = a_n1 M ∧ M1 56 = M 56 ∧ M1 57 = M 57 := by
  have e7 := h.2 57 (by decide)
  exact ⟨hi.1.hi (fun c hc => h.2 c (by omega)), by unfold a_n0; rw [e7], by unfold a_n1; rw [e7], h.2 56 (by decide), e7⟩
theorem c_X12_type2 {l : Launch} {G : mm_G} {d : Nat} {M : mm_M} {Q : Int32 → mm_T → mm_M → Prop} (hB : a_ok M) {t b : Int32} (h : Q (z_type M t b) T0 (tyr M t b)) : mm_met l G (d + 2) k_X12_type [.ref 51, .int t, .int b] T0 M (mm_pi Q) := by
  unfold z_type tyr at h
  by_cases t0 : t.toInt = 0
  · have e : t = 0 := mm_ii t0
    subst e
    refine c_X12_type0 hB fr.rf (fun q1 q2 => ?_) (fun q1 q2 => ?_) (fun q1 => ?_)
    · rw [if_pos (okb_t (t := 0) ⟨⟨by decide, by decide⟩, q1⟩), if_pos (okb_t (t := 0) ⟨⟨by decide, by decide⟩, q1⟩), if_pos t0] at h
      simp only [show z_tn M 0 = a_n0 M from if_pos t0, z_rm0, if_pos q2] at h
      exact h
    · rw [if_pos (okb_t (t := 0) ⟨⟨by decide, by decide⟩, q1⟩), if_pos (okb_t (t := 0) ⟨⟨by decide, by decide⟩, q1⟩)] at h
      simp only [show z_tn M 0 = a_n0 M from if_pos t0, z_rm0, if_neg q2] at h
      exact h
    · rw [if_neg (okb_f (t := 0) (fun y => q1 y.2)), if_neg (okb_f (t := 0) (fun y => q1 y.2))] at h
      exact h
  · by_cases t1 : t.toInt = 1
    · have e : t = 1 := mm_ii t1
      subst e
      refine c_X12_type1 hB fr.rf (fun q1 q2 => ?_) (fun q1 q2 => ?_) (fun q1 => ?_)
      · rw [if_pos (okb_t (t := 1) ⟨⟨by decide, by decide⟩, q1⟩), if_pos (okb_t (t := 1) ⟨⟨by decide, by decide⟩, q1⟩), if_neg t0] at h
        simp only [show z_tn M 1 = a_n1 M from if_neg t0, z_rm1, if_pos q2] at h
        exact h
      · rw [if_pos (okb_t (t := 1) ⟨⟨by decide, by decide⟩, q1⟩), if_pos (okb_t (t := 1) ⟨⟨by decide, by decide⟩, q1⟩)] at h
        simp only [show z_tn M 1 = a_n1 M from if_neg t0, z_rm1, if_neg q2] at h
        exact h
      · rw [if_neg (okb_f (t := 1) (fun y => q1 y.2)), if_neg (okb_f (t := 1) (fun y => q1 y.2))] at h
        exact h
    · refine c_X12_typeN (by omega) ?_
      rw [if_neg (okb_f (fun y => by omega)), if_neg (okb_f (fun y => by omega))] at h
      exact h
/-- type of the class: then the reference answers alike and all is kept -/
theorem c_X11_type2 {l : Launch} {G : mm_G} {d : Nat} {M : mm_M} {Q : Int32 → mm_T → mm_M → Prop} (hi : iv M) {t b : Int32} (h : ∀ r M1, a_ok M1 → r = z_type M1 t b → iv (tyr M1 t b) → Q r T0 M1) : mm_met l G (d + 6) k_X11_type [.ref 0, .int t, .int b] T0 M (mm_pi Q) := by
  have b0 := hi.1.n0
  have b1 := hi.1.n1
  refine c_X11_type hi fr.rf (fun e q1 q2 M1 p1 p2 p3 => ?_) (fun e q1 q2 M1 p1 p2 p3 => ?_) (fun q1 q2 => ?_) (fun q1 => ?_)
  · subst e
    obtain ⟨o1, o2, o3, o4, o5⟩ := tp_ok hi p1
    have kb : okb 0 b = true := decide_eq_true ⟨⟨by decide, by decide⟩, q1⟩
    have z1 : z_tn M1 0 = a_n0 M := by show (if _ then _ else _) = _; rw [if_pos (by decide)]; exact o2
    refine h _ M1 o1 ?_ ?_
    · unfold z_type
      rw [if_pos kb, z1, z_rm0, if_pos q2]
    · unfold tyr
      rw [if_pos kb, z1, z_rm0, if_pos q2, if_pos (by decide), o2]
      refine hi.text p1 (by omega) (by omega) (fun c a d => by rw [mm_upn _ _ _ d, mm_upn _ _ _ a]) (mm_upv _ _ _ _) ?_ (fun j hj => ?_) (fun j hj => ?_) (fun j hj => ?_)
      · rw [mm_upc, mm_upn _ _ _ (by decide), o5]
        simp only [upd, if_neg (show ¬ (1 : Nat) = 0 by decide)]
        exact b1.1
      · rw [mm_upn _ _ _ (by decide), mm_upc, o4]
        by_cases z : j = a_n0 M
        · simp only [upd, if_pos z]; exact q1
        · simp only [upd, if_neg z]; exact hi.1.2.1 j hj
      · rw [mm_upn _ _ _ (by decide), mm_upc, o4, p2]
        by_cases z : j = a_n0 M
        · simp only [upd, if_pos z]
        · simp only [upd, if_neg z]; exact hi.2.2.1.1.2 j (by omega)
      · rw [mm_upn _ _ _ (by decide), mm_upc, o4, p3]
        simp only [upd, if_neg (show ¬ 20 + j = a_n0 M by omega)]
        exact hi.2.2.1.2.1.2 j hj
  · subst e
    obtain ⟨o1, o2, o3, o4, o5⟩ := tp_ok hi p1
    have kb : okb 1 b = true := decide_eq_true ⟨⟨by decide, by decide⟩, q1⟩
    have z1 : z_tn M1 1 = a_n1 M := by show (if _ then _ else _) = _; rw [if_neg (by decide)]; exact o3
    refine h _ M1 o1 ?_ ?_
    · unfold z_type
      rw [if_pos kb, z1, z_rm1, if_pos q2]
    · unfold tyr
      rw [if_pos kb, z1, z_rm1, if_pos q2, if_neg (by decide), o3]
      refine hi.text p1 (by omega) (by omega) (fun c a d => by rw [mm_upn _ _ _ d, mm_upn _ _ _ a]) ?_ (mm_upv _ _ _ _) (fun j hj => ?_) (fun j hj => ?_) (fun j hj => ?_)
      · rw [mm_upc, mm_upn _ _ _ (by decide), o5]
        simp only [upd, if_neg (show ¬ (0 : Nat) = 1 by decide)]
        exact b0.1
      · rw [mm_upn _ _ _ (by decide), mm_upc, o4]
        by_cases z : j = 20 + a_n1 M
        · simp only [upd, if_pos z]; exact q1
        · simp only [upd, if_neg z]; exact hi.1.2.1 j hj
      · rw [mm_upn _ _ _ (by decide), mm_upc, o4, p2]
        simp only [upd, if_neg (show ¬ j = 20 + a_n1 M by omega)]
        exact hi.2.2.1.1.2 j hj
      · rw [mm_upn _ _ _ (by decide), mm_upc, o4, p3]
        by_cases z : j = a_n1 M
        · simp only [upd, if_pos z, if_pos (show 20 + j = 20 + a_n1 M by omega)]
        · simp only [upd, if_neg z, if_neg (show ¬ 20 + j = 20 + a_n1 M by omega)]
          exact hi.2.2.1.2.1.2 j (by omega)
  · refine h _ M hi.1 ?_ ?_
    · unfold z_type
      rw [if_pos (okb_t q1), if_neg q2]
    · unfold tyr
      rw [if_pos (okb_t q1), if_neg q2]
      exact hi
  · refine h _ M hi.1 ?_ ?_
    · unfold z_type
      rw [if_neg (okb_f q1)]
    · unfold tyr
      rw [if_neg (okb_f q1)]
      exact hi
def z_wipe (B : mm_M) (t : Int32) : Int32 := if t.toInt = 0 then nI (a_n0 B) else if t.toInt = 1 then nI (a_n1 B) else -2
def wir (B : mm_M) (t : Int32) : mm_M := if t.toInt = 0 then mm_up B 57 0 0 else if t.toInt = 1 then mm_up B 57 1 0 else B
theorem c_X12_wipe2 {l : Launch} {G : mm_G} {d : Nat} {M : mm_M} {Q : Int32 → mm_T → mm_M → Prop} (hB : a_ok M) {t : Int32} (h : Q (z_wipe M t) T0 (wir M t)) : mm_met l G (d + 2) k_X12_wipe [.ref 51, .int t] T0 M (mm_pi Q) := by
  unfold z_wipe wir at h
  by_cases t0 : t.toInt = 0
  · have e : t = 0 := mm_ii t0
    subst e
    rw [if_pos t0, if_pos t0] at h
    exact c_X12_wipe0 hB fr.rf h
  · by_cases t1 : t.toInt = 1
    · have e : t = 1 := mm_ii t1
      subst e
      rw [if_neg t0, if_neg t0, if_pos t1, if_pos t1] at h
      exact c_X12_wipe1 hB fr.rf h
    · rw [if_neg t0, if_neg t0, if_neg t1, if_neg t1] at h
      exact c_X12_wipeN (by omega) h
theorem c_X11_wipe2 {l : Launch} {G : mm_G} {d : Nat} {M : mm_M} {Q : Int32 → mm_T → mm_M → Prop} (hi : iv M) {t : Int32} (h : ∀ r M1, a_ok M1 → r = z_wipe M1 t → iv (wir M1 t) → Q r T0 M1) : mm_met l G (d + 6) k_X11_wipe [.ref 0, .int t] T0 M (mm_pi Q) := by
  have b0 := hi.1.n0
  have b1 := hi.1.n1
  refine c_X11_wipe hi fr.rf (fun e M1 p1 p3 => ?_) (fun e M1 p1 p3 => ?_) (fun q1 => ?_)
  · subst e
    obtain ⟨o1, o2, o3, o4, o5⟩ := tp_ok hi p1
    refine h _ M1 o1 ?_ ?_
    · unfold z_wipe
      rw [if_pos (by decide), o2]
    · unfold wir
      rw [if_pos (by decide)]
      refine hi.text p1 (by omega) (by omega) (fun c a d => by rw [mm_upn _ _ _ d]) (mm_upv _ _ _ _) ?_ (fun j hj => ?_) (fun j hj => by omega) (fun j hj => ?_)
      · rw [mm_upc, o5]
        simp only [upd, if_neg (show ¬ (1 : Nat) = 0 by decide)]
        exact b1.1
      · rw [mm_upn _ _ _ (by decide), o4]; exact hi.1.2.1 j hj
      · rw [mm_upn _ _ _ (by decide), o4, p3]; exact hi.2.2.1.2.1.2 j hj
  · subst e
    obtain ⟨o1, o2, o3, o4, o5⟩ := tp_ok hi p1
    refine h _ M1 o1 ?_ ?_
    · unfold z_wipe
      rw [if_neg (by decide), if_pos (by decide), o3]
    · unfold wir
      rw [if_neg (by decide), if_pos (by decide)]
      refine hi.text p1 (by omega) (by omega) (fun c a d => by rw [mm_upn _ _ _ d]) ?_ (mm_upv _ _ _ _) (fun j hj => ?_) (fun j hj => ?_) (fun j hj => by omega)
      · rw [mm_upc, o5]
        simp only [upd, if_neg (show ¬ (0 : Nat) = 1 by decide)]
        exact b0.1
      · rw [mm_upn _ _ _ (by decide), o4]; exact hi.1.2.1 j hj
      · rw [mm_upn _ _ _ (by decide), o4, p3]; exact hi.2.2.1.1.2 j hj
  · refine h _ M hi.1 ?_ ?_
    · unfold z_wipe
      rw [if_neg (by omega), if_neg (by omega)]
    · unfold wir
      rw [if_neg (by omega), if_neg (by omega)]
      exact hi
