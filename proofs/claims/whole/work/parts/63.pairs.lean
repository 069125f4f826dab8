/-! wed, ends, read, write: both sides together -/
theorem m_wed {A : mm_M} (hi : iv A) (w a b t : Int32) : a_ok (te A (ec A (a_ne A) 0 w a b t) (z_lb A w && okw a b t)) ∧ z_tell (te A (ec A (a_ne A) 0 w a b t) (z_lb A w && okw a b t)) (z_lb (te A (ec A (a_ne A) 0 w a b t) (z_lb A w && okw a b t)) w && okw a b t) = z_tell A (z_lb A w && okw a b t) ∧ iv (te (te A (ec A (a_ne A) 0 w a b t) (z_lb A w && okw a b t)) (er (te A (ec A (a_ne A) 0 w a b t) (z_lb A w && okw a b t)) (a_ne (te A (ec A (a_ne A) 0 w a b t) (z_lb A w && okw a b t))) 0 w a b t) (z_lb (te A (ec A (a_ne A) 0 w a b t) (z_lb A w && okw a b t)) w && okw a b t)) := by
  obtain ⟨h1, h2, h3, h4⟩ := m_tell hi (k := 0) (w := w) (a := a) (b := b) (b2 := b) (t := t) (ok := z_lb A w && okw a b t) (fun _ => rfl) (fun q => by
    rw [Bool.and_eq_true] at q
    have z := z_lb_i hi.1 q.1
    have y : (0 ≤ a.toInt ∧ a.toInt ≤ 11) ∧ (0 ≤ b.toInt ∧ b.toInt ≤ 11) ∧ 6 ≤ t.toInt ∧ t.toInt ≤ 18 := of_decide_eq_true q.2
    exact ⟨by decide, z, y.1, y.2.1, y.2.2⟩)
  refine ⟨h1, ?_, ?_⟩
  · rw [h2, h3]
  · rw [h3]; exact h4
theorem te_c {B X Y : mm_M} {ok : Bool} (h : ok = true → X = Y) : te B X ok = te B Y ok := by
  unfold te
  split
  · rename_i q; rw [h q]
  · rfl
theorem m_ends {A : mm_M} (hi : iv A) (w k p : Int32) : a_ok (te A (ec A (a_ne A) (if k.toInt = 0 then 1 else 2) w p (-1) 12) (z_lb A w && okd k p)) ∧ z_tell (te A (ec A (a_ne A) (if k.toInt = 0 then 1 else 2) w p (-1) 12) (z_lb A w && okd k p)) (z_lb (te A (ec A (a_ne A) (if k.toInt = 0 then 1 else 2) w p (-1) 12) (z_lb A w && okd k p)) w && okd k p) = z_tell A (z_lb A w && okd k p) ∧ iv (te (te A (ec A (a_ne A) (if k.toInt = 0 then 1 else 2) w p (-1) 12) (z_lb A w && okd k p)) (er (te A (ec A (a_ne A) (if k.toInt = 0 then 1 else 2) w p (-1) 12) (z_lb A w && okd k p)) (a_ne (te A (ec A (a_ne A) (if k.toInt = 0 then 1 else 2) w p (-1) 12) (z_lb A w && okd k p))) (1 + k) w p p 12) (z_lb (te A (ec A (a_ne A) (if k.toInt = 0 then 1 else 2) w p (-1) 12) (z_lb A w && okd k p)) w && okd k p)) := by
  obtain ⟨h1, h2, h3, h4⟩ := m_tell hi (k := if k.toInt = 0 then 1 else 2) (w := w) (a := p) (b := -1) (b2 := p) (t := 12) (ok := z_lb A w && okd k p) (fun q => by split at q <;> exact absurd q (by decide)) (fun q => by
    rw [Bool.and_eq_true] at q
    have z := z_lb_i hi.1 q.1
    have y : (0 ≤ k.toInt ∧ k.toInt ≤ 1) ∧ 0 ≤ p.toInt ∧ p.toInt ≤ 11 := of_decide_eq_true q.2
    exact ⟨by split <;> decide, z, y.2, y.2, by decide, by decide⟩)
  refine ⟨h1, ?_, ?_⟩
  · rw [h2, h3]
  · rw [h3]
    rw [te_c (Y := er (te A (ec A (a_ne A) (if k.toInt = 0 then 1 else 2) w p (-1) 12) (z_lb A w && okd k p)) (a_ne (te A (ec A (a_ne A) (if k.toInt = 0 then 1 else 2) w p (-1) 12) (z_lb A w && okd k p))) (if k.toInt = 0 then 1 else 2) w p p 12) (fun q => ?_)]
    · exact h4
    · rw [Bool.and_eq_true] at q
      have y : (0 ≤ k.toInt ∧ k.toInt ≤ 1) ∧ 0 ≤ p.toInt ∧ p.toInt ≤ 11 := of_decide_eq_true q.2
      have e : (1 + k : Int32) = if k.toInt = 0 then 1 else 2 := by
        by_cases z : k.toInt = 0
        · rw [if_pos z, show k = 0 from mm_ii z]; decide
        · rw [if_neg z, show k = 1 from mm_ii (by show k.toInt = 1; omega)]; decide
      rw [e]
/-! read -/
def rdc (A : mm_M) (s w r : Int32) (M1 : mm_M) : Prop :=
  (¬ ((0 ≤ s.toInt ∧ s.toInt ≤ 3) ∧ z_lb A w = true) ∧ r = -2 ∧ M1 = A) ∨
  (((0 ≤ s.toInt ∧ s.toInt ≤ 3) ∧ z_lb A w = true) ∧ A 52 s.toNatClampNeg = -1 ∧ r = -11 ∧ M1 = mm_up A 0 11 1) ∨
  (((0 ≤ s.toInt ∧ s.toInt ≤ 3) ∧ z_lb A w = true) ∧ ¬ A 52 s.toNatClampNeg = -1 ∧ ∃ n, r = nI n ∧ (∀ x, x < n → rg (fun x => A 54 (60 * s.toNatClampNeg + x)) (A 53 s.toNatClampNeg).toNatClampNeg (a_ne A) x = true) ∧ ¬ rg (fun x => A 54 (60 * s.toNatClampNeg + x)) (A 53 s.toNatClampNeg).toNatClampNeg (a_ne A) n = true ∧ fr (ecs A (a_ne A) (fun x => A 54 (60 * s.toNatClampNeg + x)) w n) M1)
theorem c_X11_read2 {l : Launch} {G : mm_G} {d : Nat} {M : mm_M} {Q : Int32 → mm_T → mm_M → Prop} (hi : iv M) {s w : Int32} (h : ∀ r M1, rdc M s w r M1 → Q r T0 M1) : mm_met l G (d + 3) k_X11_read [.ref 0, .int s, .int w] T0 M (mm_pi Q) :=
  c_X11_read hi fr.rf (fun q => h _ _ (Or.inl ⟨q, rfl, rfl⟩)) (fun q1 q2 q3 => h _ _ (Or.inr (Or.inl ⟨⟨q1, q2⟩, q3, rfl, rfl⟩))) (fun q1 q2 q3 n M1 q4 q5 q6 => h _ _ (Or.inr (Or.inr ⟨⟨q1, q2⟩, q3, n, rfl, q4, q5, q6⟩)))
theorem z_lb_c {A B : mm_M} (h1 : B 51 13 = A 51 13) (h2 : B 61 = A 61) (w : Int32) : z_lb B w = z_lb A w := by
  unfold z_lb z_lt a_ne
  rw [h1, h2]
theorem c_X12_read2 {l : Launch} {G : mm_G} {d : Nat} {A M : mm_M} {Q : Int32 → mm_T → mm_M → Prop} (hi : iv A) {s w r : Int32} (hc : rdc A s w r M) (h : ∀ M2, iv M2 → Q r T0 M2) : mm_met l G (d + 3) k_X12_read [.ref 51, .int s, .int w] T0 M (mm_pi Q) := by
  rcases hc with ⟨q, rfl, rfl⟩ | ⟨q, q3, rfl, rfl⟩ | ⟨q, q3, n, rfl, q4, q5, q6⟩
  · exact c_X12_read hi.1 fr.rf (fun _ => h _ hi) (fun a b _ => absurd ⟨a, b⟩ q) (fun a b _ => absurd ⟨a, b⟩ q)
  · have e : z_lb (mm_up A 0 11 1) w = z_lb A w := z_lb_c (by rw [mm_upn _ _ _ (by decide)]) (mm_upn _ _ _ (by decide)) w
    have e2 : mm_up A 0 11 1 52 = A 52 := mm_upn _ _ _ (by decide)
    exact c_X12_read (hi.1.hi (fun c hc => mm_upn _ _ _ (by omega))) fr.rf (fun z => absurd (by rw [e]; exact q) z) (fun _ _ _ => h _ (hi.met 1)) (fun _ _ z => absurd (by rw [e2]; exact q3) z)
  · have hB : a_ok (ecs A (a_ne A) (fun x => A 54 (60 * s.toNatClampNeg + x)) w n) := hi.1.hi (fun c hc => ecs_o (by omega) n)
    have e51 : ecs A (a_ne A) (fun x => A 54 (60 * s.toNatClampNeg + x)) w n 51 = A 51 := ecs_o (by decide) n
    have e52 : ecs A (a_ne A) (fun x => A 54 (60 * s.toNatClampNeg + x)) w n 52 = A 52 := ecs_o (by decide) n
    have e53 : ecs A (a_ne A) (fun x => A 54 (60 * s.toNatClampNeg + x)) w n 53 = A 53 := ecs_o (by decide) n
    have e54 : ecs A (a_ne A) (fun x => A 54 (60 * s.toNatClampNeg + x)) w n 54 = A 54 := ecs_o (by decide) n
    have en : a_ne (ecs A (a_ne A) (fun x => A 54 (60 * s.toNatClampNeg + x)) w n) = a_ne A := by
      show (ecs A (a_ne A) (fun x => A 54 (60 * s.toNatClampNeg + x)) w n 51 13).toNatClampNeg = _
      rw [e51]; rfl
    have e : z_lb (ecs A (a_ne A) (fun x => A 54 (60 * s.toNatClampNeg + x)) w n) w = z_lb A w := z_lb_c (by rw [e51]) (ecs_o (by decide) n) w
    refine c_X12_read hB q6 (fun z => absurd (by rw [e]; exact q) z) (fun _ _ z => absurd (by rw [← e52]; exact z) q3) (fun _ _ _ n2 M2 a1 a2 a3 => ?_)
    rw [en, e53, e54] at a1 a2
    rw [en, e54] at a3
    have hn : n2 = n := by
      by_cases z : n2 < n
      · exact absurd (q4 n2 z) a2
      · by_cases z2 : n < n2
        · exact absurd (a1 n z2) q5
        · omega
    rw [hn] at a3 ⊢
    exact h M2 (a3.toiv (m_read hi q.2 q4))
/-! write -/
def wrc (A : mm_M) (w s r : Int32) (M1 : mm_M) : Prop :=
  (¬ ((0 ≤ s.toInt ∧ s.toInt ≤ 3) ∧ 0 ≤ w.toInt ∧ w.toInt ≤ a_ne A) ∧ r = -2 ∧ M1 = A) ∨
  (((0 ≤ s.toInt ∧ s.toInt ≤ 3) ∧ 0 ≤ w.toInt ∧ w.toInt ≤ a_ne A) ∧ A 52 s.toNatClampNeg = -1 ∧ r = -11 ∧ M1 = mm_up A 0 11 1) ∨
  (((0 ≤ s.toInt ∧ s.toInt ≤ 3) ∧ 0 ≤ w.toInt ∧ w.toInt ≤ a_ne A) ∧ ¬ A 52 s.toNatClampNeg = -1 ∧ r = nI (wn A s.toNatClampNeg) ∧ fr (va_up A (44 + 2 * s.toNatClampNeg) (va_cpy (wrow A s.toNatClampNeg w.toNatClampNeg) (A (44 + 2 * s.toNatClampNeg)) 0 0 (wn A s.toNatClampNeg))) M1)
theorem c_X11_write2 {l : Launch} {G : mm_G} {d : Nat} {M : mm_M} {Q : Int32 → mm_T → mm_M → Prop} (hi : iv M) {w s : Int32} (h : ∀ r M1, wrc M w s r M1 → Q r T0 M1) : mm_met l G (d + 5) k_X11_write [.ref 0, .int w, .int s] T0 M (mm_pi Q) :=
  c_X11_write hi fr.rf (fun q => h _ _ (Or.inl ⟨q, rfl, rfl⟩)) (fun q1 q2 q3 => h _ _ (Or.inr (Or.inl ⟨⟨q1, q2⟩, q3, rfl, rfl⟩))) (fun q1 q2 q3 M1 q4 => h _ _ (Or.inr (Or.inr ⟨⟨q1, q2⟩, q3, rfl, q4⟩)))
theorem c_X12_write2 {l : Launch} {G : mm_G} {d : Nat} {A M : mm_M} {Q : Int32 → mm_T → mm_M → Prop} (hi : iv A) {w s r : Int32} (hc : wrc A w s r M) (h : ∀ M2, iv M2 → Q r T0 M2) : mm_met l G (d + 5) k_X12_write [.ref 51, .int w, .int s] T0 M (mm_pi Q) := by
  rcases hc with ⟨q, rfl, rfl⟩ | ⟨q, q3, rfl, rfl⟩ | ⟨q, q3, rfl, q4⟩
  · exact c_X12_write hi (B := M) (fun c _ => rfl) fr.rf (fun _ => h _ hi) (fun a b _ => absurd ⟨a, b⟩ q) (fun a b _ => absurd ⟨a, b⟩ q)
  · exact c_X12_write hi (B := mm_up A 0 11 1) (fun c hc => mm_upn _ _ _ (by omega)) fr.rf (fun z => absurd q z) (fun _ _ _ => h _ (hi.met 1)) (fun _ _ z => absurd q3 z)
  · have cs := mm_cl2 (x := s) (n := 4) (by omega)
    refine c_X12_write hi (B := va_up A (44 + 2 * s.toNatClampNeg) (va_cpy (wrow A s.toNatClampNeg w.toNatClampNeg) (A (44 + 2 * s.toNatClampNeg)) 0 0 (wn A s.toNatClampNeg))) (fun c hc => va_upn _ _ (by omega)) q4 (fun z => absurd q z) (fun _ _ z => absurd z q3) (fun _ _ _ M2 a1 => ?_)
    rw [va_upn _ _ (show (54 : Nat) ≠ 44 + 2 * s.toNatClampNeg by omega)] at a1
    exact h M2 (a1.toiv (m_write hi cs.2.1))
/-! fresh objects -/
theorem iv_E {M : mm_M} (h : ∀ c, c < 80 → ∀ j, M c j = E0 c j) : iv M := by
  have z : ∀ c j, c < 80 → E0 c j = 0 → M c j = 0 := fun c j a b => (h c a j).trans b
  have n0 : a_n0 M = 0 := by unfold a_n0; rw [z 57 0 (by decide) (by decide)]; rfl
  have n1 : a_n1 M = 0 := by unfold a_n1; rw [z 57 1 (by decide) (by decide)]; rfl
  have f0 : a_f0 M = -1 := by unfold a_f0; rw [n0]; rfl
  have nl : a_nl M = 0 := by
    unfold a_nl q_nl
    have e : q_f0 (a_n0 M) (M 56) = -1 := f0
    rw [if_pos e, n0]
  have f1 : a_f1 M = -1 := by unfold a_f1; rw [n1]; rfl
  have np : a_np M = 0 := by
    unfold a_np q_np
    have e : q_f1 (a_nl M) (a_n1 M) (a_b1 M) = -1 := f1
    rw [if_pos e, n1]
  have ne : a_ne M = 0 := by unfold a_ne; rw [z 51 13 (by decide) (by decide)]; rfl
  have ns : a_ns M = 0 := by unfold a_ns; rw [z 51 29 (by decide) (by decide)]; rfl
  have e0 : ∀ c j, c < 80 → c ≠ 5 → c ≠ 7 → c ≠ 20 → c ≠ 34 → c ≠ 43 → c ≠ 45 → c ≠ 47 → c ≠ 49 → c ≠ 52 → M c j = 0 := fun c j a b1 b2 b3 b4 b5 b6 b7 b8 b9 => by
    rw [h c a j]
    unfold E0
    rw [if_neg (by omega)]
  refine ⟨⟨?_, ?_, ?_, ?_, ?_, ?_, ?_, ?_⟩, ?_, ?_, ?_, ?_, ?_, ?_⟩
  · rw [z 57 0 (by decide) (by decide), z 57 1 (by decide) (by decide)]; decide
  · intro j _; rw [e0 56 j (by decide) (by decide) (by decide) (by decide) (by decide) (by decide) (by decide) (by decide) (by decide) (by decide)]; decide
  · intro j _; rw [e0 60 j (by decide) (by decide) (by decide) (by decide) (by decide) (by decide) (by decide) (by decide) (by decide) (by decide)]; decide
  · rw [z 51 13 (by decide) (by decide)]; decide
  · intro e he; rw [z 51 13 (by decide) (by decide)] at he; exact absurd he (by simp only [Int32.reduceToInt]; omega)
  · rw [z 51 29 (by decide) (by decide)]; decide
  · intro e he; rw [z 51 29 (by decide) (by decide)] at he; exact absurd he (by simp only [Int32.reduceToInt]; omega)
  · intro s hs
    rw [e0 53 s (by decide) (by decide) (by decide) (by decide) (by decide) (by decide) (by decide) (by decide) (by decide) (by decide), h 52 (by decide) s]
    unfold E0
    rw [if_pos (by omega)]
    decide
  · rw [z 0 11 (by decide) (by decide), z 51 4 (by decide) (by decide)]
  · refine ⟨⟨?_, ?_⟩, ⟨?_, ?_⟩, ⟨?_, ?_, ?_⟩, ?_, ?_, ?_⟩
    · rw [z 1 1 (by decide) (by decide), z 57 0 (by decide) (by decide)]
    · intro j hj; rw [n0] at hj; omega
    · rw [z 3 1 (by decide) (by decide), z 57 1 (by decide) (by decide)]
    · intro j hj; rw [n1] at hj; omega
    · rw [nl, z 5 1 (by decide) (by decide)]; rfl
    · rw [f0, h 5 (by decide) 2]; rfl
    · intro j hj; rw [nl] at hj; omega
    · rw [np, z 7 4 (by decide) (by decide)]; rfl
    · rw [f1, h 7 (by decide) 5]; rfl
    · intro j hj; rw [np] at hj; omega
  · intro w _
    rw [e0 13 w (by decide) (by decide) (by decide) (by decide) (by decide) (by decide) (by decide) (by decide) (by decide) (by decide), e0 60 w (by decide) (by decide) (by decide) (by decide) (by decide) (by decide) (by decide) (by decide) (by decide) (by decide)]
  · exact ⟨by rw [z 14 5 (by decide) (by decide), z 51 13 (by decide) (by decide)], fun e he => by rw [ne] at he; omega⟩
  · exact ⟨by rw [z 38 3 (by decide) (by decide), z 51 29 (by decide) (by decide)], fun e he => by rw [ns] at he; omega⟩
  · intro s hs
    have e52 : M 52 s = -1 := by rw [h 52 (by decide) s]; unfold E0; rw [if_pos (by omega)]
    refine ⟨fun _ => ?_, fun q => absurd e52 q⟩
    rcases (show s = 0 ∨ s = 1 ∨ s = 2 ∨ s = 3 by omega) with rfl | rfl | rfl | rfl
    · exact h 43 (by decide) 2
    · exact h 45 (by decide) 2
    · exact h 47 (by decide) 2
    · exact h 49 (by decide) 2
