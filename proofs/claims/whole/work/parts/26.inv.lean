/-! What holds between two calls, what a question may change, and the state behind events as a function of what was told -/
def a_ne (A : mm_M) : Nat := (A 51 13).toNatClampNeg
def a_ns (A : mm_M) : Nat := (A 51 29).toNatClampNeg
theorem a_ok.ne {A : mm_M} (h : a_ok A) : A 51 13 = nI (a_ne A) ∧ a_ne A ≤ 24 := by
  have h1 := h.2.2.2.1
  have h2 := mm_cl h1.1
  exact ⟨mm_nc h1.1, by unfold a_ne; omega⟩
theorem a_ok.ns {A : mm_M} (h : a_ok A) : A 51 29 = nI (a_ns A) ∧ a_ns A ≤ 8 := by
  have h1 := h.2.2.2.2.2.1
  have h2 := mm_cl h1.1
  exact ⟨mm_nc h1.1, by unfold a_ns; omega⟩
def iv_t (M : mm_M) : Prop := (M 1 1 = M 57 0 ∧ ∀ j, j < a_n0 M → M 2 j = M 56 j) ∧ (M 3 1 = M 57 1 ∧ ∀ j, j < a_n1 M → M 4 j = a_b1 M j) ∧ (M 5 1 = nI (a_nl M) ∧ M 5 2 = a_f0 M ∧ ∀ j, j < a_nl M → M 6 j = q_lw (M 56) j) ∧ (M 7 4 = nI (a_np M) ∧ M 7 5 = a_f1 M ∧ ∀ p, p < a_np M → M 8 p = q_wh (a_b1 M) p 0 ∧ M 9 p = q_wh (a_b1 M) p 1 ∧ M 10 p = q_wh (a_b1 M) p 2 ∧ M 11 p = q_wh (a_b1 M) p 3)
def iv_e (M : mm_M) : Prop := M 14 5 = M 51 13 ∧ ∀ e, e < a_ne M → M 16 e = M 61 (5 * e) ∧ M 15 e = M 61 (5 * e + 1) ∧ M 17 e = M 61 (5 * e + 2) ∧ (M 61 (5 * e) = 0 → M 18 e = M 61 (5 * e + 3)) ∧ M 19 e = M 61 (5 * e + 4)
def iv_m (M : mm_M) : Prop := M 38 3 = M 51 29 ∧ ∀ s, s < a_ns M → M 39 s = M 72 (3 * s) ∧ M 40 s = M 72 (3 * s + 1) ∧ M 41 s = M 72 (3 * s + 2)
def iv_h (M : mm_M) : Prop := ∀ s, s < 4 → (M 52 s = -1 → M (43 + 2 * s) 2 = -1) ∧ (¬ M 52 s = -1 → M (43 + 2 * s) 1 = M 52 s ∧ M (43 + 2 * s) 2 = M 53 s ∧ ∀ i : Nat, (i : Int) < (M 53 s).toInt → M (44 + 2 * s) i = M 54 (60 * s + i))
def iv (M : mm_M) : Prop := a_ok M ∧ M 0 11 = M 51 4 ∧ iv_t M ∧ (∀ w, w < 52 → M 13 w = M 60 w) ∧ iv_e M ∧ iv_m M ∧ iv_h M
/-- cells that a question leaves -/
def bs (c : Nat) : Bool := decide (c < 20) || (decide (38 ≤ c ∧ c ≤ 50) || (decide (52 ≤ c ∧ c ≤ 54) || (decide (c = 56) || (decide (c = 57) || (decide (c = 60) || (decide (c = 61) || decide (c = 72)))))))
def fr (A X : mm_M) : Prop := (∀ c, bs c = true → X c = A c) ∧ X 51 4 = A 51 4 ∧ X 51 13 = A 51 13 ∧ X 51 29 = A 51 29
theorem fr.rf {A : mm_M} : fr A A := ⟨fun _ _ => rfl, rfl, rfl, rfl⟩
theorem fr.tr {A B C : mm_M} (h : fr A B) (h2 : fr B C) : fr A C := ⟨fun c q => (h2.1 c q).trans (h.1 c q), h2.2.1.trans h.2.1, h2.2.2.1.trans h.2.2.1, h2.2.2.2.trans h.2.2.2⟩
theorem fr.lo {A X : mm_M} (h : fr A X) : ∀ c, c < 20 → X c = A c := fun c hc => h.1 c (by simp [bs, hc])
theorem fr.up {A X : mm_M} (h : fr A X) {c a : Nat} {v : Int32} (hc : bs c = false) (h51 : c ≠ 51) : fr A (mm_up X c a v) := by
  refine ⟨fun c' q => ?_, ?_, ?_, ?_⟩
  · rw [mm_upn _ _ _ (fun e => by rw [e, hc] at q; exact absurd q (by decide))]; exact h.1 c' q
  all_goals rw [mm_upn _ _ _ (Ne.symm h51)]
  · exact h.2.1
  · exact h.2.2.1
  · exact h.2.2.2
theorem fr.vup {A X : mm_M} (h : fr A X) {c : Nat} {r : Nat → Int32} (hc : bs c = false) (h51 : c ≠ 51) : fr A (va_up X c r) := by
  refine ⟨fun c' q => ?_, ?_, ?_, ?_⟩
  · have : c' ≠ c := fun e => by rw [e, hc] at q; exact absurd q (by decide)
    simp [va_up, this]; exact h.1 c' q
  all_goals simp [va_up, Ne.symm h51]
  · exact h.2.1
  · exact h.2.2.1
  · exact h.2.2.2
theorem fr.u51 {A X : mm_M} (h : fr A X) {f : Nat} {v : Int32} (hf : f ≠ 4 ∧ f ≠ 13 ∧ f ≠ 29) : fr A (mm_up X 51 f v) := by
  refine ⟨fun c' q => ?_, ?_, ?_, ?_⟩
  · rw [mm_upn _ _ _ (fun e => by rw [e] at q; exact absurd q (by decide))]; exact h.1 c' q
  all_goals rw [mm_upc]
  · simp [upd, Ne.symm hf.1]; exact h.2.1
  · simp [upd, Ne.symm hf.2.1]; exact h.2.2.1
  · simp [upd, Ne.symm hf.2.2]; exact h.2.2.2
theorem fr.of {A X Y : mm_M} (h : fr A X) (h1 : ∀ c, bs c = true → Y c = X c) (h2 : Y 51 4 = X 51 4) (h3 : Y 51 13 = X 51 13) (h4 : Y 51 29 = X 51 29) : fr A Y := h.tr ⟨h1, h2, h3, h4⟩
theorem bs_no {c : Nat} (h : bs c = true) : (c < 20 ∨ 26 < c) ∧ (c < 62 ∨ 68 < c) ∧ c ≠ 51 ∧ c ≠ 58 ∧ c ≠ 59 := by
  simp only [bs, Bool.or_eq_true, decide_eq_true_eq] at h
  omega
theorem fr.hk {A X Y : mm_M} (h : fr A X) (k : h_kp X Y) : fr A Y := h.of (fun c q => k c (bs_no q).1) (by rw [k 51 (by decide)]) (by rw [k 51 (by decide)]) (by rw [k 51 (by decide)])
theorem fr.gk {A X Y : mm_M} (h : fr A X) (k : g_kp X Y) : fr A Y := h.of (fun c q => k.1 c (bs_no q).2.1 (bs_no q).2.2.1) (k.2 4 (by decide) (by decide) (by decide)) (k.2 13 (by decide) (by decide) (by decide)) (k.2 29 (by decide) (by decide) (by decide))
theorem fr.rk {A X Y : mm_M} (h : fr A X) (k : r_keep X Y) : fr A Y := h.of (fun c q => k.1 c (bs_no q).2.2.1 (bs_no q).2.2.2.1 (bs_no q).2.2.2.2) (k.2 4 (by decide) (by decide) (by decide)) (k.2 13 (by decide) (by decide) (by decide)) (k.2 29 (by decide) (by decide) (by decide))
theorem fr.a {A X : mm_M} (h : fr A X) (c : Nat) (q : bs c = true := by decide) : X c = A c := h.1 c q
theorem fr.nl {A X : mm_M} (h : fr A X) : a_nl X = a_nl A := by unfold a_nl a_n0; rw [h.a 56, h.a 57]
theorem fr.np {A X : mm_M} (h : fr A X) : a_np X = a_np A := by unfold a_np a_n1 a_b1; rw [h.nl, h.a 56, h.a 57]
theorem fr.b1 {A X : mm_M} (h : fr A X) : a_b1 X = a_b1 A := by unfold a_b1; rw [h.a 56]
theorem fr.f0 {A X : mm_M} (h : fr A X) : a_f0 X = a_f0 A := by unfold a_f0 a_n0; rw [h.a 56, h.a 57]
theorem fr.f1 {A X : mm_M} (h : fr A X) : a_f1 X = a_f1 A := by unfold a_f1 a_n1; rw [h.nl, h.b1, h.a 57]
theorem fr.ne {A X : mm_M} (h : fr A X) : a_ne X = a_ne A := by unfold a_ne; rw [h.2.2.1]
theorem fr.ns {A X : mm_M} (h : fr A X) : a_ns X = a_ns A := by unfold a_ns; rw [h.2.2.2]
theorem fr.ok {A X : mm_M} (h : fr A X) (k : a_ok A) : a_ok X := by
  unfold a_ok at k ⊢
  rw [h.a 56, h.a 57, h.a 60, h.a 61, h.a 72, h.a 52, h.a 53, h.2.2.1, h.2.2.2]
  exact k
theorem fr.toiv {A X : mm_M} (h : fr A X) (k : iv A) : iv X := by
  refine ⟨h.ok k.1, by rw [h.a 0, h.2.1]; exact k.2.1, ?_, by rw [h.a 13, h.a 60]; exact k.2.2.2.1, ?_, ?_, ?_⟩
  · have k := k.2.2.1
    unfold iv_t a_n0 a_n1 at k ⊢
    rw [h.nl, h.np, h.b1, h.f0, h.f1, h.a 57, h.a 56, h.a 1, h.a 2, h.a 3, h.a 4, h.a 5, h.a 6, h.a 7, h.a 8, h.a 9, h.a 10, h.a 11]
    exact k
  · have k := k.2.2.2.2.1
    unfold iv_e at k ⊢
    rw [h.ne, h.a 61, h.a 14, h.a 15, h.a 16, h.a 17, h.a 18, h.a 19, h.2.2.1]
    exact k
  · have k := k.2.2.2.2.2.1
    unfold iv_m at k ⊢
    rw [h.ns, h.a 72, h.a 38, h.a 39, h.a 40, h.a 41, h.2.2.2]
    exact k
  · have k := k.2.2.2.2.2.2
    unfold iv_h at k ⊢
    intro s hs
    rw [h.a 52, h.a 53, h.a 54, h.a (43 + 2 * s) (by simp [bs]; omega), h.a (44 + 2 * s) (by simp [bs]; omega)]
    exact k s hs
/-- the reference's memory behind find() -/
def r_x (A X : mm_M) : Prop := fr A X ∧ r_dat A X
theorem r_x.gk {A X Y : mm_M} (h : r_x A X) (k : g_kp X Y) : r_x A Y := by
  refine ⟨h.1.gk k, ?_⟩
  have hd := h.2
  unfold r_dat at hd ⊢
  rw [k.1 58 (by decide) (by decide), k.1 59 (by decide) (by decide), k.2 8 (by decide) (by decide) (by decide), k.2 10 (by decide) (by decide) (by decide)]
  exact hd
theorem r_x.of {A X Y : mm_M} (h : r_x A X) (k : fr X Y) (h1 : Y 58 = X 58) (h2 : Y 59 = X 59) (h3 : Y 51 8 = X 51 8) (h4 : Y 51 10 = X 51 10) : r_x A Y := by
  refine ⟨h.1.tr k, ?_⟩
  have hd := h.2
  unfold r_dat at hd ⊢
  rw [h1, h2, h3, h4]
  exact hd
theorem r_x.up {A X : mm_M} (h : r_x A X) {c a : Nat} {v : Int32} (hc : bs c = false) (h51 : c ≠ 51) (h58 : c ≠ 58) (h59 : c ≠ 59) : r_x A (mm_up X c a v) :=
  h.of (fr.rf.up hc h51) (mm_upn _ _ _ (Ne.symm h58)) (mm_upn _ _ _ (Ne.symm h59)) (by rw [mm_upn _ _ _ (Ne.symm h51)]) (by rw [mm_upn _ _ _ (Ne.symm h51)])
theorem r_x.u51 {A X : mm_M} (h : r_x A X) {f : Nat} {v : Int32} (hf : f ≠ 4 ∧ f ≠ 13 ∧ f ≠ 29) (hf2 : f ≠ 8 ∧ f ≠ 10) : r_x A (mm_up X 51 f v) :=
  h.of (fr.rf.u51 hf) (mm_upn _ _ _ (by decide)) (mm_upn _ _ _ (by decide)) (by rw [mm_upc]; simp [upd, Ne.symm hf2.1]) (by rw [mm_upc]; simp [upd, Ne.symm hf2.2])
theorem a_lw {A : mm_M} (h : a_ok A) {j : Nat} (hj : j < a_nl A) : 0 ≤ (q_lw (A 56) j).toInt ∧ (q_lw (A 56) j).toInt ≤ 99 := by
  have g := q_nl_g h.n0.2 hj
  have c48 : (48 : Int32).toInt = 48 := by decide
  have c10 : (10 : Int32).toInt = 10 := by decide
  unfold q_lw
  have s1 := mm_sub (a := A 56 (3 * j)) (b := 48) (by omega)
  have s2 := mm_sub (a := A 56 (3 * j + 1)) (b := 48) (by omega)
  have s3 := mm_mul (a := 10) (b := A 56 (3 * j) - 48) (by rw [c10]; omega)
  rw [c10] at s3
  have s4 := mm_add (a := 10 * (A 56 (3 * j) - 48)) (b := A 56 (3 * j + 1) - 48) (by omega)
  omega
theorem a_wh {A : mm_M} (h : a_ok A) {p : Nat} (hp : p < a_np A) : (0 ≤ (q_wh (a_b1 A) p 0).toInt ∧ (q_wh (a_b1 A) p 0).toInt ≤ 1) ∧ (0 ≤ (q_wh (a_b1 A) p 1).toInt ∧ (q_wh (a_b1 A) p 1).toInt < a_nl A) ∧ (1 ≤ (q_wh (a_b1 A) p 2).toInt ∧ (q_wh (a_b1 A) p 2).toInt ≤ 9) ∧ 0 ≤ (q_wh (a_b1 A) p 3).toInt ∧ (q_wh (a_b1 A) p 3).toInt ≤ 9 := by
  have g := q_np_g h.n1.2 hp
  have c48 : (48 : Int32).toInt = 48 := by decide
  unfold q_wh
  simp only [if_true, show ¬ (1 : Nat) = 0 by decide, show ¬ (2 : Nat) = 0 by decide, show ¬ (3 : Nat) = 0 by decide, if_false]
  have s1 := mm_sub (a := a_b1 A (5 * p + 1)) (b := 48) (by omega)
  have s2 := mm_sub (a := a_b1 A (5 * p + 2)) (b := 48) (by omega)
  have s3 := mm_sub (a := a_b1 A (5 * p + 3)) (b := 48) (by omega)
  refine ⟨?_, by omega, by omega, by omega⟩
  split <;> decide
theorem r_x.vd {A X M : mm_M} (hi : iv A) (h : r_x A X) (hm : ∀ c, c < 20 → M c = A c) : v_d M X (a_nl A) (a_np A) (a_ne A) := by
  obtain ⟨hf, d1, d2, d3, d4⟩ := h
  obtain ⟨ok, -, ⟨-, -, ⟨l1, -, l3⟩, p1, -, p3⟩, hs, ⟨e1, e2⟩, -⟩ := hi
  refine ⟨⟨ok.nl, ok.np, ok.ne.2, by rw [hm 5 (by decide)]; exact l1, by rw [hm 7 (by decide)]; exact p1, by rw [hm 14 (by decide), e1]; exact ok.ne.1, ?_⟩, d1, d3, by rw [hf.2.2.1]; exact ok.ne.1, ?_, ?_, ?_, ?_⟩
  · intro p hp
    rw [hm 9 (by decide), (p3 p hp).2.1]
    exact (a_wh ok hp).2.1
  · intro j hj
    rw [hm 6 (by decide), l3 j hj, d2 j hj]
    exact ⟨rfl, a_lw ok hj⟩
  · intro p hp
    have w := a_wh ok hp
    obtain ⟨q0, q1, q2, q3⟩ := p3 p hp
    have r0 := d4 p 0 hp (by decide)
    rw [Nat.add_zero] at r0
    rw [hm 8 (by decide), hm 9 (by decide), hm 10 (by decide), hm 11 (by decide), q0, q1, q2, q3, r0, d4 p 1 hp (by decide), d4 p 2 hp (by decide), d4 p 3 hp (by decide)]
    exact ⟨⟨rfl, rfl, rfl, rfl⟩, w.2.1, ⟨by omega, by omega⟩, w.2.2.2⟩
  · intro w hw
    rw [hm 13 (by decide), hf.a 60]
    exact hs w hw
  · intro e he
    have t := ok.2.2.2.2.1 e (by rw [ok.ne.1, mm_ti (by have := ok.ne.2; omega)]; omega)
    unfold g_ev
    rw [hm 16 (by decide), hm 15 (by decide), hm 17 (by decide), hm 18 (by decide), hm 19 (by decide), hf.a 61]
    exact ⟨e2 e he, ⟨by have := ok.ne.2; omega, t.1, t.2.1, t.2.2.1, t.2.2.2.1⟩, t.2.2.2.2⟩
theorem r_x.pre {A X : mm_M} (hi : iv A) (h : r_x A X) : g_pre X := by
  have ok := hi.1
  refine ⟨⟨_, ok.nl, h.2.1⟩, _, ok.np, h.2.2.2.1, fun p hp => ?_⟩
  rw [h.2.2.2.2 p 1 hp (by decide)]
  have := (a_wh ok hp).2.1
  have := ok.nl
  omega
theorem r_x.ev {A X : mm_M} (hi : iv A) (h : r_x A X) {e : Nat} (he : e < a_ne A) : g_ev X e := ((h.vd hi (M := A) (fun _ _ => rfl)).2.2.2.2.2.2.2 e he).2.1
/-- the memory behind find() of one that was told just this -/
def zz (A : mm_M) : mm_M := mm_up (mm_up (va_up (va_up A 58 (q_lw (A 56))) 59 (fun i => q_wh (a_b1 A) (i / 4) (i % 4))) 51 8 (nI (a_nl A))) 51 10 (nI (a_np A))
theorem zz_x (A : mm_M) : r_x A (zz A) := by
  refine ⟨(((fr.rf.vup (by decide) (by decide)).vup (by decide) (by decide)).u51 (by decide)).u51 (by decide), ?_, ?_, ?_, ?_⟩
  · simp [zz, mm_up, va_up, upd]
  · intro j _; simp [zz, mm_up, va_up]
  · simp [zz, mm_up, va_up, upd]
  · intro p k _ hk
    simp only [zz, mm_upn _ _ _ (show (59:Nat) ≠ 51 by decide)]
    simp only [va_up, if_true]
    rw [show (4 * p + k) / 4 = p by omega, show (4 * p + k) % 4 = k by omega]
/-- what can be seen of a play, one memory's and another's -/
def e_w (A X Y : mm_M) : Prop := (∀ j, j < a_nl A → X 62 j = Y 62 j) ∧ (∀ p, p < a_np A → X 63 p = Y 63 p ∧ X 66 p = Y 66 p ∧ X 67 p = Y 67 p) ∧ X 51 21 = Y 51 21 ∧ X 51 23 = Y 51 23 ∧ X 51 24 = Y 51 24
theorem e_w_of {A M X Y : mm_M} {B B' : Nat} (h : v_w M X (a_nl A) (a_np A) B) (k : v_w M Y (a_nl A) (a_np A) B') : e_w A X Y :=
  ⟨fun j hj => (h.1 j hj).1.symm.trans (k.1 j hj).1, fun p hp => ⟨(h.2.1 p hp).1.symm.trans (k.2.1 p hp).1, (h.2.1 p hp).2.1.symm.trans (k.2.1 p hp).2.1, (h.2.1 p hp).2.2.1.symm.trans (k.2.1 p hp).2.2.1⟩, h.2.2.2.1.symm.trans k.2.2.2.1, h.2.2.2.2.1.symm.trans k.2.2.2.2.1, h.2.2.2.2.2.symm.trans k.2.2.2.2.2⟩
/-- how all stands behind k events, the one y left out -/
def zr (A : mm_M) (y : Int32) (k : Nat) : mm_M := g_run (zz A) y k
theorem zr_c {A M : mm_M} (hi : iv A) (hm : ∀ c, c < 20 → M c = A c) {y : Int32} {k : Nat} (hk : k ≤ a_ne A) : v_w (h_run M (a_np A) y k) (zr A y k) (a_nl A) (a_np A) (99 + 126 * k) := v_run ((zz_x A).vd hi hm) ((zz_x A).pre hi) k hk
theorem zr_r {A X : mm_M} (hi : iv A) (hx : r_x A X) {y : Int32} {k : Nat} (hk : k ≤ a_ne A) : e_w A (g_run X y k) (zr A y k) := e_w_of (v_run (hx.vd hi (M := A) (fun _ _ => rfl)) (hx.pre hi) k hk) (zr_c hi (M := A) (fun _ _ => rfl) hk)
theorem g_run_x {A X : mm_M} (hi : iv A) (hx : r_x A X) {y : Int32} {k : Nat} (hk : k ≤ a_ne A) : r_x A (g_run X y k) := hx.gk (g_run_ok (hx.pre hi) k (fun e he => hx.ev hi (by omega))).1
/-- what the event e moved -/
def zm (A : mm_M) (e : Nat) : Int32 := zr A (-1) (e + 1) 68 e
theorem g_step_68 {X : mm_M} {y : Int32} {e k : Nat} (h : e ≠ k) : g_step X y k 68 e = X 68 e := by
  have u : ∀ (Z : mm_M) (v : Int32), mm_up Z 68 k v 68 e = Z 68 e := fun Z v => by rw [mm_upc]; simp [upd, h]
  have b : ∀ (Z W : mm_M) (s w : Int32), g_wf Z W k s w 68 = W 68 := fun Z W s w => by rw [g_wf_bnd, g_bnd_68, g_bnd_68]
  unfold g_step
  split
  · exact u _ _
  · split
    · unfold g_do
      split
      · unfold g_wed
        split
        · rw [b]; unfold g_wx g_tk; rw [u, mm_upn _ _ _ (by decide), mm_upn _ _ _ (by decide), u]
        · split
          · rw [b]; unfold g_wx g_tk; rw [u, mm_upn _ _ _ (by decide), mm_upn _ _ _ (by decide), u]
          · rw [b, u]
      · split
        · rw [mm_upn _ _ _ (by decide), u, g_px_o _ _ _ (by decide), u]
        · split
          · rw [mm_upn _ _ _ (by decide), u]
          · rw [mm_upn _ _ _ (by decide), u, g_px_o _ _ _ (by decide), mm_upn _ _ _ (by decide), u]
    · rw [mm_upn _ _ _ (by decide), mm_upn _ _ _ (by decide), u]
theorem g_run_68 {X : mm_M} {y : Int32} {e : Nat} : ∀ k, g_run X y (e + 1 + k) 68 e = g_run X y (e + 1) 68 e
  | 0 => rfl
  | k + 1 => by
    rw [show e + 1 + (k + 1) = (e + 1 + k) + 1 by omega]
    show g_step (g_run X y (e + 1 + k)) y (e + 1 + k) 68 e = _
    rw [g_step_68 (by omega)]
    exact g_run_68 k
theorem zm_c {A M : mm_M} (hi : iv A) (hm : ∀ c, c < 20 → M c = A c) {e : Nat} (he : e < a_ne A) : h_run M (a_np A) (-1) (e + 1) 20 11 = zm A e := v_last ((zz_x A).vd hi hm) ((zz_x A).pre hi) e he (h_nn (by have := hi.1.ne.2; omega))
theorem zm_r {A X : mm_M} (hi : iv A) (hx : r_x A X) {e k : Nat} (he : e < k) (hk : k ≤ a_ne A) : g_run X (-1) k 68 e = zm A e := by
  obtain ⟨j, rfl⟩ : ∃ j, k = e + 1 + j := ⟨k - (e + 1), by omega⟩
  rw [g_run_68, ← zm_c hi (M := A) (fun _ _ => rfl) (by omega)]
  exact (v_last (hx.vd hi (M := A) (fun _ _ => rfl)) (hx.pre hi) e (by omega) (h_nn (by have := hi.1.ne.2; omega))).symm
