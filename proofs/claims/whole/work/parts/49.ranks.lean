/-! Those of a land in their order -/
theorem cnt_gp {io f : Nat → Bool} (h : ∀ i, f i = true → io i = true) {p : Nat} : ∀ n, cnt io (p + n) = cnt io p → cnt f (p + n) = cnt f p
  | 0, _ => rfl
  | n + 1, e => by
    have m := cnt_lm (f := io) (b := p) (p + n) (by omega)
    rw [show p + (n + 1) = (p + n) + 1 by omega] at e ⊢
    by_cases q : io (p + n) = true
    · rw [cnt_t q] at e; omega
    · rw [cnt_f q] at e
      rw [cnt_f (fun z => q (h _ z))]
      exact cnt_gp h n e
theorem cnt_gap {io f : Nat → Bool} (h : ∀ i, f i = true → io i = true) {p q : Nat} (e : cnt io p = cnt io q) : cnt f p = cnt f q := by
  by_cases z : p ≤ q
  · obtain ⟨n, rfl⟩ : ∃ n, q = p + n := ⟨q - p, by omega⟩
    exact (cnt_gp h n e.symm).symm
  · obtain ⟨n, rfl⟩ : ∃ n, p = q + n := ⟨p - q, by omega⟩
    exact cnt_gp h n e
theorem sm_gp {io : Nat → Bool} {g : Nat → Int} (h : ∀ i, ¬ io i = true → g i = 0) {p : Nat} : ∀ n, cnt io (p + n) = cnt io p → sm g (p + n) = sm g p
  | 0, _ => rfl
  | n + 1, e => by
    have m := cnt_lm (f := io) (b := p) (p + n) (by omega)
    rw [show p + (n + 1) = (p + n) + 1 by omega] at e ⊢
    by_cases q : io (p + n) = true
    · rw [cnt_t q] at e; omega
    · rw [cnt_f q] at e
      show sm g (p + n) + g (p + n) = sm g p
      rw [h _ q, sm_gp h n e]
      omega
theorem sm_gap {io : Nat → Bool} {g : Nat → Int} (h : ∀ i, ¬ io i = true → g i = 0) {p q : Nat} (e : cnt io p = cnt io q) : sm g p = sm g q := by
  by_cases z : p ≤ q
  · obtain ⟨n, rfl⟩ : ∃ n, q = p + n := ⟨q - p, by omega⟩
    exact (sm_gp h n e.symm).symm
  · obtain ⟨n, rfl⟩ : ∃ n, p = q + n := ⟨p - q, by omega⟩
    exact sm_gp h n e
theorem cnt_ex {f : Nat → Bool} {k : Nat} : ∀ n, k < cnt f n → ∃ p, p < n ∧ f p = true ∧ cnt f p = k
  | 0, h => absurd h (by show ¬ k < 0; omega)
  | n + 1, h => by
    by_cases q : f n = true
    · rw [cnt_t q] at h
      by_cases z : k = cnt f n
      · exact ⟨n, by omega, q, z.symm⟩
      · obtain ⟨p, h1, h2⟩ := cnt_ex n (show k < cnt f n by omega)
        exact ⟨p, by omega, h2⟩
    · rw [cnt_f q] at h
      obtain ⟨p, h1, h2⟩ := cnt_ex n h
      exact ⟨p, by omega, h2⟩
theorem cnt_inj {f : Nat → Bool} {p q : Nat} (hp : f p = true) (hq : f q = true) (e : cnt f p = cnt f q) : p = q := by
  have a : ∀ p q : Nat, f p = true → cnt f p = cnt f q → ¬ p < q := fun p q hp e h => by
    have := cnt_lm (f := f) (b := p + 1) q (by omega)
    rw [cnt_t hp] at this
    omega
  have := a p q hp e
  have := a q p hq e.symm
  omega
theorem cnt_ltn {f : Nat → Bool} {p n : Nat} (hp : f p = true) (h : p < n) : cnt f p < cnt f n := by
  have := cnt_lm (f := f) (b := p + 1) n (by omega)
  rw [cnt_t hp] at this
  omega
/-- one of a land who is free -/
def io (A : mm_M) (j p : Nat) : Bool := decide (p < a_np A) && (decide (z_w A p 1 = nI j) && g_free (zE A) p)
theorem io_i {A : mm_M} {j p : Nat} (h : io A j p = true) : p < a_np A ∧ z_w A p 1 = nI j ∧ g_free (zE A) p = true := by
  unfold io at h
  simp only [Bool.and_eq_true, decide_eq_true_eq] at h
  exact h
theorem io_t {A : mm_M} {j p : Nat} (h : p < a_np A) (h2 : z_w A p 1 = nI j) (h3 : g_free (zE A) p = true) : io A j p = true := by
  unfold io
  simp only [Bool.and_eq_true, decide_eq_true_eq]
  exact ⟨h, h2, h3⟩
theorem may_free {A : mm_M} {a b : Nat} (h : z_may A a b = true) : g_free (zE A) a = true ∧ g_free (zE A) b = true := by
  unfold z_may g_may at h
  simp only [Bool.and_eq_true] at h
  exact ⟨h.2.2.1, h.2.2.2.1⟩
theorem us_io {A : mm_M} (hi : iv A) {j a b : Nat} (h : (zC A j).us a b = true) : io A j a = true := by
  obtain ⟨h1, h2, -⟩ := zC_us h
  exact io_t (z_may_i hi h2).1 h1 (may_free h2).1
theorem io_12 {A : mm_M} (hi : iv A) {j : Nat} : cnt (io A j) 12 = cnt (io A j) (a_np A) := by
  have n12 := hi.1.np
  obtain ⟨n, e⟩ : ∃ n, 12 = a_np A + n := ⟨12 - a_np A, by omega⟩
  rw [e]
  clear e
  induction n with
  | zero => rfl
  | succ n ih =>
    rw [show a_np A + (n + 1) = (a_np A + n) + 1 by omega, cnt_f (fun q => by have := (io_i q).1; omega)]
    exact ih
theorem ms_io {A : mm_M} (hi : iv A) {j : Nat} {f : Nat → Option Nat} (h : ms (zC A j) f) {p : Nat} (hp : ¬ io A j p = true) : f p = none := by
  cases e : f p with
  | none => rfl
  | some b => exact absurd (us_io hi (h.1 p b e)) hp
theorem lf_io {A : mm_M} (hi : iv A) {j : Nat} {f : Nat → Option Nat} (h : ms (zC A j) f) : ∀ i, ¬ io A j i = true → lf (zC A j) f i = 0 := fun i q => by unfold lf; rw [ms_io hi h q]
theorem rf_io {A : mm_M} (hi : iv A) {j : Nat} {f : Nat → Option Nat} (h : ms (zC A j) f) : ∀ i, ¬ io A j i = true → rf (zC A j) f i = 0 := fun i q => by unfold rf; rw [ms_io hi h q]
theorem dm_io {A : mm_M} (hi : iv A) {j : Nat} {f : Nat → Option Nat} (h : ms (zC A j) f) : ∀ i, dm f i = true → io A j i = true := fun i q => by
  obtain ⟨b, e⟩ := dm_t q
  exact us_io hi (h.1 i b e)
theorem lf_z {A : mm_M} (hi : iv A) {j : Nat} {f : Nat → Option Nat} (h : ms (zC A j) f) (hj : j = 0) : sm (lf (zC A j) f) 12 = 0 := sm_0 12 (fun i _ => by
  unfold lf
  cases e : f i with
  | none => rfl
  | some b =>
    show (if (zC A j).lo b = true then _ else (0 : Int)) = 0
    rw [if_neg]
    intro q
    have q : (z_w A b 1).toInt < (j : Int) := of_decide_eq_true q
    obtain ⟨-, k2, -⟩ := zC_us (h.1 i b e)
    have m := z_may_i hi k2
    have w := (a_wh hi.1 m.2.1).2.1
    unfold z_w at q
    omega)
theorem rf_z {A : mm_M} (hi : iv A) {j : Nat} {f : Nat → Option Nat} (h : ms (zC A j) f) (hj : ¬ j + 1 < a_nl A) (hj2 : j < a_nl A) : sm (rf (zC A j) f) 12 = 0 := sm_0 12 (fun i _ => by
  unfold rf
  cases e : f i with
  | none => rfl
  | some b =>
    show (if (zC A j).lo b = true then (0 : Int) else _) = 0
    rw [if_pos]
    show decide ((z_w A b 1).toInt < (j : Int)) = true
    rw [decide_eq_true_eq]
    obtain ⟨k1, k2, -⟩ := zC_us (h.1 i b e)
    have m := z_may_i hi k2
    have w := (a_wh hi.1 m.2.1).2.1
    have n6 := hi.1.nl
    have m4 := m.2.2.2
    rw [k1, mm_ti (by omega)] at m4
    unfold z_w at m4 ⊢
    omega)
/-- a choice, as the reference keeps it -/
def pe (o : Option Nat) : Int32 := match o with
  | none => -1
  | some b => nI b
/-- who is used -/
def tkr (x : Int32) (f : Nat → Option Nat) : Prop := ∀ i, i < 12 → (bq x i = true ↔ ∃ a, f a = some i)
theorem tkr_f0 : tkr 0 f0 := fun i hi => by
  rw [bq_0 i (by omega)]
  simp [f0]
theorem tkr_set {x : Int32} {f : Nat → Option Nat} {a b : Nat} (h : tkr x f) (hb : b < 12) (hf : f a = none) : tkr (x ||| sbt b) (fup f a b) := by
  intro i hi
  rw [bq_or, bq_sb b hb i (by omega)]
  simp only [Bool.or_eq_true, decide_eq_true_eq]
  rw [h i hi]
  constructor
  · rintro (⟨y, e⟩ | rfl)
    · exact ⟨y, by rw [fup_n f (fun q => by rw [q, hf] at e; exact absurd e (by simp))]; exact e⟩
    · exact ⟨a, fup_s f a i⟩
  · rintro ⟨y, e⟩
    by_cases q : y = a
    · rw [q, fup_s] at e
      cases e
      exact Or.inr rfl
    · rw [fup_n f q] at e
      exact Or.inl ⟨y, e⟩
theorem tkr_clr {x : Int32} {f : Nat → Option Nat} {a b : Nat} (h : tkr x (fup f a b)) (hb : b < 12) (hf : f a = none) (hn : ∀ i, ¬ f i = some b) : tkr (x &&& (sbt b ^^^ -1)) f := by
  intro i hi
  rw [bq_and, bq_xor, bq_sb b hb i (by omega), bq_m1 i (by omega)]
  simp only [Bool.and_eq_true]
  rw [h i hi]
  constructor
  · rintro ⟨⟨y, e⟩, q⟩
    have q : ¬ i = b := by
      intro z
      rw [decide_eq_true z] at q
      exact absurd q (by decide)
    by_cases z : y = a
    · rw [z, fup_s] at e
      cases e
      exact absurd rfl q
    · rw [fup_n f z] at e
      exact ⟨y, e⟩
  · rintro ⟨y, e⟩
    refine ⟨⟨y, by rw [fup_n f (fun q => by rw [q, hf] at e; exact absurd e (by simp))]; exact e⟩, ?_⟩
    have q : ¬ i = b := fun z => hn y (by rw [← z]; exact e)
    rw [decide_eq_false q]
    rfl
theorem tkr_m1 {x : Int32} {f : Nat → Option Nat} (h : tkr x f) : tkr (x &&& -1) f := by
  intro i hi
  rw [bq_and, bq_m1 i (by omega), Bool.and_true]
  exact h i hi
theorem tkr_o0 {x : Int32} {f : Nat → Option Nat} (h : tkr x f) : tkr (x ||| 0) f := by
  intro i hi
  rw [bq_or, bq_0 i (by omega), Bool.or_false]
  exact h i hi
theorem tkr_b {x : Int32} {f : Nat → Option Nat} (h : tkr x f) {b : Nat} (hb : b < 12) : (x >>> (nI b &&& 31)) &&& 1 = 0 ↔ ∀ i, ¬ f i = some b := by
  rw [bq_shr hb]
  constructor
  · intro e i q
    have := (h b hb).mpr ⟨i, q⟩
    rw [e] at this
    exact absurd this (by decide)
  · intro e
    cases q : bq x b with
    | false => rfl
    | true =>
      obtain ⟨a, z⟩ := (h b hb).mp q
      exact absurd z (e a)
/-! All choices that begin as f does, up to the rank dd -/
def agr (A : mm_M) (j dd : Nat) (g f : Nat → Option Nat) : Prop := ∀ p, io A j p = true → cnt (io A j) p < dd → g p = f p
def alr (A : mm_M) (j dd : Nat) (f : Nat → Option Nat) (W : Nat → Int) : Prop := ∀ g, ms (zC A j) g → agr A j dd g f → vl (zC A j) g ≤ W (sz g)
def cdo (o : Option Nat) : Nat := match o with
  | none => 1
  | some b => b + 2
def plr (A : mm_M) (j dd p t : Nat) (f : Nat → Option Nat) (W : Nat → Int) : Prop := ∀ g, ms (zC A j) g → agr A j dd g f → cdo (g p) ≤ t → vl (zC A j) g ≤ W (sz g)
def moR (W V : Nat → Int) : Prop := ∀ k, k ≤ 12 → W k ≤ V k
theorem sz_12 (f : Nat → Option Nat) : sz f ≤ 12 := cnt_le 12
theorem alr_mo {A : mm_M} {j dd : Nat} {f : Nat → Option Nat} {W V : Nat → Int} (h : alr A j dd f W) (m : moR W V) : alr A j dd f V := fun g a b => Int.le_trans (h g a b) (m _ (sz_12 g))
theorem plr_mo {A : mm_M} {j dd p t : Nat} {f : Nat → Option Nat} {W V : Nat → Int} (h : plr A j dd p t f W) (m : moR W V) : plr A j dd p t f V := fun g a b c => Int.le_trans (h g a b c) (m _ (sz_12 g))
theorem plr_0 {A : mm_M} {j dd p : Nat} {f : Nat → Option Nat} {W : Nat → Int} : plr A j dd p 0 f W := fun g _ _ c => by
  cases e : g p with
  | none => rw [e] at c; exact absurd c (by show ¬ 1 ≤ 0; omega)
  | some b => rw [e] at c; exact absurd c (by show ¬ b + 2 ≤ 0; omega)
/-- a choice that can't be made -/
theorem plr_no {A : mm_M} {j dd p b : Nat} {f : Nat → Option Nat} {W : Nat → Int} (h : plr A j dd p (b + 1) f W) (hn : ¬ ((zC A j).us p b = true ∧ ∀ i, ¬ f i = some b)) (hio : ∀ i y, f i = some y → io A j i = true ∧ cnt (io A j) i < dd) (hp : cnt (io A j) p = dd) : plr A j dd p (b + 2) f W := by
  intro g m a c
  by_cases q : cdo (g p) ≤ b + 1
  · exact h g m a q
  · exfalso
    have e : g p = some b := by
      cases e : g p with
      | none => rw [e] at q; exact absurd (show 1 ≤ b + 1 by omega) q
      | some y =>
        rw [e] at q c
        have q : ¬ y + 2 ≤ b + 1 := q
        have c : y + 2 ≤ b + 2 := c
        rw [show y = b by omega]
    apply hn
    refine ⟨m.1 p b e, fun i hi => ?_⟩
    have z := hio i b hi
    have e2 : g i = some b := by rw [a i z.1 z.2]; exact hi
    have := m.2 p i b e e2
    rw [this] at hp
    omega
/-- a choice that was made and searched -/
theorem plr_go {A : mm_M} {j dd p t : Nat} {f f' : Nat → Option Nat} {W V : Nat → Int} (h : plr A j dd p t f W) (m : moR W V) (hp : io A j p = true) (hd : cnt (io A j) p = dd) (hf : ∀ q, ¬ q = p → f' q = f q) (hc : cdo (f' p) = t + 1) (hV : alr A j (dd + 1) f' V) : plr A j dd p (t + 1) f V := by
  intro g mg a c
  by_cases q : cdo (g p) ≤ t
  · exact Int.le_trans (h g mg a q) (m _ (sz_12 g))
  · refine hV g mg (fun x hx hl => ?_)
    by_cases z : x = p
    · rw [z]
      have e : cdo (g p) = cdo (f' p) := by omega
      clear q c hc
      cases e1 : g p with
      | none =>
        cases e2 : f' p with
        | none => rfl
        | some y => rw [e1, e2] at e; have e : 1 = y + 2 := e; omega
      | some x =>
        cases e2 : f' p with
        | none => rw [e1, e2] at e; have e : x + 2 = 1 := e; omega
        | some y => rw [e1, e2] at e; have e : x + 2 = y + 2 := e; rw [show x = y by omega]
    · rw [hf x z]
      refine a x hx ?_
      by_cases w : cnt (io A j) x = dd
      · exact absurd (cnt_inj hx hp (w.trans hd.symm)) z
      · omega
theorem alr_end {A : mm_M} (hi : iv A) {j dd p t : Nat} {f : Nat → Option Nat} {W : Nat → Int} (h : plr A j dd p t f W) (ht : a_np A + 1 ≤ t) : alr A j dd f W := by
  intro g m a
  refine h g m a ?_
  cases e : g p with
  | none => show 1 ≤ t; omega
  | some b =>
    show b + 2 ≤ t
    have := (z_may_i hi (zC_us (m.1 p b e)).2.1).2.1
    omega
theorem alr_full {A : mm_M} (hi : iv A) {j : Nat} {f : Nat → Option Nat} {W : Nat → Int} (hf : ms (zC A j) f) (hv : vl (zC A j) f ≤ W (sz f)) : alr A j (cnt (io A j) 12) f W := by
  intro g m a
  have : g = f := by
    funext p
    by_cases q : io A j p = true
    · have := (io_i q).1
      have := hi.1.np
      exact a p q (cnt_ltn q (by omega))
    · rw [ms_io hi m q, ms_io hi hf q]
  rw [this]
  exact hv
