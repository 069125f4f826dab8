/-! Sets of weddings: pure rows -/
def sm (g : Nat → Int) : Nat → Int
  | 0 => 0
  | k + 1 => sm g k + g k
theorem sm_cg {g g' : Nat → Int} : ∀ n, (∀ i, i < n → g i = g' i) → sm g n = sm g' n
  | 0, _ => rfl
  | n + 1, h => by
    show sm g n + g n = sm g' n + g' n
    rw [sm_cg n (fun i hi => h i (by omega)), h n (by omega)]
theorem sm_up {g g' : Nat → Int} {a : Nat} : ∀ n, a < n → (∀ i, i ≠ a → g' i = g i) → sm g' n = sm g n - g a + g' a
  | 0, h, _ => by omega
  | n + 1, h, e => by
    show sm g' n + g' n = sm g n + g n - g a + g' a
    by_cases q : a = n
    · subst q
      rw [sm_cg (g := g') (g' := g) a (fun i hi => e i (by omega))]
      omega
    · rw [sm_up n (by omega) e, e n (by omega)]
      omega
theorem sm_bd {g : Nat → Int} : ∀ n : Nat, (∀ i, i < n → 0 ≤ g i ∧ g i ≤ 126) → 0 ≤ sm g n ∧ sm g n ≤ 126 * (n : Int)
  | 0, _ => ⟨Int.le_refl _, Int.le_refl _⟩
  | n + 1, h => by
    have h1 := sm_bd n (fun i hi => h i (by omega))
    have h2 := h n (by omega)
    show 0 ≤ sm g n + g n ∧ sm g n + g n ≤ _
    omega
theorem sm_0 {g : Nat → Int} : ∀ n : Nat, (∀ i, i < n → g i = 0) → sm g n = 0
  | 0, _ => rfl
  | n + 1, h => by
    show sm g n + g n = 0
    rw [sm_0 n (fun i hi => h i (by omega)), h n (by omega)]
    rfl
theorem cnt_mo {f g : Nat → Bool} : ∀ n, (∀ i, i < n → f i = true → g i = true) → cnt f n ≤ cnt g n
  | 0, _ => Nat.le_refl _
  | n + 1, h => by
    have h1 := cnt_mo n (fun i hi => h i (by omega))
    by_cases q : f n = true
    · rw [cnt_t q, cnt_t (h n (by omega) q)]; omega
    · rw [cnt_f q]
      by_cases r : g n = true
      · rw [cnt_t r]; omega
      · rw [cnt_f r]; exact h1
theorem cnt_same {f g : Nat → Bool} : ∀ n, (∀ i, i < n → f i = true → g i = true) → cnt g n ≤ cnt f n → ∀ i, i < n → g i = true → f i = true
  | 0, _, _, i, hi, _ => by omega
  | n + 1, h, e, i, hi, hg => by
    have h1 := cnt_mo n (fun i hi => h i (by omega))
    by_cases q : f n = true
    · rw [cnt_t q, cnt_t (h n (by omega) q)] at e
      by_cases z : i = n
      · rw [z]; exact q
      · exact cnt_same n (fun i hi => h i (by omega)) (by omega) i (by omega) hg
    · rw [cnt_f q] at e
      by_cases r : g n = true
      · rw [cnt_t r] at e; omega
      · rw [cnt_f r] at e
        by_cases z : i = n
        · rw [z] at hg; exact absurd hg r
        · exact cnt_same n (fun i hi => h i (by omega)) e i (by omega) hg
theorem cnt_one {f : Nat → Bool} {a : Nat} : ∀ n, a < n → f a = true → (∀ i, i ≠ a → f i = false) → cnt f n = 1
  | 0, h, _, _ => by omega
  | n + 1, h, ht, hf => by
    by_cases q : a = n
    · subst q
      rw [cnt_t ht]
      have : cnt f a = 0 := by
        have h2 := cnt_eq (f := f) (g := fun _ => false) a (fun i hi => hf i (by omega))
        rw [h2]
        clear h2 ht hf h
        induction a with
        | zero => rfl
        | succ a ih => rw [cnt_f (by decide)]; exact ih
      omega
    · rw [cnt_f (by rw [hf n (by omega)]; decide)]
      exact cnt_one n (by omega) ht hf
theorem cnt_add {f g : Nat → Bool} {a n : Nat} (ha : a < n) (h0 : f a = false) (h1 : g a = true) (h : ∀ i, i ≠ a → g i = f i) : cnt g n = cnt f n + 1 := by
  have e1 : cnt g n = cnt (fun i => f i || decide (i = a)) n := cnt_eq n (fun i _ => by
    by_cases q : i = a
    · subst q; simp [h0, h1]
    · simp [h i q, q])
  rw [e1, cnt_or (fun i hi => by
    obtain ⟨q1, q2⟩ := hi
    have q3 := of_decide_eq_true q2
    rw [q3, h0] at q1
    exact absurd q1 (by decide)), cnt_one (f := fun i => decide (i = a)) (a := a) n ha (by simp) (fun i hi => by simp [hi])]
/-- what can be wed (us), who lives below (lo), what is gained, own width, width below, width above -/
abbrev mcx : Type := (Nat → Nat → Bool) × (Nat → Bool) × (Nat → Nat → Int) × Int × Int × Int
abbrev mcx.us (C : mcx) : Nat → Nat → Bool := C.1
abbrev mcx.lo (C : mcx) : Nat → Bool := C.2.1
abbrev mcx.gn (C : mcx) : Nat → Nat → Int := C.2.2.1
abbrev mcx.ow (C : mcx) : Int := C.2.2.2.1
abbrev mcx.wb (C : mcx) : Int := C.2.2.2.2.1
abbrev mcx.wa (C : mcx) : Int := C.2.2.2.2.2
def c_ok (C : mcx) : Prop := (∀ a b, C.us a b = true → a < 12 ∧ b < 12 ∧ 0 < C.gn a b ∧ C.gn a b ≤ 126) ∧ (∀ a b c d, C.us a b = true → C.us c d = true → a ≠ d) ∧ (0 ≤ C.ow ∧ C.ow ≤ 9999) ∧ (0 ≤ C.wb ∧ C.wb ≤ 9999) ∧ (0 ≤ C.wa ∧ C.wa ≤ 9999)
def ms (C : mcx) (f : Nat → Option Nat) : Prop := (∀ a b, f a = some b → C.us a b = true) ∧ ∀ a a' b, f a = some b → f a' = some b → a = a'
def dm (f : Nat → Option Nat) (a : Nat) : Bool := (f a).isSome
def sz (f : Nat → Option Nat) : Nat := cnt (dm f) 12
def lf (C : mcx) (f : Nat → Option Nat) (a : Nat) : Int := match f a with
  | none => 0
  | some b => if C.lo b = true then C.gn a b else 0
def rf (C : mcx) (f : Nat → Option Nat) (a : Nat) : Int := match f a with
  | none => 0
  | some b => if C.lo b = true then 0 else C.gn a b
def mi (x y : Int) : Int := if x ≤ y then x else y
def vl (C : mcx) (f : Nat → Option Nat) : Int := C.ow + mi (sm (lf C f) 12) C.wb + mi (sm (rf C f) 12) C.wa
theorem mi_le (x y : Int) : mi x y ≤ x ∧ mi x y ≤ y := by unfold mi; split <;> omega
theorem mi_hi {x y : Int} (h : y ≤ x) : mi x y = y := by unfold mi; split <;> omega
theorem mi_0 {y : Int} (h : 0 ≤ y) : mi 0 y = 0 := by unfold mi; rw [if_pos h]
theorem mi_n {x y : Int} (h : 0 ≤ x) (h2 : 0 ≤ y) : 0 ≤ mi x y := by unfold mi; split <;> omega
def sbf (f g : Nat → Option Nat) : Prop := ∀ a b, f a = some b → g a = some b
theorem dm_t {f : Nat → Option Nat} {a : Nat} (h : dm f a = true) : ∃ b, f a = some b := by
  unfold dm at h
  cases e : f a with
  | none => rw [e] at h; exact absurd h (by decide)
  | some b => exact ⟨b, rfl⟩
theorem dm_s {f : Nat → Option Nat} {a b : Nat} (h : f a = some b) : dm f a = true := by unfold dm; rw [h]; rfl
theorem dm_n {f : Nat → Option Nat} {a : Nat} (h : f a = none) : dm f a = false := by unfold dm; rw [h]; rfl
theorem sz_mo {f g : Nat → Option Nat} (h : sbf f g) : sz f ≤ sz g := cnt_mo 12 (fun i _ hi => by
  obtain ⟨b, e⟩ := dm_t hi
  exact dm_s (h i b e))
theorem sbf_eq {C : mcx} (hC : c_ok C) {f g : Nat → Option Nat} (h : sbf f g) (hg : ms C g) (hs : sz g ≤ sz f) : g = f := by
  funext a
  cases e : g a with
  | none =>
    cases e2 : f a with
    | none => rfl
    | some b => rw [h a b e2] at e; exact absurd e (by simp)
  | some b =>
    have ha := (hC.1 a b (hg.1 a b e)).1
    have q := cnt_same (f := dm f) (g := dm g) 12 (fun i _ hi => by
      obtain ⟨b, e⟩ := dm_t hi
      exact dm_s (h i b e)) hs a ha (dm_s e)
    obtain ⟨b2, e2⟩ := dm_t q
    have := h a b2 e2
    rw [e] at this
    rw [e2, this]
theorem sbf_both {f g : Nat → Option Nat} (h : sbf f g) (h2 : sbf g f) : g = f := by
  funext a
  cases e : g a with
  | none =>
    cases e2 : f a with
    | none => rfl
    | some b => rw [h a b e2] at e; exact absurd e (by simp)
  | some b => exact (h2 a b e).symm
def fup (f : Nat → Option Nat) (a b : Nat) : Nat → Option Nat := fun i => if i = a then some b else f i
theorem fup_s (f : Nat → Option Nat) (a b : Nat) : fup f a b a = some b := if_pos rfl
theorem fup_n (f : Nat → Option Nat) {a b i : Nat} (h : i ≠ a) : fup f a b i = f i := if_neg h
theorem ms_up {C : mcx} {f : Nat → Option Nat} {a b : Nat} (h : ms C f) (hu : C.us a b = true) (hb : ∀ i, ¬ f i = some b) : ms C (fup f a b) := by
  refine ⟨fun i j e => ?_, fun i i' j e e' => ?_⟩
  · by_cases q : i = a
    · subst q
      rw [fup_s] at e
      cases e
      exact hu
    · rw [fup_n f q] at e
      exact h.1 i j e
  · by_cases q : i = a
    · by_cases q' : i' = a
      · rw [q, q']
      · subst q
        rw [fup_s] at e
        rw [fup_n f q'] at e'
        cases e
        exact absurd e' (hb i')
    · rw [fup_n f q] at e
      by_cases q' : i' = a
      · subst q'
        rw [fup_s] at e'
        cases e'
        exact absurd e (hb i)
      · rw [fup_n f q'] at e'
        exact h.2 i i' j e e'
theorem sz_up {f : Nat → Option Nat} {a b : Nat} (h : f a = none) (ha : a < 12) : sz (fup f a b) = sz f + 1 :=
  cnt_add ha (dm_n h) (dm_s (fup_s f a b)) (fun i hi => by unfold dm; rw [fup_n f hi])
theorem lf_up {C : mcx} {f : Nat → Option Nat} {a b : Nat} (h : f a = none) (ha : a < 12) : sm (lf C (fup f a b)) 12 = sm (lf C f) 12 + (if C.lo b = true then C.gn a b else 0) := by
  rw [sm_up (g := lf C f) (a := a) 12 ha (fun i hi => by unfold lf; rw [fup_n f hi])]
  have e1 : lf C f a = 0 := by unfold lf; rw [h]
  have e2 : lf C (fup f a b) a = if C.lo b = true then C.gn a b else 0 := by unfold lf; rw [fup_s]
  rw [e1, e2]
  omega
theorem rf_up {C : mcx} {f : Nat → Option Nat} {a b : Nat} (h : f a = none) (ha : a < 12) : sm (rf C (fup f a b)) 12 = sm (rf C f) 12 + (if C.lo b = true then 0 else C.gn a b) := by
  rw [sm_up (g := rf C f) (a := a) 12 ha (fun i hi => by unfold rf; rw [fup_n f hi])]
  have e1 : rf C f a = 0 := by unfold rf; rw [h]
  have e2 : rf C (fup f a b) a = if C.lo b = true then 0 else C.gn a b := by unfold rf; rw [fup_s]
  rw [e1, e2]
  omega
theorem lf_bd {C : mcx} (hC : c_ok C) {f : Nat → Option Nat} (h : ms C f) : 0 ≤ sm (lf C f) 12 ∧ sm (lf C f) 12 ≤ 1512 := by
  have := sm_bd (g := lf C f) 12 (fun i _ => by
    unfold lf
    cases e : f i with
    | none => exact ⟨Int.le_refl _, show (0 : Int) ≤ 126 by decide⟩
    | some b =>
      have := hC.1 i b (h.1 i b e)
      show (0 : Int) ≤ (if C.lo b = true then C.gn i b else 0) ∧ (if C.lo b = true then C.gn i b else 0) ≤ 126
      split <;> omega)
  omega
theorem rf_bd {C : mcx} (hC : c_ok C) {f : Nat → Option Nat} (h : ms C f) : 0 ≤ sm (rf C f) 12 ∧ sm (rf C f) 12 ≤ 1512 := by
  have := sm_bd (g := rf C f) 12 (fun i _ => by
    unfold rf
    cases e : f i with
    | none => exact ⟨Int.le_refl _, show (0 : Int) ≤ 126 by decide⟩
    | some b =>
      have := hC.1 i b (h.1 i b e)
      show (0 : Int) ≤ (if C.lo b = true then 0 else C.gn i b) ∧ (if C.lo b = true then 0 else C.gn i b) ≤ 126
      split <;> omega)
  omega
theorem vl_bd {C : mcx} (hC : c_ok C) {f : Nat → Option Nat} (h : ms C f) : C.ow ≤ vl C f ∧ vl C f ≤ C.ow + C.wb + C.wa := by
  have h1 := lf_bd hC h
  have h2 := rf_bd hC h
  have h3 := mi_le (sm (lf C f) 12) C.wb
  have h4 := mi_le (sm (rf C f) 12) C.wa
  have h5 := mi_n (x := sm (lf C f) 12) (y := C.wb) h1.1 hC.2.2.2.1.1
  have h6 := mi_n (x := sm (rf C f) 12) (y := C.wa) h2.1 hC.2.2.2.2.1
  unfold vl
  omega
def f0 : Nat → Option Nat := fun _ => none
theorem ms_f0 {C : mcx} : ms C f0 := ⟨fun a b h => absurd h (by simp [f0]), fun a a' b h => absurd h (by simp [f0])⟩
theorem sz_f0 : sz f0 = 0 := rfl
theorem lf_f0 {C : mcx} : sm (lf C f0) 12 = 0 := sm_0 12 (fun _ _ => rfl)
theorem rf_f0 {C : mcx} : sm (rf C f0) 12 = 0 := sm_0 12 (fun _ _ => rfl)
theorem vl_f0 {C : mcx} (hC : c_ok C) : vl C f0 = C.ow := by
  unfold vl
  rw [lf_f0, rf_f0, mi_0 hC.2.2.2.1.1, mi_0 hC.2.2.2.2.1]
  omega
/-- the image of the first n -/
def im (f : Nat → Option Nat) : Nat → Nat → Bool
  | 0, _ => false
  | n + 1, y => im f n y || decide (f n = some y)
theorem im_t {f : Nat → Option Nat} {y : Nat} : ∀ n, im f n y = true → ∃ a, a < n ∧ f a = some y
  | 0, h => absurd h (by simp [im])
  | n + 1, h => by
    have h : (im f n y || decide (f n = some y)) = true := h
    rw [Bool.or_eq_true] at h
    rcases h with h | h
    · obtain ⟨a, h1, h2⟩ := im_t n h
      exact ⟨a, by omega, h2⟩
    · exact ⟨n, by omega, of_decide_eq_true h⟩
theorem im_c {C : mcx} (hC : c_ok C) {f : Nat → Option Nat} (h : ms C f) : ∀ n, n ≤ 12 → cnt (dm f) n ≤ cnt (im f n) 12
  | 0, _ => Nat.zero_le _
  | n + 1, hn => by
    have ih := im_c hC h n (by omega)
    cases e : f n with
    | none =>
      rw [cnt_f (by rw [dm_n e]; decide)]
      refine Nat.le_trans ih (cnt_mo 12 (fun i _ hi => ?_))
      show (im f n i || _) = true
      rw [hi]; rfl
    | some b =>
      rw [cnt_t (dm_s e), cnt_add (f := im f n) (g := im f (n + 1)) (a := b) (hC.1 n b (h.1 n b e)).2.1 ?_ ?_ ?_]
      · omega
      · cases q : im f n b with
        | false => rfl
        | true =>
          obtain ⟨a, h1, h2⟩ := im_t n q
          have := h.2 a n b h2 e
          omega
      · show (im f n b || decide (f n = some b)) = true
        rw [e]; simp
      · intro i hi
        show (im f n i || decide (f n = some i)) = im f n i
        rw [e]
        simp [Ne.symm hi]
theorem ms_6 {C : mcx} (hC : c_ok C) {f : Nat → Option Nat} (h : ms C f) : sz f ≤ 6 := by
  have h1 := im_c hC h 12 (Nat.le_refl _)
  have h2 := cnt_or (f := dm f) (g := im f 12) (fun i hi => by
    obtain ⟨b, e⟩ := dm_t hi.1
    obtain ⟨a, _, e2⟩ := im_t 12 hi.2
    exact hC.2.1 i b a i (h.1 i b e) (h.1 a i e2) rfl) 12
  have h3 := cnt_le (f := fun i => dm f i || im f 12 i) 12
  unfold sz
  omega
/-! What is asked: the fewest weddings for a width; the widest by at most k -/
def isR (C : mcx) (w : Int) (r : Int32) : Prop := (∃ n : Nat, r = nI n ∧ n ≤ 12 ∧ (∃ f, ms C f ∧ sz f = n ∧ w ≤ vl C f) ∧ ∀ f, ms C f → w ≤ vl C f → n ≤ sz f) ∨ (r = -1 ∧ ∀ f, ms C f → ¬ w ≤ vl C f)
def isG (C : mcx) (k : Nat) (r : Int32) : Prop := (∃ f, ms C f ∧ sz f ≤ k ∧ r.toInt = vl C f) ∧ ∀ f, ms C f → sz f ≤ k → vl C f ≤ r.toInt
theorem isR_u {C : mcx} {w : Int} {r r' : Int32} (h : isR C w r) (h' : isR C w r') : r = r' := by
  rcases h with ⟨n, e, _, ⟨f, m, s, v⟩, u⟩ | ⟨e, u⟩
  · rcases h' with ⟨n', e', _, ⟨f', m', s', v'⟩, u'⟩ | ⟨e', u'⟩
    · have a := u f' m' v'
      have b := u' f m v
      rw [e, e', show n = n' by omega]
    · exact absurd v (u' f m)
  · rcases h' with ⟨n', e', _, ⟨f', m', s', v'⟩, u'⟩ | ⟨e', u'⟩
    · exact absurd v' (u f' m')
    · rw [e, e']
theorem isG_u {C : mcx} {k : Nat} {r r' : Int32} (h : isG C k r) (h' : isG C k r') : r = r' := by
  obtain ⟨⟨f, m, s, v⟩, u⟩ := h
  obtain ⟨⟨f', m', s', v'⟩, u'⟩ := h'
  have a := u f' m' s'
  have b := u' f m s
  exact mm_ii (by omega)
/-! The class's search: over couples in a row -/
def cvd (C : mcx) (W : Nat → Int) (f : Nat → Option Nat) : Prop := ∃ j, j ≤ sz f ∧ j ≤ 6 ∧ vl C f ≤ W j
def exf (L : List (Nat × Nat)) (g f : Nat → Option Nat) (c : Nat) : Prop := ∀ a b, g a = some b → f a = some b ∨ ∃ e, c ≤ e ∧ L[e]? = some (a, b)
def snd_ (C : mcx) (most : Nat) (W : Nat → Int) : Prop := ∀ j, j ≤ 6 → W j = -1 ∨ ∃ f, ms C f ∧ sz f = j ∧ j ≤ most ∧ W j = vl C f
def moW (W V : Nat → Int) : Prop := ∀ j, j ≤ 6 → W j ≤ V j
theorem moW.rf {W : Nat → Int} : moW W W := fun _ _ => Int.le_refl _
theorem moW.tr {W V U : Nat → Int} (h : moW W V) (h2 : moW V U) : moW W U := fun j hj => Int.le_trans (h j hj) (h2 j hj)
theorem cvd.mo {C : mcx} {W V : Nat → Int} {f : Nat → Option Nat} (h : cvd C W f) (m : moW W V) : cvd C V f := by
  obtain ⟨j, h1, h2, h3⟩ := h
  exact ⟨j, h1, h2, Int.le_trans h3 (m j h2)⟩
/-- all that extends f by couples from c on is seen in W -/
def allc (C : mcx) (most : Nat) (L : List (Nat × Nat)) (f : Nat → Option Nat) (c : Nat) (W : Nat → Int) : Prop := ∀ g, ms C g → sbf f g → sz g ≤ most → exf L g f c → cvd C W g
def part (C : mcx) (most : Nat) (L : List (Nat × Nat)) (f : Nat → Option Nat) (c c2 : Nat) (W : Nat → Int) : Prop := ∀ g, ms C g → sbf f g → sz g ≤ most → exf L g f c → ¬ exf L g f c2 → cvd C W g
theorem part_0 {C : mcx} {most : Nat} {L : List (Nat × Nat)} {f : Nat → Option Nat} {c : Nat} {W : Nat → Int} : part C most L f c c W := fun _ _ _ _ h h2 => absurd h h2
theorem part_mo {C : mcx} {most : Nat} {L : List (Nat × Nat)} {f : Nat → Option Nat} {c c2 : Nat} {W V : Nat → Int} (h : part C most L f c c2 W) (m : moW W V) : part C most L f c c2 V := fun g a b s d e => (h g a b s d e).mo m
theorem exf_up {L : List (Nat × Nat)} {g f : Nat → Option Nat} {c a b : Nat} (h : exf L g f c) (hl : L[c]? = some (a, b)) (hf : f a = none) : exf L g (fup f a b) (c + 1) := by
  intro x y e
  rcases h x y e with q | ⟨i, h1, h2⟩
  · exact Or.inl (by rw [fup_n f (fun z => by rw [z, hf] at q; exact absurd q (by simp))]; exact q)
  · by_cases z : i = c
    · rw [z, hl] at h2
      cases h2
      exact Or.inl (fup_s f a b)
    · exact Or.inr ⟨i, by omega, h2⟩
theorem exf_skip {L : List (Nat × Nat)} {g f : Nat → Option Nat} {c : Nat} (h : exf L g f c) (hl : ∀ a b, L[c]? = some (a, b) → ¬ (g a = some b ∧ ¬ f a = some b)) : exf L g f (c + 1) := by
  intro x y e
  by_cases q : f x = some y
  · exact Or.inl q
  · rcases h x y e with q2 | ⟨i, h1, h2⟩
    · exact absurd q2 q
    · refine Or.inr ⟨i, ?_, h2⟩
      by_cases z : i = c
      · rw [z] at h2
        exact absurd ⟨e, q⟩ (hl x y h2)
      · omega
/-- a couple that can't be taken -/
theorem part_no {C : mcx} {most : Nat} {L : List (Nat × Nat)} {f : Nat → Option Nat} {c c2 a b : Nat} {W : Nat → Int} (h : part C most L f c c2 W) (hl : L[c2]? = some (a, b)) (hn : ¬ (C.us a b = true ∧ f a = none ∧ ∀ i, ¬ f i = some b)) : part C most L f c (c2 + 1) W := by
  intro g m s z e e2
  by_cases q : exf L g f c2
  · exfalso
    apply e2
    refine exf_skip q (fun x y hxy hh => ?_)
    rw [hl] at hxy
    cases hxy
    apply hn
    refine ⟨m.1 a b hh.1, ?_, fun i hi => ?_⟩
    · cases k : f a with
      | none => rfl
      | some d =>
        have := s a d k
        rw [hh.1] at this
        cases this
        exact absurd k hh.2
    · have := m.2 a i b hh.1 (s i b hi)
      rw [← this] at hi
      exact hh.2 hi
  · exact h g m s z e q
/-- a couple that was taken and searched -/
theorem part_go {C : mcx} {most : Nat} {L : List (Nat × Nat)} {f : Nat → Option Nat} {c c2 a b : Nat} {W V : Nat → Int} (h : part C most L f c c2 W) (m : moW W V) (hl : L[c2]? = some (a, b)) (hf : f a = none) (hV : allc C most L (fup f a b) (c2 + 1) V) : part C most L f c (c2 + 1) V := by
  intro g mg s z e e2
  by_cases q : exf L g f c2
  · by_cases k : g a = some b
    · refine hV g mg (fun x y hxy => ?_) z (exf_up q hl hf)
      by_cases w : x = a
      · subst w
        rw [fup_s] at hxy
        cases hxy
        exact k
      · rw [fup_n f w] at hxy
        exact s x y hxy
    · exfalso
      apply e2
      refine exf_skip q (fun x y hxy hh => ?_)
      rw [hl] at hxy
      cases hxy
      exact k hh.1
  · exact (h g mg s z e q).mo m
theorem allc_end {C : mcx} {most : Nat} {L : List (Nat × Nat)} {f : Nat → Option Nat} {c c2 : Nat} {W : Nat → Int} (h : part C most L f c c2 W) (hn : L.length ≤ c2) (hc : cvd C W f) : allc C most L f c W := by
  intro g m s z e
  by_cases q : exf L g f c2
  · have : g = f := sbf_both s (fun a b hab => by
      rcases q a b hab with w | ⟨i, h1, h2⟩
      · exact w
      · have := (List.getElem?_eq_some_iff.mp h2).1
        omega)
    rw [this]
    exact hc
  · exact h g m s z e q
theorem allc_most {C : mcx} (hC : c_ok C) {most : Nat} {L : List (Nat × Nat)} {f : Nat → Option Nat} {c : Nat} {W : Nat → Int} (hs : most ≤ sz f) (hc : cvd C W f) : allc C most L f c W := by
  intro g m s z _
  rw [sbf_eq hC s m (by omega)]
  exact hc
theorem allc_all {C : mcx} (hC : c_ok C) {most : Nat} {L : List (Nat × Nat)} {f : Nat → Option Nat} {c : Nat} {W : Nat → Int} (h1 : C.wb ≤ sm (lf C f) 12) (h2 : C.wa ≤ sm (rf C f) 12) (hc : cvd C W f) : allc C most L f c W := by
  intro g m s z _
  obtain ⟨j, a, b, d⟩ := hc
  have h3 := (vl_bd hC m).2
  have h4 : vl C f = C.ow + C.wb + C.wa := by unfold vl; rw [mi_hi h1, mi_hi h2]
  exact ⟨j, Nat.le_trans a (sz_mo s), b, by omega⟩
theorem note_snd {C : mcx} {most : Nat} {f : Nat → Option Nat} {W V : Nat → Int} (hm : ms C f) (h6 : sz f ≤ most) (hs : snd_ C most W) (hV : ∀ j, j ≤ 6 → V j = if j = sz f ∧ W j ≤ vl C f then vl C f else W j) : snd_ C most V ∧ moW W V := by
  refine ⟨fun j hj => ?_, fun j hj => ?_⟩
  · rw [hV j hj]
    by_cases q : j = sz f ∧ W j ≤ vl C f
    · rw [if_pos q]
      exact Or.inr ⟨f, hm, q.1.symm, by omega, rfl⟩
    · rw [if_neg q]
      exact hs j hj
  · rw [hV j hj]
    split
    · rename_i q; exact q.2
    · exact Int.le_refl _
theorem note_cvd {C : mcx} {f : Nat → Option Nat} {W V : Nat → Int} (h6 : sz f ≤ 6) (hV : ∀ j, j ≤ 6 → V j = if j = sz f ∧ W j ≤ vl C f then vl C f else W j) : cvd C V f := by
  refine ⟨sz f, Nat.le_refl _, h6, ?_⟩
  rw [hV _ h6]
  split
  · exact Int.le_refl _
  · rename_i q
    omega
/-- couples from the first on: all sets -/
theorem allc_0 {C : mcx} {most : Nat} {L : List (Nat × Nat)} {W : Nat → Int} (h : allc C most L f0 0 W) (hL : ∀ a b, C.us a b = true → ∃ e : Nat, L[e]? = some (a, b)) {g : Nat → Option Nat} (m : ms C g) (z : sz g ≤ most) : cvd C W g :=
  h g m (fun a b e => absurd e (by simp [f0])) z (fun a b e => by
    obtain ⟨i, hi⟩ := hL a b (m.1 a b e)
    exact Or.inr ⟨i, Nat.zero_le _, hi⟩)
theorem c_isR {C : mcx} (hC : c_ok C) {W : Nat → Int} {w : Int} (hw : 0 ≤ w) {n : Nat} (hs : snd_ C 6 W) (ha : ∀ g, ms C g → sz g ≤ 6 → cvd C W g) (hn : n ≤ 6) (h1 : w ≤ W n) (h2 : ∀ j, j < n → ¬ w ≤ W j) : isR C w (nI n) := by
  refine Or.inl ⟨n, rfl, by omega, ?_, fun f m v => ?_⟩
  · rcases hs n hn with q | ⟨f, a, b, _, d⟩
    · omega
    · exact ⟨f, a, b, by omega⟩
  · obtain ⟨j, a, b, d⟩ := ha f m (ms_6 hC m)
    have : ¬ j < n := fun q => h2 j q (by omega)
    omega
theorem c_isRn {C : mcx} (hC : c_ok C) {W : Nat → Int} {w : Int} (ha : ∀ g, ms C g → sz g ≤ 6 → cvd C W g) (h2 : ∀ j, j ≤ 6 → ¬ w ≤ W j) : isR C w (-1) := by
  refine Or.inr ⟨rfl, fun f m v => ?_⟩
  obtain ⟨j, a, b, d⟩ := ha f m (ms_6 hC m)
  exact h2 j b (by omega)
theorem c_isG {C : mcx} (hC : c_ok C) {W : Nat → Int} {k : Nat} (hk : k ≤ 6) {r : Int32} (hs : snd_ C k W) (ha : ∀ g, ms C g → sz g ≤ k → cvd C W g) (h1 : r.toInt = -1 ∨ ∃ j, j ≤ 6 ∧ r.toInt = W j) (h2 : ∀ j, j ≤ 6 → W j ≤ r.toInt) : isG C k r := by
  have hn : 0 ≤ r.toInt := by
    obtain ⟨j, a, b, d⟩ := ha f0 ms_f0 (Nat.zero_le _)
    have := vl_f0 hC
    have := h2 j b
    have := hC.2.2.1.1
    omega
  refine ⟨?_, fun f m z => ?_⟩
  · rcases h1 with q | ⟨j, hj, q⟩
    · omega
    · rcases hs j hj with e | ⟨f, a, b, d, e⟩
      · omega
      · exact ⟨f, a, by omega, by omega⟩
  · obtain ⟨j, a, b, d⟩ := ha f m z
    have := h2 j b
    omega
/-! The reference's: over its own people, each with one or none -/
def rsd (C : mcx) (W : Nat → Int) : Prop := ∀ j, j ≤ 12 → C.ow ≤ W j ∧ (W j = C.ow ∨ ∃ f, ms C f ∧ sz f = j ∧ W j = vl C f)
def pmx (W : Nat → Int) : Nat → Int
  | 0 => W 0
  | k + 1 => if W (k + 1) < pmx W k then pmx W k else W (k + 1)
theorem pmx_le {W : Nat → Int} : ∀ k j, j ≤ k → W j ≤ pmx W k
  | 0, j, h => by rw [show j = 0 by omega]; exact Int.le_refl _
  | k + 1, j, h => by
    show W j ≤ if W (k + 1) < pmx W k then pmx W k else W (k + 1)
    by_cases q : j = k + 1
    · rw [q]; split <;> omega
    · have := pmx_le (W := W) k j (by omega)
      split <;> omega
theorem pmx_is {W : Nat → Int} : ∀ k, ∃ j, j ≤ k ∧ pmx W k = W j
  | 0 => ⟨0, Nat.le_refl _, rfl⟩
  | k + 1 => by
    show ∃ j, j ≤ k + 1 ∧ (if W (k + 1) < pmx W k then pmx W k else W (k + 1)) = W j
    split
    · obtain ⟨j, h1, h2⟩ := pmx_is (W := W) k
      exact ⟨j, by omega, h2⟩
    · exact ⟨k + 1, Nat.le_refl _, rfl⟩
theorem r_isR {C : mcx} (hC : c_ok C) {W : Nat → Int} {w : Int} {n : Nat} (hs : rsd C W) (ha : ∀ g, ms C g → vl C g ≤ W (sz g)) (hn : n ≤ 12) (h1 : w ≤ pmx W n) (h2 : ∀ j, j < n → ¬ w ≤ pmx W j) : isR C w (nI n) := by
  obtain ⟨j, hj, e⟩ := pmx_is (W := W) n
  have hjn : j = n := by
    by_cases q : j = n
    · exact q
    · have := pmx_le (W := W) j j (Nat.le_refl _)
      exact absurd (by omega) (h2 j (by omega))
  subst hjn
  refine Or.inl ⟨j, rfl, hn, ?_, fun f m v => ?_⟩
  · rcases (hs j hn).2 with q | ⟨f, a, b, d⟩
    · have z : j = 0 := by
        by_cases z : j = 0
        · exact z
        · have h3 := pmx_le (W := W) 0 0 (Nat.le_refl _)
          have h4 := (hs 0 (by omega)).1
          exact absurd (by omega) (h2 0 (by omega))
      exact ⟨f0, ms_f0, by rw [sz_f0, z], by rw [vl_f0 hC]; omega⟩
    · exact ⟨f, a, b, by omega⟩
  · have h3 := ha f m
    have h4 := pmx_le (W := W) (sz f) (sz f) (Nat.le_refl _)
    have : ¬ sz f < j := fun q => h2 _ q (by omega)
    omega
theorem r_isRn {C : mcx} (hC : c_ok C) {W : Nat → Int} {w : Int} (ha : ∀ g, ms C g → vl C g ≤ W (sz g)) (h2 : ∀ j, j ≤ 12 → ¬ w ≤ pmx W j) : isR C w (-1) := by
  refine Or.inr ⟨rfl, fun f m v => ?_⟩
  have h3 := ha f m
  have h5 := ms_6 hC m
  have h4 := pmx_le (W := W) (sz f) (sz f) (Nat.le_refl _)
  exact h2 (sz f) (by omega) (by omega)
theorem r_isG {C : mcx} (hC : c_ok C) {W : Nat → Int} {k : Nat} (hk : k ≤ 12) {r : Int32} (hs : rsd C W) (ha : ∀ g, ms C g → vl C g ≤ W (sz g)) (hr : r.toInt = pmx W k) : isG C k r := by
  refine ⟨?_, fun f m z => ?_⟩
  · obtain ⟨j, hj, e⟩ := pmx_is (W := W) k
    rcases (hs j (by omega)).2 with q | ⟨f, a, b, d⟩
    · exact ⟨f0, ms_f0, Nat.zero_le _, by rw [vl_f0 hC]; omega⟩
    · exact ⟨f, a, by omega, by omega⟩
  · have h3 := ha f m
    have h4 := pmx_le (W := W) k (sz f) z
    omega
