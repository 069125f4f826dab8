/-! Arrays by a natural number's place -/
section MN
variable {l : Launch} {G : mm_G} {d : Nat} {K : mm_R} {P : mm_P} {pc : Nat} {ls st : List Value} {T : mm_T} {M : mm_M} {uc us : Nat}
theorem mm_ixn {i : Int32} {k len : Nat} (hk : i = nI k) (hl : k < len) (hs : len < 2147483648) : vp_in i len ∧ i.toNatClampNeg = k := by
  subst hk
  exact ⟨vp_in_nI hl hs, nI_clamp (by omega)⟩
theorem mm_ialoadn (n k : Nat) {len c : Nat} {rs : List (Option (Option Nat))} {i : Int32} (hd : decode K.cc pc = .ok (.iaload, 1)) (hn : pc + 1 = n) (hT : T[c]? = some (13, len, rs)) (hs : len < 2147483648) (hk : i = nI k) (hl : k < len) (h : mm_wp l G d K P n ls (.int (M c k) :: st) T M uc us) : mm_wp l G d K P pc ls (.int i :: .ref c :: st) T M uc us := by
  obtain ⟨h1, h2⟩ := mm_ixn hk hl hs
  exact mm_iaload n hd hn hT h1 (by rw [h2]; exact h)
theorem mm_baloadn (n k : Nat) {len c : Nat} {rs : List (Option (Option Nat))} {i : Int32} (hd : decode K.cc pc = .ok (.baload, 1)) (hn : pc + 1 = n) (hT : T[c]? = some (14, len, rs)) (hs : len < 2147483648) (hk : i = nI k) (hl : k < len) (h : mm_wp l G d K P n ls (.int (M c k) :: st) T M uc us) : mm_wp l G d K P pc ls (.int i :: .ref c :: st) T M uc us := by
  obtain ⟨h1, h2⟩ := mm_ixn hk hl hs
  exact mm_baload n hd hn hT h1 (by rw [h2]; exact h)
theorem mm_iastoren (n k : Nat) {len c : Nat} {rs : List (Option (Option Nat))} {i x : Int32} (hd : decode K.cc pc = .ok (.iastore, 1)) (hn : pc + 1 = n) (hT : T[c]? = some (13, len, rs)) (hs : len < 2147483648) (hk : i = nI k) (hl : k < len) (h : mm_wp l G d K P n ls st T (mm_up M c k x) uc us) : mm_wp l G d K P pc ls (.int x :: .int i :: .ref c :: st) T M uc us := by
  obtain ⟨h1, h2⟩ := mm_ixn hk hl hs
  exact mm_iastore n hd hn hT h1 (by rw [h2]; exact h)
theorem mm_bastoren (n k : Nat) {len c : Nat} {rs : List (Option (Option Nat))} {i x : Int32} (hd : decode K.cc pc = .ok (.bastore, 1)) (hn : pc + 1 = n) (hT : T[c]? = some (14, len, rs)) (hs : len < 2147483648) (hk : i = nI k) (hl : k < len) (hx : vp_nar .boolean x = x) (h : mm_wp l G d K P n ls st T (mm_up M c k x) uc us) : mm_wp l G d K P pc ls (.int x :: .int i :: .ref c :: st) T M uc us := by
  obtain ⟨h1, h2⟩ := mm_ixn hk hl hs
  exact mm_bastore n hd hn hT h1 hx (by rw [h2]; exact h)
theorem mm_sloadn (n k : Nat) {z : UInt32} {i : Int32} (hd : decode K.cc pc = .ok (.iaload, 1)) (hn : pc + 1 = n) (hs : G.len < 2147483648) (hk : i = nI k) (hl : k < G.len) (h : mm_wp l G d K P n ls (.int (G.xs k) :: st) T M uc us) : mm_wp l G d K P pc ls (.int i :: .float z :: st) T M uc us := by
  obtain ⟨h1, h2⟩ := mm_ixn hk hl hs
  exact mm_sload n hd hn h1 (by rw [h2]; exact h)
end MN
theorem mm_l1 : (1 : Int32) = nI 1 := rfl
theorem mm_l2 : (2 : Int32) = nI 2 := rfl
theorem mm_l3 : (3 : Int32) = nI 3 := rfl
theorem mm_l4 : (4 : Int32) = nI 4 := rfl
theorem mm_l5 : (5 : Int32) = nI 5 := rfl
theorem mm_l12 : (12 : Int32) = nI 12 := rfl
theorem mm_l20 : (20 : Int32) = nI 20 := rfl
theorem mm_l60 : (60 : Int32) = nI 60 := rfl
theorem mm_rem {x : Int32} {k : Nat} (s : Nat) {y : Int32} (hx : x = nI k) (hk : k < 2147483648) (hy : y = nI s) (h0 : 0 < s) (hs : s < 2147483648) : x - x / y * y = nI (k % s) := by
  subst hx; subst hy
  exact pk_rem hk h0 hs
theorem mm_div {x : Int32} {k : Nat} (s : Nat) {y : Int32} (hx : x = nI k) (hk : k < 2147483648) (hy : y = nI s) (h0 : 0 < s) (hs : s < 2147483648) : x / y = nI (k / s) := by
  subst hx; subst hy
  exact pk_div hk h0 hs
/-! What the texts say -/
def q_ff (g : Nat → Bool) (fin : Int32) : Nat → Nat → Int32
  | 0, _ => fin
  | k + 1, i => if g i = true then q_ff g fin k (i + 1) else nI i
def q_lg (b : Nat → Int32) (i : Nat) : Bool := if i % 3 = 2 then decide ((b i).toInt = 59) else decide (i / 3 < 6 ∧ 48 ≤ (b i).toInt ∧ (b i).toInt ≤ 57)
def q_pg (nl : Nat) (b : Nat → Int32) (i : Nat) : Bool :=
  if i % 5 = 0 then decide (i / 5 < 12 ∧ ((b i).toInt = 109 ∨ (b i).toInt = 119)) else if i % 5 = 1 then decide (48 ≤ (b i).toInt ∧ (b i).toInt ≤ 57 ∧ (b i).toInt - 48 < nl) else if i % 5 = 2 then decide (49 ≤ (b i).toInt ∧ (b i).toInt ≤ 57) else if i % 5 = 3 then decide (48 ≤ (b i).toInt ∧ (b i).toInt ≤ 57) else decide ((b i).toInt = 59)
def q_fin (s n : Nat) : Int32 := if n = 0 ∨ n % s = s - 1 then -1 else nI n
def q_f0 (n : Nat) (b : Nat → Int32) : Int32 := q_ff (q_lg b) (q_fin 3 n) n 0
def q_nl (n : Nat) (b : Nat → Int32) : Nat := if q_f0 n b = -1 then (n + 1) / 3 else 0
def q_lw (b : Nat → Int32) (j : Nat) : Int32 := 10 * (b (3 * j) - 48) + (b (3 * j + 1) - 48)
def q_f1 (nl n : Nat) (b : Nat → Int32) : Int32 := q_ff (q_pg nl b) (q_fin 5 n) n 0
def q_np (nl n : Nat) (b : Nat → Int32) : Nat := if q_f1 nl n b = -1 then (n + 1) / 5 else 0
def q_wh (b : Nat → Int32) (p k : Nat) : Int32 := if k = 0 then (if (b (5 * p)).toInt = 109 then 0 else 1) else b (5 * p + k) - 48
def q_fig (n : Nat) (b : Nat → Int32) (k : Nat) : Int32 := if k < n ∧ 48 ≤ (b k).toInt ∧ (b k).toInt ≤ 57 then b k - 48 else -1
theorem q_ff_ok {g : Nat → Bool} {fin : Int32} : ∀ (k i : Nat), i + k < 2147483648 → q_ff g fin k i = -1 → fin = -1 ∧ ∀ j, i ≤ j → j < i + k → g j = true
  | 0, i, _, h => ⟨h, fun j h1 h2 => by omega⟩
  | k + 1, i, hb, h => by
    unfold q_ff at h
    by_cases hg : g i = true
    · rw [if_pos hg] at h
      obtain ⟨h1, h2⟩ := q_ff_ok k (i + 1) (by omega) h
      refine ⟨h1, fun j a b => ?_⟩
      by_cases hj : j = i
      · rw [hj]; exact hg
      · exact h2 j (by omega) (by omega)
    · rw [if_neg hg] at h
      have h3 := congrArg Int32.toInt h
      rw [nI_toInt (by omega), mm_t1] at h3
      omega
theorem q_ff_to {g : Nat → Bool} {fin : Int32} : ∀ (m k i : Nat), (∀ j, i ≤ j → j < i + m → g j = true) → q_ff g fin (m + k) i = q_ff g fin k (i + m)
  | 0, k, i, _ => by rw [Nat.zero_add, Nat.add_zero]
  | m + 1, k, i, h => by
    rw [show m + 1 + k = (m + k) + 1 by omega]
    show (if g i = true then q_ff g fin (m + k) (i + 1) else nI i) = _
    rw [if_pos (h i (Nat.le_refl _) (by omega)), q_ff_to m k (i + 1) (fun j a b => h j (by omega) (by omega)), show i + 1 + m = i + (m + 1) by omega]
theorem q_ff_bad {g : Nat → Bool} {fin : Int32} (m n : Nat) (hm : m < n) (h : ∀ j, j < m → g j = true) (hb : g m = false) : q_ff g fin n 0 = nI m := by
  have := q_ff_to (g := g) (fin := fin) m (n - m) 0 (fun j _ b => h j (by omega))
  rw [show m + (n - m) = n by omega] at this
  rw [this, Nat.zero_add, show n - m = (n - m - 1) + 1 by omega]
  show (if g m = true then _ else nI m) = nI m
  rw [if_neg (by rw [hb]; decide)]
theorem q_ff_all {g : Nat → Bool} {fin : Int32} (n : Nat) (h : ∀ j, j < n → g j = true) : q_ff g fin n 0 = fin := by
  have := q_ff_to (g := g) (fin := fin) n 0 0 (fun j _ b => h j (by omega))
  rw [Nat.add_zero] at this
  exact this
theorem q_fin_m {s n : Nat} (hn : n < 2147483648) (h : q_fin s n = -1) : n = 0 ∨ n % s = s - 1 := by
  unfold q_fin at h
  by_cases hc : n = 0 ∨ n % s = s - 1
  · exact hc
  · rw [if_neg hc] at h
    have h3 := congrArg Int32.toInt h
    rw [nI_toInt (by omega), mm_t1] at h3
    omega
theorem q_nl_le {n : Nat} {b : Nat → Int32} (hn : n ≤ 20) : q_nl n b ≤ 6 := by
  unfold q_nl
  by_cases h : q_f0 n b = -1
  · rw [if_pos h]
    obtain ⟨h1, h2⟩ := q_ff_ok n 0 (by omega) h
    have h3 := q_fin_m (by omega) h1
    by_cases h4 : n ≤ 17
    · omega
    · have h5 := h2 18 (by omega) (by omega)
      simp [q_lg] at h5
  · rw [if_neg h]; omega
theorem q_np_le {nl n : Nat} {b : Nat → Int32} (hn : n ≤ 60) : q_np nl n b ≤ 12 := by
  unfold q_np
  by_cases h : q_f1 nl n b = -1
  · rw [if_pos h]; omega
  · rw [if_neg h]; omega
theorem q_nl_g {n : Nat} {b : Nat → Int32} (hn : n ≤ 20) {j : Nat} (hj : j < q_nl n b) : 3 * j + 1 < n ∧ (48 ≤ (b (3 * j)).toInt ∧ (b (3 * j)).toInt ≤ 57) ∧ 48 ≤ (b (3 * j + 1)).toInt ∧ (b (3 * j + 1)).toInt ≤ 57 := by
  unfold q_nl at hj
  by_cases h : q_f0 n b = -1
  · rw [if_pos h] at hj
    obtain ⟨h1, h2⟩ := q_ff_ok n 0 (by omega) h
    have a1 := h2 (3 * j) (by omega) (by omega)
    have a2 := h2 (3 * j + 1) (by omega) (by omega)
    unfold q_lg at a1 a2
    rw [if_neg (by omega)] at a1 a2
    have a1 := of_decide_eq_true a1
    have a2 := of_decide_eq_true a2
    exact ⟨by omega, a1.2, a2.2⟩
  · rw [if_neg h] at hj; omega
theorem q_np_g {nl n : Nat} {b : Nat → Int32} (hn : n ≤ 60) {j : Nat} (hj : j < q_np nl n b) : 5 * j + 3 < n ∧ ((b (5 * j)).toInt = 109 ∨ (b (5 * j)).toInt = 119) ∧ (48 ≤ (b (5 * j + 1)).toInt ∧ (b (5 * j + 1)).toInt ≤ 57 ∧ (b (5 * j + 1)).toInt - 48 < nl) ∧ (49 ≤ (b (5 * j + 2)).toInt ∧ (b (5 * j + 2)).toInt ≤ 57) ∧ 48 ≤ (b (5 * j + 3)).toInt ∧ (b (5 * j + 3)).toInt ≤ 57 := by
  unfold q_np at hj
  by_cases h : q_f1 nl n b = -1
  · rw [if_pos h] at hj
    obtain ⟨h1, h2⟩ := q_ff_ok n 0 (by omega) h
    have a0 := h2 (5 * j) (by omega) (by omega)
    have a1 := h2 (5 * j + 1) (by omega) (by omega)
    have a2 := h2 (5 * j + 2) (by omega) (by omega)
    have a3 := h2 (5 * j + 3) (by omega) (by omega)
    unfold q_pg at a0 a1 a2 a3
    rw [if_pos (by omega)] at a0
    rw [if_neg (by omega), if_pos (by omega)] at a1
    rw [if_neg (by omega), if_neg (by omega), if_pos (by omega)] at a2
    rw [if_neg (by omega), if_neg (by omega), if_neg (by omega), if_pos (by omega)] at a3
    have a0 := of_decide_eq_true a0
    have a1 := of_decide_eq_true a1
    have a2 := of_decide_eq_true a2
    have a3 := of_decide_eq_true a3
    exact ⟨by omega, a0.2, a1, a2, a3⟩
  · rw [if_neg h] at hj; omega
theorem q_fig_i (n : Nat) (b : Nat → Int32) (k : Nat) : (q_fig n b k).toInt = if k < n ∧ 48 ≤ (b k).toInt ∧ (b k).toInt ≤ 57 then (b k).toInt - 48 else -1 := by
  unfold q_fig
  split
  · rename_i h
    rw [mm_sub (by simp only [Int32.reduceToInt]; omega)]
    simp only [Int32.reduceToInt]
  · rfl
theorem q_ff_s (g : Nat → Bool) (fin : Int32) (k i : Nat) : q_ff g fin (k + 1) i = if g i = true then q_ff g fin k (i + 1) else nI i := rfl
theorem q_ff_z (g : Nat → Bool) (fin : Int32) (i : Nat) : q_ff g fin 0 i = fin := rfl
section MP
variable {l : Launch} {G : mm_G} {d : Nat} {K : mm_R} {P : mm_P} {pc : Nat} {ls st : List Value} {T : mm_T} {M : mm_M} {uc us : Nat}
theorem mm_topi {x : Int32} (k : ∀ y : Int32, y = x → mm_wp l G d K P pc ls (.int y :: st) T M uc us) : mm_wp l G d K P pc ls (.int x :: st) T M uc us := k x rfl
theorem mm_topl {x : Int64} (k : ∀ y : Int64, y = x → mm_wp l G d K P pc ls (.long y :: st) T M uc us) : mm_wp l G d K P pc ls (.long x :: st) T M uc us := k x rfl
theorem mm_memo {M' : mm_M} (e : M = M') (k : mm_wp l G d K P pc ls st T M' uc us) : mm_wp l G d K P pc ls st T M uc us := e ▸ k
theorem mm_lsto {ls' : List Value} (e : ls = ls') (k : mm_wp l G d K P pc ls' st T M uc us) : mm_wp l G d K P pc ls st T M uc us := e ▸ k
end MP
theorem mm_updlt {R f : Nat → Int32} {i : Nat} {v : Int32} (h : ∀ j, j < i → R j = f j) (hv : v = f i) : ∀ j, j < i + 1 → upd R i v j = f j := by
  intro j hj
  by_cases e : j = i
  · subst e; simp [upd, hv]
  · simp only [upd, if_neg e]; exact h j (by omega)
