/-! Bits of an int -/
def bq (x : Int32) (i : Nat) : Bool := x.toBitVec.getLsbD i
def sbt (a : Nat) : Int32 := 1 <<< (nI a &&& 31)
theorem bq_or (x y : Int32) (i : Nat) : bq (x ||| y) i = (bq x i || bq y i) := by
  unfold bq
  rw [Int32.toBitVec_or, BitVec.getLsbD_or]
theorem bq_and (x y : Int32) (i : Nat) : bq (x &&& y) i = (bq x i && bq y i) := by
  unfold bq
  rw [Int32.toBitVec_and, BitVec.getLsbD_and]
theorem bq_xor (x y : Int32) (i : Nat) : bq (x ^^^ y) i = (bq x i ^^ bq y i) := by
  unfold bq
  rw [Int32.toBitVec_xor, BitVec.getLsbD_xor]
theorem bq_sb : ∀ a : Nat, a < 12 → ∀ i : Nat, i < 32 → bq (sbt a) i = decide (i = a) := by decide +kernel
theorem bq_m1 : ∀ i : Nat, i < 32 → bq (-1) i = true := by decide +kernel
theorem bq_one : ∀ i : Nat, i < 32 → bq 1 i = decide (i = 0) := by decide +kernel
theorem bq_0 : ∀ i : Nat, i < 32 → bq 0 i = false := by decide +kernel
theorem bq_ext {x y : Int32} (h : ∀ i, i < 32 → bq x i = bq y i) : x = y :=
  Int32.toBitVec_inj.mp (BitVec.eq_of_getLsbD_eq (fun i hi => h i hi))
theorem bq_and0 {x : Int32} {a b : Nat} (ha : a < 12) (hb : b < 12) : x &&& (sbt a ||| sbt b) = 0 ↔ bq x a = false ∧ bq x b = false := by
  constructor
  · intro h
    have e : ∀ i, i < 32 → (bq x i && (bq (sbt a) i || bq (sbt b) i)) = false := fun i hi => by
      rw [← bq_or, ← bq_and, h]; exact bq_0 i hi
    have e1 := e a (by omega)
    have e2 := e b (by omega)
    rw [bq_sb a ha a (by omega), bq_sb b hb a (by omega)] at e1
    rw [bq_sb a ha b (by omega), bq_sb b hb b (by omega)] at e2
    simp at e1 e2
    exact ⟨e1, e2⟩
  · intro h
    apply bq_ext
    intro i hi
    rw [bq_and, bq_or, bq_sb a ha i hi, bq_sb b hb i hi, bq_0 i hi]
    by_cases q : i = a
    · rw [q, h.1]; rfl
    · by_cases q2 : i = b
      · rw [q2, h.2]; rfl
      · simp [q, q2]
theorem bq_shr {x : Int32} {b : Nat} (hb : b < 12) : (x >>> (nI b &&& 31)) &&& 1 = 0 ↔ bq x b = false := by
  have hs : ∀ c : Nat, c < 12 → ((nI c &&& 31).toBitVec.smod 32).toNat = c := by decide +kernel
  have h0 : bq (x >>> (nI b &&& 31)) 0 = bq x b := by
    unfold bq
    rw [Int32.toBitVec_shiftRight, BitVec.getLsbD_sshiftRight', hs b hb]
    simp
    omega
  constructor
  · intro h
    have e : bq ((x >>> (nI b &&& 31)) &&& 1) 0 = false := by rw [h]; exact bq_0 0 (by decide)
    rw [bq_and, h0, bq_one 0 (by decide)] at e
    simpa using e
  · intro h
    apply bq_ext
    intro i hi
    rw [bq_and, bq_one i hi, bq_0 i hi]
    by_cases q : i = 0
    · rw [q, h0, h]; rfl
    · simp [q]
/-! Couples in their order -/
def crow (P : Nat → Nat → Bool) (a : Nat) : Nat → List (Nat × Nat)
  | 0 => []
  | b + 1 => crow P a b ++ (if P a b = true then [(a, b)] else [])
def call_ (P : Nat → Nat → Bool) (n : Nat) : Nat → List (Nat × Nat)
  | 0 => []
  | a + 1 => call_ P n a ++ crow P a n
theorem crow_t {P : Nat → Nat → Bool} {a b : Nat} (h : P a b = true) : crow P a (b + 1) = crow P a b ++ [(a, b)] := by show crow P a b ++ (if _ then _ else _) = _; rw [if_pos h]
theorem crow_f {P : Nat → Nat → Bool} {a b : Nat} (h : ¬ P a b = true) : crow P a (b + 1) = crow P a b := by show crow P a b ++ (if _ then _ else _) = _; rw [if_neg h, List.append_nil]
theorem crow_l {P : Nat → Nat → Bool} {a : Nat} : ∀ b, (crow P a b).length = cnt (P a) b
  | 0 => rfl
  | b + 1 => by
    by_cases q : P a b = true
    · rw [crow_t q, cnt_t q, List.length_append, crow_l b]; rfl
    · rw [crow_f q, cnt_f q, crow_l b]
theorem call_l {P : Nat → Nat → Bool} {n : Nat} : ∀ a, (call_ P n a).length = cn2 P n a
  | 0 => rfl
  | a + 1 => by
    show (call_ P n a ++ crow P a n).length = cn2 P n a + cnt (P a) n
    rw [List.length_append, call_l a, crow_l]
theorem cnt_lm {f : Nat → Bool} {b : Nat} : ∀ n, b ≤ n → cnt f b ≤ cnt f n
  | 0, h => by rw [show b = 0 by omega]; exact Nat.le_refl _
  | n + 1, h => by
    by_cases q : b = n + 1
    · rw [q]; exact Nat.le_refl _
    · have := cnt_lm (f := f) n (b := b) (by omega)
      by_cases z : f n = true
      · rw [cnt_t z]; omega
      · rw [cnt_f z]; exact this
theorem cn2_lm {P : Nat → Nat → Bool} {n a : Nat} : ∀ k, a ≤ k → cn2 P n a ≤ cn2 P n k
  | 0, h => by rw [show a = 0 by omega]; exact Nat.le_refl _
  | k + 1, h => by
    by_cases q : a = k + 1
    · rw [q]; exact Nat.le_refl _
    · have := cn2_lm (P := P) (n := n) k (a := a) (by omega)
      show _ ≤ cn2 P n k + cnt (P k) n
      omega
/-- of those so far, with the one that comes, there are no more than in all -/
theorem call_next {P : Nat → Nat → Bool} {n a b : Nat} (ha : a < n) (hb : b < n) (h : P a b = true) : (call_ P n a ++ crow P a b).length + 1 ≤ cn2 P n n := by
  rw [List.length_append, call_l, crow_l]
  have h1 := cnt_lm (f := P a) (b := b + 1) n (by omega)
  rw [cnt_t h] at h1
  have h2 := cn2_lm (P := P) (n := n) (a := a + 1) n (by omega)
  have h3 : cn2 P n (a + 1) = cn2 P n a + cnt (P a) n := rfl
  omega
theorem crow_m {P : Nat → Nat → Bool} {a x y : Nat} : ∀ b, (x, y) ∈ crow P a b ↔ x = a ∧ y < b ∧ P a y = true
  | 0 => ⟨fun h => absurd h (by simp [crow]), fun h => by omega⟩
  | b + 1 => by
    by_cases q : P a b = true
    · rw [crow_t q, List.mem_append, crow_m b]
      constructor
      · rintro (h | h)
        · exact ⟨h.1, by omega, h.2.2⟩
        · simp at h
          exact ⟨h.1, by omega, by rw [h.2]; exact q⟩
      · rintro ⟨h1, h2, h3⟩
        by_cases z : y = b
        · exact Or.inr (by simp [h1, z])
        · exact Or.inl ⟨h1, by omega, h3⟩
    · rw [crow_f q, crow_m b]
      constructor
      · rintro ⟨h1, h2, h3⟩
        exact ⟨h1, by omega, h3⟩
      · rintro ⟨h1, h2, h3⟩
        by_cases z : y = b
        · rw [z] at h3; exact absurd h3 q
        · exact ⟨h1, by omega, h3⟩
theorem call_m {P : Nat → Nat → Bool} {n x y : Nat} : ∀ a, (x, y) ∈ call_ P n a ↔ x < a ∧ y < n ∧ P x y = true
  | 0 => ⟨fun h => absurd h (by simp [call_]), fun h => by omega⟩
  | a + 1 => by
    show (x, y) ∈ call_ P n a ++ crow P a n ↔ _
    rw [List.mem_append, call_m a, crow_m]
    constructor
    · rintro (h | h)
      · exact ⟨by omega, h.2⟩
      · exact ⟨by omega, h.2.1, by rw [h.1]; exact h.2.2⟩
    · rintro ⟨h1, h2, h3⟩
      by_cases z : x = a
      · exact Or.inr ⟨z, h2, by rw [← z]; exact h3⟩
      · exact Or.inl ⟨by omega, h2, h3⟩
/-! No more than six men with six women -/
theorem cn2_eq {P R : Nat → Nat → Bool} {n : Nat} : ∀ k, (∀ a b, a < k → b < n → P a b = R a b) → cn2 P n k = cn2 R n k
  | 0, _ => rfl
  | k + 1, h => by
    show cn2 P n k + cnt (P k) n = cn2 R n k + cnt (R k) n
    rw [cn2_eq k (fun a b ha hb => h a b (by omega) hb), cnt_eq n (fun b hb => h k b (by omega) hb)]
theorem cn2_or {P R : Nat → Nat → Bool} {n : Nat} (h : ∀ a b, ¬ (P a b = true ∧ R a b = true)) : ∀ k, cn2 (fun a b => P a b || R a b) n k = cn2 P n k + cn2 R n k
  | 0 => rfl
  | k + 1 => by
    show cn2 (fun a b => P a b || R a b) n k + cnt (fun b => P k b || R k b) n = (cn2 P n k + cnt (P k) n) + (cn2 R n k + cnt (R k) n)
    rw [cn2_or h k, cnt_or (h k)]
    omega
theorem cn2_mo {P R : Nat → Nat → Bool} {n : Nat} : ∀ k, (∀ a b, a < k → b < n → P a b = true → R a b = true) → cn2 P n k ≤ cn2 R n k
  | 0, _ => Nat.le_refl _
  | k + 1, h => by
    have h1 := cn2_mo k (fun a b ha hb => h a b (by omega) hb)
    have h2 := cnt_mo (f := P k) (g := R k) n (fun b hb => h k b (by omega) hb)
    show cn2 P n k + cnt (P k) n ≤ cn2 R n k + cnt (R k) n
    omega
theorem cn2_col {P : Nat → Nat → Bool} {k : Nat} : ∀ n, cn2 (fun b a => P a b) (k + 1) n = cn2 (fun b a => P a b) k n + cnt (P k) n
  | 0 => rfl
  | n + 1 => by
    show cn2 (fun b a => P a b) (k + 1) n + cnt (fun a => P a n) (k + 1) = (cn2 (fun b a => P a b) k n + cnt (fun a => P a n) k) + cnt (P k) (n + 1)
    rw [cn2_col n]
    by_cases q : P k n = true
    · rw [cnt_t (f := fun a => P a n) q, cnt_t q]; omega
    · rw [cnt_f (f := fun a => P a n) q, cnt_f q]; omega
theorem cn2_z {P : Nat → Nat → Bool} : ∀ n, cn2 P 0 n = 0
  | 0 => rfl
  | n + 1 => by show cn2 P 0 n + 0 = 0; rw [cn2_z n]
theorem cn2_flip {P : Nat → Nat → Bool} {n : Nat} : ∀ k, cn2 P n k = cn2 (fun b a => P a b) k n
  | 0 => (cn2_z n).symm
  | k + 1 => by
    rw [cn2_col]
    show cn2 P n k + cnt (P k) n = _
    rw [cn2_flip k]
theorem cnt_not {f : Nat → Bool} : ∀ n, cnt (fun i => !f i) n + cnt f n = n
  | 0 => rfl
  | n + 1 => by
    have := cnt_not (f := f) n
    by_cases q : f n = true
    · rw [cnt_t q, cnt_f (by simp [q])]; omega
    · rw [cnt_f q, cnt_t (f := fun i => !f i) (by simpa using q)]; omega
theorem cn2_sx {s : Nat → Bool} {n : Nat} : ∀ k, cn2 (fun a b => s a != s b) n k = cnt s k * (n - cnt s n) + (k - cnt s k) * cnt s n
  | 0 => by show 0 = 0 * _ + (0 - 0) * _; simp
  | k + 1 => by
    show cn2 (fun a b => s a != s b) n k + cnt (fun b => s k != s b) n = _
    rw [cn2_sx k]
    have hn := cnt_not (f := s) n
    have hk := cnt_le (f := s) k
    by_cases q : s k = true
    · have e : cnt (fun b => s k != s b) n = cnt (fun b => !s b) n := cnt_eq n (fun b _ => by rw [q]; cases s b <;> rfl)
      rw [e, cnt_t q, show k + 1 - (cnt s k + 1) = k - cnt s k by omega, Nat.add_mul]
      omega
    · have q' : s k = false := by simpa using q
      have e : cnt (fun b => s k != s b) n = cnt s n := cnt_eq n (fun b _ => by rw [q']; cases s b <;> rfl)
      rw [e, cnt_f q, show k + 1 - cnt s k = (k - cnt s k) + 1 by omega, Nat.add_mul]
      omega
theorem cn2_36 {P : Nat → Nat → Bool} {s : Nat → Bool} {n : Nat} (hn : n ≤ 12) (h1 : ∀ a b, a < n → b < n → P a b = true → s a ≠ s b) (h2 : ∀ a b, ¬ (P a b = true ∧ P b a = true)) : cn2 P n n ≤ 36 := by
  have e1 := cn2_or (P := P) (R := fun a b => P b a) (n := n) h2 n
  have e2 := cn2_flip (P := P) (n := n) n
  have e3 := cn2_mo (P := fun a b => P a b || P b a) (R := fun a b => s a != s b) (n := n) n (fun a b ha hb h => by
    rw [Bool.or_eq_true] at h
    rw [bne_iff_ne]
    rcases h with h | h
    · exact h1 a b ha hb h
    · exact Ne.symm (h1 b a hb ha h))
  rw [cn2_sx] at e3
  have e4 := cnt_le (f := s) n
  have key : ∀ n : Nat, n < 13 → ∀ m : Nat, m < 13 → m ≤ n → m * (n - m) + (n - m) * m ≤ 72 := by decide +kernel
  have e5 := key n (by omega) (cnt s n) (by omega) e4
  omega
