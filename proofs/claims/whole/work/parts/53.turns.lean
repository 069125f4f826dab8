/-! Two lords in turn: pure rows -/
def tbet (dp : Nat) (acc : Option (Int × Nat × Nat)) (v : Int) (q : Nat × Nat) : Option (Int × Nat × Nat) := match acc with
  | none => some (v, q)
  | some r => if (dp % 2 = 0 ∧ r.1 < v) ∨ (¬ dp % 2 = 0 ∧ v < r.1) then some (v, q) else some r
def tgo (dp : Nat) (ok : Nat × Nat → Bool) (val : Nat × Nat → Int) : List (Nat × Nat) → Option (Int × Nat × Nat) → Option (Int × Nat × Nat)
  | [], acc => acc
  | q :: L, acc => tgo dp ok val L (if ok q = true then tbet dp acc (val q) q else acc)
theorem tgo_app {dp : Nat} {ok : Nat × Nat → Bool} {val : Nat × Nat → Int} : ∀ (L K : List (Nat × Nat)) (acc : Option (Int × Nat × Nat)), tgo dp ok val (L ++ K) acc = tgo dp ok val K (tgo dp ok val L acc)
  | [], _, _ => rfl
  | q :: L, K, acc => by
    show tgo dp ok val (L ++ K) _ = tgo dp ok val K (tgo dp ok val L _)
    exact tgo_app L K _
theorem tgo_1 {dp : Nat} {ok : Nat × Nat → Bool} {val : Nat × Nat → Int} {L : List (Nat × Nat)} {q : Nat × Nat} {acc : Option (Int × Nat × Nat)} (h : ok q = true) : tgo dp ok val (L ++ [q]) acc = tbet dp (tgo dp ok val L acc) (val q) q := by
  rw [tgo_app]
  show (if ok q = true then _ else _) = _
  rw [if_pos h]
theorem tgo_0 {dp : Nat} {ok : Nat × Nat → Bool} {val : Nat × Nat → Int} {L : List (Nat × Nat)} {q : Nat × Nat} {acc : Option (Int × Nat × Nat)} (h : ¬ ok q = true) : tgo dp ok val (L ++ [q]) acc = tgo dp ok val L acc := by
  rw [tgo_app]
  show (if ok q = true then _ else _) = _
  rw [if_neg h]
def fre2 (U : Nat → Bool) (q : Nat × Nat) : Bool := !U q.1 && !U q.2
def uad (U : Nat → Bool) (q : Nat × Nat) : Nat → Bool := fun i => U i || (decide (i = q.1) || decide (i = q.2))
def clp (all w : Int) : Int := if w < 0 then 0 else if all < w then all else w
def rsl (acc : Option (Int × Nat × Nat)) (df : Int) : Int := match acc with
  | none => df
  | some r => r.1
def fpi (df : Int32) (acc : Option (Int × Nat × Nat)) : Int32 := match acc with
  | none => df
  | some r => nI (12 * r.2.1 + r.2.2)
def tvl (gn : Nat → Nat → Int) (all : Int) (L : List (Nat × Nat)) : Nat → Nat → (Nat → Bool) → Int → Int
  | 0, _, _, w => 2 * w - all
  | n + 1, dp, U, w => rsl (tgo dp (fre2 U) (fun q => tvl gn all L n (dp + 1) (uad U q) (clp all (w + gn q.1 q.2))) L none) (2 * w - all)
theorem clp_b {all w : Int} (h : 0 ≤ all) : 0 ≤ clp all w ∧ clp all w ≤ all := by
  unfold clp
  split
  · omega
  · split <;> omega
/-- every value is between -all and all -/
def accb (all : Int) (acc : Option (Int × Nat × Nat)) : Prop := ∀ r, acc = some r → -all ≤ r.1 ∧ r.1 ≤ all
theorem tbet_b {all : Int} {dp : Nat} {acc : Option (Int × Nat × Nat)} {v : Int} {q : Nat × Nat} (h : accb all acc) (hv : -all ≤ v ∧ v ≤ all) : accb all (tbet dp acc v q) := by
  intro r e
  unfold tbet at e
  cases acc with
  | none =>
    cases e
    exact hv
  | some r0 =>
    have e : (if (dp % 2 = 0 ∧ r0.1 < v) ∨ (¬ dp % 2 = 0 ∧ v < r0.1) then some (v, q) else some r0) = some r := e
    split at e
    · cases e; exact hv
    · cases e; exact h _ rfl
theorem tgo_b {all : Int} {dp : Nat} {ok : Nat × Nat → Bool} {val : Nat × Nat → Int} (hv : ∀ q, -all ≤ val q ∧ val q ≤ all) : ∀ (L : List (Nat × Nat)) (acc : Option (Int × Nat × Nat)), accb all acc → accb all (tgo dp ok val L acc)
  | [], _, h => h
  | q :: L, acc, h => by
    show accb all (tgo dp ok val L (if ok q = true then tbet dp acc (val q) q else acc))
    apply tgo_b hv L
    split
    · exact tbet_b h (hv q)
    · exact h
theorem accb_0 {all : Int} : accb all none := fun _ e => by cases e
theorem rsl_b {all df : Int} {acc : Option (Int × Nat × Nat)} (h : accb all acc) (hd : -all ≤ df ∧ df ≤ all) : -all ≤ rsl acc df ∧ rsl acc df ≤ all := by
  cases acc with
  | none => exact hd
  | some r => exact h r rfl
theorem tvl_b {gn : Nat → Nat → Int} {all : Int} (ha : 0 ≤ all) {L : List (Nat × Nat)} : ∀ (n dp : Nat) (U : Nat → Bool) (w : Int), 0 ≤ w ∧ w ≤ all → -all ≤ tvl gn all L n dp U w ∧ tvl gn all L n dp U w ≤ all
  | 0, _, _, w, h => by show -all ≤ 2 * w - all ∧ 2 * w - all ≤ all; omega
  | n + 1, dp, U, w, h => by
    show -all ≤ rsl _ _ ∧ rsl _ _ ≤ all
    exact rsl_b (tgo_b (fun q => tvl_b ha n (dp + 1) (uad U q) _ (clp_b ha)) L none accb_0) (by omega)
/-- who is taken, the class's bits -/
def tkU (x : Int32) (U : Nat → Bool) : Prop := ∀ i, i < 12 → bq x i = U i
theorem tkU_0 : tkU 0 (fun _ => false) := fun i hi => bq_0 i (by omega)
theorem tkU_f {x : Int32} {U : Nat → Bool} (h : tkU x U) {a b : Nat} (ha : a < 12) (hb : b < 12) : x &&& (sbt a ||| sbt b) = 0 ↔ fre2 U (a, b) = true := by
  rw [bq_and0 ha hb, h a ha, h b hb]
  show _ ↔ (!U a && !U b) = true
  cases U a <;> cases U b <;> simp
theorem tkU_up {x : Int32} {U : Nat → Bool} (h : tkU x U) {a b : Nat} (ha : a < 12) (hb : b < 12) : tkU (x ||| (sbt a ||| sbt b)) (uad U (a, b)) := by
  intro i hi
  rw [bq_or, bq_or, h i hi, bq_sb a ha i (by omega), bq_sb b hb i (by omega)]
  rfl
theorem mm_neg {a : Int32} (h : -2147483648 < a.toInt) : (-a).toInt = -a.toInt := by
  have := mm_bd a
  rw [Int32.toInt_neg]
  rw [Int.bmod_eq_of_le] <;> omega
theorem clp_g {g w v : Int32} {all : Int} (hg : -126 ≤ g.toInt ∧ g.toInt ≤ 126) (hw : 0 ≤ w.toInt) (hv : 0 ≤ v.toInt) (ha : w.toInt + v.toInt = all) (hb : all ≤ 20000) : (w + h_gain g w v).toInt = clp all (w.toInt + g.toInt) ∧ (v - h_gain g w v).toInt = all - clp all (w.toInt + g.toInt) := by
  have e : (h_gain g w v).toInt = clp all (w.toInt + g.toInt) - w.toInt := by
    unfold h_gain
    by_cases q : g.toInt < 0
    · rw [if_pos q]
      have e1 : (h_min (-g) w).toInt = if w.toInt < -g.toInt then w.toInt else -g.toInt := by
        unfold h_min
        by_cases z : w < -g
        · rw [if_pos z]; rw [mm_lt, mm_neg (by omega)] at z; rw [if_pos z]
        · rw [if_neg z]; rw [mm_lt, mm_neg (by omega)] at z; rw [if_neg z, mm_neg (by omega)]
      have b1 : 0 ≤ (h_min (-g) w).toInt ∧ (h_min (-g) w).toInt ≤ 126 := by rw [e1]; split <;> omega
      rw [mm_neg (by omega), e1]
      unfold clp
      split <;> split <;> (try split) <;> omega
    · rw [if_neg q]
      unfold h_min
      by_cases z : v < g
      · rw [if_pos z]; rw [mm_lt] at z
        unfold clp
        split <;> (try split) <;> omega
      · rw [if_neg z]; rw [mm_lt] at z
        unfold clp
        split <;> (try split) <;> omega
  have c := clp_b (all := all) (w := w.toInt + g.toInt) (by omega)
  rw [mm_add (by omega), mm_sub (by omega)]
  omega
/-! Pairs in the reference's order -/
def prq (fm s2 : Nat) (ok : Nat → Nat → Bool) (F S : Nat → Nat) : Nat → List (Nat × Nat)
  | 0 => []
  | q + 1 => prq fm s2 ok F S q ++ (if q / 4 < fm ∧ q % 4 < s2 ∧ ok (F (q / 4)) (S (q % 4)) = true then [(F (q / 4), S (q % 4))] else [])
def prr (ok : Nat → Nat → Bool) (S : Nat → Nat) (a : Nat) : Nat → List (Nat × Nat)
  | 0 => []
  | j + 1 => prr ok S a j ++ (if ok a (S j) = true then [(a, S j)] else [])
def pra (s2 : Nat) (ok : Nat → Nat → Bool) (F S : Nat → Nat) : Nat → List (Nat × Nat)
  | 0 => []
  | i + 1 => pra s2 ok F S i ++ prr ok S (F i) s2
set_option maxHeartbeats 4000000 in
theorem prq_16 {fm s2 : Nat} {ok : Nat → Nat → Bool} {F S : Nat → Nat} (h1 : fm ≤ 4) (h2 : s2 ≤ 4) : prq fm s2 ok F S 16 = pra s2 ok F S fm := by
  rcases (show fm = 0 ∨ fm = 1 ∨ fm = 2 ∨ fm = 3 ∨ fm = 4 by omega) with rfl | rfl | rfl | rfl | rfl <;>
  rcases (show s2 = 0 ∨ s2 = 1 ∨ s2 = 2 ∨ s2 = 3 ∨ s2 = 4 by omega) with rfl | rfl | rfl | rfl | rfl <;>
  simp [prq, pra, prr]
theorem prq_t {fm s2 : Nat} {ok : Nat → Nat → Bool} {F S : Nat → Nat} {q : Nat} (h : q / 4 < fm ∧ q % 4 < s2 ∧ ok (F (q / 4)) (S (q % 4)) = true) : prq fm s2 ok F S (q + 1) = prq fm s2 ok F S q ++ [(F (q / 4), S (q % 4))] := by
  show _ ++ (if _ then _ else _) = _
  rw [if_pos h]
theorem prq_f {fm s2 : Nat} {ok : Nat → Nat → Bool} {F S : Nat → Nat} {q : Nat} (h : ¬ (q / 4 < fm ∧ q % 4 < s2 ∧ ok (F (q / 4)) (S (q % 4)) = true)) : prq fm s2 ok F S (q + 1) = prq fm s2 ok F S q := by
  show _ ++ (if _ then _ else _) = _
  rw [if_neg h, List.append_nil]
/-- couples by ranks -/
theorem crow_r {P : Nat → Nat → Bool} {ok : Nat → Nat → Bool} {f g : Nat → Bool} {S : Nat → Nat} {a : Nat} (hP : ∀ b, P a b = (f a && (g b && ok a b))) (ha : f a = true) (hS : ∀ b, g b = true → S (cnt g b) = b) : ∀ b, crow P a b = prr ok S a (cnt g b)
  | 0 => rfl
  | b + 1 => by
    have ih := crow_r hP ha hS b
    by_cases q : g b = true
    · rw [cnt_t q]
      show crow P a b ++ (if P a b = true then [(a, b)] else []) = prr ok S a (cnt g b) ++ (if ok a (S (cnt g b)) = true then [(a, S (cnt g b))] else [])
      rw [ih, hS b q, hP b, ha, q, Bool.true_and, Bool.true_and]
    · rw [cnt_f q, crow_f (fun z => by rw [hP b] at z; simp only [Bool.and_eq_true] at z; exact q z.2.1)]
      exact ih
theorem crow_n {P : Nat → Nat → Bool} {a : Nat} (h : ∀ b, ¬ P a b = true) : ∀ b, crow P a b = []
  | 0 => rfl
  | b + 1 => by rw [crow_f (h b)]; exact crow_n h b
theorem call_r {P : Nat → Nat → Bool} {ok : Nat → Nat → Bool} {f g : Nat → Bool} {F S : Nat → Nat} {n : Nat} (hP : ∀ a b, P a b = (f a && (g b && ok a b))) (hF : ∀ a, f a = true → F (cnt f a) = a) (hS : ∀ b, g b = true → S (cnt g b) = b) : ∀ a, call_ P n a = pra (cnt g n) ok F S (cnt f a)
  | 0 => rfl
  | a + 1 => by
    have ih := call_r (n := n) hP hF hS a
    show call_ P n a ++ crow P a n = _
    by_cases q : f a = true
    · rw [cnt_t q]
      show _ = pra (cnt g n) ok F S (cnt f a) ++ prr ok S (F (cnt f a)) (cnt g n)
      rw [ih, hF a q, crow_r (hP a) q hS]
    · rw [cnt_f q, crow_n (fun b z => by rw [hP a b] at z; simp only [Bool.and_eq_true] at z; exact q z.1), List.append_nil]
      exact ih
