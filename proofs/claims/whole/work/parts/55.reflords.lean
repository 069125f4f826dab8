/-! Two lords in turn, in the reference -/
noncomputable def rkp (f : Nat → Bool) (i : Nat) : Nat := Classical.epsilon (fun p => f p = true ∧ cnt f p = i)
theorem rkp_of {f : Nat → Bool} {p : Nat} (h : f p = true) : rkp f (cnt f p) = p := by
  have e := Classical.epsilon_spec (p := fun q => f q = true ∧ cnt f q = cnt f p) ⟨p, h, rfl⟩
  exact cnt_inj e.1 h e.2
theorem rkp_at {f : Nat → Bool} {n i : Nat} (h : i < cnt f n) : f (rkp f i) = true ∧ cnt f (rkp f i) = i ∧ rkp f i < n := by
  obtain ⟨p, h1, h2, h3⟩ := cnt_ex n h
  have e : rkp f i = p := by rw [← h3]; exact rkp_of h2
  rw [e]
  exact ⟨h2, h3, h1⟩
theorem rkp_inj {f : Nat → Bool} {n i j : Nat} (hi : i < cnt f n) (hj : j < cnt f n) (e : rkp f i = rkp f j) : i = j := by
  rw [← (rkp_at hi).2.1, ← (rkp_at hj).2.1, e]
def fmA (A : mm_M) (x : Nat) : Nat := cnt (io A x) (a_np A)
noncomputable def oF (A : mm_M) (x i : Nat) : Nat := rkp (io A x) i
def sxb (A : mm_M) (a b : Nat) : Bool := decide (¬ z_w A a 0 = z_w A b 0)
def vq (A : mm_M) (x y q : Nat) : Prop := q / 4 < fmA A x ∧ q % 4 < fmA A y ∧ sxb A (oF A x (q / 4)) (oF A y (q % 4)) = true
noncomputable def pq (A : mm_M) (x y q : Nat) : Nat × Nat := (oF A x (q / 4), oF A y (q % 4))
noncomputable def prQ (A : mm_M) (x y q : Nat) : List (Nat × Nat) := prq (fmA A x) (fmA A y) (sxb A) (oF A x) (oF A y) q
theorem prQ_t {A : mm_M} {x y q : Nat} (h : vq A x y q) : prQ A x y (q + 1) = prQ A x y q ++ [pq A x y q] := prq_t h
theorem prQ_f {A : mm_M} {x y q : Nat} (h : ¬ vq A x y q) : prQ A x y (q + 1) = prQ A x y q := prq_f h
theorem oF_at {A : mm_M} {x i : Nat} (h : i < fmA A x) : io A x (oF A x i) = true ∧ oF A x i < a_np A := ⟨(rkp_at h).1, (rkp_at h).2.2⟩
/-- the couples are the pairs -/
theorem zP_io {A : mm_M} (hi : iv A) {x y : Nat} (hx : x < a_nl A) (hy : y < a_nl A) (hxy : x = y + 1 ∨ y = x + 1) (a b : Nat) : zP A (nI x) (nI y) a b = (io A x a && (io A y b && sxb A a b)) := by
  have n6 := hi.1.nl
  rw [Bool.eq_iff_iff]
  simp only [Bool.and_eq_true]
  constructor
  · intro h
    obtain ⟨h1, h2, h3⟩ := zP_i h
    have m := z_may_i hi h3
    have f := may_free h3
    exact ⟨io_t m.1 h1 f.1, io_t m.2.1 h2 f.2, decide_eq_true m.2.2.1⟩
  · rintro ⟨h1, h2, h3⟩
    have h3 := of_decide_eq_true h3
    obtain ⟨a1, a2, a3⟩ := io_i h1
    obtain ⟨b1, b2, b3⟩ := io_i h2
    refine zP_t a2 b2 ?_
    have xE := zE_x hi
    have q0 : zE A 59 (4 * a) = z_w A a 0 := xE.2.2.2.2 a 0 a1 (by decide)
    have q1 : zE A 59 (4 * b) = z_w A b 0 := xE.2.2.2.2 b 0 b1 (by decide)
    have q2 : zE A 59 (4 * a + 1) = z_w A a 1 := xE.2.2.2.2 a 1 a1 (by decide)
    have q3 : zE A 59 (4 * b + 1) = z_w A b 1 := xE.2.2.2.2 b 1 b1 (by decide)
    have n12 := hi.1.np
    unfold z_may g_may g_next
    rw [a3, b3, q0, q1, q2, q3, a2, b2, xE.2.2.2.1, mm_ti (by omega)]
    simp only [Bool.and_eq_true, Bool.or_eq_true, decide_eq_true_eq]
    refine ⟨by omega, by omega, trivial, trivial, h3, ?_⟩
    rcases hxy with e | e
    · exact Or.inl (mm_ii (by rw [mm_sub (by rw [mm_ti (by omega), mm_ti (by omega)]; omega), mm_ti (by omega), mm_ti (by omega)]; simp only [Int32.reduceToInt]; omega))
    · exact Or.inr (mm_ii (by rw [mm_sub (by rw [mm_ti (by omega), mm_ti (by omega)]; omega), mm_ti (by omega), mm_ti (by omega), mm_t1]; omega))
theorem prQ_16 {A : mm_M} (hi : iv A) {x y : Nat} (hx : x < a_nl A) (hy : y < a_nl A) (hxy : x = y + 1 ∨ y = x + 1) (h1 : fmA A x ≤ 4) (h2 : fmA A y ≤ 4) : prQ A x y 16 = zTL A x y := by
  unfold prQ zTL
  rw [prq_16 h1 h2, call_r (f := io A x) (g := io A y) (ok := sxb A) (F := oF A x) (S := oF A y) (zP_io hi hx hy hxy) (fun a h => rkp_of h) (fun b h => rkp_of h)]
  rfl
def tkF (A : mm_M) (x y : Nat) (u : Int32) (U : Nat → Bool) : Prop := (∀ i, i < fmA A x → bq u i = U (oF A x i)) ∧ ∀ j, j < fmA A y → bq u (4 + j) = U (oF A y j)
theorem bq_16 : ∀ j : Nat, j < 4 → ∀ i : Nat, i < 32 → bq (16 <<< (nI j &&& 31)) i = decide (i = 4 + j) := by decide +kernel
theorem oF_ne {A : mm_M} (hi : iv A) {x y : Nat} (hx : x < a_nl A) (hy : y < a_nl A) (hxy : x = y + 1 ∨ y = x + 1) {i j : Nat} (h1 : i < fmA A x) (h2 : j < fmA A y) : oF A x i ≠ oF A y j := by
  intro e
  have n6 := hi.1.nl
  have a := (io_i (oF_at h1).1).2.1
  have b := (io_i (oF_at h2).1).2.1
  rw [e, b] at a
  have a := congrArg Int32.toInt a
  rw [mm_ti (by omega), mm_ti (by omega)] at a
  omega
theorem tkF_up {A : mm_M} (hi : iv A) {x y : Nat} (hx : x < a_nl A) (hy : y < a_nl A) (hxy : x = y + 1 ∨ y = x + 1) (f1 : fmA A x ≤ 4) (f2 : fmA A y ≤ 4) {u : Int32} {U : Nat → Bool} (h : tkF A x y u U) {i j : Nat} (h1 : i < fmA A x) (h2 : j < fmA A y) : tkF A x y ((u ||| 1 <<< (nI i &&& 31)) ||| 16 <<< (nI j &&& 31)) (uad U (oF A x i, oF A y j)) := by
  refine ⟨fun k hk => ?_, fun k hk => ?_⟩
  · rw [bq_or, bq_or, h.1 k hk, show (1 : Int32) <<< (nI i &&& 31) = sbt i from rfl, bq_sb i (by omega) k (by omega), bq_16 j (by omega) k (by omega)]
    have e1 : (oF A x k = oF A x i) ↔ k = i := ⟨fun e => rkp_inj hk h1 e, fun e => by rw [e]⟩
    have e2 : ¬ oF A x k = oF A y j := oF_ne hi hx hy hxy hk h2
    have e3 : ¬ k = 4 + j := by omega
    show (U (oF A x k) || decide (k = i) || decide (k = 4 + j)) = (U (oF A x k) || (decide (oF A x k = oF A x i) || decide (oF A x k = oF A y j)))
    rw [decide_eq_false e2, decide_eq_false e3, decide_eq_decide.mpr e1, Bool.or_false, Bool.or_false]
  · rw [bq_or, bq_or, h.2 k hk, show (1 : Int32) <<< (nI i &&& 31) = sbt i from rfl, bq_sb i (by omega) (4 + k) (by omega), bq_16 j (by omega) (4 + k) (by omega)]
    have e1 : (oF A y k = oF A y j) ↔ 4 + k = 4 + j := ⟨fun e => by rw [rkp_inj hk h2 e], fun e => by rw [show k = j by omega]⟩
    have e2 : ¬ oF A y k = oF A x i := fun e => oF_ne hi hx hy hxy h1 hk e.symm
    have e3 : ¬ 4 + k = i := by omega
    show (U (oF A y k) || decide (4 + k = i) || decide (4 + k = 4 + j)) = (U (oF A y k) || (decide (oF A y k = oF A x i) || decide (oF A y k = oF A y j)))
    rw [decide_eq_false e2, decide_eq_false e3, decide_eq_decide.mpr e1, Bool.or_false, Bool.false_or]
def rtt (A : mm_M) (x y : Nat) (X : mm_M) : Prop := r_x A X ∧ X 51 33 = nI (fmA A x) ∧ X 51 34 = nI (fmA A y) ∧ (∀ i, i < fmA A x → X 73 i = nI (oF A x i)) ∧ ∀ j, j < fmA A y → X 74 j = nI (oF A y j)
def frT (dp : Nat) (X Y : mm_M) : Prop := (∀ c, c ≠ 51 → c < 75 ∨ 79 < c → Y c = X c) ∧ (∀ f, f ≠ 40 → Y 51 f = X 51 f) ∧ ∀ c, 75 ≤ c → c ≤ 79 → ∀ i, i < dp → Y c i = X c i
theorem frT.rf {dp : Nat} {X : mm_M} : frT dp X X := ⟨fun _ _ _ => rfl, fun _ _ => rfl, fun _ _ _ _ _ => rfl⟩
theorem frT.tr {dp e : Nat} {X Y Z : mm_M} (h : frT dp X Y) (h2 : frT e Y Z) (q : dp ≤ e) : frT dp X Z := ⟨fun c a b => (h2.1 c a b).trans (h.1 c a b), fun f a => (h2.2.1 f a).trans (h.2.1 f a), fun c a b i hi => (h2.2.2 c a b i (by omega)).trans (h.2.2 c a b i hi)⟩
theorem frT.up {dp : Nat} {X Y : mm_M} (h : frT dp X Y) {c i : Nat} {v : Int32} (hc : 75 ≤ c ∧ c ≤ 79) (hi : dp ≤ i) : frT dp X (mm_up Y c i v) := by
  refine ⟨fun k a b => by rw [mm_upn _ _ _ (by omega)]; exact h.1 k a b, fun f a => by rw [mm_upn _ _ _ (by omega)]; exact h.2.1 f a, fun k a b j hj => ?_⟩
  by_cases q : k = c
  · subst q
    rw [mm_upc]
    simp only [upd, if_neg (show ¬ j = i by omega)]
    exact h.2.2 k a b j hj
  · rw [mm_upn _ _ _ q]; exact h.2.2 k a b j hj
theorem frT.u40 {dp : Nat} {X Y : mm_M} (h : frT dp X Y) {v : Int32} : frT dp X (mm_up Y 51 40 v) := by
  refine ⟨fun k a b => by rw [mm_upn _ _ _ a]; exact h.1 k a b, fun f a => by rw [mm_upc]; simp only [upd, if_neg a]; exact h.2.1 f a, fun k a b j hj => by rw [mm_upn _ _ _ (by omega)]; exact h.2.2 k a b j hj⟩
theorem rtt.of {A X Y : mm_M} {x y dp : Nat} (h : rtt A x y X) (k : frT dp X Y) : rtt A x y Y := by
  obtain ⟨h1, h2, h3, h4, h5⟩ := h
  refine ⟨h1.of ⟨fun c q => k.1 c (fun e => by rw [e] at q; exact absurd q (by decide)) ?_, k.2.1 4 (by decide), k.2.1 13 (by decide), k.2.1 29 (by decide)⟩ (k.1 58 (by decide) (by decide)) (k.1 59 (by decide) (by decide)) (k.2.1 8 (by decide)) (k.2.1 10 (by decide)), by rw [k.2.1 33 (by decide)]; exact h2, by rw [k.2.1 34 (by decide)]; exact h3, by rw [k.1 73 (by decide) (by decide)]; exact h4, by rw [k.1 74 (by decide) (by decide)]; exact h5⟩
  simp only [bs, Bool.or_eq_true, decide_eq_true_eq] at q
  omega

set_option maxHeartbeats 4000000 in
theorem w_X12_freeOf {l : Launch} {G : mm_G} {d : Nat} {M : mm_M} {Q : Int32 → mm_T → mm_M → Prop} {A : mm_M} (hi : iv A) (hx : r_x A M) (hw : e_w A M (zE A)) {v : Nat} (hv : T0[v]? = some (13, 4, [])) (hv2 : v = 73 ∨ v = 74) {j : Nat} (hj : j < a_nl A) (h : ∀ M1, (∀ c, c ≠ v → M1 c = M c) → (∀ p, io A j p = true → cnt (io A j) p < 4 → M1 v (cnt (io A j) p) = nI p) → Q (nI (cnt (io A j) (a_np A))) T0 M1) : ∀ (z p : Nat) (Mi : mm_M), a_np A - p ≤ z → p ≤ a_np A → (∀ c, c ≠ v → Mi c = M c) → (∀ q, q < p → io A j q = true → cnt (io A j) q < 4 → Mi v (cnt (io A j) q) = nI q) → mm_wp l G (d + 1) k_X12_freeOf (mm_pi Q) 5 [.ref 51, .int (nI j), .ref v, .int (nI (cnt (io A j) p)), .int (nI p)] [] T0 Mi 0 0 := by
  have n12 := hi.1.np
  have n6 := hi.1.nl
  have hni : (nI (a_np A)).toInt = a_np A := mm_ti (by omega)
  intro z
  induction z using Nat.strongRecOn with | _ z ih => ?_
  intro p Mi hze hpn ko hs
  have hpi : (nI p).toInt = p := mm_ti (by omega)
  have cp := cnt_le (f := io A j) p
  have xi : r_x A Mi := hx.of ⟨fun c q => ko c (fun e => by rw [e] at q; rcases hv2 with z | z <;> (rw [z] at q; exact absurd q (by decide))), by rw [ko 51 (by omega)], by rw [ko 51 (by omega)], by rw [ko 51 (by omega)]⟩ (ko 58 (by omega)) (ko 59 (by omega)) (by rw [ko 51 (by omega)]) (by rw [ko 51 (by omega)])
  have wi : e_w A Mi (zE A) := by
    unfold e_w at hw ⊢
    rw [ko 51 (by omega), ko 62 (by omega), ko 63 (by omega), ko 66 (by omega), ko 67 (by omega)]
    exact hw
  refine mm_iload_4 7 dX12_freeOf_5 rfl ?_
  refine mm_aload_0 8 dX12_freeOf_7 rfl ?_
  refine mm_getI 11 dX12_freeOf_8 f_X12_144 rfl t_51 rfl ?_
  rw [xi.2.2.2.1]
  refine mm_ic_ge 57 14 dX12_freeOf_11 (by decide) rfl (fun h1 => ?_) (fun h1 => ?_)
  · refine mm_iload_3 58 dX12_freeOf_57 rfl ?_
    refine mm_iret dX12_freeOf_58 rfl ⟨rfl, Nat.zero_le _⟩ ?_
    have hz : p = a_np A := by (try simp only [hpi, hni, Int32.lt_iff_toInt_lt, Int32.le_iff_toInt_le, ← Int32.toInt_inj, vp_in_iff, Int32.reduceToInt, mm_t1, mm_t2, mm_t3, mm_t4, mm_t10] at h1); omega
    rw [hz]
    rw [hz] at hs
    exact h Mi ko (fun q qio ql => hs q (io_i qio).1 qio ql)
  · have hlt : p < a_np A := by (try simp only [hpi, hni, Int32.lt_iff_toInt_lt, Int32.le_iff_toInt_le, ← Int32.toInt_inj, vp_in_iff, Int32.reduceToInt, mm_t1, mm_t2, mm_t3, mm_t4, mm_t10] at h1); omega
    have ep : Mi 59 (4 * p + 1) = z_w A p 1 := xi.2.2.2.2 p 1 hlt (by decide)
    refine mm_aload_0 15 dX12_freeOf_14 rfl ?_
    refine mm_getR 18 dX12_freeOf_15 f_X12_31 rfl t_51 rfl ?_
    refine mm_iconst 19 4 dX12_freeOf_18 rfl (by decide) ?_
    refine mm_iload_4 21 dX12_freeOf_19 rfl ?_
    refine mm_imul 22 dX12_freeOf_21 rfl ?_
    refine mm_iconst 23 1 dX12_freeOf_22 rfl (by decide) ?_
    refine mm_iadd 24 dX12_freeOf_23 rfl ?_
    refine mm_ialoadn 25 (4 * p + 1) dX12_freeOf_24 rfl t_59 (by decide) (by rw [mm_l4, pk_mul, mm_l1, nI_add]) (by omega) ?_
    refine mm_iload_1 26 dX12_freeOf_25 rfl ?_
    refine mm_ic_ne 51 29 dX12_freeOf_26 (by decide) rfl (fun h2 => ?_) (fun h2 => ?_)
    · refine mm_iinc_4 54 1 dX12_freeOf_51 rfl (by decide) rfl ?_
      refine mm_goto 5 dX12_freeOf_54 (by decide) ?_
      rw [nI_1]
      have no : ¬ io A j p = true := fun q => h2 (by rw [ep]; exact (io_i q).2.1)
      rw [← cnt_f no]
      refine ih (a_np A - (p + 1)) (by omega) (p + 1) Mi (Nat.le_refl _) (by omega) ko (fun q hq qio ql => ?_)
      by_cases z : q = p
      · rw [z] at qio; exact absurd qio no
      · exact hs q (by omega) qio ql
    · refine mm_aload_0 30 dX12_freeOf_29 rfl ?_
      refine mm_iload_4 32 dX12_freeOf_30 rfl ?_
      refine mm_cV1i 35 dX12_freeOf_32 v_X12_212 rfl t_51 (by decide) rfl rfl (Nat.le_of_ble_eq_true rfl) ⟨rfl, rfl⟩ ⟨Nat.zero_le _, Nat.zero_le _⟩ (c_X12_isFree rfl (by omega) (fun h3 => ?_) (fun h3 => ?_))
      · refine mm_if_eq 51 38 dX12_freeOf_35 (by decide) rfl (fun h => absurd h (by decide)) (fun _ => ?_)
        refine mm_iload_3 39 dX12_freeOf_38 rfl ?_
        refine mm_iconst 40 4 dX12_freeOf_39 rfl (by decide) ?_
        refine mm_ic_ge 48 43 dX12_freeOf_40 (by decide) rfl (fun h4 => ?_) (fun h4 => ?_)
        · refine mm_iinc_3 51 1 dX12_freeOf_48 rfl (by decide) rfl ?_
          refine mm_iinc_4 54 1 dX12_freeOf_51 rfl (by decide) rfl ?_
          refine mm_goto 5 dX12_freeOf_54 (by decide) ?_
          rw [nI_1, nI_1]
          have yes : io A j p = true := io_t hlt (by rw [← ep]; exact h2) (by rw [← gfz wi hlt]; exact h3)
          have c4 : 4 ≤ cnt (io A j) p := by rw [mm_le, mm_ti (by omega)] at h4; simp only [Int32.reduceToInt] at h4; omega
          rw [← cnt_t yes]
          refine ih (a_np A - (p + 1)) (by omega) (p + 1) Mi (Nat.le_refl _) (by omega) ko (fun q hq qio ql => ?_)
          by_cases z : q = p
          · rw [z] at ql; omega
          · exact hs q (by omega) qio ql
        · refine mm_aload_2 44 dX12_freeOf_43 rfl ?_
          refine mm_iload_3 45 dX12_freeOf_44 rfl ?_
          refine mm_iload_4 47 dX12_freeOf_45 rfl ?_
          refine mm_iastoren 48 (cnt (io A j) p) dX12_freeOf_47 rfl hv (by decide) (rfl) (by have q := h4; rw [mm_le, mm_ti (by omega)] at q; simp only [Int32.reduceToInt] at q; omega) ?_
          refine mm_iinc_3 51 1 dX12_freeOf_48 rfl (by decide) rfl ?_
          refine mm_iinc_4 54 1 dX12_freeOf_51 rfl (by decide) rfl ?_
          refine mm_goto 5 dX12_freeOf_54 (by decide) ?_
          rw [nI_1, nI_1]
          have yes : io A j p = true := io_t hlt (by rw [← ep]; exact h2) (by rw [← gfz wi hlt]; exact h3)
          rw [← cnt_t yes]
          refine ih (a_np A - (p + 1)) (by omega) (p + 1) _ (Nat.le_refl _) (by omega) (fun c q => by rw [mm_upn _ _ _ q]; exact ko c q) (fun q hq qio ql => ?_)
          rw [mm_upc]
          by_cases z : q = p
          · rw [z]; simp only [upd, if_true]
          · have := cnt_ltn qio (show q < p by omega)
            simp only [upd, if_neg (show ¬ cnt (io A j) q = cnt (io A j) p by omega)]
            exact hs q (by omega) qio ql
      · refine mm_if_eq 51 38 dX12_freeOf_35 (by decide) rfl (fun _ => ?_) (fun h => absurd h (by decide))
        refine mm_iinc_4 54 1 dX12_freeOf_51 rfl (by decide) rfl ?_
        refine mm_goto 5 dX12_freeOf_54 (by decide) ?_
        rw [nI_1]
        have no : ¬ io A j p = true := fun q => h3 (by rw [gfz wi hlt]; exact (io_i q).2.2)
        rw [← cnt_f no]
        refine ih (a_np A - (p + 1)) (by omega) (p + 1) Mi (Nat.le_refl _) (by omega) ko (fun q hq qio ql => ?_)
        by_cases z : q = p
        · rw [z] at qio; exact absurd qio no
        · exact hs q (by omega) qio ql

set_option maxHeartbeats 4000000 in
theorem c_X12_freeOf {l : Launch} {G : mm_G} {d : Nat} {M : mm_M} {Q : Int32 → mm_T → mm_M → Prop} {A : mm_M} (hi : iv A) (hx : r_x A M) (hw : e_w A M (zE A)) {v : Nat} (hv : T0[v]? = some (13, 4, [])) (hv2 : v = 73 ∨ v = 74) {j : Nat} (hj : j < a_nl A) {x : Int32} (hxj : x = nI j) (h : ∀ M1, (∀ c, c ≠ v → M1 c = M c) → (∀ p, io A j p = true → cnt (io A j) p < 4 → M1 v (cnt (io A j) p) = nI p) → Q (nI (cnt (io A j) (a_np A))) T0 M1) : mm_met l G (d + 1) k_X12_freeOf [.ref 51, .int x, .ref v] T0 M (mm_pi Q) := by
  subst hxj
  refine mm_enter 2 [.ref 51, .int (nI j), .ref v, .double 0, .double 0] o_X12_freeOf rfl rfl ?_
  refine mm_iconst 1 0 dX12_freeOf_0 rfl (by decide) ?_
  refine mm_istore_3 2 dX12_freeOf_1 rfl rfl ?_
  refine mm_iconst 3 0 dX12_freeOf_2 rfl (by decide) ?_
  refine mm_istore_4 5 dX12_freeOf_3 rfl rfl ?_
  exact w_X12_freeOf hi hx hw hv hv2 hj h (a_np A) 0 M (by omega) (by omega) (fun _ _ => rfl) (fun q hq _ _ => by omega)

set_option maxHeartbeats 4000000 in
theorem c_X12_mayPick {l : Launch} {G : mm_G} {d : Nat} {M : mm_M} {Q : Int32 → mm_T → mm_M → Prop} {A : mm_M} (hi : iv A) {x y : Nat} (hx : x < a_nl A) (hy : y < a_nl A) (hxy : x = y + 1 ∨ y = x + 1) (f1 : fmA A x ≤ 4) (f2 : fmA A y ≤ 4) (ht : rtt A x y M) {dp q : Nat} (hdp : dp < 6) (hq : q < 16) {U : Nat → Bool} (hu : tkF A x y (M 78 dp) U) {xi yi : Int32} (ex : xi = nI dp) (ey : yi = nI q) (kT : vq A x y q → fre2 U (pq A x y q) = true → Q 1 T0 M) (kF : ¬ (vq A x y q ∧ fre2 U (pq A x y q) = true) → Q 0 T0 M) : mm_met l G d k_X12_mayPick [.ref 51, .int xi, .int yi] T0 M (mm_pi Q) := by
  subst ex
  subst ey
  have n12 := hi.1.np
  have qd : nI q / 4 = nI (q / 4) := mm_div 4 rfl (by omega) mm_l4 (by decide) (by decide)
  have qm : nI q - nI q / 4 * 4 = nI (q % 4) := mm_rem 4 rfl (by omega) mm_l4 (by decide) (by decide)
  refine mm_enter 3 [.ref 51, .int (nI dp), .int (nI q), .double 0, .double 0, .double 0] o_X12_mayPick rfl rfl ?_
  refine mm_iload_2 1 dX12_mayPick_0 rfl ?_
  refine mm_iconst 2 4 dX12_mayPick_1 rfl (by decide) ?_
  refine mm_idiv 3 dX12_mayPick_2 rfl (by decide) ?_
  rw [qd]
  refine mm_istore_3 4 dX12_mayPick_3 rfl rfl ?_
  refine mm_iload_2 5 dX12_mayPick_4 rfl ?_
  refine mm_iconst 6 4 dX12_mayPick_5 rfl (by decide) ?_
  refine mm_irem 7 dX12_mayPick_6 rfl (by decide) ?_
  rw [qm]
  refine mm_istore_4 9 dX12_mayPick_7 rfl rfl ?_
  refine mm_iload_3 10 dX12_mayPick_9 rfl ?_
  refine mm_aload_0 11 dX12_mayPick_10 rfl ?_
  refine mm_getI 14 dX12_mayPick_11 f_X12_315 rfl t_51 rfl ?_
  refine mm_ic_ge 59 17 dX12_mayPick_14 (by decide) rfl (fun h1 => ?_) (fun h1 => ?_)
  · refine mm_iconst 60 0 dX12_mayPick_59 rfl (by decide) ?_
    refine mm_istore_5 62 dX12_mayPick_60 rfl rfl ?_
    refine mm_iload_5 64 dX12_mayPick_62 rfl ?_
    refine mm_if_eq 101 67 dX12_mayPick_64 (by decide) rfl (fun _ => ?_) (fun h => absurd h (by decide))
    refine mm_iconst 102 0 dX12_mayPick_101 rfl (by decide) ?_
    refine mm_zret dX12_mayPick_102 rfl ⟨rfl, Nat.zero_le _⟩ (Or.inl rfl) ?_
    refine kF (fun z => ?_)
    have z := z.1.1
    have k := h1
    rw [mm_le, ht.2.1, mm_ti (by omega), mm_ti (by omega)] at k
    omega
  · refine mm_iload_4 19 dX12_mayPick_17 rfl ?_
    refine mm_aload_0 20 dX12_mayPick_19 rfl ?_
    refine mm_getI 23 dX12_mayPick_20 f_X12_318 rfl t_51 rfl ?_
    refine mm_ic_ge 59 26 dX12_mayPick_23 (by decide) rfl (fun h2 => ?_) (fun h2 => ?_)
    · refine mm_iconst 60 0 dX12_mayPick_59 rfl (by decide) ?_
      refine mm_istore_5 62 dX12_mayPick_60 rfl rfl ?_
      refine mm_iload_5 64 dX12_mayPick_62 rfl ?_
      refine mm_if_eq 101 67 dX12_mayPick_64 (by decide) rfl (fun _ => ?_) (fun h => absurd h (by decide))
      refine mm_iconst 102 0 dX12_mayPick_101 rfl (by decide) ?_
      refine mm_zret dX12_mayPick_102 rfl ⟨rfl, Nat.zero_le _⟩ (Or.inl rfl) ?_
      refine kF (fun z => ?_)
      have z := z.1.2.1
      have k := h2
      rw [mm_le, ht.2.2.1, mm_ti (by omega), mm_ti (by omega)] at k
      omega
    · have pa : q / 4 < fmA A x := by have k := h1; rw [mm_le, ht.2.1, mm_ti (by omega), mm_ti (by omega)] at k; omega
      have pb : q % 4 < fmA A y := by have k := h2; rw [mm_le, ht.2.2.1, mm_ti (by omega), mm_ti (by omega)] at k; omega
      have p1 := (oF_at pa).2
      have p2 := (oF_at pb).2
      have e1 := ht.2.2.2.1 _ pa
      have e2 := ht.2.2.2.2 _ pb
      refine mm_aload_0 27 dX12_mayPick_26 rfl ?_
      refine mm_getR 30 dX12_mayPick_27 f_X12_89 rfl t_51 rfl ?_
      refine mm_iload_1 31 dX12_mayPick_30 rfl ?_
      refine mm_ialoadn 32 (dp) dX12_mayPick_31 rfl t_78 (by decide) (rfl) (by omega) ?_
      refine mm_iload_3 33 dX12_mayPick_32 rfl ?_
      refine mm_ishr 34 dX12_mayPick_33 rfl ?_
      refine mm_iconst 35 1 dX12_mayPick_34 rfl (by decide) ?_
      refine mm_iand 36 dX12_mayPick_35 rfl ?_
      refine mm_if_ne 59 39 dX12_mayPick_36 (by decide) rfl (fun h3 => ?_) (fun h3 => ?_)
      · refine mm_iconst 60 0 dX12_mayPick_59 rfl (by decide) ?_
        refine mm_istore_5 62 dX12_mayPick_60 rfl rfl ?_
        refine mm_iload_5 64 dX12_mayPick_62 rfl ?_
        refine mm_if_eq 101 67 dX12_mayPick_64 (by decide) rfl (fun _ => ?_) (fun h => absurd h (by decide))
        refine mm_iconst 102 0 dX12_mayPick_101 rfl (by decide) ?_
        refine mm_zret dX12_mayPick_102 rfl ⟨rfl, Nat.zero_le _⟩ (Or.inl rfl) ?_
        refine kF (fun z => h3 ((bq_shr (by omega)).mpr ?_))
        have z : (!U (oF A x (q / 4)) && !U (oF A y (q % 4))) = true := z.2
        rw [hu.1 _ pa]
        simp only [Bool.and_eq_true, Bool.not_eq_true'] at z
        exact z.1
      · refine mm_aload_0 40 dX12_mayPick_39 rfl ?_
        refine mm_getR 43 dX12_mayPick_40 f_X12_89 rfl t_51 rfl ?_
        refine mm_iload_1 44 dX12_mayPick_43 rfl ?_
        refine mm_ialoadn 45 (dp) dX12_mayPick_44 rfl t_78 (by decide) (rfl) (by omega) ?_
        refine mm_iconst 46 4 dX12_mayPick_45 rfl (by decide) ?_
        refine mm_iload_4 48 dX12_mayPick_46 rfl ?_
        refine mm_iadd 49 dX12_mayPick_48 rfl ?_
        refine mm_ishr 50 dX12_mayPick_49 rfl ?_
        refine mm_iconst 51 1 dX12_mayPick_50 rfl (by decide) ?_
        refine mm_iand 52 dX12_mayPick_51 rfl ?_
        refine mm_if_ne 59 55 dX12_mayPick_52 (by decide) rfl (fun h4 => ?_) (fun h4 => ?_)
        · refine mm_iconst 60 0 dX12_mayPick_59 rfl (by decide) ?_
          refine mm_istore_5 62 dX12_mayPick_60 rfl rfl ?_
          refine mm_iload_5 64 dX12_mayPick_62 rfl ?_
          refine mm_if_eq 101 67 dX12_mayPick_64 (by decide) rfl (fun _ => ?_) (fun h => absurd h (by decide))
          refine mm_iconst 102 0 dX12_mayPick_101 rfl (by decide) ?_
          refine mm_zret dX12_mayPick_102 rfl ⟨rfl, Nat.zero_le _⟩ (Or.inl rfl) ?_
          refine kF (fun z => h4 ?_)
          rw [show (4 : Int32) + nI (q % 4) = nI (4 + q % 4) from by rw [mm_l4, nI_add]]
          refine (bq_shr (by omega)).mpr ?_
          have z : (!U (oF A x (q / 4)) && !U (oF A y (q % 4))) = true := z.2
          rw [hu.2 _ pb]
          simp only [Bool.and_eq_true, Bool.not_eq_true'] at z
          exact z.2
        · refine mm_iconst 56 1 dX12_mayPick_55 rfl (by decide) ?_
          refine mm_goto 60 dX12_mayPick_56 (by decide) ?_
          refine mm_istore_5 62 dX12_mayPick_60 rfl rfl ?_
          refine mm_iload_5 64 dX12_mayPick_62 rfl ?_
          refine mm_if_eq 101 67 dX12_mayPick_64 (by decide) rfl (fun h => absurd h (by decide)) (fun _ => ?_)
          have u1 : bq (M 78 dp) (q / 4) = false := (bq_shr (by omega)).mp h3
          have u2 : bq (M 78 dp) (4 + q % 4) = false := (bq_shr (by omega)).mp (by have k := h4; rw [show (4 : Int32) + nI (q % 4) = nI (4 + q % 4) from by rw [mm_l4, nI_add]] at k; exact k)
          have w1 : M 59 (4 * oF A x (q / 4)) = z_w A (oF A x (q / 4)) 0 := ht.1.2.2.2.2 _ 0 p1 (by decide)
          have w2 : M 59 (4 * oF A y (q % 4)) = z_w A (oF A y (q % 4)) 0 := ht.1.2.2.2.2 _ 0 p2 (by decide)
          refine mm_aload_0 68 dX12_mayPick_67 rfl ?_
          refine mm_getR 71 dX12_mayPick_68 f_X12_31 rfl t_51 rfl ?_
          refine mm_iconst 72 4 dX12_mayPick_71 rfl (by decide) ?_
          refine mm_aload_0 73 dX12_mayPick_72 rfl ?_
          refine mm_getR 76 dX12_mayPick_73 f_X12_73 rfl t_51 rfl ?_
          refine mm_iload_3 77 dX12_mayPick_76 rfl ?_
          refine mm_ialoadn 78 (q / 4) dX12_mayPick_77 rfl t_73 (by decide) (rfl) (by omega) ?_
          refine mm_imul 79 dX12_mayPick_78 rfl ?_
          refine mm_ialoadn 80 (4 * oF A x (q / 4)) dX12_mayPick_79 rfl t_59 (by decide) (by rw [e1, mm_l4, pk_mul]) (by omega) ?_
          refine mm_aload_0 81 dX12_mayPick_80 rfl ?_
          refine mm_getR 84 dX12_mayPick_81 f_X12_31 rfl t_51 rfl ?_
          refine mm_iconst 85 4 dX12_mayPick_84 rfl (by decide) ?_
          refine mm_aload_0 86 dX12_mayPick_85 rfl ?_
          refine mm_getR 89 dX12_mayPick_86 f_X12_76 rfl t_51 rfl ?_
          refine mm_iload_4 91 dX12_mayPick_89 rfl ?_
          refine mm_ialoadn 92 (q % 4) dX12_mayPick_91 rfl t_74 (by decide) (rfl) (by omega) ?_
          refine mm_imul 93 dX12_mayPick_92 rfl ?_
          refine mm_ialoadn 94 (4 * oF A y (q % 4)) dX12_mayPick_93 rfl t_59 (by decide) (by rw [e2, mm_l4, pk_mul]) (by omega) ?_
          refine mm_ic_eq 101 97 dX12_mayPick_94 (by decide) rfl (fun h5 => ?_) (fun h5 => ?_)
          · refine mm_iconst 102 0 dX12_mayPick_101 rfl (by decide) ?_
            refine mm_zret dX12_mayPick_102 rfl ⟨rfl, Nat.zero_le _⟩ (Or.inl rfl) ?_
            refine kF (fun z => ?_)
            have z := of_decide_eq_true z.1.2.2
            exact z (by rw [← w1, ← w2]; exact h5)
          · refine mm_iconst 98 1 dX12_mayPick_97 rfl (by decide) ?_
            refine mm_goto 102 dX12_mayPick_98 (by decide) ?_
            refine mm_zret dX12_mayPick_102 rfl ⟨rfl, Nat.zero_le _⟩ (Or.inr rfl) ?_
            refine kT ⟨pa, pb, decide_eq_true (fun z => h5 (by rw [w1, w2]; exact z))⟩ ?_
            show (!U (oF A x (q / 4)) && !U (oF A y (q % 4))) = true
            rw [← hu.1 _ pa, ← hu.2 _ pb, u1, u2]
            rfl

set_option maxHeartbeats 4000000 in
theorem c_X12_widthBehind {l : Launch} {G : mm_G} {d : Nat} {M : mm_M} {Q : Int32 → mm_T → mm_M → Prop} {A : mm_M} (hi : iv A) {x y : Nat} (hx : x < a_nl A) (hy : y < a_nl A) (hxy : x = y + 1 ∨ y = x + 1) (f1 : fmA A x ≤ 4) (f2 : fmA A y ≤ 4) (ht : rtt A x y M) {q : Nat} (hq : q < 16) (hvq : vq A x y q) {w al yi : Int32} (hw : 0 ≤ w.toInt ∧ w.toInt ≤ al.toInt) (hal : al.toInt ≤ 20000) (ey : yi = nI q) (h : ∀ r : Int32, r.toInt = clp al.toInt (w.toInt + zg A (oF A x (q / 4)) (oF A y (q % 4))) → Q r T0 M) : mm_met l G (d + 2) k_X12_widthBehind [.ref 51, .int w, .int al, .int yi] T0 M (mm_pi Q) := by
  subst ey
  have n12 := hi.1.np
  have qd : nI q / 4 = nI (q / 4) := mm_div 4 rfl (by omega) mm_l4 (by decide) (by decide)
  have qm : nI q - nI q / 4 * 4 = nI (q % 4) := mm_rem 4 rfl (by omega) mm_l4 (by decide) (by decide)
  have pa := hvq.1
  have pb := hvq.2.1
  have p1 := (oF_at pa).2
  have p2 := (oF_at pb).2
  have e1 := ht.2.2.2.1 _ pa
  have e2 := ht.2.2.2.2 _ pb
  have gB : -126 ≤ (zgi A (oF A x (q / 4)) (oF A y (q % 4))).toInt ∧ (zgi A (oF A x (q / 4)) (oF A y (q % 4))).toInt ≤ 126 := zg_b hi p1 p2
  refine mm_enter 2 [.ref 51, .int w, .int al, .int (nI q), .double 0, .double 0] o_X12_widthBehind rfl rfl ?_
  refine mm_aload_0 1 dX12_widthBehind_0 rfl ?_
  refine mm_aload_0 2 dX12_widthBehind_1 rfl ?_
  refine mm_getR 5 dX12_widthBehind_2 f_X12_73 rfl t_51 rfl ?_
  refine mm_iload_3 6 dX12_widthBehind_5 rfl ?_
  refine mm_iconst 7 4 dX12_widthBehind_6 rfl (by decide) ?_
  refine mm_idiv 8 dX12_widthBehind_7 rfl (by decide) ?_
  rw [qd]
  refine mm_ialoadn 9 (q / 4) dX12_widthBehind_8 rfl t_73 (by decide) (rfl) (by omega) ?_
  refine mm_aload_0 10 dX12_widthBehind_9 rfl ?_
  refine mm_getR 13 dX12_widthBehind_10 f_X12_76 rfl t_51 rfl ?_
  refine mm_iload_3 14 dX12_widthBehind_13 rfl ?_
  refine mm_iconst 15 4 dX12_widthBehind_14 rfl (by decide) ?_
  refine mm_irem 16 dX12_widthBehind_15 rfl (by decide) ?_
  rw [qm]
  refine mm_ialoadn 17 (q % 4) dX12_widthBehind_16 rfl t_74 (by decide) (rfl) (by omega) ?_
  refine mm_cV2i 20 dX12_widthBehind_17 v_X12_267 rfl t_51 (by decide) rfl rfl (Nat.le_of_ble_eq_true rfl) ⟨rfl, rfl⟩ ⟨Nat.zero_le _, Nat.zero_le _⟩ (c_X12_gain hi ht.1 e1 p1 e2 p2 (fun r1 e1 => ?_))
  refine mm_istore_4 22 dX12_widthBehind_20 rfl rfl ?_
  refine mm_iload_1 23 dX12_widthBehind_22 rfl ?_
  refine mm_iload_4 25 dX12_widthBehind_23 rfl ?_
  refine mm_iadd 26 dX12_widthBehind_25 rfl ?_
  refine mm_istore_5 28 dX12_widthBehind_26 rfl rfl ?_
  refine mm_iload_5 30 dX12_widthBehind_28 rfl ?_
  refine mm_if_ge 37 33 dX12_widthBehind_30 (by decide) rfl (fun h2 => ?_) (fun h2 => ?_)
  · refine mm_iload_5 39 dX12_widthBehind_37 rfl ?_
    refine mm_iload_2 40 dX12_widthBehind_39 rfl ?_
    refine mm_ic_le 47 43 dX12_widthBehind_40 (by decide) rfl (fun h3 => ?_) (fun h3 => ?_)
    · refine mm_iload_5 49 dX12_widthBehind_47 rfl ?_
      refine mm_iret dX12_widthBehind_49 rfl ⟨rfl, Nat.zero_le _⟩ ?_
      refine h _ ?_
      unfold clp
      have sa := mm_add (a := w) (b := (zgi A (oF A x (q / 4)) (oF A y (q % 4)))) (by omega)
      have k1 := h2
      rw [e1, mm_le, sa] at k1
      simp only [Int32.reduceToInt] at k1
      have k2 := h3
      rw [e1, mm_le, sa] at k2
      rw [if_neg (by show ¬ _ < (0 : Int); unfold zg; omega), if_neg (by unfold zg; omega), e1, sa]
      rfl
    · refine mm_iload_2 44 dX12_widthBehind_43 rfl ?_
      refine mm_goto 49 dX12_widthBehind_44 (by decide) ?_
      refine mm_iret dX12_widthBehind_49 rfl ⟨rfl, Nat.zero_le _⟩ ?_
      refine h _ ?_
      unfold clp
      have sa := mm_add (a := w) (b := (zgi A (oF A x (q / 4)) (oF A y (q % 4)))) (by omega)
      have k1 := h2
      rw [e1, mm_le, sa] at k1
      simp only [Int32.reduceToInt] at k1
      have k2 := h3
      rw [e1, mm_le, sa] at k2
      rw [if_neg (by show ¬ _ < (0 : Int); unfold zg; omega), if_pos (by unfold zg; omega)]
  · refine mm_iconst 34 0 dX12_widthBehind_33 rfl (by decide) ?_
    refine mm_goto 49 dX12_widthBehind_34 (by decide) ?_
    refine mm_iret dX12_widthBehind_49 rfl ⟨rfl, Nat.zero_le _⟩ ?_
    refine h _ ?_
    unfold clp
    have sa := mm_add (a := w) (b := (zgi A (oF A x (q / 4)) (oF A y (q % 4)))) (by omega)
    have k1 := h2
    rw [e1, mm_le, sa] at k1
    simp only [Int32.reduceToInt] at k1
    rw [if_pos (by show _ < (0 : Int); unfold zg; omega)]
    rfl

def ent (M : mm_M) (k : Nat) (t w : Int32) : mm_M := mm_up (mm_up (mm_up (mm_up M 75 k 0) 77 k 0) 78 k t) 79 k w

set_option maxHeartbeats 4000000 in
theorem c_X12_enters {l : Launch} {G : mm_G} {d : Nat} {M : mm_M} {Q : mm_T → mm_M → Prop} {k : Nat} (hk : k < 6) {xi t w : Int32} (ex : xi = nI k) (h : Q T0 (ent M k t w)) : mm_met l G d k_X12_enters [.ref 51, .int xi, .int t, .int w] T0 M (mm_pv Q) := by
  subst ex
  refine mm_enter 0 [.ref 51, .int (nI k), .int t, .int w] o_X12_enters rfl rfl ?_
  refine mm_aload_0 1 dX12_enters_0 rfl ?_
  refine mm_getR 4 dX12_enters_1 f_X12_79 rfl t_51 rfl ?_
  refine mm_iload_1 5 dX12_enters_4 rfl ?_
  refine mm_iconst 6 0 dX12_enters_5 rfl (by decide) ?_
  refine mm_iastoren 7 (k) dX12_enters_6 rfl t_75 (by decide) (rfl) (by omega) ?_
  refine mm_aload_0 8 dX12_enters_7 rfl ?_
  refine mm_getR 11 dX12_enters_8 f_X12_85 rfl t_51 rfl ?_
  refine mm_iload_1 12 dX12_enters_11 rfl ?_
  refine mm_iconst 13 0 dX12_enters_12 rfl (by decide) ?_
  refine mm_bastoren 14 (k) dX12_enters_13 rfl t_77 (by decide) (rfl) (by omega) rfl ?_
  refine mm_aload_0 15 dX12_enters_14 rfl ?_
  refine mm_getR 18 dX12_enters_15 f_X12_89 rfl t_51 rfl ?_
  refine mm_iload_1 19 dX12_enters_18 rfl ?_
  refine mm_iload_2 20 dX12_enters_19 rfl ?_
  refine mm_iastoren 21 (k) dX12_enters_20 rfl t_78 (by decide) (rfl) (by omega) ?_
  refine mm_aload_0 22 dX12_enters_21 rfl ?_
  refine mm_getR 25 dX12_enters_22 f_X12_92 rfl t_51 rfl ?_
  refine mm_iload_1 26 dX12_enters_25 rfl ?_
  refine mm_iload_3 27 dX12_enters_26 rfl ?_
  refine mm_iastoren 28 (k) dX12_enters_27 rfl t_79 (by decide) (rfl) (by omega) ?_
  refine mm_vret dX12_enters_28 rfl ⟨rfl, Nat.zero_le _⟩ ?_
  exact h

set_option maxHeartbeats 4000000 in
theorem c_X12_keeps {l : Launch} {G : mm_G} {d : Nat} {M : mm_M} {Q : mm_T → mm_M → Prop} {A : mm_M} (hi : iv A) {x y : Nat} (hx : x < a_nl A) (hy : y < a_nl A) (hxy : x = y + 1 ∨ y = x + 1) (f1 : fmA A x ≤ 4) (f2 : fmA A y ≤ 4) (ht : rtt A x y M) {dp q : Nat} (hdp : dp < 6) (hq : q < 16) (hvq : vq A x y q) (hn : dp = 0 → M 75 0 = nI q) {xi v : Int32} (ex : xi = nI dp) (kT : (M 77 dp = 0 ∨ (dp % 2 = 0 ∧ (M 76 dp).toInt < v.toInt) ∨ (¬ dp % 2 = 0 ∧ v.toInt < (M 76 dp).toInt)) → ∀ fp : Int32, fp = fp → (dp = 0 → fp = nI (12 * (pq A x y q).1 + (pq A x y q).2)) → (dp ≠ 0 → fp = M 51 40) → Q T0 (mm_up (mm_up (mm_up M 76 dp v) 77 dp 1) 51 40 fp)) (kF : ¬ (M 77 dp = 0 ∨ (dp % 2 = 0 ∧ (M 76 dp).toInt < v.toInt) ∨ (¬ dp % 2 = 0 ∧ v.toInt < (M 76 dp).toInt)) → Q T0 M) : mm_met l G d k_X12_keeps [.ref 51, .int xi, .int v] T0 M (mm_pv Q) := by
  subst ex
  have n12 := hi.1.np
  have qd : nI q / 4 = nI (q / 4) := mm_div 4 rfl (by omega) mm_l4 (by decide) (by decide)
  have qm : nI q - nI q / 4 * 4 = nI (q % 4) := mm_rem 4 rfl (by omega) mm_l4 (by decide) (by decide)
  have pa := hvq.1
  have pb := hvq.2.1
  have p1 := (oF_at pa).2
  have p2 := (oF_at pb).2
  have e1 := ht.2.2.2.1 _ pa
  have e2 := ht.2.2.2.2 _ pb
  have pm : nI dp - nI dp / 2 * 2 = nI (dp % 2) := mm_rem 2 rfl (by omega) mm_l2 (by decide) (by decide)
  refine mm_enter 1 [.ref 51, .int (nI dp), .int v, .double 0] o_X12_keeps rfl rfl ?_
  refine mm_aload_0 1 dX12_keeps_0 rfl ?_
  refine mm_getR 4 dX12_keeps_1 f_X12_85 rfl t_51 rfl ?_
  refine mm_iload_1 5 dX12_keeps_4 rfl ?_
  refine mm_baloadn 6 (dp) dX12_keeps_5 rfl t_77 (by decide) (rfl) (by omega) ?_
  refine mm_if_eq 38 9 dX12_keeps_6 (by decide) rfl (fun h1 => ?_) (fun h1 => ?_)
  · refine mm_iconst 39 1 dX12_keeps_38 rfl (by decide) ?_
    refine mm_goto 43 dX12_keeps_39 (by decide) ?_
    refine mm_istore_3 44 dX12_keeps_43 rfl rfl ?_
    refine mm_iload_3 45 dX12_keeps_44 rfl ?_
    refine mm_if_eq 107 48 dX12_keeps_45 (by decide) rfl (fun h => absurd h (by decide)) (fun _ => ?_)
    refine mm_aload_0 49 dX12_keeps_48 rfl ?_
    refine mm_getR 52 dX12_keeps_49 f_X12_82 rfl t_51 rfl ?_
    refine mm_iload_1 53 dX12_keeps_52 rfl ?_
    refine mm_iload_2 54 dX12_keeps_53 rfl ?_
    refine mm_iastoren 55 (dp) dX12_keeps_54 rfl t_76 (by decide) (rfl) (by omega) ?_
    refine mm_aload_0 56 dX12_keeps_55 rfl ?_
    refine mm_getR 59 dX12_keeps_56 f_X12_85 rfl t_51 rfl ?_
    refine mm_iload_1 60 dX12_keeps_59 rfl ?_
    refine mm_iconst 61 1 dX12_keeps_60 rfl (by decide) ?_
    refine mm_bastoren 62 (dp) dX12_keeps_61 rfl t_77 (by decide) (rfl) (by omega) rfl ?_
    refine mm_aload_0 63 dX12_keeps_62 rfl ?_
    refine mm_iload_1 64 dX12_keeps_63 rfl ?_
    refine mm_if_ne 100 67 dX12_keeps_64 (by decide) rfl (fun h2 => ?_) (fun h2 => ?_)
    · refine mm_aload_0 101 dX12_keeps_100 rfl ?_
      refine mm_getI 104 dX12_keeps_101 f_X12_325 rfl t_51 rfl ?_
      refine mm_putI 107 dX12_keeps_104 p_X12_325 ⟨rfl, rfl⟩ rfl t_51 rfl ?_
      refine mm_vret dX12_keeps_107 rfl ⟨rfl, Nat.zero_le _⟩ ?_
      refine kT (Or.inl h1) _ rfl (fun z => absurd (by rw [z]; rfl) h2) (fun _ => ?_)
      rw [mm_upn _ _ _ (show (51 : Nat) ≠ 77 by decide), mm_upn _ _ _ (show (51 : Nat) ≠ 76 by decide)]
    · refine mm_bipush 69 12 dX12_keeps_67 rfl (by decide) ?_
      refine mm_aload_0 70 dX12_keeps_69 rfl ?_
      refine mm_getR 73 dX12_keeps_70 f_X12_73 rfl t_51 rfl ?_
      refine mm_aload_0 74 dX12_keeps_73 rfl ?_
      refine mm_getR 77 dX12_keeps_74 f_X12_79 rfl t_51 rfl ?_
      refine mm_iconst 78 0 dX12_keeps_77 rfl (by decide) ?_
      refine mm_ialoadn 79 (0) dX12_keeps_78 rfl t_75 (by decide) (rfl) (by decide) ?_
      refine mm_iconst 80 4 dX12_keeps_79 rfl (by decide) ?_
      refine mm_idiv 81 dX12_keeps_80 rfl (by decide) ?_
      refine mm_ialoadn 82 (q / 4) dX12_keeps_81 rfl t_73 (by decide) (by rw [mm_upn _ _ _ (show (75 : Nat) ≠ 77 by decide), mm_upn _ _ _ (show (75 : Nat) ≠ 76 by decide), hn (by have k := congrArg Int32.toInt h2; rw [mm_ti (by omega)] at k; simp only [Int32.reduceToInt] at k; omega)]; exact qd) (by omega) ?_
      refine mm_imul 83 dX12_keeps_82 rfl ?_
      refine mm_aload_0 84 dX12_keeps_83 rfl ?_
      refine mm_getR 87 dX12_keeps_84 f_X12_76 rfl t_51 rfl ?_
      refine mm_aload_0 88 dX12_keeps_87 rfl ?_
      refine mm_getR 91 dX12_keeps_88 f_X12_79 rfl t_51 rfl ?_
      refine mm_iconst 92 0 dX12_keeps_91 rfl (by decide) ?_
      refine mm_ialoadn 93 (0) dX12_keeps_92 rfl t_75 (by decide) (rfl) (by decide) ?_
      refine mm_iconst 94 4 dX12_keeps_93 rfl (by decide) ?_
      refine mm_irem 95 dX12_keeps_94 rfl (by decide) ?_
      refine mm_ialoadn 96 (q % 4) dX12_keeps_95 rfl t_74 (by decide) (by rw [mm_upn _ _ _ (show (75 : Nat) ≠ 77 by decide), mm_upn _ _ _ (show (75 : Nat) ≠ 76 by decide), hn (by have k := congrArg Int32.toInt h2; rw [mm_ti (by omega)] at k; simp only [Int32.reduceToInt] at k; omega)]; exact qm) (by omega) ?_
      refine mm_iadd 97 dX12_keeps_96 rfl ?_
      refine mm_goto 104 dX12_keeps_97 (by decide) ?_
      refine mm_putI 107 dX12_keeps_104 p_X12_325 ⟨rfl, rfl⟩ rfl t_51 rfl ?_
      refine mm_vret dX12_keeps_107 rfl ⟨rfl, Nat.zero_le _⟩ ?_
      have d0 : dp = 0 := by have k := congrArg Int32.toInt h2; rw [mm_ti (by omega)] at k; simp only [Int32.reduceToInt] at k; omega
      refine kT (Or.inl h1) _ rfl (fun _ => ?_) (fun z => absurd d0 z)
      rw [mm_upn _ _ _ (show (73 : Nat) ≠ 77 by decide), mm_upn _ _ _ (show (73 : Nat) ≠ 76 by decide), mm_upn _ _ _ (show (74 : Nat) ≠ 77 by decide), mm_upn _ _ _ (show (74 : Nat) ≠ 76 by decide), e1, e2, mm_l12, pk_mul, nI_add]
      rfl
  · refine mm_iload_1 10 dX12_keeps_9 rfl ?_
    refine mm_iconst 11 2 dX12_keeps_10 rfl (by decide) ?_
    refine mm_irem 12 dX12_keeps_11 rfl (by decide) ?_
    refine mm_if_ne 28 15 dX12_keeps_12 (by decide) rfl (fun h3 => ?_) (fun h3 => ?_)
    · refine mm_iload_2 29 dX12_keeps_28 rfl ?_
      refine mm_aload_0 30 dX12_keeps_29 rfl ?_
      refine mm_getR 33 dX12_keeps_30 f_X12_82 rfl t_51 rfl ?_
      refine mm_iload_1 34 dX12_keeps_33 rfl ?_
      refine mm_ialoadn 35 (dp) dX12_keeps_34 rfl t_76 (by decide) (rfl) (by omega) ?_
      refine mm_ic_ge 42 38 dX12_keeps_35 (by decide) rfl (fun h4 => ?_) (fun h4 => ?_)
      · refine mm_iconst 43 0 dX12_keeps_42 rfl (by decide) ?_
        refine mm_istore_3 44 dX12_keeps_43 rfl rfl ?_
        refine mm_iload_3 45 dX12_keeps_44 rfl ?_
        refine mm_if_eq 107 48 dX12_keeps_45 (by decide) rfl (fun _ => ?_) (fun h => absurd h (by decide))
        refine mm_vret dX12_keeps_107 rfl ⟨rfl, Nat.zero_le _⟩ ?_
        refine kF (fun z => ?_)
        rcases z with z | z | z
        · exact h1 z
        · exact absurd z.1 (by intro z0; apply h3; rw [pm, z0]; rfl)
        · have k := h4; rw [mm_le] at k; omega
      · refine mm_iconst 39 1 dX12_keeps_38 rfl (by decide) ?_
        refine mm_goto 43 dX12_keeps_39 (by decide) ?_
        refine mm_istore_3 44 dX12_keeps_43 rfl rfl ?_
        refine mm_iload_3 45 dX12_keeps_44 rfl ?_
        refine mm_if_eq 107 48 dX12_keeps_45 (by decide) rfl (fun h => absurd h (by decide)) (fun _ => ?_)
        refine mm_aload_0 49 dX12_keeps_48 rfl ?_
        refine mm_getR 52 dX12_keeps_49 f_X12_82 rfl t_51 rfl ?_
        refine mm_iload_1 53 dX12_keeps_52 rfl ?_
        refine mm_iload_2 54 dX12_keeps_53 rfl ?_
        refine mm_iastoren 55 (dp) dX12_keeps_54 rfl t_76 (by decide) (rfl) (by omega) ?_
        refine mm_aload_0 56 dX12_keeps_55 rfl ?_
        refine mm_getR 59 dX12_keeps_56 f_X12_85 rfl t_51 rfl ?_
        refine mm_iload_1 60 dX12_keeps_59 rfl ?_
        refine mm_iconst 61 1 dX12_keeps_60 rfl (by decide) ?_
        refine mm_bastoren 62 (dp) dX12_keeps_61 rfl t_77 (by decide) (rfl) (by omega) rfl ?_
        refine mm_aload_0 63 dX12_keeps_62 rfl ?_
        refine mm_iload_1 64 dX12_keeps_63 rfl ?_
        refine mm_if_ne 100 67 dX12_keeps_64 (by decide) rfl (fun h5 => ?_) (fun h5 => ?_)
        · refine mm_aload_0 101 dX12_keeps_100 rfl ?_
          refine mm_getI 104 dX12_keeps_101 f_X12_325 rfl t_51 rfl ?_
          refine mm_putI 107 dX12_keeps_104 p_X12_325 ⟨rfl, rfl⟩ rfl t_51 rfl ?_
          refine mm_vret dX12_keeps_107 rfl ⟨rfl, Nat.zero_le _⟩ ?_
          refine kT (Or.inr (Or.inr ⟨(by intro z0; apply h3; rw [pm, z0]; rfl), by have k := h4; rw [mm_le] at k; omega⟩)) _ rfl (fun z => absurd (by rw [z]; rfl) h5) (fun _ => ?_)
          rw [mm_upn _ _ _ (show (51 : Nat) ≠ 77 by decide), mm_upn _ _ _ (show (51 : Nat) ≠ 76 by decide)]
        · refine mm_bipush 69 12 dX12_keeps_67 rfl (by decide) ?_
          refine mm_aload_0 70 dX12_keeps_69 rfl ?_
          refine mm_getR 73 dX12_keeps_70 f_X12_73 rfl t_51 rfl ?_
          refine mm_aload_0 74 dX12_keeps_73 rfl ?_
          refine mm_getR 77 dX12_keeps_74 f_X12_79 rfl t_51 rfl ?_
          refine mm_iconst 78 0 dX12_keeps_77 rfl (by decide) ?_
          refine mm_ialoadn 79 (0) dX12_keeps_78 rfl t_75 (by decide) (rfl) (by decide) ?_
          refine mm_iconst 80 4 dX12_keeps_79 rfl (by decide) ?_
          refine mm_idiv 81 dX12_keeps_80 rfl (by decide) ?_
          refine mm_ialoadn 82 (q / 4) dX12_keeps_81 rfl t_73 (by decide) (by rw [mm_upn _ _ _ (show (75 : Nat) ≠ 77 by decide), mm_upn _ _ _ (show (75 : Nat) ≠ 76 by decide), hn (by have k := congrArg Int32.toInt h5; rw [mm_ti (by omega)] at k; simp only [Int32.reduceToInt] at k; omega)]; exact qd) (by omega) ?_
          refine mm_imul 83 dX12_keeps_82 rfl ?_
          refine mm_aload_0 84 dX12_keeps_83 rfl ?_
          refine mm_getR 87 dX12_keeps_84 f_X12_76 rfl t_51 rfl ?_
          refine mm_aload_0 88 dX12_keeps_87 rfl ?_
          refine mm_getR 91 dX12_keeps_88 f_X12_79 rfl t_51 rfl ?_
          refine mm_iconst 92 0 dX12_keeps_91 rfl (by decide) ?_
          refine mm_ialoadn 93 (0) dX12_keeps_92 rfl t_75 (by decide) (rfl) (by decide) ?_
          refine mm_iconst 94 4 dX12_keeps_93 rfl (by decide) ?_
          refine mm_irem 95 dX12_keeps_94 rfl (by decide) ?_
          refine mm_ialoadn 96 (q % 4) dX12_keeps_95 rfl t_74 (by decide) (by rw [mm_upn _ _ _ (show (75 : Nat) ≠ 77 by decide), mm_upn _ _ _ (show (75 : Nat) ≠ 76 by decide), hn (by have k := congrArg Int32.toInt h5; rw [mm_ti (by omega)] at k; simp only [Int32.reduceToInt] at k; omega)]; exact qm) (by omega) ?_
          refine mm_iadd 97 dX12_keeps_96 rfl ?_
          refine mm_goto 104 dX12_keeps_97 (by decide) ?_
          refine mm_putI 107 dX12_keeps_104 p_X12_325 ⟨rfl, rfl⟩ rfl t_51 rfl ?_
          refine mm_vret dX12_keeps_107 rfl ⟨rfl, Nat.zero_le _⟩ ?_
          have d0 : dp = 0 := by have k := congrArg Int32.toInt h5; rw [mm_ti (by omega)] at k; simp only [Int32.reduceToInt] at k; omega
          refine kT (Or.inr (Or.inr ⟨(by intro z0; apply h3; rw [pm, z0]; rfl), by have k := h4; rw [mm_le] at k; omega⟩)) _ rfl (fun _ => ?_) (fun z => absurd d0 z)
          rw [mm_upn _ _ _ (show (73 : Nat) ≠ 77 by decide), mm_upn _ _ _ (show (73 : Nat) ≠ 76 by decide), mm_upn _ _ _ (show (74 : Nat) ≠ 77 by decide), mm_upn _ _ _ (show (74 : Nat) ≠ 76 by decide), e1, e2, mm_l12, pk_mul, nI_add]
          rfl
    · refine mm_iload_2 16 dX12_keeps_15 rfl ?_
      refine mm_aload_0 17 dX12_keeps_16 rfl ?_
      refine mm_getR 20 dX12_keeps_17 f_X12_82 rfl t_51 rfl ?_
      refine mm_iload_1 21 dX12_keeps_20 rfl ?_
      refine mm_ialoadn 22 (dp) dX12_keeps_21 rfl t_76 (by decide) (rfl) (by omega) ?_
      refine mm_ic_le 42 25 dX12_keeps_22 (by decide) rfl (fun h6 => ?_) (fun h6 => ?_)
      · refine mm_iconst 43 0 dX12_keeps_42 rfl (by decide) ?_
        refine mm_istore_3 44 dX12_keeps_43 rfl rfl ?_
        refine mm_iload_3 45 dX12_keeps_44 rfl ?_
        refine mm_if_eq 107 48 dX12_keeps_45 (by decide) rfl (fun _ => ?_) (fun h => absurd h (by decide))
        refine mm_vret dX12_keeps_107 rfl ⟨rfl, Nat.zero_le _⟩ ?_
        refine kF (fun z => ?_)
        rcases z with z | z | z
        · exact h1 z
        · have k := h6; rw [mm_le] at k; omega
        · exact z.1 (by have k := h3; rw [pm] at k; have k := congrArg Int32.toInt k; rw [mm_ti (by omega)] at k; simp only [Int32.reduceToInt] at k; omega)
      · refine mm_goto 38 dX12_keeps_25 (by decide) ?_
        refine mm_iconst 39 1 dX12_keeps_38 rfl (by decide) ?_
        refine mm_goto 43 dX12_keeps_39 (by decide) ?_
        refine mm_istore_3 44 dX12_keeps_43 rfl rfl ?_
        refine mm_iload_3 45 dX12_keeps_44 rfl ?_
        refine mm_if_eq 107 48 dX12_keeps_45 (by decide) rfl (fun h => absurd h (by decide)) (fun _ => ?_)
        refine mm_aload_0 49 dX12_keeps_48 rfl ?_
        refine mm_getR 52 dX12_keeps_49 f_X12_82 rfl t_51 rfl ?_
        refine mm_iload_1 53 dX12_keeps_52 rfl ?_
        refine mm_iload_2 54 dX12_keeps_53 rfl ?_
        refine mm_iastoren 55 (dp) dX12_keeps_54 rfl t_76 (by decide) (rfl) (by omega) ?_
        refine mm_aload_0 56 dX12_keeps_55 rfl ?_
        refine mm_getR 59 dX12_keeps_56 f_X12_85 rfl t_51 rfl ?_
        refine mm_iload_1 60 dX12_keeps_59 rfl ?_
        refine mm_iconst 61 1 dX12_keeps_60 rfl (by decide) ?_
        refine mm_bastoren 62 (dp) dX12_keeps_61 rfl t_77 (by decide) (rfl) (by omega) rfl ?_
        refine mm_aload_0 63 dX12_keeps_62 rfl ?_
        refine mm_iload_1 64 dX12_keeps_63 rfl ?_
        refine mm_if_ne 100 67 dX12_keeps_64 (by decide) rfl (fun h7 => ?_) (fun h7 => ?_)
        · refine mm_aload_0 101 dX12_keeps_100 rfl ?_
          refine mm_getI 104 dX12_keeps_101 f_X12_325 rfl t_51 rfl ?_
          refine mm_putI 107 dX12_keeps_104 p_X12_325 ⟨rfl, rfl⟩ rfl t_51 rfl ?_
          refine mm_vret dX12_keeps_107 rfl ⟨rfl, Nat.zero_le _⟩ ?_
          refine kT (Or.inr (Or.inl ⟨(by have k := h3; rw [pm] at k; have k := congrArg Int32.toInt k; rw [mm_ti (by omega)] at k; simp only [Int32.reduceToInt] at k; omega), by have k := h6; rw [mm_le] at k; omega⟩)) _ rfl (fun z => absurd (by rw [z]; rfl) h7) (fun _ => ?_)
          rw [mm_upn _ _ _ (show (51 : Nat) ≠ 77 by decide), mm_upn _ _ _ (show (51 : Nat) ≠ 76 by decide)]
        · refine mm_bipush 69 12 dX12_keeps_67 rfl (by decide) ?_
          refine mm_aload_0 70 dX12_keeps_69 rfl ?_
          refine mm_getR 73 dX12_keeps_70 f_X12_73 rfl t_51 rfl ?_
          refine mm_aload_0 74 dX12_keeps_73 rfl ?_
          refine mm_getR 77 dX12_keeps_74 f_X12_79 rfl t_51 rfl ?_
          refine mm_iconst 78 0 dX12_keeps_77 rfl (by decide) ?_
          refine mm_ialoadn 79 (0) dX12_keeps_78 rfl t_75 (by decide) (rfl) (by decide) ?_
          refine mm_iconst 80 4 dX12_keeps_79 rfl (by decide) ?_
          refine mm_idiv 81 dX12_keeps_80 rfl (by decide) ?_
          refine mm_ialoadn 82 (q / 4) dX12_keeps_81 rfl t_73 (by decide) (by rw [mm_upn _ _ _ (show (75 : Nat) ≠ 77 by decide), mm_upn _ _ _ (show (75 : Nat) ≠ 76 by decide), hn (by have k := congrArg Int32.toInt h7; rw [mm_ti (by omega)] at k; simp only [Int32.reduceToInt] at k; omega)]; exact qd) (by omega) ?_
          refine mm_imul 83 dX12_keeps_82 rfl ?_
          refine mm_aload_0 84 dX12_keeps_83 rfl ?_
          refine mm_getR 87 dX12_keeps_84 f_X12_76 rfl t_51 rfl ?_
          refine mm_aload_0 88 dX12_keeps_87 rfl ?_
          refine mm_getR 91 dX12_keeps_88 f_X12_79 rfl t_51 rfl ?_
          refine mm_iconst 92 0 dX12_keeps_91 rfl (by decide) ?_
          refine mm_ialoadn 93 (0) dX12_keeps_92 rfl t_75 (by decide) (rfl) (by decide) ?_
          refine mm_iconst 94 4 dX12_keeps_93 rfl (by decide) ?_
          refine mm_irem 95 dX12_keeps_94 rfl (by decide) ?_
          refine mm_ialoadn 96 (q % 4) dX12_keeps_95 rfl t_74 (by decide) (by rw [mm_upn _ _ _ (show (75 : Nat) ≠ 77 by decide), mm_upn _ _ _ (show (75 : Nat) ≠ 76 by decide), hn (by have k := congrArg Int32.toInt h7; rw [mm_ti (by omega)] at k; simp only [Int32.reduceToInt] at k; omega)]; exact qm) (by omega) ?_
          refine mm_iadd 97 dX12_keeps_96 rfl ?_
          refine mm_goto 104 dX12_keeps_97 (by decide) ?_
          refine mm_putI 107 dX12_keeps_104 p_X12_325 ⟨rfl, rfl⟩ rfl t_51 rfl ?_
          refine mm_vret dX12_keeps_107 rfl ⟨rfl, Nat.zero_le _⟩ ?_
          have d0 : dp = 0 := by have k := congrArg Int32.toInt h7; rw [mm_ti (by omega)] at k; simp only [Int32.reduceToInt] at k; omega
          refine kT (Or.inr (Or.inl ⟨(by have k := h3; rw [pm] at k; have k := congrArg Int32.toInt k; rw [mm_ti (by omega)] at k; simp only [Int32.reduceToInt] at k; omega), by have k := h6; rw [mm_le] at k; omega⟩)) _ rfl (fun _ => ?_) (fun z => absurd d0 z)
          rw [mm_upn _ _ _ (show (73 : Nat) ≠ 77 by decide), mm_upn _ _ _ (show (73 : Nat) ≠ 76 by decide), mm_upn _ _ _ (show (74 : Nat) ≠ 77 by decide), mm_upn _ _ _ (show (74 : Nat) ≠ 76 by decide), e1, e2, mm_l12, pk_mul, nI_add]
          rfl

