theorem q_f1_at {nl n a : Nat} {b : Nat → Int32} (hn : n ≤ 60) (ha : a ≤ n) (hg : ∀ j, j < a → q_pg nl b j = true) (hb : n ≤ a ∨ q_pg nl b a = false) (hm : a = n → ¬ (n = 0 ∨ n % 5 = 5 - 1)) : q_f1 nl n b = nI a ∧ q_np nl n b = 0 := by
  have hf : q_f1 nl n b = nI a := by
    unfold q_f1
    by_cases q : a < n
    · refine q_ff_bad a n q hg ?_
      rcases hb with hb | hb
      · omega
      · exact hb
    · have e : a = n := by omega
      subst e
      rw [q_ff_all a hg]
      unfold q_fin
      rw [if_neg (hm rfl)]
  refine ⟨hf, ?_⟩
  unfold q_np
  rw [if_neg]
  intro q
  have q := congrArg Int32.toInt q
  rw [hf, mm_ti (by omega), mm_t1] at q
  omega
theorem q_f1_end {nl n : Nat} {b : Nat → Int32} (hg : ∀ j, j < n → q_pg nl b j = true) (hm : n = 0 ∨ n % 5 = 5 - 1) : q_f1 nl n b = -1 ∧ q_np nl n b = (n + 1) / 5 := by
  have hf : q_f1 nl n b = -1 := by
    unfold q_f1
    rw [q_ff_all n hg]
    unfold q_fin
    rw [if_pos hm]
  refine ⟨hf, ?_⟩
  unfold q_np
  rw [if_pos hf]
theorem q_5t {P : Nat → Prop} {p k : Nat} (h : ∀ j, j < 5 * p → P j) (h2 : ∀ j, j < k → P (5 * p + j)) : ∀ j, j < 5 * p + k → P j := by
  intro j hj
  by_cases q : j < 5 * p
  · exact h j q
  · have := h2 (j - 5 * p) (by omega)
    rw [show 5 * p + (j - 5 * p) = j by omega] at this
    exact this
theorem q_59 {R R2 : Nat → Int32} {b : Nat → Int32} {p : Nat} (h : ∀ q k, q < p → k < 4 → R (4 * q + k) = q_wh b q k) (h1 : ∀ k, k < 4 → R2 (4 * p + k) = q_wh b p k) (h2 : ∀ j, j < 4 * p → R2 j = R j) : ∀ q k, q < p + 1 → k < 4 → R2 (4 * q + k) = q_wh b q k := by
  intro q k hq hk
  by_cases e : q = p
  · subst e; exact h1 k hk
  · rw [h2 _ (by omega)]; exact h q k (by omega) hk

set_option maxHeartbeats 4000000 in
theorem w_X12_reads1 {l : Launch} {G : mm_G} {d : Nat} {M : mm_M} {Q : Int32 → mm_T → mm_M → Prop} {n nl : Nat} {b : Nat → Int32} (hn : M 57 1 = nI n) (h60 : n ≤ 60) (hb : ∀ j, M 56 (20 + j) = b j) (hl : M 51 8 = nI nl) (hnl : nl ≤ 6) (hB : ∀ j, j < n → 0 ≤ (b j).toInt ∧ (b j).toInt ≤ 255) (h0 : 0 < n) (h : ∀ M1 : mm_M, M1 51 10 = nI (q_np nl n b) → (∀ p k, p < q_np nl n b → k < 4 → M1 59 (4 * p + k) = q_wh b p k) → (∀ c, c ≠ 51 → c ≠ 59 → M1 c = M c) → (∀ f, f ≠ 7 → f ≠ 10 → M1 51 f = M 51 f) → Q (q_f1 nl n b) T0 M1) : ∀ (k p : Nat) (Mi : mm_M) {x3 : Value}, n - 5 * p ≤ k → Mi 51 7 = nI (5 * p) → Mi 51 10 = nI p → p ≤ 12 → 5 * p ≤ n → (∀ j, j < 5 * p → q_pg nl b j = true) → (∀ q k, q < p → k < 4 → Mi 59 (4 * q + k) = q_wh b q k) → (∀ c, c ≠ 51 → c ≠ 59 → Mi c = M c) → (∀ f, f ≠ 7 → f ≠ 10 → Mi 51 f = M 51 f) → mm_wp l G (d + 3) k_X12_reads (mm_pi Q) 37 [.ref 51, .int 1, .int 1, x3] [] T0 Mi 0 0 := by
  intro k
  induction k using Nat.strongRecOn with | _ k ih => ?_
  intro p Mi x3 hki h7 h8 hi h3 hg hw hK hF
  refine mm_iload_2 38 dX12_reads_37 rfl ?_
  refine mm_if_eq 127 41 dX12_reads_38 (by decide) rfl (fun h => absurd h (by decide)) (fun _ => ?_)
  refine mm_iload_1 42 dX12_reads_41 rfl ?_
  refine mm_if_ne 52 45 dX12_reads_42 (by decide) rfl (fun _ => ?_) (fun h => absurd h (by decide))
  refine mm_aload_0 53 dX12_reads_52 rfl ?_
  refine mm_cV0i 56 dX12_reads_53 v_X12_151 rfl t_51 (by decide) rfl rfl (Nat.le_of_ble_eq_true rfl) ⟨rfl, rfl⟩ ⟨Nat.zero_le _, Nat.zero_le _⟩ (c_X12_readsPerson (n := n) (nl := nl) (p := p) (b := b) (by rw [hK 57 (by decide) (by decide)]; exact hn) h60 (fun j => by rw [hK 56 (by decide) (by decide)]; exact hb j) h7 h3 h8 hi (by rw [hF 8 (by decide) (by decide)]; exact hl) hnl hB (fun M2 g1 g2 f7 f8 f59 f59o fc ff => ?_) (fun M2 a a1 a1b a2 a3 f7 fc ff => ?_))
  · refine mm_istore_3 57 dX12_reads_56 rfl rfl ?_
    refine mm_iload_3 58 dX12_reads_57 rfl ?_
    refine mm_if_ne 67 61 dX12_reads_58 (by decide) rfl (fun _ => ?_) (fun h => absurd h (by decide))
    refine mm_aload_0 68 dX12_reads_67 rfl ?_
    refine mm_getI 71 dX12_reads_68 f_X12_132 rfl t_51 rfl ?_
    refine mm_aload_0 72 dX12_reads_71 rfl ?_
    refine mm_getR 75 dX12_reads_72 f_X12_25 rfl t_51 rfl ?_
    refine mm_iload_1 76 dX12_reads_75 rfl ?_
    refine mm_ialoadn 77 (1) dX12_reads_76 rfl t_57 (by decide) (rfl) (by decide) ?_
    refine mm_ic_ge 84 80 dX12_reads_77 (by decide) rfl (fun h1 => ?_) (fun h1 => ?_)
    · refine mm_iconst 85 0 dX12_reads_84 rfl (by decide) ?_
      refine mm_istore_2 86 dX12_reads_85 rfl rfl ?_
      refine mm_iload_2 87 dX12_reads_86 rfl ?_
      refine mm_if_eq 106 90 dX12_reads_87 (by decide) rfl (fun _ => ?_) (fun h => absurd h (by decide))
      refine mm_aload_0 107 dX12_reads_106 rfl ?_
      refine mm_dup 108 dX12_reads_107 rfl rfl ?_
      refine mm_getI 111 dX12_reads_108 f_X12_132 rfl t_51 rfl ?_
      refine mm_iload_2 112 dX12_reads_111 rfl ?_
      refine mm_if_eq 119 115 dX12_reads_112 (by decide) rfl (fun _ => ?_) (fun h => absurd h (by decide))
      refine mm_iconst 120 0 dX12_reads_119 rfl (by decide) ?_
      refine mm_iadd 121 dX12_reads_120 rfl ?_
      refine mm_putI 124 dX12_reads_121 p_X12_132 ⟨rfl, rfl⟩ rfl t_51 rfl ?_
      refine mm_goto 37 dX12_reads_124 (by decide) ?_
      refine mm_iload_2 38 dX12_reads_37 rfl ?_
      refine mm_if_eq 127 41 dX12_reads_38 (by decide) rfl (fun _ => ?_) (fun h => absurd h (by decide))
      refine mm_iconst 128 (-1) dX12_reads_127 rfl (by decide) ?_
      refine mm_iret dX12_reads_128 rfl ⟨rfl, Nat.zero_le _⟩ ?_
      rw [f7, fc 57 (by decide) (by decide), hK 57 (by decide) (by decide), hn] at h1
      have hz : n = 5 * p + 4 := by have := q_ge (by omega) (by omega) h1; omega
      have hf := q_f1_end (nl := nl) (n := n) (b := b) (by rw [hz]; exact q_5t hg g2) (by omega)
      have hz2 : q_np nl n b = p + 1 := by rw [hf.2]; omega
      rw [← hf.1]
      refine h _ (by rw [hz2]; simp [mm_up, va_up, upd, f8]) ?_ (fun c c1 c2 => by rw [mm_upn _ _ _ c1, fc c c1 c2]; exact hK c c1 c2) (fun f f1 f2 => by simp only [mm_up, va_up, upd, if_true, if_neg f1]; rw [ff f f1 f2]; exact hF f f1 f2)
      rw [hz2, mm_upn _ _ _ (by decide)]
      exact q_59 hw f59 f59o
    · refine mm_iconst 81 1 dX12_reads_80 rfl (by decide) ?_
      refine mm_goto 85 dX12_reads_81 (by decide) ?_
      refine mm_istore_2 86 dX12_reads_85 rfl rfl ?_
      refine mm_iload_2 87 dX12_reads_86 rfl ?_
      refine mm_if_eq 106 90 dX12_reads_87 (by decide) rfl (fun h => absurd h (by decide)) (fun _ => ?_)
      refine mm_aload_0 91 dX12_reads_90 rfl ?_
      refine mm_iload_1 92 dX12_reads_91 rfl ?_
      refine mm_cV1i 95 dX12_reads_92 v_X12_135 rfl t_51 (by decide) rfl rfl (Nat.le_of_ble_eq_true rfl) ⟨rfl, rfl⟩ ⟨Nat.zero_le _, Nat.zero_le _⟩ (c_X12_here (t := 1) (n := n) (a := 5 * p + 4) (by omega) (by rw [fc 57 (by decide) (by decide), hK 57 (by decide) (by decide)]; exact hn) (by omega) f7 (by omega) rfl (fun r2 e3 => ?_))
      refine mm_bipush 97 59 dX12_reads_95 rfl (by decide) ?_
      refine mm_ic_eq 106 100 dX12_reads_97 (by decide) rfl (fun h4 => ?_) (fun h4 => ?_)
      · refine mm_aload_0 107 dX12_reads_106 rfl ?_
        refine mm_dup 108 dX12_reads_107 rfl rfl ?_
        refine mm_getI 111 dX12_reads_108 f_X12_132 rfl t_51 rfl ?_
        refine mm_iload_2 112 dX12_reads_111 rfl ?_
        refine mm_if_eq 119 115 dX12_reads_112 (by decide) rfl (fun h => absurd h (by decide)) (fun _ => ?_)
        refine mm_iconst 116 1 dX12_reads_115 rfl (by decide) ?_
        refine mm_goto 120 dX12_reads_116 (by decide) ?_
        refine mm_iadd 121 dX12_reads_120 rfl ?_
        refine mm_putI 124 dX12_reads_121 p_X12_132 ⟨rfl, rfl⟩ rfl t_51 rfl ?_
        refine mm_goto 37 dX12_reads_124 (by decide) ?_
        rw [f7, fc 57 (by decide) (by decide), hK 57 (by decide) (by decide), hn] at h1
        have hz : 5 * p + 4 < n := q_lt (by omega) (by omega) h1
        rw [if_pos hz, fc 56 (by decide) (by decide), hK 56 (by decide) (by decide), Nat.mul_one, hb] at e3
        have hl4 : q_pg nl b (5 * p + 4) = true := by
          rw [q_pg4, ← e3, h4]
          rfl
        refine ih (n - (5 * p + 5)) (by omega) (p + 1) _ (by omega) (by rw [mm_upv, f7, show 5 * (p + 1) = 5 * p + 4 + 1 by omega]; exact nI_1 _) (by simp [mm_up, va_up, upd, f8]) (by omega) (by omega) (q_s (q_5t hg g2) hl4) ?_ (fun c c1 c2 => by rw [mm_upn _ _ _ c1, fc c c1 c2]; exact hK c c1 c2) (fun f f1 f2 => by simp only [mm_up, va_up, upd, if_true, if_neg f1]; rw [ff f f1 f2]; exact hF f f1 f2)
        rw [mm_upn _ _ _ (by decide)]
        exact q_59 hw f59 f59o
      · refine mm_aload_0 101 dX12_reads_100 rfl ?_
        refine mm_iload_1 102 dX12_reads_101 rfl ?_
        refine mm_cV1i 105 dX12_reads_102 v_X12_154 rfl t_51 (by decide) rfl rfl (Nat.le_of_ble_eq_true rfl) ⟨rfl, rfl⟩ ⟨Nat.zero_le _, Nat.zero_le _⟩ (c_X12_fails1 (fun r5 e6 => ?_))
        refine mm_iret dX12_reads_105 rfl ⟨rfl, Nat.zero_le _⟩ ?_
        rw [f7, fc 57 (by decide) (by decide), hK 57 (by decide) (by decide), hn] at h1
        have hz : 5 * p + 4 < n := q_lt (by omega) (by omega) h1
        rw [if_pos hz, fc 56 (by decide) (by decide), hK 56 (by decide) (by decide), Nat.mul_one, hb] at e3
        have hl4 : q_pg nl b (5 * p + 4) = false := by
          rw [q_pg4]
          refine decide_eq_false (fun q => h4 ?_)
          rw [e3]
          exact Int32.toInt_inj.mp q
        have hf := q_f1_at (nl := nl) (b := b) (a := 5 * p + 4) h60 (by omega) (q_5t hg g2) (Or.inr hl4) (by omega)
        rw [e6, f7, ← hf.1]
        exact h _ (by rw [mm_upv, hf.2]; rfl) (fun j k hj => by omega) (fun c c1 c2 => by rw [mm_upn _ _ _ c1, fc c c1 c2]; exact hK c c1 c2) (fun f f1 f2 => by simp only [mm_up, va_up, upd, if_true, if_neg f2]; rw [ff f f1 f2]; exact hF f f1 f2)
  · refine mm_istore_3 57 dX12_reads_56 rfl rfl ?_
    refine mm_iload_3 58 dX12_reads_57 rfl ?_
    refine mm_if_ne 67 61 dX12_reads_58 (by decide) rfl (fun h => absurd h (by decide)) (fun _ => ?_)
    refine mm_aload_0 62 dX12_reads_61 rfl ?_
    refine mm_iload_1 63 dX12_reads_62 rfl ?_
    refine mm_cV1i 66 dX12_reads_63 v_X12_154 rfl t_51 (by decide) rfl rfl (Nat.le_of_ble_eq_true rfl) ⟨rfl, rfl⟩ ⟨Nat.zero_le _, Nat.zero_le _⟩ (c_X12_fails1 (fun r7 e8 => ?_))
    refine mm_iret dX12_reads_66 rfl ⟨rfl, Nat.zero_le _⟩ ?_
    have hf := q_f1_at (nl := nl) (b := b) (a := 5 * p + a) h60 a1b (q_5t hg a2) a3 (by omega)
    rw [e8, f7, ← hf.1]
    exact h _ (by rw [mm_upv, hf.2]; rfl) (fun j k hj => by omega) (fun c c1 c2 => by rw [mm_upn _ _ _ c1, fc c c1 c2]; exact hK c c1 c2) (fun f f1 f2 => by simp only [mm_up, va_up, upd, if_true, if_neg f2]; rw [ff f f1]; exact hF f f1 f2)

set_option maxHeartbeats 4000000 in
theorem c_X12_reads1 {l : Launch} {G : mm_G} {d : Nat} {M : mm_M} {Q : Int32 → mm_T → mm_M → Prop} {n nl : Nat} {b : Nat → Int32} (hn : M 57 1 = nI n) (h60 : n ≤ 60) (hb : ∀ j, M 56 (20 + j) = b j) (hl : M 51 8 = nI nl) (hnl : nl ≤ 6) (hB : ∀ j, j < n → 0 ≤ (b j).toInt ∧ (b j).toInt ≤ 255) (h : ∀ M1 : mm_M, M1 51 10 = nI (q_np nl n b) → (∀ p k, p < q_np nl n b → k < 4 → M1 59 (4 * p + k) = q_wh b p k) → (∀ c, c ≠ 51 → c ≠ 59 → M1 c = M c) → (∀ f, f ≠ 7 → f ≠ 10 → M1 51 f = M 51 f) → Q (q_f1 nl n b) T0 M1) : mm_met l G (d + 3) k_X12_reads [.ref 51, .int 1] T0 M (mm_pi Q) := by
  refine mm_enter 2 [.ref 51, .int 1, .double 0, .double 0] o_X12_reads rfl rfl ?_
  refine mm_aload_0 1 dX12_reads_0 rfl ?_
  refine mm_iconst 2 0 dX12_reads_1 rfl (by decide) ?_
  refine mm_putI 5 dX12_reads_2 p_X12_132 ⟨rfl, rfl⟩ rfl t_51 rfl ?_
  refine mm_iload_1 6 dX12_reads_5 rfl ?_
  refine mm_if_ne 17 9 dX12_reads_6 (by decide) rfl (fun _ => ?_) (fun h => absurd h (by decide))
  refine mm_aload_0 18 dX12_reads_17 rfl ?_
  refine mm_iconst 19 0 dX12_reads_18 rfl (by decide) ?_
  refine mm_putI 22 dX12_reads_19 p_X12_144 ⟨rfl, rfl⟩ rfl t_51 rfl ?_
  refine mm_aload_0 23 dX12_reads_22 rfl ?_
  refine mm_getR 26 dX12_reads_23 f_X12_25 rfl t_51 rfl ?_
  refine mm_iload_1 27 dX12_reads_26 rfl ?_
  refine mm_ialoadn 28 (1) dX12_reads_27 rfl t_57 (by decide) (rfl) (by decide) ?_
  refine mm_if_le 35 31 dX12_reads_28 (by decide) rfl (fun h1 => ?_) (fun h1 => ?_)
  · refine mm_iconst 36 0 dX12_reads_35 rfl (by decide) ?_
    refine mm_istore_2 37 dX12_reads_36 rfl rfl ?_
    refine mm_iload_2 38 dX12_reads_37 rfl ?_
    refine mm_if_eq 127 41 dX12_reads_38 (by decide) rfl (fun _ => ?_) (fun h => absurd h (by decide))
    refine mm_iconst 128 (-1) dX12_reads_127 rfl (by decide) ?_
    refine mm_iret dX12_reads_128 rfl ⟨rfl, Nat.zero_le _⟩ ?_
    have h0 : n = 0 := by
      rw [mm_upn _ _ _ (by decide), mm_upn _ _ _ (by decide), hn] at h1
      have t2 : (nI n).toInt = n := mm_ti (by omega)
      (try simp only [t2, Int32.lt_iff_toInt_lt, Int32.le_iff_toInt_le, ← Int32.toInt_inj, vp_in_iff, Int32.reduceToInt, mm_t1, mm_t2, mm_t3, mm_t4, mm_t10] at h1)
      omega
    have hf := q_f1_end (nl := nl) (n := n) (b := b) (fun j hj => by omega) (Or.inl h0)
    have hz : q_np nl n b = 0 := by rw [hf.2]; omega
    rw [← hf.1]
    exact h _ (by rw [hz]; simp [mm_up, va_up, upd]; rfl) (fun j k hj => by omega) (fun c c1 c2 => by rw [mm_upn _ _ _ c1, mm_upn _ _ _ c1]) (fun f f1 f2 => by simp [mm_up, va_up, upd, f1, f2])
  · refine mm_iconst 32 1 dX12_reads_31 rfl (by decide) ?_
    refine mm_goto 36 dX12_reads_32 (by decide) ?_
    refine mm_istore_2 37 dX12_reads_36 rfl rfl ?_
    have h0 : 0 < n := by
      rw [mm_upn _ _ _ (by decide), mm_upn _ _ _ (by decide), hn] at h1
      have t2 : (nI n).toInt = n := mm_ti (by omega)
      (try simp only [t2, Int32.lt_iff_toInt_lt, Int32.le_iff_toInt_le, ← Int32.toInt_inj, vp_in_iff, Int32.reduceToInt, mm_t1, mm_t2, mm_t3, mm_t4, mm_t10] at h1)
      omega
    refine w_X12_reads1 hn h60 hb hl hnl hB h0 h _ 0 _ (Nat.le_refl _) (by simp [mm_up, va_up, upd]; rfl) (by simp [mm_up, va_up, upd]; rfl) (by omega) (by omega) (fun j hj => by omega) (fun j k hj => by omega) (fun c c1 c2 => by rw [mm_upn _ _ _ c1, mm_upn _ _ _ c1]) (fun f f1 f2 => by simp [mm_up, va_up, upd, f1, f2])

/-! The state that the calls tell, as the reference's own cells hold it: texts 56, 57, clouds 60, events 61 and 51.13, surveys 72 and 51.29, sheets 52, 53, 54, the latest finding 51.4 -/
def a_ok (A : mm_M) : Prop :=
  (0 ≤ (A 57 0).toInt ∧ (A 57 0).toInt ≤ 20 ∧ 0 ≤ (A 57 1).toInt ∧ (A 57 1).toInt ≤ 60) ∧ (∀ j, j < 80 → 0 ≤ (A 56 j).toInt ∧ (A 56 j).toInt ≤ 255) ∧ (∀ w, w < 52 → 0 ≤ (A 60 w).toInt ∧ (A 60 w).toInt ≤ 1) ∧ (0 ≤ (A 51 13).toInt ∧ (A 51 13).toInt ≤ 24) ∧
  (∀ e : Nat, (e : Int) < (A 51 13).toInt → (0 ≤ (A 61 (5 * e)).toInt ∧ (A 61 (5 * e)).toInt ≤ 2) ∧ (0 ≤ (A 61 (5 * e + 1)).toInt ∧ (A 61 (5 * e + 1)).toInt ≤ 51) ∧ (0 ≤ (A 61 (5 * e + 2)).toInt ∧ (A 61 (5 * e + 2)).toInt ≤ 11) ∧ (0 ≤ (A 61 (5 * e + 3)).toInt ∧ (A 61 (5 * e + 3)).toInt ≤ 11) ∧ 6 ≤ (A 61 (5 * e + 4)).toInt ∧ (A 61 (5 * e + 4)).toInt ≤ 18) ∧
  (0 ≤ (A 51 29).toInt ∧ (A 51 29).toInt ≤ 8) ∧ (∀ s : Nat, (s : Int) < (A 51 29).toInt → (0 ≤ (A 72 (3 * s)).toInt ∧ (A 72 (3 * s)).toInt ≤ 5) ∧ (0 ≤ (A 72 (3 * s + 1)).toInt ∧ (A 72 (3 * s + 1)).toInt ≤ 24) ∧ 0 ≤ (A 72 (3 * s + 2)).toInt ∧ (A 72 (3 * s + 2)).toInt ≤ 999) ∧
  (∀ s, s < 4 → (-1 ≤ (A 52 s).toInt ∧ (A 52 s).toInt ≤ 2) ∧ 0 ≤ (A 53 s).toInt ∧ (A 53 s).toInt ≤ 60)
def a_b1 (A : mm_M) : Nat → Int32 := fun j => A 56 (20 + j)
def a_n0 (A : mm_M) : Nat := (A 57 0).toNatClampNeg
def a_n1 (A : mm_M) : Nat := (A 57 1).toNatClampNeg
def a_nl (A : mm_M) : Nat := q_nl (a_n0 A) (A 56)
def a_np (A : mm_M) : Nat := q_np (a_nl A) (a_n1 A) (a_b1 A)
def a_f0 (A : mm_M) : Int32 := q_f0 (a_n0 A) (A 56)
def a_f1 (A : mm_M) : Int32 := q_f1 (a_nl A) (a_n1 A) (a_b1 A)
theorem a_ok.n0 {A : mm_M} (h : a_ok A) : A 57 0 = nI (a_n0 A) ∧ a_n0 A ≤ 20 := by
  have h1 := h.1
  have h2 := mm_cl h1.1
  exact ⟨mm_nc h1.1, by unfold a_n0; omega⟩
theorem a_ok.n1 {A : mm_M} (h : a_ok A) : A 57 1 = nI (a_n1 A) ∧ a_n1 A ≤ 60 := by
  have h1 := h.1
  have h2 := mm_cl h1.2.2.1
  exact ⟨mm_nc h1.2.2.1, by unfold a_n1; omega⟩
theorem a_ok.nl {A : mm_M} (h : a_ok A) : a_nl A ≤ 6 := q_nl_le h.n0.2
theorem a_ok.np {A : mm_M} (h : a_ok A) : a_np A ≤ 12 := q_np_le h.n1.2
/-- the reference's cells behind find() -/
def r_dat (A X : mm_M) : Prop := X 51 8 = nI (a_nl A) ∧ (∀ j, j < a_nl A → X 58 j = q_lw (A 56) j) ∧ X 51 10 = nI (a_np A) ∧ (∀ p k, p < a_np A → k < 4 → X 59 (4 * p + k) = q_wh (a_b1 A) p k)
def r_keep (M X : mm_M) : Prop := (∀ c, c ≠ 51 → c ≠ 58 → c ≠ 59 → X c = M c) ∧ (∀ f, f ≠ 7 → f ≠ 8 → f ≠ 10 → X 51 f = M 51 f)

set_option maxHeartbeats 4000000 in
theorem c_X12_find {l : Launch} {G : mm_G} {d : Nat} {M : mm_M} {Q : mm_T → mm_M → Prop} (hA : a_ok M) (h : ∀ M1, r_dat M M1 → r_keep M M1 → Q T0 M1) : mm_met l G (d + 4) k_X12_find [.ref 51] T0 M (mm_pv Q) := by
  refine mm_enter 0 [.ref 51] o_X12_find rfl rfl ?_
  refine mm_aload_0 1 dX12_find_0 rfl ?_
  refine mm_iconst 2 0 dX12_find_1 rfl (by decide) ?_
  refine mm_cV1i 5 dX12_find_2 v_X12_157 rfl t_51 (by decide) rfl rfl (Nat.le_of_ble_eq_true rfl) ⟨rfl, rfl⟩ ⟨Nat.zero_le _, Nat.zero_le _⟩ (c_X12_reads0 hA.n0.1 hA.n0.2 (fun j hj => hA.2.1 j (by have := hA.n0.2; omega)) (fun M1 m1 m2 m3 m4 => ?_))
  refine mm_pop 6 dX12_find_5 rfl rfl ?_
  refine mm_aload_0 7 dX12_find_6 rfl ?_
  refine mm_iconst 8 1 dX12_find_7 rfl (by decide) ?_
  refine mm_cV1i 11 dX12_find_8 v_X12_157 rfl t_51 (by decide) rfl rfl (Nat.le_of_ble_eq_true rfl) ⟨rfl, rfl⟩ ⟨Nat.zero_le _, Nat.zero_le _⟩ (c_X12_reads1 (n := a_n1 M) (nl := a_nl M) (b := a_b1 M) (by rw [m3 57 (by decide) (by decide)]; exact hA.n1.1) hA.n1.2 (fun j => by rw [m3 56 (by decide) (by decide)]; rfl) m1 hA.nl (fun j hj => hA.2.1 (20 + j) (by have := hA.n1.2; omega)) (fun M2 k1 k2 k3 k4 => ?_))
  refine mm_pop 12 dX12_find_11 rfl rfl ?_
  refine mm_vret dX12_find_12 rfl ⟨rfl, Nat.zero_le _⟩ ?_
  exact h M2 ⟨by rw [k4 8 (by decide) (by decide)]; exact m1, fun j hj => by rw [k3 58 (by decide) (by decide)]; exact m2 j hj, k1, k2⟩ ⟨fun c c1 c2 c3 => by rw [k3 c c1 c3]; exact m3 c c1 c2, fun f f1 f2 f3 => by rw [k4 f f1 f3]; exact m4 f f1 f2⟩

set_option maxHeartbeats 4000000 in
theorem c_X12_faultOf0 {l : Launch} {G : mm_G} {d : Nat} {M : mm_M} {Q : Int32 → mm_T → mm_M → Prop} (hA : a_ok M) (h : ∀ M1, r_dat M M1 → r_keep M M1 → Q (a_f0 M) T0 M1) : mm_met l G (d + 4) k_X12_faultOf [.ref 51, .int 0] T0 M (mm_pi Q) := by
  refine mm_enter 2 [.ref 51, .int 0, .double 0, .double 0] o_X12_faultOf rfl rfl ?_
  refine mm_aload_0 1 dX12_faultOf_0 rfl ?_
  refine mm_iconst 2 0 dX12_faultOf_1 rfl (by decide) ?_
  refine mm_cV1i 5 dX12_faultOf_2 v_X12_157 rfl t_51 (by decide) rfl rfl (Nat.le_of_ble_eq_true rfl) ⟨rfl, rfl⟩ ⟨Nat.zero_le _, Nat.zero_le _⟩ (c_X12_reads0 hA.n0.1 hA.n0.2 (fun j hj => hA.2.1 j (by have := hA.n0.2; omega)) (fun M1 m1 m2 m3 m4 => ?_))
  refine mm_istore_2 6 dX12_faultOf_5 rfl rfl ?_
  refine mm_aload_0 7 dX12_faultOf_6 rfl ?_
  refine mm_iconst 8 1 dX12_faultOf_7 rfl (by decide) ?_
  refine mm_cV1i 11 dX12_faultOf_8 v_X12_157 rfl t_51 (by decide) rfl rfl (Nat.le_of_ble_eq_true rfl) ⟨rfl, rfl⟩ ⟨Nat.zero_le _, Nat.zero_le _⟩ (c_X12_reads1 (n := a_n1 M) (nl := a_nl M) (b := a_b1 M) (by rw [m3 57 (by decide) (by decide)]; exact hA.n1.1) hA.n1.2 (fun j => by rw [m3 56 (by decide) (by decide)]; rfl) m1 hA.nl (fun j hj => hA.2.1 (20 + j) (by have := hA.n1.2; omega)) (fun M2 k1 k2 k3 k4 => ?_))
  refine mm_istore_3 12 dX12_faultOf_11 rfl rfl ?_
  refine mm_iload_1 13 dX12_faultOf_12 rfl ?_
  refine mm_if_ne 20 16 dX12_faultOf_13 (by decide) rfl (fun h => absurd h (by decide)) (fun _ => ?_)
  refine mm_iload_2 17 dX12_faultOf_16 rfl ?_
  refine mm_goto 21 dX12_faultOf_17 (by decide) ?_
  refine mm_iret dX12_faultOf_21 rfl ⟨rfl, Nat.zero_le _⟩ ?_
  exact h M2 ⟨by rw [k4 8 (by decide) (by decide)]; exact m1, fun j hj => by rw [k3 58 (by decide) (by decide)]; exact m2 j hj, k1, k2⟩ ⟨fun c c1 c2 c3 => by rw [k3 c c1 c3]; exact m3 c c1 c2, fun f f1 f2 f3 => by rw [k4 f f1 f3]; exact m4 f f1 f2⟩

set_option maxHeartbeats 4000000 in
theorem c_X12_faultOf1 {l : Launch} {G : mm_G} {d : Nat} {M : mm_M} {Q : Int32 → mm_T → mm_M → Prop} (hA : a_ok M) (h : ∀ M1, r_dat M M1 → r_keep M M1 → Q (a_f1 M) T0 M1) : mm_met l G (d + 4) k_X12_faultOf [.ref 51, .int 1] T0 M (mm_pi Q) := by
  refine mm_enter 2 [.ref 51, .int 1, .double 0, .double 0] o_X12_faultOf rfl rfl ?_
  refine mm_aload_0 1 dX12_faultOf_0 rfl ?_
  refine mm_iconst 2 0 dX12_faultOf_1 rfl (by decide) ?_
  refine mm_cV1i 5 dX12_faultOf_2 v_X12_157 rfl t_51 (by decide) rfl rfl (Nat.le_of_ble_eq_true rfl) ⟨rfl, rfl⟩ ⟨Nat.zero_le _, Nat.zero_le _⟩ (c_X12_reads0 hA.n0.1 hA.n0.2 (fun j hj => hA.2.1 j (by have := hA.n0.2; omega)) (fun M1 m1 m2 m3 m4 => ?_))
  refine mm_istore_2 6 dX12_faultOf_5 rfl rfl ?_
  refine mm_aload_0 7 dX12_faultOf_6 rfl ?_
  refine mm_iconst 8 1 dX12_faultOf_7 rfl (by decide) ?_
  refine mm_cV1i 11 dX12_faultOf_8 v_X12_157 rfl t_51 (by decide) rfl rfl (Nat.le_of_ble_eq_true rfl) ⟨rfl, rfl⟩ ⟨Nat.zero_le _, Nat.zero_le _⟩ (c_X12_reads1 (n := a_n1 M) (nl := a_nl M) (b := a_b1 M) (by rw [m3 57 (by decide) (by decide)]; exact hA.n1.1) hA.n1.2 (fun j => by rw [m3 56 (by decide) (by decide)]; rfl) m1 hA.nl (fun j hj => hA.2.1 (20 + j) (by have := hA.n1.2; omega)) (fun M2 k1 k2 k3 k4 => ?_))
  refine mm_istore_3 12 dX12_faultOf_11 rfl rfl ?_
  refine mm_iload_1 13 dX12_faultOf_12 rfl ?_
  refine mm_if_ne 20 16 dX12_faultOf_13 (by decide) rfl (fun _ => ?_) (fun h => absurd h (by decide))
  refine mm_iload_3 21 dX12_faultOf_20 rfl ?_
  refine mm_iret dX12_faultOf_21 rfl ⟨rfl, Nat.zero_le _⟩ ?_
  exact h M2 ⟨by rw [k4 8 (by decide) (by decide)]; exact m1, fun j hj => by rw [k3 58 (by decide) (by decide)]; exact m2 j hj, k1, k2⟩ ⟨fun c c1 c2 c3 => by rw [k3 c c1 c3]; exact m3 c c1 c2, fun f f1 f2 f3 => by rw [k4 f f1 f3]; exact m4 f f1 f2⟩

