theorem c_X12_readsLandR {l : Launch} {G : mm_G} {d : Nat} {M : mm_M} {Q : Int32 → mm_T → mm_M → Prop} {n i : Nat} (hn : M 57 0 = nI n) (h20 : n ≤ 20) (ha : M 51 7 = nI (3 * i)) (hl : M 51 8 = nI i) (hi : i ≤ 6) (hB : ∀ j, j < n → 0 ≤ (M 56 j).toInt ∧ (M 56 j).toInt ≤ 255) (kA : ∀ M2 : mm_M, 3 * i + 1 < n → q_lg (M 56) (3 * i) = true → q_lg (M 56) (3 * i + 1) = true → M2 51 7 = nI (3 * i + 2) → M2 51 8 = nI (i + 1) → M2 58 = upd (M 58) i (q_lw (M 56) i) → (∀ c, c ≠ 51 → c ≠ 58 → M2 c = M c) → (∀ f, f ≠ 7 → f ≠ 8 → M2 51 f = M 51 f) → Q 1 T0 M2) (kB : ∀ (M2 : mm_M) (a : Nat), (a = 3 * i ∨ a = 3 * i + 1 ∧ 3 * i < n) → (∀ j, 3 * i ≤ j → j < a → q_lg (M 56) j = true) → (n ≤ a ∨ q_lg (M 56) a = false) → M2 51 7 = nI a → (∀ c, c ≠ 51 → M2 c = M c) → (∀ f, f ≠ 7 → M2 51 f = M 51 f) → Q 0 T0 M2) : mm_met l G (d + 2) k_X12_readsLand [.ref 51] T0 M (mm_pi Q) := by
  refine c_X12_readsLand hn h20 ha hl hi hB (fun g1 g2 g3 => ?_) (fun g => ?_) (fun g1 g2 g3 => ?_)
  · refine kA _ g1 g2 g3 (by simp [mm_up, va_up, upd]) (by simp [mm_up, va_up, upd]) (by simp [mm_up, va_up]) (fun c c1 c2 => by simp [mm_up, va_up, c1, c2]) (fun f f1 f2 => by simp [mm_up, va_up, upd, f1, f2])
  · exact kB M (3 * i) (Or.inl rfl) (fun j a b => by omega) g ha (fun _ _ => rfl) (fun _ _ => rfl)
  · exact kB _ (3 * i + 1) (Or.inr ⟨rfl, g1⟩) (fun j a b => by rw [show j = 3 * i by omega]; exact g2) g3 (by simp [mm_up, va_up, upd]) (fun c c1 => by simp [mm_up, va_up, c1]) (fun f f1 => by simp [mm_up, va_up, upd, f1])

theorem q_f0_at {n a : Nat} {b : Nat → Int32} (hn : n ≤ 20) (ha : a ≤ n) (hg : ∀ j, j < a → q_lg b j = true) (hb : n ≤ a ∨ q_lg b a = false) (hm : a = n → ¬ (n = 0 ∨ n % 3 = 3 - 1)) : q_f0 n b = nI a ∧ q_nl n b = 0 := by
  have hf : q_f0 n b = nI a := by
    unfold q_f0
    by_cases q : a < n
    · refine q_ff_bad a n q hg ?_
      rcases hb with hb | hb
      · omega
      · exact hb
    · have e : a = n := by omega
      subst e
      rw [q_ff_all a hg]
      unfold q_fin
      rw [if_neg (hm rfl)]
  refine ⟨hf, ?_⟩
  unfold q_nl
  rw [if_neg]
  intro q
  have q := congrArg Int32.toInt q
  rw [hf, mm_ti (by omega), mm_t1] at q
  omega
theorem q_f0_end {n : Nat} {b : Nat → Int32} (hg : ∀ j, j < n → q_lg b j = true) (hm : n = 0 ∨ n % 3 = 3 - 1) : q_f0 n b = -1 ∧ q_nl n b = (n + 1) / 3 := by
  have hf : q_f0 n b = -1 := by
    unfold q_f0
    rw [q_ff_all n hg]
    unfold q_fin
    rw [if_pos hm]
  refine ⟨hf, ?_⟩
  unfold q_nl
  rw [if_pos hf]
theorem q_ge {x y : Nat} (hx : x < 2147483648) (hy : y < 2147483648) (h : nI y ≤ nI x) : y ≤ x := by
  have h := Int32.le_iff_toInt_le.mp h
  rw [mm_ti hx, mm_ti hy] at h
  omega
theorem q_lt {x y : Nat} (hx : x < 2147483648) (hy : y < 2147483648) (h : ¬ nI y ≤ nI x) : x < y := by
  have h : ¬ (nI y).toInt ≤ (nI x).toInt := fun q => h (Int32.le_iff_toInt_le.mpr q)
  rw [mm_ti hx, mm_ti hy] at h
  omega
theorem q_3 {p : Nat → Prop} {i : Nat} (h : ∀ j, j < 3 * i → p j) (h0 : p (3 * i)) (h1 : p (3 * i + 1)) : ∀ j, j < 3 * i + 2 → p j := by
  intro j hj
  by_cases q : j < 3 * i
  · exact h j q
  · rcases (show j = 3 * i ∨ j = 3 * i + 1 by omega) with rfl | rfl
    · exact h0
    · exact h1
theorem q_s {p : Nat → Prop} {n : Nat} (h : ∀ j, j < n → p j) (h0 : p n) : ∀ j, j < n + 1 → p j := by
  intro j hj
  by_cases q : j < n
  · exact h j q
  · rw [show j = n by omega]; exact h0
theorem q_to {p : Nat → Prop} {m a : Nat} (h : ∀ j, j < m → p j) (h2 : ∀ j, m ≤ j → j < a → p j) : ∀ j, j < a → p j := by
  intro j hj
  by_cases q : j < m
  · exact h j q
  · exact h2 j (by omega) hj

set_option maxHeartbeats 4000000 in
theorem c_X12_fails0 {l : Launch} {G : mm_G} {d : Nat} {M : mm_M} {Q : Int32 → mm_T → mm_M → Prop} (h : ∀ r, r = M 51 7 → Q r T0 (mm_up M 51 8 0)) : mm_met l G d k_X12_fails [.ref 51, .int 0] T0 M (mm_pi Q) := by
  refine mm_enter 0 [.ref 51, .int 0] o_X12_fails rfl rfl ?_
  refine mm_iload_1 1 dX12_fails_0 rfl ?_
  refine mm_if_ne 12 4 dX12_fails_1 (by decide) rfl (fun h => absurd h (by decide)) (fun _ => ?_)
  refine mm_aload_0 5 dX12_fails_4 rfl ?_
  refine mm_iconst 6 0 dX12_fails_5 rfl (by decide) ?_
  refine mm_putI 9 dX12_fails_6 p_X12_138 ⟨rfl, rfl⟩ rfl t_51 rfl ?_
  refine mm_goto 17 dX12_fails_9 (by decide) ?_
  refine mm_aload_0 18 dX12_fails_17 rfl ?_
  refine mm_getI 21 dX12_fails_18 f_X12_132 rfl t_51 rfl ?_
  refine mm_iret dX12_fails_21 rfl ⟨rfl, Nat.zero_le _⟩ ?_
  exact h _ (by simp [mm_up, va_up, upd])

set_option maxHeartbeats 4000000 in
theorem c_X12_fails1 {l : Launch} {G : mm_G} {d : Nat} {M : mm_M} {Q : Int32 → mm_T → mm_M → Prop} (h : ∀ r, r = M 51 7 → Q r T0 (mm_up M 51 10 0)) : mm_met l G d k_X12_fails [.ref 51, .int 1] T0 M (mm_pi Q) := by
  refine mm_enter 0 [.ref 51, .int 1] o_X12_fails rfl rfl ?_
  refine mm_iload_1 1 dX12_fails_0 rfl ?_
  refine mm_if_ne 12 4 dX12_fails_1 (by decide) rfl (fun _ => ?_) (fun h => absurd h (by decide))
  refine mm_aload_0 13 dX12_fails_12 rfl ?_
  refine mm_iconst 14 0 dX12_fails_13 rfl (by decide) ?_
  refine mm_putI 17 dX12_fails_14 p_X12_144 ⟨rfl, rfl⟩ rfl t_51 rfl ?_
  refine mm_aload_0 18 dX12_fails_17 rfl ?_
  refine mm_getI 21 dX12_fails_18 f_X12_132 rfl t_51 rfl ?_
  refine mm_iret dX12_fails_21 rfl ⟨rfl, Nat.zero_le _⟩ ?_
  exact h _ (by simp [mm_up, va_up, upd])

set_option maxHeartbeats 4000000 in
theorem w_X12_reads0 {l : Launch} {G : mm_G} {d : Nat} {M : mm_M} {Q : Int32 → mm_T → mm_M → Prop} {n : Nat} (hn : M 57 0 = nI n) (h20 : n ≤ 20) (h0 : 0 < n) (hB : ∀ j, j < n → 0 ≤ (M 56 j).toInt ∧ (M 56 j).toInt ≤ 255) (h : ∀ M1 : mm_M, M1 51 8 = nI (q_nl n (M 56)) → (∀ j, j < q_nl n (M 56) → M1 58 j = q_lw (M 56) j) → (∀ c, c ≠ 51 → c ≠ 58 → M1 c = M c) → (∀ f, f ≠ 7 → f ≠ 8 → M1 51 f = M 51 f) → Q (q_f0 n (M 56)) T0 M1) : ∀ (k i : Nat) (Mi : mm_M) {x3 : Value}, n - 3 * i ≤ k → Mi 51 7 = nI (3 * i) → Mi 51 8 = nI i → i ≤ 6 → 3 * i ≤ n → (∀ j, j < 3 * i → q_lg (M 56) j = true) → (∀ j, j < i → Mi 58 j = q_lw (M 56) j) → (∀ c, c ≠ 51 → c ≠ 58 → Mi c = M c) → (∀ f, f ≠ 7 → f ≠ 8 → Mi 51 f = M 51 f) → mm_wp l G (d + 3) k_X12_reads (mm_pi Q) 37 [.ref 51, .int 0, .int 1, x3] [] T0 Mi 0 0 := by
  intro k
  induction k using Nat.strongRecOn with | _ k ih => ?_
  intro i Mi x3 hki h7 h8 hi h3 hg hw hK hF
  have hb : Mi 56 = M 56 := hK 56 (by decide) (by decide)
  refine mm_iload_2 38 dX12_reads_37 rfl ?_
  refine mm_if_eq 127 41 dX12_reads_38 (by decide) rfl (fun h => absurd h (by decide)) (fun _ => ?_)
  refine mm_iload_1 42 dX12_reads_41 rfl ?_
  refine mm_if_ne 52 45 dX12_reads_42 (by decide) rfl (fun h => absurd h (by decide)) (fun _ => ?_)
  refine mm_aload_0 46 dX12_reads_45 rfl ?_
  refine mm_cV0i 49 dX12_reads_46 v_X12_147 rfl t_51 (by decide) rfl rfl (Nat.le_of_ble_eq_true rfl) ⟨rfl, rfl⟩ ⟨Nat.zero_le _, Nat.zero_le _⟩ (c_X12_readsLandR (n := n) (i := i) (by rw [hK 57 (by decide) (by decide)]; exact hn) h20 h7 h8 hi (by rw [hb]; exact hB) (fun M2 g1 g2 g3 f7 f8 f58 fc ff => ?_) (fun M2 a a1 a2 a3 f7 fc ff => ?_))
  · refine mm_goto 56 dX12_reads_49 (by decide) ?_
    refine mm_istore_3 57 dX12_reads_56 rfl rfl ?_
    refine mm_iload_3 58 dX12_reads_57 rfl ?_
    refine mm_if_ne 67 61 dX12_reads_58 (by decide) rfl (fun _ => ?_) (fun h => absurd h (by decide))
    refine mm_aload_0 68 dX12_reads_67 rfl ?_
    refine mm_getI 71 dX12_reads_68 f_X12_132 rfl t_51 rfl ?_
    refine mm_aload_0 72 dX12_reads_71 rfl ?_
    refine mm_getR 75 dX12_reads_72 f_X12_25 rfl t_51 rfl ?_
    refine mm_iload_1 76 dX12_reads_75 rfl ?_
    refine mm_ialoadn 77 (0) dX12_reads_76 rfl t_57 (by decide) (rfl) (by decide) ?_
    refine mm_ic_ge 84 80 dX12_reads_77 (by decide) rfl (fun h1 => ?_) (fun h1 => ?_)
    · refine mm_iconst 85 0 dX12_reads_84 rfl (by decide) ?_
      refine mm_istore_2 86 dX12_reads_85 rfl rfl ?_
      refine mm_iload_2 87 dX12_reads_86 rfl ?_
      refine mm_if_eq 106 90 dX12_reads_87 (by decide) rfl (fun _ => ?_) (fun h => absurd h (by decide))
      refine mm_aload_0 107 dX12_reads_106 rfl ?_
      refine mm_dup 108 dX12_reads_107 rfl rfl ?_
      refine mm_getI 111 dX12_reads_108 f_X12_132 rfl t_51 rfl ?_
      refine mm_iload_2 112 dX12_reads_111 rfl ?_
      refine mm_if_eq 119 115 dX12_reads_112 (by decide) rfl (fun _ => ?_) (fun h => absurd h (by decide))
      refine mm_iconst 120 0 dX12_reads_119 rfl (by decide) ?_
      refine mm_iadd 121 dX12_reads_120 rfl ?_
      refine mm_putI 124 dX12_reads_121 p_X12_132 ⟨rfl, rfl⟩ rfl t_51 rfl ?_
      refine mm_goto 37 dX12_reads_124 (by decide) ?_
      refine mm_iload_2 38 dX12_reads_37 rfl ?_
      refine mm_if_eq 127 41 dX12_reads_38 (by decide) rfl (fun _ => ?_) (fun h => absurd h (by decide))
      refine mm_iconst 128 (-1) dX12_reads_127 rfl (by decide) ?_
      refine mm_iret dX12_reads_128 rfl ⟨rfl, Nat.zero_le _⟩ ?_
      rw [f7, fc 57 (by decide) (by decide), hK 57 (by decide) (by decide), hn] at h1
      rw [hb] at g2 g3
      have hz : n = 3 * i + 2 := by have := q_ge (by omega) (by omega) h1; omega
      have hf := q_f0_end (n := n) (b := M 56) (by rw [hz]; exact q_3 hg g2 g3) (by omega)
      have hz2 : q_nl n (M 56) = i + 1 := by rw [hf.2]; omega
      rw [← hf.1]
      refine h _ (by rw [hz2]; simp [mm_up, va_up, upd, f8]) (fun j hj => ?_) (fun c c1 c2 => by rw [mm_upn _ _ _ c1, fc c c1 c2]; exact hK c c1 c2) (fun f f1 f2 => by simp only [mm_up, va_up, upd, if_true, if_neg f1]; rw [ff f f1 f2]; exact hF f f1 f2)
      rw [hz2] at hj
      rw [mm_upn _ _ _ (by decide), f58, hb]
      exact mm_updlt hw rfl j hj
    · refine mm_iconst 81 1 dX12_reads_80 rfl (by decide) ?_
      refine mm_goto 85 dX12_reads_81 (by decide) ?_
      refine mm_istore_2 86 dX12_reads_85 rfl rfl ?_
      refine mm_iload_2 87 dX12_reads_86 rfl ?_
      refine mm_if_eq 106 90 dX12_reads_87 (by decide) rfl (fun h => absurd h (by decide)) (fun _ => ?_)
      refine mm_aload_0 91 dX12_reads_90 rfl ?_
      refine mm_iload_1 92 dX12_reads_91 rfl ?_
      refine mm_cV1i 95 dX12_reads_92 v_X12_135 rfl t_51 (by decide) rfl rfl (Nat.le_of_ble_eq_true rfl) ⟨rfl, rfl⟩ ⟨Nat.zero_le _, Nat.zero_le _⟩ (c_X12_here (t := 0) (n := n) (a := 3 * i + 2) (by omega) (by rw [fc 57 (by decide) (by decide), hK 57 (by decide) (by decide)]; exact hn) (by omega) f7 (by omega) rfl (fun r2 e3 => ?_))
      refine mm_bipush 97 59 dX12_reads_95 rfl (by decide) ?_
      refine mm_ic_eq 106 100 dX12_reads_97 (by decide) rfl (fun h4 => ?_) (fun h4 => ?_)
      · refine mm_aload_0 107 dX12_reads_106 rfl ?_
        refine mm_dup 108 dX12_reads_107 rfl rfl ?_
        refine mm_getI 111 dX12_reads_108 f_X12_132 rfl t_51 rfl ?_
        refine mm_iload_2 112 dX12_reads_111 rfl ?_
        refine mm_if_eq 119 115 dX12_reads_112 (by decide) rfl (fun h => absurd h (by decide)) (fun _ => ?_)
        refine mm_iconst 116 1 dX12_reads_115 rfl (by decide) ?_
        refine mm_goto 120 dX12_reads_116 (by decide) ?_
        refine mm_iadd 121 dX12_reads_120 rfl ?_
        refine mm_putI 124 dX12_reads_121 p_X12_132 ⟨rfl, rfl⟩ rfl t_51 rfl ?_
        refine mm_goto 37 dX12_reads_124 (by decide) ?_
        rw [f7, fc 57 (by decide) (by decide), hK 57 (by decide) (by decide), hn] at h1
        rw [hb] at g2 g3
        have hz : 3 * i + 2 < n := q_lt (by omega) (by omega) h1
        rw [if_pos hz, fc 56 (by decide) (by decide), hb, Nat.mul_zero, Nat.zero_add] at e3
        have i6 : i < 6 := by
          unfold q_lg at g2
          rw [if_neg (by omega)] at g2
          have g2 := of_decide_eq_true g2
          omega
        have hl : q_lg (M 56) (3 * i + 2) = true := by
          unfold q_lg
          rw [if_pos (by omega), ← e3, h4]
          rfl
        refine ih (n - (3 * i + 3)) (by omega) (i + 1) _ (by omega) (by rw [mm_upv, f7, show 3 * (i + 1) = 3 * i + 2 + 1 by omega]; exact nI_1 _) (by simp [mm_up, va_up, upd, f8]) (by omega) (by omega) (q_s (q_3 hg g2 g3) hl) (fun j hj => ?_) (fun c c1 c2 => by rw [mm_upn _ _ _ c1, fc c c1 c2]; exact hK c c1 c2) (fun f f1 f2 => by simp only [mm_up, va_up, upd, if_true, if_neg f1]; rw [ff f f1 f2]; exact hF f f1 f2)
        rw [mm_upn _ _ _ (by decide), f58, hb]
        exact mm_updlt hw rfl j hj
      · refine mm_aload_0 101 dX12_reads_100 rfl ?_
        refine mm_iload_1 102 dX12_reads_101 rfl ?_
        refine mm_cV1i 105 dX12_reads_102 v_X12_154 rfl t_51 (by decide) rfl rfl (Nat.le_of_ble_eq_true rfl) ⟨rfl, rfl⟩ ⟨Nat.zero_le _, Nat.zero_le _⟩ (c_X12_fails0 (fun r5 e6 => ?_))
        refine mm_iret dX12_reads_105 rfl ⟨rfl, Nat.zero_le _⟩ ?_
        rw [f7, fc 57 (by decide) (by decide), hK 57 (by decide) (by decide), hn] at h1
        rw [hb] at g2 g3
        have hz : 3 * i + 2 < n := q_lt (by omega) (by omega) h1
        rw [if_pos hz, fc 56 (by decide) (by decide), hb, Nat.mul_zero, Nat.zero_add] at e3
        have hl : q_lg (M 56) (3 * i + 2) = false := by
          unfold q_lg
          rw [if_pos (by omega)]
          refine decide_eq_false (fun q => h4 ?_)
          rw [e3]
          exact Int32.toInt_inj.mp q
        have hf := q_f0_at (b := M 56) (a := 3 * i + 2) h20 (by omega) (q_3 hg g2 g3) (Or.inr hl) (by omega)
        rw [e6, f7, ← hf.1]
        exact h _ (by rw [mm_upv, hf.2]; rfl) (fun j hj => by omega) (fun c c1 c2 => by rw [mm_upn _ _ _ c1, fc c c1 c2]; exact hK c c1 c2) (fun f f1 f2 => by simp only [mm_up, va_up, upd, if_true, if_neg f2]; rw [ff f f1 f2]; exact hF f f1 f2)
  · refine mm_goto 56 dX12_reads_49 (by decide) ?_
    refine mm_istore_3 57 dX12_reads_56 rfl rfl ?_
    refine mm_iload_3 58 dX12_reads_57 rfl ?_
    refine mm_if_ne 67 61 dX12_reads_58 (by decide) rfl (fun h => absurd h (by decide)) (fun _ => ?_)
    refine mm_aload_0 62 dX12_reads_61 rfl ?_
    refine mm_iload_1 63 dX12_reads_62 rfl ?_
    refine mm_cV1i 66 dX12_reads_63 v_X12_154 rfl t_51 (by decide) rfl rfl (Nat.le_of_ble_eq_true rfl) ⟨rfl, rfl⟩ ⟨Nat.zero_le _, Nat.zero_le _⟩ (c_X12_fails0 (fun r7 e8 => ?_))
    refine mm_iret dX12_reads_66 rfl ⟨rfl, Nat.zero_le _⟩ ?_
    rw [hb] at a2 a3
    have hf := q_f0_at (b := M 56) (a := a) h20 (by omega) (q_to hg a2) a3 (by omega)
    rw [e8, f7, ← hf.1]
    exact h _ (by rw [mm_upv, hf.2]; rfl) (fun j hj => by omega) (fun c c1 c2 => by rw [mm_upn _ _ _ c1, fc c c1]; exact hK c c1 c2) (fun f f1 f2 => by simp only [mm_up, va_up, upd, if_true, if_neg f2]; rw [ff f f1]; exact hF f f1 f2)

