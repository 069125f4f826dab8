/-! Calls on sheets: what they answer and change; the class -/
def lk (B : mm_M) (k : Nat) (f i : Int32) : Int32 := if B 52 k = -1 then 1 else if ¬ B 52 k = f then 3 else if 0 ≤ i.toInt ∧ i.toInt < (B 53 k).toInt then 0 else 2
def z_sheet (s f n : Int32) : Int32 := if ((0 ≤ s.toInt ∧ s.toInt ≤ 3) ∧ 0 ≤ f.toInt ∧ f.toInt ≤ 2) ∧ n.toInt ≤ 60 then (if n.toInt < 0 then -15 else n) else -2
def sh_c (A : mm_M) (s f n : Int32) : mm_M := if ((0 ≤ s.toInt ∧ s.toInt ≤ 3) ∧ 0 ≤ f.toInt ∧ f.toInt ≤ 2) ∧ n.toInt ≤ 60 then (if n.toInt < 0 then mm_up A 0 11 5 else rn A (43 + 2 * s.toNatClampNeg) (44 + 2 * s.toNatClampNeg) f n) else A
def z_lose (B : mm_M) (s : Int32) : Int32 := if 0 ≤ s.toInt ∧ s.toInt ≤ 3 then (if B 52 s.toNatClampNeg = -1 then -11 else B 53 s.toNatClampNeg) else -2
def lo_c (A : mm_M) (s : Int32) : mm_M := if 0 ≤ s.toInt ∧ s.toInt ≤ 3 then (if A 52 s.toNatClampNeg = -1 then mm_up A 0 11 1 else mm_up A (43 + 2 * s.toNatClampNeg) 2 (-1)) else A
def z_lay (B : mm_M) (s f i : Int32) : Int32 := if (0 ≤ s.toInt ∧ s.toInt ≤ 3) ∧ 0 ≤ f.toInt ∧ f.toInt ≤ 2 then (if lk B s.toNatClampNeg f i = 0 then 1 else -10 - lk B s.toNatClampNeg f i) else -2
def la_c (A : mm_M) (s f i v : Int32) : mm_M := if (0 ≤ s.toInt ∧ s.toInt ≤ 3) ∧ 0 ≤ f.toInt ∧ f.toInt ≤ 2 then (if lk A s.toNatClampNeg f i = 0 then mm_up A (44 + 2 * s.toNatClampNeg) i.toNatClampNeg (g_cut f v) else mm_up A 0 11 (lk A s.toNatClampNeg f i)) else A
def z_get (B : mm_M) (s f i : Int32) : Int32 := if (0 ≤ s.toInt ∧ s.toInt ≤ 3) ∧ 0 ≤ f.toInt ∧ f.toInt ≤ 2 then (if lk B s.toNatClampNeg f i = 0 then B 54 (60 * s.toNatClampNeg + i.toNatClampNeg) else -2147483648) else -2147483648
def ge_c (A : mm_M) (s f i : Int32) : mm_M := if (0 ≤ s.toInt ∧ s.toInt ≤ 3) ∧ 0 ≤ f.toInt ∧ f.toInt ≤ 2 then (if lk A s.toNatClampNeg f i = 0 then A else mm_up A 0 11 (lk A s.toNatClampNeg f i)) else A
def sp (B : mm_M) (k : Nat) (i n : Int32) : Prop := 0 ≤ i.toInt ∧ 0 ≤ n.toInt ∧ i.toInt + n.toInt ≤ (B 53 k).toInt
def ck (B : mm_M) (k k2 : Nat) (i j n : Int32) : Int32 := if B 52 k = -1 ∨ B 52 k2 = -1 then 1 else if ¬ B 52 k = B 52 k2 then 4 else if (0 ≤ i.toInt ∧ 0 ≤ n.toInt ∧ i.toInt + n.toInt ≤ (B 53 k).toInt) ∧ 0 ≤ j.toInt ∧ 0 ≤ n.toInt ∧ j.toInt + n.toInt ≤ (B 53 k2).toInt then 0 else 2
def z_copy (B : mm_M) (s i t j n : Int32) : Int32 := if (0 ≤ s.toInt ∧ s.toInt ≤ 3) ∧ 0 ≤ t.toInt ∧ t.toInt ≤ 3 then (if ck B s.toNatClampNeg t.toNatClampNeg i j n = 0 then 1 else -10 - ck B s.toNatClampNeg t.toNatClampNeg i j n) else -2
def co_c (A : mm_M) (s i t j n : Int32) : mm_M := if (0 ≤ s.toInt ∧ s.toInt ≤ 3) ∧ 0 ≤ t.toInt ∧ t.toInt ≤ 3 then (if ck A s.toNatClampNeg t.toNatClampNeg i j n = 0 then va_up A (44 + 2 * t.toNatClampNeg) (va_cpy (A (44 + 2 * s.toNatClampNeg)) (A (44 + 2 * t.toNatClampNeg)) i.toNatClampNeg j.toNatClampNeg n.toNatClampNeg) else mm_up A 0 11 (ck A s.toNatClampNeg t.toNatClampNeg i j n)) else A
theorem bs_c {k : Nat} (h : k < 4) : bs (43 + 2 * k) = true ∧ bs (44 + 2 * k) = true := by
  rcases (show k = 0 ∨ k = 1 ∨ k = 2 ∨ k = 3 by omega) with rfl | rfl | rfl | rfl <;> decide
theorem fr.rowb {B M : mm_M} (h : fr B M) {c : Nat} {f g : Nat → Int32} (e : f = g) (hc : c ≠ 51) : fr (va_up B c f) (va_up M c g) := by
  subst e
  refine ⟨fun c' q => ?_, ?_, ?_, ?_⟩
  · simp only [va_up]; split
    · rfl
    · exact h.1 c' q
  · simp [va_up, Ne.symm hc]; exact h.2.1
  · simp [va_up, Ne.symm hc]; exact h.2.2.1
  · simp [va_up, Ne.symm hc]; exact h.2.2.2
theorem iv.sh {A M : mm_M} (hi : iv A) (hf : fr A M) {k : Nat} (hk : k < 4) : (M (43 + 2 * k) 2 = -1 ↔ A 52 k = -1) ∧ (¬ A 52 k = -1 → M (43 + 2 * k) 1 = A 52 k ∧ M (43 + 2 * k) 2 = A 53 k ∧ ∀ i : Nat, (i : Int) < (A 53 k).toInt → M (44 + 2 * k) i = A 54 (60 * k + i)) ∧ ((-1 ≤ (A 52 k).toInt ∧ (A 52 k).toInt ≤ 2) ∧ 0 ≤ (A 53 k).toInt ∧ (A 53 k).toInt ≤ 60) ∧ -1 ≤ (M (43 + 2 * k) 2).toInt ∧ (M (43 + 2 * k) 2).toInt ≤ 60 := by
  have ok := hi.1.2.2.2.2.2.2.2 k hk
  obtain ⟨a, b⟩ := hi.2.2.2.2.2.2 k hk
  rw [hf.a _ (bs_c hk).1, hf.a _ (bs_c hk).2]
  refine ⟨⟨fun q => Classical.byContradiction (fun n => ?_), a⟩, b, ok, ?_⟩
  · have := (b n).2.1
    rw [this] at q
    rw [q, mm_t1] at ok
    omega
  · by_cases n : A 52 k = -1
    · rw [a n, mm_t1]; omega
    · rw [(b n).2.1]; omega

set_option maxHeartbeats 4000000 in
theorem c_X11_sheet {l : Launch} {G : mm_G} {d : Nat} {M : mm_M} {Q : Int32 → mm_T → mm_M → Prop} {A : mm_M} (hi : iv A) (hf : fr A M) {s f n : Int32} (h : ∀ r M1, r = z_sheet s f n → fr (sh_c A s f n) M1 → Q r T0 M1) : mm_met l G (d + 2) k_X11_sheet [.ref 0, .int s, .int f, .int n] T0 M (mm_pi Q) := by
  refine mm_enter 1 [.ref 0, .int s, .int f, .int n, .double 0] o_X11_sheet rfl rfl ?_
  refine mm_aload_0 1 dX11_sheet_0 rfl ?_
  refine mm_iload_1 2 dX11_sheet_1 rfl ?_
  refine mm_cV1r 5 dX11_sheet_2 v_X11_171 rfl t_0 (by decide) rfl rfl (Nat.le_of_ble_eq_true rfl) ⟨rfl, rfl⟩ ⟨Nat.zero_le _, Nat.zero_le _⟩ (c_X11_sheetAt (fun k hk es => ?_) (fun h1 => ?_))
  · refine mm_astore_4 7 dX11_sheet_5 rfl rfl ?_
    refine mm_aload_4 9 dX11_sheet_7 rfl ?_
    refine mm_nullR 12 dX11_sheet_9 rfl ?_
    have sk : s.toNatClampNeg = k := by rw [es]; exact mm_cn (by omega)
    have si : s.toInt = k := by rw [es]; exact mm_ti (by omega)
    have sh := hi.sh hf hk
    refine mm_iload_2 13 dX11_sheet_12 rfl ?_
    refine mm_cS1i 16 dX11_sheet_13 v_X11_261 rfl (Nat.le_of_ble_eq_true rfl) ⟨rfl, rfl⟩ ⟨Nat.zero_le _, Nat.zero_le _⟩ (c_X11_isForm  (fun h2 => ?_) (fun h2 => ?_))
    · refine mm_if_eq 25 19 dX11_sheet_16 (by decide) rfl (fun h => absurd h (by decide)) (fun _ => ?_)
      refine mm_iload_3 20 dX11_sheet_19 rfl ?_
      refine mm_bipush 22 60 dX11_sheet_20 rfl (by decide) ?_
      refine mm_ic_le 28 25 dX11_sheet_22 (by decide) rfl (fun h3 => ?_) (fun h3 => ?_)
      · refine mm_iload_3 29 dX11_sheet_28 rfl ?_
        refine mm_if_ge 38 32 dX11_sheet_29 (by decide) rfl (fun h4 => ?_) (fun h4 => ?_)
        · refine mm_aload_4 40 dX11_sheet_38 rfl ?_
          refine mm_iload_2 41 dX11_sheet_40 rfl ?_
          refine mm_iload_3 42 dX11_sheet_41 rfl ?_
          refine mm_cV2v 45 dX11_sheet_42 v_X11_264 rfl (t_sh hk).1 (by decide) rfl rfl (Nat.le_of_ble_eq_true rfl) ⟨rfl, rfl⟩ ⟨Nat.zero_le _, Nat.zero_le _⟩ (c_X5_renew (t_sh hk).1 (t_sh hk).2 (by (try simp only [Int32.lt_iff_toInt_lt, Int32.le_iff_toInt_le, ← Int32.toInt_inj, vp_in_iff, Int32.reduceToInt, mm_t1, mm_t2, mm_t3, mm_t4, mm_t10] at h2 h3 h4 ⊢); omega) ?_)
          refine mm_iload_3 46 dX11_sheet_45 rfl ?_
          refine mm_iret dX11_sheet_46 rfl ⟨rfl, Nat.zero_le _⟩ ?_
          refine h _ _ ?_ ?_
          · unfold z_sheet
            rw [if_pos (by (try simp only [Int32.lt_iff_toInt_lt, Int32.le_iff_toInt_le, ← Int32.toInt_inj, vp_in_iff, Int32.reduceToInt, mm_t1, mm_t2, mm_t3, mm_t4, mm_t10] at h2 h3 h4 ⊢); omega), if_neg (by (try simp only [Int32.lt_iff_toInt_lt, Int32.le_iff_toInt_le, ← Int32.toInt_inj, vp_in_iff, Int32.reduceToInt, mm_t1, mm_t2, mm_t3, mm_t4, mm_t10] at h2 h3 h4 ⊢); omega)]
          · unfold sh_c
            rw [if_pos (by (try simp only [Int32.lt_iff_toInt_lt, Int32.le_iff_toInt_le, ← Int32.toInt_inj, vp_in_iff, Int32.reduceToInt, mm_t1, mm_t2, mm_t3, mm_t4, mm_t10] at h2 h3 h4 ⊢); omega), if_neg (by (try simp only [Int32.lt_iff_toInt_lt, Int32.le_iff_toInt_le, ← Int32.toInt_inj, vp_in_iff, Int32.reduceToInt, mm_t1, mm_t2, mm_t3, mm_t4, mm_t10] at h2 h3 h4 ⊢); omega)]
            rw [sk]
            exact ((hf.both _ _ _).both _ _ _).rowb (funext (fun j => by split; rfl; rw [(((hf.both (43 + 2 * k) 1 f).both (43 + 2 * k) 2 n).a _ (bs_c hk).2)])) (by omega)
        · refine mm_aload_0 33 dX11_sheet_32 rfl ?_
          refine mm_iconst 34 5 dX11_sheet_33 rfl (by decide) ?_
          refine mm_cV1i 37 dX11_sheet_34 v_X11_178 rfl t_0 (by decide) rfl rfl (Nat.le_of_ble_eq_true rfl) ⟨rfl, rfl⟩ ⟨Nat.zero_le _, Nat.zero_le _⟩ (c_X11_finding (fun r5 e5 => ?_))
          refine mm_iret dX11_sheet_37 rfl ⟨rfl, Nat.zero_le _⟩ ?_
          refine h _ _ ?_ ?_
          · unfold z_sheet
            rw [if_pos (by (try simp only [Int32.lt_iff_toInt_lt, Int32.le_iff_toInt_le, ← Int32.toInt_inj, vp_in_iff, Int32.reduceToInt, mm_t1, mm_t2, mm_t3, mm_t4, mm_t10] at h2 h3 h4 ⊢); omega), if_pos (by (try simp only [Int32.lt_iff_toInt_lt, Int32.le_iff_toInt_le, ← Int32.toInt_inj, vp_in_iff, Int32.reduceToInt, mm_t1, mm_t2, mm_t3, mm_t4, mm_t10] at h2 h3 h4 ⊢); omega)]
            rw [e5]; rfl
          · unfold sh_c
            rw [if_pos (by (try simp only [Int32.lt_iff_toInt_lt, Int32.le_iff_toInt_le, ← Int32.toInt_inj, vp_in_iff, Int32.reduceToInt, mm_t1, mm_t2, mm_t3, mm_t4, mm_t10] at h2 h3 h4 ⊢); omega), if_pos (by (try simp only [Int32.lt_iff_toInt_lt, Int32.le_iff_toInt_le, ← Int32.toInt_inj, vp_in_iff, Int32.reduceToInt, mm_t1, mm_t2, mm_t3, mm_t4, mm_t10] at h2 h3 h4 ⊢); omega)]
            exact hf.both _ _ _
      · refine mm_bipush 27 (-2) dX11_sheet_25 rfl (by decide) ?_
        refine mm_iret dX11_sheet_27 rfl ⟨rfl, Nat.zero_le _⟩ ?_
        refine h _ _ ?_ ?_
        · unfold z_sheet
          rw [if_neg (by (try simp only [Int32.lt_iff_toInt_lt, Int32.le_iff_toInt_le, ← Int32.toInt_inj, vp_in_iff, Int32.reduceToInt, mm_t1, mm_t2, mm_t3, mm_t4, mm_t10] at h2 h3 ⊢); omega)]
        · unfold sh_c
          rw [if_neg (by (try simp only [Int32.lt_iff_toInt_lt, Int32.le_iff_toInt_le, ← Int32.toInt_inj, vp_in_iff, Int32.reduceToInt, mm_t1, mm_t2, mm_t3, mm_t4, mm_t10] at h2 h3 ⊢); omega)]
          exact hf
    · refine mm_if_eq 25 19 dX11_sheet_16 (by decide) rfl (fun _ => ?_) (fun h => absurd h (by decide))
      refine mm_bipush 27 (-2) dX11_sheet_25 rfl (by decide) ?_
      refine mm_iret dX11_sheet_27 rfl ⟨rfl, Nat.zero_le _⟩ ?_
      refine h _ _ ?_ ?_
      · unfold z_sheet
        rw [if_neg (by (try simp only [Int32.lt_iff_toInt_lt, Int32.le_iff_toInt_le, ← Int32.toInt_inj, vp_in_iff, Int32.reduceToInt, mm_t1, mm_t2, mm_t3, mm_t4, mm_t10] at h2 ⊢); omega)]
      · unfold sh_c
        rw [if_neg (by (try simp only [Int32.lt_iff_toInt_lt, Int32.le_iff_toInt_le, ← Int32.toInt_inj, vp_in_iff, Int32.reduceToInt, mm_t1, mm_t2, mm_t3, mm_t4, mm_t10] at h2 ⊢); omega)]
        exact hf
  · refine mm_nstore_4 7 dX11_sheet_5 rfl rfl ?_
    refine mm_nload_4 9 dX11_sheet_7 rfl ?_
    refine mm_nullN 25 dX11_sheet_9 (by decide) ?_
    refine mm_bipush 27 (-2) dX11_sheet_25 rfl (by decide) ?_
    refine mm_iret dX11_sheet_27 rfl ⟨rfl, Nat.zero_le _⟩ ?_
    refine h _ _ ?_ ?_
    · unfold z_sheet
      rw [if_neg (by (try simp only [Int32.lt_iff_toInt_lt, Int32.le_iff_toInt_le, ← Int32.toInt_inj, vp_in_iff, Int32.reduceToInt, mm_t1, mm_t2, mm_t3, mm_t4, mm_t10] at h1 ⊢); omega)]
    · unfold sh_c
      rw [if_neg (by (try simp only [Int32.lt_iff_toInt_lt, Int32.le_iff_toInt_le, ← Int32.toInt_inj, vp_in_iff, Int32.reduceToInt, mm_t1, mm_t2, mm_t3, mm_t4, mm_t10] at h1 ⊢); omega)]
      exact hf

set_option maxHeartbeats 4000000 in
theorem c_X11_lose {l : Launch} {G : mm_G} {d : Nat} {M : mm_M} {Q : Int32 → mm_T → mm_M → Prop} {A : mm_M} (hi : iv A) (hf : fr A M) {s : Int32} (h : ∀ r M1, r = z_lose A s → fr (lo_c A s) M1 → Q r T0 M1) : mm_met l G (d + 2) k_X11_lose [.ref 0, .int s] T0 M (mm_pi Q) := by
  refine mm_enter 2 [.ref 0, .int s, .double 0, .double 0] o_X11_lose rfl rfl ?_
  refine mm_aload_0 1 dX11_lose_0 rfl ?_
  refine mm_iload_1 2 dX11_lose_1 rfl ?_
  refine mm_cV1r 5 dX11_lose_2 v_X11_171 rfl t_0 (by decide) rfl rfl (Nat.le_of_ble_eq_true rfl) ⟨rfl, rfl⟩ ⟨Nat.zero_le _, Nat.zero_le _⟩ (c_X11_sheetAt (fun k hk es => ?_) (fun h1 => ?_))
  · refine mm_astore_2 6 dX11_lose_5 rfl rfl ?_
    refine mm_aload_2 7 dX11_lose_6 rfl ?_
    refine mm_nonnullR 13 dX11_lose_7 (by decide) ?_
    have sk : s.toNatClampNeg = k := by rw [es]; exact mm_cn (by omega)
    have si : s.toInt = k := by rw [es]; exact mm_ti (by omega)
    have sh := hi.sh hf hk
    refine mm_aload_2 14 dX11_lose_13 rfl ?_
    refine mm_cV0i 17 dX11_lose_14 v_X11_175 rfl (t_sh hk).1 (by decide) rfl rfl (Nat.le_of_ble_eq_true rfl) ⟨rfl, rfl⟩ ⟨Nat.zero_le _, Nat.zero_le _⟩ (c_X5_isLost (t_sh hk).1 (t_sh hk).2 (fun h2 => ?_) (fun h2 => ?_))
    · refine mm_if_eq 26 20 dX11_lose_17 (by decide) rfl (fun h => absurd h (by decide)) (fun _ => ?_)
      refine mm_aload_0 21 dX11_lose_20 rfl ?_
      refine mm_iconst 22 1 dX11_lose_21 rfl (by decide) ?_
      refine mm_cV1i 25 dX11_lose_22 v_X11_178 rfl t_0 (by decide) rfl rfl (Nat.le_of_ble_eq_true rfl) ⟨rfl, rfl⟩ ⟨Nat.zero_le _, Nat.zero_le _⟩ (c_X11_finding (fun r3 e3 => ?_))
      refine mm_iret dX11_lose_25 rfl ⟨rfl, Nat.zero_le _⟩ ?_
      refine h _ _ ?_ ?_
      · unfold z_lose
        rw [if_pos (by omega), sk, if_pos (sh.1.mp h2)]
        rw [e3]; rfl
      · unfold lo_c
        rw [if_pos (by omega), sk, if_pos (sh.1.mp h2)]
        exact hf.both _ _ _
    · refine mm_if_eq 26 20 dX11_lose_17 (by decide) rfl (fun _ => ?_) (fun h => absurd h (by decide))
      refine mm_aload_2 27 dX11_lose_26 rfl ?_
      refine mm_cV0i 30 dX11_lose_27 v_X11_181 rfl (t_sh hk).1 (by decide) rfl rfl (Nat.le_of_ble_eq_true rfl) ⟨rfl, rfl⟩ ⟨Nat.zero_le _, Nat.zero_le _⟩ (c_X5_size (t_sh hk).1 (t_sh hk).2 (fun r4 e4 => ?_))
      refine mm_istore_3 31 dX11_lose_30 rfl rfl ?_
      refine mm_aload_2 32 dX11_lose_31 rfl ?_
      refine mm_cV0v 35 dX11_lose_32 v_X11_267 rfl (t_sh hk).1 (by decide) rfl rfl (Nat.le_of_ble_eq_true rfl) ⟨rfl, rfl⟩ ⟨Nat.zero_le _, Nat.zero_le _⟩ (c_X5_drop (t_sh hk).1 (t_sh hk).2 ?_)
      refine mm_iload_3 36 dX11_lose_35 rfl ?_
      refine mm_iret dX11_lose_36 rfl ⟨rfl, Nat.zero_le _⟩ ?_
      refine h _ _ ?_ ?_
      · unfold z_lose
        rw [if_pos (by omega), sk, if_neg (fun q => h2 (sh.1.mpr q))]
        rw [e4]; exact (sh.2.1 (fun q => h2 (sh.1.mpr q))).2.1
      · unfold lo_c
        rw [if_pos (by omega), sk, if_neg (fun q => h2 (sh.1.mpr q))]
        exact hf.both _ _ _
  · refine mm_nstore_2 6 dX11_lose_5 rfl rfl ?_
    refine mm_nload_2 7 dX11_lose_6 rfl ?_
    refine mm_nonnullN 10 dX11_lose_7 rfl ?_
    refine mm_bipush 12 (-2) dX11_lose_10 rfl (by decide) ?_
    refine mm_iret dX11_lose_12 rfl ⟨rfl, Nat.zero_le _⟩ ?_
    refine h _ _ ?_ ?_
    · unfold z_lose
      rw [if_neg (by (try simp only [Int32.lt_iff_toInt_lt, Int32.le_iff_toInt_le, ← Int32.toInt_inj, vp_in_iff, Int32.reduceToInt, mm_t1, mm_t2, mm_t3, mm_t4, mm_t10] at h1 ⊢); omega)]
    · unfold lo_c
      rw [if_neg (by (try simp only [Int32.lt_iff_toInt_lt, Int32.le_iff_toInt_le, ← Int32.toInt_inj, vp_in_iff, Int32.reduceToInt, mm_t1, mm_t2, mm_t3, mm_t4, mm_t10] at h1 ⊢); omega)]
      exact hf

set_option maxHeartbeats 4000000 in
theorem c_X11_itemRefusal {l : Launch} {G : mm_G} {d : Nat} {M : mm_M} {Q : Int32 → mm_T → mm_M → Prop} {A : mm_M} (hi : iv A) (hf : fr A M) {k : Nat} (hk : k < 4) {f i : Int32} (k0 : lk A k f i = 0 → Q 0 T0 M) (k1 : lk A k f i = 1 → Q (-11) T0 (mm_up M 0 11 1)) (k2 : lk A k f i = 2 → Q (-12) T0 (mm_up M 0 11 2)) (k3 : lk A k f i = 3 → Q (-13) T0 (mm_up M 0 11 3)) : mm_met l G (d + 1) k_X11_itemRefusal [.ref 0, .ref (43 + 2 * k), .int f, .int i] T0 M (mm_pi Q) := by
  have sh := hi.sh hf hk
  refine mm_enter 0 [.ref 0, .ref (43 + 2 * k), .int f, .int i] o_X11_itemRefusal rfl rfl ?_
  refine mm_aload_1 1 dX11_itemRefusal_0 rfl ?_
  refine mm_cV0i 4 dX11_itemRefusal_1 v_X11_175 rfl (t_sh hk).1 (by decide) rfl rfl (Nat.le_of_ble_eq_true rfl) ⟨rfl, rfl⟩ ⟨Nat.zero_le _, Nat.zero_le _⟩ (c_X5_isLost (t_sh hk).1 (t_sh hk).2 (fun h1 => ?_) (fun h1 => ?_))
  · refine mm_if_eq 13 7 dX11_itemRefusal_4 (by decide) rfl (fun h => absurd h (by decide)) (fun _ => ?_)
    refine mm_aload_0 8 dX11_itemRefusal_7 rfl ?_
    refine mm_iconst 9 1 dX11_itemRefusal_8 rfl (by decide) ?_
    refine mm_cV1i 12 dX11_itemRefusal_9 v_X11_178 rfl t_0 (by decide) rfl rfl (Nat.le_of_ble_eq_true rfl) ⟨rfl, rfl⟩ ⟨Nat.zero_le _, Nat.zero_le _⟩ (c_X11_finding (fun r2 e2 => ?_))
    refine mm_iret dX11_itemRefusal_12 rfl ⟨rfl, Nat.zero_le _⟩ ?_
    rw [e2]
    exact k1 (by unfold lk; rw [if_pos (sh.1.mp h1)])
  · refine mm_if_eq 13 7 dX11_itemRefusal_4 (by decide) rfl (fun _ => ?_) (fun h => absurd h (by decide))
    refine mm_aload_1 14 dX11_itemRefusal_13 rfl ?_
    refine mm_cV0i 17 dX11_itemRefusal_14 v_X11_278 rfl (t_sh hk).1 (by decide) rfl rfl (Nat.le_of_ble_eq_true rfl) ⟨rfl, rfl⟩ ⟨Nat.zero_le _, Nat.zero_le _⟩ (c_X5_form (t_sh hk).1 (t_sh hk).2 (fun r3 e3 => ?_))
    refine mm_iload_2 18 dX11_itemRefusal_17 rfl ?_
    refine mm_ic_eq 27 21 dX11_itemRefusal_18 (by decide) rfl (fun h4 => ?_) (fun h4 => ?_)
    · refine mm_aload_1 28 dX11_itemRefusal_27 rfl ?_
      refine mm_iload_3 29 dX11_itemRefusal_28 rfl ?_
      refine mm_cV1i 32 dX11_itemRefusal_29 v_X11_364 rfl (t_sh hk).1 (by decide) rfl rfl (Nat.le_of_ble_eq_true rfl) ⟨rfl, rfl⟩ ⟨Nat.zero_le _, Nat.zero_le _⟩ (c_X5_hasItem (t_sh hk).1 (t_sh hk).2 (fun h5 => ?_) (fun h5 => ?_))
      · refine mm_if_eq 39 35 dX11_itemRefusal_32 (by decide) rfl (fun h => absurd h (by decide)) (fun _ => ?_)
        refine mm_iconst 36 0 dX11_itemRefusal_35 rfl (by decide) ?_
        refine mm_goto 44 dX11_itemRefusal_36 (by decide) ?_
        refine mm_iret dX11_itemRefusal_44 rfl ⟨rfl, Nat.zero_le _⟩ ?_
        have nl : ¬ A 52 k = -1 := fun q => h1 (sh.1.mpr q)
        have fm := sh.2.1 nl
        rw [e3, fm.1] at h4
        rw [fm.2.1] at h5
        exact k0 (by unfold lk; rw [if_neg nl, if_neg (fun q => q h4), if_pos ⟨h5.1, h5.2.1⟩])
      · refine mm_if_eq 39 35 dX11_itemRefusal_32 (by decide) rfl (fun _ => ?_) (fun h => absurd h (by decide))
        refine mm_aload_0 40 dX11_itemRefusal_39 rfl ?_
        refine mm_iconst 41 2 dX11_itemRefusal_40 rfl (by decide) ?_
        refine mm_cV1i 44 dX11_itemRefusal_41 v_X11_178 rfl t_0 (by decide) rfl rfl (Nat.le_of_ble_eq_true rfl) ⟨rfl, rfl⟩ ⟨Nat.zero_le _, Nat.zero_le _⟩ (c_X11_finding (fun r6 e6 => ?_))
        refine mm_iret dX11_itemRefusal_44 rfl ⟨rfl, Nat.zero_le _⟩ ?_
        have nl : ¬ A 52 k = -1 := fun q => h1 (sh.1.mpr q)
        have fm := sh.2.1 nl
        rw [e3, fm.1] at h4
        rw [fm.2.1] at h5
        rw [e6]
        exact k2 (by unfold lk; rw [if_neg nl, if_neg (fun q => q h4), if_neg (fun q => h5 ⟨q.1, q.2, by omega⟩)])
    · refine mm_aload_0 22 dX11_itemRefusal_21 rfl ?_
      refine mm_iconst 23 3 dX11_itemRefusal_22 rfl (by decide) ?_
      refine mm_cV1i 26 dX11_itemRefusal_23 v_X11_178 rfl t_0 (by decide) rfl rfl (Nat.le_of_ble_eq_true rfl) ⟨rfl, rfl⟩ ⟨Nat.zero_le _, Nat.zero_le _⟩ (c_X11_finding (fun r7 e7 => ?_))
      refine mm_iret dX11_itemRefusal_26 rfl ⟨rfl, Nat.zero_le _⟩ ?_
      have nl : ¬ A 52 k = -1 := fun q => h1 (sh.1.mpr q)
      have fm := sh.2.1 nl
      rw [e3, fm.1] at h4
      rw [e7]
      exact k3 (by unfold lk; rw [if_neg nl, if_pos h4])

set_option maxHeartbeats 4000000 in
theorem c_X11_lay {l : Launch} {G : mm_G} {d : Nat} {M : mm_M} {Q : Int32 → mm_T → mm_M → Prop} {A : mm_M} (hi : iv A) (hf : fr A M) {s f i v : Int32} (h : ∀ r M1, r = z_lay A s f i → fr (la_c A s f i v) M1 → Q r T0 M1) : mm_met l G (d + 2) k_X11_lay [.ref 0, .int s, .int f, .int i, .int v] T0 M (mm_pi Q) := by
  refine mm_enter 2 [.ref 0, .int s, .int f, .int i, .int v, .double 0, .double 0] o_X11_lay rfl rfl ?_
  refine mm_aload_0 1 dX11_lay_0 rfl ?_
  refine mm_iload_1 2 dX11_lay_1 rfl ?_
  refine mm_cV1r 5 dX11_lay_2 v_X11_171 rfl t_0 (by decide) rfl rfl (Nat.le_of_ble_eq_true rfl) ⟨rfl, rfl⟩ ⟨Nat.zero_le _, Nat.zero_le _⟩ (c_X11_sheetAt (fun k hk es => ?_) (fun h1 => ?_))
  · refine mm_astore_5 7 dX11_lay_5 rfl rfl ?_
    refine mm_aload_5 9 dX11_lay_7 rfl ?_
    refine mm_nullR 12 dX11_lay_9 rfl ?_
    have sk : s.toNatClampNeg = k := by rw [es]; exact mm_cn (by omega)
    have si : s.toInt = k := by rw [es]; exact mm_ti (by omega)
    have sh := hi.sh hf hk
    refine mm_iload_2 13 dX11_lay_12 rfl ?_
    refine mm_cS1i 16 dX11_lay_13 v_X11_261 rfl (Nat.le_of_ble_eq_true rfl) ⟨rfl, rfl⟩ ⟨Nat.zero_le _, Nat.zero_le _⟩ (c_X11_isForm  (fun h2 => ?_) (fun h2 => ?_))
    · refine mm_if_ne 22 19 dX11_lay_16 (by decide) rfl (fun _ => ?_) (fun h => absurd h (by decide))
      refine mm_aload_0 23 dX11_lay_22 rfl ?_
      refine mm_aload_5 25 dX11_lay_23 rfl ?_
      refine mm_iload_2 26 dX11_lay_25 rfl ?_
      refine mm_iload_3 27 dX11_lay_26 rfl ?_
      refine mm_cV3i 30 dX11_lay_27 v_X11_270 rfl t_0 (by decide) rfl rfl (Nat.le_of_ble_eq_true rfl) ⟨rfl, rfl⟩ ⟨Nat.zero_le _, Nat.zero_le _⟩ (c_X11_itemRefusal hi hf hk (fun h3 => ?_) (fun h3 => ?_) (fun h3 => ?_) (fun h3 => ?_))
      · refine mm_istore_6 32 dX11_lay_30 rfl rfl ?_
        refine mm_iload_6 34 dX11_lay_32 rfl ?_
        refine mm_if_eq 40 37 dX11_lay_34 (by decide) rfl (fun _ => ?_) (fun h => absurd h (by decide))
        have nl : ¬ A 52 k = -1 := fun q => by unfold lk at h3; rw [if_pos q] at h3; exact absurd h3 (by decide)
        have fm := sh.2.1 nl
        have fq : A 52 k = f := Classical.byContradiction (fun q => by unfold lk at h3; rw [if_neg nl, if_pos q] at h3; exact absurd h3 (by decide))
        have iq : 0 ≤ i.toInt ∧ i.toInt < (A 53 k).toInt := Classical.byContradiction (fun q => by unfold lk at h3; rw [if_neg nl, if_neg (fun z => z fq), if_neg q] at h3; exact absurd h3 (by decide))
        refine mm_aload_5 42 dX11_lay_40 rfl ?_
        refine mm_iload_3 43 dX11_lay_42 rfl ?_
        refine mm_iload_4 45 dX11_lay_43 rfl ?_
        refine mm_cV2v 48 dX11_lay_45 v_X11_274 rfl (t_sh hk).1 (by decide) rfl rfl (Nat.le_of_ble_eq_true rfl) ⟨rfl, rfl⟩ ⟨Nat.zero_le _, Nat.zero_le _⟩ (c_X5_put (t_sh hk).1 (t_sh hk).2 ⟨iq.1, by rw [fm.2.1]; exact iq.2, by omega⟩ ?_)
        refine mm_iconst 49 1 dX11_lay_48 rfl (by decide) ?_
        refine mm_iret dX11_lay_49 rfl ⟨rfl, Nat.zero_le _⟩ ?_
        refine h _ _ ?_ ?_
        · unfold z_lay
          rw [if_pos (by (try simp only [Int32.lt_iff_toInt_lt, Int32.le_iff_toInt_le, ← Int32.toInt_inj, vp_in_iff, Int32.reduceToInt, mm_t1, mm_t2, mm_t3, mm_t4, mm_t10] at h2 ⊢); omega), sk, if_pos h3]
        · unfold la_c
          rw [if_pos (by (try simp only [Int32.lt_iff_toInt_lt, Int32.le_iff_toInt_le, ← Int32.toInt_inj, vp_in_iff, Int32.reduceToInt, mm_t1, mm_t2, mm_t3, mm_t4, mm_t10] at h2 ⊢); omega), sk, if_pos h3]
          rw [fm.1, fq]
          exact hf.both _ _ _
      · refine mm_istore_6 32 dX11_lay_30 rfl rfl ?_
        refine mm_iload_6 34 dX11_lay_32 rfl ?_
        refine mm_if_eq 40 37 dX11_lay_34 (by decide) rfl (fun h => absurd h (by decide)) (fun _ => ?_)
        refine mm_iload_6 39 dX11_lay_37 rfl ?_
        refine mm_iret dX11_lay_39 rfl ⟨rfl, Nat.zero_le _⟩ ?_
        refine h _ _ ?_ ?_
        · unfold z_lay
          rw [if_pos (by (try simp only [Int32.lt_iff_toInt_lt, Int32.le_iff_toInt_le, ← Int32.toInt_inj, vp_in_iff, Int32.reduceToInt, mm_t1, mm_t2, mm_t3, mm_t4, mm_t10] at h2 ⊢); omega), sk, h3, if_neg (by decide)]
          try rfl
        · unfold la_c
          rw [if_pos (by (try simp only [Int32.lt_iff_toInt_lt, Int32.le_iff_toInt_le, ← Int32.toInt_inj, vp_in_iff, Int32.reduceToInt, mm_t1, mm_t2, mm_t3, mm_t4, mm_t10] at h2 ⊢); omega), sk, h3, if_neg (by decide)]
          exact hf.both _ _ _
      · refine mm_istore_6 32 dX11_lay_30 rfl rfl ?_
        refine mm_iload_6 34 dX11_lay_32 rfl ?_
        refine mm_if_eq 40 37 dX11_lay_34 (by decide) rfl (fun h => absurd h (by decide)) (fun _ => ?_)
        refine mm_iload_6 39 dX11_lay_37 rfl ?_
        refine mm_iret dX11_lay_39 rfl ⟨rfl, Nat.zero_le _⟩ ?_
        refine h _ _ ?_ ?_
        · unfold z_lay
          rw [if_pos (by (try simp only [Int32.lt_iff_toInt_lt, Int32.le_iff_toInt_le, ← Int32.toInt_inj, vp_in_iff, Int32.reduceToInt, mm_t1, mm_t2, mm_t3, mm_t4, mm_t10] at h2 ⊢); omega), sk, h3, if_neg (by decide)]
          try rfl
        · unfold la_c
          rw [if_pos (by (try simp only [Int32.lt_iff_toInt_lt, Int32.le_iff_toInt_le, ← Int32.toInt_inj, vp_in_iff, Int32.reduceToInt, mm_t1, mm_t2, mm_t3, mm_t4, mm_t10] at h2 ⊢); omega), sk, h3, if_neg (by decide)]
          exact hf.both _ _ _
      · refine mm_istore_6 32 dX11_lay_30 rfl rfl ?_
        refine mm_iload_6 34 dX11_lay_32 rfl ?_
        refine mm_if_eq 40 37 dX11_lay_34 (by decide) rfl (fun h => absurd h (by decide)) (fun _ => ?_)
        refine mm_iload_6 39 dX11_lay_37 rfl ?_
        refine mm_iret dX11_lay_39 rfl ⟨rfl, Nat.zero_le _⟩ ?_
        refine h _ _ ?_ ?_
        · unfold z_lay
          rw [if_pos (by (try simp only [Int32.lt_iff_toInt_lt, Int32.le_iff_toInt_le, ← Int32.toInt_inj, vp_in_iff, Int32.reduceToInt, mm_t1, mm_t2, mm_t3, mm_t4, mm_t10] at h2 ⊢); omega), sk, h3, if_neg (by decide)]
          try rfl
        · unfold la_c
          rw [if_pos (by (try simp only [Int32.lt_iff_toInt_lt, Int32.le_iff_toInt_le, ← Int32.toInt_inj, vp_in_iff, Int32.reduceToInt, mm_t1, mm_t2, mm_t3, mm_t4, mm_t10] at h2 ⊢); omega), sk, h3, if_neg (by decide)]
          exact hf.both _ _ _
    · refine mm_if_ne 22 19 dX11_lay_16 (by decide) rfl (fun h => absurd h (by decide)) (fun _ => ?_)
      refine mm_bipush 21 (-2) dX11_lay_19 rfl (by decide) ?_
      refine mm_iret dX11_lay_21 rfl ⟨rfl, Nat.zero_le _⟩ ?_
      refine h _ _ ?_ ?_
      · unfold z_lay
        rw [if_neg (by (try simp only [Int32.lt_iff_toInt_lt, Int32.le_iff_toInt_le, ← Int32.toInt_inj, vp_in_iff, Int32.reduceToInt, mm_t1, mm_t2, mm_t3, mm_t4, mm_t10] at h2 ⊢); omega)]
      · unfold la_c
        rw [if_neg (by (try simp only [Int32.lt_iff_toInt_lt, Int32.le_iff_toInt_le, ← Int32.toInt_inj, vp_in_iff, Int32.reduceToInt, mm_t1, mm_t2, mm_t3, mm_t4, mm_t10] at h2 ⊢); omega)]
        exact hf
  · refine mm_nstore_5 7 dX11_lay_5 rfl rfl ?_
    refine mm_nload_5 9 dX11_lay_7 rfl ?_
    refine mm_nullN 19 dX11_lay_9 (by decide) ?_
    refine mm_bipush 21 (-2) dX11_lay_19 rfl (by decide) ?_
    refine mm_iret dX11_lay_21 rfl ⟨rfl, Nat.zero_le _⟩ ?_
    refine h _ _ ?_ ?_
    · unfold z_lay
      rw [if_neg (by (try simp only [Int32.lt_iff_toInt_lt, Int32.le_iff_toInt_le, ← Int32.toInt_inj, vp_in_iff, Int32.reduceToInt, mm_t1, mm_t2, mm_t3, mm_t4, mm_t10] at h1 ⊢); omega)]
    · unfold la_c
      rw [if_neg (by (try simp only [Int32.lt_iff_toInt_lt, Int32.le_iff_toInt_le, ← Int32.toInt_inj, vp_in_iff, Int32.reduceToInt, mm_t1, mm_t2, mm_t3, mm_t4, mm_t10] at h1 ⊢); omega)]
      exact hf

set_option maxHeartbeats 4000000 in
theorem c_X11_get {l : Launch} {G : mm_G} {d : Nat} {M : mm_M} {Q : Int32 → mm_T → mm_M → Prop} {A : mm_M} (hi : iv A) (hf : fr A M) {s f i : Int32} (h : ∀ r M1, r = z_get A s f i → fr (ge_c A s f i) M1 → Q r T0 M1) : mm_met l G (d + 2) k_X11_get [.ref 0, .int s, .int f, .int i] T0 M (mm_pi Q) := by
  refine mm_enter 1 [.ref 0, .int s, .int f, .int i, .double 0] o_X11_get rfl rfl ?_
  refine mm_aload_0 1 dX11_get_0 rfl ?_
  refine mm_iload_1 2 dX11_get_1 rfl ?_
  refine mm_cV1r 5 dX11_get_2 v_X11_171 rfl t_0 (by decide) rfl rfl (Nat.le_of_ble_eq_true rfl) ⟨rfl, rfl⟩ ⟨Nat.zero_le _, Nat.zero_le _⟩ (c_X11_sheetAt (fun k hk es => ?_) (fun h1 => ?_))
  · refine mm_astore_4 7 dX11_get_5 rfl rfl ?_
    refine mm_aload_4 9 dX11_get_7 rfl ?_
    refine mm_nullR 12 dX11_get_9 rfl ?_
    have sk : s.toNatClampNeg = k := by rw [es]; exact mm_cn (by omega)
    have si : s.toInt = k := by rw [es]; exact mm_ti (by omega)
    have sh := hi.sh hf hk
    refine mm_iload_2 13 dX11_get_12 rfl ?_
    refine mm_cS1i 16 dX11_get_13 v_X11_261 rfl (Nat.le_of_ble_eq_true rfl) ⟨rfl, rfl⟩ ⟨Nat.zero_le _, Nat.zero_le _⟩ (c_X11_isForm  (fun h2 => ?_) (fun h2 => ?_))
    · refine mm_if_eq 30 19 dX11_get_16 (by decide) rfl (fun h => absurd h (by decide)) (fun _ => ?_)
      refine mm_aload_0 20 dX11_get_19 rfl ?_
      refine mm_aload_4 22 dX11_get_20 rfl ?_
      refine mm_iload_2 23 dX11_get_22 rfl ?_
      refine mm_iload_3 24 dX11_get_23 rfl ?_
      refine mm_cV3i 27 dX11_get_24 v_X11_270 rfl t_0 (by decide) rfl rfl (Nat.le_of_ble_eq_true rfl) ⟨rfl, rfl⟩ ⟨Nat.zero_le _, Nat.zero_le _⟩ (c_X11_itemRefusal hi hf hk (fun h3 => ?_) (fun h3 => ?_) (fun h3 => ?_) (fun h3 => ?_))
      · refine mm_if_eq 34 30 dX11_get_27 (by decide) rfl (fun _ => ?_) (fun h => absurd h (by decide))
        have nl : ¬ A 52 k = -1 := fun q => by unfold lk at h3; rw [if_pos q] at h3; exact absurd h3 (by decide)
        have fm := sh.2.1 nl
        have fq : A 52 k = f := Classical.byContradiction (fun q => by unfold lk at h3; rw [if_neg nl, if_pos q] at h3; exact absurd h3 (by decide))
        have iq : 0 ≤ i.toInt ∧ i.toInt < (A 53 k).toInt := Classical.byContradiction (fun q => by unfold lk at h3; rw [if_neg nl, if_neg (fun z => z fq), if_neg q] at h3; exact absurd h3 (by decide))
        refine mm_aload_4 36 dX11_get_34 rfl ?_
        refine mm_iload_3 37 dX11_get_36 rfl ?_
        refine mm_cV1i 40 dX11_get_37 v_X11_184 rfl (t_sh hk).1 (by decide) rfl rfl (Nat.le_of_ble_eq_true rfl) ⟨rfl, rfl⟩ ⟨Nat.zero_le _, Nat.zero_le _⟩ (c_X5_itemAt (t_sh hk).1 (t_sh hk).2 (fun r4 e4 => ?_))
        refine mm_iret dX11_get_40 rfl ⟨rfl, Nat.zero_le _⟩ ?_
        refine h _ _ ?_ ?_
        · unfold z_get
          rw [if_pos (by (try simp only [Int32.lt_iff_toInt_lt, Int32.le_iff_toInt_le, ← Int32.toInt_inj, vp_in_iff, Int32.reduceToInt, mm_t1, mm_t2, mm_t3, mm_t4, mm_t10] at h2 ⊢); omega), sk, if_pos h3]
          rw [e4, if_pos ⟨iq.1, by rw [fm.2.1]; exact iq.2, by omega⟩]
          exact fm.2.2 _ (by rw [mm_cl iq.1]; exact iq.2)
        · unfold ge_c
          rw [if_pos (by (try simp only [Int32.lt_iff_toInt_lt, Int32.le_iff_toInt_le, ← Int32.toInt_inj, vp_in_iff, Int32.reduceToInt, mm_t1, mm_t2, mm_t3, mm_t4, mm_t10] at h2 ⊢); omega), sk, if_pos h3]
          exact hf
      · refine mm_if_eq 34 30 dX11_get_27 (by decide) rfl (fun h => absurd h (by decide)) (fun _ => ?_)
        refine mm_ldcw 33 (-2147483648) dX11_get_30 rfl j_X11_277 ?_
        refine mm_iret dX11_get_33 rfl ⟨rfl, Nat.zero_le _⟩ ?_
        refine h _ _ ?_ ?_
        · unfold z_get
          rw [if_pos (by (try simp only [Int32.lt_iff_toInt_lt, Int32.le_iff_toInt_le, ← Int32.toInt_inj, vp_in_iff, Int32.reduceToInt, mm_t1, mm_t2, mm_t3, mm_t4, mm_t10] at h2 ⊢); omega), sk, h3, if_neg (by decide)]
        · unfold ge_c
          rw [if_pos (by (try simp only [Int32.lt_iff_toInt_lt, Int32.le_iff_toInt_le, ← Int32.toInt_inj, vp_in_iff, Int32.reduceToInt, mm_t1, mm_t2, mm_t3, mm_t4, mm_t10] at h2 ⊢); omega), sk, h3, if_neg (by decide)]
          exact hf.both _ _ _
      · refine mm_if_eq 34 30 dX11_get_27 (by decide) rfl (fun h => absurd h (by decide)) (fun _ => ?_)
        refine mm_ldcw 33 (-2147483648) dX11_get_30 rfl j_X11_277 ?_
        refine mm_iret dX11_get_33 rfl ⟨rfl, Nat.zero_le _⟩ ?_
        refine h _ _ ?_ ?_
        · unfold z_get
          rw [if_pos (by (try simp only [Int32.lt_iff_toInt_lt, Int32.le_iff_toInt_le, ← Int32.toInt_inj, vp_in_iff, Int32.reduceToInt, mm_t1, mm_t2, mm_t3, mm_t4, mm_t10] at h2 ⊢); omega), sk, h3, if_neg (by decide)]
        · unfold ge_c
          rw [if_pos (by (try simp only [Int32.lt_iff_toInt_lt, Int32.le_iff_toInt_le, ← Int32.toInt_inj, vp_in_iff, Int32.reduceToInt, mm_t1, mm_t2, mm_t3, mm_t4, mm_t10] at h2 ⊢); omega), sk, h3, if_neg (by decide)]
          exact hf.both _ _ _
      · refine mm_if_eq 34 30 dX11_get_27 (by decide) rfl (fun h => absurd h (by decide)) (fun _ => ?_)
        refine mm_ldcw 33 (-2147483648) dX11_get_30 rfl j_X11_277 ?_
        refine mm_iret dX11_get_33 rfl ⟨rfl, Nat.zero_le _⟩ ?_
        refine h _ _ ?_ ?_
        · unfold z_get
          rw [if_pos (by (try simp only [Int32.lt_iff_toInt_lt, Int32.le_iff_toInt_le, ← Int32.toInt_inj, vp_in_iff, Int32.reduceToInt, mm_t1, mm_t2, mm_t3, mm_t4, mm_t10] at h2 ⊢); omega), sk, h3, if_neg (by decide)]
        · unfold ge_c
          rw [if_pos (by (try simp only [Int32.lt_iff_toInt_lt, Int32.le_iff_toInt_le, ← Int32.toInt_inj, vp_in_iff, Int32.reduceToInt, mm_t1, mm_t2, mm_t3, mm_t4, mm_t10] at h2 ⊢); omega), sk, h3, if_neg (by decide)]
          exact hf.both _ _ _
    · refine mm_if_eq 30 19 dX11_get_16 (by decide) rfl (fun _ => ?_) (fun h => absurd h (by decide))
      refine mm_ldcw 33 (-2147483648) dX11_get_30 rfl j_X11_277 ?_
      refine mm_iret dX11_get_33 rfl ⟨rfl, Nat.zero_le _⟩ ?_
      refine h _ _ ?_ ?_
      · unfold z_get
        rw [if_neg (by (try simp only [Int32.lt_iff_toInt_lt, Int32.le_iff_toInt_le, ← Int32.toInt_inj, vp_in_iff, Int32.reduceToInt, mm_t1, mm_t2, mm_t3, mm_t4, mm_t10] at h2 ⊢); omega)]
      · unfold ge_c
        rw [if_neg (by (try simp only [Int32.lt_iff_toInt_lt, Int32.le_iff_toInt_le, ← Int32.toInt_inj, vp_in_iff, Int32.reduceToInt, mm_t1, mm_t2, mm_t3, mm_t4, mm_t10] at h2 ⊢); omega)]
        exact hf
  · refine mm_nstore_4 7 dX11_get_5 rfl rfl ?_
    refine mm_nload_4 9 dX11_get_7 rfl ?_
    refine mm_nullN 30 dX11_get_9 (by decide) ?_
    refine mm_ldcw 33 (-2147483648) dX11_get_30 rfl j_X11_277 ?_
    refine mm_iret dX11_get_33 rfl ⟨rfl, Nat.zero_le _⟩ ?_
    refine h _ _ ?_ ?_
    · unfold z_get
      rw [if_neg (by (try simp only [Int32.lt_iff_toInt_lt, Int32.le_iff_toInt_le, ← Int32.toInt_inj, vp_in_iff, Int32.reduceToInt, mm_t1, mm_t2, mm_t3, mm_t4, mm_t10] at h1 ⊢); omega)]
    · unfold ge_c
      rw [if_neg (by (try simp only [Int32.lt_iff_toInt_lt, Int32.le_iff_toInt_le, ← Int32.toInt_inj, vp_in_iff, Int32.reduceToInt, mm_t1, mm_t2, mm_t3, mm_t4, mm_t10] at h1 ⊢); omega)]
      exact hf

set_option maxHeartbeats 4000000 in
theorem c_X11_copy {l : Launch} {G : mm_G} {d : Nat} {M : mm_M} {Q : Int32 → mm_T → mm_M → Prop} {A : mm_M} (hi : iv A) (hf : fr A M) {s i t j n : Int32} (h : ∀ r M1, r = z_copy A s i t j n → fr (co_c A s i t j n) M1 → Q r T0 M1) : mm_met l G (d + 2) k_X11_copy [.ref 0, .int s, .int i, .int t, .int j, .int n] T0 M (mm_pi Q) := by
  refine mm_enter 2 [.ref 0, .int s, .int i, .int t, .int j, .int n, .double 0, .double 0] o_X11_copy rfl rfl ?_
  refine mm_aload_0 1 dX11_copy_0 rfl ?_
  refine mm_iload_1 2 dX11_copy_1 rfl ?_
  refine mm_cV1r 5 dX11_copy_2 v_X11_171 rfl t_0 (by decide) rfl rfl (Nat.le_of_ble_eq_true rfl) ⟨rfl, rfl⟩ ⟨Nat.zero_le _, Nat.zero_le _⟩ (c_X11_sheetAt (fun k hk es => ?_) (fun h1 => ?_))
  · refine mm_astore_6 7 dX11_copy_5 rfl rfl ?_
    refine mm_aload_0 8 dX11_copy_7 rfl ?_
    refine mm_iload_3 9 dX11_copy_8 rfl ?_
    refine mm_cV1r 12 dX11_copy_9 v_X11_171 rfl t_0 (by decide) rfl rfl (Nat.le_of_ble_eq_true rfl) ⟨rfl, rfl⟩ ⟨Nat.zero_le _, Nat.zero_le _⟩ (c_X11_sheetAt (fun k2 hk2 es2 => ?_) (fun h2 => ?_))
    · refine mm_astore_7 14 dX11_copy_12 rfl rfl ?_
      refine mm_aload_6 16 dX11_copy_14 rfl ?_
      refine mm_nullR 19 dX11_copy_16 rfl ?_
      refine mm_aload_7 21 dX11_copy_19 rfl ?_
      refine mm_nonnullR 27 dX11_copy_21 (by decide) ?_
      have sk : s.toNatClampNeg = k := by rw [es]; exact mm_cn (by omega)
      have si : s.toInt = k := by rw [es]; exact mm_ti (by omega)
      have sh := hi.sh hf hk
      have sk2 : t.toNatClampNeg = k2 := by rw [es2]; exact mm_cn (by omega)
      have si2 : t.toInt = k2 := by rw [es2]; exact mm_ti (by omega)
      have sh2 := hi.sh hf hk2
      refine mm_aload_6 29 dX11_copy_27 rfl ?_
      refine mm_cV0i 32 dX11_copy_29 v_X11_175 rfl (t_sh hk).1 (by decide) rfl rfl (Nat.le_of_ble_eq_true rfl) ⟨rfl, rfl⟩ ⟨Nat.zero_le _, Nat.zero_le _⟩ (c_X5_isLost (t_sh hk).1 (t_sh hk).2 (fun h3 => ?_) (fun h3 => ?_))
      · refine mm_if_ne 43 35 dX11_copy_32 (by decide) rfl (fun _ => ?_) (fun h => absurd h (by decide))
        refine mm_aload_0 44 dX11_copy_43 rfl ?_
        refine mm_iconst 45 1 dX11_copy_44 rfl (by decide) ?_
        refine mm_cV1i 48 dX11_copy_45 v_X11_178 rfl t_0 (by decide) rfl rfl (Nat.le_of_ble_eq_true rfl) ⟨rfl, rfl⟩ ⟨Nat.zero_le _, Nat.zero_le _⟩ (c_X11_finding (fun r4 e4 => ?_))
        refine mm_iret dX11_copy_48 rfl ⟨rfl, Nat.zero_le _⟩ ?_
        have cq : ck A k k2 i j n = 1 := by unfold ck; rw [if_pos (Or.inl (sh.1.mp h3))]
        refine h _ _ ?_ ?_
        · unfold z_copy
          rw [if_pos (by omega), sk, sk2, cq, if_neg (by decide)]
          rw [e4]
        · unfold co_c
          rw [if_pos (by omega), sk, sk2, cq, if_neg (by decide)]
          exact hf.both _ _ _
      · refine mm_if_ne 43 35 dX11_copy_32 (by decide) rfl (fun h => absurd h (by decide)) (fun _ => ?_)
        refine mm_aload_7 37 dX11_copy_35 rfl ?_
        refine mm_cV0i 40 dX11_copy_37 v_X11_175 rfl (t_sh hk2).1 (by decide) rfl rfl (Nat.le_of_ble_eq_true rfl) ⟨rfl, rfl⟩ ⟨Nat.zero_le _, Nat.zero_le _⟩ (c_X5_isLost (t_sh hk2).1 (t_sh hk2).2 (fun h5 => ?_) (fun h5 => ?_))
        · refine mm_if_eq 49 43 dX11_copy_40 (by decide) rfl (fun h => absurd h (by decide)) (fun _ => ?_)
          refine mm_aload_0 44 dX11_copy_43 rfl ?_
          refine mm_iconst 45 1 dX11_copy_44 rfl (by decide) ?_
          refine mm_cV1i 48 dX11_copy_45 v_X11_178 rfl t_0 (by decide) rfl rfl (Nat.le_of_ble_eq_true rfl) ⟨rfl, rfl⟩ ⟨Nat.zero_le _, Nat.zero_le _⟩ (c_X11_finding (fun r6 e6 => ?_))
          refine mm_iret dX11_copy_48 rfl ⟨rfl, Nat.zero_le _⟩ ?_
          have cq : ck A k k2 i j n = 1 := by unfold ck; rw [if_pos (Or.inr (sh2.1.mp h5))]
          refine h _ _ ?_ ?_
          · unfold z_copy
            rw [if_pos (by omega), sk, sk2, cq, if_neg (by decide)]
            rw [e6]
          · unfold co_c
            rw [if_pos (by omega), sk, sk2, cq, if_neg (by decide)]
            exact hf.both _ _ _
        · refine mm_if_eq 49 43 dX11_copy_40 (by decide) rfl (fun _ => ?_) (fun h => absurd h (by decide))
          refine mm_aload_6 51 dX11_copy_49 rfl ?_
          refine mm_cV0i 54 dX11_copy_51 v_X11_278 rfl (t_sh hk).1 (by decide) rfl rfl (Nat.le_of_ble_eq_true rfl) ⟨rfl, rfl⟩ ⟨Nat.zero_le _, Nat.zero_le _⟩ (c_X5_form (t_sh hk).1 (t_sh hk).2 (fun r7 e7 => ?_))
          refine mm_aload_7 56 dX11_copy_54 rfl ?_
          refine mm_cV0i 59 dX11_copy_56 v_X11_278 rfl (t_sh hk2).1 (by decide) rfl rfl (Nat.le_of_ble_eq_true rfl) ⟨rfl, rfl⟩ ⟨Nat.zero_le _, Nat.zero_le _⟩ (c_X5_form (t_sh hk2).1 (t_sh hk2).2 (fun r8 e8 => ?_))
          refine mm_ic_eq 68 62 dX11_copy_59 (by decide) rfl (fun h9 => ?_) (fun h9 => ?_)
          · refine mm_aload_6 70 dX11_copy_68 rfl ?_
            refine mm_iload_2 71 dX11_copy_70 rfl ?_
            refine mm_iload_5 73 dX11_copy_71 rfl ?_
            refine mm_cV2i 76 dX11_copy_73 v_X11_281 rfl (t_sh hk).1 (by decide) rfl rfl (Nat.le_of_ble_eq_true rfl) ⟨rfl, rfl⟩ ⟨Nat.zero_le _, Nat.zero_le _⟩ (c_X5_hasSpan (t_sh hk).1 (t_sh hk).2 sh.2.2.2 (fun h10 => ?_) (fun h10 => ?_))
            · refine mm_if_eq 91 79 dX11_copy_76 (by decide) rfl (fun h => absurd h (by decide)) (fun _ => ?_)
              refine mm_aload_7 81 dX11_copy_79 rfl ?_
              refine mm_iload_4 83 dX11_copy_81 rfl ?_
              refine mm_iload_5 85 dX11_copy_83 rfl ?_
              refine mm_cV2i 88 dX11_copy_85 v_X11_281 rfl (t_sh hk2).1 (by decide) rfl rfl (Nat.le_of_ble_eq_true rfl) ⟨rfl, rfl⟩ ⟨Nat.zero_le _, Nat.zero_le _⟩ (c_X5_hasSpan (t_sh hk2).1 (t_sh hk2).2 sh2.2.2.2 (fun h11 => ?_) (fun h11 => ?_))
              · refine mm_if_ne 97 91 dX11_copy_88 (by decide) rfl (fun _ => ?_) (fun h => absurd h (by decide))
                refine mm_aload_7 99 dX11_copy_97 rfl ?_
                refine mm_iload_4 101 dX11_copy_99 rfl ?_
                refine mm_aload_6 103 dX11_copy_101 rfl ?_
                refine mm_iload_2 104 dX11_copy_103 rfl ?_
                refine mm_iload_5 106 dX11_copy_104 rfl ?_
                refine mm_cV4v 109 dX11_copy_106 v_X11_284 rfl (t_sh hk2).1 (by decide) rfl rfl (Nat.le_of_ble_eq_true rfl) ⟨rfl, rfl⟩ ⟨Nat.zero_le _, Nat.zero_le _⟩ (c_X5_take (t_sh hk2).1 (t_sh hk2).2 (t_sh hk).1 (t_sh hk).2 sh2.2.2.2 sh.2.2.2 h11 h10 ?_)
                refine mm_iconst 110 1 dX11_copy_109 rfl (by decide) ?_
                refine mm_iret dX11_copy_110 rfl ⟨rfl, Nat.zero_le _⟩ ?_
                have nl : ¬ A 52 k = -1 := fun q => h3 (sh.1.mpr q)
                have nl2 : ¬ A 52 k2 = -1 := fun q => h5 (sh2.1.mpr q)
                have fm := sh.2.1 nl
                have fm2 := sh2.2.1 nl2
                rw [e7, e8, fm.1, fm2.1] at h9
                have nn : ¬ (A 52 k = -1 ∨ A 52 k2 = -1) := fun q => q.elim nl nl2
                rw [fm.2.1] at h10
                rw [fm2.2.1] at h11
                have cq : ck A k k2 i j n = 0 := by unfold ck; rw [if_neg nn, if_neg (fun q => q h9), if_pos ⟨h10, h11⟩]
                refine h _ _ ?_ ?_
                · unfold z_copy
                  rw [if_pos (by omega), sk, sk2, cq, if_pos rfl]
                · unfold co_c
                  rw [if_pos (by omega), sk, sk2, cq, if_pos rfl]
                  exact hf.rowb (by rw [hf.a _ (bs_c hk).2, hf.a _ (bs_c hk2).2]) (by omega)
              · refine mm_if_ne 97 91 dX11_copy_88 (by decide) rfl (fun h => absurd h (by decide)) (fun _ => ?_)
                refine mm_aload_0 92 dX11_copy_91 rfl ?_
                refine mm_iconst 93 2 dX11_copy_92 rfl (by decide) ?_
                refine mm_cV1i 96 dX11_copy_93 v_X11_178 rfl t_0 (by decide) rfl rfl (Nat.le_of_ble_eq_true rfl) ⟨rfl, rfl⟩ ⟨Nat.zero_le _, Nat.zero_le _⟩ (c_X11_finding (fun r12 e12 => ?_))
                refine mm_iret dX11_copy_96 rfl ⟨rfl, Nat.zero_le _⟩ ?_
                have nl : ¬ A 52 k = -1 := fun q => h3 (sh.1.mpr q)
                have nl2 : ¬ A 52 k2 = -1 := fun q => h5 (sh2.1.mpr q)
                have fm := sh.2.1 nl
                have fm2 := sh2.2.1 nl2
                rw [e7, e8, fm.1, fm2.1] at h9
                have nn : ¬ (A 52 k = -1 ∨ A 52 k2 = -1) := fun q => q.elim nl nl2
                rw [fm.2.1] at h10
                rw [fm2.2.1] at h11
                have cq : ck A k k2 i j n = 2 := by unfold ck; rw [if_neg nn, if_neg (fun q => q h9), if_neg (fun q => h11 q.2)]
                refine h _ _ ?_ ?_
                · unfold z_copy
                  rw [if_pos (by omega), sk, sk2, cq, if_neg (by decide)]
                  rw [e12]
                · unfold co_c
                  rw [if_pos (by omega), sk, sk2, cq, if_neg (by decide)]
                  exact hf.both _ _ _
            · refine mm_if_eq 91 79 dX11_copy_76 (by decide) rfl (fun _ => ?_) (fun h => absurd h (by decide))
              refine mm_aload_0 92 dX11_copy_91 rfl ?_
              refine mm_iconst 93 2 dX11_copy_92 rfl (by decide) ?_
              refine mm_cV1i 96 dX11_copy_93 v_X11_178 rfl t_0 (by decide) rfl rfl (Nat.le_of_ble_eq_true rfl) ⟨rfl, rfl⟩ ⟨Nat.zero_le _, Nat.zero_le _⟩ (c_X11_finding (fun r13 e13 => ?_))
              refine mm_iret dX11_copy_96 rfl ⟨rfl, Nat.zero_le _⟩ ?_
              have nl : ¬ A 52 k = -1 := fun q => h3 (sh.1.mpr q)
              have nl2 : ¬ A 52 k2 = -1 := fun q => h5 (sh2.1.mpr q)
              have fm := sh.2.1 nl
              have fm2 := sh2.2.1 nl2
              rw [e7, e8, fm.1, fm2.1] at h9
              have nn : ¬ (A 52 k = -1 ∨ A 52 k2 = -1) := fun q => q.elim nl nl2
              rw [fm.2.1] at h10
              have cq : ck A k k2 i j n = 2 := by unfold ck; rw [if_neg nn, if_neg (fun q => q h9), if_neg (fun q => h10 q.1)]
              refine h _ _ ?_ ?_
              · unfold z_copy
                rw [if_pos (by omega), sk, sk2, cq, if_neg (by decide)]
                rw [e13]
              · unfold co_c
                rw [if_pos (by omega), sk, sk2, cq, if_neg (by decide)]
                exact hf.both _ _ _
          · refine mm_aload_0 63 dX11_copy_62 rfl ?_
            refine mm_iconst 64 4 dX11_copy_63 rfl (by decide) ?_
            refine mm_cV1i 67 dX11_copy_64 v_X11_178 rfl t_0 (by decide) rfl rfl (Nat.le_of_ble_eq_true rfl) ⟨rfl, rfl⟩ ⟨Nat.zero_le _, Nat.zero_le _⟩ (c_X11_finding (fun r14 e14 => ?_))
            refine mm_iret dX11_copy_67 rfl ⟨rfl, Nat.zero_le _⟩ ?_
            have nl : ¬ A 52 k = -1 := fun q => h3 (sh.1.mpr q)
            have nl2 : ¬ A 52 k2 = -1 := fun q => h5 (sh2.1.mpr q)
            have fm := sh.2.1 nl
            have fm2 := sh2.2.1 nl2
            rw [e7, e8, fm.1, fm2.1] at h9
            have nn : ¬ (A 52 k = -1 ∨ A 52 k2 = -1) := fun q => q.elim nl nl2
            have cq : ck A k k2 i j n = 4 := by unfold ck; rw [if_neg nn, if_pos h9]
            refine h _ _ ?_ ?_
            · unfold z_copy
              rw [if_pos (by omega), sk, sk2, cq, if_neg (by decide)]
              rw [e14]
            · unfold co_c
              rw [if_pos (by omega), sk, sk2, cq, if_neg (by decide)]
              exact hf.both _ _ _
    · refine mm_nstore_7 14 dX11_copy_12 rfl rfl ?_
      refine mm_aload_6 16 dX11_copy_14 rfl ?_
      refine mm_nullR 19 dX11_copy_16 rfl ?_
      refine mm_nload_7 21 dX11_copy_19 rfl ?_
      refine mm_nonnullN 24 dX11_copy_21 rfl ?_
      refine mm_bipush 26 (-2) dX11_copy_24 rfl (by decide) ?_
      refine mm_iret dX11_copy_26 rfl ⟨rfl, Nat.zero_le _⟩ ?_
      refine h _ _ ?_ ?_
      · unfold z_copy
        rw [if_neg (by (try simp only [Int32.lt_iff_toInt_lt, Int32.le_iff_toInt_le, ← Int32.toInt_inj, vp_in_iff, Int32.reduceToInt, mm_t1, mm_t2, mm_t3, mm_t4, mm_t10] at h2 ⊢); omega)]
      · unfold co_c
        rw [if_neg (by (try simp only [Int32.lt_iff_toInt_lt, Int32.le_iff_toInt_le, ← Int32.toInt_inj, vp_in_iff, Int32.reduceToInt, mm_t1, mm_t2, mm_t3, mm_t4, mm_t10] at h2 ⊢); omega)]
        exact hf
  · refine mm_nstore_6 7 dX11_copy_5 rfl rfl ?_
    refine mm_aload_0 8 dX11_copy_7 rfl ?_
    refine mm_iload_3 9 dX11_copy_8 rfl ?_
    refine mm_cV1r 12 dX11_copy_9 v_X11_171 rfl t_0 (by decide) rfl rfl (Nat.le_of_ble_eq_true rfl) ⟨rfl, rfl⟩ ⟨Nat.zero_le _, Nat.zero_le _⟩ (c_X11_sheetAt (fun k2 hk2 es2 => ?_) (fun h15 => ?_))
    · refine mm_astore_7 14 dX11_copy_12 rfl rfl ?_
      refine mm_nload_6 16 dX11_copy_14 rfl ?_
      refine mm_nullN 24 dX11_copy_16 (by decide) ?_
      refine mm_bipush 26 (-2) dX11_copy_24 rfl (by decide) ?_
      refine mm_iret dX11_copy_26 rfl ⟨rfl, Nat.zero_le _⟩ ?_
      refine h _ _ ?_ ?_
      · unfold z_copy
        rw [if_neg (by (try simp only [Int32.lt_iff_toInt_lt, Int32.le_iff_toInt_le, ← Int32.toInt_inj, vp_in_iff, Int32.reduceToInt, mm_t1, mm_t2, mm_t3, mm_t4, mm_t10] at h1 ⊢); omega)]
      · unfold co_c
        rw [if_neg (by (try simp only [Int32.lt_iff_toInt_lt, Int32.le_iff_toInt_le, ← Int32.toInt_inj, vp_in_iff, Int32.reduceToInt, mm_t1, mm_t2, mm_t3, mm_t4, mm_t10] at h1 ⊢); omega)]
        exact hf
    · refine mm_nstore_7 14 dX11_copy_12 rfl rfl ?_
      refine mm_nload_6 16 dX11_copy_14 rfl ?_
      refine mm_nullN 24 dX11_copy_16 (by decide) ?_
      refine mm_bipush 26 (-2) dX11_copy_24 rfl (by decide) ?_
      refine mm_iret dX11_copy_26 rfl ⟨rfl, Nat.zero_le _⟩ ?_
      refine h _ _ ?_ ?_
      · unfold z_copy
        rw [if_neg (by (try simp only [Int32.lt_iff_toInt_lt, Int32.le_iff_toInt_le, ← Int32.toInt_inj, vp_in_iff, Int32.reduceToInt, mm_t1, mm_t2, mm_t3, mm_t4, mm_t10] at h1 h15 ⊢); omega)]
      · unfold co_c
        rw [if_neg (by (try simp only [Int32.lt_iff_toInt_lt, Int32.le_iff_toInt_le, ← Int32.toInt_inj, vp_in_iff, Int32.reduceToInt, mm_t1, mm_t2, mm_t3, mm_t4, mm_t10] at h1 h15 ⊢); omega)]
        exact hf

