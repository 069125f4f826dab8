/-! Calls that change clouds, surveys, events -/
theorem fr.both {B M : mm_M} (h : fr B M) (c a : Nat) (v : Int32) : fr (mm_up B c a v) (mm_up M c a v) := by
  have key : ∀ c' f, M c' f = B c' f → mm_up M c a v c' f = mm_up B c a v c' f := fun c' f e => by
    by_cases q : c' = c
    · subst q; rw [mm_upc, mm_upc]; simp only [upd]; split
      · rfl
      · exact e
    · rw [mm_upn _ _ _ q, mm_upn _ _ _ q]; exact e
  exact ⟨fun c' q => funext (fun f => key c' f (by rw [h.1 c' q])), key _ _ h.2.1, key _ _ h.2.2.1, key _ _ h.2.2.2⟩
theorem a_ok.hi {A B : mm_M} (h : a_ok A) (k : ∀ c, 51 ≤ c → B c = A c) : a_ok B := by
  unfold a_ok at h ⊢
  rw [k 51 (by decide), k 52 (by decide), k 53 (by decide), k 56 (by decide), k 57 (by decide), k 60 (by decide), k 61 (by decide), k 72 (by decide)]
  exact h
def z_cloud (B : mm_M) (w v : Int32) : Int32 := if (0 ≤ w.toInt ∧ w.toInt ≤ 51) ∧ 0 ≤ v.toInt ∧ v.toInt ≤ 1 then B 60 w.toNatClampNeg else -2
def cl_c (A : mm_M) (w v : Int32) : mm_M := if (0 ≤ w.toInt ∧ w.toInt ≤ 51) ∧ 0 ≤ v.toInt ∧ v.toInt ≤ 1 then mm_up A 13 w.toNatClampNeg v else A
def cl_r (B : mm_M) (w v : Int32) : mm_M := if (0 ≤ w.toInt ∧ w.toInt ≤ 51) ∧ 0 ≤ v.toInt ∧ v.toInt ≤ 1 then mm_up B 60 w.toNatClampNeg v else B
def z_survey (B : mm_M) (x k w : Int32) : Int32 := if (0 ≤ x.toInt ∧ x.toInt ≤ 5) ∧ (0 ≤ k.toInt ∧ k.toInt ≤ 24) ∧ 0 ≤ w.toInt ∧ w.toInt ≤ 999 then (if a_ns B < 8 then nI (a_ns B + 1) else -4) else -2
def sc (M : mm_M) (n : Nat) (x k w : Int32) : mm_M := mm_up (mm_up (mm_up (mm_up M 39 n x) 40 n k) 41 n w) 38 3 (nI (n + 1))
def sr (M : mm_M) (n : Nat) (x k w : Int32) : mm_M := mm_up (mm_up (mm_up (mm_up M 72 (3 * n) x) 72 (3 * n + 1) k) 72 (3 * n + 2) w) 51 29 (nI (n + 1))
def su_c (A : mm_M) (x k w : Int32) : mm_M := if (0 ≤ x.toInt ∧ x.toInt ≤ 5) ∧ (0 ≤ k.toInt ∧ k.toInt ≤ 24) ∧ 0 ≤ w.toInt ∧ w.toInt ≤ 999 then (if a_ns A < 8 then sc A (a_ns A) x k w else A) else A
def su_r (B : mm_M) (x k w : Int32) : mm_M := if (0 ≤ x.toInt ∧ x.toInt ≤ 5) ∧ (0 ≤ k.toInt ∧ k.toInt ≤ 24) ∧ 0 ≤ w.toInt ∧ w.toInt ≤ 999 then (if a_ns B < 8 then sr B (a_ns B) x k w else B) else B
def z_undo (B : mm_M) : Int32 := if a_ne B = 0 then -3 else nI (a_ne B - 1)
def und_c (A : mm_M) : mm_M := if a_ne A = 0 then A else mm_up A 14 5 (nI (a_ne A - 1))
def und_r (B : mm_M) : mm_M := if a_ne B = 0 then B else mm_up B 51 13 (nI (a_ne B - 1))
def z_lt (B : mm_M) : Int := if a_ne B = 0 then 0 else (B 61 (5 * (a_ne B - 1) + 1)).toInt
def z_lb (B : mm_M) (w : Int32) : Bool := decide (z_lt B ≤ w.toInt ∧ w.toInt ≤ 51)
def okw (a b h : Int32) : Bool := decide ((0 ≤ a.toInt ∧ a.toInt ≤ 11) ∧ (0 ≤ b.toInt ∧ b.toInt ≤ 11) ∧ 6 ≤ h.toInt ∧ h.toInt ≤ 18)
def okd (k p : Int32) : Bool := decide ((0 ≤ k.toInt ∧ k.toInt ≤ 1) ∧ 0 ≤ p.toInt ∧ p.toInt ≤ 11)
def ec (M : mm_M) (n : Nat) (k w a b h : Int32) : mm_M := mm_up (mm_up (mm_up (mm_up (mm_up (mm_up M 15 n w) 16 n k) 17 n a) 18 n b) 19 n h) 14 5 (nI (n + 1))
def er (M : mm_M) (n : Nat) (k w a b h : Int32) : mm_M := mm_up (mm_up (mm_up (mm_up (mm_up (mm_up M 61 (5 * n) k) 61 (5 * n + 1) w) 61 (5 * n + 2) a) 61 (5 * n + 3) b) 61 (5 * n + 4) h) 51 13 (nI (n + 1))
def z_tell (B : mm_M) (ok : Bool) : Int32 := if ok = true then (if a_ne B < 24 then nI (a_ne B + 1) else -4) else -2
def te (B C : mm_M) (ok : Bool) : mm_M := if ok = true then (if a_ne B < 24 then C else B) else B
theorem fr.ec {B M : mm_M} (h : fr B M) (n : Nat) (k w a b t : Int32) : fr (ec B n k w a b t) (ec M n k w a b t) := (((((h.both _ _ _).both _ _ _).both _ _ _).both _ _ _).both _ _ _).both _ _ _
theorem fr.er {B M : mm_M} (h : fr B M) (n : Nat) (k w a b t : Int32) : fr (er B n k w a b t) (er M n k w a b t) := (((((h.both _ _ _).both _ _ _).both _ _ _).both _ _ _).both _ _ _).both _ _ _
theorem fr.sc {B M : mm_M} (h : fr B M) (n : Nat) (x k w : Int32) : fr (sc B n x k w) (sc M n x k w) := (((h.both _ _ _).both _ _ _).both _ _ _).both _ _ _
theorem fr.sr {B M : mm_M} (h : fr B M) (n : Nat) (x k w : Int32) : fr (sr B n x k w) (sr M n x k w) := (((h.both _ _ _).both _ _ _).both _ _ _).both _ _ _

set_option maxHeartbeats 4000000 in
theorem c_X6_setClouds {l : Launch} {G : mm_G} {d : Nat} {M : mm_M} {Q : mm_T → mm_M → Prop} {x v : Int32} {w : Nat} (hx : x = nI w) (hw : w < 52) (h : Q T0 (mm_up M 13 w v)) : mm_met l G (d + 1) k_X6_setClouds [.ref 12, .int x, .int v] T0 M (mm_pv Q) := by
  have xi : x.toInt = w := by rw [hx]; exact mm_ti (by omega)
  refine mm_enter 0 [.ref 12, .int x, .int v] o_X6_setClouds rfl rfl ?_
  refine mm_iload_1 1 dX6_setClouds_0 rfl ?_
  refine mm_iconst 2 0 dX6_setClouds_1 rfl (by decide) ?_
  refine mm_bipush 4 51 dX6_setClouds_2 rfl (by decide) ?_
  refine mm_cSN3i 7 dX6_setClouds_4 v_X6_15 rfl (Nat.le_of_ble_eq_true rfl) ⟨rfl, rfl⟩ ⟨Nat.zero_le _, Nat.zero_le _⟩ (c_X11_isWithin (fun h1 => ?_) (fun h1 => absurd ⟨by (try simp only [Int32.lt_iff_toInt_lt, Int32.le_iff_toInt_le, ← Int32.toInt_inj, vp_in_iff, Int32.reduceToInt, mm_t1, mm_t2, mm_t3, mm_t4, mm_t10] at  ⊢); omega, by (try simp only [Int32.lt_iff_toInt_lt, Int32.le_iff_toInt_le, ← Int32.toInt_inj, vp_in_iff, Int32.reduceToInt, mm_t1, mm_t2, mm_t3, mm_t4, mm_t10] at  ⊢); omega⟩ h1))
  refine mm_if_eq 17 10 dX6_setClouds_7 (by decide) rfl (fun h => absurd h (by decide)) (fun _ => ?_)
  refine mm_aload_0 11 dX6_setClouds_10 rfl ?_
  refine mm_getR 14 dX6_setClouds_11 f_X6_9 rfl t_12 rfl ?_
  refine mm_iload_1 15 dX6_setClouds_14 rfl ?_
  refine mm_iload_2 16 dX6_setClouds_15 rfl ?_
  refine mm_iastoren 17 (w) dX6_setClouds_16 rfl t_13 (by decide) (hx) (by omega) ?_
  refine mm_vret dX6_setClouds_17 rfl ⟨rfl, Nat.zero_le _⟩ ?_
  exact h

set_option maxHeartbeats 4000000 in
theorem c_X11_cloud {l : Launch} {G : mm_G} {d : Nat} {M : mm_M} {Q : Int32 → mm_T → mm_M → Prop} {A : mm_M} (hi : iv A) (hf : fr A M) {w v : Int32} (h : ∀ r M1, r = z_cloud A w v → fr (cl_c A w v) M1 → Q r T0 M1) : mm_met l G (d + 2) k_X11_cloud [.ref 0, .int w, .int v] T0 M (mm_pi Q) := by
  refine mm_enter 1 [.ref 0, .int w, .int v, .double 0] o_X11_cloud rfl rfl ?_
  refine mm_iload_1 1 dX11_cloud_0 rfl ?_
  refine mm_iconst 2 0 dX11_cloud_1 rfl (by decide) ?_
  refine mm_bipush 4 51 dX11_cloud_2 rfl (by decide) ?_
  refine mm_cS3i 7 dX11_cloud_4 v_X11_98 rfl (Nat.le_of_ble_eq_true rfl) ⟨rfl, rfl⟩ ⟨Nat.zero_le _, Nat.zero_le _⟩ (c_X11_isWithin  (fun h1 => ?_) (fun h1 => ?_))
  · refine mm_if_eq 19 10 dX11_cloud_7 (by decide) rfl (fun h => absurd h (by decide)) (fun _ => ?_)
    refine mm_iload_2 11 dX11_cloud_10 rfl ?_
    refine mm_iconst 12 0 dX11_cloud_11 rfl (by decide) ?_
    refine mm_iconst 13 1 dX11_cloud_12 rfl (by decide) ?_
    refine mm_cS3i 16 dX11_cloud_13 v_X11_98 rfl (Nat.le_of_ble_eq_true rfl) ⟨rfl, rfl⟩ ⟨Nat.zero_le _, Nat.zero_le _⟩ (c_X11_isWithin  (fun h2 => ?_) (fun h2 => ?_))
    · refine mm_if_ne 22 19 dX11_cloud_16 (by decide) rfl (fun _ => ?_) (fun h => absurd h (by decide))
      have cw := mm_cl2 (x := w) (n := 52) (by (try simp only [Int32.lt_iff_toInt_lt, Int32.le_iff_toInt_le, ← Int32.toInt_inj, vp_in_iff, Int32.reduceToInt, mm_t1, mm_t2, mm_t3, mm_t4, mm_t10] at h1 h2 ⊢); omega)
      refine mm_aload_0 23 dX11_cloud_22 rfl ?_
      refine mm_getR 26 dX11_cloud_23 f_X11_40 rfl t_0 rfl ?_
      refine mm_iload_1 27 dX11_cloud_26 rfl ?_
      refine mm_cV1i 30 dX11_cloud_27 v_X11_147 rfl t_12 (by decide) rfl rfl (Nat.le_of_ble_eq_true rfl) ⟨rfl, rfl⟩ ⟨Nat.zero_le _, Nat.zero_le _⟩ (c_X6_cloudsIn  (fun r3 e3 => ?_))
      refine mm_istore_3 31 dX11_cloud_30 rfl rfl ?_
      refine mm_aload_0 32 dX11_cloud_31 rfl ?_
      refine mm_getR 35 dX11_cloud_32 f_X11_40 rfl t_0 rfl ?_
      refine mm_iload_1 36 dX11_cloud_35 rfl ?_
      refine mm_iload_2 37 dX11_cloud_36 rfl ?_
      refine mm_cV2v 40 dX11_cloud_37 v_X11_150 rfl t_12 (by decide) rfl rfl (Nat.le_of_ble_eq_true rfl) ⟨rfl, rfl⟩ ⟨Nat.zero_le _, Nat.zero_le _⟩ (c_X6_setClouds cw.1 (by omega) ?_)
      refine mm_iload_3 41 dX11_cloud_40 rfl ?_
      refine mm_iret dX11_cloud_41 rfl ⟨rfl, Nat.zero_le _⟩ ?_
      refine h _ _ ?_ ?_
      · unfold z_cloud
        rw [if_pos (by (try simp only [Int32.lt_iff_toInt_lt, Int32.le_iff_toInt_le, ← Int32.toInt_inj, vp_in_iff, Int32.reduceToInt, mm_t1, mm_t2, mm_t3, mm_t4, mm_t10] at h1 h2 ⊢); omega), e3]
        unfold s_X6_cloudsIn
        rw [if_pos (by (try simp only [Int32.lt_iff_toInt_lt, Int32.le_iff_toInt_le, ← Int32.toInt_inj, vp_in_iff, Int32.reduceToInt, mm_t1, mm_t2, mm_t3, mm_t4, mm_t10] at h1 h2 ⊢); omega), hf.a 13]
        exact hi.2.2.2.1 _ cw.2.1
      · unfold cl_c
        rw [if_pos (by (try simp only [Int32.lt_iff_toInt_lt, Int32.le_iff_toInt_le, ← Int32.toInt_inj, vp_in_iff, Int32.reduceToInt, mm_t1, mm_t2, mm_t3, mm_t4, mm_t10] at h1 h2 ⊢); omega)]
        exact hf.both _ _ _
    · refine mm_if_ne 22 19 dX11_cloud_16 (by decide) rfl (fun h => absurd h (by decide)) (fun _ => ?_)
      refine mm_bipush 21 (-2) dX11_cloud_19 rfl (by decide) ?_
      refine mm_iret dX11_cloud_21 rfl ⟨rfl, Nat.zero_le _⟩ ?_
      refine h _ _ ?_ ?_
      · unfold z_cloud
        rw [if_neg (by (try simp only [Int32.lt_iff_toInt_lt, Int32.le_iff_toInt_le, ← Int32.toInt_inj, vp_in_iff, Int32.reduceToInt, mm_t1, mm_t2, mm_t3, mm_t4, mm_t10] at h1 h2); omega)]
      · unfold cl_c
        rw [if_neg (by (try simp only [Int32.lt_iff_toInt_lt, Int32.le_iff_toInt_le, ← Int32.toInt_inj, vp_in_iff, Int32.reduceToInt, mm_t1, mm_t2, mm_t3, mm_t4, mm_t10] at h1 h2); omega)]
        exact hf
  · refine mm_if_eq 19 10 dX11_cloud_7 (by decide) rfl (fun _ => ?_) (fun h => absurd h (by decide))
    refine mm_bipush 21 (-2) dX11_cloud_19 rfl (by decide) ?_
    refine mm_iret dX11_cloud_21 rfl ⟨rfl, Nat.zero_le _⟩ ?_
    refine h _ _ ?_ ?_
    · unfold z_cloud
      rw [if_neg (by (try simp only [Int32.lt_iff_toInt_lt, Int32.le_iff_toInt_le, ← Int32.toInt_inj, vp_in_iff, Int32.reduceToInt, mm_t1, mm_t2, mm_t3, mm_t4, mm_t10] at h1); omega)]
    · unfold cl_c
      rw [if_neg (by (try simp only [Int32.lt_iff_toInt_lt, Int32.le_iff_toInt_le, ← Int32.toInt_inj, vp_in_iff, Int32.reduceToInt, mm_t1, mm_t2, mm_t3, mm_t4, mm_t10] at h1); omega)]
      exact hf

set_option maxHeartbeats 4000000 in
theorem c_X12_cloud {l : Launch} {G : mm_G} {d : Nat} {M : mm_M} {Q : Int32 → mm_T → mm_M → Prop} {B : mm_M} (hB : a_ok B) (hf : fr B M) {w v : Int32} (h : ∀ r M1, r = z_cloud B w v → fr (cl_r B w v) M1 → Q r T0 M1) : mm_met l G (d + 2) k_X12_cloud [.ref 51, .int w, .int v] T0 M (mm_pi Q) := by
  refine mm_enter 1 [.ref 51, .int w, .int v, .double 0] o_X12_cloud rfl rfl ?_
  refine mm_iload_1 1 dX12_cloud_0 rfl ?_
  refine mm_cS1i 4 dX12_cloud_1 v_X12_181 rfl (Nat.le_of_ble_eq_true rfl) ⟨rfl, rfl⟩ ⟨Nat.zero_le _, Nat.zero_le _⟩ (c_X12_isWeek  (fun h1 => ?_) (fun h1 => ?_))
  · refine mm_if_eq 14 7 dX12_cloud_4 (by decide) rfl (fun h => absurd h (by decide)) (fun _ => ?_)
    refine mm_iload_2 8 dX12_cloud_7 rfl ?_
    refine mm_cS1i 11 dX12_cloud_8 v_X12_124 rfl (Nat.le_of_ble_eq_true rfl) ⟨rfl, rfl⟩ ⟨Nat.zero_le _, Nat.zero_le _⟩ (c_X12_isTwo  (fun h2 => ?_) (fun h2 => ?_))
    · refine mm_if_ne 17 14 dX12_cloud_11 (by decide) rfl (fun _ => ?_) (fun h => absurd h (by decide))
      have cw := mm_cl2 (x := w) (n := 52) (by (try simp only [Int32.lt_iff_toInt_lt, Int32.le_iff_toInt_le, ← Int32.toInt_inj, vp_in_iff, Int32.reduceToInt, mm_t1, mm_t2, mm_t3, mm_t4, mm_t10] at h1 h2 ⊢); omega)
      refine mm_aload_0 18 dX12_cloud_17 rfl ?_
      refine mm_getR 21 dX12_cloud_18 f_X12_34 rfl t_51 rfl ?_
      refine mm_iload_1 22 dX12_cloud_21 rfl ?_
      refine mm_ialoadn 23 (w.toNatClampNeg) dX12_cloud_22 rfl t_60 (by decide) (cw.1) (by omega) ?_
      refine mm_istore_3 24 dX12_cloud_23 rfl rfl ?_
      refine mm_aload_0 25 dX12_cloud_24 rfl ?_
      refine mm_getR 28 dX12_cloud_25 f_X12_34 rfl t_51 rfl ?_
      refine mm_iload_1 29 dX12_cloud_28 rfl ?_
      refine mm_iload_2 30 dX12_cloud_29 rfl ?_
      refine mm_iastoren 31 (w.toNatClampNeg) dX12_cloud_30 rfl t_60 (by decide) (cw.1) (by omega) ?_
      refine mm_iload_3 32 dX12_cloud_31 rfl ?_
      refine mm_iret dX12_cloud_32 rfl ⟨rfl, Nat.zero_le _⟩ ?_
      refine h _ _ ?_ ?_
      · unfold z_cloud
        rw [if_pos (by (try simp only [Int32.lt_iff_toInt_lt, Int32.le_iff_toInt_le, ← Int32.toInt_inj, vp_in_iff, Int32.reduceToInt, mm_t1, mm_t2, mm_t3, mm_t4, mm_t10] at h1 h2 ⊢); omega), hf.a 60]
      · unfold cl_r
        rw [if_pos (by (try simp only [Int32.lt_iff_toInt_lt, Int32.le_iff_toInt_le, ← Int32.toInt_inj, vp_in_iff, Int32.reduceToInt, mm_t1, mm_t2, mm_t3, mm_t4, mm_t10] at h1 h2 ⊢); omega)]
        exact hf.both _ _ _
    · refine mm_if_ne 17 14 dX12_cloud_11 (by decide) rfl (fun h => absurd h (by decide)) (fun _ => ?_)
      refine mm_bipush 16 (-2) dX12_cloud_14 rfl (by decide) ?_
      refine mm_iret dX12_cloud_16 rfl ⟨rfl, Nat.zero_le _⟩ ?_
      refine h _ _ ?_ ?_
      · unfold z_cloud
        rw [if_neg (by (try simp only [Int32.lt_iff_toInt_lt, Int32.le_iff_toInt_le, ← Int32.toInt_inj, vp_in_iff, Int32.reduceToInt, mm_t1, mm_t2, mm_t3, mm_t4, mm_t10] at h1 h2); omega)]
      · unfold cl_r
        rw [if_neg (by (try simp only [Int32.lt_iff_toInt_lt, Int32.le_iff_toInt_le, ← Int32.toInt_inj, vp_in_iff, Int32.reduceToInt, mm_t1, mm_t2, mm_t3, mm_t4, mm_t10] at h1 h2); omega)]
        exact hf
  · refine mm_if_eq 14 7 dX12_cloud_4 (by decide) rfl (fun _ => ?_) (fun h => absurd h (by decide))
    refine mm_bipush 16 (-2) dX12_cloud_14 rfl (by decide) ?_
    refine mm_iret dX12_cloud_16 rfl ⟨rfl, Nat.zero_le _⟩ ?_
    refine h _ _ ?_ ?_
    · unfold z_cloud
      rw [if_neg (by (try simp only [Int32.lt_iff_toInt_lt, Int32.le_iff_toInt_le, ← Int32.toInt_inj, vp_in_iff, Int32.reduceToInt, mm_t1, mm_t2, mm_t3, mm_t4, mm_t10] at h1); omega)]
    · unfold cl_r
      rw [if_neg (by (try simp only [Int32.lt_iff_toInt_lt, Int32.le_iff_toInt_le, ← Int32.toInt_inj, vp_in_iff, Int32.reduceToInt, mm_t1, mm_t2, mm_t3, mm_t4, mm_t10] at h1); omega)]
      exact hf

set_option maxHeartbeats 4000000 in
theorem c_X7_add {l : Launch} {G : mm_G} {d : Nat} {M : mm_M} {Q : mm_T → mm_M → Prop} {x k w : Int32} {n : Nat} (hn : M 38 3 = nI n) (h8 : n < 8) (h : Q T0 (sc M n x k w)) : mm_met l G (d + 1) k_X7_add [.ref 38, .int x, .int k, .int w] T0 M (mm_pv Q) := by
  refine mm_enter 0 [.ref 38, .int x, .int k, .int w] o_X7_add rfl rfl ?_
  refine mm_aload_0 1 dX7_add_0 rfl ?_
  refine mm_cV0i 4 dX7_add_1 v_X7_25 rfl t_38 (by decide) rfl rfl (Nat.le_of_ble_eq_true rfl) ⟨rfl, rfl⟩ ⟨Nat.zero_le _, Nat.zero_le _⟩ (c_X7_isFull (fun h1 => absurd h1 (by rw [hn, mm_ti (by omega)]; omega)) (fun h1 => ?_))
  refine mm_if_eq 8 7 dX7_add_4 (by decide) rfl (fun _ => ?_) (fun h => absurd h (by decide))
  refine mm_aload_0 9 dX7_add_8 rfl ?_
  refine mm_getR 12 dX7_add_9 f_X7_9 rfl t_38 rfl ?_
  refine mm_aload_0 13 dX7_add_12 rfl ?_
  refine mm_getI 16 dX7_add_13 f_X7_21 rfl t_38 rfl ?_
  refine mm_iload_1 17 dX7_add_16 rfl ?_
  refine mm_iastoren 18 (n) dX7_add_17 rfl t_39 (by decide) (hn) (by omega) ?_
  refine mm_aload_0 19 dX7_add_18 rfl ?_
  refine mm_getR 22 dX7_add_19 f_X7_15 rfl t_38 rfl ?_
  refine mm_aload_0 23 dX7_add_22 rfl ?_
  refine mm_getI 26 dX7_add_23 f_X7_21 rfl t_38 rfl ?_
  refine mm_iload_2 27 dX7_add_26 rfl ?_
  refine mm_iastoren 28 (n) dX7_add_27 rfl t_40 (by decide) (by rw [mm_upn _ _ _ (by decide)] ; exact hn) (by omega) ?_
  refine mm_aload_0 29 dX7_add_28 rfl ?_
  refine mm_getR 32 dX7_add_29 f_X7_18 rfl t_38 rfl ?_
  refine mm_aload_0 33 dX7_add_32 rfl ?_
  refine mm_getI 36 dX7_add_33 f_X7_21 rfl t_38 rfl ?_
  refine mm_iload_3 37 dX7_add_36 rfl ?_
  refine mm_iastoren 38 (n) dX7_add_37 rfl t_41 (by decide) (by rw [mm_upn _ _ _ (by decide), mm_upn _ _ _ (by decide)] ; exact hn) (by omega) ?_
  refine mm_aload_0 39 dX7_add_38 rfl ?_
  refine mm_dup 40 dX7_add_39 rfl rfl ?_
  refine mm_getI 43 dX7_add_40 f_X7_21 rfl t_38 rfl ?_
  rw [mm_upn _ _ _ (by decide), mm_upn _ _ _ (by decide), mm_upn _ _ _ (by decide), hn]
  refine mm_iconst 44 1 dX7_add_43 rfl (by decide) ?_
  refine mm_iadd 45 dX7_add_44 rfl ?_
  rw [nI_1]
  refine mm_putI 48 dX7_add_45 p_X7_21 ⟨rfl, rfl⟩ rfl t_38 rfl ?_
  refine mm_vret dX7_add_48 rfl ⟨rfl, Nat.zero_le _⟩ ?_
  exact h

set_option maxHeartbeats 4000000 in
theorem c_X11_survey {l : Launch} {G : mm_G} {d : Nat} {M : mm_M} {Q : Int32 → mm_T → mm_M → Prop} {A : mm_M} (hi : iv A) (hf : fr A M) {x k w : Int32} (h : ∀ r M1, r = z_survey A x k w → fr (su_c A x k w) M1 → Q r T0 M1) : mm_met l G (d + 2) k_X11_survey [.ref 0, .int x, .int k, .int w] T0 M (mm_pi Q) := by
  have n8 := hi.1.ns.2
  have c38 : M 38 3 = nI (a_ns A) := by rw [hf.a 38, hi.2.2.2.2.2.1.1]; exact hi.1.ns.1
  have c38i : (M 38 3).toInt = a_ns A := by rw [c38]; exact mm_ti (by omega)
  refine mm_enter 0 [.ref 0, .int x, .int k, .int w] o_X11_survey rfl rfl ?_
  refine mm_iload_1 1 dX11_survey_0 rfl ?_
  refine mm_iconst 2 0 dX11_survey_1 rfl (by decide) ?_
  refine mm_iconst 3 5 dX11_survey_2 rfl (by decide) ?_
  refine mm_cS3i 6 dX11_survey_3 v_X11_98 rfl (Nat.le_of_ble_eq_true rfl) ⟨rfl, rfl⟩ ⟨Nat.zero_le _, Nat.zero_le _⟩ (c_X11_isWithin  (fun h1 => ?_) (fun h1 => ?_))
  · refine mm_if_eq 30 9 dX11_survey_6 (by decide) rfl (fun h => absurd h (by decide)) (fun _ => ?_)
    refine mm_iload_2 10 dX11_survey_9 rfl ?_
    refine mm_iconst 11 0 dX11_survey_10 rfl (by decide) ?_
    refine mm_bipush 13 24 dX11_survey_11 rfl (by decide) ?_
    refine mm_cS3i 16 dX11_survey_13 v_X11_98 rfl (Nat.le_of_ble_eq_true rfl) ⟨rfl, rfl⟩ ⟨Nat.zero_le _, Nat.zero_le _⟩ (c_X11_isWithin  (fun h2 => ?_) (fun h2 => ?_))
    · refine mm_if_eq 30 19 dX11_survey_16 (by decide) rfl (fun h => absurd h (by decide)) (fun _ => ?_)
      refine mm_iload_3 20 dX11_survey_19 rfl ?_
      refine mm_iconst 21 0 dX11_survey_20 rfl (by decide) ?_
      refine mm_sipush 24 999 dX11_survey_21 rfl (by decide) ?_
      refine mm_cS3i 27 dX11_survey_24 v_X11_98 rfl (Nat.le_of_ble_eq_true rfl) ⟨rfl, rfl⟩ ⟨Nat.zero_le _, Nat.zero_le _⟩ (c_X11_isWithin  (fun h3 => ?_) (fun h3 => ?_))
      · refine mm_if_ne 33 30 dX11_survey_27 (by decide) rfl (fun _ => ?_) (fun h => absurd h (by decide))
        refine mm_aload_0 34 dX11_survey_33 rfl ?_
        refine mm_getR 37 dX11_survey_34 f_X11_79 rfl t_0 rfl ?_
        refine mm_cV0i 40 dX11_survey_37 v_X11_230 rfl t_38 (by decide) rfl rfl (Nat.le_of_ble_eq_true rfl) ⟨rfl, rfl⟩ ⟨Nat.zero_le _, Nat.zero_le _⟩ (c_X7_isFull  (fun h4 => ?_) (fun h4 => ?_))
        · refine mm_if_eq 46 43 dX11_survey_40 (by decide) rfl (fun h => absurd h (by decide)) (fun _ => ?_)
          refine mm_bipush 45 (-4) dX11_survey_43 rfl (by decide) ?_
          refine mm_iret dX11_survey_45 rfl ⟨rfl, Nat.zero_le _⟩ ?_
          refine h _ _ ?_ ?_
          · unfold z_survey
            rw [if_pos (by (try simp only [Int32.lt_iff_toInt_lt, Int32.le_iff_toInt_le, ← Int32.toInt_inj, vp_in_iff, Int32.reduceToInt, mm_t1, mm_t2, mm_t3, mm_t4, mm_t10] at h1 h2 h3 h4 ⊢); omega), if_neg (by (try simp only [Int32.lt_iff_toInt_lt, Int32.le_iff_toInt_le, ← Int32.toInt_inj, vp_in_iff, Int32.reduceToInt, mm_t1, mm_t2, mm_t3, mm_t4, mm_t10] at h1 h2 h3 h4 c38i ⊢); omega)]
          · unfold su_c
            rw [if_pos (by (try simp only [Int32.lt_iff_toInt_lt, Int32.le_iff_toInt_le, ← Int32.toInt_inj, vp_in_iff, Int32.reduceToInt, mm_t1, mm_t2, mm_t3, mm_t4, mm_t10] at h1 h2 h3 h4 ⊢); omega), if_neg (by (try simp only [Int32.lt_iff_toInt_lt, Int32.le_iff_toInt_le, ← Int32.toInt_inj, vp_in_iff, Int32.reduceToInt, mm_t1, mm_t2, mm_t3, mm_t4, mm_t10] at h1 h2 h3 h4 c38i ⊢); omega)]
            exact hf
        · refine mm_if_eq 46 43 dX11_survey_40 (by decide) rfl (fun _ => ?_) (fun h => absurd h (by decide))
          refine mm_aload_0 47 dX11_survey_46 rfl ?_
          refine mm_getR 50 dX11_survey_47 f_X11_79 rfl t_0 rfl ?_
          refine mm_iload_1 51 dX11_survey_50 rfl ?_
          refine mm_iload_2 52 dX11_survey_51 rfl ?_
          refine mm_iload_3 53 dX11_survey_52 rfl ?_
          refine mm_cV3v 56 dX11_survey_53 v_X11_231 rfl t_38 (by decide) rfl rfl (Nat.le_of_ble_eq_true rfl) ⟨rfl, rfl⟩ ⟨Nat.zero_le _, Nat.zero_le _⟩ (c_X7_add c38 (by (try simp only [Int32.lt_iff_toInt_lt, Int32.le_iff_toInt_le, ← Int32.toInt_inj, vp_in_iff, Int32.reduceToInt, mm_t1, mm_t2, mm_t3, mm_t4, mm_t10] at h1 h2 h3 h4 c38i ⊢); omega) ?_)
          refine mm_aload_0 57 dX11_survey_56 rfl ?_
          refine mm_getR 60 dX11_survey_57 f_X11_79 rfl t_0 rfl ?_
          refine mm_cV0i 63 dX11_survey_60 v_X11_234 rfl t_38 (by decide) rfl rfl (Nat.le_of_ble_eq_true rfl) ⟨rfl, rfl⟩ ⟨Nat.zero_le _, Nat.zero_le _⟩ (c_X7_number  (fun r5 e5 => ?_))
          refine mm_iret dX11_survey_63 rfl ⟨rfl, Nat.zero_le _⟩ ?_
          refine h _ _ ?_ ?_
          · unfold z_survey
            rw [if_pos (by (try simp only [Int32.lt_iff_toInt_lt, Int32.le_iff_toInt_le, ← Int32.toInt_inj, vp_in_iff, Int32.reduceToInt, mm_t1, mm_t2, mm_t3, mm_t4, mm_t10] at h1 h2 h3 h4 ⊢); omega), if_pos (by (try simp only [Int32.lt_iff_toInt_lt, Int32.le_iff_toInt_le, ← Int32.toInt_inj, vp_in_iff, Int32.reduceToInt, mm_t1, mm_t2, mm_t3, mm_t4, mm_t10] at h1 h2 h3 h4 c38i ⊢); omega), e5]
            unfold sc
            rw [mm_upv]
          · unfold su_c
            rw [if_pos (by (try simp only [Int32.lt_iff_toInt_lt, Int32.le_iff_toInt_le, ← Int32.toInt_inj, vp_in_iff, Int32.reduceToInt, mm_t1, mm_t2, mm_t3, mm_t4, mm_t10] at h1 h2 h3 h4 ⊢); omega), if_pos (by (try simp only [Int32.lt_iff_toInt_lt, Int32.le_iff_toInt_le, ← Int32.toInt_inj, vp_in_iff, Int32.reduceToInt, mm_t1, mm_t2, mm_t3, mm_t4, mm_t10] at h1 h2 h3 h4 c38i ⊢); omega)]
            exact hf.sc _ _ _ _
      · refine mm_if_ne 33 30 dX11_survey_27 (by decide) rfl (fun h => absurd h (by decide)) (fun _ => ?_)
        refine mm_bipush 32 (-2) dX11_survey_30 rfl (by decide) ?_
        refine mm_iret dX11_survey_32 rfl ⟨rfl, Nat.zero_le _⟩ ?_
        refine h _ _ ?_ ?_
        · unfold z_survey
          rw [if_neg (by (try simp only [Int32.lt_iff_toInt_lt, Int32.le_iff_toInt_le, ← Int32.toInt_inj, vp_in_iff, Int32.reduceToInt, mm_t1, mm_t2, mm_t3, mm_t4, mm_t10] at h1 h2 h3); omega)]
        · unfold su_c
          rw [if_neg (by (try simp only [Int32.lt_iff_toInt_lt, Int32.le_iff_toInt_le, ← Int32.toInt_inj, vp_in_iff, Int32.reduceToInt, mm_t1, mm_t2, mm_t3, mm_t4, mm_t10] at h1 h2 h3); omega)]
          exact hf
    · refine mm_if_eq 30 19 dX11_survey_16 (by decide) rfl (fun _ => ?_) (fun h => absurd h (by decide))
      refine mm_bipush 32 (-2) dX11_survey_30 rfl (by decide) ?_
      refine mm_iret dX11_survey_32 rfl ⟨rfl, Nat.zero_le _⟩ ?_
      refine h _ _ ?_ ?_
      · unfold z_survey
        rw [if_neg (by (try simp only [Int32.lt_iff_toInt_lt, Int32.le_iff_toInt_le, ← Int32.toInt_inj, vp_in_iff, Int32.reduceToInt, mm_t1, mm_t2, mm_t3, mm_t4, mm_t10] at h1 h2); omega)]
      · unfold su_c
        rw [if_neg (by (try simp only [Int32.lt_iff_toInt_lt, Int32.le_iff_toInt_le, ← Int32.toInt_inj, vp_in_iff, Int32.reduceToInt, mm_t1, mm_t2, mm_t3, mm_t4, mm_t10] at h1 h2); omega)]
        exact hf
  · refine mm_if_eq 30 9 dX11_survey_6 (by decide) rfl (fun _ => ?_) (fun h => absurd h (by decide))
    refine mm_bipush 32 (-2) dX11_survey_30 rfl (by decide) ?_
    refine mm_iret dX11_survey_32 rfl ⟨rfl, Nat.zero_le _⟩ ?_
    refine h _ _ ?_ ?_
    · unfold z_survey
      rw [if_neg (by (try simp only [Int32.lt_iff_toInt_lt, Int32.le_iff_toInt_le, ← Int32.toInt_inj, vp_in_iff, Int32.reduceToInt, mm_t1, mm_t2, mm_t3, mm_t4, mm_t10] at h1); omega)]
    · unfold su_c
      rw [if_neg (by (try simp only [Int32.lt_iff_toInt_lt, Int32.le_iff_toInt_le, ← Int32.toInt_inj, vp_in_iff, Int32.reduceToInt, mm_t1, mm_t2, mm_t3, mm_t4, mm_t10] at h1); omega)]
      exact hf

set_option maxHeartbeats 4000000 in
theorem c_X12_survey {l : Launch} {G : mm_G} {d : Nat} {M : mm_M} {Q : Int32 → mm_T → mm_M → Prop} {B : mm_M} (hB : a_ok B) (hf : fr B M) {x k w : Int32} (h : ∀ r M1, r = z_survey B x k w → fr (su_r B x k w) M1 → Q r T0 M1) : mm_met l G (d + 1) k_X12_survey [.ref 51, .int x, .int k, .int w] T0 M (mm_pi Q) := by
  have n8 := hB.ns.2
  have c29 : M 51 29 = nI (a_ns B) := by rw [hf.2.2.2]; exact hB.ns.1
  have c29i : (M 51 29).toInt = a_ns B := by rw [c29]; exact mm_ti (by omega)
  refine mm_enter 0 [.ref 51, .int x, .int k, .int w] o_X12_survey rfl rfl ?_
  refine mm_iload_1 1 dX12_survey_0 rfl ?_
  refine mm_i2l 2 dX12_survey_1 rfl ?_
  refine mm_lconst 3 0 dX12_survey_2 rfl (by decide) ?_
  refine mm_ldc2 6 5 dX12_survey_3 rfl j_X12_290 ?_
  refine mm_cS3i 9 dX12_survey_6 v_X12_95 rfl (Nat.le_of_ble_eq_true rfl) ⟨rfl, rfl⟩ ⟨Nat.zero_le _, Nat.zero_le _⟩ (c_X12_in  (fun h1 => ?_) (fun h1 => ?_))
  · refine mm_if_eq 36 12 dX12_survey_9 (by decide) rfl (fun h => absurd h (by decide)) (fun _ => ?_)
    refine mm_iload_2 13 dX12_survey_12 rfl ?_
    refine mm_i2l 14 dX12_survey_13 rfl ?_
    refine mm_lconst 15 0 dX12_survey_14 rfl (by decide) ?_
    refine mm_ldc2 18 24 dX12_survey_15 rfl j_X12_292 ?_
    refine mm_cS3i 21 dX12_survey_18 v_X12_95 rfl (Nat.le_of_ble_eq_true rfl) ⟨rfl, rfl⟩ ⟨Nat.zero_le _, Nat.zero_le _⟩ (c_X12_in  (fun h2 => ?_) (fun h2 => ?_))
    · refine mm_if_eq 36 24 dX12_survey_21 (by decide) rfl (fun h => absurd h (by decide)) (fun _ => ?_)
      refine mm_iload_3 25 dX12_survey_24 rfl ?_
      refine mm_i2l 26 dX12_survey_25 rfl ?_
      refine mm_lconst 27 0 dX12_survey_26 rfl (by decide) ?_
      refine mm_ldc2 30 999 dX12_survey_27 rfl j_X12_273 ?_
      refine mm_cS3i 33 dX12_survey_30 v_X12_95 rfl (Nat.le_of_ble_eq_true rfl) ⟨rfl, rfl⟩ ⟨Nat.zero_le _, Nat.zero_le _⟩ (c_X12_in  (fun h3 => ?_) (fun h3 => ?_))
      · refine mm_if_ne 39 36 dX12_survey_33 (by decide) rfl (fun _ => ?_) (fun h => absurd h (by decide))
        refine mm_aload_0 40 dX12_survey_39 rfl ?_
        refine mm_getI 43 dX12_survey_40 f_X12_294 rfl t_51 rfl ?_
        refine mm_bipush 45 8 dX12_survey_43 rfl (by decide) ?_
        refine mm_ic_ne 51 48 dX12_survey_45 (by decide) rfl (fun h4 => ?_) (fun h4 => ?_)
        · have hlt : a_ns B < 8 := by (try simp only [lg_cmp_lt, lg_cmp_gt, lg_cmp_le, lg_cmp_ge] at h4 c29i); (try simp only [Int32.lt_iff_toInt_lt, Int32.le_iff_toInt_le, ← Int32.toInt_inj, vp_in_iff, Int32.reduceToInt, mm_t1, mm_t2, mm_t3, mm_t4, mm_t10, Int64.lt_iff_toInt_lt, Int64.le_iff_toInt_le, Int64.reduceToInt, Int32.toInt_toInt64] at h4 c29i ⊢); omega
          refine mm_aload_0 52 dX12_survey_51 rfl ?_
          refine mm_getR 55 dX12_survey_52 f_X12_70 rfl t_51 rfl ?_
          refine mm_iconst 56 3 dX12_survey_55 rfl (by decide) ?_
          refine mm_aload_0 57 dX12_survey_56 rfl ?_
          refine mm_getI 60 dX12_survey_57 f_X12_294 rfl t_51 rfl ?_
          rw [c29]
          refine mm_imul 61 dX12_survey_60 rfl ?_
          refine mm_iload_1 62 dX12_survey_61 rfl ?_
          refine mm_iastoren 63 (3 * a_ns B) dX12_survey_62 rfl t_72 (by decide) (by rw [mm_l3, pk_mul]) (by omega) ?_
          refine mm_aload_0 64 dX12_survey_63 rfl ?_
          refine mm_getR 67 dX12_survey_64 f_X12_70 rfl t_51 rfl ?_
          refine mm_iconst 68 3 dX12_survey_67 rfl (by decide) ?_
          refine mm_aload_0 69 dX12_survey_68 rfl ?_
          refine mm_getI 72 dX12_survey_69 f_X12_294 rfl t_51 rfl ?_
          rw [mm_upn _ _ _ (by decide), c29]
          refine mm_imul 73 dX12_survey_72 rfl ?_
          refine mm_iconst 74 1 dX12_survey_73 rfl (by decide) ?_
          refine mm_iadd 75 dX12_survey_74 rfl ?_
          refine mm_iload_2 76 dX12_survey_75 rfl ?_
          refine mm_iastoren 77 (3 * a_ns B + 1) dX12_survey_76 rfl t_72 (by decide) (by rw [mm_l3, pk_mul, mm_l1, nI_add]) (by omega) ?_
          refine mm_aload_0 78 dX12_survey_77 rfl ?_
          refine mm_getR 81 dX12_survey_78 f_X12_70 rfl t_51 rfl ?_
          refine mm_iconst 82 3 dX12_survey_81 rfl (by decide) ?_
          refine mm_aload_0 83 dX12_survey_82 rfl ?_
          refine mm_getI 86 dX12_survey_83 f_X12_294 rfl t_51 rfl ?_
          rw [mm_upn _ _ _ (by decide), mm_upn _ _ _ (by decide), c29]
          refine mm_imul 87 dX12_survey_86 rfl ?_
          refine mm_iconst 88 2 dX12_survey_87 rfl (by decide) ?_
          refine mm_iadd 89 dX12_survey_88 rfl ?_
          refine mm_iload_3 90 dX12_survey_89 rfl ?_
          refine mm_iastoren 91 (3 * a_ns B + 2) dX12_survey_90 rfl t_72 (by decide) (by rw [mm_l3, pk_mul, mm_l2, nI_add]) (by omega) ?_
          refine mm_aload_0 92 dX12_survey_91 rfl ?_
          refine mm_dup 93 dX12_survey_92 rfl rfl ?_
          refine mm_getI 96 dX12_survey_93 f_X12_294 rfl t_51 rfl ?_
          rw [mm_upn _ _ _ (by decide), mm_upn _ _ _ (by decide), mm_upn _ _ _ (by decide), c29]
          refine mm_iconst 97 1 dX12_survey_96 rfl (by decide) ?_
          refine mm_iadd 98 dX12_survey_97 rfl ?_
          rw [nI_1]
          refine mm_putI 101 dX12_survey_98 p_X12_294 ⟨rfl, rfl⟩ rfl t_51 rfl ?_
          refine mm_aload_0 102 dX12_survey_101 rfl ?_
          refine mm_getI 105 dX12_survey_102 f_X12_294 rfl t_51 rfl ?_
          refine mm_iret dX12_survey_105 rfl ⟨rfl, Nat.zero_le _⟩ ?_
          refine h _ _ ?_ ?_
          · unfold z_survey
            rw [if_pos (by (try simp only [lg_cmp_lt, lg_cmp_gt, lg_cmp_le, lg_cmp_ge] at h1 h2 h3 h4); (try simp only [Int32.lt_iff_toInt_lt, Int32.le_iff_toInt_le, ← Int32.toInt_inj, vp_in_iff, Int32.reduceToInt, mm_t1, mm_t2, mm_t3, mm_t4, mm_t10, Int64.lt_iff_toInt_lt, Int64.le_iff_toInt_le, Int64.reduceToInt, Int32.toInt_toInt64] at h1 h2 h3 h4 ⊢); omega), if_pos (by (try simp only [lg_cmp_lt, lg_cmp_gt, lg_cmp_le, lg_cmp_ge] at h1 h2 h3 h4 c29i); (try simp only [Int32.lt_iff_toInt_lt, Int32.le_iff_toInt_le, ← Int32.toInt_inj, vp_in_iff, Int32.reduceToInt, mm_t1, mm_t2, mm_t3, mm_t4, mm_t10, Int64.lt_iff_toInt_lt, Int64.le_iff_toInt_le, Int64.reduceToInt, Int32.toInt_toInt64] at h1 h2 h3 h4 c29i ⊢); omega)]
            rw [mm_upv]
          · unfold su_r
            rw [if_pos (by (try simp only [lg_cmp_lt, lg_cmp_gt, lg_cmp_le, lg_cmp_ge] at h1 h2 h3 h4); (try simp only [Int32.lt_iff_toInt_lt, Int32.le_iff_toInt_le, ← Int32.toInt_inj, vp_in_iff, Int32.reduceToInt, mm_t1, mm_t2, mm_t3, mm_t4, mm_t10, Int64.lt_iff_toInt_lt, Int64.le_iff_toInt_le, Int64.reduceToInt, Int32.toInt_toInt64] at h1 h2 h3 h4 ⊢); omega), if_pos (by (try simp only [lg_cmp_lt, lg_cmp_gt, lg_cmp_le, lg_cmp_ge] at h1 h2 h3 h4 c29i); (try simp only [Int32.lt_iff_toInt_lt, Int32.le_iff_toInt_le, ← Int32.toInt_inj, vp_in_iff, Int32.reduceToInt, mm_t1, mm_t2, mm_t3, mm_t4, mm_t10, Int64.lt_iff_toInt_lt, Int64.le_iff_toInt_le, Int64.reduceToInt, Int32.toInt_toInt64] at h1 h2 h3 h4 c29i ⊢); omega)]
            exact hf.sr _ _ _ _
        · refine mm_bipush 50 (-4) dX12_survey_48 rfl (by decide) ?_
          refine mm_iret dX12_survey_50 rfl ⟨rfl, Nat.zero_le _⟩ ?_
          refine h _ _ ?_ ?_
          · unfold z_survey
            rw [if_pos (by (try simp only [lg_cmp_lt, lg_cmp_gt, lg_cmp_le, lg_cmp_ge] at h1 h2 h3 h4); (try simp only [Int32.lt_iff_toInt_lt, Int32.le_iff_toInt_le, ← Int32.toInt_inj, vp_in_iff, Int32.reduceToInt, mm_t1, mm_t2, mm_t3, mm_t4, mm_t10, Int64.lt_iff_toInt_lt, Int64.le_iff_toInt_le, Int64.reduceToInt, Int32.toInt_toInt64] at h1 h2 h3 h4 ⊢); omega), if_neg (by (try simp only [lg_cmp_lt, lg_cmp_gt, lg_cmp_le, lg_cmp_ge] at h1 h2 h3 h4 c29i); (try simp only [Int32.lt_iff_toInt_lt, Int32.le_iff_toInt_le, ← Int32.toInt_inj, vp_in_iff, Int32.reduceToInt, mm_t1, mm_t2, mm_t3, mm_t4, mm_t10, Int64.lt_iff_toInt_lt, Int64.le_iff_toInt_le, Int64.reduceToInt, Int32.toInt_toInt64] at h1 h2 h3 h4 c29i ⊢); omega)]
          · unfold su_r
            rw [if_pos (by (try simp only [lg_cmp_lt, lg_cmp_gt, lg_cmp_le, lg_cmp_ge] at h1 h2 h3 h4); (try simp only [Int32.lt_iff_toInt_lt, Int32.le_iff_toInt_le, ← Int32.toInt_inj, vp_in_iff, Int32.reduceToInt, mm_t1, mm_t2, mm_t3, mm_t4, mm_t10, Int64.lt_iff_toInt_lt, Int64.le_iff_toInt_le, Int64.reduceToInt, Int32.toInt_toInt64] at h1 h2 h3 h4 ⊢); omega), if_neg (by (try simp only [lg_cmp_lt, lg_cmp_gt, lg_cmp_le, lg_cmp_ge] at h1 h2 h3 h4 c29i); (try simp only [Int32.lt_iff_toInt_lt, Int32.le_iff_toInt_le, ← Int32.toInt_inj, vp_in_iff, Int32.reduceToInt, mm_t1, mm_t2, mm_t3, mm_t4, mm_t10, Int64.lt_iff_toInt_lt, Int64.le_iff_toInt_le, Int64.reduceToInt, Int32.toInt_toInt64] at h1 h2 h3 h4 c29i ⊢); omega)]
            exact hf
      · refine mm_if_ne 39 36 dX12_survey_33 (by decide) rfl (fun h => absurd h (by decide)) (fun _ => ?_)
        refine mm_bipush 38 (-2) dX12_survey_36 rfl (by decide) ?_
        refine mm_iret dX12_survey_38 rfl ⟨rfl, Nat.zero_le _⟩ ?_
        refine h _ _ ?_ ?_
        · unfold z_survey
          rw [if_neg (by (try simp only [lg_cmp_lt, lg_cmp_gt, lg_cmp_le, lg_cmp_ge] at h1 h2 h3); (try simp only [Int32.lt_iff_toInt_lt, Int32.le_iff_toInt_le, ← Int32.toInt_inj, vp_in_iff, Int32.reduceToInt, mm_t1, mm_t2, mm_t3, mm_t4, mm_t10, Int64.lt_iff_toInt_lt, Int64.le_iff_toInt_le, Int64.reduceToInt, Int32.toInt_toInt64] at h1 h2 h3); omega)]
        · unfold su_r
          rw [if_neg (by (try simp only [lg_cmp_lt, lg_cmp_gt, lg_cmp_le, lg_cmp_ge] at h1 h2 h3); (try simp only [Int32.lt_iff_toInt_lt, Int32.le_iff_toInt_le, ← Int32.toInt_inj, vp_in_iff, Int32.reduceToInt, mm_t1, mm_t2, mm_t3, mm_t4, mm_t10, Int64.lt_iff_toInt_lt, Int64.le_iff_toInt_le, Int64.reduceToInt, Int32.toInt_toInt64] at h1 h2 h3); omega)]
          exact hf
    · refine mm_if_eq 36 24 dX12_survey_21 (by decide) rfl (fun _ => ?_) (fun h => absurd h (by decide))
      refine mm_bipush 38 (-2) dX12_survey_36 rfl (by decide) ?_
      refine mm_iret dX12_survey_38 rfl ⟨rfl, Nat.zero_le _⟩ ?_
      refine h _ _ ?_ ?_
      · unfold z_survey
        rw [if_neg (by (try simp only [lg_cmp_lt, lg_cmp_gt, lg_cmp_le, lg_cmp_ge] at h1 h2); (try simp only [Int32.lt_iff_toInt_lt, Int32.le_iff_toInt_le, ← Int32.toInt_inj, vp_in_iff, Int32.reduceToInt, mm_t1, mm_t2, mm_t3, mm_t4, mm_t10, Int64.lt_iff_toInt_lt, Int64.le_iff_toInt_le, Int64.reduceToInt, Int32.toInt_toInt64] at h1 h2); omega)]
      · unfold su_r
        rw [if_neg (by (try simp only [lg_cmp_lt, lg_cmp_gt, lg_cmp_le, lg_cmp_ge] at h1 h2); (try simp only [Int32.lt_iff_toInt_lt, Int32.le_iff_toInt_le, ← Int32.toInt_inj, vp_in_iff, Int32.reduceToInt, mm_t1, mm_t2, mm_t3, mm_t4, mm_t10, Int64.lt_iff_toInt_lt, Int64.le_iff_toInt_le, Int64.reduceToInt, Int32.toInt_toInt64] at h1 h2); omega)]
        exact hf
  · refine mm_if_eq 36 12 dX12_survey_9 (by decide) rfl (fun _ => ?_) (fun h => absurd h (by decide))
    refine mm_bipush 38 (-2) dX12_survey_36 rfl (by decide) ?_
    refine mm_iret dX12_survey_38 rfl ⟨rfl, Nat.zero_le _⟩ ?_
    refine h _ _ ?_ ?_
    · unfold z_survey
      rw [if_neg (by (try simp only [lg_cmp_lt, lg_cmp_gt, lg_cmp_le, lg_cmp_ge] at h1); (try simp only [Int32.lt_iff_toInt_lt, Int32.le_iff_toInt_le, ← Int32.toInt_inj, vp_in_iff, Int32.reduceToInt, mm_t1, mm_t2, mm_t3, mm_t4, mm_t10, Int64.lt_iff_toInt_lt, Int64.le_iff_toInt_le, Int64.reduceToInt, Int32.toInt_toInt64] at h1); omega)]
    · unfold su_r
      rw [if_neg (by (try simp only [lg_cmp_lt, lg_cmp_gt, lg_cmp_le, lg_cmp_ge] at h1); (try simp only [Int32.lt_iff_toInt_lt, Int32.le_iff_toInt_le, ← Int32.toInt_inj, vp_in_iff, Int32.reduceToInt, mm_t1, mm_t2, mm_t3, mm_t4, mm_t10, Int64.lt_iff_toInt_lt, Int64.le_iff_toInt_le, Int64.reduceToInt, Int32.toInt_toInt64] at h1); omega)]
      exact hf

set_option maxHeartbeats 4000000 in
theorem c_X11_forget {l : Launch} {G : mm_G} {d : Nat} {M : mm_M} {Q : Int32 → mm_T → mm_M → Prop} {A : mm_M} (hi : iv A) (hf : fr A M) (h : ∀ r M1, r = A 51 29 → fr (mm_up A 38 3 0) M1 → Q r T0 M1) : mm_met l G (d + 1) k_X11_forget [.ref 0] T0 M (mm_pi Q) := by
  refine mm_enter 1 [.ref 0, .double 0] o_X11_forget rfl rfl ?_
  refine mm_aload_0 1 dX11_forget_0 rfl ?_
  refine mm_getR 4 dX11_forget_1 f_X11_79 rfl t_0 rfl ?_
  refine mm_cV0i 7 dX11_forget_4 v_X11_234 rfl t_38 (by decide) rfl rfl (Nat.le_of_ble_eq_true rfl) ⟨rfl, rfl⟩ ⟨Nat.zero_le _, Nat.zero_le _⟩ (c_X7_number  (fun r1 e1 => ?_))
  refine mm_istore_1 8 dX11_forget_7 rfl rfl ?_
  refine mm_aload_0 9 dX11_forget_8 rfl ?_
  refine mm_getR 12 dX11_forget_9 f_X11_79 rfl t_0 rfl ?_
  refine mm_cV0v 15 dX11_forget_12 v_X11_235 rfl t_38 (by decide) rfl rfl (Nat.le_of_ble_eq_true rfl) ⟨rfl, rfl⟩ ⟨Nat.zero_le _, Nat.zero_le _⟩ (c_X7_clear ?_)
  refine mm_iload_1 16 dX11_forget_15 rfl ?_
  refine mm_iret dX11_forget_16 rfl ⟨rfl, Nat.zero_le _⟩ ?_
  refine h _ _ ?_ (hf.both _ _ _)
  rw [e1, hf.a 38]
  exact hi.2.2.2.2.2.1.1

set_option maxHeartbeats 4000000 in
theorem c_X12_forget {l : Launch} {G : mm_G} {d : Nat} {M : mm_M} {Q : Int32 → mm_T → mm_M → Prop} {B : mm_M} (hB : a_ok B) (hf : fr B M) (h : ∀ r M1, r = B 51 29 → fr (mm_up B 51 29 0) M1 → Q r T0 M1) : mm_met l G d k_X12_forget [.ref 51] T0 M (mm_pi Q) := by
  refine mm_enter 1 [.ref 51, .double 0] o_X12_forget rfl rfl ?_
  refine mm_aload_0 1 dX12_forget_0 rfl ?_
  refine mm_getI 4 dX12_forget_1 f_X12_294 rfl t_51 rfl ?_
  refine mm_istore_1 5 dX12_forget_4 rfl rfl ?_
  refine mm_aload_0 6 dX12_forget_5 rfl ?_
  refine mm_iconst 7 0 dX12_forget_6 rfl (by decide) ?_
  refine mm_putI 10 dX12_forget_7 p_X12_294 ⟨rfl, rfl⟩ rfl t_51 rfl ?_
  refine mm_iload_1 11 dX12_forget_10 rfl ?_
  refine mm_iret dX12_forget_11 rfl ⟨rfl, Nat.zero_le _⟩ ?_
  exact h _ _ hf.2.2.2 (hf.both _ _ _)

set_option maxHeartbeats 4000000 in
theorem c_X2_dropLast {l : Launch} {G : mm_G} {d : Nat} {M : mm_M} {Q : mm_T → mm_M → Prop} {n : Nat} (hn : M 14 5 = nI (n + 1)) (h24 : n < 24) (h : Q T0 (mm_up M 14 5 (nI n))) : mm_met l G (d + 1) k_X2_dropLast [.ref 14] T0 M (mm_pv Q) := by
  refine mm_enter 0 [.ref 14] o_X2_dropLast rfl rfl ?_
  refine mm_aload_0 1 dX2_dropLast_0 rfl ?_
  refine mm_aload_0 2 dX2_dropLast_1 rfl ?_
  refine mm_getI 5 dX2_dropLast_2 f_X2_27 rfl t_14 rfl ?_
  rw [hn]
  refine mm_iconst 6 1 dX2_dropLast_5 rfl (by decide) ?_
  refine mm_isub 7 dX2_dropLast_6 rfl ?_
  refine mm_iconst 8 0 dX2_dropLast_7 rfl (by decide) ?_
  refine mm_mmax 11 dX2_dropLast_8 j_X2_35 rfl (Nat.le_of_ble_eq_true rfl) ⟨Nat.zero_le _, Nat.zero_le _⟩ ?_
  rw [show nI (n + 1) - 1 = nI n by apply mm_ii; rw [nI_m1 (by omega), mm_ti (by omega)]; omega, if_neg (by rw [mm_lt, mm_ti (by omega), show (0 : Int32).toInt = 0 from rfl]; omega)]
  refine mm_putI 14 dX2_dropLast_11 p_X2_27 ⟨rfl, rfl⟩ rfl t_14 rfl ?_
  refine mm_vret dX2_dropLast_14 rfl ⟨rfl, Nat.zero_le _⟩ ?_
  exact h

set_option maxHeartbeats 4000000 in
theorem c_X11_undo {l : Launch} {G : mm_G} {d : Nat} {M : mm_M} {Q : Int32 → mm_T → mm_M → Prop} {A : mm_M} (hi : iv A) (hf : fr A M) (h : ∀ r M1, r = z_undo A → fr (und_c A) M1 → Q r T0 M1) : mm_met l G (d + 2) k_X11_undo [.ref 0] T0 M (mm_pi Q) := by
  have n24 := hi.1.ne.2
  have c14 : M 14 5 = nI (a_ne A) := (hf.vd hi).1.2.2.2.2.2.1
  have c14i : (M 14 5).toInt = a_ne A := (hf.vd hi).1.ei
  refine mm_enter 0 [.ref 0] o_X11_undo rfl rfl ?_
  refine mm_aload_0 1 dX11_undo_0 rfl ?_
  refine mm_getR 4 dX11_undo_1 f_X11_47 rfl t_0 rfl ?_
  refine mm_cV0i 7 dX11_undo_4 v_X11_165 rfl t_14 (by decide) rfl rfl (Nat.le_of_ble_eq_true rfl) ⟨rfl, rfl⟩ ⟨Nat.zero_le _, Nat.zero_le _⟩ (b_eno hi hf (fun r1 e1 => ?_))
  refine mm_if_ne 13 10 dX11_undo_7 (by decide) rfl (fun h2 => ?_) (fun h2 => ?_)
  · have hne : ¬ a_ne A = 0 := fun q => h2 (by rw [e1, q]; rfl)
    refine mm_aload_0 14 dX11_undo_13 rfl ?_
    refine mm_getR 17 dX11_undo_14 f_X11_47 rfl t_0 rfl ?_
    refine mm_cV0v 20 dX11_undo_17 v_X11_187 rfl t_14 (by decide) rfl rfl (Nat.le_of_ble_eq_true rfl) ⟨rfl, rfl⟩ ⟨Nat.zero_le _, Nat.zero_le _⟩ (c_X2_dropLast (n := a_ne A - 1) (by rw [c14]; congr 1; omega) (by omega) ?_)
    refine mm_aload_0 21 dX11_undo_20 rfl ?_
    refine mm_getR 24 dX11_undo_21 f_X11_47 rfl t_0 rfl ?_
    refine mm_cV0i 27 dX11_undo_24 v_X11_165 rfl t_14 (by decide) rfl rfl (Nat.le_of_ble_eq_true rfl) ⟨rfl, rfl⟩ ⟨Nat.zero_le _, Nat.zero_le _⟩ (c_X2_number  (fun r3 e3 => ?_))
    refine mm_iret dX11_undo_27 rfl ⟨rfl, Nat.zero_le _⟩ ?_
    refine h _ _ ?_ ?_
    · unfold z_undo; rw [if_neg hne, e3, mm_upv]
    · unfold und_c; rw [if_neg hne]; exact hf.both _ _ _
  · refine mm_bipush 12 (-3) dX11_undo_10 rfl (by decide) ?_
    refine mm_iret dX11_undo_12 rfl ⟨rfl, Nat.zero_le _⟩ ?_
    have hz : a_ne A = 0 := by rw [e1] at h2; have t := congrArg Int32.toInt h2; rw [mm_ti (by omega), show (0 : Int32).toInt = 0 from rfl] at t; omega
    refine h _ _ ?_ ?_
    · unfold z_undo; rw [if_pos hz]
    · unfold und_c; rw [if_pos hz]; exact hf

set_option maxHeartbeats 4000000 in
theorem c_X12_undo {l : Launch} {G : mm_G} {d : Nat} {M : mm_M} {Q : Int32 → mm_T → mm_M → Prop} {B : mm_M} (hB : a_ok B) (hf : fr B M) (h : ∀ r M1, r = z_undo B → fr (und_r B) M1 → Q r T0 M1) : mm_met l G d k_X12_undo [.ref 51] T0 M (mm_pi Q) := by
  have n24 := hB.ne.2
  have c13 : M 51 13 = nI (a_ne B) := by rw [hf.2.2.1]; exact hB.ne.1
  have c13i : (M 51 13).toInt = a_ne B := by rw [c13]; exact mm_ti (by omega)
  refine mm_enter 0 [.ref 51] o_X12_undo rfl rfl ?_
  refine mm_aload_0 1 dX12_undo_0 rfl ?_
  refine mm_getI 4 dX12_undo_1 f_X12_184 rfl t_51 rfl ?_
  refine mm_if_ne 10 7 dX12_undo_4 (by decide) rfl (fun h1 => ?_) (fun h1 => ?_)
  · have hne : ¬ a_ne B = 0 := fun q => h1 (by rw [c13, q]; rfl)
    refine mm_aload_0 11 dX12_undo_10 rfl ?_
    refine mm_dup 12 dX12_undo_11 rfl rfl ?_
    refine mm_getI 15 dX12_undo_12 f_X12_184 rfl t_51 rfl ?_
    rw [c13]
    refine mm_iconst 16 1 dX12_undo_15 rfl (by decide) ?_
    refine mm_isub 17 dX12_undo_16 rfl ?_
    rw [show nI (a_ne B) - 1 = nI (a_ne B - 1) by apply mm_ii; rw [nI_m1 (by omega), mm_ti (by omega)]; omega]
    refine mm_putI 20 dX12_undo_17 p_X12_184 ⟨rfl, rfl⟩ rfl t_51 rfl ?_
    refine mm_aload_0 21 dX12_undo_20 rfl ?_
    refine mm_getI 24 dX12_undo_21 f_X12_184 rfl t_51 rfl ?_
    refine mm_iret dX12_undo_24 rfl ⟨rfl, Nat.zero_le _⟩ ?_
    refine h _ _ ?_ ?_
    · unfold z_undo; rw [if_neg hne, mm_upv]
    · unfold und_r; rw [if_neg hne]; exact hf.both _ _ _
  · refine mm_bipush 9 (-3) dX12_undo_7 rfl (by decide) ?_
    refine mm_iret dX12_undo_9 rfl ⟨rfl, Nat.zero_le _⟩ ?_
    have hz : a_ne B = 0 := by (try simp only [Int32.lt_iff_toInt_lt, Int32.le_iff_toInt_le, ← Int32.toInt_inj, vp_in_iff, Int32.reduceToInt, mm_t1, mm_t2, mm_t3, mm_t4, mm_t10] at h1 c13i ⊢); omega
    refine h _ _ ?_ ?_
    · unfold z_undo; rw [if_pos hz]
    · unfold und_r; rw [if_pos hz]; exact hf

