/-! The reference's search: all choices -/
def rst (A : mm_M) (j : Nat) (X : mm_M) : Prop := r_x A X ∧ e_w A X (zE A) ∧ X 51 26 = nI (cnt (io A j) 12) ∧ ∀ p, io A j p = true → X 69 (cnt (io A j) p) = nI p
theorem rst.of {A X Y : mm_M} {j : Nat} (h : rst A j X) (k : ∀ c, c ≠ 70 → c ≠ 71 → Y c = X c) : rst A j Y := by
  obtain ⟨h1, h2, h3, h4⟩ := h
  refine ⟨h1.of ⟨fun c q => k c (fun e => by rw [e] at q; exact absurd q (by decide)) (fun e => by rw [e] at q; exact absurd q (by decide)), by rw [k 51 (by decide) (by decide)], by rw [k 51 (by decide) (by decide)], by rw [k 51 (by decide) (by decide)]⟩ (k 58 (by decide) (by decide)) (k 59 (by decide) (by decide)) (by rw [k 51 (by decide) (by decide)]) (by rw [k 51 (by decide) (by decide)]), ?_, by rw [k 51 (by decide) (by decide)]; exact h3, by rw [k 69 (by decide) (by decide)]; exact h4⟩
  unfold e_w at h2 ⊢
  rw [k 51 (by decide) (by decide), k 62 (by decide) (by decide), k 63 (by decide) (by decide), k 66 (by decide) (by decide), k 67 (by decide) (by decide)]
  exact h2
def pv (t : Nat) : Int32 := nI t - 2
theorem pv_i {t : Nat} (h : t < 1000) : (pv t).toInt = (t : Int) - 2 := by
  unfold pv
  rw [mm_sub (by rw [mm_ti (by omega)]; simp only [Int32.reduceToInt]; omega), mm_ti (by omega)]
  rfl
theorem pv_s {t : Nat} (h : t < 999) : pv t + 1 = pv (t + 1) := mm_ii (by
  rw [mm_add (by rw [pv_i (by omega)]; simp only [Int32.reduceToInt]; omega), pv_i (by omega), pv_i (by omega)]
  simp only [Int32.reduceToInt]
  omega)
theorem pv_b {t : Nat} (h : t < 1000) (h2 : 2 ≤ t) : pv t = nI (t - 2) := mm_ii (by rw [pv_i h, mm_ti (by omega)]; omega)
theorem nI_d {k : Nat} (h : k < 1000) : nI (k + 1) + -1 = nI k := mm_ii (by
  rw [mm_add (by rw [mm_ti (by omega)]; simp only [mm_t1]; omega), mm_ti (by omega), mm_ti (by omega), mm_t1]
  omega)
def fT (f : Nat → Option Nat) (p t : Nat) : Nat → Option Nat := if t < 2 then f else fup f p (t - 2)
theorem fT_l (f : Nat → Option Nat) (p : Nat) {t : Nat} (h : t < 2) : fT f p t = f := if_pos h
theorem fT_h (f : Nat → Option Nat) (p : Nat) {t : Nat} (h : ¬ t < 2) : fT f p t = fup f p (t - 2) := if_neg h
theorem fT_n (f : Nat → Option Nat) {p q : Nat} (t : Nat) (h : ¬ q = p) : fT f p t q = f q := by
  unfold fT
  split
  · rfl
  · exact fup_n f h
theorem fT_c {f : Nat → Option Nat} {p t : Nat} (hp : f p = none) (ht : 1 ≤ t) : cdo (fT f p t p) = t := by
  unfold fT
  split
  · rw [hp]; show 1 = t; omega
  · rw [fup_s]; show t - 2 + 2 = t; omega
theorem fT_p {f : Nat → Option Nat} {p t : Nat} (hp : f p = none) (ht : 1 ≤ t) (h : t < 1000) : pv t = pe (fT f p t p) := by
  unfold fT
  split
  · rw [hp, show t = 1 by omega]; decide
  · rw [fup_s]; exact pv_b h (by omega)
def lvl (A : mm_M) (j dd p : Nat) (f : Nat → Option Nat) (X Y : mm_M) (s : Nat) : Prop := (∀ c, c ≠ 70 → c ≠ 71 → Y c = X c) ∧ (∀ i, i < dd → Y 70 i = X 70 i) ∧ rsd (zC A j) (wm Y) ∧ moR (wm X) (wm Y) ∧ plr A j dd p s f (wm Y)
theorem lvl.pick {A X Y : mm_M} {j dd p s : Nat} {f : Nat → Option Nat} (h : lvl A j dd p f X Y s) (i : Nat) (hi : dd ≤ i) (v : Int32) : lvl A j dd p f X (mm_up Y 70 i v) s := by
  obtain ⟨h1, h2, h3, h4, h5⟩ := h
  have e : wm (mm_up Y 70 i v) = wm Y := by funext k; unfold wm; rw [mm_upn _ _ _ (by decide)]
  refine ⟨fun c a b => by rw [mm_upn _ _ _ a]; exact h1 c a b, fun k hk => ?_, by rw [e]; exact h3, by rw [e]; exact h4, by rw [e]; exact h5⟩
  rw [mm_upc]
  simp only [upd, if_neg (show ¬ k = i by omega)]
  exact h2 k hk

def fmn (l : Launch) (G : mm_G) (d : Nat) (A : mm_M) (j n : Nat) : Prop := ∀ (Q : mm_T → mm_M → Prop) (dd : Nat) (X : mm_M) (u : Int32) (f : Nat → Option Nat) (x4 : Value), dd + n = cnt (io A j) 12 → rst A j X → rsd (zC A j) (wm X) → ms (zC A j) f → (∀ p y, f p = some y → io A j p = true ∧ cnt (io A j) p < dd) → (∀ p, io A j p = true → cnt (io A j) p < dd → X 70 (cnt (io A j) p) = pe (f p)) → tkr u f → X 70 dd = pv 0 → (∀ (Y : mm_M) (v : Int32), (∀ c, c ≠ 70 → c ≠ 71 → Y c = X c) → (∀ i, i < dd → Y 70 i = X 70 i) → rsd (zC A j) (wm Y) → moR (wm X) (wm Y) → alr A j dd f (wm Y) → tkr v f → mm_wp l G (d + 5) k_X12_findMost (mm_pv Q) 105 [.ref 51, .int (nI j), .int (nI dd + -1), .int v, x4] [] T0 Y 0 0) → mm_wp l G (d + 5) k_X12_findMost (mm_pv Q) 105 [.ref 51, .int (nI j), .int (nI dd), .int u, x4] [] T0 X 0 0

set_option maxHeartbeats 4000000 in
theorem w_X12_fm0 {l : Launch} {G : mm_G} {d : Nat} {A : mm_M} (hi : iv A) {j : Nat} (hj : j < a_nl A) : fmn l G d A j 0 := by
  intro Q dd X u f x4 hdn hr hrs hf hfi hpk htk hp0 hk
  rw [Nat.add_zero] at hdn
  have n6 := hi.1.nl
  have n12 := hi.1.np
  have c12 := cnt_le (f := io A j) 12
  have okC := zC_ok hi hj
  have hdi : (nI dd).toInt = dd := mm_ti (by omega)
  refine mm_iload_2 106 dX12_findMost_105 rfl ?_
  refine mm_if_lt 276 109 dX12_findMost_106 (by decide) rfl (fun h1 => absurd h1 (by rw [mm_lt, hdi]; simp only [Int32.reduceToInt]; omega)) (fun h1 => ?_)
  refine mm_iload_2 110 dX12_findMost_109 rfl ?_
  refine mm_aload_0 111 dX12_findMost_110 rfl ?_
  refine mm_getI 114 dX12_findMost_111 f_X12_257 rfl t_51 rfl ?_
  refine mm_ic_ne 128 117 dX12_findMost_114 (by decide) rfl (fun h2 => absurd (by rw [hr.2.2.1, hdn]) h2) (fun h2 => ?_)
  refine mm_aload_0 118 dX12_findMost_117 rfl ?_
  refine mm_iload_1 119 dX12_findMost_118 rfl ?_
  refine mm_cV1v 122 dX12_findMost_119 v_X12_260 rfl t_51 (by decide) rfl rfl (Nat.le_of_ble_eq_true rfl) ⟨rfl, rfl⟩ ⟨Nat.zero_le _, Nat.zero_le _⟩ (c_X12_keepsMost hi hr.1 hr.2.1 hj hr.2.2.1 hr.2.2.2 hf (fun p q => hpk p q (by have := cnt_ltn (f := io A j) (n := 12) q (by have := (io_i q).1; omega); omega)) rfl (fun Y q1 q2 => ?_))
  refine mm_iinc_2 125 (-1) dX12_findMost_122 rfl (by decide) rfl ?_
  refine mm_goto 105 dX12_findMost_125 (by decide) ?_
  have s12 := sz_12 f
  refine hk Y u (fun c _ b => q1 c b) (fun i _ => by rw [q1 70 (by decide)]) (fun i hi2 => ?_) (fun i hi2 => ?_) ?_ htk
  · have := hrs i hi2
    rw [q2 i hi2]
    have v0 := (vl_bd okC hf).1
    split
    · rename_i z
      exact ⟨v0, Or.inr ⟨f, hf, z.1.symm, rfl⟩⟩
    · exact this
  · rw [q2 i hi2]
    split
    · rename_i z; exact z.2
    · exact Int.le_refl _
  · rw [show dd = cnt (io A j) 12 by omega]
    refine alr_full hi hf ?_
    rw [q2 _ s12]
    split
    · exact Int.le_refl _
    · rename_i z; omega

set_option maxHeartbeats 4000000 in
theorem w_X12_fmx {l : Launch} {G : mm_G} {d : Nat} {A : mm_M} (hi : iv A) {j : Nat} (hj : j < a_nl A) {n : Nat} (IH : fmn l G d A j n) {Q : mm_T → mm_M → Prop} {dd : Nat} (hdn : dd + (n + 1) = cnt (io A j) 12) {X : mm_M} (hr : rst A j X) {f : Nat → Option Nat} (hf : ms (zC A j) f) (hfi : (∀ p y, f p = some y → io A j p = true ∧ cnt (io A j) p < dd)) (hpk : (∀ p, io A j p = true → cnt (io A j) p < dd → X 70 (cnt (io A j) p) = pe (f p))) {x4 : Value} (hk : (∀ (Y : mm_M) (v : Int32), (∀ c, c ≠ 70 → c ≠ 71 → Y c = X c) → (∀ i, i < dd → Y 70 i = X 70 i) → rsd (zC A j) (wm Y) → moR (wm X) (wm Y) → alr A j dd f (wm Y) → tkr v f → mm_wp l G (d + 5) k_X12_findMost (mm_pv Q) 105 [.ref 51, .int (nI j), .int (nI dd + -1), .int v, x4] [] T0 Y 0 0)) {p : Nat} (pio : io A j p = true) (pd : cnt (io A j) p = dd) {s : Nat} (hs : a_np A + 2 ≤ s) (hs2 : s < 1000) {Y : mm_M} {u : Int32} (hl : lvl A j dd p f X Y (s - 1)) (hy : Y 70 dd = pv s) (htk : tkr u f) : mm_wp l G (d + 5) k_X12_findMost (mm_pv Q) 219 [.ref 51, .int (nI j), .int (nI dd), .int u, x4] [] T0 Y 0 0 := by
  have n6 := hi.1.nl
  have n12 := hi.1.np
  have c12 := cnt_le (f := io A j) 12
  have okC := zC_ok hi hj
  have hdi : (nI dd).toInt = dd := mm_ti (by omega)
  have fp : f p = none := by
    cases e : f p with
    | none => rfl
    | some y => have := (hfi p y e).2; omega
  have pn := (io_i pio).1
  refine mm_aload_0 220 dX12_findMost_219 rfl ?_
  refine mm_getR 223 dX12_findMost_220 f_X12_64 rfl t_51 rfl ?_
  refine mm_iload_2 224 dX12_findMost_223 rfl ?_
  refine mm_ialoadn 225 (dd) dX12_findMost_224 rfl t_70 (by decide) (rfl) (by omega) ?_
  refine mm_aload_0 226 dX12_findMost_225 rfl ?_
  refine mm_getI 229 dX12_findMost_226 f_X12_144 rfl t_51 rfl ?_
  rw [hy, hl.1 51 (by decide) (by decide), hr.1.2.2.2.1]
  refine mm_ic_lt 238 232 dX12_findMost_229 (by decide) rfl (fun h1 => absurd h1 (by rw [mm_lt, pv_i hs2, mm_ti (by omega)]; omega)) (fun h1 => ?_)
  refine mm_iinc_2 235 (-1) dX12_findMost_232 rfl (by decide) rfl ?_
  refine mm_goto 105 dX12_findMost_235 (by decide) ?_
  exact hk Y u hl.1 hl.2.1 hl.2.2.1 hl.2.2.2.1 (alr_end hi hl.2.2.2.2 (by omega)) htk

set_option maxHeartbeats 4000000 in
theorem w_X12_fmc {l : Launch} {G : mm_G} {d : Nat} {A : mm_M} (hi : iv A) {j : Nat} (hj : j < a_nl A) {n : Nat} (IH : fmn l G d A j n) {Q : mm_T → mm_M → Prop} {dd : Nat} (hdn : dd + (n + 1) = cnt (io A j) 12) {X : mm_M} (hr : rst A j X) {f : Nat → Option Nat} (hf : ms (zC A j) f) (hfi : (∀ p y, f p = some y → io A j p = true ∧ cnt (io A j) p < dd)) (hpk : (∀ p, io A j p = true → cnt (io A j) p < dd → X 70 (cnt (io A j) p) = pe (f p))) {x4 : Value} (hk : (∀ (Y : mm_M) (v : Int32), (∀ c, c ≠ 70 → c ≠ 71 → Y c = X c) → (∀ i, i < dd → Y 70 i = X 70 i) → rsd (zC A j) (wm Y) → moR (wm X) (wm Y) → alr A j dd f (wm Y) → tkr v f → mm_wp l G (d + 5) k_X12_findMost (mm_pv Q) 105 [.ref 51, .int (nI j), .int (nI dd + -1), .int v, x4] [] T0 Y 0 0)) {p : Nat} (pio : io A j p = true) (pd : cnt (io A j) p = dd) {s : Nat} (hs : s < a_np A + 2) (hs1 : 1 ≤ s) (hus : 2 ≤ s → (zC A j).us p (s - 2) = true ∧ ∀ i, ¬ f i = some (s - 2)) (HK : ∀ (t : Nat) (Y : mm_M) (u : Int32), s ≤ t → t ≤ a_np A + 1 → lvl A j dd p f X Y t → Y 70 dd = pv t → tkr u (fT f p t) → (2 ≤ t → t - 2 < a_np A ∧ ∀ i, ¬ f i = some (t - 2)) → mm_wp l G (d + 5) k_X12_findMost (mm_pv Q) 105 [.ref 51, .int (nI j), .int (nI dd), .int u, x4] [] T0 Y 0 0) {Y : mm_M} {u : Int32} (hl : lvl A j dd p f X Y (s - 1)) (hy : Y 70 dd = pv s) (htk : tkr u f) : mm_wp l G (d + 5) k_X12_findMost (mm_pv Q) 219 [.ref 51, .int (nI j), .int (nI dd), .int u, x4] [] T0 Y 0 0 := by
  have n6 := hi.1.nl
  have n12 := hi.1.np
  have c12 := cnt_le (f := io A j) 12
  have okC := zC_ok hi hj
  have hdi : (nI dd).toInt = dd := mm_ti (by omega)
  have fp : f p = none := by
    cases e : f p with
    | none => rfl
    | some y => have := (hfi p y e).2; omega
  have pn := (io_i pio).1
  refine mm_aload_0 220 dX12_findMost_219 rfl ?_
  refine mm_getR 223 dX12_findMost_220 f_X12_64 rfl t_51 rfl ?_
  refine mm_iload_2 224 dX12_findMost_223 rfl ?_
  refine mm_ialoadn 225 (dd) dX12_findMost_224 rfl t_70 (by decide) (rfl) (by omega) ?_
  refine mm_aload_0 226 dX12_findMost_225 rfl ?_
  refine mm_getI 229 dX12_findMost_226 f_X12_144 rfl t_51 rfl ?_
  rw [hl.1 51 (by decide) (by decide), hr.1.2.2.2.1]
  refine mm_ic_lt 238 232 dX12_findMost_229 (by decide) rfl (fun h1 => ?_) (fun h1 => absurd (by rw [hy, mm_lt, pv_i (by omega), mm_ti (by omega)]; omega) h1)
  refine mm_iload_3 239 dX12_findMost_238 rfl ?_
  refine mm_aload_0 240 dX12_findMost_239 rfl ?_
  refine mm_getR 243 dX12_findMost_240 f_X12_64 rfl t_51 rfl ?_
  refine mm_iload_2 244 dX12_findMost_243 rfl ?_
  refine mm_ialoadn 245 (dd) dX12_findMost_244 rfl t_70 (by decide) (rfl) (by omega) ?_
  refine mm_if_lt 259 248 dX12_findMost_245 (by decide) rfl (fun h2 => ?_) (fun h2 => ?_)
  · refine mm_iconst 260 0 dX12_findMost_259 rfl (by decide) ?_
    refine mm_ior 261 dX12_findMost_260 rfl ?_
    refine mm_istore_3 262 dX12_findMost_261 rfl rfl ?_
    refine mm_iinc_2 265 1 dX12_findMost_262 rfl (by decide) rfl ?_
    refine mm_aload_0 266 dX12_findMost_265 rfl ?_
    refine mm_getR 269 dX12_findMost_266 f_X12_64 rfl t_51 rfl ?_
    refine mm_iload_2 270 dX12_findMost_269 rfl ?_
    refine mm_bipush 272 (-2) dX12_findMost_270 rfl (by decide) ?_
    refine mm_iastoren 273 (dd + 1) dX12_findMost_272 rfl t_70 (by decide) (nI_1 dd) (by omega) ?_
    refine mm_goto 105 dX12_findMost_273 (by decide) ?_
    have s1 : s = 1 := by rw [hy, mm_lt, pv_i (by omega)] at h2; simp only [Int32.reduceToInt] at h2; omega
    have ut : tkr (u ||| 0) (fT f p s) := by rw [fT_l f p (by omega)]; exact tkr_o0 htk
    have mf : ms (zC A j) (fT f p s) := by rw [fT_l f p (by omega)]; exact hf
    rw [nI_1]
    have hl2 := hl.pick (dd + 1) (by omega) (-2)
    refine IH Q (dd + 1) _ _ (fT f p s) x4 (by omega) (hr.of hl2.1) hl2.2.2.1 mf (fun q y e => ?_) (fun q q1 q2 => ?_) ut (by rw [mm_upv]; decide) (fun Z v z1 z2 z3 z4 z5 z6 => ?_)
    · by_cases z : q = p
      · rw [z]; exact ⟨pio, by omega⟩
      · rw [fT_n f s z] at e
        have := hfi q y e
        exact ⟨this.1, by omega⟩
    · rw [mm_upc]
      simp only [upd, if_neg (show ¬ cnt (io A j) q = dd + 1 by omega)]
      by_cases z : q = p
      · rw [z, pd, hy]; exact fT_p fp hs1 (by omega)
      · have z2 : ¬ cnt (io A j) q = dd := fun w => z (cnt_inj q1 pio (w.trans pd.symm))
        rw [fT_n f s z, hl.2.1 _ (by omega)]
        exact hpk q q1 (by omega)
    · rw [nI_d (by omega)]
      refine HK s Z v (Nat.le_refl _) (by omega) ⟨fun c a b => (z1 c a b).trans (hl2.1 c a b), fun i q => (z2 i (by omega)).trans (hl2.2.1 i q), z3, fun k q => Int.le_trans (hl2.2.2.2.1 k q) (z4 k q), ?_⟩ ?_ z6 (fun q => ⟨by omega, (hus q).2⟩)
      · have := plr_go hl2.2.2.2.2 z4 pio pd (fun q w => fT_n f s w) (by rw [fT_c fp hs1]; omega) z5
        rw [show s - 1 + 1 = s by omega] at this
        exact this
      · rw [z2 dd (by omega), mm_upc]
        simp only [upd, if_neg (show ¬ dd = dd + 1 by omega)]
        exact hy
  · refine mm_iconst 249 1 dX12_findMost_248 rfl (by decide) ?_
    refine mm_aload_0 250 dX12_findMost_249 rfl ?_
    refine mm_getR 253 dX12_findMost_250 f_X12_64 rfl t_51 rfl ?_
    refine mm_iload_2 254 dX12_findMost_253 rfl ?_
    refine mm_ialoadn 255 (dd) dX12_findMost_254 rfl t_70 (by decide) (rfl) (by omega) ?_
    refine mm_ishl 256 dX12_findMost_255 rfl ?_
    refine mm_goto 260 dX12_findMost_256 (by decide) ?_
    refine mm_ior 261 dX12_findMost_260 rfl ?_
    refine mm_istore_3 262 dX12_findMost_261 rfl rfl ?_
    refine mm_iinc_2 265 1 dX12_findMost_262 rfl (by decide) rfl ?_
    refine mm_aload_0 266 dX12_findMost_265 rfl ?_
    refine mm_getR 269 dX12_findMost_266 f_X12_64 rfl t_51 rfl ?_
    refine mm_iload_2 270 dX12_findMost_269 rfl ?_
    refine mm_bipush 272 (-2) dX12_findMost_270 rfl (by decide) ?_
    refine mm_iastoren 273 (dd + 1) dX12_findMost_272 rfl t_70 (by decide) (nI_1 dd) (by omega) ?_
    refine mm_goto 105 dX12_findMost_273 (by decide) ?_
    have s1 : 2 ≤ s := by rw [hy, mm_lt, pv_i (by omega)] at h2; simp only [Int32.reduceToInt] at h2; omega
    have eb : Y 70 dd = nI (s - 2) := by rw [hy]; exact pv_b (by omega) s1
    have hu := hus s1
    have ut : tkr (u ||| 1 <<< (Y 70 dd &&& 31)) (fT f p s) := by rw [fT_h f p (by omega), eb]; exact tkr_set htk (by omega) fp
    have mf : ms (zC A j) (fT f p s) := by rw [fT_h f p (by omega)]; exact ms_up hf hu.1 hu.2
    rw [nI_1]
    have hl2 := hl.pick (dd + 1) (by omega) (-2)
    refine IH Q (dd + 1) _ _ (fT f p s) x4 (by omega) (hr.of hl2.1) hl2.2.2.1 mf (fun q y e => ?_) (fun q q1 q2 => ?_) ut (by rw [mm_upv]; decide) (fun Z v z1 z2 z3 z4 z5 z6 => ?_)
    · by_cases z : q = p
      · rw [z]; exact ⟨pio, by omega⟩
      · rw [fT_n f s z] at e
        have := hfi q y e
        exact ⟨this.1, by omega⟩
    · rw [mm_upc]
      simp only [upd, if_neg (show ¬ cnt (io A j) q = dd + 1 by omega)]
      by_cases z : q = p
      · rw [z, pd, hy]; exact fT_p fp hs1 (by omega)
      · have z2 : ¬ cnt (io A j) q = dd := fun w => z (cnt_inj q1 pio (w.trans pd.symm))
        rw [fT_n f s z, hl.2.1 _ (by omega)]
        exact hpk q q1 (by omega)
    · rw [nI_d (by omega)]
      refine HK s Z v (Nat.le_refl _) (by omega) ⟨fun c a b => (z1 c a b).trans (hl2.1 c a b), fun i q => (z2 i (by omega)).trans (hl2.2.1 i q), z3, fun k q => Int.le_trans (hl2.2.2.2.1 k q) (z4 k q), ?_⟩ ?_ z6 (fun q => ⟨by omega, (hus q).2⟩)
      · have := plr_go hl2.2.2.2.2 z4 pio pd (fun q w => fT_n f s w) (by rw [fT_c fp hs1]; omega) z5
        rw [show s - 1 + 1 = s by omega] at this
        exact this
      · rw [z2 dd (by omega), mm_upc]
        simp only [upd, if_neg (show ¬ dd = dd + 1 by omega)]
        exact hy

set_option maxHeartbeats 4000000 in
theorem w_X12_fmi {l : Launch} {G : mm_G} {d : Nat} {A : mm_M} (hi : iv A) {j : Nat} (hj : j < a_nl A) {n : Nat} (IH : fmn l G d A j n) {Q : mm_T → mm_M → Prop} {dd : Nat} (hdn : dd + (n + 1) = cnt (io A j) 12) {X : mm_M} (hr : rst A j X) {f : Nat → Option Nat} (hf : ms (zC A j) f) (hfi : (∀ p y, f p = some y → io A j p = true ∧ cnt (io A j) p < dd)) (hpk : (∀ p, io A j p = true → cnt (io A j) p < dd → X 70 (cnt (io A j) p) = pe (f p))) {x4 : Value} (hk : (∀ (Y : mm_M) (v : Int32), (∀ c, c ≠ 70 → c ≠ 71 → Y c = X c) → (∀ i, i < dd → Y 70 i = X 70 i) → rsd (zC A j) (wm Y) → moR (wm X) (wm Y) → alr A j dd f (wm Y) → tkr v f → mm_wp l G (d + 5) k_X12_findMost (mm_pv Q) 105 [.ref 51, .int (nI j), .int (nI dd + -1), .int v, x4] [] T0 Y 0 0)) {p : Nat} (pio : io A j p = true) (pd : cnt (io A j) p = dd) : ∀ (z s : Nat) (Y : mm_M) (u : Int32), a_np A + 3 - s ≤ z → 1 ≤ s → s ≤ a_np A + 2 → (∀ (t : Nat) (Y : mm_M) (u : Int32), s ≤ t → t ≤ a_np A + 1 → lvl A j dd p f X Y t → Y 70 dd = pv t → tkr u (fT f p t) → (2 ≤ t → t - 2 < a_np A ∧ ∀ i, ¬ f i = some (t - 2)) → mm_wp l G (d + 5) k_X12_findMost (mm_pv Q) 105 [.ref 51, .int (nI j), .int (nI dd), .int u, x4] [] T0 Y 0 0) → lvl A j dd p f X Y (s - 1) → Y 70 dd = pv s → tkr u f → mm_wp l G (d + 5) k_X12_findMost (mm_pv Q) 164 [.ref 51, .int (nI j), .int (nI dd), .int u, x4] [] T0 Y 0 0 := by
  have n6 := hi.1.nl
  have n12 := hi.1.np
  have c12 := cnt_le (f := io A j) 12
  have okC := zC_ok hi hj
  have hdi : (nI dd).toInt = dd := mm_ti (by omega)
  have fp : f p = none := by
    cases e : f p with
    | none => rfl
    | some y => have := (hfi p y e).2; omega
  have pn := (io_i pio).1
  intro z
  induction z using Nat.strongRecOn with | _ z ih => ?_
  intro s Y u hze hs1 hsn HK hl hy htk
  refine mm_aload_0 165 dX12_findMost_164 rfl ?_
  refine mm_getR 168 dX12_findMost_165 f_X12_64 rfl t_51 rfl ?_
  refine mm_iload_2 169 dX12_findMost_168 rfl ?_
  refine mm_ialoadn 170 (dd) dX12_findMost_169 rfl t_70 (by decide) (rfl) (by omega) ?_
  refine mm_if_lt 219 173 dX12_findMost_170 (by decide) rfl (fun h1 => ?_) (fun h1 => ?_)
  · have s1 : s = 1 := by rw [hy, mm_lt, pv_i (by omega)] at h1; simp only [Int32.reduceToInt] at h1; omega
    exact w_X12_fmc hi hj IH hdn hr hf hfi hpk hk pio pd (s := s) (by omega) (by omega) (fun q => by omega) (fun t Y2 u2 a => HK t Y2 u2 (by omega)) hl hy htk
  · refine mm_aload_0 174 dX12_findMost_173 rfl ?_
    refine mm_getR 177 dX12_findMost_174 f_X12_64 rfl t_51 rfl ?_
    refine mm_iload_2 178 dX12_findMost_177 rfl ?_
    refine mm_ialoadn 179 (dd) dX12_findMost_178 rfl t_70 (by decide) (rfl) (by omega) ?_
    refine mm_aload_0 180 dX12_findMost_179 rfl ?_
    refine mm_getI 183 dX12_findMost_180 f_X12_144 rfl t_51 rfl ?_
    rw [hy, hl.1 51 (by decide) (by decide), hr.1.2.2.2.1]
    refine mm_ic_ge 219 186 dX12_findMost_183 (by decide) rfl (fun h2 => ?_) (fun h2 => ?_)
    · have sn : a_np A + 2 ≤ s := by rw [mm_le, pv_i (by omega), mm_ti (by omega)] at h2; omega
      exact w_X12_fmx hi hj IH hdn hr hf hfi hpk hk pio pd sn (by omega) hl hy htk
    · have s2 : 2 ≤ s := by rw [hy, mm_lt, pv_i (by omega)] at h1; simp only [Int32.reduceToInt] at h1; omega
      have sn : s < a_np A + 2 := by rw [mm_le, pv_i (by omega), mm_ti (by omega)] at h2; omega
      have eb : Y 70 dd = nI (s - 2) := by rw [hy]; exact pv_b (by omega) s2
      have eo : Y 69 dd = nI p := by rw [hl.1 69 (by decide) (by decide), ← pd]; exact hr.2.2.2 p pio
      have rY := hr.of hl.1
      have usf : (zC A j).us p (s - 2) = true ↔ z_may A p (s - 2) = true ∧ 0 < zg A p (s - 2) := by
        show (decide (z_w A p 1 = nI j) && (z_may A p (s - 2) && decide (0 < zg A p (s - 2)))) = true ↔ _
        simp only [Bool.and_eq_true, decide_eq_true_eq]
        exact ⟨fun q => q.2, fun q => ⟨(io_i pio).2.1, q⟩⟩
      refine mm_aload_0 187 dX12_findMost_186 rfl ?_
      refine mm_aload_0 188 dX12_findMost_187 rfl ?_
      refine mm_getR 191 dX12_findMost_188 f_X12_61 rfl t_51 rfl ?_
      refine mm_iload_2 192 dX12_findMost_191 rfl ?_
      refine mm_ialoadn 193 (dd) dX12_findMost_192 rfl t_69 (by decide) (rfl) (by omega) ?_
      refine mm_aload_0 194 dX12_findMost_193 rfl ?_
      refine mm_getR 197 dX12_findMost_194 f_X12_64 rfl t_51 rfl ?_
      refine mm_iload_2 198 dX12_findMost_197 rfl ?_
      refine mm_ialoadn 199 (dd) dX12_findMost_198 rfl t_70 (by decide) (rfl) (by omega) ?_
      refine mm_iload_3 200 dX12_findMost_199 rfl ?_
      refine mm_cV3i 203 dX12_findMost_200 v_X12_263 rfl t_51 (by decide) rfl rfl (Nat.le_of_ble_eq_true rfl) ⟨rfl, rfl⟩ ⟨Nat.zero_le _, Nat.zero_le _⟩ (c_X12_isUseful hi rY.1 rY.2.1 eo pn eb (by omega) (fun h3 => ?_) (fun h3 => ?_))
      · refine mm_if_ne 219 206 dX12_findMost_203 (by decide) rfl (fun _ => ?_) (fun h => absurd h (by decide))
        exact w_X12_fmc hi hj IH hdn hr hf hfi hpk hk pio pd (s := s) (by omega) (by omega) (fun _ => ⟨usf.mpr h3.2, (tkr_b htk (by omega)).mp (by rw [← eb]; exact h3.1)⟩) (fun t Y2 u2 a => HK t Y2 u2 (by omega)) hl hy htk
      · refine mm_if_ne 219 206 dX12_findMost_203 (by decide) rfl (fun h => absurd h (by decide)) (fun _ => ?_)
        refine mm_aload_0 207 dX12_findMost_206 rfl ?_
        refine mm_getR 210 dX12_findMost_207 f_X12_64 rfl t_51 rfl ?_
        refine mm_iload_2 211 dX12_findMost_210 rfl ?_
        refine mm_dup2 212 dX12_findMost_211 rfl rfl rfl ?_
        refine mm_ialoadn 213 (dd) dX12_findMost_212 rfl t_70 (by decide) (rfl) (by omega) ?_
        refine mm_iconst 214 1 dX12_findMost_213 rfl (by decide) ?_
        refine mm_iadd 215 dX12_findMost_214 rfl ?_
        refine mm_iastoren 216 (dd) dX12_findMost_215 rfl t_70 (by decide) (rfl) (by omega) ?_
        refine mm_goto 164 dX12_findMost_216 (by decide) ?_
        rw [hy, pv_s (by omega)]
        refine ih (a_np A + 3 - (s + 1)) (by omega) (s + 1) _ u (Nat.le_refl _) (by omega) (by omega) (fun t Y2 u2 a => HK t Y2 u2 (by omega)) ?_ (by rw [mm_upv]) htk
        have no : ¬ ((zC A j).us p (s - 2) = true ∧ ∀ i, ¬ f i = some (s - 2)) := fun q => by
          apply h3
          rw [eb]
          exact ⟨(tkr_b htk (by omega)).mpr q.2, usf.mp q.1⟩
        have pl := plr_no (b := s - 2) (by rw [show s - 2 + 1 = s - 1 by omega]; exact hl.2.2.2.2) no hfi pd
        rw [show s - 2 + 2 = s + 1 - 1 by omega] at pl
        exact lvl.pick ⟨hl.1, hl.2.1, hl.2.2.1, hl.2.2.2.1, pl⟩ dd (Nat.le_refl _) _

set_option maxHeartbeats 4000000 in
theorem w_X12_fmh {l : Launch} {G : mm_G} {d : Nat} {A : mm_M} (hi : iv A) {j : Nat} (hj : j < a_nl A) {n : Nat} (IH : fmn l G d A j n) {Q : mm_T → mm_M → Prop} {dd : Nat} (hdn : dd + (n + 1) = cnt (io A j) 12) {X : mm_M} (hr : rst A j X) {f : Nat → Option Nat} (hf : ms (zC A j) f) (hfi : (∀ p y, f p = some y → io A j p = true ∧ cnt (io A j) p < dd)) (hpk : (∀ p, io A j p = true → cnt (io A j) p < dd → X 70 (cnt (io A j) p) = pe (f p))) {x4 : Value} (hk : (∀ (Y : mm_M) (v : Int32), (∀ c, c ≠ 70 → c ≠ 71 → Y c = X c) → (∀ i, i < dd → Y 70 i = X 70 i) → rsd (zC A j) (wm Y) → moR (wm X) (wm Y) → alr A j dd f (wm Y) → tkr v f → mm_wp l G (d + 5) k_X12_findMost (mm_pv Q) 105 [.ref 51, .int (nI j), .int (nI dd + -1), .int v, x4] [] T0 Y 0 0)) {p : Nat} (pio : io A j p = true) (pd : cnt (io A j) p = dd) : ∀ (z t : Nat) (Y : mm_M) (u : Int32), a_np A + 2 - t ≤ z → t ≤ a_np A + 1 → lvl A j dd p f X Y t → Y 70 dd = pv t → tkr u (fT f p t) → (2 ≤ t → t - 2 < a_np A ∧ ∀ i, ¬ f i = some (t - 2)) → mm_wp l G (d + 5) k_X12_findMost (mm_pv Q) 105 [.ref 51, .int (nI j), .int (nI dd), .int u, x4] [] T0 Y 0 0 := by
  have n6 := hi.1.nl
  have n12 := hi.1.np
  have c12 := cnt_le (f := io A j) 12
  have okC := zC_ok hi hj
  have hdi : (nI dd).toInt = dd := mm_ti (by omega)
  have fp : f p = none := by
    cases e : f p with
    | none => rfl
    | some y => have := (hfi p y e).2; omega
  have pn := (io_i pio).1
  intro z
  induction z using Nat.strongRecOn with | _ z ih => ?_
  intro t Y u hze htn hl hy htk hun
  refine mm_iload_2 106 dX12_findMost_105 rfl ?_
  refine mm_if_lt 276 109 dX12_findMost_106 (by decide) rfl (fun h1 => absurd h1 (by rw [mm_lt, hdi]; simp only [Int32.reduceToInt]; omega)) (fun h1 => ?_)
  refine mm_iload_2 110 dX12_findMost_109 rfl ?_
  refine mm_aload_0 111 dX12_findMost_110 rfl ?_
  refine mm_getI 114 dX12_findMost_111 f_X12_257 rfl t_51 rfl ?_
  refine mm_ic_ne 128 117 dX12_findMost_114 (by decide) rfl (fun h2 => ?_) (fun h2 => absurd h2 (by rw [hl.1 51 (by decide) (by decide), hr.2.2.1]; intro q; have q := congrArg Int32.toInt q; rw [hdi, mm_ti (by omega)] at q; omega))
  refine mm_iload_3 129 dX12_findMost_128 rfl ?_
  refine mm_aload_0 130 dX12_findMost_129 rfl ?_
  refine mm_getR 133 dX12_findMost_130 f_X12_64 rfl t_51 rfl ?_
  refine mm_iload_2 134 dX12_findMost_133 rfl ?_
  refine mm_ialoadn 135 (dd) dX12_findMost_134 rfl t_70 (by decide) (rfl) (by omega) ?_
  refine mm_if_lt 151 138 dX12_findMost_135 (by decide) rfl (fun h3 => ?_) (fun h3 => ?_)
  · refine mm_iconst 152 (-1) dX12_findMost_151 rfl (by decide) ?_
    refine mm_iand 153 dX12_findMost_152 rfl ?_
    refine mm_istore_3 154 dX12_findMost_153 rfl rfl ?_
    refine mm_aload_0 155 dX12_findMost_154 rfl ?_
    refine mm_getR 158 dX12_findMost_155 f_X12_64 rfl t_51 rfl ?_
    refine mm_iload_2 159 dX12_findMost_158 rfl ?_
    refine mm_dup2 160 dX12_findMost_159 rfl rfl rfl ?_
    refine mm_ialoadn 161 (dd) dX12_findMost_160 rfl t_70 (by decide) (rfl) (by omega) ?_
    refine mm_iconst 162 1 dX12_findMost_161 rfl (by decide) ?_
    refine mm_iadd 163 dX12_findMost_162 rfl ?_
    refine mm_iastoren 164 (dd) dX12_findMost_163 rfl t_70 (by decide) (rfl) (by omega) ?_
    have t2 : t < 2 := by rw [hy, mm_lt, pv_i (by omega)] at h3; simp only [Int32.reduceToInt] at h3; omega
    have ut : tkr (u &&& -1) f := by rw [fT_l f p t2] at htk; exact tkr_m1 htk
    rw [hy]
    rw [pv_s (by omega)]
    refine w_X12_fmi hi hj IH hdn hr hf hfi hpk hk pio pd (a_np A + 3) (t + 1) _ _ (by omega) (by omega) (by omega) (fun t2 Y2 u2 q1 q2 q3 q4 q5 q6 => ih (a_np A + 2 - t2) (by omega) t2 Y2 u2 (Nat.le_refl _) q2 q3 q4 q5 q6) (hl.pick dd (Nat.le_refl _) _) (by rw [mm_upv]) ut
  · refine mm_iconst 139 1 dX12_findMost_138 rfl (by decide) ?_
    refine mm_aload_0 140 dX12_findMost_139 rfl ?_
    refine mm_getR 143 dX12_findMost_140 f_X12_64 rfl t_51 rfl ?_
    refine mm_iload_2 144 dX12_findMost_143 rfl ?_
    refine mm_ialoadn 145 (dd) dX12_findMost_144 rfl t_70 (by decide) (rfl) (by omega) ?_
    refine mm_ishl 146 dX12_findMost_145 rfl ?_
    refine mm_iconst 147 (-1) dX12_findMost_146 rfl (by decide) ?_
    refine mm_ixor 148 dX12_findMost_147 rfl ?_
    refine mm_goto 152 dX12_findMost_148 (by decide) ?_
    refine mm_iand 153 dX12_findMost_152 rfl ?_
    refine mm_istore_3 154 dX12_findMost_153 rfl rfl ?_
    refine mm_aload_0 155 dX12_findMost_154 rfl ?_
    refine mm_getR 158 dX12_findMost_155 f_X12_64 rfl t_51 rfl ?_
    refine mm_iload_2 159 dX12_findMost_158 rfl ?_
    refine mm_dup2 160 dX12_findMost_159 rfl rfl rfl ?_
    refine mm_ialoadn 161 (dd) dX12_findMost_160 rfl t_70 (by decide) (rfl) (by omega) ?_
    refine mm_iconst 162 1 dX12_findMost_161 rfl (by decide) ?_
    refine mm_iadd 163 dX12_findMost_162 rfl ?_
    refine mm_iastoren 164 (dd) dX12_findMost_163 rfl t_70 (by decide) (rfl) (by omega) ?_
    have t2 : 2 ≤ t := by rw [hy, mm_lt, pv_i (by omega)] at h3; simp only [Int32.reduceToInt] at h3; omega
    have hu := hun t2
    have ut : tkr (u &&& (1 <<< (Y 70 dd &&& 31) ^^^ -1)) f := by rw [fT_h f p (by omega)] at htk; rw [hy, pv_b (by omega) t2]; exact tkr_clr htk (by omega) fp hu.2
    rw [hy] at ut ⊢
    rw [pv_s (by omega)]
    refine w_X12_fmi hi hj IH hdn hr hf hfi hpk hk pio pd (a_np A + 3) (t + 1) _ _ (by omega) (by omega) (by omega) (fun t2 Y2 u2 q1 q2 q3 q4 q5 q6 => ih (a_np A + 2 - t2) (by omega) t2 Y2 u2 (Nat.le_refl _) q2 q3 q4 q5 q6) (hl.pick dd (Nat.le_refl _) _) (by rw [mm_upv]) ut

theorem w_X12_fmS {l : Launch} {G : mm_G} {d : Nat} {A : mm_M} (hi : iv A) {j : Nat} (hj : j < a_nl A) {n : Nat} (IH : fmn l G d A j n) : fmn l G d A j (n + 1) := by
  intro Q dd X u f x4 hdn hr hrs hf hfi hpk htk hp0 hk
  obtain ⟨p, p12, pio, pd⟩ := cnt_ex (f := io A j) (k := dd) 12 (by omega)
  exact w_X12_fmh hi hj IH hdn hr hf hfi hpk hk pio pd (a_np A + 2) 0 X u (by omega) (by omega) ⟨fun _ _ _ => rfl, fun _ _ => rfl, hrs, fun _ _ => Int.le_refl _, plr_0⟩ hp0 (by rw [fT_l f p (by omega)]; exact htk) (fun q => by omega)
theorem w_X12_fm {l : Launch} {G : mm_G} {d : Nat} {A : mm_M} (hi : iv A) {j : Nat} (hj : j < a_nl A) : ∀ n, fmn l G d A j n
  | 0 => w_X12_fm0 hi hj
  | n + 1 => w_X12_fmS hi hj (w_X12_fm hi hj n)

