theorem mm_met.mono {l : Launch} {G : mm_G} {d : Nat} {Y : mm_R} {av : List Value} {T : mm_T} {M : mm_M} {P P' : mm_P} (h : mm_met l G d Y av T M P) (hp : ∀ v T1 M1, P v T1 M1 → P' v T1 M1) : mm_met l G d Y av T M P' := by
  intro p e ha hc hk s m args below hf happ hP hK
  obtain ⟨n, o, h1, h2, h3, ⟨⟨v, T1, M1, q1, q2, q3⟩, q4⟩, h5⟩ := h p e ha hc hk s m args below hf happ hP hK
  exact ⟨n, o, h1, h2, h3, ⟨⟨v, T1, M1, q1, hp _ _ _ q2, q3⟩, q4⟩, h5⟩
theorem mm_pi_mono {Q Q' : Int32 → mm_T → mm_M → Prop} (h : ∀ r T M, Q r T M → Q' r T M) : ∀ v T M, mm_pi Q v T M → mm_pi Q' v T M := fun _ _ _ ⟨r, e, q⟩ => ⟨r, e, h _ _ _ q⟩
theorem mm_pv_mono {Q Q' : mm_T → mm_M → Prop} (h : ∀ T M, Q T M → Q' T M) : ∀ v T M, mm_pv Q v T M → mm_pv Q' v T M := fun _ _ _ ⟨e, q⟩ => ⟨e, h _ _ q⟩
def mm_q (r : Option Nat) : Value := va_rf r
section MT
variable {l : Launch} {G : mm_G} {d : Nat} {K Y : mm_R} {P : mm_P} {pc : Nat} {ls st : List Value} {T : mm_T} {M : mm_M} {uc us : Nat}


theorem mm_cV0i (n : Nat) {idx c ci len : Nat} {B : String} {F : u_T} {N : Nat} {rs : List (Option (Option Nat))} (hd : decode K.cc pc = .ok (.invokevirtual idx, 3)) (hk : mm_lV K.nm.cls idx Y 0) (hn : pc + 3 = n) (hT : T[c]? = some (ci, len, rs)) (hci : ci < 13) (hcl : vwCl[ci]? = some (B, F, N)) (hB : Y.nm.cls = B) (hw : (st.map fun v => v.category).sum ≤ 8) (hb : Y.bc = 0 ∧ Y.bs = 0) (hu : uc ≤ K.bc ∧ us ≤ K.bs) (h : mm_met l G d Y [.ref c] T M (mm_pi (fun r T1 M1 => mm_wp l G (d + 1) K P n ls (.int r :: st) T1 M1 uc us))) : mm_wp l G (d + 1) K P pc ls (.ref c :: st) T M uc us :=
  mm_callV (As := []) n hd hk hn rfl hT hci hcl hB hw (by rw [hb.1, hb.2]; exact hu) (h.mono (fun v T1 M1 q => by
    rw [hb.1, hb.2]
    obtain ⟨r, e, q⟩ := q
    subst e
    exact q))

theorem mm_cV0l (n : Nat) {idx c ci len : Nat} {B : String} {F : u_T} {N : Nat} {rs : List (Option (Option Nat))} (hd : decode K.cc pc = .ok (.invokevirtual idx, 3)) (hk : mm_lV K.nm.cls idx Y 0) (hn : pc + 3 = n) (hT : T[c]? = some (ci, len, rs)) (hci : ci < 13) (hcl : vwCl[ci]? = some (B, F, N)) (hB : Y.nm.cls = B) (hw : (st.map fun v => v.category).sum ≤ 8) (hb : Y.bc = 0 ∧ Y.bs = 0) (hu : uc ≤ K.bc ∧ us ≤ K.bs) (h : mm_met l G d Y [.ref c] T M (mm_pl (fun r T1 M1 => mm_wp l G (d + 1) K P n ls (.long r :: st) T1 M1 uc us))) : mm_wp l G (d + 1) K P pc ls (.ref c :: st) T M uc us :=
  mm_callV (As := []) n hd hk hn rfl hT hci hcl hB hw (by rw [hb.1, hb.2]; exact hu) (h.mono (fun v T1 M1 q => by
    rw [hb.1, hb.2]
    obtain ⟨r, e, q⟩ := q
    subst e
    exact q))

theorem mm_cV0v (n : Nat) {idx c ci len : Nat} {B : String} {F : u_T} {N : Nat} {rs : List (Option (Option Nat))} (hd : decode K.cc pc = .ok (.invokevirtual idx, 3)) (hk : mm_lV K.nm.cls idx Y 0) (hn : pc + 3 = n) (hT : T[c]? = some (ci, len, rs)) (hci : ci < 13) (hcl : vwCl[ci]? = some (B, F, N)) (hB : Y.nm.cls = B) (hw : (st.map fun v => v.category).sum ≤ 8) (hb : Y.bc = 0 ∧ Y.bs = 0) (hu : uc ≤ K.bc ∧ us ≤ K.bs) (h : mm_met l G d Y [.ref c] T M (mm_pv (fun T1 M1 => mm_wp l G (d + 1) K P n ls st T1 M1 uc us))) : mm_wp l G (d + 1) K P pc ls (.ref c :: st) T M uc us :=
  mm_callV (As := []) n hd hk hn rfl hT hci hcl hB hw (by rw [hb.1, hb.2]; exact hu) (h.mono (fun v T1 M1 q => by
    rw [hb.1, hb.2]
    obtain ⟨e, q⟩ := q
    subst e
    exact q))

theorem mm_cV0r (n : Nat) {idx c ci len : Nat} {B : String} {F : u_T} {N : Nat} {rs : List (Option (Option Nat))} (hd : decode K.cc pc = .ok (.invokevirtual idx, 3)) (hk : mm_lV K.nm.cls idx Y 0) (hn : pc + 3 = n) (hT : T[c]? = some (ci, len, rs)) (hci : ci < 13) (hcl : vwCl[ci]? = some (B, F, N)) (hB : Y.nm.cls = B) (hw : (st.map fun v => v.category).sum ≤ 8) (hb : Y.bc = 0 ∧ Y.bs = 0) (hu : uc ≤ K.bc ∧ us ≤ K.bs) (h : mm_met l G d Y [.ref c] T M (mm_pr (fun r T1 M1 => mm_wp l G (d + 1) K P n ls (mm_q r :: st) T1 M1 uc us))) : mm_wp l G (d + 1) K P pc ls (.ref c :: st) T M uc us :=
  mm_callV (As := []) n hd hk hn rfl hT hci hcl hB hw (by rw [hb.1, hb.2]; exact hu) (h.mono (fun v T1 M1 q => by
    rw [hb.1, hb.2]
    obtain ⟨r, e, q⟩ := q
    subst e
    exact q))

theorem mm_cV1i (n : Nat) {idx c ci len : Nat} {B : String} {F : u_T} {N : Nat} {rs : List (Option (Option Nat))} {a1 : Value} (hd : decode K.cc pc = .ok (.invokevirtual idx, 3)) (hk : mm_lV K.nm.cls idx Y 1) (hn : pc + 3 = n) (hT : T[c]? = some (ci, len, rs)) (hci : ci < 13) (hcl : vwCl[ci]? = some (B, F, N)) (hB : Y.nm.cls = B) (hw : (st.map fun v => v.category).sum ≤ 8) (hb : Y.bc = 0 ∧ Y.bs = 0) (hu : uc ≤ K.bc ∧ us ≤ K.bs) (h : mm_met l G d Y [.ref c, a1] T M (mm_pi (fun r T1 M1 => mm_wp l G (d + 1) K P n ls (.int r :: st) T1 M1 uc us))) : mm_wp l G (d + 1) K P pc ls (a1 :: .ref c :: st) T M uc us :=
  mm_callV (As := [a1]) n hd hk hn rfl hT hci hcl hB hw (by rw [hb.1, hb.2]; exact hu) (h.mono (fun v T1 M1 q => by
    rw [hb.1, hb.2]
    obtain ⟨r, e, q⟩ := q
    subst e
    exact q))

theorem mm_cV1l (n : Nat) {idx c ci len : Nat} {B : String} {F : u_T} {N : Nat} {rs : List (Option (Option Nat))} {a1 : Value} (hd : decode K.cc pc = .ok (.invokevirtual idx, 3)) (hk : mm_lV K.nm.cls idx Y 1) (hn : pc + 3 = n) (hT : T[c]? = some (ci, len, rs)) (hci : ci < 13) (hcl : vwCl[ci]? = some (B, F, N)) (hB : Y.nm.cls = B) (hw : (st.map fun v => v.category).sum ≤ 8) (hb : Y.bc = 0 ∧ Y.bs = 0) (hu : uc ≤ K.bc ∧ us ≤ K.bs) (h : mm_met l G d Y [.ref c, a1] T M (mm_pl (fun r T1 M1 => mm_wp l G (d + 1) K P n ls (.long r :: st) T1 M1 uc us))) : mm_wp l G (d + 1) K P pc ls (a1 :: .ref c :: st) T M uc us :=
  mm_callV (As := [a1]) n hd hk hn rfl hT hci hcl hB hw (by rw [hb.1, hb.2]; exact hu) (h.mono (fun v T1 M1 q => by
    rw [hb.1, hb.2]
    obtain ⟨r, e, q⟩ := q
    subst e
    exact q))

theorem mm_cV1v (n : Nat) {idx c ci len : Nat} {B : String} {F : u_T} {N : Nat} {rs : List (Option (Option Nat))} {a1 : Value} (hd : decode K.cc pc = .ok (.invokevirtual idx, 3)) (hk : mm_lV K.nm.cls idx Y 1) (hn : pc + 3 = n) (hT : T[c]? = some (ci, len, rs)) (hci : ci < 13) (hcl : vwCl[ci]? = some (B, F, N)) (hB : Y.nm.cls = B) (hw : (st.map fun v => v.category).sum ≤ 8) (hb : Y.bc = 0 ∧ Y.bs = 0) (hu : uc ≤ K.bc ∧ us ≤ K.bs) (h : mm_met l G d Y [.ref c, a1] T M (mm_pv (fun T1 M1 => mm_wp l G (d + 1) K P n ls st T1 M1 uc us))) : mm_wp l G (d + 1) K P pc ls (a1 :: .ref c :: st) T M uc us :=
  mm_callV (As := [a1]) n hd hk hn rfl hT hci hcl hB hw (by rw [hb.1, hb.2]; exact hu) (h.mono (fun v T1 M1 q => by
    rw [hb.1, hb.2]
    obtain ⟨e, q⟩ := q
    subst e
    exact q))

theorem mm_cV1r (n : Nat) {idx c ci len : Nat} {B : String} {F : u_T} {N : Nat} {rs : List (Option (Option Nat))} {a1 : Value} (hd : decode K.cc pc = .ok (.invokevirtual idx, 3)) (hk : mm_lV K.nm.cls idx Y 1) (hn : pc + 3 = n) (hT : T[c]? = some (ci, len, rs)) (hci : ci < 13) (hcl : vwCl[ci]? = some (B, F, N)) (hB : Y.nm.cls = B) (hw : (st.map fun v => v.category).sum ≤ 8) (hb : Y.bc = 0 ∧ Y.bs = 0) (hu : uc ≤ K.bc ∧ us ≤ K.bs) (h : mm_met l G d Y [.ref c, a1] T M (mm_pr (fun r T1 M1 => mm_wp l G (d + 1) K P n ls (mm_q r :: st) T1 M1 uc us))) : mm_wp l G (d + 1) K P pc ls (a1 :: .ref c :: st) T M uc us :=
  mm_callV (As := [a1]) n hd hk hn rfl hT hci hcl hB hw (by rw [hb.1, hb.2]; exact hu) (h.mono (fun v T1 M1 q => by
    rw [hb.1, hb.2]
    obtain ⟨r, e, q⟩ := q
    subst e
    exact q))

theorem mm_cV2i (n : Nat) {idx c ci len : Nat} {B : String} {F : u_T} {N : Nat} {rs : List (Option (Option Nat))} {a1 a2 : Value} (hd : decode K.cc pc = .ok (.invokevirtual idx, 3)) (hk : mm_lV K.nm.cls idx Y 2) (hn : pc + 3 = n) (hT : T[c]? = some (ci, len, rs)) (hci : ci < 13) (hcl : vwCl[ci]? = some (B, F, N)) (hB : Y.nm.cls = B) (hw : (st.map fun v => v.category).sum ≤ 8) (hb : Y.bc = 0 ∧ Y.bs = 0) (hu : uc ≤ K.bc ∧ us ≤ K.bs) (h : mm_met l G d Y [.ref c, a1, a2] T M (mm_pi (fun r T1 M1 => mm_wp l G (d + 1) K P n ls (.int r :: st) T1 M1 uc us))) : mm_wp l G (d + 1) K P pc ls (a2 :: a1 :: .ref c :: st) T M uc us :=
  mm_callV (As := [a1, a2]) n hd hk hn rfl hT hci hcl hB hw (by rw [hb.1, hb.2]; exact hu) (h.mono (fun v T1 M1 q => by
    rw [hb.1, hb.2]
    obtain ⟨r, e, q⟩ := q
    subst e
    exact q))

theorem mm_cV2l (n : Nat) {idx c ci len : Nat} {B : String} {F : u_T} {N : Nat} {rs : List (Option (Option Nat))} {a1 a2 : Value} (hd : decode K.cc pc = .ok (.invokevirtual idx, 3)) (hk : mm_lV K.nm.cls idx Y 2) (hn : pc + 3 = n) (hT : T[c]? = some (ci, len, rs)) (hci : ci < 13) (hcl : vwCl[ci]? = some (B, F, N)) (hB : Y.nm.cls = B) (hw : (st.map fun v => v.category).sum ≤ 8) (hb : Y.bc = 0 ∧ Y.bs = 0) (hu : uc ≤ K.bc ∧ us ≤ K.bs) (h : mm_met l G d Y [.ref c, a1, a2] T M (mm_pl (fun r T1 M1 => mm_wp l G (d + 1) K P n ls (.long r :: st) T1 M1 uc us))) : mm_wp l G (d + 1) K P pc ls (a2 :: a1 :: .ref c :: st) T M uc us :=
  mm_callV (As := [a1, a2]) n hd hk hn rfl hT hci hcl hB hw (by rw [hb.1, hb.2]; exact hu) (h.mono (fun v T1 M1 q => by
    rw [hb.1, hb.2]
    obtain ⟨r, e, q⟩ := q
    subst e
    exact q))

theorem mm_cV2v (n : Nat) {idx c ci len : Nat} {B : String} {F : u_T} {N : Nat} {rs : List (Option (Option Nat))} {a1 a2 : Value} (hd : decode K.cc pc = .ok (.invokevirtual idx, 3)) (hk : mm_lV K.nm.cls idx Y 2) (hn : pc + 3 = n) (hT : T[c]? = some (ci, len, rs)) (hci : ci < 13) (hcl : vwCl[ci]? = some (B, F, N)) (hB : Y.nm.cls = B) (hw : (st.map fun v => v.category).sum ≤ 8) (hb : Y.bc = 0 ∧ Y.bs = 0) (hu : uc ≤ K.bc ∧ us ≤ K.bs) (h : mm_met l G d Y [.ref c, a1, a2] T M (mm_pv (fun T1 M1 => mm_wp l G (d + 1) K P n ls st T1 M1 uc us))) : mm_wp l G (d + 1) K P pc ls (a2 :: a1 :: .ref c :: st) T M uc us :=
  mm_callV (As := [a1, a2]) n hd hk hn rfl hT hci hcl hB hw (by rw [hb.1, hb.2]; exact hu) (h.mono (fun v T1 M1 q => by
    rw [hb.1, hb.2]
    obtain ⟨e, q⟩ := q
    subst e
    exact q))

theorem mm_cV3i (n : Nat) {idx c ci len : Nat} {B : String} {F : u_T} {N : Nat} {rs : List (Option (Option Nat))} {a1 a2 a3 : Value} (hd : decode K.cc pc = .ok (.invokevirtual idx, 3)) (hk : mm_lV K.nm.cls idx Y 3) (hn : pc + 3 = n) (hT : T[c]? = some (ci, len, rs)) (hci : ci < 13) (hcl : vwCl[ci]? = some (B, F, N)) (hB : Y.nm.cls = B) (hw : (st.map fun v => v.category).sum ≤ 8) (hb : Y.bc = 0 ∧ Y.bs = 0) (hu : uc ≤ K.bc ∧ us ≤ K.bs) (h : mm_met l G d Y [.ref c, a1, a2, a3] T M (mm_pi (fun r T1 M1 => mm_wp l G (d + 1) K P n ls (.int r :: st) T1 M1 uc us))) : mm_wp l G (d + 1) K P pc ls (a3 :: a2 :: a1 :: .ref c :: st) T M uc us :=
  mm_callV (As := [a1, a2, a3]) n hd hk hn rfl hT hci hcl hB hw (by rw [hb.1, hb.2]; exact hu) (h.mono (fun v T1 M1 q => by
    rw [hb.1, hb.2]
    obtain ⟨r, e, q⟩ := q
    subst e
    exact q))

theorem mm_cV3v (n : Nat) {idx c ci len : Nat} {B : String} {F : u_T} {N : Nat} {rs : List (Option (Option Nat))} {a1 a2 a3 : Value} (hd : decode K.cc pc = .ok (.invokevirtual idx, 3)) (hk : mm_lV K.nm.cls idx Y 3) (hn : pc + 3 = n) (hT : T[c]? = some (ci, len, rs)) (hci : ci < 13) (hcl : vwCl[ci]? = some (B, F, N)) (hB : Y.nm.cls = B) (hw : (st.map fun v => v.category).sum ≤ 8) (hb : Y.bc = 0 ∧ Y.bs = 0) (hu : uc ≤ K.bc ∧ us ≤ K.bs) (h : mm_met l G d Y [.ref c, a1, a2, a3] T M (mm_pv (fun T1 M1 => mm_wp l G (d + 1) K P n ls st T1 M1 uc us))) : mm_wp l G (d + 1) K P pc ls (a3 :: a2 :: a1 :: .ref c :: st) T M uc us :=
  mm_callV (As := [a1, a2, a3]) n hd hk hn rfl hT hci hcl hB hw (by rw [hb.1, hb.2]; exact hu) (h.mono (fun v T1 M1 q => by
    rw [hb.1, hb.2]
    obtain ⟨e, q⟩ := q
    subst e
    exact q))

theorem mm_cV4i (n : Nat) {idx c ci len : Nat} {B : String} {F : u_T} {N : Nat} {rs : List (Option (Option Nat))} {a1 a2 a3 a4 : Value} (hd : decode K.cc pc = .ok (.invokevirtual idx, 3)) (hk : mm_lV K.nm.cls idx Y 4) (hn : pc + 3 = n) (hT : T[c]? = some (ci, len, rs)) (hci : ci < 13) (hcl : vwCl[ci]? = some (B, F, N)) (hB : Y.nm.cls = B) (hw : (st.map fun v => v.category).sum ≤ 8) (hb : Y.bc = 0 ∧ Y.bs = 0) (hu : uc ≤ K.bc ∧ us ≤ K.bs) (h : mm_met l G d Y [.ref c, a1, a2, a3, a4] T M (mm_pi (fun r T1 M1 => mm_wp l G (d + 1) K P n ls (.int r :: st) T1 M1 uc us))) : mm_wp l G (d + 1) K P pc ls (a4 :: a3 :: a2 :: a1 :: .ref c :: st) T M uc us :=
  mm_callV (As := [a1, a2, a3, a4]) n hd hk hn rfl hT hci hcl hB hw (by rw [hb.1, hb.2]; exact hu) (h.mono (fun v T1 M1 q => by
    rw [hb.1, hb.2]
    obtain ⟨r, e, q⟩ := q
    subst e
    exact q))

theorem mm_cV4v (n : Nat) {idx c ci len : Nat} {B : String} {F : u_T} {N : Nat} {rs : List (Option (Option Nat))} {a1 a2 a3 a4 : Value} (hd : decode K.cc pc = .ok (.invokevirtual idx, 3)) (hk : mm_lV K.nm.cls idx Y 4) (hn : pc + 3 = n) (hT : T[c]? = some (ci, len, rs)) (hci : ci < 13) (hcl : vwCl[ci]? = some (B, F, N)) (hB : Y.nm.cls = B) (hw : (st.map fun v => v.category).sum ≤ 8) (hb : Y.bc = 0 ∧ Y.bs = 0) (hu : uc ≤ K.bc ∧ us ≤ K.bs) (h : mm_met l G d Y [.ref c, a1, a2, a3, a4] T M (mm_pv (fun T1 M1 => mm_wp l G (d + 1) K P n ls st T1 M1 uc us))) : mm_wp l G (d + 1) K P pc ls (a4 :: a3 :: a2 :: a1 :: .ref c :: st) T M uc us :=
  mm_callV (As := [a1, a2, a3, a4]) n hd hk hn rfl hT hci hcl hB hw (by rw [hb.1, hb.2]; exact hu) (h.mono (fun v T1 M1 q => by
    rw [hb.1, hb.2]
    obtain ⟨e, q⟩ := q
    subst e
    exact q))

theorem mm_cV5i (n : Nat) {idx c ci len : Nat} {B : String} {F : u_T} {N : Nat} {rs : List (Option (Option Nat))} {a1 a2 a3 a4 a5 : Value} (hd : decode K.cc pc = .ok (.invokevirtual idx, 3)) (hk : mm_lV K.nm.cls idx Y 5) (hn : pc + 3 = n) (hT : T[c]? = some (ci, len, rs)) (hci : ci < 13) (hcl : vwCl[ci]? = some (B, F, N)) (hB : Y.nm.cls = B) (hw : (st.map fun v => v.category).sum ≤ 8) (hb : Y.bc = 0 ∧ Y.bs = 0) (hu : uc ≤ K.bc ∧ us ≤ K.bs) (h : mm_met l G d Y [.ref c, a1, a2, a3, a4, a5] T M (mm_pi (fun r T1 M1 => mm_wp l G (d + 1) K P n ls (.int r :: st) T1 M1 uc us))) : mm_wp l G (d + 1) K P pc ls (a5 :: a4 :: a3 :: a2 :: a1 :: .ref c :: st) T M uc us :=
  mm_callV (As := [a1, a2, a3, a4, a5]) n hd hk hn rfl hT hci hcl hB hw (by rw [hb.1, hb.2]; exact hu) (h.mono (fun v T1 M1 q => by
    rw [hb.1, hb.2]
    obtain ⟨r, e, q⟩ := q
    subst e
    exact q))

theorem mm_cV5v (n : Nat) {idx c ci len : Nat} {B : String} {F : u_T} {N : Nat} {rs : List (Option (Option Nat))} {a1 a2 a3 a4 a5 : Value} (hd : decode K.cc pc = .ok (.invokevirtual idx, 3)) (hk : mm_lV K.nm.cls idx Y 5) (hn : pc + 3 = n) (hT : T[c]? = some (ci, len, rs)) (hci : ci < 13) (hcl : vwCl[ci]? = some (B, F, N)) (hB : Y.nm.cls = B) (hw : (st.map fun v => v.category).sum ≤ 8) (hb : Y.bc = 0 ∧ Y.bs = 0) (hu : uc ≤ K.bc ∧ us ≤ K.bs) (h : mm_met l G d Y [.ref c, a1, a2, a3, a4, a5] T M (mm_pv (fun T1 M1 => mm_wp l G (d + 1) K P n ls st T1 M1 uc us))) : mm_wp l G (d + 1) K P pc ls (a5 :: a4 :: a3 :: a2 :: a1 :: .ref c :: st) T M uc us :=
  mm_callV (As := [a1, a2, a3, a4, a5]) n hd hk hn rfl hT hci hcl hB hw (by rw [hb.1, hb.2]; exact hu) (h.mono (fun v T1 M1 q => by
    rw [hb.1, hb.2]
    obtain ⟨e, q⟩ := q
    subst e
    exact q))

theorem mm_cV6i (n : Nat) {idx c ci len : Nat} {B : String} {F : u_T} {N : Nat} {rs : List (Option (Option Nat))} {a1 a2 a3 a4 a5 a6 : Value} (hd : decode K.cc pc = .ok (.invokevirtual idx, 3)) (hk : mm_lV K.nm.cls idx Y 6) (hn : pc + 3 = n) (hT : T[c]? = some (ci, len, rs)) (hci : ci < 13) (hcl : vwCl[ci]? = some (B, F, N)) (hB : Y.nm.cls = B) (hw : (st.map fun v => v.category).sum ≤ 8) (hb : Y.bc = 0 ∧ Y.bs = 0) (hu : uc ≤ K.bc ∧ us ≤ K.bs) (h : mm_met l G d Y [.ref c, a1, a2, a3, a4, a5, a6] T M (mm_pi (fun r T1 M1 => mm_wp l G (d + 1) K P n ls (.int r :: st) T1 M1 uc us))) : mm_wp l G (d + 1) K P pc ls (a6 :: a5 :: a4 :: a3 :: a2 :: a1 :: .ref c :: st) T M uc us :=
  mm_callV (As := [a1, a2, a3, a4, a5, a6]) n hd hk hn rfl hT hci hcl hB hw (by rw [hb.1, hb.2]; exact hu) (h.mono (fun v T1 M1 q => by
    rw [hb.1, hb.2]
    obtain ⟨r, e, q⟩ := q
    subst e
    exact q))

theorem mm_cV6v (n : Nat) {idx c ci len : Nat} {B : String} {F : u_T} {N : Nat} {rs : List (Option (Option Nat))} {a1 a2 a3 a4 a5 a6 : Value} (hd : decode K.cc pc = .ok (.invokevirtual idx, 3)) (hk : mm_lV K.nm.cls idx Y 6) (hn : pc + 3 = n) (hT : T[c]? = some (ci, len, rs)) (hci : ci < 13) (hcl : vwCl[ci]? = some (B, F, N)) (hB : Y.nm.cls = B) (hw : (st.map fun v => v.category).sum ≤ 8) (hb : Y.bc = 0 ∧ Y.bs = 0) (hu : uc ≤ K.bc ∧ us ≤ K.bs) (h : mm_met l G d Y [.ref c, a1, a2, a3, a4, a5, a6] T M (mm_pv (fun T1 M1 => mm_wp l G (d + 1) K P n ls st T1 M1 uc us))) : mm_wp l G (d + 1) K P pc ls (a6 :: a5 :: a4 :: a3 :: a2 :: a1 :: .ref c :: st) T M uc us :=
  mm_callV (As := [a1, a2, a3, a4, a5, a6]) n hd hk hn rfl hT hci hcl hB hw (by rw [hb.1, hb.2]; exact hu) (h.mono (fun v T1 M1 q => by
    rw [hb.1, hb.2]
    obtain ⟨e, q⟩ := q
    subst e
    exact q))

theorem mm_cS0i (n : Nat) {idx : Nat} (hd : decode K.cc pc = .ok (.invokestatic idx, 3)) (hk : mm_lS K.nm.cls idx Y 0) (hn : pc + 3 = n) (hw : (st.map fun v => v.category).sum ≤ 8) (hb : Y.bc = 0 ∧ Y.bs = 0) (hu : uc ≤ K.bc ∧ us ≤ K.bs) (h : mm_met l G d Y [] T M (mm_pi (fun r T1 M1 => mm_wp l G (d + 1) K P n ls (.int r :: st) T1 M1 uc us))) : mm_wp l G (d + 1) K P pc ls (st) T M uc us :=
  mm_callS (As := []) n hd hk hn rfl hw (by rw [hb.1, hb.2]; exact hu) (h.mono (fun v T1 M1 q => by
    rw [hb.1, hb.2]
    obtain ⟨r, e, q⟩ := q
    subst e
    exact q))

theorem mm_cS0l (n : Nat) {idx : Nat} (hd : decode K.cc pc = .ok (.invokestatic idx, 3)) (hk : mm_lS K.nm.cls idx Y 0) (hn : pc + 3 = n) (hw : (st.map fun v => v.category).sum ≤ 8) (hb : Y.bc = 0 ∧ Y.bs = 0) (hu : uc ≤ K.bc ∧ us ≤ K.bs) (h : mm_met l G d Y [] T M (mm_pl (fun r T1 M1 => mm_wp l G (d + 1) K P n ls (.long r :: st) T1 M1 uc us))) : mm_wp l G (d + 1) K P pc ls (st) T M uc us :=
  mm_callS (As := []) n hd hk hn rfl hw (by rw [hb.1, hb.2]; exact hu) (h.mono (fun v T1 M1 q => by
    rw [hb.1, hb.2]
    obtain ⟨r, e, q⟩ := q
    subst e
    exact q))

theorem mm_cS0v (n : Nat) {idx : Nat} (hd : decode K.cc pc = .ok (.invokestatic idx, 3)) (hk : mm_lS K.nm.cls idx Y 0) (hn : pc + 3 = n) (hw : (st.map fun v => v.category).sum ≤ 8) (hb : Y.bc = 0 ∧ Y.bs = 0) (hu : uc ≤ K.bc ∧ us ≤ K.bs) (h : mm_met l G d Y [] T M (mm_pv (fun T1 M1 => mm_wp l G (d + 1) K P n ls st T1 M1 uc us))) : mm_wp l G (d + 1) K P pc ls (st) T M uc us :=
  mm_callS (As := []) n hd hk hn rfl hw (by rw [hb.1, hb.2]; exact hu) (h.mono (fun v T1 M1 q => by
    rw [hb.1, hb.2]
    obtain ⟨e, q⟩ := q
    subst e
    exact q))

theorem mm_cS0r (n : Nat) {idx : Nat} (hd : decode K.cc pc = .ok (.invokestatic idx, 3)) (hk : mm_lS K.nm.cls idx Y 0) (hn : pc + 3 = n) (hw : (st.map fun v => v.category).sum ≤ 8) (hb : Y.bc = 0 ∧ Y.bs = 0) (hu : uc ≤ K.bc ∧ us ≤ K.bs) (h : mm_met l G d Y [] T M (mm_pr (fun r T1 M1 => mm_wp l G (d + 1) K P n ls (mm_q r :: st) T1 M1 uc us))) : mm_wp l G (d + 1) K P pc ls (st) T M uc us :=
  mm_callS (As := []) n hd hk hn rfl hw (by rw [hb.1, hb.2]; exact hu) (h.mono (fun v T1 M1 q => by
    rw [hb.1, hb.2]
    obtain ⟨r, e, q⟩ := q
    subst e
    exact q))

theorem mm_cS1i (n : Nat) {idx : Nat} {a1 : Value} (hd : decode K.cc pc = .ok (.invokestatic idx, 3)) (hk : mm_lS K.nm.cls idx Y 1) (hn : pc + 3 = n) (hw : (st.map fun v => v.category).sum ≤ 8) (hb : Y.bc = 0 ∧ Y.bs = 0) (hu : uc ≤ K.bc ∧ us ≤ K.bs) (h : mm_met l G d Y [a1] T M (mm_pi (fun r T1 M1 => mm_wp l G (d + 1) K P n ls (.int r :: st) T1 M1 uc us))) : mm_wp l G (d + 1) K P pc ls (a1 :: st) T M uc us :=
  mm_callS (As := [a1]) n hd hk hn rfl hw (by rw [hb.1, hb.2]; exact hu) (h.mono (fun v T1 M1 q => by
    rw [hb.1, hb.2]
    obtain ⟨r, e, q⟩ := q
    subst e
    exact q))

theorem mm_cS1l (n : Nat) {idx : Nat} {a1 : Value} (hd : decode K.cc pc = .ok (.invokestatic idx, 3)) (hk : mm_lS K.nm.cls idx Y 1) (hn : pc + 3 = n) (hw : (st.map fun v => v.category).sum ≤ 8) (hb : Y.bc = 0 ∧ Y.bs = 0) (hu : uc ≤ K.bc ∧ us ≤ K.bs) (h : mm_met l G d Y [a1] T M (mm_pl (fun r T1 M1 => mm_wp l G (d + 1) K P n ls (.long r :: st) T1 M1 uc us))) : mm_wp l G (d + 1) K P pc ls (a1 :: st) T M uc us :=
  mm_callS (As := [a1]) n hd hk hn rfl hw (by rw [hb.1, hb.2]; exact hu) (h.mono (fun v T1 M1 q => by
    rw [hb.1, hb.2]
    obtain ⟨r, e, q⟩ := q
    subst e
    exact q))

theorem mm_cS1v (n : Nat) {idx : Nat} {a1 : Value} (hd : decode K.cc pc = .ok (.invokestatic idx, 3)) (hk : mm_lS K.nm.cls idx Y 1) (hn : pc + 3 = n) (hw : (st.map fun v => v.category).sum ≤ 8) (hb : Y.bc = 0 ∧ Y.bs = 0) (hu : uc ≤ K.bc ∧ us ≤ K.bs) (h : mm_met l G d Y [a1] T M (mm_pv (fun T1 M1 => mm_wp l G (d + 1) K P n ls st T1 M1 uc us))) : mm_wp l G (d + 1) K P pc ls (a1 :: st) T M uc us :=
  mm_callS (As := [a1]) n hd hk hn rfl hw (by rw [hb.1, hb.2]; exact hu) (h.mono (fun v T1 M1 q => by
    rw [hb.1, hb.2]
    obtain ⟨e, q⟩ := q
    subst e
    exact q))

theorem mm_cS1r (n : Nat) {idx : Nat} {a1 : Value} (hd : decode K.cc pc = .ok (.invokestatic idx, 3)) (hk : mm_lS K.nm.cls idx Y 1) (hn : pc + 3 = n) (hw : (st.map fun v => v.category).sum ≤ 8) (hb : Y.bc = 0 ∧ Y.bs = 0) (hu : uc ≤ K.bc ∧ us ≤ K.bs) (h : mm_met l G d Y [a1] T M (mm_pr (fun r T1 M1 => mm_wp l G (d + 1) K P n ls (mm_q r :: st) T1 M1 uc us))) : mm_wp l G (d + 1) K P pc ls (a1 :: st) T M uc us :=
  mm_callS (As := [a1]) n hd hk hn rfl hw (by rw [hb.1, hb.2]; exact hu) (h.mono (fun v T1 M1 q => by
    rw [hb.1, hb.2]
    obtain ⟨r, e, q⟩ := q
    subst e
    exact q))

theorem mm_cS2i (n : Nat) {idx : Nat} {a1 a2 : Value} (hd : decode K.cc pc = .ok (.invokestatic idx, 3)) (hk : mm_lS K.nm.cls idx Y 2) (hn : pc + 3 = n) (hw : (st.map fun v => v.category).sum ≤ 8) (hb : Y.bc = 0 ∧ Y.bs = 0) (hu : uc ≤ K.bc ∧ us ≤ K.bs) (h : mm_met l G d Y [a1, a2] T M (mm_pi (fun r T1 M1 => mm_wp l G (d + 1) K P n ls (.int r :: st) T1 M1 uc us))) : mm_wp l G (d + 1) K P pc ls (a2 :: a1 :: st) T M uc us :=
  mm_callS (As := [a1, a2]) n hd hk hn rfl hw (by rw [hb.1, hb.2]; exact hu) (h.mono (fun v T1 M1 q => by
    rw [hb.1, hb.2]
    obtain ⟨r, e, q⟩ := q
    subst e
    exact q))

theorem mm_cS2l (n : Nat) {idx : Nat} {a1 a2 : Value} (hd : decode K.cc pc = .ok (.invokestatic idx, 3)) (hk : mm_lS K.nm.cls idx Y 2) (hn : pc + 3 = n) (hw : (st.map fun v => v.category).sum ≤ 8) (hb : Y.bc = 0 ∧ Y.bs = 0) (hu : uc ≤ K.bc ∧ us ≤ K.bs) (h : mm_met l G d Y [a1, a2] T M (mm_pl (fun r T1 M1 => mm_wp l G (d + 1) K P n ls (.long r :: st) T1 M1 uc us))) : mm_wp l G (d + 1) K P pc ls (a2 :: a1 :: st) T M uc us :=
  mm_callS (As := [a1, a2]) n hd hk hn rfl hw (by rw [hb.1, hb.2]; exact hu) (h.mono (fun v T1 M1 q => by
    rw [hb.1, hb.2]
    obtain ⟨r, e, q⟩ := q
    subst e
    exact q))

theorem mm_cS2v (n : Nat) {idx : Nat} {a1 a2 : Value} (hd : decode K.cc pc = .ok (.invokestatic idx, 3)) (hk : mm_lS K.nm.cls idx Y 2) (hn : pc + 3 = n) (hw : (st.map fun v => v.category).sum ≤ 8) (hb : Y.bc = 0 ∧ Y.bs = 0) (hu : uc ≤ K.bc ∧ us ≤ K.bs) (h : mm_met l G d Y [a1, a2] T M (mm_pv (fun T1 M1 => mm_wp l G (d + 1) K P n ls st T1 M1 uc us))) : mm_wp l G (d + 1) K P pc ls (a2 :: a1 :: st) T M uc us :=
  mm_callS (As := [a1, a2]) n hd hk hn rfl hw (by rw [hb.1, hb.2]; exact hu) (h.mono (fun v T1 M1 q => by
    rw [hb.1, hb.2]
    obtain ⟨e, q⟩ := q
    subst e
    exact q))

theorem mm_cS3i (n : Nat) {idx : Nat} {a1 a2 a3 : Value} (hd : decode K.cc pc = .ok (.invokestatic idx, 3)) (hk : mm_lS K.nm.cls idx Y 3) (hn : pc + 3 = n) (hw : (st.map fun v => v.category).sum ≤ 8) (hb : Y.bc = 0 ∧ Y.bs = 0) (hu : uc ≤ K.bc ∧ us ≤ K.bs) (h : mm_met l G d Y [a1, a2, a3] T M (mm_pi (fun r T1 M1 => mm_wp l G (d + 1) K P n ls (.int r :: st) T1 M1 uc us))) : mm_wp l G (d + 1) K P pc ls (a3 :: a2 :: a1 :: st) T M uc us :=
  mm_callS (As := [a1, a2, a3]) n hd hk hn rfl hw (by rw [hb.1, hb.2]; exact hu) (h.mono (fun v T1 M1 q => by
    rw [hb.1, hb.2]
    obtain ⟨r, e, q⟩ := q
    subst e
    exact q))

theorem mm_cS3v (n : Nat) {idx : Nat} {a1 a2 a3 : Value} (hd : decode K.cc pc = .ok (.invokestatic idx, 3)) (hk : mm_lS K.nm.cls idx Y 3) (hn : pc + 3 = n) (hw : (st.map fun v => v.category).sum ≤ 8) (hb : Y.bc = 0 ∧ Y.bs = 0) (hu : uc ≤ K.bc ∧ us ≤ K.bs) (h : mm_met l G d Y [a1, a2, a3] T M (mm_pv (fun T1 M1 => mm_wp l G (d + 1) K P n ls st T1 M1 uc us))) : mm_wp l G (d + 1) K P pc ls (a3 :: a2 :: a1 :: st) T M uc us :=
  mm_callS (As := [a1, a2, a3]) n hd hk hn rfl hw (by rw [hb.1, hb.2]; exact hu) (h.mono (fun v T1 M1 q => by
    rw [hb.1, hb.2]
    obtain ⟨e, q⟩ := q
    subst e
    exact q))

theorem mm_cS4i (n : Nat) {idx : Nat} {a1 a2 a3 a4 : Value} (hd : decode K.cc pc = .ok (.invokestatic idx, 3)) (hk : mm_lS K.nm.cls idx Y 4) (hn : pc + 3 = n) (hw : (st.map fun v => v.category).sum ≤ 8) (hb : Y.bc = 0 ∧ Y.bs = 0) (hu : uc ≤ K.bc ∧ us ≤ K.bs) (h : mm_met l G d Y [a1, a2, a3, a4] T M (mm_pi (fun r T1 M1 => mm_wp l G (d + 1) K P n ls (.int r :: st) T1 M1 uc us))) : mm_wp l G (d + 1) K P pc ls (a4 :: a3 :: a2 :: a1 :: st) T M uc us :=
  mm_callS (As := [a1, a2, a3, a4]) n hd hk hn rfl hw (by rw [hb.1, hb.2]; exact hu) (h.mono (fun v T1 M1 q => by
    rw [hb.1, hb.2]
    obtain ⟨r, e, q⟩ := q
    subst e
    exact q))

theorem mm_cS4v (n : Nat) {idx : Nat} {a1 a2 a3 a4 : Value} (hd : decode K.cc pc = .ok (.invokestatic idx, 3)) (hk : mm_lS K.nm.cls idx Y 4) (hn : pc + 3 = n) (hw : (st.map fun v => v.category).sum ≤ 8) (hb : Y.bc = 0 ∧ Y.bs = 0) (hu : uc ≤ K.bc ∧ us ≤ K.bs) (h : mm_met l G d Y [a1, a2, a3, a4] T M (mm_pv (fun T1 M1 => mm_wp l G (d + 1) K P n ls st T1 M1 uc us))) : mm_wp l G (d + 1) K P pc ls (a4 :: a3 :: a2 :: a1 :: st) T M uc us :=
  mm_callS (As := [a1, a2, a3, a4]) n hd hk hn rfl hw (by rw [hb.1, hb.2]; exact hu) (h.mono (fun v T1 M1 q => by
    rw [hb.1, hb.2]
    obtain ⟨e, q⟩ := q
    subst e
    exact q))

theorem mm_cS5i (n : Nat) {idx : Nat} {a1 a2 a3 a4 a5 : Value} (hd : decode K.cc pc = .ok (.invokestatic idx, 3)) (hk : mm_lS K.nm.cls idx Y 5) (hn : pc + 3 = n) (hw : (st.map fun v => v.category).sum ≤ 8) (hb : Y.bc = 0 ∧ Y.bs = 0) (hu : uc ≤ K.bc ∧ us ≤ K.bs) (h : mm_met l G d Y [a1, a2, a3, a4, a5] T M (mm_pi (fun r T1 M1 => mm_wp l G (d + 1) K P n ls (.int r :: st) T1 M1 uc us))) : mm_wp l G (d + 1) K P pc ls (a5 :: a4 :: a3 :: a2 :: a1 :: st) T M uc us :=
  mm_callS (As := [a1, a2, a3, a4, a5]) n hd hk hn rfl hw (by rw [hb.1, hb.2]; exact hu) (h.mono (fun v T1 M1 q => by
    rw [hb.1, hb.2]
    obtain ⟨r, e, q⟩ := q
    subst e
    exact q))

theorem mm_cS5v (n : Nat) {idx : Nat} {a1 a2 a3 a4 a5 : Value} (hd : decode K.cc pc = .ok (.invokestatic idx, 3)) (hk : mm_lS K.nm.cls idx Y 5) (hn : pc + 3 = n) (hw : (st.map fun v => v.category).sum ≤ 8) (hb : Y.bc = 0 ∧ Y.bs = 0) (hu : uc ≤ K.bc ∧ us ≤ K.bs) (h : mm_met l G d Y [a1, a2, a3, a4, a5] T M (mm_pv (fun T1 M1 => mm_wp l G (d + 1) K P n ls st T1 M1 uc us))) : mm_wp l G (d + 1) K P pc ls (a5 :: a4 :: a3 :: a2 :: a1 :: st) T M uc us :=
  mm_callS (As := [a1, a2, a3, a4, a5]) n hd hk hn rfl hw (by rw [hb.1, hb.2]; exact hu) (h.mono (fun v T1 M1 q => by
    rw [hb.1, hb.2]
    obtain ⟨e, q⟩ := q
    subst e
    exact q))

theorem mm_cS6i (n : Nat) {idx : Nat} {a1 a2 a3 a4 a5 a6 : Value} (hd : decode K.cc pc = .ok (.invokestatic idx, 3)) (hk : mm_lS K.nm.cls idx Y 6) (hn : pc + 3 = n) (hw : (st.map fun v => v.category).sum ≤ 8) (hb : Y.bc = 0 ∧ Y.bs = 0) (hu : uc ≤ K.bc ∧ us ≤ K.bs) (h : mm_met l G d Y [a1, a2, a3, a4, a5, a6] T M (mm_pi (fun r T1 M1 => mm_wp l G (d + 1) K P n ls (.int r :: st) T1 M1 uc us))) : mm_wp l G (d + 1) K P pc ls (a6 :: a5 :: a4 :: a3 :: a2 :: a1 :: st) T M uc us :=
  mm_callS (As := [a1, a2, a3, a4, a5, a6]) n hd hk hn rfl hw (by rw [hb.1, hb.2]; exact hu) (h.mono (fun v T1 M1 q => by
    rw [hb.1, hb.2]
    obtain ⟨r, e, q⟩ := q
    subst e
    exact q))

theorem mm_cS6v (n : Nat) {idx : Nat} {a1 a2 a3 a4 a5 a6 : Value} (hd : decode K.cc pc = .ok (.invokestatic idx, 3)) (hk : mm_lS K.nm.cls idx Y 6) (hn : pc + 3 = n) (hw : (st.map fun v => v.category).sum ≤ 8) (hb : Y.bc = 0 ∧ Y.bs = 0) (hu : uc ≤ K.bc ∧ us ≤ K.bs) (h : mm_met l G d Y [a1, a2, a3, a4, a5, a6] T M (mm_pv (fun T1 M1 => mm_wp l G (d + 1) K P n ls st T1 M1 uc us))) : mm_wp l G (d + 1) K P pc ls (a6 :: a5 :: a4 :: a3 :: a2 :: a1 :: st) T M uc us :=
  mm_callS (As := [a1, a2, a3, a4, a5, a6]) n hd hk hn rfl hw (by rw [hb.1, hb.2]; exact hu) (h.mono (fun v T1 M1 q => by
    rw [hb.1, hb.2]
    obtain ⟨e, q⟩ := q
    subst e
    exact q))

theorem mm_cSN0i (n : Nat) {idx : Nat} {host : String} (hd : decode K.cc pc = .ok (.invokestatic idx, 3)) (hk : mm_lSN K.nm.cls idx Y 0 host) (hn : pc + 3 = n) (hw : (st.map fun v => v.category).sum ≤ 8) (hb : Y.bc = 0 ∧ Y.bs = 0) (hu : uc ≤ K.bc ∧ us ≤ K.bs) (h : mm_met l G d Y [] T M (mm_pi (fun r T1 M1 => mm_wp l G (d + 1) K P n ls (.int r :: st) T1 M1 uc us))) : mm_wp l G (d + 1) K P pc ls (st) T M uc us :=
  mm_callSN (As := []) n hd hk hn rfl hw (by rw [hb.1, hb.2]; exact hu) (h.mono (fun v T1 M1 q => by
    rw [hb.1, hb.2]
    obtain ⟨r, e, q⟩ := q
    subst e
    exact q))

theorem mm_cSN0l (n : Nat) {idx : Nat} {host : String} (hd : decode K.cc pc = .ok (.invokestatic idx, 3)) (hk : mm_lSN K.nm.cls idx Y 0 host) (hn : pc + 3 = n) (hw : (st.map fun v => v.category).sum ≤ 8) (hb : Y.bc = 0 ∧ Y.bs = 0) (hu : uc ≤ K.bc ∧ us ≤ K.bs) (h : mm_met l G d Y [] T M (mm_pl (fun r T1 M1 => mm_wp l G (d + 1) K P n ls (.long r :: st) T1 M1 uc us))) : mm_wp l G (d + 1) K P pc ls (st) T M uc us :=
  mm_callSN (As := []) n hd hk hn rfl hw (by rw [hb.1, hb.2]; exact hu) (h.mono (fun v T1 M1 q => by
    rw [hb.1, hb.2]
    obtain ⟨r, e, q⟩ := q
    subst e
    exact q))

theorem mm_cSN0v (n : Nat) {idx : Nat} {host : String} (hd : decode K.cc pc = .ok (.invokestatic idx, 3)) (hk : mm_lSN K.nm.cls idx Y 0 host) (hn : pc + 3 = n) (hw : (st.map fun v => v.category).sum ≤ 8) (hb : Y.bc = 0 ∧ Y.bs = 0) (hu : uc ≤ K.bc ∧ us ≤ K.bs) (h : mm_met l G d Y [] T M (mm_pv (fun T1 M1 => mm_wp l G (d + 1) K P n ls st T1 M1 uc us))) : mm_wp l G (d + 1) K P pc ls (st) T M uc us :=
  mm_callSN (As := []) n hd hk hn rfl hw (by rw [hb.1, hb.2]; exact hu) (h.mono (fun v T1 M1 q => by
    rw [hb.1, hb.2]
    obtain ⟨e, q⟩ := q
    subst e
    exact q))

theorem mm_cSN0r (n : Nat) {idx : Nat} {host : String} (hd : decode K.cc pc = .ok (.invokestatic idx, 3)) (hk : mm_lSN K.nm.cls idx Y 0 host) (hn : pc + 3 = n) (hw : (st.map fun v => v.category).sum ≤ 8) (hb : Y.bc = 0 ∧ Y.bs = 0) (hu : uc ≤ K.bc ∧ us ≤ K.bs) (h : mm_met l G d Y [] T M (mm_pr (fun r T1 M1 => mm_wp l G (d + 1) K P n ls (mm_q r :: st) T1 M1 uc us))) : mm_wp l G (d + 1) K P pc ls (st) T M uc us :=
  mm_callSN (As := []) n hd hk hn rfl hw (by rw [hb.1, hb.2]; exact hu) (h.mono (fun v T1 M1 q => by
    rw [hb.1, hb.2]
    obtain ⟨r, e, q⟩ := q
    subst e
    exact q))

theorem mm_cSN1i (n : Nat) {idx : Nat} {host : String} {a1 : Value} (hd : decode K.cc pc = .ok (.invokestatic idx, 3)) (hk : mm_lSN K.nm.cls idx Y 1 host) (hn : pc + 3 = n) (hw : (st.map fun v => v.category).sum ≤ 8) (hb : Y.bc = 0 ∧ Y.bs = 0) (hu : uc ≤ K.bc ∧ us ≤ K.bs) (h : mm_met l G d Y [a1] T M (mm_pi (fun r T1 M1 => mm_wp l G (d + 1) K P n ls (.int r :: st) T1 M1 uc us))) : mm_wp l G (d + 1) K P pc ls (a1 :: st) T M uc us :=
  mm_callSN (As := [a1]) n hd hk hn rfl hw (by rw [hb.1, hb.2]; exact hu) (h.mono (fun v T1 M1 q => by
    rw [hb.1, hb.2]
    obtain ⟨r, e, q⟩ := q
    subst e
    exact q))

theorem mm_cSN1l (n : Nat) {idx : Nat} {host : String} {a1 : Value} (hd : decode K.cc pc = .ok (.invokestatic idx, 3)) (hk : mm_lSN K.nm.cls idx Y 1 host) (hn : pc + 3 = n) (hw : (st.map fun v => v.category).sum ≤ 8) (hb : Y.bc = 0 ∧ Y.bs = 0) (hu : uc ≤ K.bc ∧ us ≤ K.bs) (h : mm_met l G d Y [a1] T M (mm_pl (fun r T1 M1 => mm_wp l G (d + 1) K P n ls (.long r :: st) T1 M1 uc us))) : mm_wp l G (d + 1) K P pc ls (a1 :: st) T M uc us :=
  mm_callSN (As := [a1]) n hd hk hn rfl hw (by rw [hb.1, hb.2]; exact hu) (h.mono (fun v T1 M1 q => by
    rw [hb.1, hb.2]
    obtain ⟨r, e, q⟩ := q
    subst e
    exact q))

theorem mm_cSN1v (n : Nat) {idx : Nat} {host : String} {a1 : Value} (hd : decode K.cc pc = .ok (.invokestatic idx, 3)) (hk : mm_lSN K.nm.cls idx Y 1 host) (hn : pc + 3 = n) (hw : (st.map fun v => v.category).sum ≤ 8) (hb : Y.bc = 0 ∧ Y.bs = 0) (hu : uc ≤ K.bc ∧ us ≤ K.bs) (h : mm_met l G d Y [a1] T M (mm_pv (fun T1 M1 => mm_wp l G (d + 1) K P n ls st T1 M1 uc us))) : mm_wp l G (d + 1) K P pc ls (a1 :: st) T M uc us :=
  mm_callSN (As := [a1]) n hd hk hn rfl hw (by rw [hb.1, hb.2]; exact hu) (h.mono (fun v T1 M1 q => by
    rw [hb.1, hb.2]
    obtain ⟨e, q⟩ := q
    subst e
    exact q))

theorem mm_cSN1r (n : Nat) {idx : Nat} {host : String} {a1 : Value} (hd : decode K.cc pc = .ok (.invokestatic idx, 3)) (hk : mm_lSN K.nm.cls idx Y 1 host) (hn : pc + 3 = n) (hw : (st.map fun v => v.category).sum ≤ 8) (hb : Y.bc = 0 ∧ Y.bs = 0) (hu : uc ≤ K.bc ∧ us ≤ K.bs) (h : mm_met l G d Y [a1] T M (mm_pr (fun r T1 M1 => mm_wp l G (d + 1) K P n ls (mm_q r :: st) T1 M1 uc us))) : mm_wp l G (d + 1) K P pc ls (a1 :: st) T M uc us :=
  mm_callSN (As := [a1]) n hd hk hn rfl hw (by rw [hb.1, hb.2]; exact hu) (h.mono (fun v T1 M1 q => by
    rw [hb.1, hb.2]
    obtain ⟨r, e, q⟩ := q
    subst e
    exact q))

theorem mm_cSN2i (n : Nat) {idx : Nat} {host : String} {a1 a2 : Value} (hd : decode K.cc pc = .ok (.invokestatic idx, 3)) (hk : mm_lSN K.nm.cls idx Y 2 host) (hn : pc + 3 = n) (hw : (st.map fun v => v.category).sum ≤ 8) (hb : Y.bc = 0 ∧ Y.bs = 0) (hu : uc ≤ K.bc ∧ us ≤ K.bs) (h : mm_met l G d Y [a1, a2] T M (mm_pi (fun r T1 M1 => mm_wp l G (d + 1) K P n ls (.int r :: st) T1 M1 uc us))) : mm_wp l G (d + 1) K P pc ls (a2 :: a1 :: st) T M uc us :=
  mm_callSN (As := [a1, a2]) n hd hk hn rfl hw (by rw [hb.1, hb.2]; exact hu) (h.mono (fun v T1 M1 q => by
    rw [hb.1, hb.2]
    obtain ⟨r, e, q⟩ := q
    subst e
    exact q))

theorem mm_cSN2l (n : Nat) {idx : Nat} {host : String} {a1 a2 : Value} (hd : decode K.cc pc = .ok (.invokestatic idx, 3)) (hk : mm_lSN K.nm.cls idx Y 2 host) (hn : pc + 3 = n) (hw : (st.map fun v => v.category).sum ≤ 8) (hb : Y.bc = 0 ∧ Y.bs = 0) (hu : uc ≤ K.bc ∧ us ≤ K.bs) (h : mm_met l G d Y [a1, a2] T M (mm_pl (fun r T1 M1 => mm_wp l G (d + 1) K P n ls (.long r :: st) T1 M1 uc us))) : mm_wp l G (d + 1) K P pc ls (a2 :: a1 :: st) T M uc us :=
  mm_callSN (As := [a1, a2]) n hd hk hn rfl hw (by rw [hb.1, hb.2]; exact hu) (h.mono (fun v T1 M1 q => by
    rw [hb.1, hb.2]
    obtain ⟨r, e, q⟩ := q
    subst e
    exact q))

theorem mm_cSN2v (n : Nat) {idx : Nat} {host : String} {a1 a2 : Value} (hd : decode K.cc pc = .ok (.invokestatic idx, 3)) (hk : mm_lSN K.nm.cls idx Y 2 host) (hn : pc + 3 = n) (hw : (st.map fun v => v.category).sum ≤ 8) (hb : Y.bc = 0 ∧ Y.bs = 0) (hu : uc ≤ K.bc ∧ us ≤ K.bs) (h : mm_met l G d Y [a1, a2] T M (mm_pv (fun T1 M1 => mm_wp l G (d + 1) K P n ls st T1 M1 uc us))) : mm_wp l G (d + 1) K P pc ls (a2 :: a1 :: st) T M uc us :=
  mm_callSN (As := [a1, a2]) n hd hk hn rfl hw (by rw [hb.1, hb.2]; exact hu) (h.mono (fun v T1 M1 q => by
    rw [hb.1, hb.2]
    obtain ⟨e, q⟩ := q
    subst e
    exact q))

theorem mm_cSN3i (n : Nat) {idx : Nat} {host : String} {a1 a2 a3 : Value} (hd : decode K.cc pc = .ok (.invokestatic idx, 3)) (hk : mm_lSN K.nm.cls idx Y 3 host) (hn : pc + 3 = n) (hw : (st.map fun v => v.category).sum ≤ 8) (hb : Y.bc = 0 ∧ Y.bs = 0) (hu : uc ≤ K.bc ∧ us ≤ K.bs) (h : mm_met l G d Y [a1, a2, a3] T M (mm_pi (fun r T1 M1 => mm_wp l G (d + 1) K P n ls (.int r :: st) T1 M1 uc us))) : mm_wp l G (d + 1) K P pc ls (a3 :: a2 :: a1 :: st) T M uc us :=
  mm_callSN (As := [a1, a2, a3]) n hd hk hn rfl hw (by rw [hb.1, hb.2]; exact hu) (h.mono (fun v T1 M1 q => by
    rw [hb.1, hb.2]
    obtain ⟨r, e, q⟩ := q
    subst e
    exact q))

theorem mm_cSN3v (n : Nat) {idx : Nat} {host : String} {a1 a2 a3 : Value} (hd : decode K.cc pc = .ok (.invokestatic idx, 3)) (hk : mm_lSN K.nm.cls idx Y 3 host) (hn : pc + 3 = n) (hw : (st.map fun v => v.category).sum ≤ 8) (hb : Y.bc = 0 ∧ Y.bs = 0) (hu : uc ≤ K.bc ∧ us ≤ K.bs) (h : mm_met l G d Y [a1, a2, a3] T M (mm_pv (fun T1 M1 => mm_wp l G (d + 1) K P n ls st T1 M1 uc us))) : mm_wp l G (d + 1) K P pc ls (a3 :: a2 :: a1 :: st) T M uc us :=
  mm_callSN (As := [a1, a2, a3]) n hd hk hn rfl hw (by rw [hb.1, hb.2]; exact hu) (h.mono (fun v T1 M1 q => by
    rw [hb.1, hb.2]
    obtain ⟨e, q⟩ := q
    subst e
    exact q))

theorem mm_cSN4i (n : Nat) {idx : Nat} {host : String} {a1 a2 a3 a4 : Value} (hd : decode K.cc pc = .ok (.invokestatic idx, 3)) (hk : mm_lSN K.nm.cls idx Y 4 host) (hn : pc + 3 = n) (hw : (st.map fun v => v.category).sum ≤ 8) (hb : Y.bc = 0 ∧ Y.bs = 0) (hu : uc ≤ K.bc ∧ us ≤ K.bs) (h : mm_met l G d Y [a1, a2, a3, a4] T M (mm_pi (fun r T1 M1 => mm_wp l G (d + 1) K P n ls (.int r :: st) T1 M1 uc us))) : mm_wp l G (d + 1) K P pc ls (a4 :: a3 :: a2 :: a1 :: st) T M uc us :=
  mm_callSN (As := [a1, a2, a3, a4]) n hd hk hn rfl hw (by rw [hb.1, hb.2]; exact hu) (h.mono (fun v T1 M1 q => by
    rw [hb.1, hb.2]
    obtain ⟨r, e, q⟩ := q
    subst e
    exact q))

theorem mm_cSN4v (n : Nat) {idx : Nat} {host : String} {a1 a2 a3 a4 : Value} (hd : decode K.cc pc = .ok (.invokestatic idx, 3)) (hk : mm_lSN K.nm.cls idx Y 4 host) (hn : pc + 3 = n) (hw : (st.map fun v => v.category).sum ≤ 8) (hb : Y.bc = 0 ∧ Y.bs = 0) (hu : uc ≤ K.bc ∧ us ≤ K.bs) (h : mm_met l G d Y [a1, a2, a3, a4] T M (mm_pv (fun T1 M1 => mm_wp l G (d + 1) K P n ls st T1 M1 uc us))) : mm_wp l G (d + 1) K P pc ls (a4 :: a3 :: a2 :: a1 :: st) T M uc us :=
  mm_callSN (As := [a1, a2, a3, a4]) n hd hk hn rfl hw (by rw [hb.1, hb.2]; exact hu) (h.mono (fun v T1 M1 q => by
    rw [hb.1, hb.2]
    obtain ⟨e, q⟩ := q
    subst e
    exact q))

theorem mm_cSN5i (n : Nat) {idx : Nat} {host : String} {a1 a2 a3 a4 a5 : Value} (hd : decode K.cc pc = .ok (.invokestatic idx, 3)) (hk : mm_lSN K.nm.cls idx Y 5 host) (hn : pc + 3 = n) (hw : (st.map fun v => v.category).sum ≤ 8) (hb : Y.bc = 0 ∧ Y.bs = 0) (hu : uc ≤ K.bc ∧ us ≤ K.bs) (h : mm_met l G d Y [a1, a2, a3, a4, a5] T M (mm_pi (fun r T1 M1 => mm_wp l G (d + 1) K P n ls (.int r :: st) T1 M1 uc us))) : mm_wp l G (d + 1) K P pc ls (a5 :: a4 :: a3 :: a2 :: a1 :: st) T M uc us :=
  mm_callSN (As := [a1, a2, a3, a4, a5]) n hd hk hn rfl hw (by rw [hb.1, hb.2]; exact hu) (h.mono (fun v T1 M1 q => by
    rw [hb.1, hb.2]
    obtain ⟨r, e, q⟩ := q
    subst e
    exact q))

theorem mm_cSN5v (n : Nat) {idx : Nat} {host : String} {a1 a2 a3 a4 a5 : Value} (hd : decode K.cc pc = .ok (.invokestatic idx, 3)) (hk : mm_lSN K.nm.cls idx Y 5 host) (hn : pc + 3 = n) (hw : (st.map fun v => v.category).sum ≤ 8) (hb : Y.bc = 0 ∧ Y.bs = 0) (hu : uc ≤ K.bc ∧ us ≤ K.bs) (h : mm_met l G d Y [a1, a2, a3, a4, a5] T M (mm_pv (fun T1 M1 => mm_wp l G (d + 1) K P n ls st T1 M1 uc us))) : mm_wp l G (d + 1) K P pc ls (a5 :: a4 :: a3 :: a2 :: a1 :: st) T M uc us :=
  mm_callSN (As := [a1, a2, a3, a4, a5]) n hd hk hn rfl hw (by rw [hb.1, hb.2]; exact hu) (h.mono (fun v T1 M1 q => by
    rw [hb.1, hb.2]
    obtain ⟨e, q⟩ := q
    subst e
    exact q))

theorem mm_cSN6i (n : Nat) {idx : Nat} {host : String} {a1 a2 a3 a4 a5 a6 : Value} (hd : decode K.cc pc = .ok (.invokestatic idx, 3)) (hk : mm_lSN K.nm.cls idx Y 6 host) (hn : pc + 3 = n) (hw : (st.map fun v => v.category).sum ≤ 8) (hb : Y.bc = 0 ∧ Y.bs = 0) (hu : uc ≤ K.bc ∧ us ≤ K.bs) (h : mm_met l G d Y [a1, a2, a3, a4, a5, a6] T M (mm_pi (fun r T1 M1 => mm_wp l G (d + 1) K P n ls (.int r :: st) T1 M1 uc us))) : mm_wp l G (d + 1) K P pc ls (a6 :: a5 :: a4 :: a3 :: a2 :: a1 :: st) T M uc us :=
  mm_callSN (As := [a1, a2, a3, a4, a5, a6]) n hd hk hn rfl hw (by rw [hb.1, hb.2]; exact hu) (h.mono (fun v T1 M1 q => by
    rw [hb.1, hb.2]
    obtain ⟨r, e, q⟩ := q
    subst e
    exact q))

theorem mm_cSN6v (n : Nat) {idx : Nat} {host : String} {a1 a2 a3 a4 a5 a6 : Value} (hd : decode K.cc pc = .ok (.invokestatic idx, 3)) (hk : mm_lSN K.nm.cls idx Y 6 host) (hn : pc + 3 = n) (hw : (st.map fun v => v.category).sum ≤ 8) (hb : Y.bc = 0 ∧ Y.bs = 0) (hu : uc ≤ K.bc ∧ us ≤ K.bs) (h : mm_met l G d Y [a1, a2, a3, a4, a5, a6] T M (mm_pv (fun T1 M1 => mm_wp l G (d + 1) K P n ls st T1 M1 uc us))) : mm_wp l G (d + 1) K P pc ls (a6 :: a5 :: a4 :: a3 :: a2 :: a1 :: st) T M uc us :=
  mm_callSN (As := [a1, a2, a3, a4, a5, a6]) n hd hk hn rfl hw (by rw [hb.1, hb.2]; exact hu) (h.mono (fun v T1 M1 q => by
    rw [hb.1, hb.2]
    obtain ⟨e, q⟩ := q
    subst e
    exact q))

theorem mm_cI0 (n u1 s1 : Nat) {idx c : Nat} (hd : decode K.cc pc = .ok (.invokespecial idx, 3)) (hk : mm_lI K.nm.cls idx Y 0) (hn : pc + 3 = n) (hw : (st.map fun v => v.category).sum ≤ 8) (h1 : uc + Y.bc = u1) (h2 : us + Y.bs = s1) (hu : u1 ≤ K.bc ∧ s1 ≤ K.bs) (h : mm_met l G d Y [.ref c] T M (mm_pv (fun T1 M1 => mm_wp l G (d + 1) K P n ls st T1 M1 u1 s1))) : mm_wp l G (d + 1) K P pc ls (.ref c :: st) T M uc us :=
  mm_callI (As := []) n hd hk hn rfl hw (by rw [h1, h2]; exact hu) (h.mono (fun v T1 M1 q => by
    rw [h1, h2]
    obtain ⟨e, q⟩ := q
    subst e
    exact q))

theorem mm_cI1 (n u1 s1 : Nat) {idx c : Nat} {a1 : Value} (hd : decode K.cc pc = .ok (.invokespecial idx, 3)) (hk : mm_lI K.nm.cls idx Y 1) (hn : pc + 3 = n) (hw : (st.map fun v => v.category).sum ≤ 8) (h1 : uc + Y.bc = u1) (h2 : us + Y.bs = s1) (hu : u1 ≤ K.bc ∧ s1 ≤ K.bs) (h : mm_met l G d Y [.ref c, a1] T M (mm_pv (fun T1 M1 => mm_wp l G (d + 1) K P n ls st T1 M1 u1 s1))) : mm_wp l G (d + 1) K P pc ls (a1 :: .ref c :: st) T M uc us :=
  mm_callI (As := [a1]) n hd hk hn rfl hw (by rw [h1, h2]; exact hu) (h.mono (fun v T1 M1 q => by
    rw [h1, h2]
    obtain ⟨e, q⟩ := q
    subst e
    exact q))

theorem mm_cI2 (n u1 s1 : Nat) {idx c : Nat} {a1 a2 : Value} (hd : decode K.cc pc = .ok (.invokespecial idx, 3)) (hk : mm_lI K.nm.cls idx Y 2) (hn : pc + 3 = n) (hw : (st.map fun v => v.category).sum ≤ 8) (h1 : uc + Y.bc = u1) (h2 : us + Y.bs = s1) (hu : u1 ≤ K.bc ∧ s1 ≤ K.bs) (h : mm_met l G d Y [.ref c, a1, a2] T M (mm_pv (fun T1 M1 => mm_wp l G (d + 1) K P n ls st T1 M1 u1 s1))) : mm_wp l G (d + 1) K P pc ls (a2 :: a1 :: .ref c :: st) T M uc us :=
  mm_callI (As := [a1, a2]) n hd hk hn rfl hw (by rw [h1, h2]; exact hu) (h.mono (fun v T1 M1 q => by
    rw [h1, h2]
    obtain ⟨e, q⟩ := q
    subst e
    exact q))

theorem mm_cI3 (n u1 s1 : Nat) {idx c : Nat} {a1 a2 a3 : Value} (hd : decode K.cc pc = .ok (.invokespecial idx, 3)) (hk : mm_lI K.nm.cls idx Y 3) (hn : pc + 3 = n) (hw : (st.map fun v => v.category).sum ≤ 8) (h1 : uc + Y.bc = u1) (h2 : us + Y.bs = s1) (hu : u1 ≤ K.bc ∧ s1 ≤ K.bs) (h : mm_met l G d Y [.ref c, a1, a2, a3] T M (mm_pv (fun T1 M1 => mm_wp l G (d + 1) K P n ls st T1 M1 u1 s1))) : mm_wp l G (d + 1) K P pc ls (a3 :: a2 :: a1 :: .ref c :: st) T M uc us :=
  mm_callI (As := [a1, a2, a3]) n hd hk hn rfl hw (by rw [h1, h2]; exact hu) (h.mono (fun v T1 M1 q => by
    rw [h1, h2]
    obtain ⟨e, q⟩ := q
    subst e
    exact q))

theorem mm_cI4 (n u1 s1 : Nat) {idx c : Nat} {a1 a2 a3 a4 : Value} (hd : decode K.cc pc = .ok (.invokespecial idx, 3)) (hk : mm_lI K.nm.cls idx Y 4) (hn : pc + 3 = n) (hw : (st.map fun v => v.category).sum ≤ 8) (h1 : uc + Y.bc = u1) (h2 : us + Y.bs = s1) (hu : u1 ≤ K.bc ∧ s1 ≤ K.bs) (h : mm_met l G d Y [.ref c, a1, a2, a3, a4] T M (mm_pv (fun T1 M1 => mm_wp l G (d + 1) K P n ls st T1 M1 u1 s1))) : mm_wp l G (d + 1) K P pc ls (a4 :: a3 :: a2 :: a1 :: .ref c :: st) T M uc us :=
  mm_callI (As := [a1, a2, a3, a4]) n hd hk hn rfl hw (by rw [h1, h2]; exact hu) (h.mono (fun v T1 M1 q => by
    rw [h1, h2]
    obtain ⟨e, q⟩ := q
    subst e
    exact q))

theorem mm_cIN0 (n u1 s1 : Nat) {idx c : Nat} {host : String} (hd : decode K.cc pc = .ok (.invokespecial idx, 3)) (hk : mm_lIN K.nm.cls idx Y 0 host) (hn : pc + 3 = n) (hw : (st.map fun v => v.category).sum ≤ 8) (h1 : uc + Y.bc = u1) (h2 : us + Y.bs = s1) (hu : u1 ≤ K.bc ∧ s1 ≤ K.bs) (h : mm_met l G d Y [.ref c] T M (mm_pv (fun T1 M1 => mm_wp l G (d + 1) K P n ls st T1 M1 u1 s1))) : mm_wp l G (d + 1) K P pc ls (.ref c :: st) T M uc us :=
  mm_callIN (As := []) n hd hk hn rfl hw (by rw [h1, h2]; exact hu) (h.mono (fun v T1 M1 q => by
    rw [h1, h2]
    obtain ⟨e, q⟩ := q
    subst e
    exact q))

theorem mm_cIN1 (n u1 s1 : Nat) {idx c : Nat} {host : String} {a1 : Value} (hd : decode K.cc pc = .ok (.invokespecial idx, 3)) (hk : mm_lIN K.nm.cls idx Y 1 host) (hn : pc + 3 = n) (hw : (st.map fun v => v.category).sum ≤ 8) (h1 : uc + Y.bc = u1) (h2 : us + Y.bs = s1) (hu : u1 ≤ K.bc ∧ s1 ≤ K.bs) (h : mm_met l G d Y [.ref c, a1] T M (mm_pv (fun T1 M1 => mm_wp l G (d + 1) K P n ls st T1 M1 u1 s1))) : mm_wp l G (d + 1) K P pc ls (a1 :: .ref c :: st) T M uc us :=
  mm_callIN (As := [a1]) n hd hk hn rfl hw (by rw [h1, h2]; exact hu) (h.mono (fun v T1 M1 q => by
    rw [h1, h2]
    obtain ⟨e, q⟩ := q
    subst e
    exact q))

theorem mm_cIN2 (n u1 s1 : Nat) {idx c : Nat} {host : String} {a1 a2 : Value} (hd : decode K.cc pc = .ok (.invokespecial idx, 3)) (hk : mm_lIN K.nm.cls idx Y 2 host) (hn : pc + 3 = n) (hw : (st.map fun v => v.category).sum ≤ 8) (h1 : uc + Y.bc = u1) (h2 : us + Y.bs = s1) (hu : u1 ≤ K.bc ∧ s1 ≤ K.bs) (h : mm_met l G d Y [.ref c, a1, a2] T M (mm_pv (fun T1 M1 => mm_wp l G (d + 1) K P n ls st T1 M1 u1 s1))) : mm_wp l G (d + 1) K P pc ls (a2 :: a1 :: .ref c :: st) T M uc us :=
  mm_callIN (As := [a1, a2]) n hd hk hn rfl hw (by rw [h1, h2]; exact hu) (h.mono (fun v T1 M1 q => by
    rw [h1, h2]
    obtain ⟨e, q⟩ := q
    subst e
    exact q))

theorem mm_cIN3 (n u1 s1 : Nat) {idx c : Nat} {host : String} {a1 a2 a3 : Value} (hd : decode K.cc pc = .ok (.invokespecial idx, 3)) (hk : mm_lIN K.nm.cls idx Y 3 host) (hn : pc + 3 = n) (hw : (st.map fun v => v.category).sum ≤ 8) (h1 : uc + Y.bc = u1) (h2 : us + Y.bs = s1) (hu : u1 ≤ K.bc ∧ s1 ≤ K.bs) (h : mm_met l G d Y [.ref c, a1, a2, a3] T M (mm_pv (fun T1 M1 => mm_wp l G (d + 1) K P n ls st T1 M1 u1 s1))) : mm_wp l G (d + 1) K P pc ls (a3 :: a2 :: a1 :: .ref c :: st) T M uc us :=
  mm_callIN (As := [a1, a2, a3]) n hd hk hn rfl hw (by rw [h1, h2]; exact hu) (h.mono (fun v T1 M1 q => by
    rw [h1, h2]
    obtain ⟨e, q⟩ := q
    subst e
    exact q))

theorem mm_cIN4 (n u1 s1 : Nat) {idx c : Nat} {host : String} {a1 a2 a3 a4 : Value} (hd : decode K.cc pc = .ok (.invokespecial idx, 3)) (hk : mm_lIN K.nm.cls idx Y 4 host) (hn : pc + 3 = n) (hw : (st.map fun v => v.category).sum ≤ 8) (h1 : uc + Y.bc = u1) (h2 : us + Y.bs = s1) (hu : u1 ≤ K.bc ∧ s1 ≤ K.bs) (h : mm_met l G d Y [.ref c, a1, a2, a3, a4] T M (mm_pv (fun T1 M1 => mm_wp l G (d + 1) K P n ls st T1 M1 u1 s1))) : mm_wp l G (d + 1) K P pc ls (a4 :: a3 :: a2 :: a1 :: .ref c :: st) T M uc us :=
  mm_callIN (As := [a1, a2, a3, a4]) n hd hk hn rfl hw (by rw [h1, h2]; exact hu) (h.mono (fun v T1 M1 q => by
    rw [h1, h2]
    obtain ⟨e, q⟩ := q
    subst e
    exact q))

end MT
