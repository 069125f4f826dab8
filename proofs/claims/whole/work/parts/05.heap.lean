theorem mm_size {p : Program} {l : Launch} {e : Env} {R : Room} {s : State} {m : MethodId} {args : Array Value} {below : List Frame} {meth : Method} {c : Code} {H : Heap} {locs : List Loc} {cells slots : Nat} {Q : State → Prop} {g : JFrame} (k : H.size ≤ s.heap.size + cells → W p l e R s m args below meth c H locs cells slots Q g) : W p l e R s m args below meth c H locs cells slots Q g :=
  fun T hT X => k (by rw [← hT]; exact X.same.2.2.1) T hT X
/-- a field by a link: class ci, its name B, table F of N, field f -/
def mm_fl (own : String) (idx ci : Nat) (B : String) (F : u_T) (N f : Nat) : Prop := vwCl[ci]? = some (B, F, N) ∧ ci < 13 ∧ f < N ∧ Cond.fieldLink own idx (F f).1 (F f).2.1 (F f).2.2.1 ∈ mm_tb ∧ ∀ w ∈ u_ws B F N, w ∈ mm_tb
def mm_fp (own : String) (idx ci : Nat) (B : String) (F : u_T) (N f : Nat) (ty : Nat → FieldType) : Prop := mm_fl own idx ci B F N f ∧ (∀ k, k < N → parseFieldDescriptor (F k).2.2.1 = some (ty k)) ∧ (∀ a, a < N → ∀ b, b < N → a ≠ b → (F a).2.1 ≠ (F b).2.1)
section MH
variable {l : Launch} {G : mm_G} {d : Nat} {K : mm_R} {P : mm_P} {pc : Nat} {ls st : List Value} {T : mm_T} {M : mm_M} {uc us : Nat}
theorem mm_getI (n : Nat) {idx ci len f c N : Nat} {B : String} {F : u_T} {rs : List (Option (Option Nat))} (hd : decode K.cc pc = .ok (.getfield idx, 3)) (hf : mm_fl K.nm.cls idx ci B F N f) (hn : pc + 3 = n) (hT : T[c]? = some (ci, len, rs)) (hr : rs[f]? = some none) (k : mm_wp l G d K P n ls (.int (M c f) :: st) T M uc us) : mm_wp l G d K P pc ls (.ref c :: st) T M uc us := by
  subst hn
  intro p e R s m args below meth c0 Q C H locs lsm hH hS hl hz
  obtain ⟨h1, h2, h3, h4, h5⟩ := hf
  exact va_get (D := G.dd) (ci := ci) (v := .int (M c f)) (C := B) (T := F) (N := N) C.1.1 C.1.2.1 C.1.2.2.2.2 h5 C.1.2.2.2.1 C.2.2.2.1.1 hH c (by rw [mm_ws_get hT, mm_e_O _ _ h2]) h1 f h3 (C.1.2.2.2.2 _ h4) (fun _ h => h) (mm_fs_int hr) hd (k p e R s m args below meth c0 Q C H locs lsm hH hS hl hz)
theorem mm_getR (n : Nat) {idx ci len f c r N : Nat} {B : String} {F : u_T} {rs : List (Option (Option Nat))} (hd : decode K.cc pc = .ok (.getfield idx, 3)) (hf : mm_fl K.nm.cls idx ci B F N f) (hn : pc + 3 = n) (hT : T[c]? = some (ci, len, rs)) (hr : rs[f]? = some (some (some r))) (k : mm_wp l G d K P n ls (.ref r :: st) T M uc us) : mm_wp l G d K P pc ls (.ref c :: st) T M uc us := by
  subst hn
  intro p e R s m args below meth c0 Q C H locs lsm hH hS hl hz
  obtain ⟨h1, h2, h3, h4, h5⟩ := hf
  exact va_get (D := G.dd) (ci := ci) (v := .ref (G.ba + r)) (C := B) (T := F) (N := N) C.1.1 C.1.2.1 C.1.2.2.2.2 h5 C.1.2.2.2.1 C.2.2.2.1.1 hH c (by rw [mm_ws_get hT, mm_e_O _ _ h2]) h1 f h3 (C.1.2.2.2.2 _ h4) (fun _ h => h) (mm_fs_ref hr) hd (k p e R s m args below meth c0 Q C H locs lsm hH hS hl hz)
theorem mm_putI (n : Nat) {idx ci len f c N : Nat} {B : String} {F : u_T} {ty : Nat → FieldType} {rs : List (Option (Option Nat))} {x : Int32} (hd : decode K.cc pc = .ok (.putfield idx, 3)) (hf : mm_fp K.nm.cls idx ci B F N f ty) (hi : (F f).2.2.2 = false ∧ ty f = .int) (hn : pc + 3 = n) (hT : T[c]? = some (ci, len, rs)) (hr : rs[f]? = some none) (k : mm_wp l G d K P n ls st T (mm_up M c f x) uc us) : mm_wp l G d K P pc ls (.int x :: .ref c :: st) T M uc us := by
  subst hn
  intro p e R s m args below meth c0 Q C H locs lsm hH hS hl hz
  obtain ⟨⟨h1, h2, h3, h4, h5⟩, h6, h7⟩ := hf
  have he : (mm_ws G.ba G.cy T M)[c]? = some (G.ba + c, .inr (ci, mm_fs G.ba (M c) rs)) := by rw [mm_ws_get hT, mm_e_O _ _ h2]
  refine va_put (D := G.dd) (ci := ci) (v := .int x) (ty := .int) (C := B) (T := F) (N := N) C.1.1 C.1.2.1 C.1.2.2.2.2 h5 ty h6 h7 C.1.2.2.2.1 C.2.2.2.1.1 hH mm_hD hS c he h1 f h3 (C.1.2.2.2.2 _ h4) (fun _ h => h) hi.1 (by rw [h6 f h3, hi.2]) rfl rfl (by rw [mm_fs_len]; exact (List.getElem?_eq_some_iff.mp hr).1) hd (fun H1 locs1 hP1 hD1 hS1 => ?_)
  refine k p e R s m args below meth c0 Q C H1 locs1 lsm ?_ hS1 hl hz
  rw [mm_fs_setI hr, ← mm_e_O G.ba G.cy h2 len, mm_ws_put hT] at hP1
  exact hP1
theorem mm_putR (n : Nat) {idx ci len f c r N : Nat} {B : String} {F : u_T} {ty : Nat → FieldType} {rs : List (Option (Option Nat))} (hd : decode K.cc pc = .ok (.putfield idx, 3)) (hf : mm_fp K.nm.cls idx ci B F N f ty) (hi : (F f).2.2.2 = true ∧ (F f).1 = K.nm.cls ∧ narrow (ty f) (.ref 0) = .ref 0 ∧ fits (ty f) (.ref 0) = true ∧ K.nm.name = "<init>") (hn : pc + 3 = n) (hT : T[c]? = some (ci, len, rs)) (hr : f < rs.length) (k : mm_wp l G d K P n ls st (T.set c (ci, len, rs.set f (some (some r)))) M uc us) : mm_wp l G d K P pc ls (.ref r :: .ref c :: st) T M uc us := by
  subst hn
  intro p e R s m args below meth c0 Q C H locs lsm hH hS hl hz
  obtain ⟨⟨h1, h2, h3, h4, h5⟩, h6, h7⟩ := hf
  obtain ⟨i1, i2, i3, i4, i5⟩ := hi
  have he : (mm_ws G.ba G.cy T M)[c]? = some (G.ba + c, .inr (ci, mm_fs G.ba (M c) rs)) := by rw [mm_ws_get hT, mm_e_O _ _ h2]
  refine va_putF (D := G.dd) (ci := ci) (v := .ref (G.ba + r)) (ty := ty f) (C := B) (T := F) (N := N) C.1.1 C.1.2.1 C.1.2.2.2.2 h5 ty h6 h7 C.1.2.2.2.1 C.2.2.2.1.1 hH mm_hD hS c he h1 f h3 (C.1.2.2.2.2 _ h4) (fun _ h => h) i1 (by rw [C.2.1]; exact i5) i2 (h6 f h3) ?_ ?_ (by rw [mm_fs_len]; exact hr) hd (fun H1 locs1 hP1 hD1 hS1 => ?_)
  · revert i3 i4; cases ty f <;> intro i3 i4 <;> first | rfl | cases i4
  · revert i3 i4; cases ty f <;> intro i3 i4 <;> first | rfl | cases i4
  refine k p e R s m args below meth c0 Q C H1 locs1 lsm ?_ hS1 hl (by rw [List.length_set]; exact hz)
  rw [mm_fs_setR hr, ← mm_e_O G.ba G.cy h2 len, mm_ws_ref hT] at hP1
  exact hP1
theorem mm_iaload (n : Nat) {len c : Nat} {rs : List (Option (Option Nat))} {i : Int32} (hd : decode K.cc pc = .ok (.iaload, 1)) (hn : pc + 1 = n) (hT : T[c]? = some (13, len, rs)) (hi : vp_in i len) (k : mm_wp l G d K P n ls (.int (M c i.toNatClampNeg) :: st) T M uc us) : mm_wp l G d K P pc ls (.int i :: .ref c :: st) T M uc us := by
  subst hn
  intro p e R s m args below meth c0 Q C H locs lsm hH hS hl hz
  exact va_iald C.1.1 C.1.2.1 C.2.2.2.1.1 hH c 0 (mm_ws_get hT) rfl hi hd (k p e R s m args below meth c0 Q C H locs lsm hH hS hl hz)
theorem mm_baload (n : Nat) {len c : Nat} {rs : List (Option (Option Nat))} {i : Int32} (hd : decode K.cc pc = .ok (.baload, 1)) (hn : pc + 1 = n) (hT : T[c]? = some (14, len, rs)) (hi : vp_in i len) (k : mm_wp l G d K P n ls (.int (M c i.toNatClampNeg) :: st) T M uc us) : mm_wp l G d K P pc ls (.int i :: .ref c :: st) T M uc us := by
  subst hn
  intro p e R s m args below meth c0 Q C H locs lsm hH hS hl hz
  exact va_zald C.1.1 C.1.2.1 C.2.2.2.1.1 hH c 1 (mm_ws_get hT) rfl hi hd (k p e R s m args below meth c0 Q C H locs lsm hH hS hl hz)
theorem mm_iastore (n : Nat) {len c : Nat} {rs : List (Option (Option Nat))} {i x : Int32} (hd : decode K.cc pc = .ok (.iastore, 1)) (hn : pc + 1 = n) (hT : T[c]? = some (13, len, rs)) (hi : vp_in i len) (k : mm_wp l G d K P n ls st T (mm_up M c i.toNatClampNeg x) uc us) : mm_wp l G d K P pc ls (.int x :: .int i :: .ref c :: st) T M uc us := by
  subst hn
  intro p e R s m args below meth c0 Q C H locs lsm hH hS hl hz
  refine va_iast C.1.1 C.1.2.1 C.2.2.2.1.1 hH mm_hD hS c 0 (mm_ws_get hT) rfl hi hd (fun H1 locs1 hP1 hD1 hS1 => ?_)
  refine k p e R s m args below meth c0 Q C H1 locs1 lsm ?_ hS1 hl hz
  rw [← mm_e_I G.ba G.cy len rs, mm_ws_put hT] at hP1
  exact hP1
theorem mm_bastore (n : Nat) {len c : Nat} {rs : List (Option (Option Nat))} {i x : Int32} (hd : decode K.cc pc = .ok (.bastore, 1)) (hn : pc + 1 = n) (hT : T[c]? = some (14, len, rs)) (hi : vp_in i len) (hx : vp_nar .boolean x = x) (k : mm_wp l G d K P n ls st T (mm_up M c i.toNatClampNeg x) uc us) : mm_wp l G d K P pc ls (.int x :: .int i :: .ref c :: st) T M uc us := by
  subst hn
  intro p e R s m args below meth c0 Q C H locs lsm hH hS hl hz
  refine va_zast C.1.1 C.1.2.1 C.2.2.2.1.1 hH mm_hD hS c 1 (mm_ws_get hT) rfl hi hd (fun H1 locs1 hP1 hD1 hS1 => ?_)
  refine k p e R s m args below meth c0 Q C H1 locs1 lsm ?_ hS1 hl hz
  rw [hx, ← mm_e_Z G.ba G.cy len rs, mm_ws_put hT] at hP1
  exact hP1
theorem mm_alenI (n : Nat) {len c : Nat} {rs : List (Option (Option Nat))} (hd : decode K.cc pc = .ok (.arraylength, 1)) (hn : pc + 1 = n) (hT : T[c]? = some (13, len, rs)) (k : mm_wp l G d K P n ls (.int (nI len) :: st) T M uc us) : mm_wp l G d K P pc ls (.ref c :: st) T M uc us := by
  subst hn
  intro p e R s m args below meth c0 Q C H locs lsm hH hS hl hz
  exact va_alen C.1.1 C.1.2.1 C.2.2.2.1.1 hH c 0 (mm_ws_get hT) rfl rfl hd (k p e R s m args below meth c0 Q C H locs lsm hH hS hl hz)
theorem mm_aaload (n : Nat) {len c r : Nat} {rs : List (Option (Option Nat))} {i : Int32} (hd : decode K.cc pc = .ok (.aaload, 1)) (hn : pc + 1 = n) (hT : T[c]? = some (15, len, rs)) (hi : vp_in i len) (hr : rs[i.toNatClampNeg]? = some (some (some r))) (k : mm_wp l G d K P n ls (.ref r :: st) T M uc us) : mm_wp l G d K P pc ls (.int i :: .ref c :: st) T M uc us := by
  subst hn
  intro p e R s m args below meth c0 Q C H locs lsm hH hS hl hz
  refine va_aldq (C := "MarriedMap$Sheet") C.1.1 C.1.2.1 C.2.2.2.1.1 hH c 2 (mm_ws_get hT) rfl hi hd ?_
  have e1 : va_rf (mm_rw G.ba rs i.toNatClampNeg) = .ref (G.ba + r) := by simp [mm_rw, hr, va_rf]
  show W p l e R s m args below meth c0 H locs uc us Q (F0 m (pc + 1) lsm (va_rf (mm_rw G.ba rs i.toNatClampNeg) :: _))
  rw [e1]
  exact k p e R s m args below meth c0 Q C H locs lsm hH hS hl hz
theorem mm_rw_set {ba i r : Nat} {rs : List (Option (Option Nat))} (hi : i < rs.length) : va_up (mm_rw ba rs) i (some (ba + r)) = mm_rw ba (rs.set i (some (some r))) := by
  funext j
  by_cases h : j = i
  · subst h; simp [va_up, mm_rw, hi]
  · simp [va_up, mm_rw, h, List.getElem?_set_ne (Ne.symm h)]
theorem mm_aastore (n : Nat) {len len2 c r : Nat} {rs rs2 : List (Option (Option Nat))} {i : Int32} (hd : decode K.cc pc = .ok (.aastore, 1)) (hn : pc + 1 = n) (hT : T[c]? = some (15, len, rs)) (hr : T[r]? = some (5, len2, rs2)) (hi : vp_in i len) (hl2 : rs.length = len) (k : mm_wp l G d K P n ls st (T.set c (15, len, rs.set i.toNatClampNeg (some (some r)))) M uc us) : mm_wp l G d K P pc ls (.ref r :: .int i :: .ref c :: st) T M uc us := by
  subst hn
  intro p e R s m args below meth c0 Q C H locs lsm hH hS hl hz
  have hlt : i.toNatClampNeg < len := Nat.not_le.mp fun q => hi (Or.inr q)
  refine va_astq (r := (RX5, TX5, 3)) C.1.1 C.1.2.1 C.2.2.2.1.1 hH mm_hD hS c 2 r 5 (mm_ws_get hT) rfl (by rw [mm_ws_get hr, mm_e_O _ _ (by decide)]) rfl hi hd (fun H1 locs1 hP1 hD1 hS1 => ?_)
  refine k p e R s m args below meth c0 Q C H1 locs1 lsm ?_ hS1 hl (by rw [List.length_set]; exact hz)
  rw [mm_rw_set (rs := rs) (by omega), ← mm_e_Q G.ba G.cy len _ (M c), mm_ws_ref hT] at hP1
  exact hP1
theorem mm_sload (n : Nat) {z : UInt32} {i : Int32} (hd : decode K.cc pc = .ok (.iaload, 1)) (hn : pc + 1 = n) (hi : vp_in i G.len) (k : mm_wp l G d K P n ls (.int (G.xs i.toNatClampNeg) :: st) T M uc us) : mm_wp l G d K P pc ls (.int i :: .float z :: st) T M uc us := by
  subst hn
  intro p e R s m args below meth c0 Q C H locs lsm hH hS hl hz
  have hU := C.2.2.2.1
  exact va_sld C.1.1 C.1.2.1 hU.2.1 (Nat.lt_of_lt_of_le hU.2.2.1 hU.2.2.2.1) (Nat.not_le.mpr hU.2.2.1) hS hi hd (k p e R s m args below meth c0 Q C H locs lsm hH hS hl hz)
theorem mm_slen (n : Nat) {z : UInt32} (hd : decode K.cc pc = .ok (.arraylength, 1)) (hn : pc + 1 = n) (k : mm_wp l G d K P n ls (.int (nI G.len) :: st) T M uc us) : mm_wp l G d K P pc ls (.float z :: st) T M uc us := by
  subst hn
  intro p e R s m args below meth c0 Q C H locs lsm hH hS hl hz
  have hU := C.2.2.2.1
  exact va_slen C.1.1 C.1.2.1 hU.2.1 (Nat.lt_of_lt_of_le hU.2.2.1 hU.2.2.2.1) (Nat.not_le.mpr hU.2.2.1) hS hd (k p e R s m args below meth c0 Q C H locs lsm hH hS hl hz)
/-! new cells -/
theorem mm_addr {G : mm_G} {T : mm_T} {M : mm_M} {H1 : Heap} {q z : Nat} {E : va_E} (hP : va_P G.dd vwCl (mm_ws G.ba G.cy T M ++ [(q, E)]) H1) (hD : va_D (mm_A G) (mm_ws G.ba G.cy T M ++ [(q, E)])) (hz : H1.size ≤ G.ba + T.length + 1) : q = G.ba + T.length := by
  have h0 : (mm_ws G.ba G.cy T M ++ [(q, E)])[T.length]? = some (q, E) := by rw [List.getElem?_append_right (by rw [mm_ws_len]; exact Nat.le_refl _)]; simp [mm_ws_len]
  have h1 : q < H1.size := (hP T.length _ h0).lt
  have h2 : G.ba ≤ q := hD.2 T.length _ h0
  by_cases h3 : q = G.ba + T.length
  · exact h3
  · exfalso
    have h4 : q - G.ba < T.length := by omega
    obtain ⟨x, hx⟩ : ∃ x, T[q - G.ba]? = some x := ⟨_, List.getElem?_eq_getElem h4⟩
    have h5 : (mm_ws G.ba G.cy T M ++ [(q, E)])[q - G.ba]? = some (G.ba + (q - G.ba), mm_e G.ba G.cy x (M (q - G.ba))) := by rw [List.getElem?_append_left (by rw [mm_ws_len]; exact h4), mm_ws_get hx]
    have := hD.1 (q - G.ba) T.length _ _ h5 h0 (by show G.ba + (q - G.ba) = q; omega)
    omega
def mm_nw (own : String) (idx ci : Nat) (B : String) (F : u_T) (N : Nat) (ty : Nat → FieldType) (rs : List (Option (Option Nat))) : Prop := vwCl[ci]? = some (B, F, N) ∧ ci < 13 ∧ Cond.classLink own idx B ∈ mm_tb ∧ Cond.instantiable B N ∈ mm_tb ∧ Cond.initialized B ∈ mm_tb ∧ (∀ w ∈ u_ws B F N, w ∈ mm_tb) ∧ (∀ k, k < N → parseFieldDescriptor (F k).2.2.1 = some (ty k)) ∧ (∀ j, j < N → defaultValue (ty j) = mm_dv rs[j]?) ∧ rs.all (fun x => x == none || x == some none) = true
theorem mm_new (n : Nat) {idx ci N : Nat} {B : String} {F : u_T} {ty : Nat → FieldType} {rs : List (Option (Option Nat))} (hd : decode K.cc pc = .ok (.new idx, 3)) (hf : mm_nw K.nm.cls idx ci B F N ty rs) (hn : pc + 3 = n) (hc : uc + 1 ≤ K.bc) (hs : us + N ≤ K.bs) (k : mm_wp l G d K P n ls (.ref T.length :: st) (T ++ [(ci, 0, rs)]) (va_up M T.length (fun _ => 0)) (uc + 1) (us + N)) : mm_wp l G d K P pc ls st T M uc us := by
  subst hn
  intro p e R s m args below meth c0 Q C H locs lsm hH hS hl hz
  obtain ⟨h1, h2, h3, h4, h5, h6, h7, h8, h9⟩ := hf
  have hU := C.2.2.2.1
  have hR := C.2.2.1
  have hrs : ∀ f : Nat, ∀ x, rs[f]? = some x → x = none ∨ x = some none := by
    intro f x hx
    have := List.all_eq_true.mp h9 x (List.mem_of_getElem? hx)
    simpa using this
  refine va_new (D := G.dd) (ci := ci) (fs := mm_fs G.ba (fun _ => 0) rs) (C := B) (T := F) (N := N) C.1.1 C.1.2.1 C.1.2.2.2.2 h6 ty h7 C.1.2.2.2.1 (C.1.2.2.2.2 _ h3) (C.1.2.2.2.2 _ h4) (C.1.2.2.2.2 _ h5) hU.1 hH mm_hD hS (fun q hq => Nat.le_trans hU.2.2.2.1 hq) h1 (fun j hj => by rw [mm_fs_new hrs, h8 j hj]) (Nat.le_trans hc hR.2.2.1) (Nat.le_trans hs hR.2.2.2) hd (fun q H1 hP1 hD1 hS1 => ?_)
  refine mm_size fun hsz => ?_
  have hq := mm_addr (z := 0) hP1 hD1 (by omega)
  subst hq
  refine k p e R s m args below meth c0 Q C H1 locs lsm ?_ hS1 hl (by rw [List.length_append, List.length_singleton]; omega)
  rw [← mm_e_O G.ba G.cy h2 0, mm_ws_push] at hP1
  exact hP1
theorem mm_newI (n : Nat) (N : Nat) {x : Int32} (hd : decode K.cc pc = .ok (.newarray .int, 2)) (hn : pc + 2 = n) (h0 : ¬ x < 0) (hx : x.toNatClampNeg = N) (hb : N * 4 ≤ 536870912) (hc : uc + 1 ≤ K.bc) (hs : us + N ≤ K.bs) (hw : Cond.arrayClass .int ∈ mm_tb) (k : mm_wp l G d K P n ls (.ref T.length :: st) (T ++ [(13, N, [])]) (va_up M T.length (fun _ => 0)) (uc + 1) (us + N)) : mm_wp l G d K P pc ls (.int x :: st) T M uc us := by
  subst hn
  intro p e R s m args below meth c0 Q C H locs lsm hH hS hl hz
  have hU := C.2.2.2.1
  have hR := C.2.2.1
  refine va_newa (atype := .int) (ty := .int) (a0 := (N, .inl (fun _ => 0))) C.1.1 C.1.2.1 (C.1.2.2.2.2 _ hw) rfl hU.1 hH mm_hD hS (fun q hq => Nat.le_trans hU.2.2.2.1 hq) (fun cA => rfl) h0 hx hb (Nat.le_trans hc hR.2.2.1) (Nat.le_trans hs hR.2.2.2) hd (fun q cA H1 hK1 hP1 hD1 hS1 => ?_)
  refine mm_size fun hsz => ?_
  have hq := mm_addr (z := 0) hP1 hD1 (by omega)
  subst hq
  have e1 : s.vm.findClass ("[" ++ FieldType.int.toString) = some cA := (hK1.2 3 (cA, .int) rfl).2
  have e2 : s.vm.findClass ("[" ++ FieldType.int.toString) = some (G.cy 0) := (hU.1.2 0 _ rfl).2
  have e3 : cA = G.cy 0 := Option.some.inj (e1.symm.trans e2)
  subst e3
  refine k p e R s m args below meth c0 Q C H1 locs lsm ?_ hS1 hl (by rw [List.length_append, List.length_singleton]; omega)
  rw [← mm_e_I G.ba G.cy N [], mm_ws_push] at hP1
  exact hP1
theorem mm_newZ (n : Nat) (N : Nat) {x : Int32} (hd : decode K.cc pc = .ok (.newarray .boolean, 2)) (hn : pc + 2 = n) (h0 : ¬ x < 0) (hx : x.toNatClampNeg = N) (hb : N ≤ 536870912) (hc : uc + 1 ≤ K.bc) (hs : us + N ≤ K.bs) (hw : Cond.arrayClass .boolean ∈ mm_tb) (k : mm_wp l G d K P n ls (.ref T.length :: st) (T ++ [(14, N, [])]) (va_up M T.length (fun _ => 0)) (uc + 1) (us + N)) : mm_wp l G d K P pc ls (.int x :: st) T M uc us := by
  subst hn
  intro p e R s m args below meth c0 Q C H locs lsm hH hS hl hz
  have hU := C.2.2.2.1
  have hR := C.2.2.1
  refine va_newa (atype := .boolean) (ty := .boolean) (a0 := (N, .inl (fun _ => 0))) C.1.1 C.1.2.1 (C.1.2.2.2.2 _ hw) rfl hU.1 hH mm_hD hS (fun q hq => Nat.le_trans hU.2.2.2.1 hq) (fun cA => rfl) h0 hx (by simpa [componentBytes] using hb) (Nat.le_trans hc hR.2.2.1) (Nat.le_trans hs hR.2.2.2) hd (fun q cA H1 hK1 hP1 hD1 hS1 => ?_)
  refine mm_size fun hsz => ?_
  have hq := mm_addr (z := 0) hP1 hD1 (by omega)
  subst hq
  have e1 : s.vm.findClass ("[" ++ FieldType.boolean.toString) = some cA := (hK1.2 3 (cA, .boolean) rfl).2
  have e2 : s.vm.findClass ("[" ++ FieldType.boolean.toString) = some (G.cy 1) := (hU.1.2 1 _ rfl).2
  have e3 : cA = G.cy 1 := Option.some.inj (e1.symm.trans e2)
  subst e3
  refine k p e R s m args below meth c0 Q C H1 locs lsm ?_ hS1 hl (by rw [List.length_append, List.length_singleton]; omega)
  rw [← mm_e_Z G.ba G.cy N [], mm_ws_push] at hP1
  exact hP1
theorem mm_newQ (n : Nat) (N : Nat) {idx : Nat} {x : Int32} (hd : decode K.cc pc = .ok (.anewarray idx, 3)) (hn : pc + 3 = n) (h0 : ¬ x < 0) (hx : x.toNatClampNeg = N) (hb : N * 4 ≤ 536870912) (hc : uc + 1 ≤ K.bc) (hs : us + N ≤ K.bs) (hw : Cond.classLink K.nm.cls idx "MarriedMap$Sheet" ∈ mm_tb) (k : mm_wp l G d K P n ls (.ref T.length :: st) (T ++ [(15, N, List.replicate N (some none))]) (va_up M T.length (fun _ => 0)) (uc + 1) (us + N)) : mm_wp l G d K P pc ls (.int x :: st) T M uc us := by
  subst hn
  intro p e R s m args below meth c0 Q C H locs lsm hH hS hl hz
  have hU := C.2.2.2.1
  have hR := C.2.2.1
  refine va_newq (C := "MarriedMap$Sheet") C.1.1 C.1.2.1 C.1.2.2.2.1 (C.1.2.2.2.2 _ hw) hU.2.2.2.2.1 hU.1 hH mm_hD hS (fun q hq => Nat.le_trans hU.2.2.2.1 hq) h0 hx hb (Nat.le_trans hc hR.2.2.1) (Nat.le_trans hs hR.2.2.2) hd (fun q cA H1 hK1 hP1 hD1 hS1 => ?_)
  refine mm_size fun hsz => ?_
  have hq := mm_addr (z := 0) hP1 hD1 (by omega)
  subst hq
  obtain ⟨_, _, _, _, _, e1⟩ := (hK1.2 3 (cA, .object "MarriedMap$Sheet") rfl).2
  obtain ⟨_, _, _, _, _, e2⟩ := (hU.1.2 2 _ rfl).2
  have e3 : cA = G.cy 2 := Option.some.inj (e1.symm.trans e2)
  subst e3
  refine k p e R s m args below meth c0 Q C H1 locs lsm ?_ hS1 hl (by rw [List.length_append, List.length_singleton]; omega)
  have e4 : (fun _ : Nat => (none : Option Nat)) = mm_rw G.ba (List.replicate N (some none)) := by
    funext j
    by_cases hj : j < N
    · simp [mm_rw, List.getElem?_replicate, hj]
    · simp [mm_rw, List.getElem?_replicate, hj]
  rw [e4, ← mm_e_Q G.ba G.cy N _ (fun _ => 0), mm_ws_push] at hP1
  exact hP1
end MH
