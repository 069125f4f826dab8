/-! The judgement. mm_R: a method (its name, code, locals, answer's type, how many cells and slots it makes). mm_wp: from here the method comes to its end with P; mm_met: a call of it does. -/
abbrev mm_P : Type := Option Value → mm_T → mm_M → Prop
abbrev mm_R : Type := MethodName × ByteArray × Nat × Option FieldType × Nat × Nat
abbrev mm_R.nm (K : mm_R) : MethodName := K.1
abbrev mm_R.cc (K : mm_R) : ByteArray := K.2.1
abbrev mm_R.ml (K : mm_R) : Nat := K.2.2.1
abbrev mm_R.rt (K : mm_R) : Option FieldType := K.2.2.2.1
abbrev mm_R.bc (K : mm_R) : Nat := K.2.2.2.2.1
abbrev mm_R.bs (K : mm_R) : Nat := K.2.2.2.2.2
def mm_rt (ret : Option FieldType) (cc : ByteArray) (pc : Nat) : Option Value → Prop
  | none => ret = none ∧ decode cc pc = .ok (.return_, 1)
  | some (.int x) => ∃ ty, ret = some ty ∧ narrow ty (.int x) = .int x ∧ decode cc pc = .ok (.ireturn, 1)
  | some (.long _) => ret = some .long ∧ decode cc pc = .ok (.lreturn, 1)
  | some (.ref _) => (∃ n, ret = some (.object n)) ∧ decode cc pc = .ok (.areturn, 1)
  | some .null => (∃ n, ret = some (.object n)) ∧ decode cc pc = .ok (.areturn, 1)
  | _ => False
def mm_C (l : Launch) (G : mm_G) (d : Nat) (K : mm_R) (P : mm_P) (p : Program) (e : Env) (R : Room) (s : State) (m : MethodId) (args : Array Value) (below : List Frame) (meth : Method) (c : Code) (Q : State → Prop) : Prop :=
  CallFix p m c K.cc K.ml s args mm_tb K.nm.cls ∧ meth.name = K.nm.name ∧ (d ≤ R.frames ∧ 40 * d ≤ R.locals ∧ K.bc ≤ R.cells ∧ K.bs ≤ R.slots) ∧ mm_U G s ∧
  (∀ (v : Option Value) (T : mm_T) (M : mm_M) (H : Heap) (locs : List Loc) (ls : Array Slot) (pc : Nat), P v T M → mm_H G T M H → va_S (mm_A G) s.heap H locs → s.heap.size + K.bc = G.ba + T.length → mm_rt K.rt K.cc pc v → W p l e R s m args below meth c H locs K.bc K.bs Q (F0 m pc ls ((v.map (mm_v G.ba G.bb)).toList)))
def mm_kn : Value → Bool
  | .double _ => false
  | _ => true
def mm_nl : Value → Bool
  | .long _ => false
  | _ => true
def mm_al (ba bb : Nat) (ls : List Value) : List (Nat × Value) := (ls.zipIdx.filter (fun q => mm_kn q.1)).map (fun q => (q.2, mm_v ba bb q.1))
theorem mm_al_mem {ba bb : Nat} {ls : List Value} {i : Nat} {v : Value} (h : ls[i]? = some v) (hk : mm_kn v = true) : (i, mm_v ba bb v) ∈ mm_al ba bb ls := by
  refine List.mem_map.mpr ⟨(v, i), List.mem_filter.mpr ⟨?_, hk⟩, rfl⟩
  exact List.mem_of_getElem? (i := i) (by rw [List.getElem?_zipIdx, h]; simp)
theorem mm_al_of {ba bb : Nat} {ls : List Value} {q : Nat × Value} (h : q ∈ mm_al ba bb ls) : ∃ v, ls[q.1]? = some v ∧ mm_kn v = true ∧ q.2 = mm_v ba bb v := by
  obtain ⟨⟨v, i⟩, h1, rfl⟩ := List.mem_map.mp h
  obtain ⟨h2, h3⟩ := List.mem_filter.mp h1
  obtain ⟨j, hj⟩ := List.mem_iff_getElem?.mp h2
  rw [List.getElem?_zipIdx] at hj
  cases hv : ls[j]? with
  | none => rw [hv] at hj; simp at hj
  | some w =>
    rw [hv] at hj
    simp at hj
    obtain ⟨rfl, rfl⟩ := hj
    exact ⟨w, hv, h3, rfl⟩
def mm_ls (G : mm_G) (n : Nat) (ls : List Value) (lsm : Array Slot) : Prop := ls.length = n ∧ lv_has lsm n (mm_al G.ba G.bb ls)
theorem mm_ls.at {G : mm_G} {n : Nat} {ls : List Value} {lsm : Array Slot} (h : mm_ls G n ls lsm) {i : Nat} {v : Value} (hi : ls[i]? = some v) (hk : mm_kn v = true) : lsm[i]? = some (.val (mm_v G.ba G.bb v)) := h.2.2.2 (i, mm_v G.ba G.bb v) (mm_al_mem hi hk)
def mm_np (ls : List Value) : Nat → Bool
  | 0 => true
  | j + 1 => match ls[j]? with
    | some v => mm_nl v
    | none => true
theorem mm_ls_st1 {G : mm_G} {n : Nat} {ls : List Value} {lsm' : Array Slot} {i : Nat} {v : Value} (hn : ls.length = n) (hp : mm_np ls i = true)
    (h : lv_has lsm' n ((i, mm_v G.ba G.bb v) :: (mm_al G.ba G.bb ls).filter (fun q => !(q.1 == i) && !(q.1 + 1 == i && q.2.category == 2)))) : mm_ls G n (ls.set i v) lsm' := by
  refine ⟨by rw [List.length_set]; exact hn, h.1, h.2.1, fun q hq => ?_⟩
  obtain ⟨w, h1, h2, h3⟩ := mm_al_of hq
  obtain ⟨j, x⟩ := q
  simp only at h1 h3
  subst h3
  by_cases hj : j = i
  · subst hj
    have hl : j < ls.length := by
      have := (List.getElem?_eq_some_iff.mp h1).1
      simpa using this
    rw [List.getElem?_set_self hl] at h1
    cases h1
    exact h.2.2 _ List.mem_cons_self
  · rw [List.getElem?_set_ne (Ne.symm hj)] at h1
    refine h.2.2 _ (List.mem_cons_of_mem _ (List.mem_filter.mpr ⟨mm_al_mem h1 h2, ?_⟩))
    have e1 : (j == i) = false := by simpa using hj
    by_cases hji : j + 1 = i
    · subst hji
      have hq2 : mm_nl w = true := by
        have hp' : (match ls[j]? with | some v => mm_nl v | none => true) = true := hp
        rw [h1] at hp'
        exact hp'
      have hc : w.category = 1 := by cases w <;> simp_all [mm_nl, mm_kn, Value.category]
      simp [mm_v_cat, hc]
    · have e2 : (j + 1 == i) = false := by simpa using hji
      simp [e1, e2]
theorem mm_ls_st2 {G : mm_G} {n : Nat} {ls : List Value} {lsm' : Array Slot} {i : Nat} {x : Int64} {z : UInt64} (hn : ls.length = n) (hp : mm_np ls i = true)
    (h : lv_has lsm' n ((i, Value.long x) :: (mm_al G.ba G.bb ls).filter (fun q => !(q.1 == i) && (!(q.1 == i + 1) && !(q.1 + 1 == i && q.2.category == 2))))) : mm_ls G n ((ls.set i (.long x)).set (i + 1) (.double z)) lsm' := by
  refine ⟨by rw [List.length_set, List.length_set]; exact hn, h.1, h.2.1, fun q hq => ?_⟩
  obtain ⟨w, h1, h2, h3⟩ := mm_al_of hq
  obtain ⟨j, y⟩ := q
  simp only at h1 h3
  subst h3
  have hj1 : j ≠ i + 1 := by
    intro e
    subst e
    have hl : i + 1 < (ls.set i (.long x)).length := by
      have := (List.getElem?_eq_some_iff.mp h1).1
      simpa using this
    rw [List.getElem?_set_self hl] at h1
    cases h1
    cases h2
  rw [List.getElem?_set_ne (Ne.symm hj1)] at h1
  by_cases hj : j = i
  · subst hj
    have hl : j < ls.length := by
      have := (List.getElem?_eq_some_iff.mp h1).1
      simpa using this
    rw [List.getElem?_set_self hl] at h1
    cases h1
    exact h.2.2 _ List.mem_cons_self
  · rw [List.getElem?_set_ne (Ne.symm hj)] at h1
    refine h.2.2 _ (List.mem_cons_of_mem _ (List.mem_filter.mpr ⟨mm_al_mem h1 h2, ?_⟩))
    have e1 : (j == i) = false := by simpa using hj
    have e3 : (j == i + 1) = false := by simpa using hj1
    by_cases hji : j + 1 = i
    · subst hji
      have hq2 : mm_nl w = true := by
        have hp' : (match ls[j]? with | some v => mm_nl v | none => true) = true := hp
        rw [h1] at hp'
        exact hp'
      have hc : w.category = 1 := by cases w <;> simp_all [mm_nl, mm_kn, Value.category]
      simp [mm_v_cat, hc]
      omega
    · have e2 : (j + 1 == i) = false := by simpa using hji
      simp [e1, e2, e3]
def mm_wp (l : Launch) (G : mm_G) (d : Nat) (K : mm_R) (P : mm_P) (pc : Nat) (ls st : List Value) (T : mm_T) (M : mm_M) (uc us : Nat) : Prop :=
  ∀ p e R s m args below meth c Q, mm_C l G d K P p e R s m args below meth c Q → ∀ H locs lsm, mm_H G T M H → va_S (mm_A G) s.heap H locs → mm_ls G K.ml ls lsm → s.heap.size + uc = G.ba + T.length →
    W p l e R s m args below meth c H locs uc us Q (F0 m pc lsm (st.map (mm_v G.ba G.bb)))
section MM
variable {l : Launch} {G : mm_G} {d : Nat} {K : mm_R} {P : mm_P} {pc : Nat} {ls st : List Value} {T : mm_T} {M : mm_M} {uc us : Nat}

theorem mm_iadd (n : Nat) {x y : Int32} (hd : decode K.cc pc = .ok (.iadd, 1)) (hn : pc + 1 = n) (k : mm_wp l G d K P n ls (.int (x + y) :: st) T M uc us) : mm_wp l G d K P pc ls (.int y :: .int x :: st) T M uc us := by
  subst hn
  intro p e R s m args below meth c Q C H locs lsm hH hS hl hz
  exact lv_iadd C.1.1 C.1.2.1 hd (k p e R s m args below meth c Q C H locs lsm hH hS hl hz)

theorem mm_isub (n : Nat) {x y : Int32} (hd : decode K.cc pc = .ok (.isub, 1)) (hn : pc + 1 = n) (k : mm_wp l G d K P n ls (.int (x - y) :: st) T M uc us) : mm_wp l G d K P pc ls (.int y :: .int x :: st) T M uc us := by
  subst hn
  intro p e R s m args below meth c Q C H locs lsm hH hS hl hz
  exact lv_isub C.1.1 C.1.2.1 hd (k p e R s m args below meth c Q C H locs lsm hH hS hl hz)

theorem mm_imul (n : Nat) {x y : Int32} (hd : decode K.cc pc = .ok (.imul, 1)) (hn : pc + 1 = n) (k : mm_wp l G d K P n ls (.int (x * y) :: st) T M uc us) : mm_wp l G d K P pc ls (.int y :: .int x :: st) T M uc us := by
  subst hn
  intro p e R s m args below meth c Q C H locs lsm hH hS hl hz
  exact lv_imul C.1.1 C.1.2.1 hd (k p e R s m args below meth c Q C H locs lsm hH hS hl hz)

theorem mm_iand (n : Nat) {x y : Int32} (hd : decode K.cc pc = .ok (.iand, 1)) (hn : pc + 1 = n) (k : mm_wp l G d K P n ls (.int (x &&& y) :: st) T M uc us) : mm_wp l G d K P pc ls (.int y :: .int x :: st) T M uc us := by
  subst hn
  intro p e R s m args below meth c Q C H locs lsm hH hS hl hz
  exact lv_iand C.1.1 C.1.2.1 hd (k p e R s m args below meth c Q C H locs lsm hH hS hl hz)

theorem mm_ior (n : Nat) {x y : Int32} (hd : decode K.cc pc = .ok (.ior, 1)) (hn : pc + 1 = n) (k : mm_wp l G d K P n ls (.int (x ||| y) :: st) T M uc us) : mm_wp l G d K P pc ls (.int y :: .int x :: st) T M uc us := by
  subst hn
  intro p e R s m args below meth c Q C H locs lsm hH hS hl hz
  exact lv_ior C.1.1 C.1.2.1 hd (k p e R s m args below meth c Q C H locs lsm hH hS hl hz)

theorem mm_ixor (n : Nat) {x y : Int32} (hd : decode K.cc pc = .ok (.ixor, 1)) (hn : pc + 1 = n) (k : mm_wp l G d K P n ls (.int (x ^^^ y) :: st) T M uc us) : mm_wp l G d K P pc ls (.int y :: .int x :: st) T M uc us := by
  subst hn
  intro p e R s m args below meth c Q C H locs lsm hH hS hl hz
  exact lv_ixor C.1.1 C.1.2.1 hd (k p e R s m args below meth c Q C H locs lsm hH hS hl hz)

theorem mm_ishl (n : Nat) {x y : Int32} (hd : decode K.cc pc = .ok (.ishl, 1)) (hn : pc + 1 = n) (k : mm_wp l G d K P n ls (.int (x <<< (y &&& 31)) :: st) T M uc us) : mm_wp l G d K P pc ls (.int y :: .int x :: st) T M uc us := by
  subst hn
  intro p e R s m args below meth c Q C H locs lsm hH hS hl hz
  exact lv_ishl C.1.1 C.1.2.1 hd (k p e R s m args below meth c Q C H locs lsm hH hS hl hz)

theorem mm_ishr (n : Nat) {x y : Int32} (hd : decode K.cc pc = .ok (.ishr, 1)) (hn : pc + 1 = n) (k : mm_wp l G d K P n ls (.int (x >>> (y &&& 31)) :: st) T M uc us) : mm_wp l G d K P pc ls (.int y :: .int x :: st) T M uc us := by
  subst hn
  intro p e R s m args below meth c Q C H locs lsm hH hS hl hz
  exact lv_ishr C.1.1 C.1.2.1 hd (k p e R s m args below meth c Q C H locs lsm hH hS hl hz)

theorem mm_idiv (n : Nat) {x y : Int32} (hd : decode K.cc pc = .ok (.idiv, 1)) (hn : pc + 1 = n) (h0 : ¬ y = 0) (k : mm_wp l G d K P n ls (.int (x / y) :: st) T M uc us) : mm_wp l G d K P pc ls (.int y :: .int x :: st) T M uc us := by
  subst hn
  intro p e R s m args below meth c Q C H locs lsm hH hS hl hz
  exact lv_idiv C.1.1 C.1.2.1 hd h0 (k p e R s m args below meth c Q C H locs lsm hH hS hl hz)

theorem mm_irem (n : Nat) {x y : Int32} (hd : decode K.cc pc = .ok (.irem, 1)) (hn : pc + 1 = n) (h0 : ¬ y = 0) (k : mm_wp l G d K P n ls (.int (x - x / y * y) :: st) T M uc us) : mm_wp l G d K P pc ls (.int y :: .int x :: st) T M uc us := by
  subst hn
  intro p e R s m args below meth c Q C H locs lsm hH hS hl hz
  exact lv_irem C.1.1 C.1.2.1 hd h0 (k p e R s m args below meth c Q C H locs lsm hH hS hl hz)

theorem mm_ineg (n : Nat) {x : Int32} (hd : decode K.cc pc = .ok (.ineg, 1)) (hn : pc + 1 = n) (k : mm_wp l G d K P n ls (.int (-x) :: st) T M uc us) : mm_wp l G d K P pc ls (.int x :: st) T M uc us := by
  subst hn
  intro p e R s m args below meth c Q C H locs lsm hH hS hl hz
  exact lv_ineg C.1.1 C.1.2.1 hd (k p e R s m args below meth c Q C H locs lsm hH hS hl hz)

theorem mm_ladd (n : Nat) {x y : Int64} (hd : decode K.cc pc = .ok (.ladd, 1)) (hn : pc + 1 = n) (k : mm_wp l G d K P n ls (.long (x + y) :: st) T M uc us) : mm_wp l G d K P pc ls (.long y :: .long x :: st) T M uc us := by
  subst hn
  intro p e R s m args below meth c Q C H locs lsm hH hS hl hz
  exact lv_ladd C.1.1 C.1.2.1 hd (k p e R s m args below meth c Q C H locs lsm hH hS hl hz)

theorem mm_lmul (n : Nat) {x y : Int64} (hd : decode K.cc pc = .ok (.lmul, 1)) (hn : pc + 1 = n) (k : mm_wp l G d K P n ls (.long (x * y) :: st) T M uc us) : mm_wp l G d K P pc ls (.long y :: .long x :: st) T M uc us := by
  subst hn
  intro p e R s m args below meth c Q C H locs lsm hH hS hl hz
  exact lv_lmul C.1.1 C.1.2.1 hd (k p e R s m args below meth c Q C H locs lsm hH hS hl hz)

theorem mm_lcmp (n : Nat) {x y : Int64} (hd : decode K.cc pc = .ok (.lcmp, 1)) (hn : pc + 1 = n) (k : mm_wp l G d K P n ls (.int (lg_cmp x y) :: st) T M uc us) : mm_wp l G d K P pc ls (.long y :: .long x :: st) T M uc us := by
  subst hn
  intro p e R s m args below meth c Q C H locs lsm hH hS hl hz
  exact W.lcmp C.1.1 C.1.2.1 hd (k p e R s m args below meth c Q C H locs lsm hH hS hl hz)

theorem mm_i2l (n : Nat) {x : Int32} (hd : decode K.cc pc = .ok (.i2l, 1)) (hn : pc + 1 = n) (k : mm_wp l G d K P n ls (.long x.toInt64 :: st) T M uc us) : mm_wp l G d K P pc ls (.int x :: st) T M uc us := by
  subst hn
  intro p e R s m args below meth c Q C H locs lsm hH hS hl hz
  exact lv_i2l C.1.1 C.1.2.1 hd rfl (k p e R s m args below meth c Q C H locs lsm hH hS hl hz)

theorem mm_i2b (n : Nat) {x : Int32} (hd : decode K.cc pc = .ok (.i2b, 1)) (hn : pc + 1 = n) (k : mm_wp l G d K P n ls (.int x.toInt8.toInt32 :: st) T M uc us) : mm_wp l G d K P pc ls (.int x :: st) T M uc us := by
  subst hn
  intro p e R s m args below meth c Q C H locs lsm hH hS hl hz
  exact lv_i2b C.1.1 C.1.2.1 hd rfl (k p e R s m args below meth c Q C H locs lsm hH hS hl hz)

theorem mm_i2s (n : Nat) {x : Int32} (hd : decode K.cc pc = .ok (.i2s, 1)) (hn : pc + 1 = n) (k : mm_wp l G d K P n ls (.int x.toInt16.toInt32 :: st) T M uc us) : mm_wp l G d K P pc ls (.int x :: st) T M uc us := by
  subst hn
  intro p e R s m args below meth c Q C H locs lsm hH hS hl hz
  exact lv_i2s C.1.1 C.1.2.1 hd rfl (k p e R s m args below meth c Q C H locs lsm hH hS hl hz)

theorem mm_iconst (n : Nat) {i : Int} (v : Int32) (hd : decode K.cc pc = .ok (.iconst i, 1)) (hn : pc + 1 = n) (hv : Int32.ofInt i = v) (k : mm_wp l G d K P n ls (.int v :: st) T M uc us) : mm_wp l G d K P pc ls st T M uc us := by
  subst hn
  intro p e R s m args below meth c Q C H locs lsm hH hS hl hz
  exact lv_iconst C.1.1 C.1.2.1 hd hv (k p e R s m args below meth c Q C H locs lsm hH hS hl hz)

theorem mm_bipush (n : Nat) {i : Int} (v : Int32) (hd : decode K.cc pc = .ok (.bipush i, 2)) (hn : pc + 2 = n) (hv : (Int8.ofInt i).toInt32 = v) (k : mm_wp l G d K P n ls (.int v :: st) T M uc us) : mm_wp l G d K P pc ls st T M uc us := by
  subst hn
  intro p e R s m args below meth c Q C H locs lsm hH hS hl hz
  exact lv_bipush C.1.1 C.1.2.1 hd hv (k p e R s m args below meth c Q C H locs lsm hH hS hl hz)

theorem mm_sipush (n : Nat) {i : Int} (v : Int32) (hd : decode K.cc pc = .ok (.sipush i, 3)) (hn : pc + 3 = n) (hv : (Int16.ofInt i).toInt32 = v) (k : mm_wp l G d K P n ls (.int v :: st) T M uc us) : mm_wp l G d K P pc ls st T M uc us := by
  subst hn
  intro p e R s m args below meth c Q C H locs lsm hH hS hl hz
  exact lv_sipush C.1.1 C.1.2.1 hd hv (k p e R s m args below meth c Q C H locs lsm hH hS hl hz)

theorem mm_lconst (n : Nat) {i : Fin 2} (v : Int64) (hd : decode K.cc pc = .ok (.lconst i, 1)) (hn : pc + 1 = n) (hv : Int64.ofNat (i : Nat) = v) (k : mm_wp l G d K P n ls (.long v :: st) T M uc us) : mm_wp l G d K P pc ls st T M uc us := by
  subst hn
  intro p e R s m args below meth c Q C H locs lsm hH hS hl hz
  exact lv_lconst C.1.1 C.1.2.1 hd hv (k p e R s m args below meth c Q C H locs lsm hH hS hl hz)

theorem mm_ldc (n : Nat) {i : Nat} (v : Int32) (hd : decode K.cc pc = .ok (.ldc i, 2)) (hn : pc + 2 = n) (hv : Cond.constant K.nm.cls i v ∈ mm_tb) (k : mm_wp l G d K P n ls (.int v :: st) T M uc us) : mm_wp l G d K P pc ls st T M uc us := by
  subst hn
  intro p e R s m args below meth c Q C H locs lsm hH hS hl hz
  exact lv_ldc C.1.1 C.1.2.1 C.1.2.2.2.1 (C.1.2.2.2.2 _ hv) hd (k p e R s m args below meth c Q C H locs lsm hH hS hl hz)

theorem mm_ldcw (n : Nat) {i : Nat} (v : Int32) (hd : decode K.cc pc = .ok (.ldc_w i, 3)) (hn : pc + 3 = n) (hv : Cond.constant K.nm.cls i v ∈ mm_tb) (k : mm_wp l G d K P n ls (.int v :: st) T M uc us) : mm_wp l G d K P pc ls st T M uc us := by
  subst hn
  intro p e R s m args below meth c Q C H locs lsm hH hS hl hz
  exact lv_ldcw C.1.1 C.1.2.1 C.1.2.2.2.1 (C.1.2.2.2.2 _ hv) hd (k p e R s m args below meth c Q C H locs lsm hH hS hl hz)

theorem mm_ldc2 (n : Nat) {i : Nat} (v : Int64) (hd : decode K.cc pc = .ok (.ldc2_w i, 3)) (hn : pc + 3 = n) (hv : Cond.constantLong K.nm.cls i v ∈ mm_tb) (k : mm_wp l G d K P n ls (.long v :: st) T M uc us) : mm_wp l G d K P pc ls st T M uc us := by
  subst hn
  intro p e R s m args below meth c Q C H locs lsm hH hS hl hz
  exact lv_ldc2 C.1.1 C.1.2.1 C.1.2.2.2.1 (C.1.2.2.2.2 _ hv) hd (k p e R s m args below meth c Q C H locs lsm hH hS hl hz)

theorem mm_dup (n : Nat) {v : Value} (hd : decode K.cc pc = .ok (.dup, 1)) (hn : pc + 1 = n) (hc : v.category = 1) (k : mm_wp l G d K P n ls (v :: v :: st) T M uc us) : mm_wp l G d K P pc ls (v :: st) T M uc us := by
  subst hn
  intro p e R s m args below meth c Q C H locs lsm hH hS hl hz
  exact lv_dup C.1.1 C.1.2.1 hd (by rw [mm_v_cat]; exact hc) (k p e R s m args below meth c Q C H locs lsm hH hS hl hz)

theorem mm_pop (n : Nat) {v : Value} (hd : decode K.cc pc = .ok (.pop, 1)) (hn : pc + 1 = n) (hc : v.category = 1) (k : mm_wp l G d K P n ls st T M uc us) : mm_wp l G d K P pc ls (v :: st) T M uc us := by
  subst hn
  intro p e R s m args below meth c Q C H locs lsm hH hS hl hz
  exact lv_pop C.1.1 C.1.2.1 hd (va := mm_v G.ba G.bb v) (by rw [mm_v_cat]; exact hc) (k p e R s m args below meth c Q C H locs lsm hH hS hl hz)

theorem mm_dup2 (n : Nat) {v w : Value} (hd : decode K.cc pc = .ok (.dup2, 1)) (hn : pc + 1 = n) (hc : v.category = 1) (hw : w.category = 1) (k : mm_wp l G d K P n ls (v :: w :: v :: w :: st) T M uc us) : mm_wp l G d K P pc ls (v :: w :: st) T M uc us := by
  subst hn
  intro p e R s m args below meth c Q C H locs lsm hH hS hl hz
  exact lv_dup2_11 C.1.1 C.1.2.1 hd (by rw [mm_v_cat]; exact hc) (by rw [mm_v_cat]; exact hw) (k p e R s m args below meth c Q C H locs lsm hH hS hl hz)

theorem mm_null (n : Nat) (hd : decode K.cc pc = .ok (.aconst_null, 1)) (hn : pc + 1 = n) (k : mm_wp l G d K P n ls (.null :: st) T M uc us) : mm_wp l G d K P pc ls st T M uc us := by
  subst hn
  intro p e R s m args below meth c Q C H locs lsm hH hS hl hz
  exact lv_null C.1.1 C.1.2.1 hd (k p e R s m args below meth c Q C H locs lsm hH hS hl hz)

theorem mm_goto (t : Nat) {off : Int} (hd : decode K.cc pc = .ok (.goto off, 3)) (ht : (pc : Int) + off = (t : Int)) (k : mm_wp l G d K P t ls st T M uc us) : mm_wp l G d K P pc ls st T M uc us := by
  intro p e R s m args below meth c Q C H locs lsm hH hS hl hz
  exact lv_goto C.1.1 C.1.2.1 hd ht (k p e R s m args below meth c Q C H locs lsm hH hS hl hz)

theorem mm_if_eq (t n : Nat) {x : Int32} {off : Int} (hd : decode K.cc pc = .ok (.ifCond .eq off, 3)) (ht : (pc : Int) + off = (t : Int)) (hn : pc + 3 = n) (kt : x = 0 → mm_wp l G d K P t ls st T M uc us) (kf : ¬ x = 0 → mm_wp l G d K P n ls st T M uc us) : mm_wp l G d K P pc ls (.int x :: st) T M uc us := by
  subst hn
  intro p e R s m args below meth c Q C H locs lsm hH hS hl hz
  exact lv_if_eq C.1.1 C.1.2.1 hd ht (fun h => kt h p e R s m args below meth c Q C H locs lsm hH hS hl hz) (fun h => kf h p e R s m args below meth c Q C H locs lsm hH hS hl hz)

theorem mm_ic_eq (t n : Nat) {x y : Int32} {off : Int} (hd : decode K.cc pc = .ok (.if_icmp .eq off, 3)) (ht : (pc : Int) + off = (t : Int)) (hn : pc + 3 = n) (kt : x = y → mm_wp l G d K P t ls st T M uc us) (kf : ¬ x = y → mm_wp l G d K P n ls st T M uc us) : mm_wp l G d K P pc ls (.int y :: .int x :: st) T M uc us := by
  subst hn
  intro p e R s m args below meth c Q C H locs lsm hH hS hl hz
  exact lv_icmp_eq C.1.1 C.1.2.1 hd ht (fun h => kt h p e R s m args below meth c Q C H locs lsm hH hS hl hz) (fun h => kf h p e R s m args below meth c Q C H locs lsm hH hS hl hz)

theorem mm_if_ne (t n : Nat) {x : Int32} {off : Int} (hd : decode K.cc pc = .ok (.ifCond .ne off, 3)) (ht : (pc : Int) + off = (t : Int)) (hn : pc + 3 = n) (kt : ¬ x = 0 → mm_wp l G d K P t ls st T M uc us) (kf : x = 0 → mm_wp l G d K P n ls st T M uc us) : mm_wp l G d K P pc ls (.int x :: st) T M uc us := by
  subst hn
  intro p e R s m args below meth c Q C H locs lsm hH hS hl hz
  exact lv_if_ne C.1.1 C.1.2.1 hd ht (fun h => kt h p e R s m args below meth c Q C H locs lsm hH hS hl hz) (fun h => kf h p e R s m args below meth c Q C H locs lsm hH hS hl hz)

theorem mm_ic_ne (t n : Nat) {x y : Int32} {off : Int} (hd : decode K.cc pc = .ok (.if_icmp .ne off, 3)) (ht : (pc : Int) + off = (t : Int)) (hn : pc + 3 = n) (kt : ¬ x = y → mm_wp l G d K P t ls st T M uc us) (kf : x = y → mm_wp l G d K P n ls st T M uc us) : mm_wp l G d K P pc ls (.int y :: .int x :: st) T M uc us := by
  subst hn
  intro p e R s m args below meth c Q C H locs lsm hH hS hl hz
  exact lv_icmp_ne C.1.1 C.1.2.1 hd ht (fun h => kt h p e R s m args below meth c Q C H locs lsm hH hS hl hz) (fun h => kf h p e R s m args below meth c Q C H locs lsm hH hS hl hz)

theorem mm_if_lt (t n : Nat) {x : Int32} {off : Int} (hd : decode K.cc pc = .ok (.ifCond .lt off, 3)) (ht : (pc : Int) + off = (t : Int)) (hn : pc + 3 = n) (kt : x < 0 → mm_wp l G d K P t ls st T M uc us) (kf : ¬ x < 0 → mm_wp l G d K P n ls st T M uc us) : mm_wp l G d K P pc ls (.int x :: st) T M uc us := by
  subst hn
  intro p e R s m args below meth c Q C H locs lsm hH hS hl hz
  exact lv_if_lt C.1.1 C.1.2.1 hd ht (fun h => kt h p e R s m args below meth c Q C H locs lsm hH hS hl hz) (fun h => kf h p e R s m args below meth c Q C H locs lsm hH hS hl hz)

theorem mm_ic_lt (t n : Nat) {x y : Int32} {off : Int} (hd : decode K.cc pc = .ok (.if_icmp .lt off, 3)) (ht : (pc : Int) + off = (t : Int)) (hn : pc + 3 = n) (kt : x < y → mm_wp l G d K P t ls st T M uc us) (kf : ¬ x < y → mm_wp l G d K P n ls st T M uc us) : mm_wp l G d K P pc ls (.int y :: .int x :: st) T M uc us := by
  subst hn
  intro p e R s m args below meth c Q C H locs lsm hH hS hl hz
  exact lv_icmp_lt C.1.1 C.1.2.1 hd ht (fun h => kt h p e R s m args below meth c Q C H locs lsm hH hS hl hz) (fun h => kf h p e R s m args below meth c Q C H locs lsm hH hS hl hz)

theorem mm_if_ge (t n : Nat) {x : Int32} {off : Int} (hd : decode K.cc pc = .ok (.ifCond .ge off, 3)) (ht : (pc : Int) + off = (t : Int)) (hn : pc + 3 = n) (kt : 0 ≤ x → mm_wp l G d K P t ls st T M uc us) (kf : ¬ 0 ≤ x → mm_wp l G d K P n ls st T M uc us) : mm_wp l G d K P pc ls (.int x :: st) T M uc us := by
  subst hn
  intro p e R s m args below meth c Q C H locs lsm hH hS hl hz
  exact lv_if_ge C.1.1 C.1.2.1 hd ht (fun h => kt h p e R s m args below meth c Q C H locs lsm hH hS hl hz) (fun h => kf h p e R s m args below meth c Q C H locs lsm hH hS hl hz)

theorem mm_ic_ge (t n : Nat) {x y : Int32} {off : Int} (hd : decode K.cc pc = .ok (.if_icmp .ge off, 3)) (ht : (pc : Int) + off = (t : Int)) (hn : pc + 3 = n) (kt : y ≤ x → mm_wp l G d K P t ls st T M uc us) (kf : ¬ y ≤ x → mm_wp l G d K P n ls st T M uc us) : mm_wp l G d K P pc ls (.int y :: .int x :: st) T M uc us := by
  subst hn
  intro p e R s m args below meth c Q C H locs lsm hH hS hl hz
  exact lv_icmp_ge C.1.1 C.1.2.1 hd ht (fun h => kt h p e R s m args below meth c Q C H locs lsm hH hS hl hz) (fun h => kf h p e R s m args below meth c Q C H locs lsm hH hS hl hz)

theorem mm_if_gt (t n : Nat) {x : Int32} {off : Int} (hd : decode K.cc pc = .ok (.ifCond .gt off, 3)) (ht : (pc : Int) + off = (t : Int)) (hn : pc + 3 = n) (kt : 0 < x → mm_wp l G d K P t ls st T M uc us) (kf : ¬ 0 < x → mm_wp l G d K P n ls st T M uc us) : mm_wp l G d K P pc ls (.int x :: st) T M uc us := by
  subst hn
  intro p e R s m args below meth c Q C H locs lsm hH hS hl hz
  exact lv_if_gt C.1.1 C.1.2.1 hd ht (fun h => kt h p e R s m args below meth c Q C H locs lsm hH hS hl hz) (fun h => kf h p e R s m args below meth c Q C H locs lsm hH hS hl hz)

theorem mm_ic_gt (t n : Nat) {x y : Int32} {off : Int} (hd : decode K.cc pc = .ok (.if_icmp .gt off, 3)) (ht : (pc : Int) + off = (t : Int)) (hn : pc + 3 = n) (kt : y < x → mm_wp l G d K P t ls st T M uc us) (kf : ¬ y < x → mm_wp l G d K P n ls st T M uc us) : mm_wp l G d K P pc ls (.int y :: .int x :: st) T M uc us := by
  subst hn
  intro p e R s m args below meth c Q C H locs lsm hH hS hl hz
  exact lv_icmp_gt C.1.1 C.1.2.1 hd ht (fun h => kt h p e R s m args below meth c Q C H locs lsm hH hS hl hz) (fun h => kf h p e R s m args below meth c Q C H locs lsm hH hS hl hz)

theorem mm_if_le (t n : Nat) {x : Int32} {off : Int} (hd : decode K.cc pc = .ok (.ifCond .le off, 3)) (ht : (pc : Int) + off = (t : Int)) (hn : pc + 3 = n) (kt : x ≤ 0 → mm_wp l G d K P t ls st T M uc us) (kf : ¬ x ≤ 0 → mm_wp l G d K P n ls st T M uc us) : mm_wp l G d K P pc ls (.int x :: st) T M uc us := by
  subst hn
  intro p e R s m args below meth c Q C H locs lsm hH hS hl hz
  exact lv_if_le C.1.1 C.1.2.1 hd ht (fun h => kt h p e R s m args below meth c Q C H locs lsm hH hS hl hz) (fun h => kf h p e R s m args below meth c Q C H locs lsm hH hS hl hz)

theorem mm_ic_le (t n : Nat) {x y : Int32} {off : Int} (hd : decode K.cc pc = .ok (.if_icmp .le off, 3)) (ht : (pc : Int) + off = (t : Int)) (hn : pc + 3 = n) (kt : x ≤ y → mm_wp l G d K P t ls st T M uc us) (kf : ¬ x ≤ y → mm_wp l G d K P n ls st T M uc us) : mm_wp l G d K P pc ls (.int y :: .int x :: st) T M uc us := by
  subst hn
  intro p e R s m args below meth c Q C H locs lsm hH hS hl hz
  exact lv_icmp_le C.1.1 C.1.2.1 hd ht (fun h => kt h p e R s m args below meth c Q C H locs lsm hH hS hl hz) (fun h => kf h p e R s m args below meth c Q C H locs lsm hH hS hl hz)

theorem mm_nonnullR (t : Nat) {x : Nat} {off : Int} (hd : decode K.cc pc = .ok (.ifnonnull off, 3)) (ht : (pc : Int) + off = (t : Int)) (k : mm_wp l G d K P t ls st T M uc us) : mm_wp l G d K P pc ls (.ref x :: st) T M uc us := by
  intro p e R s m args below meth c Q C H locs lsm hH hS hl hz
  exact lv_ifnonnull C.1.1 C.1.2.1 hd ht (k p e R s m args below meth c Q C H locs lsm hH hS hl hz)

theorem mm_nonnullN (n : Nat) {off : Int} (hd : decode K.cc pc = .ok (.ifnonnull off, 3)) (hn : pc + 3 = n) (k : mm_wp l G d K P n ls st T M uc us) : mm_wp l G d K P pc ls (.null :: st) T M uc us := by
  subst hn
  intro p e R s m args below meth c Q C H locs lsm hH hS hl hz
  exact lv_ifnonnullN C.1.1 C.1.2.1 hd (k p e R s m args below meth c Q C H locs lsm hH hS hl hz)

theorem mm_nullR (n : Nat) {x : Nat} {off : Int} (hd : decode K.cc pc = .ok (.ifnull off, 3)) (hn : pc + 3 = n) (k : mm_wp l G d K P n ls st T M uc us) : mm_wp l G d K P pc ls (.ref x :: st) T M uc us := by
  subst hn
  intro p e R s m args below meth c Q C H locs lsm hH hS hl hz
  exact lv_ifnull C.1.1 C.1.2.1 hd (k p e R s m args below meth c Q C H locs lsm hH hS hl hz)

theorem mm_nullN (t : Nat) {off : Int} (hd : decode K.cc pc = .ok (.ifnull off, 3)) (ht : (pc : Int) + off = (t : Int)) (k : mm_wp l G d K P t ls st T M uc us) : mm_wp l G d K P pc ls (.null :: st) T M uc us := by
  intro p e R s m args below meth c Q C H locs lsm hH hS hl hz
  exact lv_ifnullN C.1.1 C.1.2.1 hd ht (k p e R s m args below meth c Q C H locs lsm hH hS hl hz)

theorem mm_tabOut (t : Nat) {dflt lo hi : Int} {offs : Array Int} {len : Nat} {x : Int32} (hd : decode K.cc pc = .ok (.tableswitch dflt lo hi offs, len)) (h : x.toInt < lo ∨ hi < x.toInt) (ht : (pc : Int) + dflt = (t : Int)) (k : mm_wp l G d K P t ls st T M uc us) : mm_wp l G d K P pc ls (.int x :: st) T M uc us := by
  intro p e R s m args below meth c Q C H locs lsm hH hS hl hz
  exact lv_tableOut C.1.1 C.1.2.1 hd h ht (k p e R s m args below meth c Q C H locs lsm hH hS hl hz)

theorem mm_tabIn (t : Nat) {dflt lo hi off : Int} {offs : Array Int} {len : Nat} {x : Int32} (hd : decode K.cc pc = .ok (.tableswitch dflt lo hi offs, len)) (h1 : ¬ x.toInt < lo) (h2 : ¬ hi < x.toInt) (ho : offs[(x.toInt - lo).toNat]? = some off) (ht : (pc : Int) + off = (t : Int)) (k : mm_wp l G d K P t ls st T M uc us) : mm_wp l G d K P pc ls (.int x :: st) T M uc us := by
  intro p e R s m args below meth c Q C H locs lsm hH hS hl hz
  exact lv_tableIn C.1.1 C.1.2.1 hd h1 h2 ho ht (k p e R s m args below meth c Q C H locs lsm hH hS hl hz)

theorem mm_lookup (t : Nat) {dflt off : Int} {ps : Array (Int × Int)} {len : Nat} {x : Int32} (hd : decode K.cc pc = .ok (.lookupswitch dflt ps, len)) (hp : (ps.toList.zip (ps.toList.drop 1)).all (fun (a, next) => a.1 < next.1) = true) (ho : Op.lookupswitch.offset ps.toList dflt x.toInt = off) (ht : (pc : Int) + off = (t : Int)) (k : mm_wp l G d K P t ls st T M uc us) : mm_wp l G d K P pc ls (.int x :: st) T M uc us := by
  intro p e R s m args below meth c Q C H locs lsm hH hS hl hz
  exact lv_lookup C.1.1 C.1.2.1 hd hp ho ht (k p e R s m args below meth c Q C H locs lsm hH hS hl hz)

theorem mm_iloadN (n i : Nat) {q : Fin 4} {x : Int32} (hd : decode K.cc pc = .ok (.iload_n q, 1)) (hq : (q : Nat) = i) (hx : ls[i]? = some (.int x)) (hn : pc + 1 = n) (k : mm_wp l G d K P n ls (.int x :: st) T M uc us) : mm_wp l G d K P pc ls st T M uc us := by
  subst hn
  intro p e R s m args below meth c Q C H locs lsm hH hS hl hz
  exact lv_iload_n C.1.1 C.1.2.1 hd hq (hl.at hx rfl) (k p e R s m args below meth c Q C H locs lsm hH hS hl hz)

theorem mm_iloadW (n i : Nat) {x : Int32} (hd : decode K.cc pc = .ok (.iload i, 2)) (hx : ls[i]? = some (.int x)) (hn : pc + 2 = n) (k : mm_wp l G d K P n ls (.int x :: st) T M uc us) : mm_wp l G d K P pc ls st T M uc us := by
  subst hn
  intro p e R s m args below meth c Q C H locs lsm hH hS hl hz
  exact lv_iload C.1.1 C.1.2.1 hd (hl.at hx rfl) (k p e R s m args below meth c Q C H locs lsm hH hS hl hz)

theorem mm_lloadN (n i : Nat) {q : Fin 4} {x : Int64} (hd : decode K.cc pc = .ok (.lload_n q, 1)) (hq : (q : Nat) = i) (hx : ls[i]? = some (.long x)) (hn : pc + 1 = n) (k : mm_wp l G d K P n ls (.long x :: st) T M uc us) : mm_wp l G d K P pc ls st T M uc us := by
  subst hn
  intro p e R s m args below meth c Q C H locs lsm hH hS hl hz
  exact lv_lload_n C.1.1 C.1.2.1 hd hq (hl.at hx rfl) (k p e R s m args below meth c Q C H locs lsm hH hS hl hz)

theorem mm_lloadW (n i : Nat) {x : Int64} (hd : decode K.cc pc = .ok (.lload i, 2)) (hx : ls[i]? = some (.long x)) (hn : pc + 2 = n) (k : mm_wp l G d K P n ls (.long x :: st) T M uc us) : mm_wp l G d K P pc ls st T M uc us := by
  subst hn
  intro p e R s m args below meth c Q C H locs lsm hH hS hl hz
  exact lv_lload C.1.1 C.1.2.1 hd (hl.at hx rfl) (k p e R s m args below meth c Q C H locs lsm hH hS hl hz)

theorem mm_aloadN (n i : Nat) {q : Fin 4} {x : Nat} (hd : decode K.cc pc = .ok (.aload_n q, 1)) (hq : (q : Nat) = i) (hx : ls[i]? = some (.ref x)) (hn : pc + 1 = n) (k : mm_wp l G d K P n ls ((.ref x) :: st) T M uc us) : mm_wp l G d K P pc ls st T M uc us := by
  subst hn
  intro p e R s m args below meth c Q C H locs lsm hH hS hl hz
  exact lv_aload_n C.1.1 C.1.2.1 hd hq (hl.at hx rfl) (k p e R s m args below meth c Q C H locs lsm hH hS hl hz)

theorem mm_aloadNS (n i : Nat) {q : Fin 4} {x : UInt32} (hd : decode K.cc pc = .ok (.aload_n q, 1)) (hq : (q : Nat) = i) (hx : ls[i]? = some (.float x)) (hn : pc + 1 = n) (k : mm_wp l G d K P n ls ((.float x) :: st) T M uc us) : mm_wp l G d K P pc ls st T M uc us := by
  subst hn
  intro p e R s m args below meth c Q C H locs lsm hH hS hl hz
  exact lv_aload_n C.1.1 C.1.2.1 hd hq (hl.at hx rfl) (k p e R s m args below meth c Q C H locs lsm hH hS hl hz)

theorem mm_aloadW (n i : Nat) {x : Nat} (hd : decode K.cc pc = .ok (.aload i, 2)) (hx : ls[i]? = some (.ref x)) (hn : pc + 2 = n) (k : mm_wp l G d K P n ls (.ref x :: st) T M uc us) : mm_wp l G d K P pc ls st T M uc us := by
  subst hn
  intro p e R s m args below meth c Q C H locs lsm hH hS hl hz
  exact lv_aload C.1.1 C.1.2.1 hd (hl.at hx rfl) (k p e R s m args below meth c Q C H locs lsm hH hS hl hz)

theorem mm_aloadNN (n i : Nat) {q : Fin 4} (hd : decode K.cc pc = .ok (.aload_n q, 1)) (hq : (q : Nat) = i) (hx : ls[i]? = some .null) (hn : pc + 1 = n) (k : mm_wp l G d K P n ls (.null :: st) T M uc us) : mm_wp l G d K P pc ls st T M uc us := by
  subst hn
  intro p e R s m args below meth c Q C H locs lsm hH hS hl hz
  exact lv_aload_nN C.1.1 C.1.2.1 hd hq (hl.at hx rfl) (k p e R s m args below meth c Q C H locs lsm hH hS hl hz)

theorem mm_aloadWN (n i : Nat) (hd : decode K.cc pc = .ok (.aload i, 2)) (hx : ls[i]? = some .null) (hn : pc + 2 = n) (k : mm_wp l G d K P n ls (.null :: st) T M uc us) : mm_wp l G d K P pc ls st T M uc us := by
  subst hn
  intro p e R s m args below meth c Q C H locs lsm hH hS hl hz
  exact lv_aloadN C.1.1 C.1.2.1 hd (hl.at hx rfl) (k p e R s m args below meth c Q C H locs lsm hH hS hl hz)

theorem mm_istoreN (n i : Nat) {q : Fin 4} {x : Int32} (hd : decode K.cc pc = .ok (.istore_n q, 1)) (hq : (q : Nat) = i) (hi : i < ls.length) (hp : mm_np ls i = true) (hn : pc + 1 = n) (k : mm_wp l G d K P n (ls.set i (.int x)) st T M uc us) : mm_wp l G d K P pc ls (.int x :: st) T M uc us := by
  subst hn
  intro p e R s m args below meth c Q C H locs lsm hH hS hl hz
  exact lv_istore_n C.1.1 C.1.2.1 hd hq hl.2 (by rw [← hl.1]; exact hi) rfl (fun lsm2 h2 => k p e R s m args below meth c Q C H locs lsm2 hH hS (mm_ls_st1 (v := .int x) hl.1 hp h2) hz)

theorem mm_istoreW (n i : Nat) {x : Int32} (hd : decode K.cc pc = .ok (.istore i, 2)) (hi : i < ls.length) (hp : mm_np ls i = true) (hn : pc + 2 = n) (k : mm_wp l G d K P n (ls.set i (.int x)) st T M uc us) : mm_wp l G d K P pc ls (.int x :: st) T M uc us := by
  subst hn
  intro p e R s m args below meth c Q C H locs lsm hH hS hl hz
  exact lv_istore C.1.1 C.1.2.1 hd hl.2 (by rw [← hl.1]; exact hi) rfl (fun lsm2 h2 => k p e R s m args below meth c Q C H locs lsm2 hH hS (mm_ls_st1 (v := .int x) hl.1 hp h2) hz)

theorem mm_astoreN (n i : Nat) {q : Fin 4} {x : Nat} (hd : decode K.cc pc = .ok (.astore_n q, 1)) (hq : (q : Nat) = i) (hi : i < ls.length) (hp : mm_np ls i = true) (hn : pc + 1 = n) (k : mm_wp l G d K P n (ls.set i (.ref x)) st T M uc us) : mm_wp l G d K P pc ls (.ref x :: st) T M uc us := by
  subst hn
  intro p e R s m args below meth c Q C H locs lsm hH hS hl hz
  exact lv_astore_n C.1.1 C.1.2.1 hd hq hl.2 (by rw [← hl.1]; exact hi) rfl (fun lsm2 h2 => k p e R s m args below meth c Q C H locs lsm2 hH hS (mm_ls_st1 (v := .ref x) hl.1 hp h2) hz)

theorem mm_astoreW (n i : Nat) {x : Nat} (hd : decode K.cc pc = .ok (.astore i, 2)) (hi : i < ls.length) (hp : mm_np ls i = true) (hn : pc + 2 = n) (k : mm_wp l G d K P n (ls.set i (.ref x)) st T M uc us) : mm_wp l G d K P pc ls (.ref x :: st) T M uc us := by
  subst hn
  intro p e R s m args below meth c Q C H locs lsm hH hS hl hz
  exact lv_astore C.1.1 C.1.2.1 hd hl.2 (by rw [← hl.1]; exact hi) rfl (fun lsm2 h2 => k p e R s m args below meth c Q C H locs lsm2 hH hS (mm_ls_st1 (v := .ref x) hl.1 hp h2) hz)

theorem mm_astoreNN (n i : Nat) {q : Fin 4} (hd : decode K.cc pc = .ok (.astore_n q, 1)) (hq : (q : Nat) = i) (hi : i < ls.length) (hp : mm_np ls i = true) (hn : pc + 1 = n) (k : mm_wp l G d K P n (ls.set i .null) st T M uc us) : mm_wp l G d K P pc ls (.null :: st) T M uc us := by
  subst hn
  intro p e R s m args below meth c Q C H locs lsm hH hS hl hz
  exact lv_astore_nN C.1.1 C.1.2.1 hd hq hl.2 (by rw [← hl.1]; exact hi) rfl (fun lsm2 h2 => k p e R s m args below meth c Q C H locs lsm2 hH hS (mm_ls_st1 (v := .null) hl.1 hp h2) hz)

theorem mm_astoreWN (n i : Nat) (hd : decode K.cc pc = .ok (.astore i, 2)) (hi : i < ls.length) (hp : mm_np ls i = true) (hn : pc + 2 = n) (k : mm_wp l G d K P n (ls.set i .null) st T M uc us) : mm_wp l G d K P pc ls (.null :: st) T M uc us := by
  subst hn
  intro p e R s m args below meth c Q C H locs lsm hH hS hl hz
  exact lv_astoreN C.1.1 C.1.2.1 hd hl.2 (by rw [← hl.1]; exact hi) rfl (fun lsm2 h2 => k p e R s m args below meth c Q C H locs lsm2 hH hS (mm_ls_st1 (v := .null) hl.1 hp h2) hz)

theorem mm_lstoreN (n i : Nat) {q : Fin 4} {x : Int64} (hd : decode K.cc pc = .ok (.lstore_n q, 1)) (hq : (q : Nat) = i) (hi : i + 1 < ls.length) (hp : mm_np ls i = true) (hn : pc + 1 = n) (k : mm_wp l G d K P n ((ls.set i (.long x)).set (i + 1) (.double 0)) st T M uc us) : mm_wp l G d K P pc ls (.long x :: st) T M uc us := by
  subst hn
  intro p e R s m args below meth c Q C H locs lsm hH hS hl hz
  exact lv_lstore_n C.1.1 C.1.2.1 hd hq hl.2 (by rw [← hl.1]; exact hi) rfl (fun lsm2 h2 => k p e R s m args below meth c Q C H locs lsm2 hH hS (mm_ls_st2 hl.1 hp h2) hz)

theorem mm_iincG (n i : Nat) {j : Int} {x : Int32} (w : Int32) (hd : decode K.cc pc = .ok (.iinc i j, 3)) (hw : Int32.ofInt j = w) (hx : ls[i]? = some (.int x)) (hp : mm_np ls i = true) (hn : pc + 3 = n) (k : mm_wp l G d K P n (ls.set i (.int (x + w))) st T M uc us) : mm_wp l G d K P pc ls st T M uc us := by
  subst hn
  subst hw
  intro p e R s m args below meth c Q C H locs lsm hH hS hl hz
  obtain ⟨q, hq⟩ := List.mem_iff_getElem?.mp (mm_al_mem (ba := G.ba) (bb := G.bb) hx rfl)
  exact lv_iinc C.1.1 C.1.2.1 hd hl.2 hq rfl (by rw [← hl.1]; exact (List.getElem?_eq_some_iff.mp hx).1) rfl (fun lsm2 h2 => k p e R s m args below meth c Q C H locs lsm2 hH hS (mm_ls_st1 (v := .int (x + Int32.ofInt j)) hl.1 hp h2) hz)

theorem mm_iload_0 (n : Nat) {x : Int32} {r : List Value} (hd : decode K.cc pc = .ok (.iload_n 0, 1)) (hn : pc + 1 = n) (k : mm_wp l G d K P n (.int x :: r) (.int x :: st) T M uc us) : mm_wp l G d K P pc (.int x :: r) st T M uc us := mm_iloadN n 0 hd rfl rfl hn k

theorem mm_aload_0 (n : Nat) {x : Nat} {r : List Value} (hd : decode K.cc pc = .ok (.aload_n 0, 1)) (hn : pc + 1 = n) (k : mm_wp l G d K P n (.ref x :: r) (.ref x :: st) T M uc us) : mm_wp l G d K P pc (.ref x :: r) st T M uc us := mm_aloadN n 0 hd rfl rfl hn k

theorem mm_lload_0 (n : Nat) {x : Int64} {r : List Value} (hd : decode K.cc pc = .ok (.lload_n 0, 1)) (hn : pc + 1 = n) (k : mm_wp l G d K P n (.long x :: r) (.long x :: st) T M uc us) : mm_wp l G d K P pc (.long x :: r) st T M uc us := mm_lloadN n 0 hd rfl rfl hn k

theorem mm_sload_0 (n : Nat) {x : UInt32} {r : List Value} (hd : decode K.cc pc = .ok (.aload_n 0, 1)) (hn : pc + 1 = n) (k : mm_wp l G d K P n (.float x :: r) (.float x :: st) T M uc us) : mm_wp l G d K P pc (.float x :: r) st T M uc us := mm_aloadNS n 0 hd rfl rfl hn k

theorem mm_nload_0 (n : Nat) {r : List Value} (hd : decode K.cc pc = .ok (.aload_n 0, 1)) (hn : pc + 1 = n) (k : mm_wp l G d K P n (.null :: r) (.null :: st) T M uc us) : mm_wp l G d K P pc (.null :: r) st T M uc us := mm_aloadNN n 0 hd rfl rfl hn k

theorem mm_istore_0 (n : Nat) {b : Value} {x : Int32} {r : List Value} (hd : decode K.cc pc = .ok (.istore_n 0, 1)) (hn : pc + 1 = n) (k : mm_wp l G d K P n (.int x :: r) st T M uc us) : mm_wp l G d K P pc (b :: r) (.int x :: st) T M uc us := mm_istoreN n 0 hd rfl (by simp) rfl hn k

theorem mm_astore_0 (n : Nat) {b : Value} {x : Nat} {r : List Value} (hd : decode K.cc pc = .ok (.astore_n 0, 1)) (hn : pc + 1 = n) (k : mm_wp l G d K P n (.ref x :: r) st T M uc us) : mm_wp l G d K P pc (b :: r) (.ref x :: st) T M uc us := mm_astoreN n 0 hd rfl (by simp) rfl hn k

theorem mm_nstore_0 (n : Nat) {b : Value} {r : List Value} (hd : decode K.cc pc = .ok (.astore_n 0, 1)) (hn : pc + 1 = n) (k : mm_wp l G d K P n (.null :: r) st T M uc us) : mm_wp l G d K P pc (b :: r) (.null :: st) T M uc us := mm_astoreNN n 0 hd rfl (by simp) rfl hn k

theorem mm_iinc_0 (n : Nat) {j : Int} {x : Int32} {r : List Value} (w : Int32) (hd : decode K.cc pc = .ok (.iinc 0 j, 3)) (hn : pc + 3 = n) (hw : Int32.ofInt j = w) (k : mm_wp l G d K P n (.int (x + w) :: r) st T M uc us) : mm_wp l G d K P pc (.int x :: r) st T M uc us := mm_iincG n 0 w hd hw rfl rfl hn k

theorem mm_iload_1 (n : Nat) {a0 : Value} {x : Int32} {r : List Value} (hd : decode K.cc pc = .ok (.iload_n 1, 1)) (hn : pc + 1 = n) (k : mm_wp l G d K P n (a0 :: .int x :: r) (.int x :: st) T M uc us) : mm_wp l G d K P pc (a0 :: .int x :: r) st T M uc us := mm_iloadN n 1 hd rfl rfl hn k

theorem mm_aload_1 (n : Nat) {a0 : Value} {x : Nat} {r : List Value} (hd : decode K.cc pc = .ok (.aload_n 1, 1)) (hn : pc + 1 = n) (k : mm_wp l G d K P n (a0 :: .ref x :: r) (.ref x :: st) T M uc us) : mm_wp l G d K P pc (a0 :: .ref x :: r) st T M uc us := mm_aloadN n 1 hd rfl rfl hn k

theorem mm_lload_1 (n : Nat) {a0 : Value} {x : Int64} {r : List Value} (hd : decode K.cc pc = .ok (.lload_n 1, 1)) (hn : pc + 1 = n) (k : mm_wp l G d K P n (a0 :: .long x :: r) (.long x :: st) T M uc us) : mm_wp l G d K P pc (a0 :: .long x :: r) st T M uc us := mm_lloadN n 1 hd rfl rfl hn k

theorem mm_nload_1 (n : Nat) {a0 : Value} {r : List Value} (hd : decode K.cc pc = .ok (.aload_n 1, 1)) (hn : pc + 1 = n) (k : mm_wp l G d K P n (a0 :: .null :: r) (.null :: st) T M uc us) : mm_wp l G d K P pc (a0 :: .null :: r) st T M uc us := mm_aloadNN n 1 hd rfl rfl hn k

theorem mm_istore_1 (n : Nat) {a0 : Value} {b : Value} {x : Int32} {r : List Value} (hd : decode K.cc pc = .ok (.istore_n 1, 1)) (hn : pc + 1 = n) (hp : mm_nl a0 = true) (k : mm_wp l G d K P n (a0 :: .int x :: r) st T M uc us) : mm_wp l G d K P pc (a0 :: b :: r) (.int x :: st) T M uc us := mm_istoreN n 1 hd rfl (by simp) hp hn k

theorem mm_astore_1 (n : Nat) {a0 : Value} {b : Value} {x : Nat} {r : List Value} (hd : decode K.cc pc = .ok (.astore_n 1, 1)) (hn : pc + 1 = n) (hp : mm_nl a0 = true) (k : mm_wp l G d K P n (a0 :: .ref x :: r) st T M uc us) : mm_wp l G d K P pc (a0 :: b :: r) (.ref x :: st) T M uc us := mm_astoreN n 1 hd rfl (by simp) hp hn k

theorem mm_nstore_1 (n : Nat) {a0 : Value} {b : Value} {r : List Value} (hd : decode K.cc pc = .ok (.astore_n 1, 1)) (hn : pc + 1 = n) (hp : mm_nl a0 = true) (k : mm_wp l G d K P n (a0 :: .null :: r) st T M uc us) : mm_wp l G d K P pc (a0 :: b :: r) (.null :: st) T M uc us := mm_astoreNN n 1 hd rfl (by simp) hp hn k

theorem mm_iinc_1 (n : Nat) {a0 : Value} {j : Int} {x : Int32} {r : List Value} (w : Int32) (hd : decode K.cc pc = .ok (.iinc 1 j, 3)) (hn : pc + 3 = n) (hw : Int32.ofInt j = w) (hp : mm_nl a0 = true) (k : mm_wp l G d K P n (a0 :: .int (x + w) :: r) st T M uc us) : mm_wp l G d K P pc (a0 :: .int x :: r) st T M uc us := mm_iincG n 1 w hd hw rfl hp hn k

theorem mm_iload_2 (n : Nat) {a0 a1 : Value} {x : Int32} {r : List Value} (hd : decode K.cc pc = .ok (.iload_n 2, 1)) (hn : pc + 1 = n) (k : mm_wp l G d K P n (a0 :: a1 :: .int x :: r) (.int x :: st) T M uc us) : mm_wp l G d K P pc (a0 :: a1 :: .int x :: r) st T M uc us := mm_iloadN n 2 hd rfl rfl hn k

theorem mm_aload_2 (n : Nat) {a0 a1 : Value} {x : Nat} {r : List Value} (hd : decode K.cc pc = .ok (.aload_n 2, 1)) (hn : pc + 1 = n) (k : mm_wp l G d K P n (a0 :: a1 :: .ref x :: r) (.ref x :: st) T M uc us) : mm_wp l G d K P pc (a0 :: a1 :: .ref x :: r) st T M uc us := mm_aloadN n 2 hd rfl rfl hn k

theorem mm_lload_2 (n : Nat) {a0 a1 : Value} {x : Int64} {r : List Value} (hd : decode K.cc pc = .ok (.lload_n 2, 1)) (hn : pc + 1 = n) (k : mm_wp l G d K P n (a0 :: a1 :: .long x :: r) (.long x :: st) T M uc us) : mm_wp l G d K P pc (a0 :: a1 :: .long x :: r) st T M uc us := mm_lloadN n 2 hd rfl rfl hn k

theorem mm_nload_2 (n : Nat) {a0 a1 : Value} {r : List Value} (hd : decode K.cc pc = .ok (.aload_n 2, 1)) (hn : pc + 1 = n) (k : mm_wp l G d K P n (a0 :: a1 :: .null :: r) (.null :: st) T M uc us) : mm_wp l G d K P pc (a0 :: a1 :: .null :: r) st T M uc us := mm_aloadNN n 2 hd rfl rfl hn k

theorem mm_istore_2 (n : Nat) {a0 a1 : Value} {b : Value} {x : Int32} {r : List Value} (hd : decode K.cc pc = .ok (.istore_n 2, 1)) (hn : pc + 1 = n) (hp : mm_nl a1 = true) (k : mm_wp l G d K P n (a0 :: a1 :: .int x :: r) st T M uc us) : mm_wp l G d K P pc (a0 :: a1 :: b :: r) (.int x :: st) T M uc us := mm_istoreN n 2 hd rfl (by simp) hp hn k

theorem mm_astore_2 (n : Nat) {a0 a1 : Value} {b : Value} {x : Nat} {r : List Value} (hd : decode K.cc pc = .ok (.astore_n 2, 1)) (hn : pc + 1 = n) (hp : mm_nl a1 = true) (k : mm_wp l G d K P n (a0 :: a1 :: .ref x :: r) st T M uc us) : mm_wp l G d K P pc (a0 :: a1 :: b :: r) (.ref x :: st) T M uc us := mm_astoreN n 2 hd rfl (by simp) hp hn k

theorem mm_nstore_2 (n : Nat) {a0 a1 : Value} {b : Value} {r : List Value} (hd : decode K.cc pc = .ok (.astore_n 2, 1)) (hn : pc + 1 = n) (hp : mm_nl a1 = true) (k : mm_wp l G d K P n (a0 :: a1 :: .null :: r) st T M uc us) : mm_wp l G d K P pc (a0 :: a1 :: b :: r) (.null :: st) T M uc us := mm_astoreNN n 2 hd rfl (by simp) hp hn k

theorem mm_iinc_2 (n : Nat) {a0 a1 : Value} {j : Int} {x : Int32} {r : List Value} (w : Int32) (hd : decode K.cc pc = .ok (.iinc 2 j, 3)) (hn : pc + 3 = n) (hw : Int32.ofInt j = w) (hp : mm_nl a1 = true) (k : mm_wp l G d K P n (a0 :: a1 :: .int (x + w) :: r) st T M uc us) : mm_wp l G d K P pc (a0 :: a1 :: .int x :: r) st T M uc us := mm_iincG n 2 w hd hw rfl hp hn k

theorem mm_iload_3 (n : Nat) {a0 a1 a2 : Value} {x : Int32} {r : List Value} (hd : decode K.cc pc = .ok (.iload_n 3, 1)) (hn : pc + 1 = n) (k : mm_wp l G d K P n (a0 :: a1 :: a2 :: .int x :: r) (.int x :: st) T M uc us) : mm_wp l G d K P pc (a0 :: a1 :: a2 :: .int x :: r) st T M uc us := mm_iloadN n 3 hd rfl rfl hn k

theorem mm_aload_3 (n : Nat) {a0 a1 a2 : Value} {x : Nat} {r : List Value} (hd : decode K.cc pc = .ok (.aload_n 3, 1)) (hn : pc + 1 = n) (k : mm_wp l G d K P n (a0 :: a1 :: a2 :: .ref x :: r) (.ref x :: st) T M uc us) : mm_wp l G d K P pc (a0 :: a1 :: a2 :: .ref x :: r) st T M uc us := mm_aloadN n 3 hd rfl rfl hn k

theorem mm_lload_3 (n : Nat) {a0 a1 a2 : Value} {x : Int64} {r : List Value} (hd : decode K.cc pc = .ok (.lload_n 3, 1)) (hn : pc + 1 = n) (k : mm_wp l G d K P n (a0 :: a1 :: a2 :: .long x :: r) (.long x :: st) T M uc us) : mm_wp l G d K P pc (a0 :: a1 :: a2 :: .long x :: r) st T M uc us := mm_lloadN n 3 hd rfl rfl hn k

theorem mm_nload_3 (n : Nat) {a0 a1 a2 : Value} {r : List Value} (hd : decode K.cc pc = .ok (.aload_n 3, 1)) (hn : pc + 1 = n) (k : mm_wp l G d K P n (a0 :: a1 :: a2 :: .null :: r) (.null :: st) T M uc us) : mm_wp l G d K P pc (a0 :: a1 :: a2 :: .null :: r) st T M uc us := mm_aloadNN n 3 hd rfl rfl hn k

theorem mm_istore_3 (n : Nat) {a0 a1 a2 : Value} {b : Value} {x : Int32} {r : List Value} (hd : decode K.cc pc = .ok (.istore_n 3, 1)) (hn : pc + 1 = n) (hp : mm_nl a2 = true) (k : mm_wp l G d K P n (a0 :: a1 :: a2 :: .int x :: r) st T M uc us) : mm_wp l G d K P pc (a0 :: a1 :: a2 :: b :: r) (.int x :: st) T M uc us := mm_istoreN n 3 hd rfl (by simp) hp hn k

theorem mm_astore_3 (n : Nat) {a0 a1 a2 : Value} {b : Value} {x : Nat} {r : List Value} (hd : decode K.cc pc = .ok (.astore_n 3, 1)) (hn : pc + 1 = n) (hp : mm_nl a2 = true) (k : mm_wp l G d K P n (a0 :: a1 :: a2 :: .ref x :: r) st T M uc us) : mm_wp l G d K P pc (a0 :: a1 :: a2 :: b :: r) (.ref x :: st) T M uc us := mm_astoreN n 3 hd rfl (by simp) hp hn k

theorem mm_nstore_3 (n : Nat) {a0 a1 a2 : Value} {b : Value} {r : List Value} (hd : decode K.cc pc = .ok (.astore_n 3, 1)) (hn : pc + 1 = n) (hp : mm_nl a2 = true) (k : mm_wp l G d K P n (a0 :: a1 :: a2 :: .null :: r) st T M uc us) : mm_wp l G d K P pc (a0 :: a1 :: a2 :: b :: r) (.null :: st) T M uc us := mm_astoreNN n 3 hd rfl (by simp) hp hn k

theorem mm_iinc_3 (n : Nat) {a0 a1 a2 : Value} {j : Int} {x : Int32} {r : List Value} (w : Int32) (hd : decode K.cc pc = .ok (.iinc 3 j, 3)) (hn : pc + 3 = n) (hw : Int32.ofInt j = w) (hp : mm_nl a2 = true) (k : mm_wp l G d K P n (a0 :: a1 :: a2 :: .int (x + w) :: r) st T M uc us) : mm_wp l G d K P pc (a0 :: a1 :: a2 :: .int x :: r) st T M uc us := mm_iincG n 3 w hd hw rfl hp hn k

theorem mm_iload_4 (n : Nat) {a0 a1 a2 a3 : Value} {x : Int32} {r : List Value} (hd : decode K.cc pc = .ok (.iload 4, 2)) (hn : pc + 2 = n) (k : mm_wp l G d K P n (a0 :: a1 :: a2 :: a3 :: .int x :: r) (.int x :: st) T M uc us) : mm_wp l G d K P pc (a0 :: a1 :: a2 :: a3 :: .int x :: r) st T M uc us := mm_iloadW n 4 hd rfl hn k

theorem mm_aload_4 (n : Nat) {a0 a1 a2 a3 : Value} {x : Nat} {r : List Value} (hd : decode K.cc pc = .ok (.aload 4, 2)) (hn : pc + 2 = n) (k : mm_wp l G d K P n (a0 :: a1 :: a2 :: a3 :: .ref x :: r) (.ref x :: st) T M uc us) : mm_wp l G d K P pc (a0 :: a1 :: a2 :: a3 :: .ref x :: r) st T M uc us := mm_aloadW n 4 hd rfl hn k

theorem mm_lload_4 (n : Nat) {a0 a1 a2 a3 : Value} {x : Int64} {r : List Value} (hd : decode K.cc pc = .ok (.lload 4, 2)) (hn : pc + 2 = n) (k : mm_wp l G d K P n (a0 :: a1 :: a2 :: a3 :: .long x :: r) (.long x :: st) T M uc us) : mm_wp l G d K P pc (a0 :: a1 :: a2 :: a3 :: .long x :: r) st T M uc us := mm_lloadW n 4 hd rfl hn k

theorem mm_nload_4 (n : Nat) {a0 a1 a2 a3 : Value} {r : List Value} (hd : decode K.cc pc = .ok (.aload 4, 2)) (hn : pc + 2 = n) (k : mm_wp l G d K P n (a0 :: a1 :: a2 :: a3 :: .null :: r) (.null :: st) T M uc us) : mm_wp l G d K P pc (a0 :: a1 :: a2 :: a3 :: .null :: r) st T M uc us := mm_aloadWN n 4 hd rfl hn k

theorem mm_istore_4 (n : Nat) {a0 a1 a2 a3 : Value} {b : Value} {x : Int32} {r : List Value} (hd : decode K.cc pc = .ok (.istore 4, 2)) (hn : pc + 2 = n) (hp : mm_nl a3 = true) (k : mm_wp l G d K P n (a0 :: a1 :: a2 :: a3 :: .int x :: r) st T M uc us) : mm_wp l G d K P pc (a0 :: a1 :: a2 :: a3 :: b :: r) (.int x :: st) T M uc us := mm_istoreW n 4 hd (by simp) hp hn k

theorem mm_astore_4 (n : Nat) {a0 a1 a2 a3 : Value} {b : Value} {x : Nat} {r : List Value} (hd : decode K.cc pc = .ok (.astore 4, 2)) (hn : pc + 2 = n) (hp : mm_nl a3 = true) (k : mm_wp l G d K P n (a0 :: a1 :: a2 :: a3 :: .ref x :: r) st T M uc us) : mm_wp l G d K P pc (a0 :: a1 :: a2 :: a3 :: b :: r) (.ref x :: st) T M uc us := mm_astoreW n 4 hd (by simp) hp hn k

theorem mm_nstore_4 (n : Nat) {a0 a1 a2 a3 : Value} {b : Value} {r : List Value} (hd : decode K.cc pc = .ok (.astore 4, 2)) (hn : pc + 2 = n) (hp : mm_nl a3 = true) (k : mm_wp l G d K P n (a0 :: a1 :: a2 :: a3 :: .null :: r) st T M uc us) : mm_wp l G d K P pc (a0 :: a1 :: a2 :: a3 :: b :: r) (.null :: st) T M uc us := mm_astoreWN n 4 hd (by simp) hp hn k

theorem mm_iinc_4 (n : Nat) {a0 a1 a2 a3 : Value} {j : Int} {x : Int32} {r : List Value} (w : Int32) (hd : decode K.cc pc = .ok (.iinc 4 j, 3)) (hn : pc + 3 = n) (hw : Int32.ofInt j = w) (hp : mm_nl a3 = true) (k : mm_wp l G d K P n (a0 :: a1 :: a2 :: a3 :: .int (x + w) :: r) st T M uc us) : mm_wp l G d K P pc (a0 :: a1 :: a2 :: a3 :: .int x :: r) st T M uc us := mm_iincG n 4 w hd hw rfl hp hn k

theorem mm_iload_5 (n : Nat) {a0 a1 a2 a3 a4 : Value} {x : Int32} {r : List Value} (hd : decode K.cc pc = .ok (.iload 5, 2)) (hn : pc + 2 = n) (k : mm_wp l G d K P n (a0 :: a1 :: a2 :: a3 :: a4 :: .int x :: r) (.int x :: st) T M uc us) : mm_wp l G d K P pc (a0 :: a1 :: a2 :: a3 :: a4 :: .int x :: r) st T M uc us := mm_iloadW n 5 hd rfl hn k

theorem mm_aload_5 (n : Nat) {a0 a1 a2 a3 a4 : Value} {x : Nat} {r : List Value} (hd : decode K.cc pc = .ok (.aload 5, 2)) (hn : pc + 2 = n) (k : mm_wp l G d K P n (a0 :: a1 :: a2 :: a3 :: a4 :: .ref x :: r) (.ref x :: st) T M uc us) : mm_wp l G d K P pc (a0 :: a1 :: a2 :: a3 :: a4 :: .ref x :: r) st T M uc us := mm_aloadW n 5 hd rfl hn k

theorem mm_lload_5 (n : Nat) {a0 a1 a2 a3 a4 : Value} {x : Int64} {r : List Value} (hd : decode K.cc pc = .ok (.lload 5, 2)) (hn : pc + 2 = n) (k : mm_wp l G d K P n (a0 :: a1 :: a2 :: a3 :: a4 :: .long x :: r) (.long x :: st) T M uc us) : mm_wp l G d K P pc (a0 :: a1 :: a2 :: a3 :: a4 :: .long x :: r) st T M uc us := mm_lloadW n 5 hd rfl hn k

theorem mm_nload_5 (n : Nat) {a0 a1 a2 a3 a4 : Value} {r : List Value} (hd : decode K.cc pc = .ok (.aload 5, 2)) (hn : pc + 2 = n) (k : mm_wp l G d K P n (a0 :: a1 :: a2 :: a3 :: a4 :: .null :: r) (.null :: st) T M uc us) : mm_wp l G d K P pc (a0 :: a1 :: a2 :: a3 :: a4 :: .null :: r) st T M uc us := mm_aloadWN n 5 hd rfl hn k

theorem mm_istore_5 (n : Nat) {a0 a1 a2 a3 a4 : Value} {b : Value} {x : Int32} {r : List Value} (hd : decode K.cc pc = .ok (.istore 5, 2)) (hn : pc + 2 = n) (hp : mm_nl a4 = true) (k : mm_wp l G d K P n (a0 :: a1 :: a2 :: a3 :: a4 :: .int x :: r) st T M uc us) : mm_wp l G d K P pc (a0 :: a1 :: a2 :: a3 :: a4 :: b :: r) (.int x :: st) T M uc us := mm_istoreW n 5 hd (by simp) hp hn k

theorem mm_astore_5 (n : Nat) {a0 a1 a2 a3 a4 : Value} {b : Value} {x : Nat} {r : List Value} (hd : decode K.cc pc = .ok (.astore 5, 2)) (hn : pc + 2 = n) (hp : mm_nl a4 = true) (k : mm_wp l G d K P n (a0 :: a1 :: a2 :: a3 :: a4 :: .ref x :: r) st T M uc us) : mm_wp l G d K P pc (a0 :: a1 :: a2 :: a3 :: a4 :: b :: r) (.ref x :: st) T M uc us := mm_astoreW n 5 hd (by simp) hp hn k

theorem mm_nstore_5 (n : Nat) {a0 a1 a2 a3 a4 : Value} {b : Value} {r : List Value} (hd : decode K.cc pc = .ok (.astore 5, 2)) (hn : pc + 2 = n) (hp : mm_nl a4 = true) (k : mm_wp l G d K P n (a0 :: a1 :: a2 :: a3 :: a4 :: .null :: r) st T M uc us) : mm_wp l G d K P pc (a0 :: a1 :: a2 :: a3 :: a4 :: b :: r) (.null :: st) T M uc us := mm_astoreWN n 5 hd (by simp) hp hn k

theorem mm_iinc_5 (n : Nat) {a0 a1 a2 a3 a4 : Value} {j : Int} {x : Int32} {r : List Value} (w : Int32) (hd : decode K.cc pc = .ok (.iinc 5 j, 3)) (hn : pc + 3 = n) (hw : Int32.ofInt j = w) (hp : mm_nl a4 = true) (k : mm_wp l G d K P n (a0 :: a1 :: a2 :: a3 :: a4 :: .int (x + w) :: r) st T M uc us) : mm_wp l G d K P pc (a0 :: a1 :: a2 :: a3 :: a4 :: .int x :: r) st T M uc us := mm_iincG n 5 w hd hw rfl hp hn k

theorem mm_iload_6 (n : Nat) {a0 a1 a2 a3 a4 a5 : Value} {x : Int32} {r : List Value} (hd : decode K.cc pc = .ok (.iload 6, 2)) (hn : pc + 2 = n) (k : mm_wp l G d K P n (a0 :: a1 :: a2 :: a3 :: a4 :: a5 :: .int x :: r) (.int x :: st) T M uc us) : mm_wp l G d K P pc (a0 :: a1 :: a2 :: a3 :: a4 :: a5 :: .int x :: r) st T M uc us := mm_iloadW n 6 hd rfl hn k

theorem mm_aload_6 (n : Nat) {a0 a1 a2 a3 a4 a5 : Value} {x : Nat} {r : List Value} (hd : decode K.cc pc = .ok (.aload 6, 2)) (hn : pc + 2 = n) (k : mm_wp l G d K P n (a0 :: a1 :: a2 :: a3 :: a4 :: a5 :: .ref x :: r) (.ref x :: st) T M uc us) : mm_wp l G d K P pc (a0 :: a1 :: a2 :: a3 :: a4 :: a5 :: .ref x :: r) st T M uc us := mm_aloadW n 6 hd rfl hn k

theorem mm_nload_6 (n : Nat) {a0 a1 a2 a3 a4 a5 : Value} {r : List Value} (hd : decode K.cc pc = .ok (.aload 6, 2)) (hn : pc + 2 = n) (k : mm_wp l G d K P n (a0 :: a1 :: a2 :: a3 :: a4 :: a5 :: .null :: r) (.null :: st) T M uc us) : mm_wp l G d K P pc (a0 :: a1 :: a2 :: a3 :: a4 :: a5 :: .null :: r) st T M uc us := mm_aloadWN n 6 hd rfl hn k

theorem mm_istore_6 (n : Nat) {a0 a1 a2 a3 a4 a5 : Value} {b : Value} {x : Int32} {r : List Value} (hd : decode K.cc pc = .ok (.istore 6, 2)) (hn : pc + 2 = n) (hp : mm_nl a5 = true) (k : mm_wp l G d K P n (a0 :: a1 :: a2 :: a3 :: a4 :: a5 :: .int x :: r) st T M uc us) : mm_wp l G d K P pc (a0 :: a1 :: a2 :: a3 :: a4 :: a5 :: b :: r) (.int x :: st) T M uc us := mm_istoreW n 6 hd (by simp) hp hn k

theorem mm_astore_6 (n : Nat) {a0 a1 a2 a3 a4 a5 : Value} {b : Value} {x : Nat} {r : List Value} (hd : decode K.cc pc = .ok (.astore 6, 2)) (hn : pc + 2 = n) (hp : mm_nl a5 = true) (k : mm_wp l G d K P n (a0 :: a1 :: a2 :: a3 :: a4 :: a5 :: .ref x :: r) st T M uc us) : mm_wp l G d K P pc (a0 :: a1 :: a2 :: a3 :: a4 :: a5 :: b :: r) (.ref x :: st) T M uc us := mm_astoreW n 6 hd (by simp) hp hn k

theorem mm_nstore_6 (n : Nat) {a0 a1 a2 a3 a4 a5 : Value} {b : Value} {r : List Value} (hd : decode K.cc pc = .ok (.astore 6, 2)) (hn : pc + 2 = n) (hp : mm_nl a5 = true) (k : mm_wp l G d K P n (a0 :: a1 :: a2 :: a3 :: a4 :: a5 :: .null :: r) st T M uc us) : mm_wp l G d K P pc (a0 :: a1 :: a2 :: a3 :: a4 :: a5 :: b :: r) (.null :: st) T M uc us := mm_astoreWN n 6 hd (by simp) hp hn k

theorem mm_iinc_6 (n : Nat) {a0 a1 a2 a3 a4 a5 : Value} {j : Int} {x : Int32} {r : List Value} (w : Int32) (hd : decode K.cc pc = .ok (.iinc 6 j, 3)) (hn : pc + 3 = n) (hw : Int32.ofInt j = w) (hp : mm_nl a5 = true) (k : mm_wp l G d K P n (a0 :: a1 :: a2 :: a3 :: a4 :: a5 :: .int (x + w) :: r) st T M uc us) : mm_wp l G d K P pc (a0 :: a1 :: a2 :: a3 :: a4 :: a5 :: .int x :: r) st T M uc us := mm_iincG n 6 w hd hw rfl hp hn k

theorem mm_iload_7 (n : Nat) {a0 a1 a2 a3 a4 a5 a6 : Value} {x : Int32} {r : List Value} (hd : decode K.cc pc = .ok (.iload 7, 2)) (hn : pc + 2 = n) (k : mm_wp l G d K P n (a0 :: a1 :: a2 :: a3 :: a4 :: a5 :: a6 :: .int x :: r) (.int x :: st) T M uc us) : mm_wp l G d K P pc (a0 :: a1 :: a2 :: a3 :: a4 :: a5 :: a6 :: .int x :: r) st T M uc us := mm_iloadW n 7 hd rfl hn k

theorem mm_aload_7 (n : Nat) {a0 a1 a2 a3 a4 a5 a6 : Value} {x : Nat} {r : List Value} (hd : decode K.cc pc = .ok (.aload 7, 2)) (hn : pc + 2 = n) (k : mm_wp l G d K P n (a0 :: a1 :: a2 :: a3 :: a4 :: a5 :: a6 :: .ref x :: r) (.ref x :: st) T M uc us) : mm_wp l G d K P pc (a0 :: a1 :: a2 :: a3 :: a4 :: a5 :: a6 :: .ref x :: r) st T M uc us := mm_aloadW n 7 hd rfl hn k

theorem mm_nload_7 (n : Nat) {a0 a1 a2 a3 a4 a5 a6 : Value} {r : List Value} (hd : decode K.cc pc = .ok (.aload 7, 2)) (hn : pc + 2 = n) (k : mm_wp l G d K P n (a0 :: a1 :: a2 :: a3 :: a4 :: a5 :: a6 :: .null :: r) (.null :: st) T M uc us) : mm_wp l G d K P pc (a0 :: a1 :: a2 :: a3 :: a4 :: a5 :: a6 :: .null :: r) st T M uc us := mm_aloadWN n 7 hd rfl hn k

theorem mm_istore_7 (n : Nat) {a0 a1 a2 a3 a4 a5 a6 : Value} {b : Value} {x : Int32} {r : List Value} (hd : decode K.cc pc = .ok (.istore 7, 2)) (hn : pc + 2 = n) (hp : mm_nl a6 = true) (k : mm_wp l G d K P n (a0 :: a1 :: a2 :: a3 :: a4 :: a5 :: a6 :: .int x :: r) st T M uc us) : mm_wp l G d K P pc (a0 :: a1 :: a2 :: a3 :: a4 :: a5 :: a6 :: b :: r) (.int x :: st) T M uc us := mm_istoreW n 7 hd (by simp) hp hn k

theorem mm_astore_7 (n : Nat) {a0 a1 a2 a3 a4 a5 a6 : Value} {b : Value} {x : Nat} {r : List Value} (hd : decode K.cc pc = .ok (.astore 7, 2)) (hn : pc + 2 = n) (hp : mm_nl a6 = true) (k : mm_wp l G d K P n (a0 :: a1 :: a2 :: a3 :: a4 :: a5 :: a6 :: .ref x :: r) st T M uc us) : mm_wp l G d K P pc (a0 :: a1 :: a2 :: a3 :: a4 :: a5 :: a6 :: b :: r) (.ref x :: st) T M uc us := mm_astoreW n 7 hd (by simp) hp hn k

theorem mm_nstore_7 (n : Nat) {a0 a1 a2 a3 a4 a5 a6 : Value} {b : Value} {r : List Value} (hd : decode K.cc pc = .ok (.astore 7, 2)) (hn : pc + 2 = n) (hp : mm_nl a6 = true) (k : mm_wp l G d K P n (a0 :: a1 :: a2 :: a3 :: a4 :: a5 :: a6 :: .null :: r) st T M uc us) : mm_wp l G d K P pc (a0 :: a1 :: a2 :: a3 :: a4 :: a5 :: a6 :: b :: r) (.null :: st) T M uc us := mm_astoreWN n 7 hd (by simp) hp hn k

theorem mm_iinc_7 (n : Nat) {a0 a1 a2 a3 a4 a5 a6 : Value} {j : Int} {x : Int32} {r : List Value} (w : Int32) (hd : decode K.cc pc = .ok (.iinc 7 j, 3)) (hn : pc + 3 = n) (hw : Int32.ofInt j = w) (hp : mm_nl a6 = true) (k : mm_wp l G d K P n (a0 :: a1 :: a2 :: a3 :: a4 :: a5 :: a6 :: .int (x + w) :: r) st T M uc us) : mm_wp l G d K P pc (a0 :: a1 :: a2 :: a3 :: a4 :: a5 :: a6 :: .int x :: r) st T M uc us := mm_iincG n 7 w hd hw rfl hp hn k

theorem mm_iload_8 (n : Nat) {a0 a1 a2 a3 a4 a5 a6 a7 : Value} {x : Int32} {r : List Value} (hd : decode K.cc pc = .ok (.iload 8, 2)) (hn : pc + 2 = n) (k : mm_wp l G d K P n (a0 :: a1 :: a2 :: a3 :: a4 :: a5 :: a6 :: a7 :: .int x :: r) (.int x :: st) T M uc us) : mm_wp l G d K P pc (a0 :: a1 :: a2 :: a3 :: a4 :: a5 :: a6 :: a7 :: .int x :: r) st T M uc us := mm_iloadW n 8 hd rfl hn k

theorem mm_aload_8 (n : Nat) {a0 a1 a2 a3 a4 a5 a6 a7 : Value} {x : Nat} {r : List Value} (hd : decode K.cc pc = .ok (.aload 8, 2)) (hn : pc + 2 = n) (k : mm_wp l G d K P n (a0 :: a1 :: a2 :: a3 :: a4 :: a5 :: a6 :: a7 :: .ref x :: r) (.ref x :: st) T M uc us) : mm_wp l G d K P pc (a0 :: a1 :: a2 :: a3 :: a4 :: a5 :: a6 :: a7 :: .ref x :: r) st T M uc us := mm_aloadW n 8 hd rfl hn k

theorem mm_nload_8 (n : Nat) {a0 a1 a2 a3 a4 a5 a6 a7 : Value} {r : List Value} (hd : decode K.cc pc = .ok (.aload 8, 2)) (hn : pc + 2 = n) (k : mm_wp l G d K P n (a0 :: a1 :: a2 :: a3 :: a4 :: a5 :: a6 :: a7 :: .null :: r) (.null :: st) T M uc us) : mm_wp l G d K P pc (a0 :: a1 :: a2 :: a3 :: a4 :: a5 :: a6 :: a7 :: .null :: r) st T M uc us := mm_aloadWN n 8 hd rfl hn k

theorem mm_istore_8 (n : Nat) {a0 a1 a2 a3 a4 a5 a6 a7 : Value} {b : Value} {x : Int32} {r : List Value} (hd : decode K.cc pc = .ok (.istore 8, 2)) (hn : pc + 2 = n) (hp : mm_nl a7 = true) (k : mm_wp l G d K P n (a0 :: a1 :: a2 :: a3 :: a4 :: a5 :: a6 :: a7 :: .int x :: r) st T M uc us) : mm_wp l G d K P pc (a0 :: a1 :: a2 :: a3 :: a4 :: a5 :: a6 :: a7 :: b :: r) (.int x :: st) T M uc us := mm_istoreW n 8 hd (by simp) hp hn k

theorem mm_astore_8 (n : Nat) {a0 a1 a2 a3 a4 a5 a6 a7 : Value} {b : Value} {x : Nat} {r : List Value} (hd : decode K.cc pc = .ok (.astore 8, 2)) (hn : pc + 2 = n) (hp : mm_nl a7 = true) (k : mm_wp l G d K P n (a0 :: a1 :: a2 :: a3 :: a4 :: a5 :: a6 :: a7 :: .ref x :: r) st T M uc us) : mm_wp l G d K P pc (a0 :: a1 :: a2 :: a3 :: a4 :: a5 :: a6 :: a7 :: b :: r) (.ref x :: st) T M uc us := mm_astoreW n 8 hd (by simp) hp hn k

theorem mm_nstore_8 (n : Nat) {a0 a1 a2 a3 a4 a5 a6 a7 : Value} {b : Value} {r : List Value} (hd : decode K.cc pc = .ok (.astore 8, 2)) (hn : pc + 2 = n) (hp : mm_nl a7 = true) (k : mm_wp l G d K P n (a0 :: a1 :: a2 :: a3 :: a4 :: a5 :: a6 :: a7 :: .null :: r) st T M uc us) : mm_wp l G d K P pc (a0 :: a1 :: a2 :: a3 :: a4 :: a5 :: a6 :: a7 :: b :: r) (.null :: st) T M uc us := mm_astoreWN n 8 hd (by simp) hp hn k

theorem mm_iinc_8 (n : Nat) {a0 a1 a2 a3 a4 a5 a6 a7 : Value} {j : Int} {x : Int32} {r : List Value} (w : Int32) (hd : decode K.cc pc = .ok (.iinc 8 j, 3)) (hn : pc + 3 = n) (hw : Int32.ofInt j = w) (hp : mm_nl a7 = true) (k : mm_wp l G d K P n (a0 :: a1 :: a2 :: a3 :: a4 :: a5 :: a6 :: a7 :: .int (x + w) :: r) st T M uc us) : mm_wp l G d K P pc (a0 :: a1 :: a2 :: a3 :: a4 :: a5 :: a6 :: a7 :: .int x :: r) st T M uc us := mm_iincG n 8 w hd hw rfl hp hn k

theorem mm_iload_9 (n : Nat) {a0 a1 a2 a3 a4 a5 a6 a7 a8 : Value} {x : Int32} {r : List Value} (hd : decode K.cc pc = .ok (.iload 9, 2)) (hn : pc + 2 = n) (k : mm_wp l G d K P n (a0 :: a1 :: a2 :: a3 :: a4 :: a5 :: a6 :: a7 :: a8 :: .int x :: r) (.int x :: st) T M uc us) : mm_wp l G d K P pc (a0 :: a1 :: a2 :: a3 :: a4 :: a5 :: a6 :: a7 :: a8 :: .int x :: r) st T M uc us := mm_iloadW n 9 hd rfl hn k

theorem mm_aload_9 (n : Nat) {a0 a1 a2 a3 a4 a5 a6 a7 a8 : Value} {x : Nat} {r : List Value} (hd : decode K.cc pc = .ok (.aload 9, 2)) (hn : pc + 2 = n) (k : mm_wp l G d K P n (a0 :: a1 :: a2 :: a3 :: a4 :: a5 :: a6 :: a7 :: a8 :: .ref x :: r) (.ref x :: st) T M uc us) : mm_wp l G d K P pc (a0 :: a1 :: a2 :: a3 :: a4 :: a5 :: a6 :: a7 :: a8 :: .ref x :: r) st T M uc us := mm_aloadW n 9 hd rfl hn k

theorem mm_nload_9 (n : Nat) {a0 a1 a2 a3 a4 a5 a6 a7 a8 : Value} {r : List Value} (hd : decode K.cc pc = .ok (.aload 9, 2)) (hn : pc + 2 = n) (k : mm_wp l G d K P n (a0 :: a1 :: a2 :: a3 :: a4 :: a5 :: a6 :: a7 :: a8 :: .null :: r) (.null :: st) T M uc us) : mm_wp l G d K P pc (a0 :: a1 :: a2 :: a3 :: a4 :: a5 :: a6 :: a7 :: a8 :: .null :: r) st T M uc us := mm_aloadWN n 9 hd rfl hn k

theorem mm_istore_9 (n : Nat) {a0 a1 a2 a3 a4 a5 a6 a7 a8 : Value} {b : Value} {x : Int32} {r : List Value} (hd : decode K.cc pc = .ok (.istore 9, 2)) (hn : pc + 2 = n) (hp : mm_nl a8 = true) (k : mm_wp l G d K P n (a0 :: a1 :: a2 :: a3 :: a4 :: a5 :: a6 :: a7 :: a8 :: .int x :: r) st T M uc us) : mm_wp l G d K P pc (a0 :: a1 :: a2 :: a3 :: a4 :: a5 :: a6 :: a7 :: a8 :: b :: r) (.int x :: st) T M uc us := mm_istoreW n 9 hd (by simp) hp hn k

theorem mm_astore_9 (n : Nat) {a0 a1 a2 a3 a4 a5 a6 a7 a8 : Value} {b : Value} {x : Nat} {r : List Value} (hd : decode K.cc pc = .ok (.astore 9, 2)) (hn : pc + 2 = n) (hp : mm_nl a8 = true) (k : mm_wp l G d K P n (a0 :: a1 :: a2 :: a3 :: a4 :: a5 :: a6 :: a7 :: a8 :: .ref x :: r) st T M uc us) : mm_wp l G d K P pc (a0 :: a1 :: a2 :: a3 :: a4 :: a5 :: a6 :: a7 :: a8 :: b :: r) (.ref x :: st) T M uc us := mm_astoreW n 9 hd (by simp) hp hn k

theorem mm_nstore_9 (n : Nat) {a0 a1 a2 a3 a4 a5 a6 a7 a8 : Value} {b : Value} {r : List Value} (hd : decode K.cc pc = .ok (.astore 9, 2)) (hn : pc + 2 = n) (hp : mm_nl a8 = true) (k : mm_wp l G d K P n (a0 :: a1 :: a2 :: a3 :: a4 :: a5 :: a6 :: a7 :: a8 :: .null :: r) st T M uc us) : mm_wp l G d K P pc (a0 :: a1 :: a2 :: a3 :: a4 :: a5 :: a6 :: a7 :: a8 :: b :: r) (.null :: st) T M uc us := mm_astoreWN n 9 hd (by simp) hp hn k

theorem mm_iinc_9 (n : Nat) {a0 a1 a2 a3 a4 a5 a6 a7 a8 : Value} {j : Int} {x : Int32} {r : List Value} (w : Int32) (hd : decode K.cc pc = .ok (.iinc 9 j, 3)) (hn : pc + 3 = n) (hw : Int32.ofInt j = w) (hp : mm_nl a8 = true) (k : mm_wp l G d K P n (a0 :: a1 :: a2 :: a3 :: a4 :: a5 :: a6 :: a7 :: a8 :: .int (x + w) :: r) st T M uc us) : mm_wp l G d K P pc (a0 :: a1 :: a2 :: a3 :: a4 :: a5 :: a6 :: a7 :: a8 :: .int x :: r) st T M uc us := mm_iincG n 9 w hd hw rfl hp hn k

theorem mm_iload_10 (n : Nat) {a0 a1 a2 a3 a4 a5 a6 a7 a8 a9 : Value} {x : Int32} {r : List Value} (hd : decode K.cc pc = .ok (.iload 10, 2)) (hn : pc + 2 = n) (k : mm_wp l G d K P n (a0 :: a1 :: a2 :: a3 :: a4 :: a5 :: a6 :: a7 :: a8 :: a9 :: .int x :: r) (.int x :: st) T M uc us) : mm_wp l G d K P pc (a0 :: a1 :: a2 :: a3 :: a4 :: a5 :: a6 :: a7 :: a8 :: a9 :: .int x :: r) st T M uc us := mm_iloadW n 10 hd rfl hn k

theorem mm_aload_10 (n : Nat) {a0 a1 a2 a3 a4 a5 a6 a7 a8 a9 : Value} {x : Nat} {r : List Value} (hd : decode K.cc pc = .ok (.aload 10, 2)) (hn : pc + 2 = n) (k : mm_wp l G d K P n (a0 :: a1 :: a2 :: a3 :: a4 :: a5 :: a6 :: a7 :: a8 :: a9 :: .ref x :: r) (.ref x :: st) T M uc us) : mm_wp l G d K P pc (a0 :: a1 :: a2 :: a3 :: a4 :: a5 :: a6 :: a7 :: a8 :: a9 :: .ref x :: r) st T M uc us := mm_aloadW n 10 hd rfl hn k

theorem mm_nload_10 (n : Nat) {a0 a1 a2 a3 a4 a5 a6 a7 a8 a9 : Value} {r : List Value} (hd : decode K.cc pc = .ok (.aload 10, 2)) (hn : pc + 2 = n) (k : mm_wp l G d K P n (a0 :: a1 :: a2 :: a3 :: a4 :: a5 :: a6 :: a7 :: a8 :: a9 :: .null :: r) (.null :: st) T M uc us) : mm_wp l G d K P pc (a0 :: a1 :: a2 :: a3 :: a4 :: a5 :: a6 :: a7 :: a8 :: a9 :: .null :: r) st T M uc us := mm_aloadWN n 10 hd rfl hn k

theorem mm_istore_10 (n : Nat) {a0 a1 a2 a3 a4 a5 a6 a7 a8 a9 : Value} {b : Value} {x : Int32} {r : List Value} (hd : decode K.cc pc = .ok (.istore 10, 2)) (hn : pc + 2 = n) (hp : mm_nl a9 = true) (k : mm_wp l G d K P n (a0 :: a1 :: a2 :: a3 :: a4 :: a5 :: a6 :: a7 :: a8 :: a9 :: .int x :: r) st T M uc us) : mm_wp l G d K P pc (a0 :: a1 :: a2 :: a3 :: a4 :: a5 :: a6 :: a7 :: a8 :: a9 :: b :: r) (.int x :: st) T M uc us := mm_istoreW n 10 hd (by simp) hp hn k

theorem mm_astore_10 (n : Nat) {a0 a1 a2 a3 a4 a5 a6 a7 a8 a9 : Value} {b : Value} {x : Nat} {r : List Value} (hd : decode K.cc pc = .ok (.astore 10, 2)) (hn : pc + 2 = n) (hp : mm_nl a9 = true) (k : mm_wp l G d K P n (a0 :: a1 :: a2 :: a3 :: a4 :: a5 :: a6 :: a7 :: a8 :: a9 :: .ref x :: r) st T M uc us) : mm_wp l G d K P pc (a0 :: a1 :: a2 :: a3 :: a4 :: a5 :: a6 :: a7 :: a8 :: a9 :: b :: r) (.ref x :: st) T M uc us := mm_astoreW n 10 hd (by simp) hp hn k

theorem mm_nstore_10 (n : Nat) {a0 a1 a2 a3 a4 a5 a6 a7 a8 a9 : Value} {b : Value} {r : List Value} (hd : decode K.cc pc = .ok (.astore 10, 2)) (hn : pc + 2 = n) (hp : mm_nl a9 = true) (k : mm_wp l G d K P n (a0 :: a1 :: a2 :: a3 :: a4 :: a5 :: a6 :: a7 :: a8 :: a9 :: .null :: r) st T M uc us) : mm_wp l G d K P pc (a0 :: a1 :: a2 :: a3 :: a4 :: a5 :: a6 :: a7 :: a8 :: a9 :: b :: r) (.null :: st) T M uc us := mm_astoreWN n 10 hd (by simp) hp hn k

theorem mm_iinc_10 (n : Nat) {a0 a1 a2 a3 a4 a5 a6 a7 a8 a9 : Value} {j : Int} {x : Int32} {r : List Value} (w : Int32) (hd : decode K.cc pc = .ok (.iinc 10 j, 3)) (hn : pc + 3 = n) (hw : Int32.ofInt j = w) (hp : mm_nl a9 = true) (k : mm_wp l G d K P n (a0 :: a1 :: a2 :: a3 :: a4 :: a5 :: a6 :: a7 :: a8 :: a9 :: .int (x + w) :: r) st T M uc us) : mm_wp l G d K P pc (a0 :: a1 :: a2 :: a3 :: a4 :: a5 :: a6 :: a7 :: a8 :: a9 :: .int x :: r) st T M uc us := mm_iincG n 10 w hd hw rfl hp hn k

theorem mm_iload_11 (n : Nat) {a0 a1 a2 a3 a4 a5 a6 a7 a8 a9 a10 : Value} {x : Int32} {r : List Value} (hd : decode K.cc pc = .ok (.iload 11, 2)) (hn : pc + 2 = n) (k : mm_wp l G d K P n (a0 :: a1 :: a2 :: a3 :: a4 :: a5 :: a6 :: a7 :: a8 :: a9 :: a10 :: .int x :: r) (.int x :: st) T M uc us) : mm_wp l G d K P pc (a0 :: a1 :: a2 :: a3 :: a4 :: a5 :: a6 :: a7 :: a8 :: a9 :: a10 :: .int x :: r) st T M uc us := mm_iloadW n 11 hd rfl hn k

theorem mm_aload_11 (n : Nat) {a0 a1 a2 a3 a4 a5 a6 a7 a8 a9 a10 : Value} {x : Nat} {r : List Value} (hd : decode K.cc pc = .ok (.aload 11, 2)) (hn : pc + 2 = n) (k : mm_wp l G d K P n (a0 :: a1 :: a2 :: a3 :: a4 :: a5 :: a6 :: a7 :: a8 :: a9 :: a10 :: .ref x :: r) (.ref x :: st) T M uc us) : mm_wp l G d K P pc (a0 :: a1 :: a2 :: a3 :: a4 :: a5 :: a6 :: a7 :: a8 :: a9 :: a10 :: .ref x :: r) st T M uc us := mm_aloadW n 11 hd rfl hn k

theorem mm_nload_11 (n : Nat) {a0 a1 a2 a3 a4 a5 a6 a7 a8 a9 a10 : Value} {r : List Value} (hd : decode K.cc pc = .ok (.aload 11, 2)) (hn : pc + 2 = n) (k : mm_wp l G d K P n (a0 :: a1 :: a2 :: a3 :: a4 :: a5 :: a6 :: a7 :: a8 :: a9 :: a10 :: .null :: r) (.null :: st) T M uc us) : mm_wp l G d K P pc (a0 :: a1 :: a2 :: a3 :: a4 :: a5 :: a6 :: a7 :: a8 :: a9 :: a10 :: .null :: r) st T M uc us := mm_aloadWN n 11 hd rfl hn k

theorem mm_istore_11 (n : Nat) {a0 a1 a2 a3 a4 a5 a6 a7 a8 a9 a10 : Value} {b : Value} {x : Int32} {r : List Value} (hd : decode K.cc pc = .ok (.istore 11, 2)) (hn : pc + 2 = n) (hp : mm_nl a10 = true) (k : mm_wp l G d K P n (a0 :: a1 :: a2 :: a3 :: a4 :: a5 :: a6 :: a7 :: a8 :: a9 :: a10 :: .int x :: r) st T M uc us) : mm_wp l G d K P pc (a0 :: a1 :: a2 :: a3 :: a4 :: a5 :: a6 :: a7 :: a8 :: a9 :: a10 :: b :: r) (.int x :: st) T M uc us := mm_istoreW n 11 hd (by simp) hp hn k

theorem mm_astore_11 (n : Nat) {a0 a1 a2 a3 a4 a5 a6 a7 a8 a9 a10 : Value} {b : Value} {x : Nat} {r : List Value} (hd : decode K.cc pc = .ok (.astore 11, 2)) (hn : pc + 2 = n) (hp : mm_nl a10 = true) (k : mm_wp l G d K P n (a0 :: a1 :: a2 :: a3 :: a4 :: a5 :: a6 :: a7 :: a8 :: a9 :: a10 :: .ref x :: r) st T M uc us) : mm_wp l G d K P pc (a0 :: a1 :: a2 :: a3 :: a4 :: a5 :: a6 :: a7 :: a8 :: a9 :: a10 :: b :: r) (.ref x :: st) T M uc us := mm_astoreW n 11 hd (by simp) hp hn k

theorem mm_nstore_11 (n : Nat) {a0 a1 a2 a3 a4 a5 a6 a7 a8 a9 a10 : Value} {b : Value} {r : List Value} (hd : decode K.cc pc = .ok (.astore 11, 2)) (hn : pc + 2 = n) (hp : mm_nl a10 = true) (k : mm_wp l G d K P n (a0 :: a1 :: a2 :: a3 :: a4 :: a5 :: a6 :: a7 :: a8 :: a9 :: a10 :: .null :: r) st T M uc us) : mm_wp l G d K P pc (a0 :: a1 :: a2 :: a3 :: a4 :: a5 :: a6 :: a7 :: a8 :: a9 :: a10 :: b :: r) (.null :: st) T M uc us := mm_astoreWN n 11 hd (by simp) hp hn k

theorem mm_iinc_11 (n : Nat) {a0 a1 a2 a3 a4 a5 a6 a7 a8 a9 a10 : Value} {j : Int} {x : Int32} {r : List Value} (w : Int32) (hd : decode K.cc pc = .ok (.iinc 11 j, 3)) (hn : pc + 3 = n) (hw : Int32.ofInt j = w) (hp : mm_nl a10 = true) (k : mm_wp l G d K P n (a0 :: a1 :: a2 :: a3 :: a4 :: a5 :: a6 :: a7 :: a8 :: a9 :: a10 :: .int (x + w) :: r) st T M uc us) : mm_wp l G d K P pc (a0 :: a1 :: a2 :: a3 :: a4 :: a5 :: a6 :: a7 :: a8 :: a9 :: a10 :: .int x :: r) st T M uc us := mm_iincG n 11 w hd hw rfl hp hn k

theorem mm_lstore_1 (n : Nat) {a0 b0 b1 : Value} {x : Int64} {r : List Value} (hd : decode K.cc pc = .ok (.lstore_n 1, 1)) (hn : pc + 1 = n) (hp : mm_nl a0 = true) (k : mm_wp l G d K P n (a0 :: .long x :: .double 0 :: r) st T M uc us) : mm_wp l G d K P pc (a0 :: b0 :: b1 :: r) (.long x :: st) T M uc us := mm_lstoreN n 1 hd rfl (by simp) hp hn k

end MM
