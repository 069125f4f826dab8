/-! The world in abstract words. A value: .ref c is the cell number c (it lies at base + c), .float stands for the script, .double for a local of which nothing is known. -/
def mm_v (base bb : Nat) : Value → Value
  | .ref c => .ref (base + c)
  | .float _ => .ref bb
  | .int x => .int x
  | .long x => .long x
  | .double x => .double x
  | .null => .null
  | .retAddr x => .retAddr x
theorem mm_v_cat (base bb : Nat) (v : Value) : (mm_v base bb v).category = v.category := by cases v <;> rfl
theorem mm_v_sum (base bb : Nat) (st : List Value) : ((st.map (mm_v base bb)).map fun v => v.category).sum = (st.map fun v => v.category).sum := by
  rw [List.map_map]
  congr 1
  apply List.map_congr_left
  intro v _
  exact mm_v_cat base bb v
/-- a cell: its kind (a class by its place in vwCl; 13 ints, 14 booleans, 15 sheets), its length, its references (none: an int) -/
abbrev mm_D : Type := Nat × Nat × List (Option (Option Nat))
abbrev mm_T : Type := List mm_D
abbrev mm_M : Type := Nat → Nat → Int32
def mm_up (M : mm_M) (c f : Nat) (v : Int32) : mm_M := va_up M c (upd (M c) f v)
def mm_fv (base : Nat) (row : Nat → Int32) (q : Option (Option Nat) × Nat) : Value := match q.1 with
  | none => .int (row q.2)
  | some r => va_rf (r.map (fun c => base + c))
def mm_fs (base : Nat) (row : Nat → Int32) (refs : List (Option (Option Nat))) : List Value := refs.zipIdx.map (mm_fv base row)
def mm_rw (base : Nat) (refs : List (Option (Option Nat))) (i : Nat) : Option Nat := match refs[i]? with
  | some (some (some c)) => some (base + c)
  | _ => none
def mm_e (base : Nat) (cy : Nat → ClassId) (d : mm_D) (row : Nat → Int32) : va_E :=
  if d.1 = 13 then .inl (cy 0, d.2.1, .inl row) else if d.1 = 14 then .inl (cy 1, d.2.1, .inl row) else if d.1 = 15 then .inl (cy 2, d.2.1, .inr (.inr (.inr (.inr (mm_rw base d.2.2))))) else .inr (d.1, mm_fs base row d.2.2)
def mm_ws (base : Nat) (cy : Nat → ClassId) (T : mm_T) (M : mm_M) : va_W := T.zipIdx.map (fun q => (base + q.2, mm_e base cy q.1 (M q.2)))
theorem mm_e_I (base : Nat) (cy : Nat → ClassId) (n : Nat) (rs : List (Option (Option Nat))) (row : Nat → Int32) : mm_e base cy (13, n, rs) row = .inl (cy 0, n, .inl row) := rfl
theorem mm_e_Z (base : Nat) (cy : Nat → ClassId) (n : Nat) (rs : List (Option (Option Nat))) (row : Nat → Int32) : mm_e base cy (14, n, rs) row = .inl (cy 1, n, .inl row) := rfl
theorem mm_e_Q (base : Nat) (cy : Nat → ClassId) (n : Nat) (rs : List (Option (Option Nat))) (row : Nat → Int32) : mm_e base cy (15, n, rs) row = .inl (cy 2, n, .inr (.inr (.inr (.inr (mm_rw base rs))))) := rfl
theorem mm_e_O (base : Nat) (cy : Nat → ClassId) {k : Nat} (hk : k < 13) (n : Nat) (rs : List (Option (Option Nat))) (row : Nat → Int32) : mm_e base cy (k, n, rs) row = .inr (k, mm_fs base row rs) := by
  unfold mm_e
  rw [if_neg (by show ¬ k = 13; omega), if_neg (by show ¬ k = 14; omega), if_neg (by show ¬ k = 15; omega)]
theorem mm_ws_get {base : Nat} {cy : Nat → ClassId} {T : mm_T} {M : mm_M} {c : Nat} {d : mm_D} (h : T[c]? = some d) : (mm_ws base cy T M)[c]? = some (base + c, mm_e base cy d (M c)) := by
  simp [mm_ws, List.getElem?_map, List.getElem?_zipIdx, h]
theorem mm_ws_len {base : Nat} {cy : Nat → ClassId} {T : mm_T} {M : mm_M} : (mm_ws base cy T M).length = T.length := by simp [mm_ws]
theorem mm_ws_get' {base : Nat} {cy : Nat → ClassId} {T : mm_T} {M : mm_M} {c : Nat} {q : Nat × va_E} (h : (mm_ws base cy T M)[c]? = some q) : ∃ d, T[c]? = some d ∧ q = (base + c, mm_e base cy d (M c)) := by
  cases hd : T[c]? with
  | none => simp [mm_ws, List.getElem?_map, List.getElem?_zipIdx, hd] at h
  | some d =>
    rw [mm_ws_get hd] at h
    exact ⟨d, rfl, (Option.some.inj h).symm⟩
theorem mm_ws_set {base : Nat} {cy : Nat → ClassId} {T : mm_T} {M : mm_M} {c : Nat} {d d' : mm_D} {row : Nat → Int32} (h : T[c]? = some d) : (mm_ws base cy T M).set c (base + c, mm_e base cy d' row) = mm_ws base cy (T.set c d') (va_up M c row) := by
  have hc : c < T.length := (List.getElem?_eq_some_iff.mp h).1
  apply List.ext_getElem?
  intro i
  by_cases hi : i = c
  · subst hi
    rw [List.getElem?_set_self (by rw [mm_ws_len]; exact hc), mm_ws_get (d := d') (by rw [List.getElem?_set_self hc])]
    simp [va_up]
  · rw [List.getElem?_set_ne (Ne.symm hi)]
    cases hd : T[i]? with
    | none => simp [mm_ws, List.getElem?_map, List.getElem?_zipIdx, hd, List.getElem?_set_ne (Ne.symm hi)]
    | some x =>
      rw [mm_ws_get hd, mm_ws_get (d := x) (by rw [List.getElem?_set_ne (Ne.symm hi)]; exact hd)]
      simp [va_up, hi]
theorem mm_set_same {T : mm_T} {c : Nat} {d : mm_D} (h : T[c]? = some d) : T.set c d = T := by
  have hc : c < T.length := (List.getElem?_eq_some_iff.mp h).1
  apply List.ext_getElem?
  intro i
  by_cases hi : i = c
  · subst hi; rw [List.getElem?_set_self hc, h]
  · rw [List.getElem?_set_ne (Ne.symm hi)]
theorem mm_ws_put {base : Nat} {cy : Nat → ClassId} {T : mm_T} {M : mm_M} {c : Nat} {d : mm_D} {row : Nat → Int32} (h : T[c]? = some d) : (mm_ws base cy T M).set c (base + c, mm_e base cy d row) = mm_ws base cy T (va_up M c row) := by
  rw [mm_ws_set h, mm_set_same h]
theorem mm_up_same (M : mm_M) (c : Nat) : va_up M c (M c) = M := by
  funext j
  by_cases h : j = c
  · subst h; simp [va_up]
  · simp [va_up, h]
theorem mm_ws_ref {base : Nat} {cy : Nat → ClassId} {T : mm_T} {M : mm_M} {c : Nat} {d d' : mm_D} (h : T[c]? = some d) : (mm_ws base cy T M).set c (base + c, mm_e base cy d' (M c)) = mm_ws base cy (T.set c d') M := by
  rw [mm_ws_set h, mm_up_same]
theorem mm_ws_push {base : Nat} {cy : Nat → ClassId} {T : mm_T} {M : mm_M} {d : mm_D} {row : Nat → Int32} : mm_ws base cy T M ++ [(base + T.length, mm_e base cy d row)] = mm_ws base cy (T ++ [d]) (va_up M T.length row) := by
  apply List.ext_getElem?
  intro i
  by_cases hi : i < T.length
  · rw [List.getElem?_append_left (by rw [mm_ws_len]; exact hi)]
    obtain ⟨x, hx⟩ : ∃ x, T[i]? = some x := ⟨_, List.getElem?_eq_getElem hi⟩
    rw [mm_ws_get hx, mm_ws_get (d := x) (by rw [List.getElem?_append_left hi]; exact hx)]
    simp [va_up, Nat.ne_of_lt hi]
  · by_cases he : i = T.length
    · subst he
      rw [List.getElem?_append_right (by rw [mm_ws_len]; exact Nat.le_refl _), mm_ws_get (d := d) (by simp)]
      simp [mm_ws_len, va_up]
    · have h1 : T.length < i := by omega
      rw [List.getElem?_eq_none (by simp [mm_ws_len]; omega), List.getElem?_eq_none (by simp [mm_ws_len]; omega)]
theorem mm_ws_D {base : Nat} {cy : Nat → ClassId} {T : mm_T} {M : mm_M} : va_D (fun q => base ≤ q) (mm_ws base cy T M) := by
  refine ⟨fun i j p q hp hq he => ?_, fun k q hq => ?_⟩
  · obtain ⟨_, _, rfl⟩ := mm_ws_get' hp
    obtain ⟨_, _, rfl⟩ := mm_ws_get' hq
    have : base + i = base + j := he
    omega
  · obtain ⟨_, _, rfl⟩ := mm_ws_get' hq
    exact Nat.le_add_right _ _
theorem mm_fs_int {base : Nat} {row : Nat → Int32} {rs : List (Option (Option Nat))} {f : Nat} (h : rs[f]? = some none) : (mm_fs base row rs)[f]? = some (.int (row f)) := by
  simp [mm_fs, List.getElem?_map, List.getElem?_zipIdx, h, mm_fv]
theorem mm_fs_ref {base : Nat} {row : Nat → Int32} {rs : List (Option (Option Nat))} {f r : Nat} (h : rs[f]? = some (some (some r))) : (mm_fs base row rs)[f]? = some (.ref (base + r)) := by
  simp [mm_fs, List.getElem?_map, List.getElem?_zipIdx, h, mm_fv, va_rf]
theorem mm_fs_len {base : Nat} {row : Nat → Int32} {rs : List (Option (Option Nat))} : (mm_fs base row rs).length = rs.length := by simp [mm_fs]
theorem mm_fs_setI {base : Nat} {row : Nat → Int32} {rs : List (Option (Option Nat))} {f : Nat} {v : Int32} (h : rs[f]? = some none) : (mm_fs base row rs).set f (.int v) = mm_fs base (upd row f v) rs := by
  have hf : f < rs.length := (List.getElem?_eq_some_iff.mp h).1
  apply List.ext_getElem?
  intro i
  by_cases hi : i = f
  · subst hi
    rw [List.getElem?_set_self (by rw [mm_fs_len]; exact hf), mm_fs_int h]
    simp [upd]
  · rw [List.getElem?_set_ne (Ne.symm hi)]
    cases hd : rs[i]? with
    | none => simp [mm_fs, List.getElem?_map, List.getElem?_zipIdx, hd]
    | some x => cases x <;> simp [mm_fs, List.getElem?_map, List.getElem?_zipIdx, hd, mm_fv, upd, hi]
theorem mm_fs_setR {base : Nat} {row : Nat → Int32} {rs : List (Option (Option Nat))} {f r : Nat} (hf : f < rs.length) : (mm_fs base row rs).set f (.ref (base + r)) = mm_fs base row (rs.set f (some (some r))) := by
  apply List.ext_getElem?
  intro i
  by_cases hi : i = f
  · subst hi
    rw [List.getElem?_set_self (by rw [mm_fs_len]; exact hf), mm_fs_ref (r := r) (by rw [List.getElem?_set_self hf])]
  · rw [List.getElem?_set_ne (Ne.symm hi)]
    simp [mm_fs, List.getElem?_map, List.getElem?_zipIdx, List.getElem?_set_ne (Ne.symm hi)]
def mm_dv (x : Option (Option (Option Nat))) : Value := match x with
  | some none => .int 0
  | _ => .null
theorem mm_fs_new {base : Nat} {rs : List (Option (Option Nat))} (h : ∀ f : Nat, ∀ x, rs[f]? = some x → x = none ∨ x = some none) : ∀ j, vp_V (mm_fs base (fun _ => 0) rs) j = mm_dv rs[j]? := by
  intro j
  cases hd : rs[j]? with
  | none => simp [mm_dv, vp_V, mm_fs, List.getD_eq_getElem?_getD, List.getElem?_map, List.getElem?_zipIdx, hd]
  | some x => rcases h j x hd with rfl | rfl <;> simp [mm_dv, vp_V, mm_fs, List.getD_eq_getElem?_getD, List.getElem?_map, List.getElem?_zipIdx, hd, mm_fv, va_rf]
/-- the tables' words that stay as the tables warm; the links to a nest mate's private methods are carried apart -/
def mm_tb : List Cond := lw_tbl.filter goodWord
def mm_isN : Cond → Bool
  | .methodLinkNest _ _ _ _ => true
  | _ => false
def mm_nest : List Cond := lw_tbl.filter mm_isN
theorem mm_tb_in {w : Cond} (h : w ∈ mm_tb) : w ∈ lw_tbl := (List.mem_filter.mp h).1
theorem mm_nest_in {w : Cond} (h : w ∈ mm_nest) : w ∈ lw_tbl := (List.mem_filter.mp h).1
/-! The launch's own numbers: where the world begins, the script, the classes -/
abbrev mm_G : Type := Nat × Nat × Nat × (Nat → Int32) × (Nat → ClassId) × (Nat → ClassId) × (Nat → Nat → Nat)
abbrev mm_G.ba (G : mm_G) : Nat := G.1
abbrev mm_G.bb (G : mm_G) : Nat := G.2.1
abbrev mm_G.len (G : mm_G) : Nat := G.2.2.1
abbrev mm_G.xs (G : mm_G) : Nat → Int32 := G.2.2.2.1
abbrev mm_G.cy (G : mm_G) : Nat → ClassId := G.2.2.2.2.1
abbrev mm_G.dd (G : mm_G) : va_G := G.2.2.2.2.2
abbrev mm_tys (G : mm_G) : List (ClassId × FieldType) := [(G.cy 0, .int), (G.cy 1, .boolean), (G.cy 2, .object "MarriedMap$Sheet")]
def mm_A (G : mm_G) : Nat → Prop := fun q => G.ba ≤ q
def mm_H (G : mm_G) (T : mm_T) (M : mm_M) (H : Heap) : Prop := va_P G.dd vwCl (mm_ws G.ba G.cy T M) H
def mm_U (G : mm_G) (U : State) : Prop := va_K G.dd vwCl (mm_tys G) U ∧ va_X G.bb G.len G.xs U U.heap ∧ G.bb < G.ba ∧ G.ba ≤ U.heap.size ∧ va_AO "MarriedMap$Sheet" U ∧ ∀ w ∈ mm_nest, va_Nw w U
theorem mm_U.blind {G : mm_G} {U : State} (h : mm_U G U) (g : JFrame) (mk : MethodId) (a : Array Value) : mm_U G (U.calling g mk a) :=
  ⟨va_K.moved (u := U) (U := U.calling g mk a) (Vm.Alike.refl U.vm) h.1, va_X.moved (u := U) (U := U.calling g mk a) (Vm.Alike.refl U.vm) h.2.1, h.2.2.1, h.2.2.2.1, va_AO.moved (u := U) (U := U.calling g mk a) (Vm.Alike.refl U.vm) h.2.2.2.2.1, fun w hw => by
    have hn := (List.mem_filter.mp hw).2
    cases w <;> first | exact va_Nw.same rfl (u := U) (U := U.calling g mk a) rfl (h.2.2.2.2.2 _ hw) | cases hn⟩
theorem mm_U.moved {G : mm_G} {s U : State} {H : Heap} {locs : List Loc} (h : mm_U G s) (hS : va_S (mm_A G) s.heap H locs) (hU : U.heap = H) (hW : s.WarmedH U.vm) : mm_U G U := by
  obtain ⟨h1, h2, h3, h4, h5, h6⟩ := h
  refine ⟨va_K.moved hW.alike h1, ?_, h3, ?_, va_AO.moved hW.alike h5, fun w hw => ?_⟩
  · refine va_X.moved hW.alike (va_X.kept (H := s.heap) h2 ?_)
    rw [hU]
    exact hS.2.1 _ (Nat.lt_of_lt_of_le h3 h4) (Nat.not_le.mpr h3)
  · rw [hU]; exact Nat.le_trans h4 hS.1
  · have hn := (List.mem_filter.mp hw).2
    cases w <;> first | exact va_Nw.warmM hW (h6 _ hw) | cases hn
theorem mm_hD {G : mm_G} {T : mm_T} {M : mm_M} : va_D (mm_A G) (mm_ws G.ba G.cy T M) := mm_ws_D
theorem mm_H.low {G : mm_G} {T : mm_T} {M : mm_M} {H : Heap} (h : mm_H G T M H) (hb : G.ba ≤ H.size) : G.ba + T.length ≤ H.size := by
  cases hT : T.length with
  | zero => exact hb
  | succ k =>
    obtain ⟨x, hx⟩ : ∃ x, T[k]? = some x := ⟨_, List.getElem?_eq_getElem (by omega)⟩
    have h1 := (h k _ (mm_ws_get hx)).lt
    have h2 : G.ba + k < H.size := h1
    omega
