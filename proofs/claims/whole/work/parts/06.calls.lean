theorem mm_gi {ws : List Cond} (h : ∀ w ∈ ws, w ∈ mm_tb) : GoodIn mm_tb ws := fun w hw => ⟨h w hw, good_of_word (List.mem_filter.mp (h w hw)).2⟩
abbrev mm_wy (Y : mm_R) : List Cond := Cond.code Y.nm Y.cc Y.ml Y.rt :: mm_tb
abbrev mm_rm (d : Nat) (Y : mm_R) : Room := { frames := d, cells := Y.bc, slots := Y.bs, locals := 40 * d }
def mm_ok (Y : mm_R) : Prop := plainName Y.nm.cls = true ∧ (Y.nm.cls ≠ "java/lang/invoke/MethodHandle" ∧ Y.nm.cls ≠ "java/lang/invoke/VarHandle") ∧ Cond.code Y.nm Y.cc Y.ml Y.rt ∈ mm_tb ∧ Cond.initialized Y.nm.cls ∈ mm_tb ∧ Y.ml ≤ 21
def mm_Pc (G : mm_G) (av : List Value) (T : mm_T) (M : mm_M) : Array Value → State → Prop := fun v U => v = (av.map (mm_v G.ba G.bb)).toArray ∧ U.heap.size = G.ba + T.length ∧ mm_U G U ∧ mm_H G T M U.heap
def mm_Qc (G : mm_G) (Y : mm_R) (P : mm_P) : Array Value → State → Outcome → State → Prop := fun _ st o t => (∃ (v : Option Value) (T : mm_T) (M : mm_M), o = .returned (v.map (mm_v G.ba G.bb)) ∧ P v T M ∧ mm_H G T M t.heap ∧ st.heap.size + Y.bc = G.ba + T.length) ∧ va_F (mm_A G) st t
def mm_met (l : Launch) (G : mm_G) (d : Nat) (Y : mm_R) (av : List Value) (T : mm_T) (M : mm_M) (P : mm_P) : Prop := Met l Y.nm (mm_wy Y) (mm_rm d Y) (mm_Pc G av T M) (mm_Qc G Y P) Y.bc Y.bs (mm_A G)
def mm_in : List Value → List Value
  | [] => []
  | v :: vs => if v.category = 2 then v :: .double 0 :: mm_in vs else v :: mm_in vs
theorem mm_in_at {ba bb k : Nat} : ∀ (av : List Value) (i j : Nat) (v : Value), (mm_in av ++ List.replicate k (.double 0))[j]? = some v → mm_kn v = true → (i + j, mm_v ba bb v) ∈ lv_args i (av.map (mm_v ba bb))
  | [], i, j, v, h, hk => by
    simp only [mm_in, List.nil_append, List.getElem?_replicate] at h
    by_cases hj : j < k
    · rw [if_pos hj] at h; cases h; cases hk
    · rw [if_neg hj] at h; cases h
  | a :: av, i, j, v, h, hk => by
    show _ ∈ (i, mm_v ba bb a) :: lv_args (if (mm_v ba bb a).category = 2 then i + 2 else i + 1) (av.map (mm_v ba bb))
    rw [mm_v_cat]
    by_cases hc : a.category = 2
    · rw [if_pos hc]
      simp only [mm_in, if_pos hc] at h
      match j, h with
      | 0, h => cases h; exact List.mem_cons_self
      | 1, h => cases h; cases hk
      | j + 2, h =>
        have := mm_in_at (ba := ba) (bb := bb) av (i + 2) j v h hk
        rw [show i + (j + 2) = i + 2 + j by omega]
        exact List.mem_cons_of_mem _ this
    · rw [if_neg hc]
      simp only [mm_in, if_neg hc] at h
      match j, h with
      | 0, h => cases h; exact List.mem_cons_self
      | j + 1, h =>
        have := mm_in_at (ba := ba) (bb := bb) av (i + 1) j v h hk
        rw [show i + (j + 1) = i + 1 + j by omega]
        exact List.mem_cons_of_mem _ this
theorem mm_in_len {ba bb : Nat} : ∀ (av : List Value), (lg_sl (av.map (mm_v ba bb))).length = (mm_in av).length
  | [] => rfl
  | a :: av => by
    have ih := mm_in_len (ba := ba) (bb := bb) av
    unfold lg_sl at ih ⊢
    rw [List.map_cons, List.flatMap_cons, List.length_append, ih, mm_v_cat]
    by_cases hc : a.category = 2
    · simp only [mm_in, if_pos hc, List.length_cons, List.length_nil]; omega
    · simp only [mm_in, if_neg hc, List.length_cons, List.length_nil]; omega
/-- a method's contract out of its walk from the entry -/
theorem mm_enter {l : Launch} {G : mm_G} {d : Nat} {Y : mm_R} {P : mm_P} {av : List Value} {T : mm_T} {M : mm_M} (k : Nat) (ls : List Value) (ho : mm_ok Y) (hls : mm_in av ++ List.replicate k (.double 0) = ls) (hlen : ls.length = Y.ml) (h : mm_wp l G d Y P 0 ls [] T M 0 0) : mm_met l G d Y av T M P := by
  obtain ⟨o1, o2, o3, o4, o5⟩ := ho
  refine Met.ofW (cc := Y.cc) (maxL := Y.ml) (ret := Y.rt) o1 rfl ?_
  intro p e s m args below meth c s₁ B hml hv
  obtain ⟨rfl, hsz, hU, hH⟩ := hv
  have hts := atoms_spec (ws := mm_wy Y) B.pre
  have C : mm_C l G d Y P p e (mm_rm d Y) s m (av.map (mm_v G.ba G.bb)).toArray below meth c (MQ below (mm_Qc G Y P) (av.map (mm_v G.ba G.bb)).toArray s Y.bc Y.bs (mm_A G)) := by
    refine ⟨⟨B.exec, B.bytes, hml, findClass_of_methodNamed B.named, fun w hw => hts w (List.mem_cons_of_mem _ hw)⟩, (name_of_methodNamed B.named B.method).1, ⟨Nat.le_refl _, Nat.le_refl _, Nat.le_refl _, Nat.le_refl _⟩, hU, ?_⟩
    intro v T1 M1 H locs ls1 pc hP1 hH1 hS1 hz1 hrt
    have hq : ∀ t : State, t.heap = H → s.WarmedH t.vm → mm_Qc G Y P (av.map (mm_v G.ba G.bb)).toArray s (.returned (v.map (mm_v G.ba G.bb))) t := fun t ht _ => ⟨⟨v, T1, M1, rfl, hP1, by rw [ht]; exact hH1, hz1⟩, hS1.F ht⟩
    have hr := B.returns
    match v, hrt, hq with
    | none, hrt, hq => exact W.vret B.exec B.bytes (hr.trans hrt.1) hq hS1.2.2 hrt.2 B.notSynchronized
    | some (.int x), ⟨ty, h1, h2, h3⟩, hq => exact W.zret B.exec B.bytes (hr.trans h1) h2 hq hS1.2.2 h3 B.notSynchronized
    | some (.long x), hrt, hq => exact W.lret B.exec B.bytes (hr.trans hrt.1) hq hS1.2.2 hrt.2 B.notSynchronized
    | some (.ref x), ⟨⟨nm, h1⟩, h2⟩, hq => exact W.aret B.exec B.bytes (hr.trans h1) (Or.inl ⟨_, rfl⟩) (Or.inr ⟨_, rfl⟩) hq hS1.2.2 h2 B.notSynchronized
    | some .null, ⟨⟨nm, h1⟩, h2⟩, hq => exact W.aret B.exec B.bytes (hr.trans h1) (Or.inl ⟨_, rfl⟩) (Or.inl rfl) hq hS1.2.2 h2 B.notSynchronized
  have hlen2 : (lg_sl (av.map (mm_v G.ba G.bb))).length ≤ Y.ml := by
    rw [mm_in_len, ← hlen, ← hls, List.length_append]
    omega
  have hl := lv_entry (av.map (mm_v G.ba G.bb)) (n := Y.ml) hlen2
  rw [lg_entry_eq]
  refine h p e _ s m _ below meth c _ C s.heap [] _ hH va_S.rf ⟨hlen, hl.1, hl.2.1, fun q hq => ?_⟩ (by omega)
  obtain ⟨v, h1, h2, h3⟩ := mm_al_of hq
  rw [← hls] at h1
  have h4 := mm_in_at (ba := G.ba) (bb := G.bb) av 0 q.1 v h1 h2
  rw [Nat.zero_add, ← h3] at h4
  exact hl.2.2 _ h4
/-! answers -/
def mm_pi (Q : Int32 → mm_T → mm_M → Prop) : mm_P := fun v T M => ∃ r : Int32, v = some (.int r) ∧ Q r T M
def mm_pl (Q : Int64 → mm_T → mm_M → Prop) : mm_P := fun v T M => ∃ r : Int64, v = some (.long r) ∧ Q r T M
def mm_pv (Q : mm_T → mm_M → Prop) : mm_P := fun v T M => v = none ∧ Q T M
def mm_pr (Q : Option Nat → mm_T → mm_M → Prop) : mm_P := fun v T M => ∃ r : Option Nat, v = some (va_rf r) ∧ Q r T M
section MR
variable {l : Launch} {G : mm_G} {d : Nat} {K Y : mm_R} {P : mm_P} {pc : Nat} {ls st : List Value} {T : mm_T} {M : mm_M} {uc us : Nat}
theorem mm_ret {v : Option Value} (hu : uc = K.bc ∧ us ≤ K.bs) (hP : P v T M) (hr : mm_rt K.rt K.cc pc v) : mm_wp l G d K P pc ls v.toList T M uc us := by
  intro p e R s m args below meth c Q C H locs lsm hH hS hl hz
  obtain ⟨hu, hs⟩ := hu
  subst hu
  refine W.widen (k := K.bc) (n := K.bs) (Nat.le_refl _) hs ?_
  have := C.2.2.2.2 v T M H locs lsm pc hP hH hS hz hr
  cases v <;> exact this
theorem mm_iret {Q : Int32 → mm_T → mm_M → Prop} {x : Int32} (hd : decode K.cc pc = .ok (.ireturn, 1)) (hr : K.rt = some .int) (hu : uc = K.bc ∧ us ≤ K.bs) (hq : Q x T M) : mm_wp l G d K (mm_pi Q) pc ls [.int x] T M uc us := mm_ret (v := some (.int x)) hu ⟨x, rfl, hq⟩ ⟨.int, hr, rfl, hd⟩
theorem mm_zret {Q : Int32 → mm_T → mm_M → Prop} {x : Int32} (hd : decode K.cc pc = .ok (.ireturn, 1)) (hr : K.rt = some .boolean) (hu : uc = K.bc ∧ us ≤ K.bs) (hx : x = 0 ∨ x = 1) (hq : Q x T M) : mm_wp l G d K (mm_pi Q) pc ls [.int x] T M uc us := mm_ret (v := some (.int x)) hu ⟨x, rfl, hq⟩ ⟨.boolean, hr, by rcases hx with rfl | rfl <;> rfl, hd⟩
theorem mm_lret {Q : Int64 → mm_T → mm_M → Prop} {x : Int64} (hd : decode K.cc pc = .ok (.lreturn, 1)) (hr : K.rt = some .long) (hu : uc = K.bc ∧ us ≤ K.bs) (hq : Q x T M) : mm_wp l G d K (mm_pl Q) pc ls [.long x] T M uc us := mm_ret (v := some (.long x)) hu ⟨x, rfl, hq⟩ ⟨hr, hd⟩
theorem mm_vret {Q : mm_T → mm_M → Prop} (hd : decode K.cc pc = .ok (.return_, 1)) (hr : K.rt = none) (hu : uc = K.bc ∧ us ≤ K.bs) (hq : Q T M) : mm_wp l G d K (mm_pv Q) pc ls [] T M uc us := mm_ret (v := none) hu ⟨rfl, hq⟩ ⟨hr, hd⟩
theorem mm_aret {Q : Option Nat → mm_T → mm_M → Prop} {x : Nat} (nm : String) (hd : decode K.cc pc = .ok (.areturn, 1)) (hr : K.rt = some (.object nm)) (hu : uc = K.bc ∧ us ≤ K.bs) (hq : Q (some x) T M) : mm_wp l G d K (mm_pr Q) pc ls [.ref x] T M uc us := mm_ret (v := some (.ref x)) hu ⟨some x, rfl, hq⟩ ⟨⟨nm, hr⟩, hd⟩
theorem mm_nret {Q : Option Nat → mm_T → mm_M → Prop} (nm : String) (hd : decode K.cc pc = .ok (.areturn, 1)) (hr : K.rt = some (.object nm)) (hu : uc = K.bc ∧ us ≤ K.bs) (hq : Q none T M) : mm_wp l G d K (mm_pr Q) pc ls [.null] T M uc us := mm_ret (v := some .null) hu ⟨none, rfl, hq⟩ ⟨⟨nm, hr⟩, hd⟩
/-! calls -/
theorem mm_run {p : Program} {e : Env} {R : Room} {s : State} {m : MethodId} {args : Array Value} {below : List Frame} {meth : Method} {c : Code} {Q : State → Prop} {H : Heap} {locs : List Loc} {lsm : Array Slot} {st0 rest : List Value} {a : Array Value} (hr : va_Run p l e R s m args below meth c H locs uc us Y.bc Y.bs (F0 m pc lsm st0) rest (mm_Qc G Y P a) (mm_A G)) (hS : va_S (mm_A G) s.heap H locs)
    (kk : ∀ (v : Option Value) (T1 : mm_T) (M1 : mm_M) (H1 : Heap) (locs1 : List Loc), P v T1 M1 → mm_H G T1 M1 H1 → va_S (mm_A G) s.heap H1 locs1 → H.size + Y.bc = G.ba + T1.length → W p l e R s m args below meth c H1 locs1 (uc + Y.bc) (us + Y.bs) Q (F0 m (pc + 3) lsm ((v.map (mm_v G.ba G.bb)).toList ++ rest))) : W p l e R s m args below meth c H locs uc us Q (F0 m pc lsm st0) := by
  intro T0 hT X
  obtain ⟨v, st₀, t, T', L, h0, X', hL, e1, e2, ⟨⟨v1, T1, M1, hv, hP, hH1, hz⟩, hF⟩, st⟩ := hr T0 hT X
  cases hv
  rw [h0] at hz
  obtain ⟨hF1, hF2⟩ := hF
  rw [h0] at hF1 hF2
  obtain ⟨t2, a1, b1⟩ := kk v1 T1 M1 T'.heap (locs ++ L) hP (by rw [e1]; exact hH1)
    ⟨Nat.le_trans hS.1 (by rw [e1]; exact hF1), fun q h1 h2 => by rw [e1, hF2 q (Nat.lt_of_lt_of_le h1 hS.1) h2]; exact hS.2.1 q h1 h2, fun q hq => by
      rcases List.mem_append.mp hq with h | h
      · exact hS.2.2 q h
      · exact hL q h⟩ hz T' rfl X'
  exact ⟨t2, st t2 a1, b1⟩
theorem mm_blind {av : List Value} : FrameBlind (mm_Pc G av T M) := fun a U g mk h => ⟨h.1, h.2.1, h.2.2.1.blind g mk a, h.2.2.2⟩
theorem mm_pre {s : State} {H : Heap} {locs : List Loc} {av : List Value} (hU : mm_U G s) (hS : va_S (mm_A G) s.heap H locs) (hz : H.size = G.ba + T.length) (hH : mm_H G T M H) : ∀ U : State, U.heap = H → s.WarmedH U.vm → mm_Pc G av T M (av.map (mm_v G.ba G.bb)).toArray U := fun U hU2 hW => ⟨rfl, by rw [hU2]; exact hz, hU.moved hS hU2 hW, by rw [hU2]; exact hH⟩
theorem mm_eqz {s : State} {H : Heap} {locs : List Loc} (hU : mm_U G s) (hS : va_S (mm_A G) s.heap H locs) (hH : mm_H G T M H) (hz : s.heap.size + uc = G.ba + T.length) (h : H.size ≤ s.heap.size + uc) : H.size = G.ba + T.length := by
  have := hH.low (Nat.le_trans hU.2.2.2.1 hS.1)
  omega
theorem mm_rooms {R : Room} (ho : mm_ok Y) (h : (d + 1) ≤ R.frames ∧ 40 * (d + 1) ≤ R.locals) : (mm_rm d Y).frames + 1 ≤ R.frames ∧ 8 + (Y.ml + 11) + (mm_rm d Y).locals ≤ R.locals := by
  have := ho.2.2.2.2
  refine ⟨h.1, ?_⟩
  show 8 + (Y.ml + 11) + 40 * d ≤ R.locals
  omega
theorem mm_gy (ho : mm_ok Y) : ∀ w ∈ mm_wy Y, w ∈ mm_tb := fun w hw => (List.mem_cons.mp hw).elim (fun e => by rw [e]; exact ho.2.2.1) id
def mm_lV (own : String) (idx : Nat) (Y : mm_R) (n : Nat) : Prop := mm_ok Y ∧ Cond.methodLink own idx Y.nm ∈ mm_tb ∧ Cond.instanceMethod Y.nm ∈ mm_tb ∧ Cond.selects Y.nm.cls Y.nm Y.nm ∈ mm_tb ∧ (parseMethodDescriptor Y.nm.desc).map (fun d => d.parameters.length) = some n
def mm_lS (own : String) (idx : Nat) (Y : mm_R) (n : Nat) : Prop := mm_ok Y ∧ Cond.methodLink own idx Y.nm ∈ mm_tb ∧ Cond.static Y.nm ∈ mm_tb ∧ (parseMethodDescriptor Y.nm.desc).map (fun d => d.parameters.length) = some n
def mm_lSN (own : String) (idx : Nat) (Y : mm_R) (n : Nat) (host : String) : Prop := mm_ok Y ∧ Cond.methodLinkNest own idx Y.nm host ∈ mm_nest ∧ Cond.static Y.nm ∈ mm_tb ∧ (parseMethodDescriptor Y.nm.desc).map (fun d => d.parameters.length) = some n
def mm_lI (own : String) (idx : Nat) (Y : mm_R) (n : Nat) : Prop := mm_ok Y ∧ Cond.methodLink own idx Y.nm ∈ mm_tb ∧ Cond.instanceMethod Y.nm ∈ mm_tb ∧ Y.nm.name = "<init>" ∧ Y.rt = none ∧ (parseMethodDescriptor Y.nm.desc).map (fun d => d.parameters.length) = some n
def mm_lIN (own : String) (idx : Nat) (Y : mm_R) (n : Nat) (host : String) : Prop := mm_ok Y ∧ Cond.methodLinkNest own idx Y.nm host ∈ mm_nest ∧ Cond.instanceMethod Y.nm ∈ mm_tb ∧ Y.nm.name = "<init>" ∧ Y.rt = none ∧ (parseMethodDescriptor Y.nm.desc).map (fun d => d.parameters.length) = some n
theorem mm_callV (n : Nat) {idx c ci len k : Nat} {B : String} {F : u_T} {N : Nat} {rs : List (Option (Option Nat))} {As : List Value} (hd : decode K.cc pc = .ok (.invokevirtual idx, 3)) (hk : mm_lV K.nm.cls idx Y k) (hn : pc + 3 = n) (hlen : As.length = k) (hT : T[c]? = some (ci, len, rs)) (hci : ci < 13) (hcl : vwCl[ci]? = some (B, F, N)) (hB : Y.nm.cls = B) (hw : (st.map fun v => v.category).sum ≤ 8) (hu : uc + Y.bc ≤ K.bc ∧ us + Y.bs ≤ K.bs)
    (h : mm_met l G d Y (.ref c :: As) T M (fun v T1 M1 => mm_wp l G (d + 1) K P n ls (v.toList ++ st) T1 M1 (uc + Y.bc) (us + Y.bs))) : mm_wp l G (d + 1) K P pc ls (As.reverse ++ .ref c :: st) T M uc us := by
  subst hn
  subst hlen
  intro p e R s m args below meth c0 Q C H locs lsm hH hS hl hz
  refine mm_size fun hsz => ?_
  have hU := C.2.2.2.1
  have hR := C.2.2.1
  have hz2 := mm_eqz hU hS hH hz hsz
  obtain ⟨k1, k2, k3, k4, k5⟩ := hk
  subst hB
  have hG : GoodIn mm_tb (wsV K.nm.cls idx Y.nm.cls Y.nm (mm_wy Y)) := mm_gi (fun w hw => by
    rcases List.mem_append.mp hw with h1 | h1
    · simp only [List.mem_cons, List.not_mem_nil, or_false] at h1
      rcases h1 with rfl | rfl | rfl | rfl
      · exact k2
      · exact k3
      · exact k4
      · exact k1.2.2.2.1
    · exact mm_gy k1 w h1)
  have cw := cwV (R := R) (C := Y.nm.cls) (rm := mm_rm d Y) (mc := Y.bc) (ms := Y.bs) As.length C.1.2.2.2.2 hG rfl rfl rfl ⟨rfl, k1.2.1.1, k1.2.1.2, k5⟩ (mm_rooms k1 ⟨hR.1, hR.2.1⟩)
  have he : (mm_ws G.ba G.cy T M)[c]? = some (G.ba + c, .inr (ci, mm_fs G.ba (M c) rs)) := by rw [mm_ws_get hT, mm_e_O _ _ hci]
  have hrun := va_runV (g := F0 m pc lsm ((As.reverse ++ .ref c :: st).map (mm_v G.ba G.bb))) (b := G.ba + c) (As := As.map (mm_v G.ba G.bb)) (rest := st.map (mm_v G.ba G.bb)) (locs := locs) (e := e) (below := below) (meth := meth) (cells := uc) (slots := us) C.1 h cw ⟨mm_blind, va_recv hU.1 hH hcl he, mm_pre (av := .ref c :: As) hU hS hz2 hH⟩ rfl (by simp) hl.2.1 (by simp [mm_v]) (lv_room (by rw [mm_v_sum]; exact hw)) hd ⟨by omega, by omega⟩
  refine mm_run hrun hS (fun v T1 M1 H1 locs1 hP1 hH1 hS1 hz1 => ?_)
  have := hP1 p e R s m args below meth c0 Q C H1 locs1 lsm hH1 hS1 hl (by omega)
  cases v <;> exact this
theorem mm_callS (n : Nat) {idx k : Nat} {As : List Value} (hd : decode K.cc pc = .ok (.invokestatic idx, 3)) (hk : mm_lS K.nm.cls idx Y k) (hn : pc + 3 = n) (hlen : As.length = k) (hw : (st.map fun v => v.category).sum ≤ 8) (hu : uc + Y.bc ≤ K.bc ∧ us + Y.bs ≤ K.bs)
    (h : mm_met l G d Y As T M (fun v T1 M1 => mm_wp l G (d + 1) K P n ls (v.toList ++ st) T1 M1 (uc + Y.bc) (us + Y.bs))) : mm_wp l G (d + 1) K P pc ls (As.reverse ++ st) T M uc us := by
  subst hn
  subst hlen
  intro p e R s m args below meth c0 Q C H locs lsm hH hS hl hz
  refine mm_size fun hsz => ?_
  have hU := C.2.2.2.1
  have hR := C.2.2.1
  have hz2 := mm_eqz hU hS hH hz hsz
  obtain ⟨k1, k2, k3, k5⟩ := hk
  have hG : GoodIn mm_tb (va_wsS K.nm.cls idx Y.nm (mm_wy Y)) := mm_gi (fun w hw => by
    rcases List.mem_append.mp hw with h1 | h1
    · simp only [List.mem_cons, List.not_mem_nil, or_false] at h1
      rcases h1 with rfl | rfl | rfl
      · exact k2
      · exact k3
      · exact k1.2.2.2.1
    · exact mm_gy k1 w h1)
  have cw := va_cwS (R := R) (rm := mm_rm d Y) (mc := Y.bc) (ms := Y.bs) As.length C.1.2.2.2.2 hG rfl rfl rfl ⟨k1.2.1.1, k1.2.1.2, k5⟩ (mm_rooms k1 ⟨hR.1, hR.2.1⟩)
  have hrun := va_runS (g := F0 m pc lsm ((As.reverse ++ st).map (mm_v G.ba G.bb))) (As := As.map (mm_v G.ba G.bb)) (rest := st.map (mm_v G.ba G.bb)) (locs := locs) (e := e) (below := below) (meth := meth) (cells := uc) (slots := us) C.1 h cw ⟨mm_blind, mm_pre (av := As) hU hS hz2 hH⟩ rfl (by simp) hl.2.1 (by simp) (lv_room (by rw [mm_v_sum]; exact hw)) hd ⟨by omega, by omega⟩
  refine mm_run hrun hS (fun v T1 M1 H1 locs1 hP1 hH1 hS1 hz1 => ?_)
  have := hP1 p e R s m args below meth c0 Q C H1 locs1 lsm hH1 hS1 hl (by omega)
  cases v <;> exact this
theorem mm_callSN (n : Nat) {idx k : Nat} {host : String} {As : List Value} (hd : decode K.cc pc = .ok (.invokestatic idx, 3)) (hk : mm_lSN K.nm.cls idx Y k host) (hn : pc + 3 = n) (hlen : As.length = k) (hw : (st.map fun v => v.category).sum ≤ 8) (hu : uc + Y.bc ≤ K.bc ∧ us + Y.bs ≤ K.bs)
    (h : mm_met l G d Y As T M (fun v T1 M1 => mm_wp l G (d + 1) K P n ls (v.toList ++ st) T1 M1 (uc + Y.bc) (us + Y.bs))) : mm_wp l G (d + 1) K P pc ls (As.reverse ++ st) T M uc us := by
  subst hn
  subst hlen
  intro p e R s m args below meth c0 Q C H locs lsm hH hS hl hz
  refine mm_size fun hsz => ?_
  have hU := C.2.2.2.1
  have hR := C.2.2.1
  have hz2 := mm_eqz hU hS hH hz hsz
  obtain ⟨k1, k2, k3, k5⟩ := hk
  have cw := va_cnB (R := R) (rm := mm_rm d Y) (mc := Y.bc) (ms := Y.bs) As.length C.1.2.2.2.2 (mm_gi (mm_gy k1)) rfl rfl rfl (hU.2.2.2.2.2 _ k2) (C.1.2.2.2.2 _ k1.2.2.2.1) ⟨k1.2.1.1, k1.2.1.2, k5⟩ (mm_rooms k1 ⟨hR.1, hR.2.1⟩)
  have hrun := va_runSN (g := F0 m pc lsm ((As.reverse ++ st).map (mm_v G.ba G.bb))) (As := As.map (mm_v G.ba G.bb)) (rest := st.map (mm_v G.ba G.bb)) (locs := locs) (e := e) (below := below) (meth := meth) (cells := uc) (slots := us) C.1 h ⟨cw, C.1.2.2.2.2 _ k3, trivial⟩ ⟨mm_blind, mm_pre (av := As) hU hS hz2 hH⟩ rfl (by simp) hl.2.1 (by simp) (lv_room (by rw [mm_v_sum]; exact hw)) hd ⟨by omega, by omega⟩
  refine mm_run hrun hS (fun v T1 M1 H1 locs1 hP1 hH1 hS1 hz1 => ?_)
  have := hP1 p e R s m args below meth c0 Q C H1 locs1 lsm hH1 hS1 hl (by omega)
  cases v <;> exact this
theorem mm_callI (n : Nat) {idx c k : Nat} {As : List Value} (hd : decode K.cc pc = .ok (.invokespecial idx, 3)) (hk : mm_lI K.nm.cls idx Y k) (hn : pc + 3 = n) (hlen : As.length = k) (hw : (st.map fun v => v.category).sum ≤ 8) (hu : uc + Y.bc ≤ K.bc ∧ us + Y.bs ≤ K.bs)
    (h : mm_met l G d Y (.ref c :: As) T M (fun v T1 M1 => mm_wp l G (d + 1) K P n ls (v.toList ++ st) T1 M1 (uc + Y.bc) (us + Y.bs))) : mm_wp l G (d + 1) K P pc ls (As.reverse ++ .ref c :: st) T M uc us := by
  subst hn
  subst hlen
  intro p e R s m args below meth c0 Q C H locs lsm hH hS hl hz
  refine mm_size fun hsz => ?_
  have hU := C.2.2.2.1
  have hR := C.2.2.1
  have hz2 := mm_eqz hU hS hH hz hsz
  obtain ⟨k1, k2, k3, k4, k4b, k5⟩ := hk
  have cw := cwI (R := R) (rm := mm_rm d Y) (mc := Y.bc) (ms := Y.bs) (ws := mm_wy Y) (bytes := Y.cc) (maxL := Y.ml) (ws' := mm_tb) As.length C.1.2.2.2.2 (mm_gi (mm_gy k1)) (by rw [mm_wy, k4b]) rfl rfl (C.1.2.2.2.2 _ k1.2.2.2.1) (C.1.2.2.2.2 _ k2) (C.1.2.2.2.2 _ k3) k4 ⟨k1.2.1.1, k1.2.1.2, k5⟩ (mm_rooms k1 ⟨hR.1, hR.2.1⟩)
  have hrun := va_runI (g := F0 m pc lsm ((As.reverse ++ .ref c :: st).map (mm_v G.ba G.bb))) (b := G.ba + c) (As := As.map (mm_v G.ba G.bb)) (rest := st.map (mm_v G.ba G.bb)) (locs := locs) (e := e) (below := below) (meth := meth) (cells := uc) (slots := us) C.1 h cw ⟨mm_blind, mm_pre (av := .ref c :: As) hU hS hz2 hH⟩ rfl (by simp) hl.2.1 (by simp [mm_v]) (lv_room (by rw [mm_v_sum]; exact hw)) hd ⟨by omega, by omega⟩
  refine mm_run hrun hS (fun v T1 M1 H1 locs1 hP1 hH1 hS1 hz1 => ?_)
  have := hP1 p e R s m args below meth c0 Q C H1 locs1 lsm hH1 hS1 hl (by omega)
  cases v <;> exact this
theorem mm_callIN (n : Nat) {idx c k : Nat} {host : String} {As : List Value} (hd : decode K.cc pc = .ok (.invokespecial idx, 3)) (hk : mm_lIN K.nm.cls idx Y k host) (hn : pc + 3 = n) (hlen : As.length = k) (hw : (st.map fun v => v.category).sum ≤ 8) (hu : uc + Y.bc ≤ K.bc ∧ us + Y.bs ≤ K.bs)
    (h : mm_met l G d Y (.ref c :: As) T M (fun v T1 M1 => mm_wp l G (d + 1) K P n ls (v.toList ++ st) T1 M1 (uc + Y.bc) (us + Y.bs))) : mm_wp l G (d + 1) K P pc ls (As.reverse ++ .ref c :: st) T M uc us := by
  subst hn
  subst hlen
  intro p e R s m args below meth c0 Q C H locs lsm hH hS hl hz
  refine mm_size fun hsz => ?_
  have hU := C.2.2.2.1
  have hR := C.2.2.1
  have hz2 := mm_eqz hU hS hH hz hsz
  obtain ⟨k1, k2, k3, k4, k4b, k5⟩ := hk
  have cw := va_cnB (R := R) (rm := mm_rm d Y) (mc := Y.bc) (ms := Y.bs) (ws := mm_wy Y) (bytes := Y.cc) (maxL := Y.ml) (ret := none) (ws' := mm_tb) As.length C.1.2.2.2.2 (mm_gi (mm_gy k1)) (by rw [mm_wy, k4b]) rfl rfl (hU.2.2.2.2.2 _ k2) (C.1.2.2.2.2 _ k1.2.2.2.1) ⟨k1.2.1.1, k1.2.1.2, k5⟩ (mm_rooms k1 ⟨hR.1, hR.2.1⟩)
  have hrun := va_runIN (g := F0 m pc lsm ((As.reverse ++ .ref c :: st).map (mm_v G.ba G.bb))) (b := G.ba + c) (As := As.map (mm_v G.ba G.bb)) (rest := st.map (mm_v G.ba G.bb)) (locs := locs) (e := e) (below := below) (meth := meth) (cells := uc) (slots := us) C.1 h ⟨cw, k4, C.1.2.2.2.2 _ k3⟩ ⟨mm_blind, mm_pre (av := .ref c :: As) hU hS hz2 hH⟩ rfl (by simp) hl.2.1 (by simp [mm_v]) (lv_room (by rw [mm_v_sum]; exact hw)) hd ⟨by omega, by omega⟩
  refine mm_run hrun hS (fun v T1 M1 H1 locs1 hP1 hH1 hS1 hz1 => ?_)
  have := hP1 p e R s m args below meth c0 Q C H1 locs1 lsm hH1 hS1 hl (by omega)
  cases v <;> exact this
/-! the JDK's own -/
theorem mm_fMath : Cond.initialized "java/lang/Math" ∈ mm_tb ∧ (Cond.static Lib.Math.max.name ∈ mm_tb ∧ Cond.code Lib.Math.max.name Lib.Math.max.code 2 (some .int) ∈ mm_tb) ∧ (Cond.static Lib.Math.min.name ∈ mm_tb ∧ Cond.code Lib.Math.min.name Lib.Math.min.code 2 (some .int) ∈ mm_tb) ∧ Cond.static Lib.Math.abs.name ∈ mm_tb ∧ Cond.code Lib.Math.abs.name Lib.Math.abs.code 1 (some .int) ∈ mm_tb := by decide +kernel
theorem mm_fObj : Cond.instanceMethod Lib.objectInit ∈ mm_tb ∧ Cond.code Lib.objectInit ⟨#[0xb1]⟩ 1 none ∈ mm_tb := by decide +kernel
theorem mm_fCopy : Cond.native arraycopyName ∈ mm_tb ∧ Cond.static arraycopyName ∈ mm_tb ∧ Cond.initialized "java/lang/System" ∈ mm_tb := by decide +kernel
theorem mm_mmax (n : Nat) {idx : Nat} {x y : Int32} (hd : decode K.cc pc = .ok (.invokestatic idx, 3)) (hk : Cond.methodLink K.nm.cls idx Lib.Math.max.name ∈ mm_tb) (hn : pc + 3 = n) (hw : (st.map fun v => v.category).sum ≤ 8) (hu : uc ≤ K.bc ∧ us ≤ K.bs) (k : mm_wp l G (d + 1) K P n ls (.int (if x < y then y else x) :: st) T M uc us) : mm_wp l G (d + 1) K P pc ls (.int y :: .int x :: st) T M uc us := by
  subst hn
  intro p e R s m args below meth c0 Q C H locs lsm hH hS hl hz
  have hR := C.2.2.1
  have t := C.1.2.2.2.2
  exact va_mmax C.1.1 C.1.2.1 (C.1.2.2.1.trans hl.2.1.symm) C.1.2.2.2.1 (t _ hk) (t _ mm_fMath.2.1.1) (t _ mm_fMath.1) (t _ mm_fMath.2.1.2) (by omega) (by rw [mm_v_sum]; omega) (by omega) (by omega) hd (k p e R s m args below meth c0 Q C H locs lsm hH hS hl hz)
theorem mm_mmin (n : Nat) {idx : Nat} {x y : Int32} (hd : decode K.cc pc = .ok (.invokestatic idx, 3)) (hk : Cond.methodLink K.nm.cls idx Lib.Math.min.name ∈ mm_tb) (hn : pc + 3 = n) (hw : (st.map fun v => v.category).sum ≤ 8) (hu : uc ≤ K.bc ∧ us ≤ K.bs) (k : mm_wp l G (d + 1) K P n ls (.int (if y < x then y else x) :: st) T M uc us) : mm_wp l G (d + 1) K P pc ls (.int y :: .int x :: st) T M uc us := by
  subst hn
  intro p e R s m args below meth c0 Q C H locs lsm hH hS hl hz
  have hR := C.2.2.1
  have t := C.1.2.2.2.2
  exact va_mmin C.1.1 C.1.2.1 (C.1.2.2.1.trans hl.2.1.symm) C.1.2.2.2.1 (t _ hk) (t _ mm_fMath.2.2.1.1) (t _ mm_fMath.1) (t _ mm_fMath.2.2.1.2) (by omega) (by rw [mm_v_sum]; omega) (by omega) (by omega) hd (k p e R s m args below meth c0 Q C H locs lsm hH hS hl hz)
theorem mm_mabs (n : Nat) {idx : Nat} {x : Int32} (hd : decode K.cc pc = .ok (.invokestatic idx, 3)) (hk : Cond.methodLink K.nm.cls idx Lib.Math.abs.name ∈ mm_tb) (hn : pc + 3 = n) (hw : (st.map fun v => v.category).sum ≤ 8) (hu : uc ≤ K.bc ∧ us ≤ K.bs) (k : mm_wp l G (d + 1) K P n ls (.int (if 0 ≤ x then x else 0 - x) :: st) T M uc us) : mm_wp l G (d + 1) K P pc ls (.int x :: st) T M uc us := by
  subst hn
  intro p e R s m args below meth c0 Q C H locs lsm hH hS hl hz
  have hR := C.2.2.1
  have t := C.1.2.2.2.2
  exact va_mabs C.1.1 C.1.2.1 (C.1.2.2.1.trans hl.2.1.symm) C.1.2.2.2.1 (t _ hk) (t _ mm_fMath.2.2.2.1) (t _ mm_fMath.1) (t _ mm_fMath.2.2.2.2) (by omega) (by rw [mm_v_sum]; omega) (by omega) (by omega) hd (k p e R s m args below meth c0 Q C H locs lsm hH hS hl hz)
theorem mm_oinit (n : Nat) {idx c : Nat} (hd : decode K.cc pc = .ok (.invokespecial idx, 3)) (hk : Cond.methodLink K.nm.cls idx Lib.objectInit ∈ mm_tb) (hn : pc + 3 = n) (hw : (st.map fun v => v.category).sum ≤ 8) (k : mm_wp l G (d + 1) K P n ls st T M uc us) : mm_wp l G (d + 1) K P pc ls (.ref c :: st) T M uc us := by
  subst hn
  intro p e R s m args below meth c0 Q C H locs lsm hH hS hl hz
  have hR := C.2.2.1
  have t := C.1.2.2.2.2
  refine W.objInit C.1.1 C.1.2.1 C.1.2.2.2.1 (t _ hk) (t _ mm_fObj.1) (t _ mm_fObj.2) rfl (hl.2.1.trans C.1.2.2.1.symm) rfl hd (by omega) ?_ (k p e R s m args below meth c0 Q C H locs lsm hH hS hl hz)
  have h8 : 2 * (F0 m pc lsm (mm_v G.ba G.bb (.ref c) :: st.map (mm_v G.ba G.bb))).monitorRoom + ((st.map (mm_v G.ba G.bb)).map fun v => v.category).sum ≤ 8 := lv_room (by rw [mm_v_sum]; exact hw)
  exact Nat.le_trans (Nat.add_le_add_right h8 12) (by omega)
theorem mm_copy (n : Nat) {idx c0 c1 n0 n1 : Nat} {r0 r1 : List (Option (Option Nat))} {sp dp z : Int32} (hd : decode K.cc pc = .ok (.invokestatic idx, 3)) (hk : Cond.methodLink K.nm.cls idx arraycopyName ∈ mm_tb) (hn : pc + 3 = n) (hw : (st.map fun v => v.category).sum ≤ 8) (h0 : T[c0]? = some (13, n0, r0)) (h1 : T[c1]? = some (13, n1, r1)) (i1 : ¬ sp < 0) (i2 : ¬ dp < 0) (i3 : ¬ z < 0) (i4 : sp.toNatClampNeg + z.toNatClampNeg ≤ n0) (i5 : dp.toNatClampNeg + z.toNatClampNeg ≤ n1)
    (k : mm_wp l G (d + 1) K P n ls st T (va_up M c1 (va_cpy (M c0) (M c1) sp.toNatClampNeg dp.toNatClampNeg z.toNatClampNeg)) uc us) : mm_wp l G (d + 1) K P pc ls (.int z :: .int dp :: .ref c1 :: .int sp :: .ref c0 :: st) T M uc us := by
  subst hn
  intro p e R s m args below meth cd Q C H locs lsm hH hS hl hz
  have hR := C.2.2.1
  have t := C.1.2.2.2.2
  refine va_copyi (ty := .int) C.1.1 C.1.2.1 (C.1.2.2.1.trans hl.2.1.symm) C.1.2.2.2.1 (t _ hk) (t _ mm_fCopy.1) (t _ mm_fCopy.2.1) (t _ mm_fCopy.2.2) C.2.2.2.1.1 hH mm_hD hS c0 c1 0 0 (mm_ws_get h0) (mm_ws_get h1) rfl rfl rfl i1 i2 i3 i4 i5 (fun _ _ => rfl) (by omega) ?_ hd (fun H1 locs1 hP1 hD1 hS1 => ?_)
  · rw [mm_v_sum]
    have : nativeFrameWords "java/lang/System" "arraycopy" 5 = 7 := by decide
    rw [this]
    omega
  · refine k p e R s m args below meth cd Q C H1 locs1 lsm ?_ hS1 hl hz
    rw [← mm_e_I G.ba G.cy n1 r1, mm_ws_put h1] at hP1
    exact hP1
end MR
