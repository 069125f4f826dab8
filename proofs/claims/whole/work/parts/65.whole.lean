/-! The law: its loop, its beginning, the claim -/

set_option maxHeartbeats 4000000 in
theorem w_L_next {l : Launch} {G : mm_G} {d : Nat} {Q : Int32 → mm_T → mm_M → Prop} {z : UInt32} {i : Nat} {M : mm_M} (K : mm_wp l G (d + 13) k_L_law (mm_pi Q) 18 [.float z, .ref 0, .ref 51, .int (nI (i + 6))] [] T0 M 80 1835) : mm_wp l G (d + 13) k_L_law (mm_pi Q) 1200 [.float z, .ref 0, .ref 51, .int (nI i)] [] T0 M 80 1835 := by
  refine mm_iinc_3 1203 6 dL_law_1200 rfl (by decide) rfl ?_
  refine mm_goto 18 dL_law_1203 (by decide) ?_
  rw [show (6 : Int32) = nI 6 from rfl, nI_add]
  exact K

set_option maxHeartbeats 4000000 in
theorem w_L_loop {l : Launch} {G : mm_G} {d : Nat} {Q : Int32 → mm_T → mm_M → Prop} {z : UInt32} (h3 : G.len ≤ 3072) (h : ∀ M, iv M → Q 1 T0 M) : ∀ (y i : Nat) (M : mm_M), G.len + 12 - i ≤ y → i ≤ G.len + 6 → iv M → mm_wp l G (d + 13) k_L_law (mm_pi Q) 18 [.float z, .ref 0, .ref 51, .int (nI i)] [] T0 M 80 1835 := by
  have hG : G.len < 2147483648 := by omega
  have hLi : (nI G.len - 6).toInt = (G.len : Int) - 6 := by rw [mm_sub (by rw [mm_ti (by omega)]; simp only [Int32.reduceToInt]; omega), mm_ti (by omega)]; rfl
  intro y
  induction y using Nat.strongRecOn with | _ y ih => ?_
  intro i M hy hin hi
  have hii : (nI i).toInt = i := mm_ti (by omega)
  refine mm_iload_3 19 dL_law_18 rfl ?_
  refine mm_sload_0 20 dL_law_19 rfl ?_
  refine mm_slen 21 dL_law_20 rfl ?_
  refine mm_bipush 23 6 dL_law_21 rfl (by decide) ?_
  refine mm_isub 24 dL_law_23 rfl ?_
  refine mm_ic_gt 1206 27 dL_law_24 (by decide) rfl (fun h1 => ?_) (fun h1 => ?_)
  · refine mm_iconst 1207 1 dL_law_1206 rfl (by decide) ?_
    refine mm_zret dL_law_1207 rfl ⟨rfl, Nat.le_refl _⟩ (Or.inr rfl) ?_
    exact h M hi
  · have hl : i + 6 ≤ G.len := by have q := h1; rw [mm_lt, hii, hLi] at q; omega
    refine mm_sload_0 28 dL_law_27 rfl ?_
    refine mm_iload_3 29 dL_law_28 rfl ?_
    refine mm_sloadn 30 (i) dL_law_29 rfl hG (rfl) (by omega) ?_
    refine mm_bipush 32 63 dL_law_30 rfl (by decide) ?_
    refine mm_iand 33 dL_law_32 rfl ?_
    refine mm_topi (fun s2 e3 => ?_)
    by_cases h4 : s2.toInt = 0
    · skip
      refine mm_tabIn 180 dL_law_33 (by rw [h4]; decide) (by rw [h4]; decide) (off := 147) (by rw [h4]; rfl) (by decide) ?_
      exact w_L_0 hi hG hl (fun M1 v1 => w_L_next (ih (G.len + 12 - (i + 6)) (by omega) (i + 6) M1 (Nat.le_refl _) (by omega) v1))
    by_cases h5 : s2.toInt = 1
    · skip
      refine mm_tabIn 213 dL_law_33 (by rw [h5]; decide) (by rw [h5]; decide) (off := 180) (by rw [h5]; rfl) (by decide) ?_
      exact w_L_1 hi hG hl (fun M1 v1 => w_L_next (ih (G.len + 12 - (i + 6)) (by omega) (i + 6) M1 (Nat.le_refl _) (by omega) v1))
    by_cases h6 : s2.toInt = 2
    · skip
      refine mm_tabIn 236 dL_law_33 (by rw [h6]; decide) (by rw [h6]; decide) (off := 203) (by rw [h6]; rfl) (by decide) ?_
      exact w_L_2 hi hG hl (fun M1 v1 => w_L_next (ih (G.len + 12 - (i + 6)) (by omega) (i + 6) M1 (Nat.le_refl _) (by omega) v1))
    by_cases h7 : s2.toInt = 3
    · skip
      refine mm_tabIn 259 dL_law_33 (by rw [h7]; decide) (by rw [h7]; decide) (off := 226) (by rw [h7]; rfl) (by decide) ?_
      exact w_L_3 hi hG hl (fun M1 v1 => w_L_next (ih (G.len + 12 - (i + 6)) (by omega) (i + 6) M1 (Nat.le_refl _) (by omega) v1))
    by_cases h8 : s2.toInt = 4
    · skip
      refine mm_tabIn 292 dL_law_33 (by rw [h8]; decide) (by rw [h8]; decide) (off := 259) (by rw [h8]; rfl) (by decide) ?_
      exact w_L_4 hi hG hl (fun M1 v1 => w_L_next (ih (G.len + 12 - (i + 6)) (by omega) (i + 6) M1 (Nat.le_refl _) (by omega) v1))
    by_cases h9 : s2.toInt = 5
    · skip
      refine mm_tabIn 325 dL_law_33 (by rw [h9]; decide) (by rw [h9]; decide) (off := 292) (by rw [h9]; rfl) (by decide) ?_
      exact w_L_5 hi hG hl (fun M1 v1 => w_L_next (ih (G.len + 12 - (i + 6)) (by omega) (i + 6) M1 (Nat.le_refl _) (by omega) v1))
    by_cases h10 : s2.toInt = 6
    · skip
      refine mm_tabIn 358 dL_law_33 (by rw [h10]; decide) (by rw [h10]; decide) (off := 325) (by rw [h10]; rfl) (by decide) ?_
      exact w_L_6 hi hG hl (fun M1 v1 => w_L_next (ih (G.len + 12 - (i + 6)) (by omega) (i + 6) M1 (Nat.le_refl _) (by omega) v1))
    by_cases h11 : s2.toInt = 7
    · skip
      refine mm_tabIn 411 dL_law_33 (by rw [h11]; decide) (by rw [h11]; decide) (off := 378) (by rw [h11]; rfl) (by decide) ?_
      exact w_L_7 hi hG hl (fun M1 v1 => w_L_next (ih (G.len + 12 - (i + 6)) (by omega) (i + 6) M1 (Nat.le_refl _) (by omega) v1))
    by_cases h12 : s2.toInt = 8
    · skip
      refine mm_tabIn 454 dL_law_33 (by rw [h12]; decide) (by rw [h12]; decide) (off := 421) (by rw [h12]; rfl) (by decide) ?_
      exact w_L_8 hi hG hl (fun M1 v1 => w_L_next (ih (G.len + 12 - (i + 6)) (by omega) (i + 6) M1 (Nat.le_refl _) (by omega) v1))
    by_cases h13 : s2.toInt = 9
    · skip
      refine mm_tabIn 487 dL_law_33 (by rw [h13]; decide) (by rw [h13]; decide) (off := 454) (by rw [h13]; rfl) (by decide) ?_
      exact w_L_9 hi hG hl (fun M1 v1 => w_L_next (ih (G.len + 12 - (i + 6)) (by omega) (i + 6) M1 (Nat.le_refl _) (by omega) v1))
    by_cases h14 : s2.toInt = 10
    · skip
      refine mm_tabIn 500 dL_law_33 (by rw [h14]; decide) (by rw [h14]; decide) (off := 467) (by rw [h14]; rfl) (by decide) ?_
      exact w_L_10 hi hG hl (fun M1 v1 => w_L_next (ih (G.len + 12 - (i + 6)) (by omega) (i + 6) M1 (Nat.le_refl _) (by omega) v1))
    by_cases h15 : s2.toInt = 11
    · skip
      refine mm_tabIn 513 dL_law_33 (by rw [h15]; decide) (by rw [h15]; decide) (off := 480) (by rw [h15]; rfl) (by decide) ?_
      exact w_L_11 hi hG hl (fun M1 v1 => w_L_next (ih (G.len + 12 - (i + 6)) (by omega) (i + 6) M1 (Nat.le_refl _) (by omega) v1))
    by_cases h16 : s2.toInt = 12
    · skip
      refine mm_tabIn 536 dL_law_33 (by rw [h16]; decide) (by rw [h16]; decide) (off := 503) (by rw [h16]; rfl) (by decide) ?_
      exact w_L_12 hi hG hl (fun M1 v1 => w_L_next (ih (G.len + 12 - (i + 6)) (by omega) (i + 6) M1 (Nat.le_refl _) (by omega) v1))
    by_cases h17 : s2.toInt = 13
    · skip
      refine mm_tabIn 569 dL_law_33 (by rw [h17]; decide) (by rw [h17]; decide) (off := 536) (by rw [h17]; rfl) (by decide) ?_
      exact w_L_13 hi hG hl (fun M1 v1 => w_L_next (ih (G.len + 12 - (i + 6)) (by omega) (i + 6) M1 (Nat.le_refl _) (by omega) v1))
    by_cases h18 : s2.toInt = 14
    · skip
      refine mm_tabIn 612 dL_law_33 (by rw [h18]; decide) (by rw [h18]; decide) (off := 579) (by rw [h18]; rfl) (by decide) ?_
      exact w_L_14 hi hG hl (fun M1 v1 => w_L_next (ih (G.len + 12 - (i + 6)) (by omega) (i + 6) M1 (Nat.le_refl _) (by omega) v1))
    by_cases h19 : s2.toInt = 15
    · skip
      refine mm_tabIn 635 dL_law_33 (by rw [h19]; decide) (by rw [h19]; decide) (off := 602) (by rw [h19]; rfl) (by decide) ?_
      exact w_L_15 hi hG hl (fun M1 v1 => w_L_next (ih (G.len + 12 - (i + 6)) (by omega) (i + 6) M1 (Nat.le_refl _) (by omega) v1))
    by_cases h20 : s2.toInt = 16
    · skip
      refine mm_tabIn 668 dL_law_33 (by rw [h20]; decide) (by rw [h20]; decide) (off := 635) (by rw [h20]; rfl) (by decide) ?_
      exact w_L_16 hi hG hl (fun M1 v1 => w_L_next (ih (G.len + 12 - (i + 6)) (by omega) (i + 6) M1 (Nat.le_refl _) (by omega) v1))
    by_cases h21 : s2.toInt = 17
    · skip
      refine mm_tabIn 701 dL_law_33 (by rw [h21]; decide) (by rw [h21]; decide) (off := 668) (by rw [h21]; rfl) (by decide) ?_
      exact w_L_17 hi hG hl (fun M1 v1 => w_L_next (ih (G.len + 12 - (i + 6)) (by omega) (i + 6) M1 (Nat.le_refl _) (by omega) v1))
    by_cases h22 : s2.toInt = 18
    · skip
      refine mm_tabIn 714 dL_law_33 (by rw [h22]; decide) (by rw [h22]; decide) (off := 681) (by rw [h22]; rfl) (by decide) ?_
      exact w_L_18 hi hG hl (fun M1 v1 => w_L_next (ih (G.len + 12 - (i + 6)) (by omega) (i + 6) M1 (Nat.le_refl _) (by omega) v1))
    by_cases h23 : s2.toInt = 19
    · skip
      refine mm_tabIn 757 dL_law_33 (by rw [h23]; decide) (by rw [h23]; decide) (off := 724) (by rw [h23]; rfl) (by decide) ?_
      exact w_L_19 hi hG hl (fun M1 v1 => w_L_next (ih (G.len + 12 - (i + 6)) (by omega) (i + 6) M1 (Nat.le_refl _) (by omega) v1))
    by_cases h24 : s2.toInt = 20
    · skip
      refine mm_tabIn 770 dL_law_33 (by rw [h24]; decide) (by rw [h24]; decide) (off := 737) (by rw [h24]; rfl) (by decide) ?_
      exact w_L_20 hi hG hl (fun M1 v1 => w_L_next (ih (G.len + 12 - (i + 6)) (by omega) (i + 6) M1 (Nat.le_refl _) (by omega) v1))
    by_cases h25 : s2.toInt = 21
    · skip
      refine mm_tabIn 793 dL_law_33 (by rw [h25]; decide) (by rw [h25]; decide) (off := 760) (by rw [h25]; rfl) (by decide) ?_
      exact w_L_21 hi hG hl (fun M1 v1 => w_L_next (ih (G.len + 12 - (i + 6)) (by omega) (i + 6) M1 (Nat.le_refl _) (by omega) v1))
    by_cases h26 : s2.toInt = 22
    · skip
      refine mm_tabIn 806 dL_law_33 (by rw [h26]; decide) (by rw [h26]; decide) (off := 773) (by rw [h26]; rfl) (by decide) ?_
      exact w_L_22 hi hG hl (fun M1 v1 => w_L_next (ih (G.len + 12 - (i + 6)) (by omega) (i + 6) M1 (Nat.le_refl _) (by omega) v1))
    by_cases h27 : s2.toInt = 23
    · skip
      refine mm_tabIn 839 dL_law_33 (by rw [h27]; decide) (by rw [h27]; decide) (off := 806) (by rw [h27]; rfl) (by decide) ?_
      exact w_L_23 hi hG hl (fun M1 v1 => w_L_next (ih (G.len + 12 - (i + 6)) (by omega) (i + 6) M1 (Nat.le_refl _) (by omega) v1))
    by_cases h28 : s2.toInt = 24
    · skip
      refine mm_tabIn 862 dL_law_33 (by rw [h28]; decide) (by rw [h28]; decide) (off := 829) (by rw [h28]; rfl) (by decide) ?_
      exact w_L_24 hi hG hl (fun M1 v1 => w_L_next (ih (G.len + 12 - (i + 6)) (by omega) (i + 6) M1 (Nat.le_refl _) (by omega) v1))
    by_cases h29 : s2.toInt = 25
    · skip
      refine mm_tabIn 905 dL_law_33 (by rw [h29]; decide) (by rw [h29]; decide) (off := 872) (by rw [h29]; rfl) (by decide) ?_
      exact w_L_25 hi hG hl (fun M1 v1 => w_L_next (ih (G.len + 12 - (i + 6)) (by omega) (i + 6) M1 (Nat.le_refl _) (by omega) v1))
    by_cases h30 : s2.toInt = 26
    · skip
      refine mm_tabIn 948 dL_law_33 (by rw [h30]; decide) (by rw [h30]; decide) (off := 915) (by rw [h30]; rfl) (by decide) ?_
      exact w_L_26 hi hG hl (fun M1 v1 => w_L_next (ih (G.len + 12 - (i + 6)) (by omega) (i + 6) M1 (Nat.le_refl _) (by omega) v1))
    by_cases h31 : s2.toInt = 27
    · skip
      refine mm_tabIn 971 dL_law_33 (by rw [h31]; decide) (by rw [h31]; decide) (off := 938) (by rw [h31]; rfl) (by decide) ?_
      exact w_L_27 hi hG hl (fun M1 v1 => w_L_next (ih (G.len + 12 - (i + 6)) (by omega) (i + 6) M1 (Nat.le_refl _) (by omega) v1))
    by_cases h32 : s2.toInt = 28
    · skip
      refine mm_tabIn 1024 dL_law_33 (by rw [h32]; decide) (by rw [h32]; decide) (off := 991) (by rw [h32]; rfl) (by decide) ?_
      exact w_L_28 hi hG hl (fun M1 v1 => w_L_next (ih (G.len + 12 - (i + 6)) (by omega) (i + 6) M1 (Nat.le_refl _) (by omega) v1))
    by_cases h33 : s2.toInt = 29
    · skip
      refine mm_tabIn 1067 dL_law_33 (by rw [h33]; decide) (by rw [h33]; decide) (off := 1034) (by rw [h33]; rfl) (by decide) ?_
      exact w_L_29 hi hG hl (fun M1 v1 => w_L_next (ih (G.len + 12 - (i + 6)) (by omega) (i + 6) M1 (Nat.le_refl _) (by omega) v1))
    by_cases h34 : s2.toInt = 30
    · skip
      refine mm_tabIn 1130 dL_law_33 (by rw [h34]; decide) (by rw [h34]; decide) (off := 1097) (by rw [h34]; rfl) (by decide) ?_
      exact w_L_30 hi hG hl (fun M1 v1 => w_L_next (ih (G.len + 12 - (i + 6)) (by omega) (i + 6) M1 (Nat.le_refl _) (by omega) v1))
    by_cases h35 : s2.toInt = 31
    · skip
      refine mm_tabIn 1163 dL_law_33 (by rw [h35]; decide) (by rw [h35]; decide) (off := 1130) (by rw [h35]; rfl) (by decide) ?_
      exact w_L_31 hi hG hl (fun M1 v1 => w_L_next (ih (G.len + 12 - (i + 6)) (by omega) (i + 6) M1 (Nat.le_refl _) (by omega) v1))
    by_cases h36 : s2.toInt = 32
    · skip
      refine mm_tabIn 1186 dL_law_33 (by rw [h36]; decide) (by rw [h36]; decide) (off := 1153) (by rw [h36]; rfl) (by decide) ?_
      exact w_L_32 hi hG hl (fun M1 v1 => w_L_next (ih (G.len + 12 - (i + 6)) (by omega) (i + 6) M1 (Nat.le_refl _) (by omega) v1))
    refine mm_tabOut 1200 dL_law_33 (by omega) (by decide) ?_
    exact w_L_next (ih (G.len + 12 - (i + 6)) (by omega) (i + 6) M (Nat.le_refl _) (by omega) hi)

set_option maxHeartbeats 4000000 in
theorem w_L_start {l : Launch} {G : mm_G} {d : Nat} {Q : Int32 → mm_T → mm_M → Prop} {z : UInt32} {M : mm_M} (h3 : G.len ≤ 3072) (h : ∀ M, iv M → Q 1 T0 M) : mm_wp l G (d + 13) k_L_law (mm_pi Q) 0 [.float z, .double 0, .double 0, .double 0] [] [] M 0 0 := by
  refine mm_new 3 dL_law_0 n_L_7 rfl (by decide) (by decide) ?_
  show mm_wp l G (d + 13) k_L_law (mm_pi Q) 3 [.float z, .double 0, .double 0, .double 0] [.ref 0] T_111 (va_up M 0 (fun _ => 0)) 1 12
  refine mm_dup 4 dL_law_3 rfl rfl ?_
  refine mm_cI0 7 51 988 dL_law_4 v_L_9 rfl (Nat.le_of_ble_eq_true rfl) rfl rfl ⟨by decide, by decide⟩ (i_0 (fun j => by simp [va_up]) (fun N1 p1 q1 => ?_))
  show mm_wp l G (d + 13) k_L_law (mm_pi Q) 7 [.float z, .double 0, .double 0, .double 0] [.ref 0] T_110 (N1) 51 988
  refine mm_astore_1 8 dL_law_7 rfl rfl ?_
  refine mm_new 11 dL_law_8 n_L_10 rfl (by decide) (by decide) ?_
  show mm_wp l G (d + 13) k_L_law (mm_pi Q) 11 [.float z, .ref 0, .double 0, .double 0] [.ref 51] T_168 (va_up N1 51 (fun _ => 0)) 52 1029
  refine mm_dup 12 dL_law_11 rfl rfl ?_
  refine mm_cI0 15 80 1835 dL_law_12 v_L_12 rfl (Nat.le_of_ble_eq_true rfl) rfl rfl ⟨by decide, by decide⟩ (i_51 (fun j => by simp [va_up]) (fun N2 p2 q2 => ?_))
  show mm_wp l G (d + 13) k_L_law (mm_pi Q) 15 [.float z, .ref 0, .double 0, .double 0] [.ref 51] T0 (N2) 80 1835
  refine mm_astore_2 16 dL_law_15 rfl rfl ?_
  refine mm_iconst 17 0 dL_law_16 rfl (by decide) ?_
  refine mm_istore_3 18 dL_law_17 rfl rfl ?_
  refine w_L_loop h3 h (G.len + 12) 0 N2 (by omega) (by omega) (iv_E (fun c hc j => ?_))
  by_cases q : c < 51
  · rw [p2 c q, va_upn _ _ (by omega)]
    exact q1 c (Nat.zero_le _) q j
  · exact q2 c (by omega) hc j

/-! THE CLAIM OUT OF ONE WALK OF THE LAW'S BODY. Your part is whole_start (and what it stands on); all else here is the same for every law, but numbers. -/
def R_law : String := "MarriedMapLaw"
def lw_P (b : Addr) (xs : List Int32) (args : Array Value) (s : State) : Prop := args = #[.ref b] ∧ s.IntsAt b xs ∧ xs.length ≤ 3072 ∧ (Jvm.Cond.and given_1 narrow_1).before args s = true
def lw_Q (_ : Array Value) (s : State) (o : Outcome) (t : State) : Prop := o = .returned (some (.int 1)) ∧ Framed s o t [] 600000 7302250
def lw_Z (below : List Frame) (a : Array Value) (s : State) : State → Prop := fun t => ∃ o, t.status = .running ∧ Ended t below o ∧ lw_Q a s o t
/-- the law's own end, with 1 on the stack, nothing written that was there before, its room as the claim has it -/
theorem lw_ret {p : Program} {l : Launch} {e : Env} {s : State} {m : MethodId} {below : List Frame} {meth : Method} {c : Code} {b : Nat} (hx : p.tables.exec = Jvm.exec) (hb : c.code = code) (hr : meth.sig.returnType = ret) (hlocks : meth.locks = false) {pc : Nat} {H : Heap} {ls : Array Slot} (hdg : decode code pc = .ok (.ireturn, 1)) : W p l e room_1 s m #[Value.ref b] below meth c H [] 600000 7302250 (lw_Z below #[Value.ref b] s) (F0 m pc ls [.int 1]) := by
  intro T hT X
  obtain ⟨fs, hret, hrun, hended, hW, hframe⟩ := X.leave (v := some (.int 1)) (hlocks := hlocks) (fun h => by rw [hr] at h; cases h)
  have hmeth' : T.vm.method? m = some meth := X.method'
  refine ⟨T.setFrames fs, ?_, .returned (some (.int 1)), hrun, hended, rfl, ⟨_, rfl⟩, hW, hframe⟩
  jvm_step X.here [X.here.top, hx, hb, hdg, hmeth', hr, ret, narrow_b1]
  (try refine ⟨rfl, ?_⟩); (try refine ⟨rfl, ?_⟩)
  first | (intro acts; rw [hret _ acts rfl rfl rfl]) | rw [hret _ _ rfl rfl rfl]
  exact Steps.refl _
/-- what holds at the law's entry: the machine, the code, the tables' words (any of lw_tbl by 'hts w (by decide +kernel)'), the script of L ints xs at the cell b, what the Statement gives of the start (any of its parts by flat_of_before) -/
def lw_At (p : Program) (s : State) (m : MethodId) (meth : Method) (c : Code) (b L : Nat) (xs : Nat → Int32) : Prop :=
  p.tables.exec = Jvm.exec ∧ c.code = code ∧ meth.sig.returnType = ret ∧ c.maxLocals = 4 ∧ s.vm.findClass R_law = some m.cls ∧ (∀ w ∈ lw_tbl, w.before #[Value.ref b] s = true) ∧ va_X b L xs s s.heap ∧ b < s.heap.size ∧ meth.locks = false ∧ (Jvm.Cond.and given_1 narrow_1).before #[Value.ref b] s = true ∧ meth.name = "law"
theorem whole_start {p : Program} {e : Env} {s : State} {m : MethodId} {below : List Frame} {meth : Method} {c : Code} (l : Launch) {b L : Nat} {xs : Nat → Int32} (hL : L ≤ 3072) (C0 : lw_At p s m meth c b L xs) : W p l e room_1 s m #[Value.ref b] below meth c s.heap [] 0 0 (lw_Z below #[Value.ref b] s) (entryFrame m ([Value.ref b] : List Value).toArray 4) := by
  obtain ⟨hx, hb, hr, hml, hown, hts, hX, hbl, hlocks, hgv, hnm⟩ := C0
  obtain ⟨c0, i0, hK0⟩ := u_known (C := RX0) (T := TX0) (N := 5) (n := 5) hts (fun w hw => mm_tb_in (in_X0 w hw)) (hts _ (mm_tb_in n_X1_41.2.2.2.1))
  obtain ⟨c1, i1, hK1⟩ := u_known (C := RX1) (T := TX1) (N := 10) (n := 10) hts (fun w hw => mm_tb_in (in_X1 w hw)) (hts _ (mm_tb_in n_X11_60.2.2.2.1))
  obtain ⟨c2, i2, hK2⟩ := u_known (C := RX2) (T := TX2) (N := 6) (n := 6) hts (fun w hw => mm_tb_in (in_X2 w hw)) (hts _ (mm_tb_in n_X11_44.2.2.2.1))
  obtain ⟨c3, i3, hK3⟩ := u_known (C := RX3) (T := TX3) (N := 3) (n := 3) hts (fun w hw => mm_tb_in (in_X3 w hw)) (hts _ (mm_tb_in n_X11_23.2.2.2.1))
  obtain ⟨c4, i4, hK4⟩ := u_known (C := RX4) (T := TX4) (N := 6) (n := 6) hts (fun w hw => mm_tb_in (in_X4 w hw)) (hts _ (mm_tb_in n_X11_30.2.2.2.1))
  obtain ⟨c5, i5, hK5⟩ := u_known (C := RX5) (T := TX5) (N := 3) (n := 3) hts (fun w hw => mm_tb_in (in_X5 w hw)) (hts _ (mm_tb_in n_X11_83.2.2.2.1))
  obtain ⟨c6, i6, hK6⟩ := u_known (C := RX6) (T := TX6) (N := 1) (n := 1) hts (fun w hw => mm_tb_in (in_X6 w hw)) (hts _ (mm_tb_in n_X11_37.2.2.2.1))
  obtain ⟨c7, i7, hK7⟩ := u_known (C := RX7) (T := TX7) (N := 4) (n := 4) hts (fun w hw => mm_tb_in (in_X7 w hw)) (hts _ (mm_tb_in n_X11_76.2.2.2.1))
  obtain ⟨c8, i8, hK8⟩ := u_known (C := RX8) (T := TX8) (N := 2) (n := 2) hts (fun w hw => mm_tb_in (in_X8 w hw)) (hts _ (mm_tb_in n_X11_9.2.2.2.1))
  obtain ⟨c9, i9, hK9⟩ := u_known (C := RX9) (T := TX9) (N := 3) (n := 3) hts (fun w hw => mm_tb_in (in_X9 w hw)) (hts _ (mm_tb_in n_X11_69.2.2.2.1))
  obtain ⟨c10, i10, hK10⟩ := u_known (C := RX10) (T := TX10) (N := 14) (n := 14) hts (fun w hw => mm_tb_in (in_X10 w hw)) (hts _ (mm_tb_in n_X11_51.2.2.2.1))
  obtain ⟨c11, i11, hK11⟩ := u_known (C := RX11) (T := TX11) (N := 12) (n := 12) hts (fun w hw => mm_tb_in (in_X11 w hw)) (hts _ (mm_tb_in n_L_7.2.2.2.1))
  obtain ⟨c12, i12, hK12⟩ := u_known (C := RX12) (T := TX12) (N := 41) (n := 41) hts (fun w hw => mm_tb_in (in_X12 w hw)) (hts _ (mm_tb_in n_L_10.2.2.2.1))
  obtain ⟨dC, dI, hKc⟩ : ∃ (dC : Nat → ClassId) (dI : Nat → Nat → Nat), ∀ (k : Nat) (q : vw_C), vwCl[k]? = some q → u_Kn s q.1 q.2.1 q.2.2 (dC k) (dI k) := by
    refine ⟨fun k => if k = 0 then c0 else if k = 1 then c1 else if k = 2 then c2 else if k = 3 then c3 else if k = 4 then c4 else if k = 5 then c5 else if k = 6 then c6 else if k = 7 then c7 else if k = 8 then c8 else if k = 9 then c9 else if k = 10 then c10 else if k = 11 then c11 else c12, fun k => if k = 0 then i0 else if k = 1 then i1 else if k = 2 then i2 else if k = 3 then i3 else if k = 4 then i4 else if k = 5 then i5 else if k = 6 then i6 else if k = 7 then i7 else if k = 8 then i8 else if k = 9 then i9 else if k = 10 then i10 else if k = 11 then i11 else i12, ?_⟩
    intro k q hq
    match k, hq with
    | 0, hq => cases hq; exact hK0
    | 1, hq => cases hq; exact hK1
    | 2, hq => cases hq; exact hK2
    | 3, hq => cases hq; exact hK3
    | 4, hq => cases hq; exact hK4
    | 5, hq => cases hq; exact hK5
    | 6, hq => cases hq; exact hK6
    | 7, hq => cases hq; exact hK7
    | 8, hq => cases hq; exact hK8
    | 9, hq => cases hq; exact hK9
    | 10, hq => cases hq; exact hK10
    | 11, hq => cases hq; exact hK11
    | 12, hq => cases hq; exact hK12
    | k + 13, hq => simp [vwCl] at hq
  obtain ⟨cI, kI, mI, fI, gI, hI⟩ := Cond.arrayClass_spec (hts _ (mm_tb_in j_arrI))
  obtain ⟨cZ, kZ, mZ, fZ, gZ, hZ⟩ := Cond.arrayClass_spec (hts _ (mm_tb_in j_arrZ))
  have hov : (Cond.arrayOver (.object "MarriedMap$Sheet")).before #[Value.ref b] s = true := hts _ (by decide +kernel)
  obtain ⟨mS, cS, kS, f1, f2, f3, f4, f5⟩ := Cond.arrayOver_spec hov
  have hU : mm_U (s.heap.size, b, L, xs, (fun k => if k = 0 then cI else if k = 1 then cZ else cS), dC, dI) s := by
    refine ⟨⟨hKc, fun k q h => ?_⟩, hX, hbl, Nat.le_refl _, va_AO.of hov, fun w hw => ?_⟩
    · match k, h with
      | 0, h => cases h; exact ⟨fun n z => ⟨fun k h => (by cases h), kI, gI, mI, hI⟩, fI⟩
      | 1, h => cases h; exact ⟨fun n z => ⟨fun k h => (by cases h), kZ, gZ, mZ, hZ⟩, fZ⟩
      | 2, h => cases h; exact ⟨fun n z => ⟨fun k h => (by cases h), kS, f3, mS, f4⟩, kS, mS, f3, f4, f1, f5⟩
      | k + 3, h => simp [mm_tys] at h
    · have hn := (List.mem_filter.mp hw).2
      have hq := hts w (mm_nest_in hw)
      cases w <;> first | exact va_Nw.of rfl hq | cases hn
  have C : mm_C l (s.heap.size, b, L, xs, (fun k => if k = 0 then cI else if k = 1 then cZ else cS), dC, dI) (0 + 13) k_L_law (mm_pi (fun r _ _ => r = 1)) p e room_1 s m #[Value.ref b] below meth c (lw_Z below #[Value.ref b] s) := by
    refine ⟨⟨hx, hb, hml, hown, fun w hw => hts w (mm_tb_in hw)⟩, hnm, ⟨by decide, by decide, by decide, by decide⟩, hU, ?_⟩
    intro v T M H locs ls pc hP hH hS hz hrt
    obtain ⟨r, rfl, rfl⟩ := hP
    obtain ⟨ty, -, -, h3⟩ := hrt
    refine va_forget (fun q hq => hS.2.2 q hq) ?_
    refine W.widen (k := 600000) (n := 7302250) (by decide) (by decide) ?_
    exact lw_ret hx hb hr hlocks h3
  have hl := lv_entry ([.ref b]) (n := 4) (Nat.le_of_ble_eq_true rfl)
  rw [lg_entry_eq]
  exact w_L_start (z := 0) (M := fun _ _ => 0) (G := (s.heap.size, b, L, xs, (fun k => if k = 0 then cI else if k = 1 then cZ else cS), dC, dI)) hL (fun _ _ => rfl) p e room_1 s m _ below meth c _ C s.heap [] _ (fun k q h => by simp [mm_ws] at h) va_S.rf ⟨rfl, hl⟩ rfl
set_option maxHeartbeats 4000000 in
theorem lw_walk (l : Launch) (b : Addr) (xs : List Int32) : MetFree l x (headSpec (Jvm.Cond.code x code maxLocals ret :: tables_1) room_1) (lw_P b xs) (fun _ _ _ _ _ => True) lw_Q := by
  refine MetFree.of_bodyS (code := code) (maxLocals := maxLocals) (ret := ret) (by decide) ?_ ?_
  · intro args s m h hn
    obtain ⟨meth, c, h1, h2, h3, h4, h5, h6, -, -⟩ := Cond.code_spec hn (atoms_spec (ws := Jvm.Cond.code x code maxLocals ret :: tables_1) h _ List.mem_cons_self)
    exact ⟨meth, c, h1, h2, h3, h4, h5, h6⟩
  · intro p e s m args below meth c s₁ B hml0 hP _
    obtain ⟨rfl, hx, hbd, hgv⟩ := hP
    obtain ⟨scr, harrAt, hlist, hof, hsmall⟩ := hx
    obtain ⟨hcb, hkn, -, -⟩ := State.arrayAt?_spec harrAt
    have hown : s.vm.findClass R_law = some m.cls := findClass_of_methodNamed B.named
    have hts0 : ∀ c ∈ (Jvm.Cond.code x code maxLocals ret :: tables_1), c.before #[Value.ref b] s = true := atoms_spec (ws := Jvm.Cond.code x code maxLocals ret :: tables_1) B.pre
    have hts : ∀ w ∈ lw_tbl, w.before #[Value.ref b] s = true := k2_hts_sels lw_privs (fun w hw => hts0 w (List.mem_cons_of_mem _ hw)) lw_privs_ok
    have hml : c.maxLocals = 4 := B.maxLocals_eq (hts0 _ List.mem_cons_self)
    have X₀ : Stand p l e room_1 s m #[Value.ref b] below meth c s₁ [] 0 0 := Stand.of_body B
    have hh0 : s₁.heap = s.heap := by rw [B.state]; rfl
    have hsz : scr.slots.size = xs.length := by rw [← Array.length_toList, hlist, List.length_map]
    have hval : ∀ j : Nat, j < xs.length → scr.slots[j]? = some (.int (xs.getD j 0)) := fun j hj => by
      rw [← Array.getElem?_toList, hlist]
      simp [hj]
    have hbl : b < s.heap.size := (Array.getElem?_eq_some_iff.mp hcb).1
    have hX : va_X b xs.length (fun j => xs.getD j 0) s s.heap := ⟨scr, hcb, hof, hkn, hsz, hval⟩
    have K : W p l e room_1 s m #[Value.ref b] below meth c s₁.heap [] 0 0 (lw_Z below #[Value.ref b] s) (entryFrame m ([Value.ref b] : List Value).toArray 4) := by
      rw [hh0]
      exact whole_start l hbd ⟨B.exec, B.bytes, B.returns, hml, hown, hts, hX, hbl, B.notSynchronized, hgv, (name_of_methodNamed B.named B.method).1⟩
    obtain ⟨t, a1, o, b1, b2, b3⟩ := K s₁ rfl X₀
    exact ⟨t, o, a1, b1, b2, b3⟩
theorem lw_pre_spec {args : Array Value} {s : State} (h : (Jvm.Cond.and given_1 narrow_1).before args s = true) (hr : rest_1_c.before args s = true) : ∃ (b : Addr) (xs : List Int32), lw_P b xs args s := by
  have hs := flat_of_before _ h
  have hq := flat_of_before _ hr
  have hc : (Cond.count 1).before args s = true := hs _ (by decide +kernel)
  have harr : (Cond.arrayOf (.arg 0) .int).before args s = true := hs _ (by decide +kernel)
  have hle : (Cond.le (.length (.arg 0)) (.int 3072)).before args s = true := hs _ (by decide +kernel)
  have hlen : (Cond.isInt (.length (.arg 0))).before args s = true := hq _ (by decide +kernel)
  have hall : (Cond.all (.arg 0) (.isInt (.elem (.arg 0) (.index 0)))).before args s = true := hq _ (by decide +kernel)
  obtain ⟨b, xs, hb, hx⟩ := State.ints_of_pre rfl harr hlen hall
  have hsm : xs.length < 2 ^ 31 := hx.choose_spec.2.2.2
  have hev : (Term.length (.arg 0)).eval args s none [] s = some (.int xs.length.toInt32) := hx.length_eval hb
  have hv := Cond.le_ints hev (show (Term.int 3072).eval args s none [] s = some (.int 3072) from rfl)
  have hd : xs.length.toInt32 ≤ 3072 := by
    simpa [Cond.before, Cond.holds, hv] using hle
  have hN : xs.length ≤ 3072 := (Int32.ofNat_le_ofNat hsm (by decide)).mp (show Int32.ofNat xs.length ≤ Int32.ofNat 3072 from hd)
  exact ⟨b, xs, Cond.one_arg hc (show args[0]? = some (.ref b) from hb), hx, hN, h⟩
theorem lw_comes (l : Launch) : Comes l x (Jvm.Cond.code x code maxLocals ret :: tables_1) room_1 (fun tb e args s => Calls_1 tb e args s ∧ rest_1 tb e args s ∧ Pre_1 tb e args s)
    (fun _ _ args s o t => lw_Q args s o t) := by
  intro p e ha hc hk s m args below hf hfit hheap happ hpre
  obtain ⟨b, xs, hP⟩ := lw_pre_spec hpre.2.2 hpre.2.1
  obtain ⟨k, o, h1, h2, h3, hQ⟩ := lw_walk l b xs p e ha hc hk s m args below hf ((Spec.applies_iff_loose hf).mp happ).1 hP trivial
  exact ⟨k, o, h1, h2, h3, hQ⟩
theorem lw_frame {s t : State} {o : Outcome} {args : Array Value} (h : Framed s o t [] 600000 7302250) :
    Framed s o t (fieldLocs frame_1_writes args s ++ arrayLocs frame_1_arrays args s ++ staticLocs frame_1_statics s) 600000 7302250 := h
theorem lw_limb (L : Cond) (hL : ∀ (args : Array Value) (s t : State), L.after args s (.returned (some (.int 1))) t = true) :
    ArmFor flags0 classFile x code maxLocals ret World_1 tables_1 room_1 Calls_1 rest_1 Pre_1
      (fun tb e a s o t => postC L tb e a s o t ∧ Framed s o t (fieldLocs frame_1_writes a s ++ arrayLocs frame_1_arrays a s ++ staticLocs frame_1_statics s) 600000 7302250) := by
  intro l _ _ _ p e ha hc hk s m args below hf hfit hheap happ hpre
  obtain ⟨k, o, h1, h2, h3, rfl, hF⟩ := lw_comes l p e ha hc hk s m args below hf hfit hheap happ hpre
  exact ⟨k, _, h1, h2, h3, hL args s _, lw_frame hF⟩
theorem i_vc : Claimed_1_1 ∧ Claimed_1_2 := ⟨lw_limb limb_1_1 (fun args s t => by simp [limb_1_1, Cond.after, Cond.holds, Cond.value]), lw_limb limb_1_2 (fun args s t => Cond.after_iff.mpr (by
  first | (rw [show limb_1_2 = Cond.eq .result (.int 1) from rfl, Cond.eq_ints (x := 1) (y := 1) rfl rfl]; simp; done) | (simp [limb_1_2, Cond.value, Term.eval]; done)))⟩

