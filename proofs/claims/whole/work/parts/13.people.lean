set_option maxHeartbeats 4000000 in
theorem c_X4_goesOn {l : Launch} {G : mm_G} {d : Nat} {M : mm_M} {Q : Int32 → mm_T → mm_M → Prop} {n nl : Nat} (hn : M 3 1 = nI n) (h60 : n ≤ 60) (hnl : nl ≤ 6) {x y : Int32} {k : Nat} (hx : x = nI k) (hk : k < n) (hy : y = nI nl) (ht : q_pg nl (M 4) k = true → Q 1 T0 M) (hf : ¬ (q_pg nl (M 4) k = true) → Q 0 T0 M) : mm_met l G (d + 2) k_X4_goesOn [.ref 3, .int x, .int y] T0 M (mm_pi Q) := by
  have hr := mm_rem 5 hx (by omega) mm_l5 (by omega) (by omega)
  have hv := mm_div 5 hx (by omega) mm_l5 (by omega) (by omega)
  have t1 : (nI (k % 5)).toInt = ((k % 5 : Nat) : Int) := mm_ti (by omega)
  have t2 : (nI (k / 5)).toInt = ((k / 5 : Nat) : Int) := mm_ti (by omega)
  have t3 : y.toInt = nl := by rw [hy]; exact mm_ti (by omega)
  refine mm_enter 1 [.ref 3, .int x, .int y, .double 0] o_X4_goesOn rfl rfl ?_
  refine mm_aload_0 1 dX4_goesOn_0 rfl ?_
  refine mm_iload_1 2 dX4_goesOn_1 rfl ?_
  refine mm_cV1i 5 dX4_goesOn_2 v_X4_58 rfl t_3 (by decide) rfl rfl (Nat.le_of_ble_eq_true rfl) ⟨rfl, rfl⟩ ⟨Nat.zero_le _, Nat.zero_le _⟩ (c_X8_figureAt t_3 t_4 hn h60 (by decide) hx (by omega) (fun r1 e2 => ?_))
  refine mm_istore_3 6 dX4_goesOn_5 rfl rfl ?_
  refine mm_iload_1 7 dX4_goesOn_6 rfl ?_
  refine mm_iconst 8 5 dX4_goesOn_7 rfl (by decide) ?_
  refine mm_irem 9 dX4_goesOn_8 rfl (by decide) ?_
  refine mm_topi (fun s3 e4 => ?_)
  by_cases h5 : s3.toInt = 0
  · skip
    refine mm_tabIn 40 dX4_goesOn_9 (by rw [h5]; decide) (by rw [h5]; decide) (off := 31) (by rw [h5]; rfl) (by decide) ?_
    refine mm_iload_1 41 dX4_goesOn_40 rfl ?_
    refine mm_iconst 42 5 dX4_goesOn_41 rfl (by decide) ?_
    refine mm_idiv 43 dX4_goesOn_42 rfl (by decide) ?_
    refine mm_bipush 45 12 dX4_goesOn_43 rfl (by decide) ?_
    refine mm_ic_ge 72 48 dX4_goesOn_45 (by decide) rfl (fun h6 => ?_) (fun h6 => ?_)
    · refine mm_iconst 73 0 dX4_goesOn_72 rfl (by decide) ?_
      refine mm_zret dX4_goesOn_73 rfl ⟨rfl, Nat.zero_le _⟩ (Or.inl rfl) ?_
      have q0 := congrArg Int32.toInt e2
      try rw [q_fig_i] at q0
      try rw [if_pos hk] at q0
      try rw [hr, t1] at q0
      have q1 := congrArg Int32.toInt e4
      try rw [q_fig_i] at q1
      try rw [if_pos hk] at q1
      try rw [hr, t1] at q1
      try simp only [hv] at h5 h6
      try simp only [t2, Int32.lt_iff_toInt_lt, Int32.le_iff_toInt_le, ← Int32.toInt_inj, vp_in_iff, Int32.reduceToInt, mm_t1, mm_t2, mm_t3, mm_t4, mm_t10] at h5 h6
      split at q0 <;> first | (exfalso; omega) | skip
      all_goals (
        refine hf (fun hq => ?_); unfold q_pg at hq; repeat (first | rw [if_pos (by omega)] at hq | rw [if_neg (by omega)] at hq)
        have hq := of_decide_eq_true hq; omega)
    · refine mm_aload_0 49 dX4_goesOn_48 rfl ?_
      refine mm_iload_1 50 dX4_goesOn_49 rfl ?_
      refine mm_cV1i 53 dX4_goesOn_50 v_X4_55 rfl t_3 (by decide) rfl rfl (Nat.le_of_ble_eq_true rfl) ⟨rfl, rfl⟩ ⟨Nat.zero_le _, Nat.zero_le _⟩ (c_X8_at t_3 t_4 hn h60 (by decide) hx (by omega) (fun r7 e8 => ?_))
      refine mm_bipush 55 109 dX4_goesOn_53 rfl (by decide) ?_
      refine mm_ic_eq 68 58 dX4_goesOn_55 (by decide) rfl (fun h9 => ?_) (fun h9 => ?_)
      · refine mm_iconst 69 1 dX4_goesOn_68 rfl (by decide) ?_
        refine mm_goto 73 dX4_goesOn_69 (by decide) ?_
        refine mm_zret dX4_goesOn_73 rfl ⟨rfl, Nat.zero_le _⟩ (Or.inr rfl) ?_
        have q0 := congrArg Int32.toInt e2
        try rw [q_fig_i] at q0
        try rw [if_pos hk] at q0
        try rw [hr, t1] at q0
        have q1 := congrArg Int32.toInt e4
        try rw [q_fig_i] at q1
        try rw [if_pos hk] at q1
        try rw [hr, t1] at q1
        have q2 := congrArg Int32.toInt e8
        try rw [q_fig_i] at q2
        try rw [if_pos hk] at q2
        try rw [hr, t1] at q2
        try simp only [hv] at h5 h6 h9
        try simp only [t2, Int32.lt_iff_toInt_lt, Int32.le_iff_toInt_le, ← Int32.toInt_inj, vp_in_iff, Int32.reduceToInt, mm_t1, mm_t2, mm_t3, mm_t4, mm_t10] at h5 h6 h9
        split at q0 <;> first | (exfalso; omega) | skip
        all_goals (
          refine ht ?_; unfold q_pg; repeat (first | rw [if_pos (by omega)] | rw [if_neg (by omega)])
          exact decide_eq_true (by omega))
      · refine mm_aload_0 59 dX4_goesOn_58 rfl ?_
        refine mm_iload_1 60 dX4_goesOn_59 rfl ?_
        refine mm_cV1i 63 dX4_goesOn_60 v_X4_55 rfl t_3 (by decide) rfl rfl (Nat.le_of_ble_eq_true rfl) ⟨rfl, rfl⟩ ⟨Nat.zero_le _, Nat.zero_le _⟩ (c_X8_at t_3 t_4 hn h60 (by decide) hx (by omega) (fun r10 e11 => ?_))
        refine mm_bipush 65 119 dX4_goesOn_63 rfl (by decide) ?_
        refine mm_ic_ne 72 68 dX4_goesOn_65 (by decide) rfl (fun h12 => ?_) (fun h12 => ?_)
        · refine mm_iconst 73 0 dX4_goesOn_72 rfl (by decide) ?_
          refine mm_zret dX4_goesOn_73 rfl ⟨rfl, Nat.zero_le _⟩ (Or.inl rfl) ?_
          have q0 := congrArg Int32.toInt e2
          try rw [q_fig_i] at q0
          try rw [if_pos hk] at q0
          try rw [hr, t1] at q0
          have q1 := congrArg Int32.toInt e4
          try rw [q_fig_i] at q1
          try rw [if_pos hk] at q1
          try rw [hr, t1] at q1
          have q2 := congrArg Int32.toInt e8
          try rw [q_fig_i] at q2
          try rw [if_pos hk] at q2
          try rw [hr, t1] at q2
          have q3 := congrArg Int32.toInt e11
          try rw [q_fig_i] at q3
          try rw [if_pos hk] at q3
          try rw [hr, t1] at q3
          try simp only [hv] at h5 h6 h9 h12
          try simp only [t2, Int32.lt_iff_toInt_lt, Int32.le_iff_toInt_le, ← Int32.toInt_inj, vp_in_iff, Int32.reduceToInt, mm_t1, mm_t2, mm_t3, mm_t4, mm_t10] at h5 h6 h9 h12
          split at q0 <;> first | (exfalso; omega) | skip
          all_goals (
            refine hf (fun hq => ?_); unfold q_pg at hq; repeat (first | rw [if_pos (by omega)] at hq | rw [if_neg (by omega)] at hq)
            have hq := of_decide_eq_true hq; omega)
        · refine mm_iconst 69 1 dX4_goesOn_68 rfl (by decide) ?_
          refine mm_goto 73 dX4_goesOn_69 (by decide) ?_
          refine mm_zret dX4_goesOn_73 rfl ⟨rfl, Nat.zero_le _⟩ (Or.inr rfl) ?_
          have q0 := congrArg Int32.toInt e2
          try rw [q_fig_i] at q0
          try rw [if_pos hk] at q0
          try rw [hr, t1] at q0
          have q1 := congrArg Int32.toInt e4
          try rw [q_fig_i] at q1
          try rw [if_pos hk] at q1
          try rw [hr, t1] at q1
          have q2 := congrArg Int32.toInt e8
          try rw [q_fig_i] at q2
          try rw [if_pos hk] at q2
          try rw [hr, t1] at q2
          have q3 := congrArg Int32.toInt e11
          try rw [q_fig_i] at q3
          try rw [if_pos hk] at q3
          try rw [hr, t1] at q3
          try simp only [hv] at h5 h6 h9 h12
          try simp only [t2, Int32.lt_iff_toInt_lt, Int32.le_iff_toInt_le, ← Int32.toInt_inj, vp_in_iff, Int32.reduceToInt, mm_t1, mm_t2, mm_t3, mm_t4, mm_t10] at h5 h6 h9 h12
          split at q0 <;> first | (exfalso; omega) | skip
          all_goals (
            refine ht ?_; unfold q_pg; repeat (first | rw [if_pos (by omega)] | rw [if_neg (by omega)])
            exact decide_eq_true (by omega))
  by_cases h13 : s3.toInt = 1
  · skip
    refine mm_tabIn 74 dX4_goesOn_9 (by rw [h13]; decide) (by rw [h13]; decide) (off := 65) (by rw [h13]; rfl) (by decide) ?_
    refine mm_iload_3 75 dX4_goesOn_74 rfl ?_
    refine mm_iconst 76 (-1) dX4_goesOn_75 rfl (by decide) ?_
    refine mm_ic_eq 88 79 dX4_goesOn_76 (by decide) rfl (fun h14 => ?_) (fun h14 => ?_)
    · refine mm_iconst 89 0 dX4_goesOn_88 rfl (by decide) ?_
      refine mm_zret dX4_goesOn_89 rfl ⟨rfl, Nat.zero_le _⟩ (Or.inl rfl) ?_
      have q0 := congrArg Int32.toInt e2
      try rw [q_fig_i] at q0
      try rw [if_pos hk] at q0
      try rw [hr, t1] at q0
      have q1 := congrArg Int32.toInt e4
      try rw [q_fig_i] at q1
      try rw [if_pos hk] at q1
      try rw [hr, t1] at q1
      try simp only [hv] at h5 h13 h14
      try simp only [t2, Int32.lt_iff_toInt_lt, Int32.le_iff_toInt_le, ← Int32.toInt_inj, vp_in_iff, Int32.reduceToInt, mm_t1, mm_t2, mm_t3, mm_t4, mm_t10] at h5 h13 h14
      split at q0 <;> first | (exfalso; omega) | skip
      all_goals (
        refine hf (fun hq => ?_); unfold q_pg at hq; repeat (first | rw [if_pos (by omega)] at hq | rw [if_neg (by omega)] at hq)
        have hq := of_decide_eq_true hq; omega)
    · refine mm_iload_3 80 dX4_goesOn_79 rfl ?_
      refine mm_iload_2 81 dX4_goesOn_80 rfl ?_
      refine mm_ic_ge 88 84 dX4_goesOn_81 (by decide) rfl (fun h15 => ?_) (fun h15 => ?_)
      · refine mm_iconst 89 0 dX4_goesOn_88 rfl (by decide) ?_
        refine mm_zret dX4_goesOn_89 rfl ⟨rfl, Nat.zero_le _⟩ (Or.inl rfl) ?_
        have q0 := congrArg Int32.toInt e2
        try rw [q_fig_i] at q0
        try rw [if_pos hk] at q0
        try rw [hr, t1] at q0
        have q1 := congrArg Int32.toInt e4
        try rw [q_fig_i] at q1
        try rw [if_pos hk] at q1
        try rw [hr, t1] at q1
        try simp only [hv] at h5 h13 h14 h15
        try simp only [t2, Int32.lt_iff_toInt_lt, Int32.le_iff_toInt_le, ← Int32.toInt_inj, vp_in_iff, Int32.reduceToInt, mm_t1, mm_t2, mm_t3, mm_t4, mm_t10] at h5 h13 h14 h15
        split at q0 <;> first | (exfalso; omega) | skip
        all_goals (
          refine hf (fun hq => ?_); unfold q_pg at hq; repeat (first | rw [if_pos (by omega)] at hq | rw [if_neg (by omega)] at hq)
          have hq := of_decide_eq_true hq; omega)
      · refine mm_iconst 85 1 dX4_goesOn_84 rfl (by decide) ?_
        refine mm_goto 89 dX4_goesOn_85 (by decide) ?_
        refine mm_zret dX4_goesOn_89 rfl ⟨rfl, Nat.zero_le _⟩ (Or.inr rfl) ?_
        have q0 := congrArg Int32.toInt e2
        try rw [q_fig_i] at q0
        try rw [if_pos hk] at q0
        try rw [hr, t1] at q0
        have q1 := congrArg Int32.toInt e4
        try rw [q_fig_i] at q1
        try rw [if_pos hk] at q1
        try rw [hr, t1] at q1
        try simp only [hv] at h5 h13 h14 h15
        try simp only [t2, Int32.lt_iff_toInt_lt, Int32.le_iff_toInt_le, ← Int32.toInt_inj, vp_in_iff, Int32.reduceToInt, mm_t1, mm_t2, mm_t3, mm_t4, mm_t10] at h5 h13 h14 h15
        split at q0 <;> first | (exfalso; omega) | skip
        all_goals (
          refine ht ?_; unfold q_pg; repeat (first | rw [if_pos (by omega)] | rw [if_neg (by omega)])
          exact decide_eq_true (by omega))
  by_cases h16 : s3.toInt = 2
  · skip
    refine mm_tabIn 90 dX4_goesOn_9 (by rw [h16]; decide) (by rw [h16]; decide) (off := 81) (by rw [h16]; rfl) (by decide) ?_
    refine mm_iload_3 91 dX4_goesOn_90 rfl ?_
    refine mm_iconst 92 1 dX4_goesOn_91 rfl (by decide) ?_
    refine mm_ic_lt 99 95 dX4_goesOn_92 (by decide) rfl (fun h17 => ?_) (fun h17 => ?_)
    · refine mm_iconst 100 0 dX4_goesOn_99 rfl (by decide) ?_
      refine mm_zret dX4_goesOn_100 rfl ⟨rfl, Nat.zero_le _⟩ (Or.inl rfl) ?_
      have q0 := congrArg Int32.toInt e2
      try rw [q_fig_i] at q0
      try rw [if_pos hk] at q0
      try rw [hr, t1] at q0
      have q1 := congrArg Int32.toInt e4
      try rw [q_fig_i] at q1
      try rw [if_pos hk] at q1
      try rw [hr, t1] at q1
      try simp only [hv] at h5 h13 h16 h17
      try simp only [t2, Int32.lt_iff_toInt_lt, Int32.le_iff_toInt_le, ← Int32.toInt_inj, vp_in_iff, Int32.reduceToInt, mm_t1, mm_t2, mm_t3, mm_t4, mm_t10] at h5 h13 h16 h17
      split at q0 <;> first | (exfalso; omega) | skip
      all_goals (
        refine hf (fun hq => ?_); unfold q_pg at hq; repeat (first | rw [if_pos (by omega)] at hq | rw [if_neg (by omega)] at hq)
        have hq := of_decide_eq_true hq; omega)
    · refine mm_iconst 96 1 dX4_goesOn_95 rfl (by decide) ?_
      refine mm_goto 100 dX4_goesOn_96 (by decide) ?_
      refine mm_zret dX4_goesOn_100 rfl ⟨rfl, Nat.zero_le _⟩ (Or.inr rfl) ?_
      have q0 := congrArg Int32.toInt e2
      try rw [q_fig_i] at q0
      try rw [if_pos hk] at q0
      try rw [hr, t1] at q0
      have q1 := congrArg Int32.toInt e4
      try rw [q_fig_i] at q1
      try rw [if_pos hk] at q1
      try rw [hr, t1] at q1
      try simp only [hv] at h5 h13 h16 h17
      try simp only [t2, Int32.lt_iff_toInt_lt, Int32.le_iff_toInt_le, ← Int32.toInt_inj, vp_in_iff, Int32.reduceToInt, mm_t1, mm_t2, mm_t3, mm_t4, mm_t10] at h5 h13 h16 h17
      split at q0 <;> first | (exfalso; omega) | skip
      all_goals (
        refine ht ?_; unfold q_pg; repeat (first | rw [if_pos (by omega)] | rw [if_neg (by omega)])
        exact decide_eq_true (by omega))
  by_cases h18 : s3.toInt = 3
  · skip
    refine mm_tabIn 101 dX4_goesOn_9 (by rw [h18]; decide) (by rw [h18]; decide) (off := 92) (by rw [h18]; rfl) (by decide) ?_
    refine mm_iload_3 102 dX4_goesOn_101 rfl ?_
    refine mm_iconst 103 (-1) dX4_goesOn_102 rfl (by decide) ?_
    refine mm_ic_eq 110 106 dX4_goesOn_103 (by decide) rfl (fun h19 => ?_) (fun h19 => ?_)
    · refine mm_iconst 111 0 dX4_goesOn_110 rfl (by decide) ?_
      refine mm_zret dX4_goesOn_111 rfl ⟨rfl, Nat.zero_le _⟩ (Or.inl rfl) ?_
      have q0 := congrArg Int32.toInt e2
      try rw [q_fig_i] at q0
      try rw [if_pos hk] at q0
      try rw [hr, t1] at q0
      have q1 := congrArg Int32.toInt e4
      try rw [q_fig_i] at q1
      try rw [if_pos hk] at q1
      try rw [hr, t1] at q1
      try simp only [hv] at h5 h13 h16 h18 h19
      try simp only [t2, Int32.lt_iff_toInt_lt, Int32.le_iff_toInt_le, ← Int32.toInt_inj, vp_in_iff, Int32.reduceToInt, mm_t1, mm_t2, mm_t3, mm_t4, mm_t10] at h5 h13 h16 h18 h19
      split at q0 <;> first | (exfalso; omega) | skip
      all_goals (
        refine hf (fun hq => ?_); unfold q_pg at hq; repeat (first | rw [if_pos (by omega)] at hq | rw [if_neg (by omega)] at hq)
        have hq := of_decide_eq_true hq; omega)
    · refine mm_iconst 107 1 dX4_goesOn_106 rfl (by decide) ?_
      refine mm_goto 111 dX4_goesOn_107 (by decide) ?_
      refine mm_zret dX4_goesOn_111 rfl ⟨rfl, Nat.zero_le _⟩ (Or.inr rfl) ?_
      have q0 := congrArg Int32.toInt e2
      try rw [q_fig_i] at q0
      try rw [if_pos hk] at q0
      try rw [hr, t1] at q0
      have q1 := congrArg Int32.toInt e4
      try rw [q_fig_i] at q1
      try rw [if_pos hk] at q1
      try rw [hr, t1] at q1
      try simp only [hv] at h5 h13 h16 h18 h19
      try simp only [t2, Int32.lt_iff_toInt_lt, Int32.le_iff_toInt_le, ← Int32.toInt_inj, vp_in_iff, Int32.reduceToInt, mm_t1, mm_t2, mm_t3, mm_t4, mm_t10] at h5 h13 h16 h18 h19
      split at q0 <;> first | (exfalso; omega) | skip
      all_goals (
        refine ht ?_; unfold q_pg; repeat (first | rw [if_pos (by omega)] | rw [if_neg (by omega)])
        exact decide_eq_true (by omega))
  refine mm_tabOut 112 dX4_goesOn_9 (by omega) (by decide) ?_
  refine mm_aload_0 113 dX4_goesOn_112 rfl ?_
  refine mm_iload_1 114 dX4_goesOn_113 rfl ?_
  refine mm_cV1i 117 dX4_goesOn_114 v_X4_55 rfl t_3 (by decide) rfl rfl (Nat.le_of_ble_eq_true rfl) ⟨rfl, rfl⟩ ⟨Nat.zero_le _, Nat.zero_le _⟩ (c_X8_at t_3 t_4 hn h60 (by decide) hx (by omega) (fun r20 e21 => ?_))
  refine mm_bipush 119 59 dX4_goesOn_117 rfl (by decide) ?_
  refine mm_ic_ne 126 122 dX4_goesOn_119 (by decide) rfl (fun h22 => ?_) (fun h22 => ?_)
  · refine mm_iconst 127 0 dX4_goesOn_126 rfl (by decide) ?_
    refine mm_zret dX4_goesOn_127 rfl ⟨rfl, Nat.zero_le _⟩ (Or.inl rfl) ?_
    have q0 := congrArg Int32.toInt e2
    try rw [q_fig_i] at q0
    try rw [if_pos hk] at q0
    try rw [hr, t1] at q0
    have q1 := congrArg Int32.toInt e4
    try rw [q_fig_i] at q1
    try rw [if_pos hk] at q1
    try rw [hr, t1] at q1
    have q2 := congrArg Int32.toInt e21
    try rw [q_fig_i] at q2
    try rw [if_pos hk] at q2
    try rw [hr, t1] at q2
    try simp only [hv] at h5 h13 h16 h18 h22
    try simp only [t2, Int32.lt_iff_toInt_lt, Int32.le_iff_toInt_le, ← Int32.toInt_inj, vp_in_iff, Int32.reduceToInt, mm_t1, mm_t2, mm_t3, mm_t4, mm_t10] at h5 h13 h16 h18 h22
    split at q0 <;> first | (exfalso; omega) | skip
    all_goals (
      refine hf (fun hq => ?_); unfold q_pg at hq; repeat (first | rw [if_pos (by omega)] at hq | rw [if_neg (by omega)] at hq)
      have hq := of_decide_eq_true hq; omega)
  · refine mm_iconst 123 1 dX4_goesOn_122 rfl (by decide) ?_
    refine mm_goto 127 dX4_goesOn_123 (by decide) ?_
    refine mm_zret dX4_goesOn_127 rfl ⟨rfl, Nat.zero_le _⟩ (Or.inr rfl) ?_
    have q0 := congrArg Int32.toInt e2
    try rw [q_fig_i] at q0
    try rw [if_pos hk] at q0
    try rw [hr, t1] at q0
    have q1 := congrArg Int32.toInt e4
    try rw [q_fig_i] at q1
    try rw [if_pos hk] at q1
    try rw [hr, t1] at q1
    have q2 := congrArg Int32.toInt e21
    try rw [q_fig_i] at q2
    try rw [if_pos hk] at q2
    try rw [hr, t1] at q2
    try simp only [hv] at h5 h13 h16 h18 h22
    try simp only [t2, Int32.lt_iff_toInt_lt, Int32.le_iff_toInt_le, ← Int32.toInt_inj, vp_in_iff, Int32.reduceToInt, mm_t1, mm_t2, mm_t3, mm_t4, mm_t10] at h5 h13 h16 h18 h22
    split at q0 <;> first | (exfalso; omega) | skip
    all_goals (
      refine ht ?_; unfold q_pg; repeat (first | rw [if_pos (by omega)] | rw [if_neg (by omega)])
      exact decide_eq_true (by omega))

set_option maxHeartbeats 4000000 in
theorem w_X4_firstFault {l : Launch} {G : mm_G} {d : Nat} {M : mm_M} {Q : Int32 → mm_T → mm_M → Prop} {n nl : Nat} (hn : M 3 1 = nI n) (h60 : n ≤ 60) (hnl : nl ≤ 6) : ∀ (k i : Nat), n - i ≤ k → i ≤ n → (∀ r, r = q_ff (q_pg nl (M 4)) (q_fin 5 n) (n - i) i → Q r T0 M) → mm_wp l G (d + 3) k_X4_firstFault (mm_pi Q) 7 [.ref 3, .int (nI nl), .int (nI n), .int (nI i)] [] T0 M 0 0 := by
  intro k
  induction k using Nat.strongRecOn with | _ k ih => ?_
  intro i hki hi h
  have hni : (nI n).toInt = n := mm_ti (by omega)
  have hii : (nI i).toInt = i := mm_ti (by omega)
  have hr := mm_rem 5 (rfl : nI n = nI n) (by omega) mm_l5 (by omega) (by omega)
  have t1 : (nI (n % 5)).toInt = ((n % 5 : Nat) : Int) := mm_ti (by omega)
  refine mm_iload_3 8 dX4_firstFault_7 rfl ?_
  refine mm_iload_2 9 dX4_firstFault_8 rfl ?_
  refine mm_ic_ge 29 12 dX4_firstFault_9 (by decide) rfl (fun h1 => ?_) (fun h1 => ?_)
  · refine mm_iload_2 30 dX4_firstFault_29 rfl ?_
    refine mm_if_eq 40 33 dX4_firstFault_30 (by decide) rfl (fun h2 => ?_) (fun h2 => ?_)
    · refine mm_iconst 41 (-1) dX4_firstFault_40 rfl (by decide) ?_
      refine mm_goto 45 dX4_firstFault_41 (by decide) ?_
      refine mm_iret dX4_firstFault_45 rfl ⟨rfl, Nat.zero_le _⟩ ?_
      try simp only [hr, t1, hni, hii, Int32.lt_iff_toInt_lt, Int32.le_iff_toInt_le, ← Int32.toInt_inj, vp_in_iff, Int32.reduceToInt, mm_t1, mm_t2, mm_t3, mm_t4, mm_t10] at h1 h2
      refine h _ ?_
      rw [show n - i = 0 by omega, q_ff_z]
      unfold q_fin
      rw [if_pos (by omega)]
    · refine mm_iload_2 34 dX4_firstFault_33 rfl ?_
      refine mm_iconst 35 5 dX4_firstFault_34 rfl (by decide) ?_
      refine mm_irem 36 dX4_firstFault_35 rfl (by decide) ?_
      refine mm_iconst 37 4 dX4_firstFault_36 rfl (by decide) ?_
      refine mm_ic_ne 44 40 dX4_firstFault_37 (by decide) rfl (fun h3 => ?_) (fun h3 => ?_)
      · refine mm_iload_2 45 dX4_firstFault_44 rfl ?_
        refine mm_iret dX4_firstFault_45 rfl ⟨rfl, Nat.zero_le _⟩ ?_
        try simp only [hr, t1, hni, hii, Int32.lt_iff_toInt_lt, Int32.le_iff_toInt_le, ← Int32.toInt_inj, vp_in_iff, Int32.reduceToInt, mm_t1, mm_t2, mm_t3, mm_t4, mm_t10] at h1 h2 h3
        refine h _ ?_
        rw [show n - i = 0 by omega, q_ff_z]
        unfold q_fin
        rw [if_neg (by omega)]
      · refine mm_iconst 41 (-1) dX4_firstFault_40 rfl (by decide) ?_
        refine mm_goto 45 dX4_firstFault_41 (by decide) ?_
        refine mm_iret dX4_firstFault_45 rfl ⟨rfl, Nat.zero_le _⟩ ?_
        try simp only [hr, t1, hni, hii, Int32.lt_iff_toInt_lt, Int32.le_iff_toInt_le, ← Int32.toInt_inj, vp_in_iff, Int32.reduceToInt, mm_t1, mm_t2, mm_t3, mm_t4, mm_t10] at h1 h2 h3
        refine h _ ?_
        rw [show n - i = 0 by omega, q_ff_z]
        unfold q_fin
        rw [if_pos (by omega)]
  · have hlt : i < n := by (try simp only [hni, hii, Int32.lt_iff_toInt_lt, Int32.le_iff_toInt_le, ← Int32.toInt_inj, vp_in_iff, Int32.reduceToInt, mm_t1, mm_t2, mm_t3, mm_t4, mm_t10] at h1); omega
    refine mm_aload_0 13 dX4_firstFault_12 rfl ?_
    refine mm_iload_3 14 dX4_firstFault_13 rfl ?_
    refine mm_iload_1 15 dX4_firstFault_14 rfl ?_
    refine mm_cS3i 18 dX4_firstFault_15 v_X4_61 rfl (Nat.le_of_ble_eq_true rfl) ⟨rfl, rfl⟩ ⟨Nat.zero_le _, Nat.zero_le _⟩ (c_X4_goesOn hn h60 hnl rfl hlt rfl (fun h4 => ?_) (fun h4 => ?_))
    · refine mm_if_ne 23 21 dX4_firstFault_18 (by decide) rfl (fun _ => ?_) (fun h => absurd h (by decide))
      refine mm_iinc_3 26 1 dX4_firstFault_23 rfl (by decide) rfl ?_
      refine mm_goto 7 dX4_firstFault_26 (by decide) ?_
      rw [nI_1]
      exact ih (n - (i + 1)) (by omega) (i + 1) (Nat.le_refl _) (by omega) (fun r hr => h r (by rw [hr, show n - i = (n - (i + 1)) + 1 by omega]; rw [q_ff_s, if_pos h4]))
    · refine mm_if_ne 23 21 dX4_firstFault_18 (by decide) rfl (fun h => absurd h (by decide)) (fun _ => ?_)
      refine mm_iload_3 22 dX4_firstFault_21 rfl ?_
      refine mm_iret dX4_firstFault_22 rfl ⟨rfl, Nat.zero_le _⟩ ?_
      refine h _ ?_
      rw [show n - i = (n - (i + 1)) + 1 by omega, q_ff_s, if_neg h4]

set_option maxHeartbeats 4000000 in
theorem c_X4_firstFault {l : Launch} {G : mm_G} {d : Nat} {M : mm_M} {Q : Int32 → mm_T → mm_M → Prop} {n nl : Nat} (hn : M 3 1 = nI n) (h60 : n ≤ 60) (hnl : nl ≤ 6) {y : Int32} (hy : y = nI nl) (h : ∀ r, r = q_f1 nl n (M 4) → Q r T0 (M)) : mm_met l G (d + 3) k_X4_firstFault [.ref 3, .int y] T0 M (mm_pi Q) := by
  refine mm_enter 2 [.ref 3, .int y, .double 0, .double 0] o_X4_firstFault rfl rfl ?_
  refine mm_aload_0 1 dX4_firstFault_0 rfl ?_
  refine mm_cV0i 4 dX4_firstFault_1 v_X4_45 rfl t_3 (by decide) rfl rfl (Nat.le_of_ble_eq_true rfl) ⟨rfl, rfl⟩ ⟨Nat.zero_le _, Nat.zero_le _⟩ (c_X8_length t_3 t_4 (fun r1 e2 => ?_))
  refine mm_istore_2 5 dX4_firstFault_4 rfl rfl ?_
  refine mm_iconst 6 0 dX4_firstFault_5 rfl (by decide) ?_
  refine mm_istore_3 7 dX4_firstFault_6 rfl rfl ?_
  rw [e2, hn, hy]
  exact w_X4_firstFault hn h60 hnl n 0 (by omega) (by omega) (fun r hr => h r hr)

set_option maxHeartbeats 4000000 in
theorem w_X4_parse {l : Launch} {G : mm_G} {d : Nat} {M : mm_M} {Q : mm_T → mm_M → Prop} {N : Nat} {n nl : Nat} (hn : M 3 1 = nI n) (h60 : n ≤ 60) (hnl : nl ≤ 6) (hN : N = q_np nl n (M 4)) (h : ∀ M1 : mm_M, M1 7 4 = nI (q_np nl n (M 4)) → M1 7 5 = q_f1 nl n (M 4) → (∀ c, c < 7 ∨ 11 < c → M1 c = M c) → (∀ j, j < q_np nl n (M 4) → M1 8 j = q_wh (M 4) j 0 ∧ M1 9 j = q_wh (M 4) j 1 ∧ M1 10 j = q_wh (M 4) j 2 ∧ M1 11 j = q_wh (M 4) j 3) → Q T0 M1) : ∀ (k i : Nat) (Mi : mm_M) {x2 : Int32} {x4 : Value}, N - i ≤ k → i ≤ N → Mi 7 4 = nI N → Mi 7 5 = q_f1 nl n (M 4) → (∀ c, c < 7 ∨ 11 < c → Mi c = M c) → (∀ j, j < i → Mi 8 j = q_wh (M 4) j 0) → (∀ j, j < i → Mi 9 j = q_wh (M 4) j 1) → (∀ j, j < i → Mi 10 j = q_wh (M 4) j 2) → (∀ j, j < i → Mi 11 j = q_wh (M 4) j 3) → mm_wp l G (d + 4) k_X4_parse (mm_pv Q) 40 [.ref 7, .ref 3, .int x2, .int (nI i), x4] [] T0 Mi 0 0 := by
  intro k
  induction k using Nat.strongRecOn with | _ k ih => ?_
  intro i Mi x2 x4 hki hi h5 h6 hK w0 w1 w2 w3
  have hN12 : N ≤ 12 := by rw [hN]; exact q_np_le h60
  have hni : (nI N).toInt = N := mm_ti (by omega)
  have hii : (nI i).toInt = i := mm_ti (by omega)
  refine mm_iload_3 41 dX4_parse_40 rfl ?_
  refine mm_aload_0 42 dX4_parse_41 rfl ?_
  refine mm_getI 45 dX4_parse_42 f_X4_24 rfl t_7 rfl ?_
  refine mm_ic_ge 123 48 dX4_parse_45 (by decide) rfl (fun h1 => ?_) (fun h1 => ?_)
  · refine mm_vret dX4_parse_123 rfl ⟨rfl, Nat.zero_le _⟩ ?_
    have hz : i = N := by (try simp only [h5, hni, hii, Int32.lt_iff_toInt_lt, Int32.le_iff_toInt_le, ← Int32.toInt_inj, vp_in_iff, Int32.reduceToInt, mm_t1, mm_t2, mm_t3, mm_t4, mm_t10] at h1); omega
    subst hz
    rw [hN] at h5 w0 w1 w2 w3
    exact h Mi h5 h6 hK (fun j hj => ⟨w0 j hj, w1 j hj, w2 j hj, w3 j hj⟩)
  · have hlt : i < N := by (try simp only [h5, hni, hii, Int32.lt_iff_toInt_lt, Int32.le_iff_toInt_le, ← Int32.toInt_inj, vp_in_iff, Int32.reduceToInt, mm_t1, mm_t2, mm_t3, mm_t4, mm_t10] at h1); omega
    refine mm_iconst 49 5 dX4_parse_48 rfl (by decide) ?_
    refine mm_iload_3 50 dX4_parse_49 rfl ?_
    refine mm_imul 51 dX4_parse_50 rfl ?_
    refine mm_istore_4 53 dX4_parse_51 rfl rfl ?_
    refine mm_aload_0 54 dX4_parse_53 rfl ?_
    refine mm_getR 57 dX4_parse_54 f_X4_9 rfl t_7 rfl ?_
    refine mm_iload_3 58 dX4_parse_57 rfl ?_
    refine mm_aload_1 59 dX4_parse_58 rfl ?_
    refine mm_iload_4 61 dX4_parse_59 rfl ?_
    refine mm_cV1i 64 dX4_parse_61 v_X4_55 rfl t_3 (by decide) rfl rfl (Nat.le_of_ble_eq_true rfl) ⟨rfl, rfl⟩ ⟨Nat.zero_le _, Nat.zero_le _⟩ (c_X8_at t_3 t_4 (n := n) (by rw [hK 3 (by omega)]; exact hn) h60 (by decide) (k := 5 * i) (by rw [mm_l5, pk_mul]) (by omega) (fun r2 e3 => ?_))
    refine mm_bipush 66 109 dX4_parse_64 rfl (by decide) ?_
    refine mm_ic_ne 73 69 dX4_parse_66 (by decide) rfl (fun h4 => ?_) (fun h4 => ?_)
    · refine mm_iconst 74 1 dX4_parse_73 rfl (by decide) ?_
      refine mm_iastoren 75 (i) dX4_parse_74 rfl t_8 (by decide) (rfl) (by omega) ?_
      refine mm_aload_0 76 dX4_parse_75 rfl ?_
      refine mm_getR 79 dX4_parse_76 f_X4_15 rfl t_7 rfl ?_
      refine mm_iload_3 80 dX4_parse_79 rfl ?_
      refine mm_aload_1 81 dX4_parse_80 rfl ?_
      refine mm_iload_4 83 dX4_parse_81 rfl ?_
      refine mm_iconst 84 1 dX4_parse_83 rfl (by decide) ?_
      refine mm_iadd 85 dX4_parse_84 rfl ?_
      refine mm_cV1i 88 dX4_parse_85 v_X4_58 rfl t_3 (by decide) rfl rfl (Nat.le_of_ble_eq_true rfl) ⟨rfl, rfl⟩ ⟨Nat.zero_le _, Nat.zero_le _⟩ (c_X8_figureAt t_3 t_4 (n := n) (by rw [mm_upn _ _ _ (by decide)]; rw [hK 3 (by omega)]; exact hn) h60 (by decide) (k := 5 * i + 1) (by rw [mm_l5, mm_l1, pk_mul, nI_add]) (by omega) (fun r5 e6 => ?_))
      refine mm_iastoren 89 (i) dX4_parse_88 rfl t_9 (by decide) (rfl) (by omega) ?_
      refine mm_aload_0 90 dX4_parse_89 rfl ?_
      refine mm_getR 93 dX4_parse_90 f_X4_18 rfl t_7 rfl ?_
      refine mm_iload_3 94 dX4_parse_93 rfl ?_
      refine mm_aload_1 95 dX4_parse_94 rfl ?_
      refine mm_iload_4 97 dX4_parse_95 rfl ?_
      refine mm_iconst 98 2 dX4_parse_97 rfl (by decide) ?_
      refine mm_iadd 99 dX4_parse_98 rfl ?_
      refine mm_cV1i 102 dX4_parse_99 v_X4_58 rfl t_3 (by decide) rfl rfl (Nat.le_of_ble_eq_true rfl) ⟨rfl, rfl⟩ ⟨Nat.zero_le _, Nat.zero_le _⟩ (c_X8_figureAt t_3 t_4 (n := n) (by rw [mm_upn _ _ _ (by decide), mm_upn _ _ _ (by decide)]; rw [hK 3 (by omega)]; exact hn) h60 (by decide) (k := 5 * i + 2) (by rw [mm_l5, mm_l2, pk_mul, nI_add]) (by omega) (fun r7 e8 => ?_))
      refine mm_iastoren 103 (i) dX4_parse_102 rfl t_10 (by decide) (rfl) (by omega) ?_
      refine mm_aload_0 104 dX4_parse_103 rfl ?_
      refine mm_getR 107 dX4_parse_104 f_X4_21 rfl t_7 rfl ?_
      refine mm_iload_3 108 dX4_parse_107 rfl ?_
      refine mm_aload_1 109 dX4_parse_108 rfl ?_
      refine mm_iload_4 111 dX4_parse_109 rfl ?_
      refine mm_iconst 112 3 dX4_parse_111 rfl (by decide) ?_
      refine mm_iadd 113 dX4_parse_112 rfl ?_
      refine mm_cV1i 116 dX4_parse_113 v_X4_58 rfl t_3 (by decide) rfl rfl (Nat.le_of_ble_eq_true rfl) ⟨rfl, rfl⟩ ⟨Nat.zero_le _, Nat.zero_le _⟩ (c_X8_figureAt t_3 t_4 (n := n) (by rw [mm_upn _ _ _ (by decide), mm_upn _ _ _ (by decide), mm_upn _ _ _ (by decide)]; rw [hK 3 (by omega)]; exact hn) h60 (by decide) (k := 5 * i + 3) (by rw [mm_l5, mm_l3, pk_mul, nI_add]) (by omega) (fun r9 e10 => ?_))
      refine mm_iastoren 117 (i) dX4_parse_116 rfl t_11 (by decide) (rfl) (by omega) ?_
      refine mm_iinc_3 120 1 dX4_parse_117 rfl (by decide) rfl ?_
      refine mm_goto 40 dX4_parse_120 (by decide) ?_
      have g := q_np_g h60 (j := i) (by rw [← hN]; exact hlt)
      have v0 : r2 = M 4 (5 * i) := by rw [e3, hK 4 (by omega), if_pos (by omega)]
      have v1 : r5 = q_wh (M 4) i 1 := by rw [e6]; rw [mm_upn _ _ _ (by decide), hK 4 (by omega)]; unfold q_fig q_wh; rw [if_pos (by omega), if_neg (by omega)]
      have v2 : r7 = q_wh (M 4) i 2 := by rw [e8]; rw [mm_upn _ _ _ (by decide), mm_upn _ _ _ (by decide), hK 4 (by omega)]; unfold q_fig q_wh; rw [if_pos (by omega), if_neg (by omega)]
      have v3 : r9 = q_wh (M 4) i 3 := by rw [e10]; rw [mm_upn _ _ _ (by decide), mm_upn _ _ _ (by decide), mm_upn _ _ _ (by decide), hK 4 (by omega)]; unfold q_fig q_wh; rw [if_pos (by omega), if_neg (by omega)]
      rw [nI_1]
      refine ih (N - (i + 1)) (by omega) (i + 1) _ (Nat.le_refl _) (by omega) (by rw [mm_upn _ _ _ (by decide), mm_upn _ _ _ (by decide), mm_upn _ _ _ (by decide), mm_upn _ _ _ (by decide)]; exact h5) (by rw [mm_upn _ _ _ (by decide), mm_upn _ _ _ (by decide), mm_upn _ _ _ (by decide), mm_upn _ _ _ (by decide)]; exact h6) (fun c c1 => by rw [mm_upn _ _ _ (by omega), mm_upn _ _ _ (by omega), mm_upn _ _ _ (by omega), mm_upn _ _ _ (by omega)]; exact hK c c1) ?_ ?_ ?_ ?_
      · rw [mm_upn _ _ _ (by decide), mm_upn _ _ _ (by decide), mm_upn _ _ _ (by decide), mm_upc]
        refine mm_updlt w0 ?_
        unfold q_wh
        rw [if_pos rfl, ← v0]
        try simp only [Int32.lt_iff_toInt_lt, Int32.le_iff_toInt_le, ← Int32.toInt_inj, vp_in_iff, Int32.reduceToInt, mm_t1, mm_t2, mm_t3, mm_t4, mm_t10] at h4
        first | rw [if_pos (by omega)] | rw [if_neg (by omega)]
      · rw [mm_upn _ _ _ (by decide), mm_upn _ _ _ (by decide), mm_upc, mm_upn _ _ _ (by decide)]
        exact mm_updlt w1 v1
      · rw [mm_upn _ _ _ (by decide), mm_upc, mm_upn _ _ _ (by decide), mm_upn _ _ _ (by decide)]
        exact mm_updlt w2 v2
      · rw [mm_upc, mm_upn _ _ _ (by decide), mm_upn _ _ _ (by decide), mm_upn _ _ _ (by decide)]
        exact mm_updlt w3 v3
    · refine mm_iconst 70 0 dX4_parse_69 rfl (by decide) ?_
      refine mm_goto 74 dX4_parse_70 (by decide) ?_
      refine mm_iastoren 75 (i) dX4_parse_74 rfl t_8 (by decide) (rfl) (by omega) ?_
      refine mm_aload_0 76 dX4_parse_75 rfl ?_
      refine mm_getR 79 dX4_parse_76 f_X4_15 rfl t_7 rfl ?_
      refine mm_iload_3 80 dX4_parse_79 rfl ?_
      refine mm_aload_1 81 dX4_parse_80 rfl ?_
      refine mm_iload_4 83 dX4_parse_81 rfl ?_
      refine mm_iconst 84 1 dX4_parse_83 rfl (by decide) ?_
      refine mm_iadd 85 dX4_parse_84 rfl ?_
      refine mm_cV1i 88 dX4_parse_85 v_X4_58 rfl t_3 (by decide) rfl rfl (Nat.le_of_ble_eq_true rfl) ⟨rfl, rfl⟩ ⟨Nat.zero_le _, Nat.zero_le _⟩ (c_X8_figureAt t_3 t_4 (n := n) (by rw [mm_upn _ _ _ (by decide)]; rw [hK 3 (by omega)]; exact hn) h60 (by decide) (k := 5 * i + 1) (by rw [mm_l5, mm_l1, pk_mul, nI_add]) (by omega) (fun r11 e12 => ?_))
      refine mm_iastoren 89 (i) dX4_parse_88 rfl t_9 (by decide) (rfl) (by omega) ?_
      refine mm_aload_0 90 dX4_parse_89 rfl ?_
      refine mm_getR 93 dX4_parse_90 f_X4_18 rfl t_7 rfl ?_
      refine mm_iload_3 94 dX4_parse_93 rfl ?_
      refine mm_aload_1 95 dX4_parse_94 rfl ?_
      refine mm_iload_4 97 dX4_parse_95 rfl ?_
      refine mm_iconst 98 2 dX4_parse_97 rfl (by decide) ?_
      refine mm_iadd 99 dX4_parse_98 rfl ?_
      refine mm_cV1i 102 dX4_parse_99 v_X4_58 rfl t_3 (by decide) rfl rfl (Nat.le_of_ble_eq_true rfl) ⟨rfl, rfl⟩ ⟨Nat.zero_le _, Nat.zero_le _⟩ (c_X8_figureAt t_3 t_4 (n := n) (by rw [mm_upn _ _ _ (by decide), mm_upn _ _ _ (by decide)]; rw [hK 3 (by omega)]; exact hn) h60 (by decide) (k := 5 * i + 2) (by rw [mm_l5, mm_l2, pk_mul, nI_add]) (by omega) (fun r13 e14 => ?_))
      refine mm_iastoren 103 (i) dX4_parse_102 rfl t_10 (by decide) (rfl) (by omega) ?_
      refine mm_aload_0 104 dX4_parse_103 rfl ?_
      refine mm_getR 107 dX4_parse_104 f_X4_21 rfl t_7 rfl ?_
      refine mm_iload_3 108 dX4_parse_107 rfl ?_
      refine mm_aload_1 109 dX4_parse_108 rfl ?_
      refine mm_iload_4 111 dX4_parse_109 rfl ?_
      refine mm_iconst 112 3 dX4_parse_111 rfl (by decide) ?_
      refine mm_iadd 113 dX4_parse_112 rfl ?_
      refine mm_cV1i 116 dX4_parse_113 v_X4_58 rfl t_3 (by decide) rfl rfl (Nat.le_of_ble_eq_true rfl) ⟨rfl, rfl⟩ ⟨Nat.zero_le _, Nat.zero_le _⟩ (c_X8_figureAt t_3 t_4 (n := n) (by rw [mm_upn _ _ _ (by decide), mm_upn _ _ _ (by decide), mm_upn _ _ _ (by decide)]; rw [hK 3 (by omega)]; exact hn) h60 (by decide) (k := 5 * i + 3) (by rw [mm_l5, mm_l3, pk_mul, nI_add]) (by omega) (fun r15 e16 => ?_))
      refine mm_iastoren 117 (i) dX4_parse_116 rfl t_11 (by decide) (rfl) (by omega) ?_
      refine mm_iinc_3 120 1 dX4_parse_117 rfl (by decide) rfl ?_
      refine mm_goto 40 dX4_parse_120 (by decide) ?_
      have g := q_np_g h60 (j := i) (by rw [← hN]; exact hlt)
      have v0 : r2 = M 4 (5 * i) := by rw [e3, hK 4 (by omega), if_pos (by omega)]
      have v1 : r11 = q_wh (M 4) i 1 := by rw [e12]; rw [mm_upn _ _ _ (by decide), hK 4 (by omega)]; unfold q_fig q_wh; rw [if_pos (by omega), if_neg (by omega)]
      have v2 : r13 = q_wh (M 4) i 2 := by rw [e14]; rw [mm_upn _ _ _ (by decide), mm_upn _ _ _ (by decide), hK 4 (by omega)]; unfold q_fig q_wh; rw [if_pos (by omega), if_neg (by omega)]
      have v3 : r15 = q_wh (M 4) i 3 := by rw [e16]; rw [mm_upn _ _ _ (by decide), mm_upn _ _ _ (by decide), mm_upn _ _ _ (by decide), hK 4 (by omega)]; unfold q_fig q_wh; rw [if_pos (by omega), if_neg (by omega)]
      rw [nI_1]
      refine ih (N - (i + 1)) (by omega) (i + 1) _ (Nat.le_refl _) (by omega) (by rw [mm_upn _ _ _ (by decide), mm_upn _ _ _ (by decide), mm_upn _ _ _ (by decide), mm_upn _ _ _ (by decide)]; exact h5) (by rw [mm_upn _ _ _ (by decide), mm_upn _ _ _ (by decide), mm_upn _ _ _ (by decide), mm_upn _ _ _ (by decide)]; exact h6) (fun c c1 => by rw [mm_upn _ _ _ (by omega), mm_upn _ _ _ (by omega), mm_upn _ _ _ (by omega), mm_upn _ _ _ (by omega)]; exact hK c c1) ?_ ?_ ?_ ?_
      · rw [mm_upn _ _ _ (by decide), mm_upn _ _ _ (by decide), mm_upn _ _ _ (by decide), mm_upc]
        refine mm_updlt w0 ?_
        unfold q_wh
        rw [if_pos rfl, ← v0]
        try simp only [Int32.lt_iff_toInt_lt, Int32.le_iff_toInt_le, ← Int32.toInt_inj, vp_in_iff, Int32.reduceToInt, mm_t1, mm_t2, mm_t3, mm_t4, mm_t10] at h4
        first | rw [if_pos (by omega)] | rw [if_neg (by omega)]
      · rw [mm_upn _ _ _ (by decide), mm_upn _ _ _ (by decide), mm_upc, mm_upn _ _ _ (by decide)]
        exact mm_updlt w1 v1
      · rw [mm_upn _ _ _ (by decide), mm_upc, mm_upn _ _ _ (by decide), mm_upn _ _ _ (by decide)]
        exact mm_updlt w2 v2
      · rw [mm_upc, mm_upn _ _ _ (by decide), mm_upn _ _ _ (by decide), mm_upn _ _ _ (by decide)]
        exact mm_updlt w3 v3

set_option maxHeartbeats 4000000 in
theorem c_X4_parse {l : Launch} {G : mm_G} {d : Nat} {M : mm_M} {Q : mm_T → mm_M → Prop} {n nl : Nat} (hn : M 3 1 = nI n) (h60 : n ≤ 60) (hnl : nl ≤ 6) {y : Int32} (hy : y = nI nl) (h : ∀ M1 : mm_M, M1 7 4 = nI (q_np nl n (M 4)) → M1 7 5 = q_f1 nl n (M 4) → (∀ c, c < 7 ∨ 11 < c → M1 c = M c) → (∀ j, j < q_np nl n (M 4) → M1 8 j = q_wh (M 4) j 0 ∧ M1 9 j = q_wh (M 4) j 1 ∧ M1 10 j = q_wh (M 4) j 2 ∧ M1 11 j = q_wh (M 4) j 3) → Q T0 M1) : mm_met l G (d + 4) k_X4_parse [.ref 7, .ref 3, .int y] T0 M (mm_pv Q) := by
  refine mm_enter 2 [.ref 7, .ref 3, .int y, .double 0, .double 0] o_X4_parse rfl rfl ?_
  refine mm_aload_0 1 dX4_parse_0 rfl ?_
  refine mm_aload_1 2 dX4_parse_1 rfl ?_
  refine mm_iload_2 3 dX4_parse_2 rfl ?_
  refine mm_cS2i 6 dX4_parse_3 v_X4_41 rfl (Nat.le_of_ble_eq_true rfl) ⟨rfl, rfl⟩ ⟨Nat.zero_le _, Nat.zero_le _⟩ (c_X4_firstFault hn h60 hnl hy (fun r1 e2 => ?_))
  refine mm_putI 9 dX4_parse_6 p_X4_28 ⟨rfl, rfl⟩ rfl t_7 rfl ?_
  refine mm_aload_0 10 dX4_parse_9 rfl ?_
  refine mm_aload_0 11 dX4_parse_10 rfl ?_
  refine mm_getI 14 dX4_parse_11 f_X4_28 rfl t_7 rfl ?_
  refine mm_iconst 15 (-1) dX4_parse_14 rfl (by decide) ?_
  refine mm_ic_ne 34 18 dX4_parse_15 (by decide) rfl (fun h3 => ?_) (fun h3 => ?_)
  · refine mm_iconst 35 0 dX4_parse_34 rfl (by decide) ?_
    refine mm_putI 38 dX4_parse_35 p_X4_24 ⟨rfl, rfl⟩ rfl t_7 rfl ?_
    refine mm_iconst 39 0 dX4_parse_38 rfl (by decide) ?_
    refine mm_istore_3 40 dX4_parse_39 rfl rfl ?_
    have hf : ¬ q_f1 nl n (M 4) = -1 := by rw [← e2]; simpa [mm_upv] using h3
    have hN : q_np nl n (M 4) = 0 := by unfold q_np; rw [if_neg hf]
    refine w_X4_parse hn h60 hnl rfl h _ 0 _ (Nat.le_refl _) (by omega) (by rw [mm_upv, hN]; rfl) (by rw [mm_upc, mm_upc]; simp [upd, e2]) (fun c c1 => by rw [mm_upn _ _ _ (by omega), mm_upn _ _ _ (by omega)]) (fun j hj => absurd hj (by omega)) (fun j hj => absurd hj (by omega)) (fun j hj => absurd hj (by omega)) (fun j hj => absurd hj (by omega))
  · refine mm_aload_1 19 dX4_parse_18 rfl ?_
    refine mm_cV0i 22 dX4_parse_19 v_X4_45 rfl t_3 (by decide) rfl rfl (Nat.le_of_ble_eq_true rfl) ⟨rfl, rfl⟩ ⟨Nat.zero_le _, Nat.zero_le _⟩ (c_X8_length t_3 t_4 (fun r4 e5 => ?_))
    refine mm_iconst 23 1 dX4_parse_22 rfl (by decide) ?_
    refine mm_iadd 24 dX4_parse_23 rfl ?_
    refine mm_iconst 25 5 dX4_parse_24 rfl (by decide) ?_
    refine mm_idiv 26 dX4_parse_25 rfl (by decide) ?_
    refine mm_bipush 28 12 dX4_parse_26 rfl (by decide) ?_
    refine mm_mmin 31 dX4_parse_28 j_X4_51 rfl (Nat.le_of_ble_eq_true rfl) ⟨Nat.zero_le _, Nat.zero_le _⟩ ?_
    refine mm_goto 35 dX4_parse_31 (by decide) ?_
    refine mm_putI 38 dX4_parse_35 p_X4_24 ⟨rfl, rfl⟩ rfl t_7 rfl ?_
    refine mm_iconst 39 0 dX4_parse_38 rfl (by decide) ?_
    refine mm_istore_3 40 dX4_parse_39 rfl rfl ?_
    have hf : q_f1 nl n (M 4) = -1 := by rw [← e2]; simpa [mm_upv] using h3
    have hN : q_np nl n (M 4) = (n + 1) / 5 := by unfold q_np; rw [if_pos hf]
    have h6 := q_np_le (nl := nl) (b := M 4) h60
    have hv : (if (12 : Int32) < (r4 + 1) / 5 then (12 : Int32) else (r4 + 1) / 5) = nI (q_np nl n (M 4)) := by
      rw [e5, mm_upn _ _ _ (by decide), hn, nI_1, mm_div 5 (rfl : nI (n + 1) = nI (n + 1)) (by omega) mm_l5 (by omega) (by omega), hN, if_neg]
      intro hc
      have hc := Int32.lt_iff_toInt_lt.mp hc
      rw [mm_ti (by omega)] at hc
      simp only [Int32.reduceToInt] at hc
      omega
    rw [hv]
    refine w_X4_parse hn h60 hnl rfl h _ 0 _ (Nat.le_refl _) (by omega) (by rw [mm_upv]) (by rw [mm_upc, mm_upc]; simp [upd, e2]) (fun c c1 => by rw [mm_upn _ _ _ (by omega), mm_upn _ _ _ (by omega)]) (fun j hj => absurd hj (by omega)) (fun j hj => absurd hj (by omega)) (fun j hj => absurd hj (by omega)) (fun j hj => absurd hj (by omega))

