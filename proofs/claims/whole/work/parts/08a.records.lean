theorem mm_tin {w : Cond} (h : w ∈ tables_1) (hg : goodWord w = true) : w ∈ mm_tb := List.mem_filter.mpr ⟨List.mem_append_right _ h, hg⟩
theorem mm_tinN {w : Cond} (h : w ∈ tables_1) (hg : mm_isN w = true) : w ∈ mm_nest := List.mem_filter.mpr ⟨List.mem_append_right _ h, hg⟩
theorem mm_b1 {w : Cond} (i : Nat) (h : tables_1_1[i]? = some w) (hg : goodWord w = true) : w ∈ mm_tb := mm_tin (List.mem_append_left _ (List.mem_of_getElem? h)) hg
theorem mm_n1 {w : Cond} (i : Nat) (h : tables_1_1[i]? = some w) (hg : mm_isN w = true) : w ∈ mm_nest := mm_tinN (List.mem_append_left _ (List.mem_of_getElem? h)) hg
theorem mm_b2 {w : Cond} (i : Nat) (h : tables_1_2[i]? = some w) (hg : goodWord w = true) : w ∈ mm_tb := mm_tin (List.mem_append_right _ (List.mem_append_left _ (List.mem_of_getElem? h))) hg
theorem mm_n2 {w : Cond} (i : Nat) (h : tables_1_2[i]? = some w) (hg : mm_isN w = true) : w ∈ mm_nest := mm_tinN (List.mem_append_right _ (List.mem_append_left _ (List.mem_of_getElem? h))) hg
theorem mm_b3 {w : Cond} (i : Nat) (h : tables_1_3[i]? = some w) (hg : goodWord w = true) : w ∈ mm_tb := mm_tin (List.mem_append_right _ (List.mem_append_right _ (List.mem_append_left _ (List.mem_of_getElem? h)))) hg
theorem mm_n3 {w : Cond} (i : Nat) (h : tables_1_3[i]? = some w) (hg : mm_isN w = true) : w ∈ mm_nest := mm_tinN (List.mem_append_right _ (List.mem_append_right _ (List.mem_append_left _ (List.mem_of_getElem? h)))) hg
theorem mm_b4 {w : Cond} (i : Nat) (h : tables_1_4[i]? = some w) (hg : goodWord w = true) : w ∈ mm_tb := mm_tin (List.mem_append_right _ (List.mem_append_right _ (List.mem_append_right _ (List.mem_append_left _ (List.mem_of_getElem? h))))) hg
theorem mm_n4 {w : Cond} (i : Nat) (h : tables_1_4[i]? = some w) (hg : mm_isN w = true) : w ∈ mm_nest := mm_tinN (List.mem_append_right _ (List.mem_append_right _ (List.mem_append_right _ (List.mem_append_left _ (List.mem_of_getElem? h))))) hg
theorem mm_b5 {w : Cond} (i : Nat) (h : tables_1_5[i]? = some w) (hg : goodWord w = true) : w ∈ mm_tb := mm_tin (List.mem_append_right _ (List.mem_append_right _ (List.mem_append_right _ (List.mem_append_right _ (List.mem_append_left _ (List.mem_of_getElem? h)))))) hg
theorem mm_n5 {w : Cond} (i : Nat) (h : tables_1_5[i]? = some w) (hg : mm_isN w = true) : w ∈ mm_nest := mm_tinN (List.mem_append_right _ (List.mem_append_right _ (List.mem_append_right _ (List.mem_append_right _ (List.mem_append_left _ (List.mem_of_getElem? h)))))) hg
theorem mm_b6 {w : Cond} (i : Nat) (h : tables_1_6[i]? = some w) (hg : goodWord w = true) : w ∈ mm_tb := mm_tin (List.mem_append_right _ (List.mem_append_right _ (List.mem_append_right _ (List.mem_append_right _ (List.mem_append_right _ (List.mem_append_left _ (List.mem_of_getElem? h))))))) hg
theorem mm_n6 {w : Cond} (i : Nat) (h : tables_1_6[i]? = some w) (hg : mm_isN w = true) : w ∈ mm_nest := mm_tinN (List.mem_append_right _ (List.mem_append_right _ (List.mem_append_right _ (List.mem_append_right _ (List.mem_append_right _ (List.mem_append_left _ (List.mem_of_getElem? h))))))) hg
theorem mm_b7 {w : Cond} (i : Nat) (h : tables_1_7[i]? = some w) (hg : goodWord w = true) : w ∈ mm_tb := mm_tin (List.mem_append_right _ (List.mem_append_right _ (List.mem_append_right _ (List.mem_append_right _ (List.mem_append_right _ (List.mem_append_right _ (List.mem_of_getElem? h))))))) hg
theorem mm_n7 {w : Cond} (i : Nat) (h : tables_1_7[i]? = some w) (hg : mm_isN w = true) : w ∈ mm_nest := mm_tinN (List.mem_append_right _ (List.mem_append_right _ (List.mem_append_right _ (List.mem_append_right _ (List.mem_append_right _ (List.mem_append_right _ (List.mem_of_getElem? h))))))) hg
theorem mm_bs (i : Nat) {q : MethodName × Nat} (h : lw_privs[i]? = some q) : Cond.selects q.1.cls q.1 q.1 ∈ mm_tb := List.mem_filter.mpr ⟨List.mem_append_left _ (List.mem_map.mpr ⟨q, List.mem_of_getElem? h, rfl⟩), rfl⟩
def T0 : mm_T := [(11, 0, [some (some 1), some (some 3), some (some 5), some (some 7), some (some 12), some (some 14), some (some 20), some (some 27), some (some 34), some (some 38), some (some 42), none]), (8, 0, [some (some 2), none]), (13, 20, []), (8, 0, [some (some 4), none]), (13, 60, []), (3, 0, [some (some 6), none, none]), (13, 6, []), (4, 0, [some (some 8), some (some 9), some (some 10), some (some 11), none, none]), (13, 12, []), (13, 12, []), (13, 12, []), (13, 12, []), (6, 0, [some (some 13)]), (13, 52, []), (2, 0, [some (some 15), some (some 16), some (some 17), some (some 18), some (some 19), none]), (13, 24, []), (13, 24, []), (13, 24, []), (13, 24, []), (13, 24, []), (10, 0, [some (some 5), some (some 7), some (some 12), some (some 14), some (some 21), some (some 22), some (some 23), some (some 24), some (some 25), some (some 26), none, none, none, none]), (13, 6, []), (13, 12, []), (13, 12, []), (14, 12, []), (13, 12, []), (13, 12, []), (1, 0, [some (some 20), some (some 31), some (some 28), some (some 29), some (some 30), none, none, none, none, none]), (13, 36, []), (13, 36, []), (13, 7, []), (0, 0, [some (some 20), some (some 7), some (some 32), some (some 33), none]), (13, 36, []), (13, 36, []), (9, 0, [some (some 20), some (some 35), none]), (0, 0, [some (some 20), some (some 7), some (some 36), some (some 37), none]), (13, 36, []), (13, 36, []), (7, 0, [some (some 39), some (some 40), some (some 41), none]), (13, 8, []), (13, 8, []), (13, 8, []), (15, 4, [some (some 43), some (some 45), some (some 47), some (some 49)]), (5, 0, [some (some 44), none, none]), (13, 60, []), (5, 0, [some (some 46), none, none]), (13, 60, []), (5, 0, [some (some 48), none, none]), (13, 60, []), (5, 0, [some (some 50), none, none]), (13, 60, []), (12, 0, [some (some 52), some (some 53), some (some 54), some (some 55), none, some (some 56), some (some 57), none, none, some (some 58), none, some (some 59), some (some 60), none, some (some 61), some (some 62), some (some 63), some (some 64), some (some 65), some (some 66), some (some 67), none, some (some 68), none, none, some (some 69), none, some (some 70), some (some 71), none, some (some 72), some (some 73), some (some 74), none, none, some (some 75), some (some 76), some (some 77), some (some 78), some (some 79), none]), (13, 4, []), (13, 4, []), (13, 240, []), (13, 60, []), (13, 80, []), (13, 2, []), (13, 6, []), (13, 48, []), (13, 52, []), (13, 120, []), (13, 6, []), (13, 12, []), (13, 12, []), (13, 12, []), (13, 12, []), (13, 12, []), (13, 24, []), (13, 12, []), (13, 13, []), (13, 13, []), (13, 24, []), (13, 4, []), (13, 4, []), (13, 6, []), (13, 6, []), (14, 6, []), (13, 6, []), (13, 6, [])]
theorem t_0 : T0[0]? = some (11, 0, [some (some 1), some (some 3), some (some 5), some (some 7), some (some 12), some (some 14), some (some 20), some (some 27), some (some 34), some (some 38), some (some 42), none]) := rfl
theorem t_1 : T0[1]? = some (8, 0, [some (some 2), none]) := rfl
theorem t_2 : T0[2]? = some (13, 20, []) := rfl
theorem t_3 : T0[3]? = some (8, 0, [some (some 4), none]) := rfl
theorem t_4 : T0[4]? = some (13, 60, []) := rfl
theorem t_5 : T0[5]? = some (3, 0, [some (some 6), none, none]) := rfl
theorem t_6 : T0[6]? = some (13, 6, []) := rfl
theorem t_7 : T0[7]? = some (4, 0, [some (some 8), some (some 9), some (some 10), some (some 11), none, none]) := rfl
theorem t_8 : T0[8]? = some (13, 12, []) := rfl
theorem t_9 : T0[9]? = some (13, 12, []) := rfl
theorem t_10 : T0[10]? = some (13, 12, []) := rfl
theorem t_11 : T0[11]? = some (13, 12, []) := rfl
theorem t_12 : T0[12]? = some (6, 0, [some (some 13)]) := rfl
theorem t_13 : T0[13]? = some (13, 52, []) := rfl
theorem t_14 : T0[14]? = some (2, 0, [some (some 15), some (some 16), some (some 17), some (some 18), some (some 19), none]) := rfl
theorem t_15 : T0[15]? = some (13, 24, []) := rfl
theorem t_16 : T0[16]? = some (13, 24, []) := rfl
theorem t_17 : T0[17]? = some (13, 24, []) := rfl
theorem t_18 : T0[18]? = some (13, 24, []) := rfl
theorem t_19 : T0[19]? = some (13, 24, []) := rfl
theorem t_20 : T0[20]? = some (10, 0, [some (some 5), some (some 7), some (some 12), some (some 14), some (some 21), some (some 22), some (some 23), some (some 24), some (some 25), some (some 26), none, none, none, none]) := rfl
theorem t_21 : T0[21]? = some (13, 6, []) := rfl
theorem t_22 : T0[22]? = some (13, 12, []) := rfl
theorem t_23 : T0[23]? = some (13, 12, []) := rfl
theorem t_24 : T0[24]? = some (14, 12, []) := rfl
theorem t_25 : T0[25]? = some (13, 12, []) := rfl
theorem t_26 : T0[26]? = some (13, 12, []) := rfl
theorem t_27 : T0[27]? = some (1, 0, [some (some 20), some (some 31), some (some 28), some (some 29), some (some 30), none, none, none, none, none]) := rfl
theorem t_28 : T0[28]? = some (13, 36, []) := rfl
theorem t_29 : T0[29]? = some (13, 36, []) := rfl
theorem t_30 : T0[30]? = some (13, 7, []) := rfl
theorem t_31 : T0[31]? = some (0, 0, [some (some 20), some (some 7), some (some 32), some (some 33), none]) := rfl
theorem t_32 : T0[32]? = some (13, 36, []) := rfl
theorem t_33 : T0[33]? = some (13, 36, []) := rfl
theorem t_34 : T0[34]? = some (9, 0, [some (some 20), some (some 35), none]) := rfl
theorem t_35 : T0[35]? = some (0, 0, [some (some 20), some (some 7), some (some 36), some (some 37), none]) := rfl
theorem t_36 : T0[36]? = some (13, 36, []) := rfl
theorem t_37 : T0[37]? = some (13, 36, []) := rfl
theorem t_38 : T0[38]? = some (7, 0, [some (some 39), some (some 40), some (some 41), none]) := rfl
theorem t_39 : T0[39]? = some (13, 8, []) := rfl
theorem t_40 : T0[40]? = some (13, 8, []) := rfl
theorem t_41 : T0[41]? = some (13, 8, []) := rfl
theorem t_42 : T0[42]? = some (15, 4, [some (some 43), some (some 45), some (some 47), some (some 49)]) := rfl
theorem t_43 : T0[43]? = some (5, 0, [some (some 44), none, none]) := rfl
theorem t_44 : T0[44]? = some (13, 60, []) := rfl
theorem t_45 : T0[45]? = some (5, 0, [some (some 46), none, none]) := rfl
theorem t_46 : T0[46]? = some (13, 60, []) := rfl
theorem t_47 : T0[47]? = some (5, 0, [some (some 48), none, none]) := rfl
theorem t_48 : T0[48]? = some (13, 60, []) := rfl
theorem t_49 : T0[49]? = some (5, 0, [some (some 50), none, none]) := rfl
theorem t_50 : T0[50]? = some (13, 60, []) := rfl
theorem t_51 : T0[51]? = some (12, 0, [some (some 52), some (some 53), some (some 54), some (some 55), none, some (some 56), some (some 57), none, none, some (some 58), none, some (some 59), some (some 60), none, some (some 61), some (some 62), some (some 63), some (some 64), some (some 65), some (some 66), some (some 67), none, some (some 68), none, none, some (some 69), none, some (some 70), some (some 71), none, some (some 72), some (some 73), some (some 74), none, none, some (some 75), some (some 76), some (some 77), some (some 78), some (some 79), none]) := rfl
theorem t_52 : T0[52]? = some (13, 4, []) := rfl
theorem t_53 : T0[53]? = some (13, 4, []) := rfl
theorem t_54 : T0[54]? = some (13, 240, []) := rfl
theorem t_55 : T0[55]? = some (13, 60, []) := rfl
theorem t_56 : T0[56]? = some (13, 80, []) := rfl
theorem t_57 : T0[57]? = some (13, 2, []) := rfl
theorem t_58 : T0[58]? = some (13, 6, []) := rfl
theorem t_59 : T0[59]? = some (13, 48, []) := rfl
theorem t_60 : T0[60]? = some (13, 52, []) := rfl
theorem t_61 : T0[61]? = some (13, 120, []) := rfl
theorem t_62 : T0[62]? = some (13, 6, []) := rfl
theorem t_63 : T0[63]? = some (13, 12, []) := rfl
theorem t_64 : T0[64]? = some (13, 12, []) := rfl
theorem t_65 : T0[65]? = some (13, 12, []) := rfl
theorem t_66 : T0[66]? = some (13, 12, []) := rfl
theorem t_67 : T0[67]? = some (13, 12, []) := rfl
theorem t_68 : T0[68]? = some (13, 24, []) := rfl
theorem t_69 : T0[69]? = some (13, 12, []) := rfl
theorem t_70 : T0[70]? = some (13, 13, []) := rfl
theorem t_71 : T0[71]? = some (13, 13, []) := rfl
theorem t_72 : T0[72]? = some (13, 24, []) := rfl
theorem t_73 : T0[73]? = some (13, 4, []) := rfl
theorem t_74 : T0[74]? = some (13, 4, []) := rfl
theorem t_75 : T0[75]? = some (13, 6, []) := rfl
theorem t_76 : T0[76]? = some (13, 6, []) := rfl
theorem t_77 : T0[77]? = some (14, 6, []) := rfl
theorem t_78 : T0[78]? = some (13, 6, []) := rfl
theorem t_79 : T0[79]? = some (13, 6, []) := rfl
theorem in_X0 : ∀ w ∈ u_ws RX0 TX0 5, w ∈ mm_tb := by
  intro w hw
  obtain ⟨k, hk, rfl⟩ := List.mem_map.mp hw
  have hk := List.mem_range.mp hk
  rcases (show k = 0 ∨ k = 1 ∨ k = 2 ∨ k = 3 ∨ k = 4 by omega) with rfl | rfl | rfl | rfl | rfl
  · exact (mm_b1 185 rfl rfl)
  · exact (mm_b1 187 rfl rfl)
  · exact (mm_b1 189 rfl rfl)
  · exact (mm_b1 191 rfl rfl)
  · exact (mm_b1 193 rfl rfl)
theorem in_X1 : ∀ w ∈ u_ws RX1 TX1 10, w ∈ mm_tb := by
  intro w hw
  obtain ⟨k, hk, rfl⟩ := List.mem_map.mp hw
  have hk := List.mem_range.mp hk
  rcases (show k = 0 ∨ k = 1 ∨ k = 2 ∨ k = 3 ∨ k = 4 ∨ k = 5 ∨ k = 6 ∨ k = 7 ∨ k = 8 ∨ k = 9 by omega) with rfl | rfl | rfl | rfl | rfl | rfl | rfl | rfl | rfl | rfl
  · exact (mm_b1 206 rfl rfl)
  · exact (mm_b1 208 rfl rfl)
  · exact (mm_b1 210 rfl rfl)
  · exact (mm_b1 212 rfl rfl)
  · exact (mm_b1 214 rfl rfl)
  · exact (mm_b1 216 rfl rfl)
  · exact (mm_b1 218 rfl rfl)
  · exact (mm_b1 220 rfl rfl)
  · exact (mm_b1 222 rfl rfl)
  · exact (mm_b1 224 rfl rfl)
theorem in_X2 : ∀ w ∈ u_ws RX2 TX2 6, w ∈ mm_tb := by
  intro w hw
  obtain ⟨k, hk, rfl⟩ := List.mem_map.mp hw
  have hk := List.mem_range.mp hk
  rcases (show k = 0 ∨ k = 1 ∨ k = 2 ∨ k = 3 ∨ k = 4 ∨ k = 5 by omega) with rfl | rfl | rfl | rfl | rfl | rfl
  · exact (mm_b1 105 rfl rfl)
  · exact (mm_b1 107 rfl rfl)
  · exact (mm_b1 109 rfl rfl)
  · exact (mm_b1 111 rfl rfl)
  · exact (mm_b1 113 rfl rfl)
  · exact (mm_b1 115 rfl rfl)
theorem in_X3 : ∀ w ∈ u_ws RX3 TX3 3, w ∈ mm_tb := by
  intro w hw
  obtain ⟨k, hk, rfl⟩ := List.mem_map.mp hw
  have hk := List.mem_range.mp hk
  rcases (show k = 0 ∨ k = 1 ∨ k = 2 by omega) with rfl | rfl | rfl
  · exact (mm_b1 51 rfl rfl)
  · exact (mm_b1 53 rfl rfl)
  · exact (mm_b1 55 rfl rfl)
theorem in_X4 : ∀ w ∈ u_ws RX4 TX4 6, w ∈ mm_tb := by
  intro w hw
  obtain ⟨k, hk, rfl⟩ := List.mem_map.mp hw
  have hk := List.mem_range.mp hk
  rcases (show k = 0 ∨ k = 1 ∨ k = 2 ∨ k = 3 ∨ k = 4 ∨ k = 5 by omega) with rfl | rfl | rfl | rfl | rfl | rfl
  · exact (mm_b1 70 rfl rfl)
  · exact (mm_b1 72 rfl rfl)
  · exact (mm_b1 74 rfl rfl)
  · exact (mm_b1 76 rfl rfl)
  · exact (mm_b1 78 rfl rfl)
  · exact (mm_b1 80 rfl rfl)
theorem in_X5 : ∀ w ∈ u_ws RX5 TX5 3, w ∈ mm_tb := by
  intro w hw
  obtain ⟨k, hk, rfl⟩ := List.mem_map.mp hw
  have hk := List.mem_range.mp hk
  rcases (show k = 0 ∨ k = 1 ∨ k = 2 by omega) with rfl | rfl | rfl
  · exact (mm_b2 34 rfl rfl)
  · exact (mm_b2 36 rfl rfl)
  · exact (mm_b2 38 rfl rfl)
theorem in_X6 : ∀ w ∈ u_ws RX6 TX6 1, w ∈ mm_tb := by
  intro w hw
  obtain ⟨k, hk, rfl⟩ := List.mem_map.mp hw
  have hk := List.mem_range.mp hk
  rcases (show k = 0 by omega) with rfl
  · exact (mm_b1 90 rfl rfl)
theorem in_X7 : ∀ w ∈ u_ws RX7 TX7 4, w ∈ mm_tb := by
  intro w hw
  obtain ⟨k, hk, rfl⟩ := List.mem_map.mp hw
  have hk := List.mem_range.mp hk
  rcases (show k = 0 ∨ k = 1 ∨ k = 2 ∨ k = 3 by omega) with rfl | rfl | rfl | rfl
  · exact (mm_b2 15 rfl rfl)
  · exact (mm_b2 17 rfl rfl)
  · exact (mm_b2 19 rfl rfl)
  · exact (mm_b2 21 rfl rfl)
theorem in_X8 : ∀ w ∈ u_ws RX8 TX8 2, w ∈ mm_tb := by
  intro w hw
  obtain ⟨k, hk, rfl⟩ := List.mem_map.mp hw
  have hk := List.mem_range.mp hk
  rcases (show k = 0 ∨ k = 1 by omega) with rfl | rfl
  · exact (mm_b1 36 rfl rfl)
  · exact (mm_b1 38 rfl rfl)
theorem in_X9 : ∀ w ∈ u_ws RX9 TX9 3, w ∈ mm_tb := by
  intro w hw
  obtain ⟨k, hk, rfl⟩ := List.mem_map.mp hw
  have hk := List.mem_range.mp hk
  rcases (show k = 0 ∨ k = 1 ∨ k = 2 by omega) with rfl | rfl | rfl
  · exact (mm_b1 238 rfl rfl)
  · exact (mm_b2 0 rfl rfl)
  · exact (mm_b2 2 rfl rfl)
theorem in_X10 : ∀ w ∈ u_ws RX10 TX10 14, w ∈ mm_tb := by
  intro w hw
  obtain ⟨k, hk, rfl⟩ := List.mem_map.mp hw
  have hk := List.mem_range.mp hk
  rcases (show k = 0 ∨ k = 1 ∨ k = 2 ∨ k = 3 ∨ k = 4 ∨ k = 5 ∨ k = 6 ∨ k = 7 ∨ k = 8 ∨ k = 9 ∨ k = 10 ∨ k = 11 ∨ k = 12 ∨ k = 13 by omega) with rfl | rfl | rfl | rfl | rfl | rfl | rfl | rfl | rfl | rfl | rfl | rfl | rfl | rfl
  · exact (mm_b1 138 rfl rfl)
  · exact (mm_b1 140 rfl rfl)
  · exact (mm_b1 142 rfl rfl)
  · exact (mm_b1 144 rfl rfl)
  · exact (mm_b1 146 rfl rfl)
  · exact (mm_b1 148 rfl rfl)
  · exact (mm_b1 150 rfl rfl)
  · exact (mm_b1 152 rfl rfl)
  · exact (mm_b1 154 rfl rfl)
  · exact (mm_b1 156 rfl rfl)
  · exact (mm_b1 158 rfl rfl)
  · exact (mm_b1 160 rfl rfl)
  · exact (mm_b1 162 rfl rfl)
  · exact (mm_b1 164 rfl rfl)
theorem in_X11 : ∀ w ∈ u_ws RX11 TX11 12, w ∈ mm_tb := by
  intro w hw
  obtain ⟨k, hk, rfl⟩ := List.mem_map.mp hw
  have hk := List.mem_range.mp hk
  rcases (show k = 0 ∨ k = 1 ∨ k = 2 ∨ k = 3 ∨ k = 4 ∨ k = 5 ∨ k = 6 ∨ k = 7 ∨ k = 8 ∨ k = 9 ∨ k = 10 ∨ k = 11 by omega) with rfl | rfl | rfl | rfl | rfl | rfl | rfl | rfl | rfl | rfl | rfl | rfl
  · exact (mm_b2 53 rfl rfl)
  · exact (mm_b2 55 rfl rfl)
  · exact (mm_b2 57 rfl rfl)
  · exact (mm_b2 59 rfl rfl)
  · exact (mm_b2 61 rfl rfl)
  · exact (mm_b2 63 rfl rfl)
  · exact (mm_b2 65 rfl rfl)
  · exact (mm_b2 67 rfl rfl)
  · exact (mm_b2 69 rfl rfl)
  · exact (mm_b2 71 rfl rfl)
  · exact (mm_b2 73 rfl rfl)
  · exact (mm_b2 75 rfl rfl)
theorem in_X12 : ∀ w ∈ u_ws RX12 TX12 41, w ∈ mm_tb := by
  intro w hw
  obtain ⟨k, hk, rfl⟩ := List.mem_map.mp hw
  have hk := List.mem_range.mp hk
  rcases (show k = 0 ∨ k = 1 ∨ k = 2 ∨ k = 3 ∨ k = 4 ∨ k = 5 ∨ k = 6 ∨ k = 7 ∨ k = 8 ∨ k = 9 ∨ k = 10 ∨ k = 11 ∨ k = 12 ∨ k = 13 ∨ k = 14 ∨ k = 15 ∨ k = 16 ∨ k = 17 ∨ k = 18 ∨ k = 19 ∨ k = 20 ∨ k = 21 ∨ k = 22 ∨ k = 23 ∨ k = 24 ∨ k = 25 ∨ k = 26 ∨ k = 27 ∨ k = 28 ∨ k = 29 ∨ k = 30 ∨ k = 31 ∨ k = 32 ∨ k = 33 ∨ k = 34 ∨ k = 35 ∨ k = 36 ∨ k = 37 ∨ k = 38 ∨ k = 39 ∨ k = 40 by omega) with rfl | rfl | rfl | rfl | rfl | rfl | rfl | rfl | rfl | rfl | rfl | rfl | rfl | rfl | rfl | rfl | rfl | rfl | rfl | rfl | rfl | rfl | rfl | rfl | rfl | rfl | rfl | rfl | rfl | rfl | rfl | rfl | rfl | rfl | rfl | rfl | rfl | rfl | rfl | rfl | rfl
  · exact (mm_b5 46 rfl rfl)
  · exact (mm_b5 48 rfl rfl)
  · exact (mm_b5 50 rfl rfl)
  · exact (mm_b5 52 rfl rfl)
  · exact (mm_b5 54 rfl rfl)
  · exact (mm_b5 56 rfl rfl)
  · exact (mm_b5 58 rfl rfl)
  · exact (mm_b5 60 rfl rfl)
  · exact (mm_b5 62 rfl rfl)
  · exact (mm_b5 64 rfl rfl)
  · exact (mm_b5 66 rfl rfl)
  · exact (mm_b5 68 rfl rfl)
  · exact (mm_b5 70 rfl rfl)
  · exact (mm_b5 72 rfl rfl)
  · exact (mm_b5 74 rfl rfl)
  · exact (mm_b5 76 rfl rfl)
  · exact (mm_b5 78 rfl rfl)
  · exact (mm_b5 80 rfl rfl)
  · exact (mm_b5 82 rfl rfl)
  · exact (mm_b5 84 rfl rfl)
  · exact (mm_b5 86 rfl rfl)
  · exact (mm_b5 88 rfl rfl)
  · exact (mm_b5 90 rfl rfl)
  · exact (mm_b5 92 rfl rfl)
  · exact (mm_b5 94 rfl rfl)
  · exact (mm_b5 96 rfl rfl)
  · exact (mm_b5 98 rfl rfl)
  · exact (mm_b5 100 rfl rfl)
  · exact (mm_b5 102 rfl rfl)
  · exact (mm_b5 104 rfl rfl)
  · exact (mm_b5 106 rfl rfl)
  · exact (mm_b5 108 rfl rfl)
  · exact (mm_b5 110 rfl rfl)
  · exact (mm_b5 112 rfl rfl)
  · exact (mm_b5 114 rfl rfl)
  · exact (mm_b5 116 rfl rfl)
  · exact (mm_b5 118 rfl rfl)
  · exact (mm_b5 120 rfl rfl)
  · exact (mm_b5 122 rfl rfl)
  · exact (mm_b5 124 rfl rfl)
  · exact (mm_b5 126 rfl rfl)
def k_X0_init : mm_R := (yX0_init, cX0_init, 3, none, 2, 72)
def k_X0_number : mm_R := (yX0_number, cX0_number, 1, (some .int), 0, 0)
def k_X0_clear : mm_R := (yX0_clear, cX0_clear, 1, none, 0, 0)
def k_X0_gather : mm_R := (yX0_gather, cX0_gather, 5, none, 0, 0)
def k_X0_has : mm_R := (yX0_has, cX0_has, 2, (some .boolean), 0, 0)
def k_X0_oneOf : mm_R := (yX0_oneOf, cX0_oneOf, 2, (some .int), 0, 0)
def k_X0_otherOf : mm_R := (yX0_otherOf, cX0_otherOf, 2, (some .int), 0, 0)
def k_X0_bitsOf : mm_R := (yX0_bitsOf, cX0_bitsOf, 2, (some .int), 0, 0)
def k_X0_differenceOf : mm_R := (yX0_differenceOf, cX0_differenceOf, 2, (some .int), 0, 0)
def k_X1_init : mm_R := (yX1_init, cX1_init, 3, none, 6, 156)
def k_X1_fewestFor : mm_R := (yX1_fewestFor, cX1_fewestFor, 4, (some .int), 0, 0)
def k_X1_widestBy : mm_R := (yX1_widestBy, cX1_widestBy, 8, (some .int), 0, 0)
def k_X1_search : mm_R := (yX1_search, cX1_search, 4, none, 0, 0)
def k_X1_court : mm_R := (yX1_court, cX1_court, 10, none, 0, 0)
def k_X1_hasAll : mm_R := (yX1_hasAll, cX1_hasAll, 3, (some .boolean), 0, 0)
def k_X1_note : mm_R := (yX1_note, cX1_note, 5, none, 0, 0)
def k_X2_init : mm_R := (yX2_init, cX2_init, 1, none, 5, 120)
def k_X2_number : mm_R := (yX2_number, cX2_number, 1, (some .int), 0, 0)
def k_X2_has : mm_R := (yX2_has, cX2_has, 2, (some .boolean), 0, 0)
def k_X2_isFull : mm_R := (yX2_isFull, cX2_isFull, 1, (some .boolean), 0, 0)
def k_X2_mayComeIn : mm_R := (yX2_mayComeIn, cX2_mayComeIn, 2, (some .boolean), 0, 0)
def k_X2_add : mm_R := (yX2_add, cX2_add, 6, none, 0, 0)
def k_X2_dropLast : mm_R := (yX2_dropLast, cX2_dropLast, 1, none, 0, 0)
def k_X2_weekOf : mm_R := (yX2_weekOf, cX2_weekOf, 2, (some .int), 0, 0)
def k_X2_kindOf : mm_R := (yX2_kindOf, cX2_kindOf, 2, (some .int), 0, 0)
def k_X2_oneOf : mm_R := (yX2_oneOf, cX2_oneOf, 2, (some .int), 0, 0)
def k_X2_otherOf : mm_R := (yX2_otherOf, cX2_otherOf, 2, (some .int), 0, 0)
def k_X2_hourOf : mm_R := (yX2_hourOf, cX2_hourOf, 2, (some .int), 0, 0)
def k_X3_init : mm_R := (yX3_init, cX3_init, 1, none, 1, 6)
def k_X3_number : mm_R := (yX3_number, cX3_number, 1, (some .int), 0, 0)
def k_X3_faultAt : mm_R := (yX3_faultAt, cX3_faultAt, 1, (some .int), 0, 0)
def k_X3_has : mm_R := (yX3_has, cX3_has, 2, (some .boolean), 0, 0)
def k_X3_toldWidth : mm_R := (yX3_toldWidth, cX3_toldWidth, 2, (some .int), 0, 0)
def k_X3_parse : mm_R := (yX3_parse, cX3_parse, 4, none, 0, 0)
def k_X3_firstFault : mm_R := (yX3_firstFault, cX3_firstFault, 3, (some .int), 0, 0)
def k_X3_goesOn : mm_R := (yX3_goesOn, cX3_goesOn, 2, (some .boolean), 0, 0)
def k_X4_init : mm_R := (yX4_init, cX4_init, 1, none, 4, 48)
def k_X4_number : mm_R := (yX4_number, cX4_number, 1, (some .int), 0, 0)
def k_X4_faultAt : mm_R := (yX4_faultAt, cX4_faultAt, 1, (some .int), 0, 0)
def k_X4_has : mm_R := (yX4_has, cX4_has, 2, (some .boolean), 0, 0)
def k_X4_sexOf : mm_R := (yX4_sexOf, cX4_sexOf, 2, (some .int), 0, 0)
def k_X4_homeOf : mm_R := (yX4_homeOf, cX4_homeOf, 2, (some .int), 0, 0)
def k_X4_heightOf : mm_R := (yX4_heightOf, cX4_heightOf, 2, (some .int), 0, 0)
def k_X4_hatOf : mm_R := (yX4_hatOf, cX4_hatOf, 2, (some .int), 0, 0)
def k_X4_setHeight : mm_R := (yX4_setHeight, cX4_setHeight, 3, none, 0, 0)
def k_X4_shadowOf : mm_R := (yX4_shadowOf, cX4_shadowOf, 3, (some .int), 0, 0)
def k_X4_areMatch : mm_R := (yX4_areMatch, cX4_areMatch, 4, (some .boolean), 0, 0)
def k_X4_parse : mm_R := (yX4_parse, cX4_parse, 5, none, 0, 0)
def k_X4_firstFault : mm_R := (yX4_firstFault, cX4_firstFault, 4, (some .int), 0, 0)
def k_X4_goesOn : mm_R := (yX4_goesOn, cX4_goesOn, 4, (some .boolean), 0, 0)
def k_X5_init : mm_R := (yX5_init, cX5_init, 1, none, 1, 60)
def k_X5_isLost : mm_R := (yX5_isLost, cX5_isLost, 1, (some .boolean), 0, 0)
def k_X5_size : mm_R := (yX5_size, cX5_size, 1, (some .int), 0, 0)
def k_X5_form : mm_R := (yX5_form, cX5_form, 1, (some .int), 0, 0)
def k_X5_hasItem : mm_R := (yX5_hasItem, cX5_hasItem, 2, (some .boolean), 0, 0)
def k_X5_hasSpan : mm_R := (yX5_hasSpan, cX5_hasSpan, 3, (some .boolean), 0, 0)
def k_X5_renew : mm_R := (yX5_renew, cX5_renew, 3, none, 0, 0)
def k_X5_drop : mm_R := (yX5_drop, cX5_drop, 1, none, 0, 0)
def k_X5_itemAt : mm_R := (yX5_itemAt, cX5_itemAt, 2, (some .int), 0, 0)
def k_X5_put : mm_R := (yX5_put, cX5_put, 3, none, 0, 0)
def k_X5_take : mm_R := (yX5_take, cX5_take, 5, none, 0, 0)
def k_X5_fitted : mm_R := (yX5_fitted, cX5_fitted, 2, (some .int), 0, 0)
def k_X6_init : mm_R := (yX6_init, cX6_init, 1, none, 1, 52)
def k_X6_cloudsIn : mm_R := (yX6_cloudsIn, cX6_cloudsIn, 2, (some .int), 0, 0)
def k_X6_setClouds : mm_R := (yX6_setClouds, cX6_setClouds, 3, none, 0, 0)
def k_X6_cloudedWeeks : mm_R := (yX6_cloudedWeeks, cX6_cloudedWeeks, 6, (some .int), 0, 0)
def k_X7_init : mm_R := (yX7_init, cX7_init, 1, none, 3, 24)
def k_X7_number : mm_R := (yX7_number, cX7_number, 1, (some .int), 0, 0)
def k_X7_isFull : mm_R := (yX7_isFull, cX7_isFull, 1, (some .boolean), 0, 0)
def k_X7_add : mm_R := (yX7_add, cX7_add, 4, none, 0, 0)
def k_X7_clear : mm_R := (yX7_clear, cX7_clear, 1, none, 0, 0)
def k_X7_unaskable : mm_R := (yX7_unaskable, cX7_unaskable, 5, (some .int), 0, 0)
def k_X7_otherwiseIn : mm_R := (yX7_otherwiseIn, cX7_otherwiseIn, 7, (some .int), 0, 0)
def k_X8_init : mm_R := (yX8_init, cX8_init, 2, none, 1, 60)
def k_X8_length : mm_R := (yX8_length, cX8_length, 1, (some .int), 0, 0)
def k_X8_isFull : mm_R := (yX8_isFull, cX8_isFull, 1, (some .boolean), 0, 0)
def k_X8_append : mm_R := (yX8_append, cX8_append, 2, none, 0, 0)
def k_X8_clear : mm_R := (yX8_clear, cX8_clear, 1, none, 0, 0)
def k_X8_at : mm_R := (yX8_at, cX8_at, 2, (some .int), 0, 0)
def k_X8_figureAt : mm_R := (yX8_figureAt, cX8_figureAt, 3, (some .int), 0, 0)
def k_X9_init : mm_R := (yX9_init, cX9_init, 3, none, 3, 77)
def k_X9_playOut : mm_R := (yX9_playOut, cX9_playOut, 3, (some .int), 0, 0)
def k_X9_firstWedding : mm_R := (yX9_firstWedding, cX9_firstWedding, 1, (some .int), 0, 0)
def k_X9_takeTurn : mm_R := (yX9_takeTurn, cX9_takeTurn, 12, (some .int), 0, 0)
def k_X9_noteFirst : mm_R := (yX9_noteFirst, cX9_noteFirst, 3, none, 0, 0)
def k_X10_init : mm_R := (yX10_init, cX10_init, 5, none, 6, 66)
def k_X10_widthOf : mm_R := (yX10_widthOf, cX10_widthOf, 2, (some .int), 0, 0)
def k_X10_partnerOf : mm_R := (yX10_partnerOf, cX10_partnerOf, 2, (some .int), 0, 0)
def k_X10_provinceOf : mm_R := (yX10_provinceOf, cX10_provinceOf, 2, (some .int), 0, 0)
def k_X10_isAlive : mm_R := (yX10_isAlive, cX10_isAlive, 2, (some .boolean), 0, 0)
def k_X10_isFree : mm_R := (yX10_isFree, cX10_isFree, 2, (some .boolean), 0, 0)
def k_X10_mayMarry : mm_R := (yX10_mayMarry, cX10_mayMarry, 3, (some .boolean), 0, 0)
def k_X10_freeIn : mm_R := (yX10_freeIn, cX10_freeIn, 4, (some .int), 0, 0)
def k_X10_nobodys : mm_R := (yX10_nobodys, cX10_nobodys, 1, (some .int), 0, 0)
def k_X10_movedLast : mm_R := (yX10_movedLast, cX10_movedLast, 1, (some .int), 0, 0)
def k_X10_againstLaw : mm_R := (yX10_againstLaw, cX10_againstLaw, 1, (some .int), 0, 0)
def k_X10_firstAgainstLaw : mm_R := (yX10_firstAgainstLaw, cX10_firstAgainstLaw, 1, (some .int), 0, 0)
def k_X10_play : mm_R := (yX10_play, cX10_play, 4, none, 0, 0)
def k_X10_begin : mm_R := (yX10_begin, cX10_begin, 2, none, 0, 0)
def k_X10_playOne : mm_R := (yX10_playOne, cX10_playOne, 3, none, 0, 0)
def k_X10_gain : mm_R := (yX10_gain, cX10_gain, 3, (some .int), 0, 0)
def k_X10_marry : mm_R := (yX10_marry, cX10_marry, 8, (some .boolean), 0, 0)
def k_X10_part : mm_R := (yX10_part, cX10_part, 2, (some .boolean), 0, 0)
def k_X10_die : mm_R := (yX10_die, cX10_die, 3, (some .boolean), 0, 0)
def k_X10_differenceAt : mm_R := (yX10_differenceAt, cX10_differenceAt, 3, (some .int), 0, 0)
def k_X10_bind : mm_R := (yX10_bind, cX10_bind, 5, none, 0, 0)
def k_X10_dissolve : mm_R := (yX10_dissolve, cX10_dissolve, 4, (some .int), 0, 0)
def k_X11_init : mm_R := (yX11_init, cX11_init, 2, none, 50, 976)
def k_X11_type : mm_R := (yX11_type, cX11_type, 4, (some .int), 0, 0)
def k_X11_wipe : mm_R := (yX11_wipe, cX11_wipe, 4, (some .int), 0, 0)
def k_X11_fault : mm_R := (yX11_fault, cX11_fault, 2, (some .int), 0, 0)
def k_X11_person : mm_R := (yX11_person, cX11_person, 3, (some .int), 0, 0)
def k_X11_shadow : mm_R := (yX11_shadow, cX11_shadow, 3, (some .int), 0, 0)
def k_X11_cloud : mm_R := (yX11_cloud, cX11_cloud, 4, (some .int), 0, 0)
def k_X11_wed : mm_R := (yX11_wed, cX11_wed, 5, (some .int), 0, 0)
def k_X11_ends : mm_R := (yX11_ends, cX11_ends, 4, (some .int), 0, 0)
def k_X11_read : mm_R := (yX11_read, cX11_read, 9, (some .int), 0, 0)
def k_X11_undo : mm_R := (yX11_undo, cX11_undo, 1, (some .int), 0, 0)
def k_X11_judged : mm_R := (yX11_judged, cX11_judged, 1, (some .int), 0, 0)
def k_X11_moved : mm_R := (yX11_moved, cX11_moved, 2, (some .int), 0, 0)
def k_X11_width : mm_R := (yX11_width, cX11_width, 3, (some .int), 0, 0)
def k_X11_state : mm_R := (yX11_state, cX11_state, 4, (some .int), 0, 0)
def k_X11_nobody : mm_R := (yX11_nobody, cX11_nobody, 2, (some .int), 0, 0)
def k_X11_reach : mm_R := (yX11_reach, cX11_reach, 3, (some .int), 0, 0)
def k_X11_grows : mm_R := (yX11_grows, cX11_grows, 3, (some .int), 0, 0)
def k_X11_leave : mm_R := (yX11_leave, cX11_leave, 4, (some .int), 0, 0)
def k_X11_survey : mm_R := (yX11_survey, cX11_survey, 4, (some .int), 0, 0)
def k_X11_forget : mm_R := (yX11_forget, cX11_forget, 2, (some .int), 0, 0)
def k_X11_forged : mm_R := (yX11_forged, cX11_forged, 5, (some .int), 0, 0)
def k_X11_unlike : mm_R := (yX11_unlike, cX11_unlike, 1, (some .int), 0, 0)
def k_X11_without : mm_R := (yX11_without, cX11_without, 3, (some .int), 0, 0)
def k_X11_blame : mm_R := (yX11_blame, cX11_blame, 5, (some .int), 0, 0)
def k_X11_lords : mm_R := (yX11_lords, cX11_lords, 5, (some .int), 0, 0)
def k_X11_sheet : mm_R := (yX11_sheet, cX11_sheet, 5, (some .int), 0, 0)
def k_X11_lose : mm_R := (yX11_lose, cX11_lose, 4, (some .int), 0, 0)
def k_X11_lay : mm_R := (yX11_lay, cX11_lay, 7, (some .int), 0, 0)
def k_X11_get : mm_R := (yX11_get, cX11_get, 5, (some .int), 0, 0)
def k_X11_copy : mm_R := (yX11_copy, cX11_copy, 8, (some .int), 0, 0)
def k_X11_write : mm_R := (yX11_write, cX11_write, 6, (some .int), 0, 0)
def k_X11_count : mm_R := (yX11_count, cX11_count, 2, (some .int), 0, 0)
def k_X11_digest : mm_R := (yX11_digest, cX11_digest, 5, (some .long), 0, 0)
def k_X11_isWithin : mm_R := (yX11_isWithin, cX11_isWithin, 3, (some .boolean), 0, 0)
def k_X11_isHour : mm_R := (yX11_isHour, cX11_isHour, 1, (some .boolean), 0, 0)
def k_X11_isPersonNumber : mm_R := (yX11_isPersonNumber, cX11_isPersonNumber, 1, (some .boolean), 0, 0)
def k_X11_isForm : mm_R := (yX11_isForm, cX11_isForm, 1, (some .boolean), 0, 0)
def k_X11_mayBeWedding : mm_R := (yX11_mayBeWedding, cX11_mayBeWedding, 3, (some .boolean), 0, 0)
def k_X11_mayBeBehind : mm_R := (yX11_mayBeBehind, cX11_mayBeBehind, 2, (some .boolean), 0, 0)
def k_X11_textAt : mm_R := (yX11_textAt, cX11_textAt, 2, (some (.object "MarriedMap$Text")), 0, 0)
def k_X11_sheetAt : mm_R := (yX11_sheetAt, cX11_sheetAt, 2, (some (.object "MarriedMap$Sheet")), 0, 0)
def k_X11_parseTexts : mm_R := (yX11_parseTexts, cX11_parseTexts, 1, none, 0, 0)
def k_X11_wouldLeave : mm_R := (yX11_wouldLeave, cX11_wouldLeave, 5, (some .boolean), 0, 0)
def k_X11_itemRefusal : mm_R := (yX11_itemRefusal, cX11_itemRefusal, 4, (some .int), 0, 0)
def k_X11_finding : mm_R := (yX11_finding, cX11_finding, 2, (some .int), 0, 0)
def k_X12_init : mm_R := (yX12_init, cX12_init, 2, none, 28, 806)
def k_X12_in : mm_R := (yX12_in, cX12_in, 6, (some .boolean), 0, 0)
def k_X12_isTwo : mm_R := (yX12_isTwo, cX12_isTwo, 1, (some .boolean), 0, 0)
def k_X12_met : mm_R := (yX12_met, cX12_met, 2, (some .int), 0, 0)
def k_X12_isSheet : mm_R := (yX12_isSheet, cX12_isSheet, 1, (some .boolean), 0, 0)
def k_X12_sheet : mm_R := (yX12_sheet, cX12_sheet, 5, (some .int), 0, 0)
def k_X12_lose : mm_R := (yX12_lose, cX12_lose, 2, (some .int), 0, 0)
def k_X12_lacks : mm_R := (yX12_lacks, cX12_lacks, 4, (some .int), 0, 0)
def k_X12_cut : mm_R := (yX12_cut, cX12_cut, 2, (some .int), 0, 0)
def k_X12_lay : mm_R := (yX12_lay, cX12_lay, 6, (some .int), 0, 0)
def k_X12_get : mm_R := (yX12_get, cX12_get, 4, (some .int), 0, 0)
def k_X12_copy : mm_R := (yX12_copy, cX12_copy, 7, (some .int), 0, 0)
def k_X12_room : mm_R := (yX12_room, cX12_room, 1, (some .int), 0, 0)
def k_X12_type : mm_R := (yX12_type, cX12_type, 3, (some .int), 0, 0)
def k_X12_wipe : mm_R := (yX12_wipe, cX12_wipe, 3, (some .int), 0, 0)
def k_X12_here : mm_R := (yX12_here, cX12_here, 2, (some .int), 0, 0)
def k_X12_figure : mm_R := (yX12_figure, cX12_figure, 5, (some .int), 0, 0)
def k_X12_readsLand : mm_R := (yX12_readsLand, cX12_readsLand, 3, (some .boolean), 0, 0)
def k_X12_readsPerson : mm_R := (yX12_readsPerson, cX12_readsPerson, 4, (some .boolean), 0, 0)
def k_X12_fails : mm_R := (yX12_fails, cX12_fails, 2, (some .int), 0, 0)
def k_X12_reads : mm_R := (yX12_reads, cX12_reads, 4, (some .int), 0, 0)
def k_X12_find : mm_R := (yX12_find, cX12_find, 1, none, 0, 0)
def k_X12_faultOf : mm_R := (yX12_faultOf, cX12_faultOf, 4, (some .int), 0, 0)
def k_X12_fault : mm_R := (yX12_fault, cX12_fault, 2, (some .int), 0, 0)
def k_X12_isLand : mm_R := (yX12_isLand, cX12_isLand, 2, (some .boolean), 0, 0)
def k_X12_isPerson : mm_R := (yX12_isPerson, cX12_isPerson, 2, (some .boolean), 0, 0)
def k_X12_person : mm_R := (yX12_person, cX12_person, 3, (some .int), 0, 0)
def k_X12_shadowOf : mm_R := (yX12_shadowOf, cX12_shadowOf, 4, (some .int), 0, 0)
def k_X12_isHour : mm_R := (yX12_isHour, cX12_isHour, 1, (some .boolean), 0, 0)
def k_X12_shadow : mm_R := (yX12_shadow, cX12_shadow, 3, (some .int), 0, 0)
def k_X12_isWeek : mm_R := (yX12_isWeek, cX12_isWeek, 1, (some .boolean), 0, 0)
def k_X12_cloud : mm_R := (yX12_cloud, cX12_cloud, 4, (some .int), 0, 0)
def k_X12_isLate : mm_R := (yX12_isLate, cX12_isLate, 2, (some .boolean), 0, 0)
def k_X12_isAnyone : mm_R := (yX12_isAnyone, cX12_isAnyone, 1, (some .boolean), 0, 0)
def k_X12_tells : mm_R := (yX12_tells, cX12_tells, 6, (some .int), 0, 0)
def k_X12_wed : mm_R := (yX12_wed, cX12_wed, 5, (some .int), 0, 0)
def k_X12_ends : mm_R := (yX12_ends, cX12_ends, 4, (some .int), 0, 0)
def k_X12_read : mm_R := (yX12_read, cX12_read, 6, (some .int), 0, 0)
def k_X12_undo : mm_R := (yX12_undo, cX12_undo, 1, (some .int), 0, 0)
def k_X12_begins : mm_R := (yX12_begins, cX12_begins, 2, none, 0, 0)
def k_X12_isFree : mm_R := (yX12_isFree, cX12_isFree, 2, (some .boolean), 0, 0)
def k_X12_mayWed : mm_R := (yX12_mayWed, cX12_mayWed, 4, (some .boolean), 0, 0)
def k_X12_isLawful : mm_R := (yX12_isLawful, cX12_isLawful, 3, (some .boolean), 0, 0)
def k_X12_takes : mm_R := (yX12_takes, cX12_takes, 4, (some .int), 0, 0)
def k_X12_weds : mm_R := (yX12_weds, cX12_weds, 9, none, 0, 0)
def k_X12_parts : mm_R := (yX12_parts, cX12_parts, 4, (some .int), 0, 0)
def k_X12_does : mm_R := (yX12_does, cX12_does, 4, none, 0, 0)
def k_X12_goes : mm_R := (yX12_goes, cX12_goes, 4, none, 0, 0)
def k_X12_goesAll : mm_R := (yX12_goesAll, cX12_goesAll, 1, none, 0, 0)
def k_X12_judged : mm_R := (yX12_judged, cX12_judged, 1, (some .int), 0, 0)
def k_X12_moved : mm_R := (yX12_moved, cX12_moved, 2, (some .int), 0, 0)
def k_X12_isSo : mm_R := (yX12_isSo, cX12_isSo, 2, (some .boolean), 0, 0)
def k_X12_widthOf : mm_R := (yX12_widthOf, cX12_widthOf, 4, (some .int), 0, 0)
def k_X12_width : mm_R := (yX12_width, cX12_width, 3, (some .int), 0, 0)
def k_X12_stateNow : mm_R := (yX12_stateNow, cX12_stateNow, 3, (some .int), 0, 0)
def k_X12_state : mm_R := (yX12_state, cX12_state, 4, (some .int), 0, 0)
def k_X12_nobody : mm_R := (yX12_nobody, cX12_nobody, 2, (some .int), 0, 0)
def k_X12_gain : mm_R := (yX12_gain, cX12_gain, 3, (some .int), 0, 0)
def k_X12_findMost : mm_R := (yX12_findMost, cX12_findMost, 5, none, 0, 0)
def k_X12_isUseful : mm_R := (yX12_isUseful, cX12_isUseful, 4, (some .boolean), 0, 0)
def k_X12_keepsMost : mm_R := (yX12_keepsMost, cX12_keepsMost, 7, none, 0, 0)
def k_X12_reachOf : mm_R := (yX12_reachOf, cX12_reachOf, 4, (some .int), 0, 0)
def k_X12_reach : mm_R := (yX12_reach, cX12_reach, 3, (some .int), 0, 0)
def k_X12_growsOf : mm_R := (yX12_growsOf, cX12_growsOf, 3, (some .int), 0, 0)
def k_X12_grows : mm_R := (yX12_grows, cX12_grows, 3, (some .int), 0, 0)
def k_X12_wouldLeave : mm_R := (yX12_wouldLeave, cX12_wouldLeave, 5, (some .boolean), 0, 0)
def k_X12_leaveNow : mm_R := (yX12_leaveNow, cX12_leaveNow, 4, (some .int), 0, 0)
def k_X12_leave : mm_R := (yX12_leave, cX12_leave, 1, (some .int), 0, 0)
def k_X12_survey : mm_R := (yX12_survey, cX12_survey, 4, (some .int), 0, 0)
def k_X12_forget : mm_R := (yX12_forget, cX12_forget, 2, (some .int), 0, 0)
def k_X12_canBeAsked : mm_R := (yX12_canBeAsked, cX12_canBeAsked, 2, (some .boolean), 0, 0)
def k_X12_isRight : mm_R := (yX12_isRight, cX12_isRight, 2, (some .boolean), 0, 0)
def k_X12_forgedOf : mm_R := (yX12_forgedOf, cX12_forgedOf, 7, (some .int), 0, 0)
def k_X12_forged : mm_R := (yX12_forged, cX12_forged, 2, (some .int), 0, 0)
def k_X12_unlikeNow : mm_R := (yX12_unlikeNow, cX12_unlikeNow, 3, (some .int), 0, 0)
def k_X12_unlike : mm_R := (yX12_unlike, cX12_unlike, 1, (some .int), 0, 0)
def k_X12_withoutOf : mm_R := (yX12_withoutOf, cX12_withoutOf, 3, (some .int), 0, 0)
def k_X12_without : mm_R := (yX12_without, cX12_without, 3, (some .int), 0, 0)
def k_X12_blameOf : mm_R := (yX12_blameOf, cX12_blameOf, 6, (some .int), 0, 0)
def k_X12_blame : mm_R := (yX12_blame, cX12_blame, 2, (some .int), 0, 0)
def k_X12_freeOf : mm_R := (yX12_freeOf, cX12_freeOf, 5, (some .int), 0, 0)
def k_X12_mayPick : mm_R := (yX12_mayPick, cX12_mayPick, 6, (some .boolean), 0, 0)
def k_X12_widthBehind : mm_R := (yX12_widthBehind, cX12_widthBehind, 6, (some .int), 0, 0)
def k_X12_turnsOf : mm_R := (yX12_turnsOf, cX12_turnsOf, 9, (some .int), 0, 0)
def k_X12_enters : mm_R := (yX12_enters, cX12_enters, 4, none, 0, 0)
def k_X12_keeps : mm_R := (yX12_keeps, cX12_keeps, 4, none, 0, 0)
def k_X12_turnsBy : mm_R := (yX12_turnsBy, cX12_turnsBy, 5, (some .int), 0, 0)
def k_X12_lords : mm_R := (yX12_lords, cX12_lords, 4, (some .int), 0, 0)
def k_X12_write : mm_R := (yX12_write, cX12_write, 5, (some .int), 0, 0)
def k_X12_count : mm_R := (yX12_count, cX12_count, 4, (some .int), 0, 0)
def k_X12_digest : mm_R := (yX12_digest, cX12_digest, 5, (some .long), 0, 0)
def k_J7_fill_53178 : mm_R := (yJ7_fill_53178, cJ7_fill_53178, 4, none, 0, 0)
def k_L_law : mm_R := (yL_law, cL_law, 4, some .boolean, 80, 1835)
