theorem dX11_init_0 : decode cX11_init 0 = .ok (.aload_n 0, 1) := by decide +kernel
theorem dX11_init_1 : decode cX11_init 1 = .ok (.invokespecial 3, 3) := by decide +kernel
theorem dX11_init_4 : decode cX11_init 4 = .ok (.aload_n 0, 1) := by decide +kernel
theorem dX11_init_5 : decode cX11_init 5 = .ok (.new 9, 3) := by decide +kernel
theorem dX11_init_8 : decode cX11_init 8 = .ok (.dup, 1) := by decide +kernel
theorem dX11_init_9 : decode cX11_init 9 = .ok (.bipush 20, 2) := by decide +kernel
theorem dX11_init_11 : decode cX11_init 11 = .ok (.invokespecial 13, 3) := by decide +kernel
theorem dX11_init_14 : decode cX11_init 14 = .ok (.putfield 16, 3) := by decide +kernel
theorem dX11_init_17 : decode cX11_init 17 = .ok (.aload_n 0, 1) := by decide +kernel
theorem dX11_init_18 : decode cX11_init 18 = .ok (.new 9, 3) := by decide +kernel
theorem dX11_init_21 : decode cX11_init 21 = .ok (.dup, 1) := by decide +kernel
theorem dX11_init_22 : decode cX11_init 22 = .ok (.bipush 60, 2) := by decide +kernel
theorem dX11_init_24 : decode cX11_init 24 = .ok (.invokespecial 13, 3) := by decide +kernel
theorem dX11_init_27 : decode cX11_init 27 = .ok (.putfield 20, 3) := by decide +kernel
theorem dX11_init_30 : decode cX11_init 30 = .ok (.aload_n 0, 1) := by decide +kernel
theorem dX11_init_31 : decode cX11_init 31 = .ok (.new 23, 3) := by decide +kernel
theorem dX11_init_34 : decode cX11_init 34 = .ok (.dup, 1) := by decide +kernel
theorem dX11_init_35 : decode cX11_init 35 = .ok (.invokespecial 25, 3) := by decide +kernel
theorem dX11_init_38 : decode cX11_init 38 = .ok (.putfield 26, 3) := by decide +kernel
theorem dX11_init_41 : decode cX11_init 41 = .ok (.aload_n 0, 1) := by decide +kernel
theorem dX11_init_42 : decode cX11_init 42 = .ok (.new 30, 3) := by decide +kernel
theorem dX11_init_45 : decode cX11_init 45 = .ok (.dup, 1) := by decide +kernel
theorem dX11_init_46 : decode cX11_init 46 = .ok (.invokespecial 32, 3) := by decide +kernel
theorem dX11_init_49 : decode cX11_init 49 = .ok (.putfield 33, 3) := by decide +kernel
theorem dX11_init_52 : decode cX11_init 52 = .ok (.aload_n 0, 1) := by decide +kernel
theorem dX11_init_53 : decode cX11_init 53 = .ok (.new 37, 3) := by decide +kernel
theorem dX11_init_56 : decode cX11_init 56 = .ok (.dup, 1) := by decide +kernel
theorem dX11_init_57 : decode cX11_init 57 = .ok (.invokespecial 39, 3) := by decide +kernel
theorem dX11_init_60 : decode cX11_init 60 = .ok (.putfield 40, 3) := by decide +kernel
theorem dX11_init_63 : decode cX11_init 63 = .ok (.aload_n 0, 1) := by decide +kernel
theorem dX11_init_64 : decode cX11_init 64 = .ok (.new 44, 3) := by decide +kernel
theorem dX11_init_67 : decode cX11_init 67 = .ok (.dup, 1) := by decide +kernel
theorem dX11_init_68 : decode cX11_init 68 = .ok (.invokespecial 46, 3) := by decide +kernel
theorem dX11_init_71 : decode cX11_init 71 = .ok (.putfield 47, 3) := by decide +kernel
theorem dX11_init_74 : decode cX11_init 74 = .ok (.aload_n 0, 1) := by decide +kernel
theorem dX11_init_75 : decode cX11_init 75 = .ok (.new 51, 3) := by decide +kernel
theorem dX11_init_78 : decode cX11_init 78 = .ok (.dup, 1) := by decide +kernel
theorem dX11_init_79 : decode cX11_init 79 = .ok (.aload_n 0, 1) := by decide +kernel
theorem dX11_init_80 : decode cX11_init 80 = .ok (.getfield 26, 3) := by decide +kernel
theorem dX11_init_83 : decode cX11_init 83 = .ok (.aload_n 0, 1) := by decide +kernel
theorem dX11_init_84 : decode cX11_init 84 = .ok (.getfield 33, 3) := by decide +kernel
theorem dX11_init_87 : decode cX11_init 87 = .ok (.aload_n 0, 1) := by decide +kernel
theorem dX11_init_88 : decode cX11_init 88 = .ok (.getfield 40, 3) := by decide +kernel
theorem dX11_init_91 : decode cX11_init 91 = .ok (.aload_n 0, 1) := by decide +kernel
theorem dX11_init_92 : decode cX11_init 92 = .ok (.getfield 47, 3) := by decide +kernel
theorem dX11_init_95 : decode cX11_init 95 = .ok (.invokespecial 53, 3) := by decide +kernel
theorem dX11_init_98 : decode cX11_init 98 = .ok (.putfield 56, 3) := by decide +kernel
theorem dX11_init_101 : decode cX11_init 101 = .ok (.aload_n 0, 1) := by decide +kernel
theorem dX11_init_102 : decode cX11_init 102 = .ok (.new 60, 3) := by decide +kernel
theorem dX11_init_105 : decode cX11_init 105 = .ok (.dup, 1) := by decide +kernel
theorem dX11_init_106 : decode cX11_init 106 = .ok (.aload_n 0, 1) := by decide +kernel
theorem dX11_init_107 : decode cX11_init 107 = .ok (.getfield 56, 3) := by decide +kernel
theorem dX11_init_110 : decode cX11_init 110 = .ok (.aload_n 0, 1) := by decide +kernel
theorem dX11_init_111 : decode cX11_init 111 = .ok (.getfield 33, 3) := by decide +kernel
theorem dX11_init_114 : decode cX11_init 114 = .ok (.invokespecial 62, 3) := by decide +kernel
theorem dX11_init_117 : decode cX11_init 117 = .ok (.putfield 65, 3) := by decide +kernel
theorem dX11_init_120 : decode cX11_init 120 = .ok (.aload_n 0, 1) := by decide +kernel
theorem dX11_init_121 : decode cX11_init 121 = .ok (.new 69, 3) := by decide +kernel
theorem dX11_init_124 : decode cX11_init 124 = .ok (.dup, 1) := by decide +kernel
theorem dX11_init_125 : decode cX11_init 125 = .ok (.aload_n 0, 1) := by decide +kernel
theorem dX11_init_126 : decode cX11_init 126 = .ok (.getfield 56, 3) := by decide +kernel
theorem dX11_init_129 : decode cX11_init 129 = .ok (.aload_n 0, 1) := by decide +kernel
theorem dX11_init_130 : decode cX11_init 130 = .ok (.getfield 33, 3) := by decide +kernel
theorem dX11_init_133 : decode cX11_init 133 = .ok (.invokespecial 71, 3) := by decide +kernel
theorem dX11_init_136 : decode cX11_init 136 = .ok (.putfield 72, 3) := by decide +kernel
theorem dX11_init_139 : decode cX11_init 139 = .ok (.aload_n 0, 1) := by decide +kernel
theorem dX11_init_140 : decode cX11_init 140 = .ok (.new 76, 3) := by decide +kernel
theorem dX11_init_143 : decode cX11_init 143 = .ok (.dup, 1) := by decide +kernel
theorem dX11_init_144 : decode cX11_init 144 = .ok (.invokespecial 78, 3) := by decide +kernel
theorem dX11_init_147 : decode cX11_init 147 = .ok (.putfield 79, 3) := by decide +kernel
theorem dX11_init_150 : decode cX11_init 150 = .ok (.aload_n 0, 1) := by decide +kernel
theorem dX11_init_151 : decode cX11_init 151 = .ok (.iconst 4, 1) := by decide +kernel
theorem dX11_init_152 : decode cX11_init 152 = .ok (.anewarray 83, 3) := by decide +kernel
theorem dX11_init_155 : decode cX11_init 155 = .ok (.putfield 85, 3) := by decide +kernel
theorem dX11_init_158 : decode cX11_init 158 = .ok (.aload_n 0, 1) := by decide +kernel
theorem dX11_init_159 : decode cX11_init 159 = .ok (.iconst 0, 1) := by decide +kernel
theorem dX11_init_160 : decode cX11_init 160 = .ok (.putfield 89, 3) := by decide +kernel
theorem dX11_init_163 : decode cX11_init 163 = .ok (.iconst 0, 1) := by decide +kernel
theorem dX11_init_164 : decode cX11_init 164 = .ok (.istore_n 1, 1) := by decide +kernel
theorem dX11_init_165 : decode cX11_init 165 = .ok (.iload_n 1, 1) := by decide +kernel
theorem dX11_init_166 : decode cX11_init 166 = .ok (.iconst 4, 1) := by decide +kernel
theorem dX11_init_167 : decode cX11_init 167 = .ok (.if_icmp .ge 22, 3) := by decide +kernel
theorem dX11_init_170 : decode cX11_init 170 = .ok (.aload_n 0, 1) := by decide +kernel
theorem dX11_init_171 : decode cX11_init 171 = .ok (.getfield 85, 3) := by decide +kernel
theorem dX11_init_174 : decode cX11_init 174 = .ok (.iload_n 1, 1) := by decide +kernel
theorem dX11_init_175 : decode cX11_init 175 = .ok (.new 83, 3) := by decide +kernel
theorem dX11_init_178 : decode cX11_init 178 = .ok (.dup, 1) := by decide +kernel
theorem dX11_init_179 : decode cX11_init 179 = .ok (.invokespecial 93, 3) := by decide +kernel
theorem dX11_init_182 : decode cX11_init 182 = .ok (.aastore, 1) := by decide +kernel
theorem dX11_init_183 : decode cX11_init 183 = .ok (.iinc 1 1, 3) := by decide +kernel
theorem dX11_init_186 : decode cX11_init 186 = .ok (.goto (-21), 3) := by decide +kernel
theorem dX11_init_189 : decode cX11_init 189 = .ok (.return_, 1) := by decide +kernel
theorem dX11_type_0 : decode cX11_type 0 = .ok (.aload_n 0, 1) := by decide +kernel
theorem dX11_type_1 : decode cX11_type 1 = .ok (.iload_n 1, 1) := by decide +kernel
theorem dX11_type_2 : decode cX11_type 2 = .ok (.invokevirtual 94, 3) := by decide +kernel
theorem dX11_type_5 : decode cX11_type 5 = .ok (.astore_n 3, 1) := by decide +kernel
theorem dX11_type_6 : decode cX11_type 6 = .ok (.aload_n 3, 1) := by decide +kernel
theorem dX11_type_7 : decode cX11_type 7 = .ok (.ifnull 14, 3) := by decide +kernel
theorem dX11_type_10 : decode cX11_type 10 = .ok (.iload_n 2, 1) := by decide +kernel
theorem dX11_type_11 : decode cX11_type 11 = .ok (.iconst 0, 1) := by decide +kernel
theorem dX11_type_12 : decode cX11_type 12 = .ok (.sipush 255, 3) := by decide +kernel
theorem dX11_type_15 : decode cX11_type 15 = .ok (.invokestatic 98, 3) := by decide +kernel
theorem dX11_type_18 : decode cX11_type 18 = .ok (.ifCond .ne 6, 3) := by decide +kernel
theorem dX11_type_21 : decode cX11_type 21 = .ok (.bipush (-2), 2) := by decide +kernel
theorem dX11_type_23 : decode cX11_type 23 = .ok (.ireturn, 1) := by decide +kernel
theorem dX11_type_24 : decode cX11_type 24 = .ok (.aload_n 3, 1) := by decide +kernel
theorem dX11_type_25 : decode cX11_type 25 = .ok (.invokevirtual 102, 3) := by decide +kernel
theorem dX11_type_28 : decode cX11_type 28 = .ok (.ifCond .eq 6, 3) := by decide +kernel
theorem dX11_type_31 : decode cX11_type 31 = .ok (.bipush (-4), 2) := by decide +kernel
theorem dX11_type_33 : decode cX11_type 33 = .ok (.ireturn, 1) := by decide +kernel
theorem dX11_type_34 : decode cX11_type 34 = .ok (.aload_n 3, 1) := by decide +kernel
theorem dX11_type_35 : decode cX11_type 35 = .ok (.iload_n 2, 1) := by decide +kernel
theorem dX11_type_36 : decode cX11_type 36 = .ok (.invokevirtual 106, 3) := by decide +kernel
theorem dX11_type_39 : decode cX11_type 39 = .ok (.aload_n 0, 1) := by decide +kernel
theorem dX11_type_40 : decode cX11_type 40 = .ok (.invokevirtual 109, 3) := by decide +kernel
theorem dX11_type_43 : decode cX11_type 43 = .ok (.aload_n 3, 1) := by decide +kernel
theorem dX11_type_44 : decode cX11_type 44 = .ok (.invokevirtual 112, 3) := by decide +kernel
theorem dX11_type_47 : decode cX11_type 47 = .ok (.ireturn, 1) := by decide +kernel
theorem dX11_wipe_0 : decode cX11_wipe 0 = .ok (.aload_n 0, 1) := by decide +kernel
theorem dX11_wipe_1 : decode cX11_wipe 1 = .ok (.iload_n 1, 1) := by decide +kernel
theorem dX11_wipe_2 : decode cX11_wipe 2 = .ok (.invokevirtual 94, 3) := by decide +kernel
theorem dX11_wipe_5 : decode cX11_wipe 5 = .ok (.astore_n 2, 1) := by decide +kernel
theorem dX11_wipe_6 : decode cX11_wipe 6 = .ok (.aload_n 2, 1) := by decide +kernel
theorem dX11_wipe_7 : decode cX11_wipe 7 = .ok (.ifnonnull 6, 3) := by decide +kernel
theorem dX11_wipe_10 : decode cX11_wipe 10 = .ok (.bipush (-2), 2) := by decide +kernel
theorem dX11_wipe_12 : decode cX11_wipe 12 = .ok (.ireturn, 1) := by decide +kernel
theorem dX11_wipe_13 : decode cX11_wipe 13 = .ok (.aload_n 2, 1) := by decide +kernel
theorem dX11_wipe_14 : decode cX11_wipe 14 = .ok (.invokevirtual 112, 3) := by decide +kernel
theorem dX11_wipe_17 : decode cX11_wipe 17 = .ok (.istore_n 3, 1) := by decide +kernel
theorem dX11_wipe_18 : decode cX11_wipe 18 = .ok (.aload_n 2, 1) := by decide +kernel
theorem dX11_wipe_19 : decode cX11_wipe 19 = .ok (.invokevirtual 116, 3) := by decide +kernel
theorem dX11_wipe_22 : decode cX11_wipe 22 = .ok (.aload_n 0, 1) := by decide +kernel
theorem dX11_wipe_23 : decode cX11_wipe 23 = .ok (.invokevirtual 109, 3) := by decide +kernel
theorem dX11_wipe_26 : decode cX11_wipe 26 = .ok (.iload_n 3, 1) := by decide +kernel
theorem dX11_wipe_27 : decode cX11_wipe 27 = .ok (.ireturn, 1) := by decide +kernel
theorem dX11_fault_0 : decode cX11_fault 0 = .ok (.iload_n 1, 1) := by decide +kernel
theorem dX11_fault_1 : decode cX11_fault 1 = .ok (.ifCond .ne 11, 3) := by decide +kernel
theorem dX11_fault_4 : decode cX11_fault 4 = .ok (.aload_n 0, 1) := by decide +kernel
theorem dX11_fault_5 : decode cX11_fault 5 = .ok (.getfield 26, 3) := by decide +kernel
theorem dX11_fault_8 : decode cX11_fault 8 = .ok (.invokevirtual 119, 3) := by decide +kernel
theorem dX11_fault_11 : decode cX11_fault 11 = .ok (.ireturn, 1) := by decide +kernel
theorem dX11_fault_12 : decode cX11_fault 12 = .ok (.iload_n 1, 1) := by decide +kernel
theorem dX11_fault_13 : decode cX11_fault 13 = .ok (.iconst 1, 1) := by decide +kernel
theorem dX11_fault_14 : decode cX11_fault 14 = .ok (.if_icmp .ne 13, 3) := by decide +kernel
theorem dX11_fault_17 : decode cX11_fault 17 = .ok (.aload_n 0, 1) := by decide +kernel
theorem dX11_fault_18 : decode cX11_fault 18 = .ok (.getfield 33, 3) := by decide +kernel
theorem dX11_fault_21 : decode cX11_fault 21 = .ok (.invokevirtual 122, 3) := by decide +kernel
theorem dX11_fault_24 : decode cX11_fault 24 = .ok (.goto 5, 3) := by decide +kernel
theorem dX11_fault_27 : decode cX11_fault 27 = .ok (.bipush (-2), 2) := by decide +kernel
theorem dX11_fault_29 : decode cX11_fault 29 = .ok (.ireturn, 1) := by decide +kernel
theorem dX11_person_0 : decode cX11_person 0 = .ok (.aload_n 0, 1) := by decide +kernel
theorem dX11_person_1 : decode cX11_person 1 = .ok (.getfield 33, 3) := by decide +kernel
theorem dX11_person_4 : decode cX11_person 4 = .ok (.iload_n 1, 1) := by decide +kernel
theorem dX11_person_5 : decode cX11_person 5 = .ok (.invokevirtual 123, 3) := by decide +kernel
theorem dX11_person_8 : decode cX11_person 8 = .ok (.ifCond .ne 6, 3) := by decide +kernel
theorem dX11_person_11 : decode cX11_person 11 = .ok (.bipush (-2), 2) := by decide +kernel
theorem dX11_person_13 : decode cX11_person 13 = .ok (.ireturn, 1) := by decide +kernel
theorem dX11_person_14 : decode cX11_person 14 = .ok (.iload_n 2, 1) := by decide +kernel
theorem dX11_person_15 : decode cX11_person 15 = .ok (.tableswitch 65 0 3 #[29, 38, 47, 56], 29) := by decide +kernel
theorem dX11_person_44 : decode cX11_person 44 = .ok (.aload_n 0, 1) := by decide +kernel
theorem dX11_person_45 : decode cX11_person 45 = .ok (.getfield 33, 3) := by decide +kernel
theorem dX11_person_48 : decode cX11_person 48 = .ok (.iload_n 1, 1) := by decide +kernel
theorem dX11_person_49 : decode cX11_person 49 = .ok (.invokevirtual 127, 3) := by decide +kernel
theorem dX11_person_52 : decode cX11_person 52 = .ok (.ireturn, 1) := by decide +kernel
theorem dX11_person_53 : decode cX11_person 53 = .ok (.aload_n 0, 1) := by decide +kernel
theorem dX11_person_54 : decode cX11_person 54 = .ok (.getfield 33, 3) := by decide +kernel
theorem dX11_person_57 : decode cX11_person 57 = .ok (.iload_n 1, 1) := by decide +kernel
theorem dX11_person_58 : decode cX11_person 58 = .ok (.invokevirtual 131, 3) := by decide +kernel
theorem dX11_person_61 : decode cX11_person 61 = .ok (.ireturn, 1) := by decide +kernel
theorem dX11_person_62 : decode cX11_person 62 = .ok (.aload_n 0, 1) := by decide +kernel
theorem dX11_person_63 : decode cX11_person 63 = .ok (.getfield 33, 3) := by decide +kernel
theorem dX11_person_66 : decode cX11_person 66 = .ok (.iload_n 1, 1) := by decide +kernel
theorem dX11_person_67 : decode cX11_person 67 = .ok (.invokevirtual 134, 3) := by decide +kernel
theorem dX11_person_70 : decode cX11_person 70 = .ok (.ireturn, 1) := by decide +kernel
theorem dX11_person_71 : decode cX11_person 71 = .ok (.aload_n 0, 1) := by decide +kernel
theorem dX11_person_72 : decode cX11_person 72 = .ok (.getfield 33, 3) := by decide +kernel
theorem dX11_person_75 : decode cX11_person 75 = .ok (.iload_n 1, 1) := by decide +kernel
theorem dX11_person_76 : decode cX11_person 76 = .ok (.invokevirtual 137, 3) := by decide +kernel
theorem dX11_person_79 : decode cX11_person 79 = .ok (.ireturn, 1) := by decide +kernel
theorem dX11_person_80 : decode cX11_person 80 = .ok (.bipush (-2), 2) := by decide +kernel
theorem dX11_person_82 : decode cX11_person 82 = .ok (.ireturn, 1) := by decide +kernel
theorem dX11_shadow_0 : decode cX11_shadow 0 = .ok (.aload_n 0, 1) := by decide +kernel
theorem dX11_shadow_1 : decode cX11_shadow 1 = .ok (.getfield 33, 3) := by decide +kernel
theorem dX11_shadow_4 : decode cX11_shadow 4 = .ok (.iload_n 1, 1) := by decide +kernel
theorem dX11_shadow_5 : decode cX11_shadow 5 = .ok (.invokevirtual 123, 3) := by decide +kernel
theorem dX11_shadow_8 : decode cX11_shadow 8 = .ok (.ifCond .eq 22, 3) := by decide +kernel
theorem dX11_shadow_11 : decode cX11_shadow 11 = .ok (.iload_n 2, 1) := by decide +kernel
theorem dX11_shadow_12 : decode cX11_shadow 12 = .ok (.invokestatic 140, 3) := by decide +kernel
theorem dX11_shadow_15 : decode cX11_shadow 15 = .ok (.ifCond .eq 15, 3) := by decide +kernel
theorem dX11_shadow_18 : decode cX11_shadow 18 = .ok (.aload_n 0, 1) := by decide +kernel
theorem dX11_shadow_19 : decode cX11_shadow 19 = .ok (.getfield 33, 3) := by decide +kernel
theorem dX11_shadow_22 : decode cX11_shadow 22 = .ok (.iload_n 1, 1) := by decide +kernel
theorem dX11_shadow_23 : decode cX11_shadow 23 = .ok (.iload_n 2, 1) := by decide +kernel
theorem dX11_shadow_24 : decode cX11_shadow 24 = .ok (.invokevirtual 143, 3) := by decide +kernel
theorem dX11_shadow_27 : decode cX11_shadow 27 = .ok (.goto 5, 3) := by decide +kernel
theorem dX11_shadow_30 : decode cX11_shadow 30 = .ok (.bipush (-2), 2) := by decide +kernel
theorem dX11_shadow_32 : decode cX11_shadow 32 = .ok (.ireturn, 1) := by decide +kernel
theorem dX11_cloud_0 : decode cX11_cloud 0 = .ok (.iload_n 1, 1) := by decide +kernel
theorem dX11_cloud_1 : decode cX11_cloud 1 = .ok (.iconst 0, 1) := by decide +kernel
theorem dX11_cloud_2 : decode cX11_cloud 2 = .ok (.bipush 51, 2) := by decide +kernel
theorem dX11_cloud_4 : decode cX11_cloud 4 = .ok (.invokestatic 98, 3) := by decide +kernel
theorem dX11_cloud_7 : decode cX11_cloud 7 = .ok (.ifCond .eq 12, 3) := by decide +kernel
theorem dX11_cloud_10 : decode cX11_cloud 10 = .ok (.iload_n 2, 1) := by decide +kernel
theorem dX11_cloud_11 : decode cX11_cloud 11 = .ok (.iconst 0, 1) := by decide +kernel
theorem dX11_cloud_12 : decode cX11_cloud 12 = .ok (.iconst 1, 1) := by decide +kernel
theorem dX11_cloud_13 : decode cX11_cloud 13 = .ok (.invokestatic 98, 3) := by decide +kernel
theorem dX11_cloud_16 : decode cX11_cloud 16 = .ok (.ifCond .ne 6, 3) := by decide +kernel
theorem dX11_cloud_19 : decode cX11_cloud 19 = .ok (.bipush (-2), 2) := by decide +kernel
theorem dX11_cloud_21 : decode cX11_cloud 21 = .ok (.ireturn, 1) := by decide +kernel
theorem dX11_cloud_22 : decode cX11_cloud 22 = .ok (.aload_n 0, 1) := by decide +kernel
theorem dX11_cloud_23 : decode cX11_cloud 23 = .ok (.getfield 40, 3) := by decide +kernel
theorem dX11_cloud_26 : decode cX11_cloud 26 = .ok (.iload_n 1, 1) := by decide +kernel
theorem dX11_cloud_27 : decode cX11_cloud 27 = .ok (.invokevirtual 147, 3) := by decide +kernel
theorem dX11_cloud_30 : decode cX11_cloud 30 = .ok (.istore_n 3, 1) := by decide +kernel
theorem dX11_cloud_31 : decode cX11_cloud 31 = .ok (.aload_n 0, 1) := by decide +kernel
theorem dX11_cloud_32 : decode cX11_cloud 32 = .ok (.getfield 40, 3) := by decide +kernel
theorem dX11_cloud_35 : decode cX11_cloud 35 = .ok (.iload_n 1, 1) := by decide +kernel
theorem dX11_cloud_36 : decode cX11_cloud 36 = .ok (.iload_n 2, 1) := by decide +kernel
theorem dX11_cloud_37 : decode cX11_cloud 37 = .ok (.invokevirtual 150, 3) := by decide +kernel
theorem dX11_cloud_40 : decode cX11_cloud 40 = .ok (.iload_n 3, 1) := by decide +kernel
theorem dX11_cloud_41 : decode cX11_cloud 41 = .ok (.ireturn, 1) := by decide +kernel
theorem dX11_wed_0 : decode cX11_wed 0 = .ok (.aload_n 0, 1) := by decide +kernel
theorem dX11_wed_1 : decode cX11_wed 1 = .ok (.getfield 47, 3) := by decide +kernel
theorem dX11_wed_4 : decode cX11_wed 4 = .ok (.iload_n 1, 1) := by decide +kernel
theorem dX11_wed_5 : decode cX11_wed 5 = .ok (.invokevirtual 154, 3) := by decide +kernel
theorem dX11_wed_8 : decode cX11_wed 8 = .ok (.ifCond .eq 13, 3) := by decide +kernel
theorem dX11_wed_11 : decode cX11_wed 11 = .ok (.iload_n 2, 1) := by decide +kernel
theorem dX11_wed_12 : decode cX11_wed 12 = .ok (.iload_n 3, 1) := by decide +kernel
theorem dX11_wed_13 : decode cX11_wed 13 = .ok (.iload 4, 2) := by decide +kernel
theorem dX11_wed_15 : decode cX11_wed 15 = .ok (.invokestatic 157, 3) := by decide +kernel
theorem dX11_wed_18 : decode cX11_wed 18 = .ok (.ifCond .ne 6, 3) := by decide +kernel
theorem dX11_wed_21 : decode cX11_wed 21 = .ok (.bipush (-2), 2) := by decide +kernel
theorem dX11_wed_23 : decode cX11_wed 23 = .ok (.ireturn, 1) := by decide +kernel
theorem dX11_wed_24 : decode cX11_wed 24 = .ok (.aload_n 0, 1) := by decide +kernel
theorem dX11_wed_25 : decode cX11_wed 25 = .ok (.getfield 47, 3) := by decide +kernel
theorem dX11_wed_28 : decode cX11_wed 28 = .ok (.invokevirtual 160, 3) := by decide +kernel
theorem dX11_wed_31 : decode cX11_wed 31 = .ok (.ifCond .eq 6, 3) := by decide +kernel
theorem dX11_wed_34 : decode cX11_wed 34 = .ok (.bipush (-4), 2) := by decide +kernel
theorem dX11_wed_36 : decode cX11_wed 36 = .ok (.ireturn, 1) := by decide +kernel
theorem dX11_wed_37 : decode cX11_wed 37 = .ok (.aload_n 0, 1) := by decide +kernel
theorem dX11_wed_38 : decode cX11_wed 38 = .ok (.getfield 47, 3) := by decide +kernel
theorem dX11_wed_41 : decode cX11_wed 41 = .ok (.iload_n 1, 1) := by decide +kernel
theorem dX11_wed_42 : decode cX11_wed 42 = .ok (.iconst 0, 1) := by decide +kernel
theorem dX11_wed_43 : decode cX11_wed 43 = .ok (.iload_n 2, 1) := by decide +kernel
theorem dX11_wed_44 : decode cX11_wed 44 = .ok (.iload_n 3, 1) := by decide +kernel
theorem dX11_wed_45 : decode cX11_wed 45 = .ok (.iload 4, 2) := by decide +kernel
theorem dX11_wed_47 : decode cX11_wed 47 = .ok (.invokevirtual 161, 3) := by decide +kernel
theorem dX11_wed_50 : decode cX11_wed 50 = .ok (.aload_n 0, 1) := by decide +kernel
theorem dX11_wed_51 : decode cX11_wed 51 = .ok (.getfield 47, 3) := by decide +kernel
theorem dX11_wed_54 : decode cX11_wed 54 = .ok (.invokevirtual 165, 3) := by decide +kernel
theorem dX11_wed_57 : decode cX11_wed 57 = .ok (.ireturn, 1) := by decide +kernel
theorem dX11_ends_0 : decode cX11_ends 0 = .ok (.aload_n 0, 1) := by decide +kernel
theorem dX11_ends_1 : decode cX11_ends 1 = .ok (.getfield 47, 3) := by decide +kernel
theorem dX11_ends_4 : decode cX11_ends 4 = .ok (.iload_n 1, 1) := by decide +kernel
theorem dX11_ends_5 : decode cX11_ends 5 = .ok (.invokevirtual 154, 3) := by decide +kernel
theorem dX11_ends_8 : decode cX11_ends 8 = .ok (.ifCond .eq 19, 3) := by decide +kernel
theorem dX11_ends_11 : decode cX11_ends 11 = .ok (.iload_n 2, 1) := by decide +kernel
theorem dX11_ends_12 : decode cX11_ends 12 = .ok (.iconst 0, 1) := by decide +kernel
theorem dX11_ends_13 : decode cX11_ends 13 = .ok (.iconst 1, 1) := by decide +kernel
theorem dX11_ends_14 : decode cX11_ends 14 = .ok (.invokestatic 98, 3) := by decide +kernel
theorem dX11_ends_17 : decode cX11_ends 17 = .ok (.ifCond .eq 10, 3) := by decide +kernel
theorem dX11_ends_20 : decode cX11_ends 20 = .ok (.iload_n 3, 1) := by decide +kernel
theorem dX11_ends_21 : decode cX11_ends 21 = .ok (.invokestatic 168, 3) := by decide +kernel
theorem dX11_ends_24 : decode cX11_ends 24 = .ok (.ifCond .ne 6, 3) := by decide +kernel
theorem dX11_ends_27 : decode cX11_ends 27 = .ok (.bipush (-2), 2) := by decide +kernel
theorem dX11_ends_29 : decode cX11_ends 29 = .ok (.ireturn, 1) := by decide +kernel
theorem dX11_ends_30 : decode cX11_ends 30 = .ok (.aload_n 0, 1) := by decide +kernel
theorem dX11_ends_31 : decode cX11_ends 31 = .ok (.getfield 47, 3) := by decide +kernel
theorem dX11_ends_34 : decode cX11_ends 34 = .ok (.invokevirtual 160, 3) := by decide +kernel
theorem dX11_ends_37 : decode cX11_ends 37 = .ok (.ifCond .eq 6, 3) := by decide +kernel
theorem dX11_ends_40 : decode cX11_ends 40 = .ok (.bipush (-4), 2) := by decide +kernel
theorem dX11_ends_42 : decode cX11_ends 42 = .ok (.ireturn, 1) := by decide +kernel
theorem dX11_ends_43 : decode cX11_ends 43 = .ok (.aload_n 0, 1) := by decide +kernel
theorem dX11_ends_44 : decode cX11_ends 44 = .ok (.getfield 47, 3) := by decide +kernel
theorem dX11_ends_47 : decode cX11_ends 47 = .ok (.iload_n 1, 1) := by decide +kernel
theorem dX11_ends_48 : decode cX11_ends 48 = .ok (.iload_n 2, 1) := by decide +kernel
theorem dX11_ends_49 : decode cX11_ends 49 = .ok (.ifCond .ne 7, 3) := by decide +kernel
theorem dX11_ends_52 : decode cX11_ends 52 = .ok (.iconst 1, 1) := by decide +kernel
theorem dX11_ends_53 : decode cX11_ends 53 = .ok (.goto 4, 3) := by decide +kernel
theorem dX11_ends_56 : decode cX11_ends 56 = .ok (.iconst 2, 1) := by decide +kernel
theorem dX11_ends_57 : decode cX11_ends 57 = .ok (.iload_n 3, 1) := by decide +kernel
theorem dX11_ends_58 : decode cX11_ends 58 = .ok (.iconst (-1), 1) := by decide +kernel
theorem dX11_ends_59 : decode cX11_ends 59 = .ok (.bipush 12, 2) := by decide +kernel
theorem dX11_ends_61 : decode cX11_ends 61 = .ok (.invokevirtual 161, 3) := by decide +kernel
theorem dX11_ends_64 : decode cX11_ends 64 = .ok (.aload_n 0, 1) := by decide +kernel
theorem dX11_ends_65 : decode cX11_ends 65 = .ok (.getfield 47, 3) := by decide +kernel
theorem dX11_ends_68 : decode cX11_ends 68 = .ok (.invokevirtual 165, 3) := by decide +kernel
theorem dX11_ends_71 : decode cX11_ends 71 = .ok (.ireturn, 1) := by decide +kernel
theorem dX11_read_0 : decode cX11_read 0 = .ok (.aload_n 0, 1) := by decide +kernel
theorem dX11_read_1 : decode cX11_read 1 = .ok (.iload_n 1, 1) := by decide +kernel
theorem dX11_read_2 : decode cX11_read 2 = .ok (.invokevirtual 171, 3) := by decide +kernel
theorem dX11_read_5 : decode cX11_read 5 = .ok (.astore_n 3, 1) := by decide +kernel
theorem dX11_read_6 : decode cX11_read 6 = .ok (.aload_n 3, 1) := by decide +kernel
theorem dX11_read_7 : decode cX11_read 7 = .ok (.ifnull 14, 3) := by decide +kernel
theorem dX11_read_10 : decode cX11_read 10 = .ok (.aload_n 0, 1) := by decide +kernel
theorem dX11_read_11 : decode cX11_read 11 = .ok (.getfield 47, 3) := by decide +kernel
theorem dX11_read_14 : decode cX11_read 14 = .ok (.iload_n 2, 1) := by decide +kernel
theorem dX11_read_15 : decode cX11_read 15 = .ok (.invokevirtual 154, 3) := by decide +kernel
theorem dX11_read_18 : decode cX11_read 18 = .ok (.ifCond .ne 6, 3) := by decide +kernel
theorem dX11_read_21 : decode cX11_read 21 = .ok (.bipush (-2), 2) := by decide +kernel
theorem dX11_read_23 : decode cX11_read 23 = .ok (.ireturn, 1) := by decide +kernel
theorem dX11_read_24 : decode cX11_read 24 = .ok (.aload_n 3, 1) := by decide +kernel
theorem dX11_read_25 : decode cX11_read 25 = .ok (.invokevirtual 175, 3) := by decide +kernel
theorem dX11_read_28 : decode cX11_read 28 = .ok (.ifCond .eq 9, 3) := by decide +kernel
theorem dX11_read_31 : decode cX11_read 31 = .ok (.aload_n 0, 1) := by decide +kernel
theorem dX11_read_32 : decode cX11_read 32 = .ok (.iconst 1, 1) := by decide +kernel
theorem dX11_read_33 : decode cX11_read 33 = .ok (.invokevirtual 178, 3) := by decide +kernel
theorem dX11_read_36 : decode cX11_read 36 = .ok (.ireturn, 1) := by decide +kernel
theorem dX11_read_37 : decode cX11_read 37 = .ok (.iconst 0, 1) := by decide +kernel
theorem dX11_read_38 : decode cX11_read 38 = .ok (.istore 4, 2) := by decide +kernel
theorem dX11_read_40 : decode cX11_read 40 = .ok (.iconst 0, 1) := by decide +kernel
theorem dX11_read_41 : decode cX11_read 41 = .ok (.istore 5, 2) := by decide +kernel
theorem dX11_read_43 : decode cX11_read 43 = .ok (.iload 5, 2) := by decide +kernel
theorem dX11_read_45 : decode cX11_read 45 = .ok (.iconst 2, 1) := by decide +kernel
theorem dX11_read_46 : decode cX11_read 46 = .ok (.iadd, 1) := by decide +kernel
theorem dX11_read_47 : decode cX11_read 47 = .ok (.aload_n 3, 1) := by decide +kernel
theorem dX11_read_48 : decode cX11_read 48 = .ok (.invokevirtual 181, 3) := by decide +kernel
theorem dX11_read_51 : decode cX11_read 51 = .ok (.if_icmp .ge 80, 3) := by decide +kernel
theorem dX11_read_54 : decode cX11_read 54 = .ok (.aload_n 3, 1) := by decide +kernel
theorem dX11_read_55 : decode cX11_read 55 = .ok (.iload 5, 2) := by decide +kernel
theorem dX11_read_57 : decode cX11_read 57 = .ok (.invokevirtual 184, 3) := by decide +kernel
theorem dX11_read_60 : decode cX11_read 60 = .ok (.istore 6, 2) := by decide +kernel
theorem dX11_read_62 : decode cX11_read 62 = .ok (.aload_n 3, 1) := by decide +kernel
theorem dX11_read_63 : decode cX11_read 63 = .ok (.iload 5, 2) := by decide +kernel
theorem dX11_read_65 : decode cX11_read 65 = .ok (.iconst 1, 1) := by decide +kernel
theorem dX11_read_66 : decode cX11_read 66 = .ok (.iadd, 1) := by decide +kernel
theorem dX11_read_67 : decode cX11_read 67 = .ok (.invokevirtual 184, 3) := by decide +kernel
theorem dX11_read_70 : decode cX11_read 70 = .ok (.istore 7, 2) := by decide +kernel
theorem dX11_read_72 : decode cX11_read 72 = .ok (.aload_n 3, 1) := by decide +kernel
theorem dX11_read_73 : decode cX11_read 73 = .ok (.iload 5, 2) := by decide +kernel
theorem dX11_read_75 : decode cX11_read 75 = .ok (.iconst 2, 1) := by decide +kernel
theorem dX11_read_76 : decode cX11_read 76 = .ok (.iadd, 1) := by decide +kernel
theorem dX11_read_77 : decode cX11_read 77 = .ok (.invokevirtual 184, 3) := by decide +kernel
theorem dX11_read_80 : decode cX11_read 80 = .ok (.istore 8, 2) := by decide +kernel
theorem dX11_read_82 : decode cX11_read 82 = .ok (.aload_n 0, 1) := by decide +kernel
theorem dX11_read_83 : decode cX11_read 83 = .ok (.getfield 47, 3) := by decide +kernel
theorem dX11_read_86 : decode cX11_read 86 = .ok (.invokevirtual 160, 3) := by decide +kernel
theorem dX11_read_89 : decode cX11_read 89 = .ok (.ifCond .ne 42, 3) := by decide +kernel
theorem dX11_read_92 : decode cX11_read 92 = .ok (.iload 6, 2) := by decide +kernel
theorem dX11_read_94 : decode cX11_read 94 = .ok (.iload 7, 2) := by decide +kernel
theorem dX11_read_96 : decode cX11_read 96 = .ok (.iload 8, 2) := by decide +kernel
theorem dX11_read_98 : decode cX11_read 98 = .ok (.invokestatic 157, 3) := by decide +kernel
theorem dX11_read_101 : decode cX11_read 101 = .ok (.ifCond .ne 6, 3) := by decide +kernel
theorem dX11_read_104 : decode cX11_read 104 = .ok (.goto 27, 3) := by decide +kernel
theorem dX11_read_107 : decode cX11_read 107 = .ok (.aload_n 0, 1) := by decide +kernel
theorem dX11_read_108 : decode cX11_read 108 = .ok (.getfield 47, 3) := by decide +kernel
theorem dX11_read_111 : decode cX11_read 111 = .ok (.iload_n 2, 1) := by decide +kernel
theorem dX11_read_112 : decode cX11_read 112 = .ok (.iconst 0, 1) := by decide +kernel
theorem dX11_read_113 : decode cX11_read 113 = .ok (.iload 6, 2) := by decide +kernel
theorem dX11_read_115 : decode cX11_read 115 = .ok (.iload 7, 2) := by decide +kernel
theorem dX11_read_117 : decode cX11_read 117 = .ok (.iload 8, 2) := by decide +kernel
theorem dX11_read_119 : decode cX11_read 119 = .ok (.invokevirtual 161, 3) := by decide +kernel
theorem dX11_read_122 : decode cX11_read 122 = .ok (.iinc 4 1, 3) := by decide +kernel
theorem dX11_read_125 : decode cX11_read 125 = .ok (.iinc 5 3, 3) := by decide +kernel
theorem dX11_read_128 : decode cX11_read 128 = .ok (.goto (-85), 3) := by decide +kernel
theorem dX11_read_131 : decode cX11_read 131 = .ok (.iload 4, 2) := by decide +kernel
theorem dX11_read_133 : decode cX11_read 133 = .ok (.ireturn, 1) := by decide +kernel
theorem dX11_undo_0 : decode cX11_undo 0 = .ok (.aload_n 0, 1) := by decide +kernel
theorem dX11_undo_1 : decode cX11_undo 1 = .ok (.getfield 47, 3) := by decide +kernel
theorem dX11_undo_4 : decode cX11_undo 4 = .ok (.invokevirtual 165, 3) := by decide +kernel
theorem dX11_undo_7 : decode cX11_undo 7 = .ok (.ifCond .ne 6, 3) := by decide +kernel
theorem dX11_undo_10 : decode cX11_undo 10 = .ok (.bipush (-3), 2) := by decide +kernel
theorem dX11_undo_12 : decode cX11_undo 12 = .ok (.ireturn, 1) := by decide +kernel
theorem dX11_undo_13 : decode cX11_undo 13 = .ok (.aload_n 0, 1) := by decide +kernel
theorem dX11_undo_14 : decode cX11_undo 14 = .ok (.getfield 47, 3) := by decide +kernel
theorem dX11_undo_17 : decode cX11_undo 17 = .ok (.invokevirtual 187, 3) := by decide +kernel
theorem dX11_undo_20 : decode cX11_undo 20 = .ok (.aload_n 0, 1) := by decide +kernel
theorem dX11_undo_21 : decode cX11_undo 21 = .ok (.getfield 47, 3) := by decide +kernel
theorem dX11_undo_24 : decode cX11_undo 24 = .ok (.invokevirtual 165, 3) := by decide +kernel
theorem dX11_undo_27 : decode cX11_undo 27 = .ok (.ireturn, 1) := by decide +kernel
theorem dX11_judged_0 : decode cX11_judged 0 = .ok (.aload_n 0, 1) := by decide +kernel
theorem dX11_judged_1 : decode cX11_judged 1 = .ok (.getfield 56, 3) := by decide +kernel
theorem dX11_judged_4 : decode cX11_judged 4 = .ok (.aload_n 0, 1) := by decide +kernel
theorem dX11_judged_5 : decode cX11_judged 5 = .ok (.getfield 47, 3) := by decide +kernel
theorem dX11_judged_8 : decode cX11_judged 8 = .ok (.invokevirtual 165, 3) := by decide +kernel
theorem dX11_judged_11 : decode cX11_judged 11 = .ok (.iconst (-1), 1) := by decide +kernel
theorem dX11_judged_12 : decode cX11_judged 12 = .ok (.invokevirtual 190, 3) := by decide +kernel
theorem dX11_judged_15 : decode cX11_judged 15 = .ok (.aload_n 0, 1) := by decide +kernel
theorem dX11_judged_16 : decode cX11_judged 16 = .ok (.getfield 56, 3) := by decide +kernel
theorem dX11_judged_19 : decode cX11_judged 19 = .ok (.invokevirtual 193, 3) := by decide +kernel
theorem dX11_judged_22 : decode cX11_judged 22 = .ok (.ireturn, 1) := by decide +kernel
theorem dX11_moved_0 : decode cX11_moved 0 = .ok (.aload_n 0, 1) := by decide +kernel
theorem dX11_moved_1 : decode cX11_moved 1 = .ok (.getfield 47, 3) := by decide +kernel
theorem dX11_moved_4 : decode cX11_moved 4 = .ok (.iload_n 1, 1) := by decide +kernel
theorem dX11_moved_5 : decode cX11_moved 5 = .ok (.invokevirtual 196, 3) := by decide +kernel
theorem dX11_moved_8 : decode cX11_moved 8 = .ok (.ifCond .ne 7, 3) := by decide +kernel
theorem dX11_moved_11 : decode cX11_moved 11 = .ok (.sipush (-10002), 3) := by decide +kernel
theorem dX11_moved_14 : decode cX11_moved 14 = .ok (.ireturn, 1) := by decide +kernel
theorem dX11_moved_15 : decode cX11_moved 15 = .ok (.aload_n 0, 1) := by decide +kernel
theorem dX11_moved_16 : decode cX11_moved 16 = .ok (.getfield 56, 3) := by decide +kernel
theorem dX11_moved_19 : decode cX11_moved 19 = .ok (.iload_n 1, 1) := by decide +kernel
theorem dX11_moved_20 : decode cX11_moved 20 = .ok (.iconst 1, 1) := by decide +kernel
theorem dX11_moved_21 : decode cX11_moved 21 = .ok (.iadd, 1) := by decide +kernel
theorem dX11_moved_22 : decode cX11_moved 22 = .ok (.iconst (-1), 1) := by decide +kernel
theorem dX11_moved_23 : decode cX11_moved 23 = .ok (.invokevirtual 190, 3) := by decide +kernel
theorem dX11_moved_26 : decode cX11_moved 26 = .ok (.aload_n 0, 1) := by decide +kernel
theorem dX11_moved_27 : decode cX11_moved 27 = .ok (.getfield 56, 3) := by decide +kernel
theorem dX11_moved_30 : decode cX11_moved 30 = .ok (.invokevirtual 197, 3) := by decide +kernel
theorem dX11_moved_33 : decode cX11_moved 33 = .ok (.ireturn, 1) := by decide +kernel
theorem dX11_width_0 : decode cX11_width 0 = .ok (.aload_n 0, 1) := by decide +kernel
theorem dX11_width_1 : decode cX11_width 1 = .ok (.getfield 26, 3) := by decide +kernel
theorem dX11_width_4 : decode cX11_width 4 = .ok (.iload_n 1, 1) := by decide +kernel
theorem dX11_width_5 : decode cX11_width 5 = .ok (.invokevirtual 200, 3) := by decide +kernel
theorem dX11_width_8 : decode cX11_width 8 = .ok (.ifCond .eq 11, 3) := by decide +kernel
theorem dX11_width_11 : decode cX11_width 11 = .ok (.aload_n 0, 1) := by decide +kernel
theorem dX11_width_12 : decode cX11_width 12 = .ok (.iload_n 2, 1) := by decide +kernel
theorem dX11_width_13 : decode cX11_width 13 = .ok (.invokevirtual 201, 3) := by decide +kernel
theorem dX11_width_16 : decode cX11_width 16 = .ok (.ifCond .ne 6, 3) := by decide +kernel
theorem dX11_width_19 : decode cX11_width 19 = .ok (.bipush (-2), 2) := by decide +kernel
theorem dX11_width_21 : decode cX11_width 21 = .ok (.ireturn, 1) := by decide +kernel
theorem dX11_width_22 : decode cX11_width 22 = .ok (.aload_n 0, 1) := by decide +kernel
theorem dX11_width_23 : decode cX11_width 23 = .ok (.getfield 56, 3) := by decide +kernel
theorem dX11_width_26 : decode cX11_width 26 = .ok (.iload_n 2, 1) := by decide +kernel
theorem dX11_width_27 : decode cX11_width 27 = .ok (.iconst (-1), 1) := by decide +kernel
theorem dX11_width_28 : decode cX11_width 28 = .ok (.invokevirtual 190, 3) := by decide +kernel
theorem dX11_width_31 : decode cX11_width 31 = .ok (.aload_n 0, 1) := by decide +kernel
theorem dX11_width_32 : decode cX11_width 32 = .ok (.getfield 56, 3) := by decide +kernel
theorem dX11_width_35 : decode cX11_width 35 = .ok (.iload_n 1, 1) := by decide +kernel
theorem dX11_width_36 : decode cX11_width 36 = .ok (.invokevirtual 204, 3) := by decide +kernel
theorem dX11_width_39 : decode cX11_width 39 = .ok (.ireturn, 1) := by decide +kernel
theorem dX11_state_0 : decode cX11_state 0 = .ok (.aload_n 0, 1) := by decide +kernel
theorem dX11_state_1 : decode cX11_state 1 = .ok (.getfield 33, 3) := by decide +kernel
theorem dX11_state_4 : decode cX11_state 4 = .ok (.iload_n 1, 1) := by decide +kernel
theorem dX11_state_5 : decode cX11_state 5 = .ok (.invokevirtual 123, 3) := by decide +kernel
theorem dX11_state_8 : decode cX11_state 8 = .ok (.ifCond .eq 11, 3) := by decide +kernel
theorem dX11_state_11 : decode cX11_state 11 = .ok (.aload_n 0, 1) := by decide +kernel
theorem dX11_state_12 : decode cX11_state 12 = .ok (.iload_n 2, 1) := by decide +kernel
theorem dX11_state_13 : decode cX11_state 13 = .ok (.invokevirtual 201, 3) := by decide +kernel
theorem dX11_state_16 : decode cX11_state 16 = .ok (.ifCond .ne 6, 3) := by decide +kernel
theorem dX11_state_19 : decode cX11_state 19 = .ok (.bipush (-2), 2) := by decide +kernel
theorem dX11_state_21 : decode cX11_state 21 = .ok (.ireturn, 1) := by decide +kernel
theorem dX11_state_22 : decode cX11_state 22 = .ok (.aload_n 0, 1) := by decide +kernel
theorem dX11_state_23 : decode cX11_state 23 = .ok (.getfield 56, 3) := by decide +kernel
theorem dX11_state_26 : decode cX11_state 26 = .ok (.iload_n 2, 1) := by decide +kernel
theorem dX11_state_27 : decode cX11_state 27 = .ok (.iconst (-1), 1) := by decide +kernel
theorem dX11_state_28 : decode cX11_state 28 = .ok (.invokevirtual 190, 3) := by decide +kernel
theorem dX11_state_31 : decode cX11_state 31 = .ok (.iload_n 3, 1) := by decide +kernel
theorem dX11_state_32 : decode cX11_state 32 = .ok (.tableswitch 63 0 2 #[28, 37, 46], 28) := by decide +kernel
theorem dX11_state_60 : decode cX11_state 60 = .ok (.aload_n 0, 1) := by decide +kernel
theorem dX11_state_61 : decode cX11_state 61 = .ok (.getfield 56, 3) := by decide +kernel
theorem dX11_state_64 : decode cX11_state 64 = .ok (.iload_n 1, 1) := by decide +kernel
theorem dX11_state_65 : decode cX11_state 65 = .ok (.invokevirtual 207, 3) := by decide +kernel
theorem dX11_state_68 : decode cX11_state 68 = .ok (.ireturn, 1) := by decide +kernel
theorem dX11_state_69 : decode cX11_state 69 = .ok (.aload_n 0, 1) := by decide +kernel
theorem dX11_state_70 : decode cX11_state 70 = .ok (.getfield 56, 3) := by decide +kernel
theorem dX11_state_73 : decode cX11_state 73 = .ok (.iload_n 1, 1) := by decide +kernel
theorem dX11_state_74 : decode cX11_state 74 = .ok (.invokevirtual 210, 3) := by decide +kernel
theorem dX11_state_77 : decode cX11_state 77 = .ok (.ireturn, 1) := by decide +kernel
theorem dX11_state_78 : decode cX11_state 78 = .ok (.aload_n 0, 1) := by decide +kernel
theorem dX11_state_79 : decode cX11_state 79 = .ok (.getfield 56, 3) := by decide +kernel
theorem dX11_state_82 : decode cX11_state 82 = .ok (.iload_n 1, 1) := by decide +kernel
theorem dX11_state_83 : decode cX11_state 83 = .ok (.invokevirtual 213, 3) := by decide +kernel
theorem dX11_state_86 : decode cX11_state 86 = .ok (.ifCond .eq 7, 3) := by decide +kernel
theorem dX11_state_89 : decode cX11_state 89 = .ok (.iconst 1, 1) := by decide +kernel
theorem dX11_state_90 : decode cX11_state 90 = .ok (.goto 4, 3) := by decide +kernel
theorem dX11_state_93 : decode cX11_state 93 = .ok (.iconst 0, 1) := by decide +kernel
theorem dX11_state_94 : decode cX11_state 94 = .ok (.ireturn, 1) := by decide +kernel
theorem dX11_state_95 : decode cX11_state 95 = .ok (.bipush (-2), 2) := by decide +kernel
theorem dX11_state_97 : decode cX11_state 97 = .ok (.ireturn, 1) := by decide +kernel
theorem dX11_nobody_0 : decode cX11_nobody 0 = .ok (.aload_n 0, 1) := by decide +kernel
theorem dX11_nobody_1 : decode cX11_nobody 1 = .ok (.iload_n 1, 1) := by decide +kernel
theorem dX11_nobody_2 : decode cX11_nobody 2 = .ok (.invokevirtual 201, 3) := by decide +kernel
theorem dX11_nobody_5 : decode cX11_nobody 5 = .ok (.ifCond .ne 6, 3) := by decide +kernel
theorem dX11_nobody_8 : decode cX11_nobody 8 = .ok (.bipush (-2), 2) := by decide +kernel
theorem dX11_nobody_10 : decode cX11_nobody 10 = .ok (.ireturn, 1) := by decide +kernel
theorem dX11_nobody_11 : decode cX11_nobody 11 = .ok (.aload_n 0, 1) := by decide +kernel
theorem dX11_nobody_12 : decode cX11_nobody 12 = .ok (.getfield 56, 3) := by decide +kernel
theorem dX11_nobody_15 : decode cX11_nobody 15 = .ok (.iload_n 1, 1) := by decide +kernel
theorem dX11_nobody_16 : decode cX11_nobody 16 = .ok (.iconst (-1), 1) := by decide +kernel
theorem dX11_nobody_17 : decode cX11_nobody 17 = .ok (.invokevirtual 190, 3) := by decide +kernel
theorem dX11_nobody_20 : decode cX11_nobody 20 = .ok (.aload_n 0, 1) := by decide +kernel
theorem dX11_nobody_21 : decode cX11_nobody 21 = .ok (.getfield 56, 3) := by decide +kernel
theorem dX11_nobody_24 : decode cX11_nobody 24 = .ok (.invokevirtual 216, 3) := by decide +kernel
theorem dX11_nobody_27 : decode cX11_nobody 27 = .ok (.ireturn, 1) := by decide +kernel
theorem dX11_reach_0 : decode cX11_reach 0 = .ok (.aload_n 0, 1) := by decide +kernel
theorem dX11_reach_1 : decode cX11_reach 1 = .ok (.getfield 26, 3) := by decide +kernel
theorem dX11_reach_4 : decode cX11_reach 4 = .ok (.iload_n 1, 1) := by decide +kernel
theorem dX11_reach_5 : decode cX11_reach 5 = .ok (.invokevirtual 200, 3) := by decide +kernel
theorem dX11_reach_8 : decode cX11_reach 8 = .ok (.ifCond .eq 14, 3) := by decide +kernel
theorem dX11_reach_11 : decode cX11_reach 11 = .ok (.iload_n 2, 1) := by decide +kernel
theorem dX11_reach_12 : decode cX11_reach 12 = .ok (.iconst 0, 1) := by decide +kernel
theorem dX11_reach_13 : decode cX11_reach 13 = .ok (.sipush 999, 3) := by decide +kernel
theorem dX11_reach_16 : decode cX11_reach 16 = .ok (.invokestatic 98, 3) := by decide +kernel
theorem dX11_reach_19 : decode cX11_reach 19 = .ok (.ifCond .ne 6, 3) := by decide +kernel
theorem dX11_reach_22 : decode cX11_reach 22 = .ok (.bipush (-2), 2) := by decide +kernel
theorem dX11_reach_24 : decode cX11_reach 24 = .ok (.ireturn, 1) := by decide +kernel
theorem dX11_reach_25 : decode cX11_reach 25 = .ok (.aload_n 0, 1) := by decide +kernel
theorem dX11_reach_26 : decode cX11_reach 26 = .ok (.getfield 56, 3) := by decide +kernel
theorem dX11_reach_29 : decode cX11_reach 29 = .ok (.aload_n 0, 1) := by decide +kernel
theorem dX11_reach_30 : decode cX11_reach 30 = .ok (.getfield 47, 3) := by decide +kernel
theorem dX11_reach_33 : decode cX11_reach 33 = .ok (.invokevirtual 165, 3) := by decide +kernel
theorem dX11_reach_36 : decode cX11_reach 36 = .ok (.iconst (-1), 1) := by decide +kernel
theorem dX11_reach_37 : decode cX11_reach 37 = .ok (.invokevirtual 190, 3) := by decide +kernel
theorem dX11_reach_40 : decode cX11_reach 40 = .ok (.aload_n 0, 1) := by decide +kernel
theorem dX11_reach_41 : decode cX11_reach 41 = .ok (.getfield 65, 3) := by decide +kernel
theorem dX11_reach_44 : decode cX11_reach 44 = .ok (.iload_n 1, 1) := by decide +kernel
theorem dX11_reach_45 : decode cX11_reach 45 = .ok (.iload_n 2, 1) := by decide +kernel
theorem dX11_reach_46 : decode cX11_reach 46 = .ok (.invokevirtual 219, 3) := by decide +kernel
theorem dX11_reach_49 : decode cX11_reach 49 = .ok (.ireturn, 1) := by decide +kernel
theorem dX11_grows_0 : decode cX11_grows 0 = .ok (.aload_n 0, 1) := by decide +kernel
theorem dX11_grows_1 : decode cX11_grows 1 = .ok (.getfield 26, 3) := by decide +kernel
theorem dX11_grows_4 : decode cX11_grows 4 = .ok (.iload_n 1, 1) := by decide +kernel
theorem dX11_grows_5 : decode cX11_grows 5 = .ok (.invokevirtual 200, 3) := by decide +kernel
theorem dX11_grows_8 : decode cX11_grows 8 = .ok (.ifCond .eq 12, 3) := by decide +kernel
theorem dX11_grows_11 : decode cX11_grows 11 = .ok (.iload_n 2, 1) := by decide +kernel
theorem dX11_grows_12 : decode cX11_grows 12 = .ok (.iconst 0, 1) := by decide +kernel
theorem dX11_grows_13 : decode cX11_grows 13 = .ok (.iconst 4, 1) := by decide +kernel
theorem dX11_grows_14 : decode cX11_grows 14 = .ok (.invokestatic 98, 3) := by decide +kernel
theorem dX11_grows_17 : decode cX11_grows 17 = .ok (.ifCond .ne 6, 3) := by decide +kernel
theorem dX11_grows_20 : decode cX11_grows 20 = .ok (.bipush (-2), 2) := by decide +kernel
theorem dX11_grows_22 : decode cX11_grows 22 = .ok (.ireturn, 1) := by decide +kernel
theorem dX11_grows_23 : decode cX11_grows 23 = .ok (.aload_n 0, 1) := by decide +kernel
theorem dX11_grows_24 : decode cX11_grows 24 = .ok (.getfield 56, 3) := by decide +kernel
theorem dX11_grows_27 : decode cX11_grows 27 = .ok (.aload_n 0, 1) := by decide +kernel
theorem dX11_grows_28 : decode cX11_grows 28 = .ok (.getfield 47, 3) := by decide +kernel
theorem dX11_grows_31 : decode cX11_grows 31 = .ok (.invokevirtual 165, 3) := by decide +kernel
theorem dX11_grows_34 : decode cX11_grows 34 = .ok (.iconst (-1), 1) := by decide +kernel
theorem dX11_grows_35 : decode cX11_grows 35 = .ok (.invokevirtual 190, 3) := by decide +kernel
theorem dX11_grows_38 : decode cX11_grows 38 = .ok (.aload_n 0, 1) := by decide +kernel
theorem dX11_grows_39 : decode cX11_grows 39 = .ok (.getfield 65, 3) := by decide +kernel
theorem dX11_grows_42 : decode cX11_grows 42 = .ok (.iload_n 1, 1) := by decide +kernel
theorem dX11_grows_43 : decode cX11_grows 43 = .ok (.iload_n 2, 1) := by decide +kernel
theorem dX11_grows_44 : decode cX11_grows 44 = .ok (.invokevirtual 222, 3) := by decide +kernel
theorem dX11_grows_47 : decode cX11_grows 47 = .ok (.ireturn, 1) := by decide +kernel
theorem dX11_leave_0 : decode cX11_leave 0 = .ok (.aload_n 0, 1) := by decide +kernel
theorem dX11_leave_1 : decode cX11_leave 1 = .ok (.getfield 56, 3) := by decide +kernel
theorem dX11_leave_4 : decode cX11_leave 4 = .ok (.aload_n 0, 1) := by decide +kernel
theorem dX11_leave_5 : decode cX11_leave 5 = .ok (.getfield 47, 3) := by decide +kernel
theorem dX11_leave_8 : decode cX11_leave 8 = .ok (.invokevirtual 165, 3) := by decide +kernel
theorem dX11_leave_11 : decode cX11_leave 11 = .ok (.iconst (-1), 1) := by decide +kernel
theorem dX11_leave_12 : decode cX11_leave 12 = .ok (.invokevirtual 190, 3) := by decide +kernel
theorem dX11_leave_15 : decode cX11_leave 15 = .ok (.iconst 0, 1) := by decide +kernel
theorem dX11_leave_16 : decode cX11_leave 16 = .ok (.istore_n 1, 1) := by decide +kernel
theorem dX11_leave_17 : decode cX11_leave 17 = .ok (.iconst 0, 1) := by decide +kernel
theorem dX11_leave_18 : decode cX11_leave 18 = .ok (.istore_n 2, 1) := by decide +kernel
theorem dX11_leave_19 : decode cX11_leave 19 = .ok (.iload_n 2, 1) := by decide +kernel
theorem dX11_leave_20 : decode cX11_leave 20 = .ok (.aload_n 0, 1) := by decide +kernel
theorem dX11_leave_21 : decode cX11_leave 21 = .ok (.getfield 33, 3) := by decide +kernel
theorem dX11_leave_24 : decode cX11_leave 24 = .ok (.invokevirtual 225, 3) := by decide +kernel
theorem dX11_leave_27 : decode cX11_leave 27 = .ok (.if_icmp .ge 51, 3) := by decide +kernel
theorem dX11_leave_30 : decode cX11_leave 30 = .ok (.iconst 0, 1) := by decide +kernel
theorem dX11_leave_31 : decode cX11_leave 31 = .ok (.istore_n 3, 1) := by decide +kernel
theorem dX11_leave_32 : decode cX11_leave 32 = .ok (.iload_n 3, 1) := by decide +kernel
theorem dX11_leave_33 : decode cX11_leave 33 = .ok (.aload_n 0, 1) := by decide +kernel
theorem dX11_leave_34 : decode cX11_leave 34 = .ok (.getfield 33, 3) := by decide +kernel
theorem dX11_leave_37 : decode cX11_leave 37 = .ok (.invokevirtual 225, 3) := by decide +kernel
theorem dX11_leave_40 : decode cX11_leave 40 = .ok (.if_icmp .ge 32, 3) := by decide +kernel
theorem dX11_leave_43 : decode cX11_leave 43 = .ok (.aload_n 0, 1) := by decide +kernel
theorem dX11_leave_44 : decode cX11_leave 44 = .ok (.getfield 33, 3) := by decide +kernel
theorem dX11_leave_47 : decode cX11_leave 47 = .ok (.iload_n 2, 1) := by decide +kernel
theorem dX11_leave_48 : decode cX11_leave 48 = .ok (.invokevirtual 127, 3) := by decide +kernel
theorem dX11_leave_51 : decode cX11_leave 51 = .ok (.ifCond .ne 15, 3) := by decide +kernel
theorem dX11_leave_54 : decode cX11_leave 54 = .ok (.aload_n 0, 1) := by decide +kernel
theorem dX11_leave_55 : decode cX11_leave 55 = .ok (.iload_n 2, 1) := by decide +kernel
theorem dX11_leave_56 : decode cX11_leave 56 = .ok (.iload_n 3, 1) := by decide +kernel
theorem dX11_leave_57 : decode cX11_leave 57 = .ok (.invokevirtual 226, 3) := by decide +kernel
theorem dX11_leave_60 : decode cX11_leave 60 = .ok (.ifCond .eq 6, 3) := by decide +kernel
theorem dX11_leave_63 : decode cX11_leave 63 = .ok (.iinc 1 1, 3) := by decide +kernel
theorem dX11_leave_66 : decode cX11_leave 66 = .ok (.iinc 3 1, 3) := by decide +kernel
theorem dX11_leave_69 : decode cX11_leave 69 = .ok (.goto (-37), 3) := by decide +kernel
theorem dX11_leave_72 : decode cX11_leave 72 = .ok (.iinc 2 1, 3) := by decide +kernel
theorem dX11_leave_75 : decode cX11_leave 75 = .ok (.goto (-56), 3) := by decide +kernel
theorem dX11_leave_78 : decode cX11_leave 78 = .ok (.iload_n 1, 1) := by decide +kernel
theorem dX11_leave_79 : decode cX11_leave 79 = .ok (.ireturn, 1) := by decide +kernel
theorem dX11_survey_0 : decode cX11_survey 0 = .ok (.iload_n 1, 1) := by decide +kernel
theorem dX11_survey_1 : decode cX11_survey 1 = .ok (.iconst 0, 1) := by decide +kernel
theorem dX11_survey_2 : decode cX11_survey 2 = .ok (.iconst 5, 1) := by decide +kernel
theorem dX11_survey_3 : decode cX11_survey 3 = .ok (.invokestatic 98, 3) := by decide +kernel
theorem dX11_survey_6 : decode cX11_survey 6 = .ok (.ifCond .eq 24, 3) := by decide +kernel
theorem dX11_survey_9 : decode cX11_survey 9 = .ok (.iload_n 2, 1) := by decide +kernel
theorem dX11_survey_10 : decode cX11_survey 10 = .ok (.iconst 0, 1) := by decide +kernel
theorem dX11_survey_11 : decode cX11_survey 11 = .ok (.bipush 24, 2) := by decide +kernel
theorem dX11_survey_13 : decode cX11_survey 13 = .ok (.invokestatic 98, 3) := by decide +kernel
theorem dX11_survey_16 : decode cX11_survey 16 = .ok (.ifCond .eq 14, 3) := by decide +kernel
theorem dX11_survey_19 : decode cX11_survey 19 = .ok (.iload_n 3, 1) := by decide +kernel
theorem dX11_survey_20 : decode cX11_survey 20 = .ok (.iconst 0, 1) := by decide +kernel
theorem dX11_survey_21 : decode cX11_survey 21 = .ok (.sipush 999, 3) := by decide +kernel
theorem dX11_survey_24 : decode cX11_survey 24 = .ok (.invokestatic 98, 3) := by decide +kernel
theorem dX11_survey_27 : decode cX11_survey 27 = .ok (.ifCond .ne 6, 3) := by decide +kernel
theorem dX11_survey_30 : decode cX11_survey 30 = .ok (.bipush (-2), 2) := by decide +kernel
theorem dX11_survey_32 : decode cX11_survey 32 = .ok (.ireturn, 1) := by decide +kernel
theorem dX11_survey_33 : decode cX11_survey 33 = .ok (.aload_n 0, 1) := by decide +kernel
theorem dX11_survey_34 : decode cX11_survey 34 = .ok (.getfield 79, 3) := by decide +kernel
theorem dX11_survey_37 : decode cX11_survey 37 = .ok (.invokevirtual 230, 3) := by decide +kernel
theorem dX11_survey_40 : decode cX11_survey 40 = .ok (.ifCond .eq 6, 3) := by decide +kernel
theorem dX11_survey_43 : decode cX11_survey 43 = .ok (.bipush (-4), 2) := by decide +kernel
theorem dX11_survey_45 : decode cX11_survey 45 = .ok (.ireturn, 1) := by decide +kernel
theorem dX11_survey_46 : decode cX11_survey 46 = .ok (.aload_n 0, 1) := by decide +kernel
theorem dX11_survey_47 : decode cX11_survey 47 = .ok (.getfield 79, 3) := by decide +kernel
theorem dX11_survey_50 : decode cX11_survey 50 = .ok (.iload_n 1, 1) := by decide +kernel
theorem dX11_survey_51 : decode cX11_survey 51 = .ok (.iload_n 2, 1) := by decide +kernel
theorem dX11_survey_52 : decode cX11_survey 52 = .ok (.iload_n 3, 1) := by decide +kernel
theorem dX11_survey_53 : decode cX11_survey 53 = .ok (.invokevirtual 231, 3) := by decide +kernel
theorem dX11_survey_56 : decode cX11_survey 56 = .ok (.aload_n 0, 1) := by decide +kernel
theorem dX11_survey_57 : decode cX11_survey 57 = .ok (.getfield 79, 3) := by decide +kernel
theorem dX11_survey_60 : decode cX11_survey 60 = .ok (.invokevirtual 234, 3) := by decide +kernel
theorem dX11_survey_63 : decode cX11_survey 63 = .ok (.ireturn, 1) := by decide +kernel
theorem dX11_forget_0 : decode cX11_forget 0 = .ok (.aload_n 0, 1) := by decide +kernel
theorem dX11_forget_1 : decode cX11_forget 1 = .ok (.getfield 79, 3) := by decide +kernel
theorem dX11_forget_4 : decode cX11_forget 4 = .ok (.invokevirtual 234, 3) := by decide +kernel
theorem dX11_forget_7 : decode cX11_forget 7 = .ok (.istore_n 1, 1) := by decide +kernel
theorem dX11_forget_8 : decode cX11_forget 8 = .ok (.aload_n 0, 1) := by decide +kernel
theorem dX11_forget_9 : decode cX11_forget 9 = .ok (.getfield 79, 3) := by decide +kernel
theorem dX11_forget_12 : decode cX11_forget 12 = .ok (.invokevirtual 235, 3) := by decide +kernel
theorem dX11_forget_15 : decode cX11_forget 15 = .ok (.iload_n 1, 1) := by decide +kernel
theorem dX11_forget_16 : decode cX11_forget 16 = .ok (.ireturn, 1) := by decide +kernel
theorem dX11_forged_0 : decode cX11_forged 0 = .ok (.aload_n 0, 1) := by decide +kernel
theorem dX11_forged_1 : decode cX11_forged 1 = .ok (.getfield 33, 3) := by decide +kernel
theorem dX11_forged_4 : decode cX11_forged 4 = .ok (.iload_n 1, 1) := by decide +kernel
theorem dX11_forged_5 : decode cX11_forged 5 = .ok (.invokevirtual 123, 3) := by decide +kernel
theorem dX11_forged_8 : decode cX11_forged 8 = .ok (.ifCond .ne 6, 3) := by decide +kernel
theorem dX11_forged_11 : decode cX11_forged 11 = .ok (.bipush (-2), 2) := by decide +kernel
theorem dX11_forged_13 : decode cX11_forged 13 = .ok (.ireturn, 1) := by decide +kernel
theorem dX11_forged_14 : decode cX11_forged 14 = .ok (.aload_n 0, 1) := by decide +kernel
theorem dX11_forged_15 : decode cX11_forged 15 = .ok (.getfield 33, 3) := by decide +kernel
theorem dX11_forged_18 : decode cX11_forged 18 = .ok (.iload_n 1, 1) := by decide +kernel
theorem dX11_forged_19 : decode cX11_forged 19 = .ok (.invokevirtual 134, 3) := by decide +kernel
theorem dX11_forged_22 : decode cX11_forged 22 = .ok (.istore_n 2, 1) := by decide +kernel
theorem dX11_forged_23 : decode cX11_forged 23 = .ok (.iconst 0, 1) := by decide +kernel
theorem dX11_forged_24 : decode cX11_forged 24 = .ok (.istore_n 3, 1) := by decide +kernel
theorem dX11_forged_25 : decode cX11_forged 25 = .ok (.iconst 1, 1) := by decide +kernel
theorem dX11_forged_26 : decode cX11_forged 26 = .ok (.istore 4, 2) := by decide +kernel
theorem dX11_forged_28 : decode cX11_forged 28 = .ok (.iload 4, 2) := by decide +kernel
theorem dX11_forged_30 : decode cX11_forged 30 = .ok (.bipush 9, 2) := by decide +kernel
theorem dX11_forged_32 : decode cX11_forged 32 = .ok (.if_icmp .gt 50, 3) := by decide +kernel
theorem dX11_forged_35 : decode cX11_forged 35 = .ok (.aload_n 0, 1) := by decide +kernel
theorem dX11_forged_36 : decode cX11_forged 36 = .ok (.getfield 33, 3) := by decide +kernel
theorem dX11_forged_39 : decode cX11_forged 39 = .ok (.iload_n 1, 1) := by decide +kernel
theorem dX11_forged_40 : decode cX11_forged 40 = .ok (.iload 4, 2) := by decide +kernel
theorem dX11_forged_42 : decode cX11_forged 42 = .ok (.invokevirtual 236, 3) := by decide +kernel
theorem dX11_forged_45 : decode cX11_forged 45 = .ok (.aload_n 0, 1) := by decide +kernel
theorem dX11_forged_46 : decode cX11_forged 46 = .ok (.getfield 79, 3) := by decide +kernel
theorem dX11_forged_49 : decode cX11_forged 49 = .ok (.aload_n 0, 1) := by decide +kernel
theorem dX11_forged_50 : decode cX11_forged 50 = .ok (.getfield 56, 3) := by decide +kernel
theorem dX11_forged_53 : decode cX11_forged 53 = .ok (.aload_n 0, 1) := by decide +kernel
theorem dX11_forged_54 : decode cX11_forged 54 = .ok (.getfield 26, 3) := by decide +kernel
theorem dX11_forged_57 : decode cX11_forged 57 = .ok (.aload_n 0, 1) := by decide +kernel
theorem dX11_forged_58 : decode cX11_forged 58 = .ok (.getfield 47, 3) := by decide +kernel
theorem dX11_forged_61 : decode cX11_forged 61 = .ok (.invokevirtual 239, 3) := by decide +kernel
theorem dX11_forged_64 : decode cX11_forged 64 = .ok (.ifCond .ne 12, 3) := by decide +kernel
theorem dX11_forged_67 : decode cX11_forged 67 = .ok (.iload_n 3, 1) := by decide +kernel
theorem dX11_forged_68 : decode cX11_forged 68 = .ok (.iconst 1, 1) := by decide +kernel
theorem dX11_forged_69 : decode cX11_forged 69 = .ok (.iload 4, 2) := by decide +kernel
theorem dX11_forged_71 : decode cX11_forged 71 = .ok (.iconst 1, 1) := by decide +kernel
theorem dX11_forged_72 : decode cX11_forged 72 = .ok (.isub, 1) := by decide +kernel
theorem dX11_forged_73 : decode cX11_forged 73 = .ok (.ishl, 1) := by decide +kernel
theorem dX11_forged_74 : decode cX11_forged 74 = .ok (.ior, 1) := by decide +kernel
theorem dX11_forged_75 : decode cX11_forged 75 = .ok (.istore_n 3, 1) := by decide +kernel
theorem dX11_forged_76 : decode cX11_forged 76 = .ok (.iinc 4 1, 3) := by decide +kernel
theorem dX11_forged_79 : decode cX11_forged 79 = .ok (.goto (-51), 3) := by decide +kernel
theorem dX11_forged_82 : decode cX11_forged 82 = .ok (.aload_n 0, 1) := by decide +kernel
theorem dX11_forged_83 : decode cX11_forged 83 = .ok (.getfield 33, 3) := by decide +kernel
theorem dX11_forged_86 : decode cX11_forged 86 = .ok (.iload_n 1, 1) := by decide +kernel
theorem dX11_forged_87 : decode cX11_forged 87 = .ok (.iload_n 2, 1) := by decide +kernel
theorem dX11_forged_88 : decode cX11_forged 88 = .ok (.invokevirtual 236, 3) := by decide +kernel
theorem dX11_forged_91 : decode cX11_forged 91 = .ok (.iload_n 3, 1) := by decide +kernel
theorem dX11_forged_92 : decode cX11_forged 92 = .ok (.ireturn, 1) := by decide +kernel
theorem dX11_unlike_0 : decode cX11_unlike 0 = .ok (.aload_n 0, 1) := by decide +kernel
theorem dX11_unlike_1 : decode cX11_unlike 1 = .ok (.getfield 79, 3) := by decide +kernel
theorem dX11_unlike_4 : decode cX11_unlike 4 = .ok (.aload_n 0, 1) := by decide +kernel
theorem dX11_unlike_5 : decode cX11_unlike 5 = .ok (.getfield 26, 3) := by decide +kernel
theorem dX11_unlike_8 : decode cX11_unlike 8 = .ok (.aload_n 0, 1) := by decide +kernel
theorem dX11_unlike_9 : decode cX11_unlike 9 = .ok (.getfield 47, 3) := by decide +kernel
theorem dX11_unlike_12 : decode cX11_unlike 12 = .ok (.invokevirtual 243, 3) := by decide +kernel
theorem dX11_unlike_15 : decode cX11_unlike 15 = .ok (.aload_n 0, 1) := by decide +kernel
theorem dX11_unlike_16 : decode cX11_unlike 16 = .ok (.getfield 79, 3) := by decide +kernel
theorem dX11_unlike_19 : decode cX11_unlike 19 = .ok (.aload_n 0, 1) := by decide +kernel
theorem dX11_unlike_20 : decode cX11_unlike 20 = .ok (.getfield 56, 3) := by decide +kernel
theorem dX11_unlike_23 : decode cX11_unlike 23 = .ok (.aload_n 0, 1) := by decide +kernel
theorem dX11_unlike_24 : decode cX11_unlike 24 = .ok (.getfield 26, 3) := by decide +kernel
theorem dX11_unlike_27 : decode cX11_unlike 27 = .ok (.aload_n 0, 1) := by decide +kernel
theorem dX11_unlike_28 : decode cX11_unlike 28 = .ok (.getfield 47, 3) := by decide +kernel
theorem dX11_unlike_31 : decode cX11_unlike 31 = .ok (.invokevirtual 239, 3) := by decide +kernel
theorem dX11_unlike_34 : decode cX11_unlike 34 = .ok (.iadd, 1) := by decide +kernel
theorem dX11_unlike_35 : decode cX11_unlike 35 = .ok (.ireturn, 1) := by decide +kernel
theorem dX11_without_0 : decode cX11_without 0 = .ok (.aload_n 0, 1) := by decide +kernel
theorem dX11_without_1 : decode cX11_without 1 = .ok (.getfield 47, 3) := by decide +kernel
theorem dX11_without_4 : decode cX11_without 4 = .ok (.iload_n 1, 1) := by decide +kernel
theorem dX11_without_5 : decode cX11_without 5 = .ok (.invokevirtual 196, 3) := by decide +kernel
theorem dX11_without_8 : decode cX11_without 8 = .ok (.ifCond .eq 14, 3) := by decide +kernel
theorem dX11_without_11 : decode cX11_without 11 = .ok (.aload_n 0, 1) := by decide +kernel
theorem dX11_without_12 : decode cX11_without 12 = .ok (.getfield 26, 3) := by decide +kernel
theorem dX11_without_15 : decode cX11_without 15 = .ok (.iload_n 2, 1) := by decide +kernel
theorem dX11_without_16 : decode cX11_without 16 = .ok (.invokevirtual 200, 3) := by decide +kernel
theorem dX11_without_19 : decode cX11_without 19 = .ok (.ifCond .ne 6, 3) := by decide +kernel
theorem dX11_without_22 : decode cX11_without 22 = .ok (.bipush (-2), 2) := by decide +kernel
theorem dX11_without_24 : decode cX11_without 24 = .ok (.ireturn, 1) := by decide +kernel
theorem dX11_without_25 : decode cX11_without 25 = .ok (.aload_n 0, 1) := by decide +kernel
theorem dX11_without_26 : decode cX11_without 26 = .ok (.getfield 56, 3) := by decide +kernel
theorem dX11_without_29 : decode cX11_without 29 = .ok (.aload_n 0, 1) := by decide +kernel
theorem dX11_without_30 : decode cX11_without 30 = .ok (.getfield 47, 3) := by decide +kernel
theorem dX11_without_33 : decode cX11_without 33 = .ok (.invokevirtual 165, 3) := by decide +kernel
theorem dX11_without_36 : decode cX11_without 36 = .ok (.iload_n 1, 1) := by decide +kernel
theorem dX11_without_37 : decode cX11_without 37 = .ok (.invokevirtual 190, 3) := by decide +kernel
theorem dX11_without_40 : decode cX11_without 40 = .ok (.aload_n 0, 1) := by decide +kernel
theorem dX11_without_41 : decode cX11_without 41 = .ok (.getfield 56, 3) := by decide +kernel
theorem dX11_without_44 : decode cX11_without 44 = .ok (.iload_n 2, 1) := by decide +kernel
theorem dX11_without_45 : decode cX11_without 45 = .ok (.invokevirtual 204, 3) := by decide +kernel
theorem dX11_without_48 : decode cX11_without 48 = .ok (.ireturn, 1) := by decide +kernel
theorem dX11_blame_0 : decode cX11_blame 0 = .ok (.aload_n 0, 1) := by decide +kernel
theorem dX11_blame_1 : decode cX11_blame 1 = .ok (.getfield 26, 3) := by decide +kernel
theorem dX11_blame_4 : decode cX11_blame 4 = .ok (.iload_n 1, 1) := by decide +kernel
theorem dX11_blame_5 : decode cX11_blame 5 = .ok (.invokevirtual 200, 3) := by decide +kernel
theorem dX11_blame_8 : decode cX11_blame 8 = .ok (.ifCond .ne 6, 3) := by decide +kernel
theorem dX11_blame_11 : decode cX11_blame 11 = .ok (.bipush (-2), 2) := by decide +kernel
theorem dX11_blame_13 : decode cX11_blame 13 = .ok (.ireturn, 1) := by decide +kernel
theorem dX11_blame_14 : decode cX11_blame 14 = .ok (.aload_n 0, 1) := by decide +kernel
theorem dX11_blame_15 : decode cX11_blame 15 = .ok (.getfield 56, 3) := by decide +kernel
theorem dX11_blame_18 : decode cX11_blame 18 = .ok (.aload_n 0, 1) := by decide +kernel
theorem dX11_blame_19 : decode cX11_blame 19 = .ok (.getfield 47, 3) := by decide +kernel
theorem dX11_blame_22 : decode cX11_blame 22 = .ok (.invokevirtual 165, 3) := by decide +kernel
theorem dX11_blame_25 : decode cX11_blame 25 = .ok (.iconst (-1), 1) := by decide +kernel
theorem dX11_blame_26 : decode cX11_blame 26 = .ok (.invokevirtual 190, 3) := by decide +kernel
theorem dX11_blame_29 : decode cX11_blame 29 = .ok (.aload_n 0, 1) := by decide +kernel
theorem dX11_blame_30 : decode cX11_blame 30 = .ok (.getfield 56, 3) := by decide +kernel
theorem dX11_blame_33 : decode cX11_blame 33 = .ok (.iload_n 1, 1) := by decide +kernel
theorem dX11_blame_34 : decode cX11_blame 34 = .ok (.invokevirtual 204, 3) := by decide +kernel
theorem dX11_blame_37 : decode cX11_blame 37 = .ok (.istore_n 2, 1) := by decide +kernel
theorem dX11_blame_38 : decode cX11_blame 38 = .ok (.iconst (-1), 1) := by decide +kernel
theorem dX11_blame_39 : decode cX11_blame 39 = .ok (.istore_n 3, 1) := by decide +kernel
theorem dX11_blame_40 : decode cX11_blame 40 = .ok (.iconst 0, 1) := by decide +kernel
theorem dX11_blame_41 : decode cX11_blame 41 = .ok (.istore 4, 2) := by decide +kernel
theorem dX11_blame_43 : decode cX11_blame 43 = .ok (.iload 4, 2) := by decide +kernel
theorem dX11_blame_45 : decode cX11_blame 45 = .ok (.aload_n 0, 1) := by decide +kernel
theorem dX11_blame_46 : decode cX11_blame 46 = .ok (.getfield 47, 3) := by decide +kernel
theorem dX11_blame_49 : decode cX11_blame 49 = .ok (.invokevirtual 165, 3) := by decide +kernel
theorem dX11_blame_52 : decode cX11_blame 52 = .ok (.if_icmp .ge 49, 3) := by decide +kernel
theorem dX11_blame_55 : decode cX11_blame 55 = .ok (.aload_n 0, 1) := by decide +kernel
theorem dX11_blame_56 : decode cX11_blame 56 = .ok (.getfield 56, 3) := by decide +kernel
theorem dX11_blame_59 : decode cX11_blame 59 = .ok (.aload_n 0, 1) := by decide +kernel
theorem dX11_blame_60 : decode cX11_blame 60 = .ok (.getfield 47, 3) := by decide +kernel
theorem dX11_blame_63 : decode cX11_blame 63 = .ok (.invokevirtual 165, 3) := by decide +kernel
theorem dX11_blame_66 : decode cX11_blame 66 = .ok (.iload 4, 2) := by decide +kernel
theorem dX11_blame_68 : decode cX11_blame 68 = .ok (.invokevirtual 190, 3) := by decide +kernel
theorem dX11_blame_71 : decode cX11_blame 71 = .ok (.aload_n 0, 1) := by decide +kernel
theorem dX11_blame_72 : decode cX11_blame 72 = .ok (.getfield 56, 3) := by decide +kernel
theorem dX11_blame_75 : decode cX11_blame 75 = .ok (.iload_n 1, 1) := by decide +kernel
theorem dX11_blame_76 : decode cX11_blame 76 = .ok (.invokevirtual 204, 3) := by decide +kernel
theorem dX11_blame_79 : decode cX11_blame 79 = .ok (.iload_n 2, 1) := by decide +kernel
theorem dX11_blame_80 : decode cX11_blame 80 = .ok (.if_icmp .le 15, 3) := by decide +kernel
theorem dX11_blame_83 : decode cX11_blame 83 = .ok (.aload_n 0, 1) := by decide +kernel
theorem dX11_blame_84 : decode cX11_blame 84 = .ok (.getfield 56, 3) := by decide +kernel
theorem dX11_blame_87 : decode cX11_blame 87 = .ok (.iload_n 1, 1) := by decide +kernel
theorem dX11_blame_88 : decode cX11_blame 88 = .ok (.invokevirtual 204, 3) := by decide +kernel
theorem dX11_blame_91 : decode cX11_blame 91 = .ok (.istore_n 2, 1) := by decide +kernel
theorem dX11_blame_92 : decode cX11_blame 92 = .ok (.iload 4, 2) := by decide +kernel
theorem dX11_blame_94 : decode cX11_blame 94 = .ok (.istore_n 3, 1) := by decide +kernel
theorem dX11_blame_95 : decode cX11_blame 95 = .ok (.iinc 4 1, 3) := by decide +kernel
theorem dX11_blame_98 : decode cX11_blame 98 = .ok (.goto (-55), 3) := by decide +kernel
theorem dX11_blame_101 : decode cX11_blame 101 = .ok (.iload_n 3, 1) := by decide +kernel
theorem dX11_blame_102 : decode cX11_blame 102 = .ok (.ireturn, 1) := by decide +kernel
theorem dX11_lords_0 : decode cX11_lords 0 = .ok (.aload_n 0, 1) := by decide +kernel
theorem dX11_lords_1 : decode cX11_lords 1 = .ok (.getfield 26, 3) := by decide +kernel
theorem dX11_lords_4 : decode cX11_lords 4 = .ok (.iload_n 1, 1) := by decide +kernel
theorem dX11_lords_5 : decode cX11_lords 5 = .ok (.invokevirtual 200, 3) := by decide +kernel
theorem dX11_lords_8 : decode cX11_lords 8 = .ok (.ifCond .eq 33, 3) := by decide +kernel
theorem dX11_lords_11 : decode cX11_lords 11 = .ok (.aload_n 0, 1) := by decide +kernel
theorem dX11_lords_12 : decode cX11_lords 12 = .ok (.getfield 26, 3) := by decide +kernel
theorem dX11_lords_15 : decode cX11_lords 15 = .ok (.iload_n 2, 1) := by decide +kernel
theorem dX11_lords_16 : decode cX11_lords 16 = .ok (.invokevirtual 200, 3) := by decide +kernel
theorem dX11_lords_19 : decode cX11_lords 19 = .ok (.ifCond .eq 22, 3) := by decide +kernel
theorem dX11_lords_22 : decode cX11_lords 22 = .ok (.iload_n 1, 1) := by decide +kernel
theorem dX11_lords_23 : decode cX11_lords 23 = .ok (.iload_n 2, 1) := by decide +kernel
theorem dX11_lords_24 : decode cX11_lords 24 = .ok (.isub, 1) := by decide +kernel
theorem dX11_lords_25 : decode cX11_lords 25 = .ok (.invokestatic 247, 3) := by decide +kernel
theorem dX11_lords_28 : decode cX11_lords 28 = .ok (.iconst 1, 1) := by decide +kernel
theorem dX11_lords_29 : decode cX11_lords 29 = .ok (.if_icmp .ne 12, 3) := by decide +kernel
theorem dX11_lords_32 : decode cX11_lords 32 = .ok (.iload_n 3, 1) := by decide +kernel
theorem dX11_lords_33 : decode cX11_lords 33 = .ok (.iconst 0, 1) := by decide +kernel
theorem dX11_lords_34 : decode cX11_lords 34 = .ok (.iconst 1, 1) := by decide +kernel
theorem dX11_lords_35 : decode cX11_lords 35 = .ok (.invokestatic 98, 3) := by decide +kernel
theorem dX11_lords_38 : decode cX11_lords 38 = .ok (.ifCond .ne 7, 3) := by decide +kernel
theorem dX11_lords_41 : decode cX11_lords 41 = .ok (.sipush (-10002), 3) := by decide +kernel
theorem dX11_lords_44 : decode cX11_lords 44 = .ok (.ireturn, 1) := by decide +kernel
theorem dX11_lords_45 : decode cX11_lords 45 = .ok (.aload_n 0, 1) := by decide +kernel
theorem dX11_lords_46 : decode cX11_lords 46 = .ok (.getfield 56, 3) := by decide +kernel
theorem dX11_lords_49 : decode cX11_lords 49 = .ok (.aload_n 0, 1) := by decide +kernel
theorem dX11_lords_50 : decode cX11_lords 50 = .ok (.getfield 47, 3) := by decide +kernel
theorem dX11_lords_53 : decode cX11_lords 53 = .ok (.invokevirtual 165, 3) := by decide +kernel
theorem dX11_lords_56 : decode cX11_lords 56 = .ok (.iconst (-1), 1) := by decide +kernel
theorem dX11_lords_57 : decode cX11_lords 57 = .ok (.invokevirtual 190, 3) := by decide +kernel
theorem dX11_lords_60 : decode cX11_lords 60 = .ok (.aload_n 0, 1) := by decide +kernel
theorem dX11_lords_61 : decode cX11_lords 61 = .ok (.getfield 56, 3) := by decide +kernel
theorem dX11_lords_64 : decode cX11_lords 64 = .ok (.iload_n 1, 1) := by decide +kernel
theorem dX11_lords_65 : decode cX11_lords 65 = .ok (.invokevirtual 252, 3) := by decide +kernel
theorem dX11_lords_68 : decode cX11_lords 68 = .ok (.iconst 4, 1) := by decide +kernel
theorem dX11_lords_69 : decode cX11_lords 69 = .ok (.if_icmp .gt 15, 3) := by decide +kernel
theorem dX11_lords_72 : decode cX11_lords 72 = .ok (.aload_n 0, 1) := by decide +kernel
theorem dX11_lords_73 : decode cX11_lords 73 = .ok (.getfield 56, 3) := by decide +kernel
theorem dX11_lords_76 : decode cX11_lords 76 = .ok (.iload_n 2, 1) := by decide +kernel
theorem dX11_lords_77 : decode cX11_lords 77 = .ok (.invokevirtual 252, 3) := by decide +kernel
theorem dX11_lords_80 : decode cX11_lords 80 = .ok (.iconst 4, 1) := by decide +kernel
theorem dX11_lords_81 : decode cX11_lords 81 = .ok (.if_icmp .le 7, 3) := by decide +kernel
theorem dX11_lords_84 : decode cX11_lords 84 = .ok (.sipush (-10004), 3) := by decide +kernel
theorem dX11_lords_87 : decode cX11_lords 87 = .ok (.ireturn, 1) := by decide +kernel
theorem dX11_lords_88 : decode cX11_lords 88 = .ok (.aload_n 0, 1) := by decide +kernel
theorem dX11_lords_89 : decode cX11_lords 89 = .ok (.getfield 72, 3) := by decide +kernel
theorem dX11_lords_92 : decode cX11_lords 92 = .ok (.iload_n 1, 1) := by decide +kernel
theorem dX11_lords_93 : decode cX11_lords 93 = .ok (.iload_n 2, 1) := by decide +kernel
theorem dX11_lords_94 : decode cX11_lords 94 = .ok (.invokevirtual 255, 3) := by decide +kernel
theorem dX11_lords_97 : decode cX11_lords 97 = .ok (.istore 4, 2) := by decide +kernel
theorem dX11_lords_99 : decode cX11_lords 99 = .ok (.iload_n 3, 1) := by decide +kernel
theorem dX11_lords_100 : decode cX11_lords 100 = .ok (.ifCond .ne 8, 3) := by decide +kernel
theorem dX11_lords_103 : decode cX11_lords 103 = .ok (.iload 4, 2) := by decide +kernel
theorem dX11_lords_105 : decode cX11_lords 105 = .ok (.goto 10, 3) := by decide +kernel
theorem dX11_lords_108 : decode cX11_lords 108 = .ok (.aload_n 0, 1) := by decide +kernel
theorem dX11_lords_109 : decode cX11_lords 109 = .ok (.getfield 72, 3) := by decide +kernel
theorem dX11_lords_112 : decode cX11_lords 112 = .ok (.invokevirtual 258, 3) := by decide +kernel
theorem dX11_lords_115 : decode cX11_lords 115 = .ok (.ireturn, 1) := by decide +kernel
theorem dX11_sheet_0 : decode cX11_sheet 0 = .ok (.aload_n 0, 1) := by decide +kernel
theorem dX11_sheet_1 : decode cX11_sheet 1 = .ok (.iload_n 1, 1) := by decide +kernel
theorem dX11_sheet_2 : decode cX11_sheet 2 = .ok (.invokevirtual 171, 3) := by decide +kernel
theorem dX11_sheet_5 : decode cX11_sheet 5 = .ok (.astore 4, 2) := by decide +kernel
theorem dX11_sheet_7 : decode cX11_sheet 7 = .ok (.aload 4, 2) := by decide +kernel
theorem dX11_sheet_9 : decode cX11_sheet 9 = .ok (.ifnull 16, 3) := by decide +kernel
theorem dX11_sheet_12 : decode cX11_sheet 12 = .ok (.iload_n 2, 1) := by decide +kernel
theorem dX11_sheet_13 : decode cX11_sheet 13 = .ok (.invokestatic 261, 3) := by decide +kernel
theorem dX11_sheet_16 : decode cX11_sheet 16 = .ok (.ifCond .eq 9, 3) := by decide +kernel
theorem dX11_sheet_19 : decode cX11_sheet 19 = .ok (.iload_n 3, 1) := by decide +kernel
theorem dX11_sheet_20 : decode cX11_sheet 20 = .ok (.bipush 60, 2) := by decide +kernel
theorem dX11_sheet_22 : decode cX11_sheet 22 = .ok (.if_icmp .le 6, 3) := by decide +kernel
theorem dX11_sheet_25 : decode cX11_sheet 25 = .ok (.bipush (-2), 2) := by decide +kernel
theorem dX11_sheet_27 : decode cX11_sheet 27 = .ok (.ireturn, 1) := by decide +kernel
theorem dX11_sheet_28 : decode cX11_sheet 28 = .ok (.iload_n 3, 1) := by decide +kernel
theorem dX11_sheet_29 : decode cX11_sheet 29 = .ok (.ifCond .ge 9, 3) := by decide +kernel
theorem dX11_sheet_32 : decode cX11_sheet 32 = .ok (.aload_n 0, 1) := by decide +kernel
theorem dX11_sheet_33 : decode cX11_sheet 33 = .ok (.iconst 5, 1) := by decide +kernel
theorem dX11_sheet_34 : decode cX11_sheet 34 = .ok (.invokevirtual 178, 3) := by decide +kernel
theorem dX11_sheet_37 : decode cX11_sheet 37 = .ok (.ireturn, 1) := by decide +kernel
theorem dX11_sheet_38 : decode cX11_sheet 38 = .ok (.aload 4, 2) := by decide +kernel
theorem dX11_sheet_40 : decode cX11_sheet 40 = .ok (.iload_n 2, 1) := by decide +kernel
theorem dX11_sheet_41 : decode cX11_sheet 41 = .ok (.iload_n 3, 1) := by decide +kernel
theorem dX11_sheet_42 : decode cX11_sheet 42 = .ok (.invokevirtual 264, 3) := by decide +kernel
theorem dX11_sheet_45 : decode cX11_sheet 45 = .ok (.iload_n 3, 1) := by decide +kernel
theorem dX11_sheet_46 : decode cX11_sheet 46 = .ok (.ireturn, 1) := by decide +kernel
theorem dX11_lose_0 : decode cX11_lose 0 = .ok (.aload_n 0, 1) := by decide +kernel
theorem dX11_lose_1 : decode cX11_lose 1 = .ok (.iload_n 1, 1) := by decide +kernel
theorem dX11_lose_2 : decode cX11_lose 2 = .ok (.invokevirtual 171, 3) := by decide +kernel
theorem dX11_lose_5 : decode cX11_lose 5 = .ok (.astore_n 2, 1) := by decide +kernel
theorem dX11_lose_6 : decode cX11_lose 6 = .ok (.aload_n 2, 1) := by decide +kernel
theorem dX11_lose_7 : decode cX11_lose 7 = .ok (.ifnonnull 6, 3) := by decide +kernel
theorem dX11_lose_10 : decode cX11_lose 10 = .ok (.bipush (-2), 2) := by decide +kernel
theorem dX11_lose_12 : decode cX11_lose 12 = .ok (.ireturn, 1) := by decide +kernel
theorem dX11_lose_13 : decode cX11_lose 13 = .ok (.aload_n 2, 1) := by decide +kernel
theorem dX11_lose_14 : decode cX11_lose 14 = .ok (.invokevirtual 175, 3) := by decide +kernel
theorem dX11_lose_17 : decode cX11_lose 17 = .ok (.ifCond .eq 9, 3) := by decide +kernel
theorem dX11_lose_20 : decode cX11_lose 20 = .ok (.aload_n 0, 1) := by decide +kernel
theorem dX11_lose_21 : decode cX11_lose 21 = .ok (.iconst 1, 1) := by decide +kernel
theorem dX11_lose_22 : decode cX11_lose 22 = .ok (.invokevirtual 178, 3) := by decide +kernel
theorem dX11_lose_25 : decode cX11_lose 25 = .ok (.ireturn, 1) := by decide +kernel
theorem dX11_lose_26 : decode cX11_lose 26 = .ok (.aload_n 2, 1) := by decide +kernel
theorem dX11_lose_27 : decode cX11_lose 27 = .ok (.invokevirtual 181, 3) := by decide +kernel
theorem dX11_lose_30 : decode cX11_lose 30 = .ok (.istore_n 3, 1) := by decide +kernel
theorem dX11_lose_31 : decode cX11_lose 31 = .ok (.aload_n 2, 1) := by decide +kernel
theorem dX11_lose_32 : decode cX11_lose 32 = .ok (.invokevirtual 267, 3) := by decide +kernel
theorem dX11_lose_35 : decode cX11_lose 35 = .ok (.iload_n 3, 1) := by decide +kernel
theorem dX11_lose_36 : decode cX11_lose 36 = .ok (.ireturn, 1) := by decide +kernel
theorem dX11_lay_0 : decode cX11_lay 0 = .ok (.aload_n 0, 1) := by decide +kernel
theorem dX11_lay_1 : decode cX11_lay 1 = .ok (.iload_n 1, 1) := by decide +kernel
theorem dX11_lay_2 : decode cX11_lay 2 = .ok (.invokevirtual 171, 3) := by decide +kernel
theorem dX11_lay_5 : decode cX11_lay 5 = .ok (.astore 5, 2) := by decide +kernel
theorem dX11_lay_7 : decode cX11_lay 7 = .ok (.aload 5, 2) := by decide +kernel
theorem dX11_lay_9 : decode cX11_lay 9 = .ok (.ifnull 10, 3) := by decide +kernel
theorem dX11_lay_12 : decode cX11_lay 12 = .ok (.iload_n 2, 1) := by decide +kernel
theorem dX11_lay_13 : decode cX11_lay 13 = .ok (.invokestatic 261, 3) := by decide +kernel
theorem dX11_lay_16 : decode cX11_lay 16 = .ok (.ifCond .ne 6, 3) := by decide +kernel
theorem dX11_lay_19 : decode cX11_lay 19 = .ok (.bipush (-2), 2) := by decide +kernel
theorem dX11_lay_21 : decode cX11_lay 21 = .ok (.ireturn, 1) := by decide +kernel
theorem dX11_lay_22 : decode cX11_lay 22 = .ok (.aload_n 0, 1) := by decide +kernel
theorem dX11_lay_23 : decode cX11_lay 23 = .ok (.aload 5, 2) := by decide +kernel
theorem dX11_lay_25 : decode cX11_lay 25 = .ok (.iload_n 2, 1) := by decide +kernel
theorem dX11_lay_26 : decode cX11_lay 26 = .ok (.iload_n 3, 1) := by decide +kernel
theorem dX11_lay_27 : decode cX11_lay 27 = .ok (.invokevirtual 270, 3) := by decide +kernel
theorem dX11_lay_30 : decode cX11_lay 30 = .ok (.istore 6, 2) := by decide +kernel
theorem dX11_lay_32 : decode cX11_lay 32 = .ok (.iload 6, 2) := by decide +kernel
theorem dX11_lay_34 : decode cX11_lay 34 = .ok (.ifCond .eq 6, 3) := by decide +kernel
theorem dX11_lay_37 : decode cX11_lay 37 = .ok (.iload 6, 2) := by decide +kernel
theorem dX11_lay_39 : decode cX11_lay 39 = .ok (.ireturn, 1) := by decide +kernel
theorem dX11_lay_40 : decode cX11_lay 40 = .ok (.aload 5, 2) := by decide +kernel
theorem dX11_lay_42 : decode cX11_lay 42 = .ok (.iload_n 3, 1) := by decide +kernel
theorem dX11_lay_43 : decode cX11_lay 43 = .ok (.iload 4, 2) := by decide +kernel
theorem dX11_lay_45 : decode cX11_lay 45 = .ok (.invokevirtual 274, 3) := by decide +kernel
theorem dX11_lay_48 : decode cX11_lay 48 = .ok (.iconst 1, 1) := by decide +kernel
theorem dX11_lay_49 : decode cX11_lay 49 = .ok (.ireturn, 1) := by decide +kernel
theorem dX11_get_0 : decode cX11_get 0 = .ok (.aload_n 0, 1) := by decide +kernel
theorem dX11_get_1 : decode cX11_get 1 = .ok (.iload_n 1, 1) := by decide +kernel
theorem dX11_get_2 : decode cX11_get 2 = .ok (.invokevirtual 171, 3) := by decide +kernel
theorem dX11_get_5 : decode cX11_get 5 = .ok (.astore 4, 2) := by decide +kernel
theorem dX11_get_7 : decode cX11_get 7 = .ok (.aload 4, 2) := by decide +kernel
theorem dX11_get_9 : decode cX11_get 9 = .ok (.ifnull 21, 3) := by decide +kernel
theorem dX11_get_12 : decode cX11_get 12 = .ok (.iload_n 2, 1) := by decide +kernel
theorem dX11_get_13 : decode cX11_get 13 = .ok (.invokestatic 261, 3) := by decide +kernel
theorem dX11_get_16 : decode cX11_get 16 = .ok (.ifCond .eq 14, 3) := by decide +kernel
theorem dX11_get_19 : decode cX11_get 19 = .ok (.aload_n 0, 1) := by decide +kernel
theorem dX11_get_20 : decode cX11_get 20 = .ok (.aload 4, 2) := by decide +kernel
theorem dX11_get_22 : decode cX11_get 22 = .ok (.iload_n 2, 1) := by decide +kernel
theorem dX11_get_23 : decode cX11_get 23 = .ok (.iload_n 3, 1) := by decide +kernel
theorem dX11_get_24 : decode cX11_get 24 = .ok (.invokevirtual 270, 3) := by decide +kernel
theorem dX11_get_27 : decode cX11_get 27 = .ok (.ifCond .eq 7, 3) := by decide +kernel
theorem dX11_get_30 : decode cX11_get 30 = .ok (.ldc_w 277, 3) := by decide +kernel
theorem dX11_get_33 : decode cX11_get 33 = .ok (.ireturn, 1) := by decide +kernel
theorem dX11_get_34 : decode cX11_get 34 = .ok (.aload 4, 2) := by decide +kernel
theorem dX11_get_36 : decode cX11_get 36 = .ok (.iload_n 3, 1) := by decide +kernel
theorem dX11_get_37 : decode cX11_get 37 = .ok (.invokevirtual 184, 3) := by decide +kernel
theorem dX11_get_40 : decode cX11_get 40 = .ok (.ireturn, 1) := by decide +kernel
theorem dX11_copy_0 : decode cX11_copy 0 = .ok (.aload_n 0, 1) := by decide +kernel
theorem dX11_copy_1 : decode cX11_copy 1 = .ok (.iload_n 1, 1) := by decide +kernel
theorem dX11_copy_2 : decode cX11_copy 2 = .ok (.invokevirtual 171, 3) := by decide +kernel
theorem dX11_copy_5 : decode cX11_copy 5 = .ok (.astore 6, 2) := by decide +kernel
theorem dX11_copy_7 : decode cX11_copy 7 = .ok (.aload_n 0, 1) := by decide +kernel
theorem dX11_copy_8 : decode cX11_copy 8 = .ok (.iload_n 3, 1) := by decide +kernel
theorem dX11_copy_9 : decode cX11_copy 9 = .ok (.invokevirtual 171, 3) := by decide +kernel
theorem dX11_copy_12 : decode cX11_copy 12 = .ok (.astore 7, 2) := by decide +kernel
theorem dX11_copy_14 : decode cX11_copy 14 = .ok (.aload 6, 2) := by decide +kernel
theorem dX11_copy_16 : decode cX11_copy 16 = .ok (.ifnull 8, 3) := by decide +kernel
theorem dX11_copy_19 : decode cX11_copy 19 = .ok (.aload 7, 2) := by decide +kernel
theorem dX11_copy_21 : decode cX11_copy 21 = .ok (.ifnonnull 6, 3) := by decide +kernel
theorem dX11_copy_24 : decode cX11_copy 24 = .ok (.bipush (-2), 2) := by decide +kernel
theorem dX11_copy_26 : decode cX11_copy 26 = .ok (.ireturn, 1) := by decide +kernel
theorem dX11_copy_27 : decode cX11_copy 27 = .ok (.aload 6, 2) := by decide +kernel
theorem dX11_copy_29 : decode cX11_copy 29 = .ok (.invokevirtual 175, 3) := by decide +kernel
theorem dX11_copy_32 : decode cX11_copy 32 = .ok (.ifCond .ne 11, 3) := by decide +kernel
theorem dX11_copy_35 : decode cX11_copy 35 = .ok (.aload 7, 2) := by decide +kernel
theorem dX11_copy_37 : decode cX11_copy 37 = .ok (.invokevirtual 175, 3) := by decide +kernel
theorem dX11_copy_40 : decode cX11_copy 40 = .ok (.ifCond .eq 9, 3) := by decide +kernel
theorem dX11_copy_43 : decode cX11_copy 43 = .ok (.aload_n 0, 1) := by decide +kernel
theorem dX11_copy_44 : decode cX11_copy 44 = .ok (.iconst 1, 1) := by decide +kernel
theorem dX11_copy_45 : decode cX11_copy 45 = .ok (.invokevirtual 178, 3) := by decide +kernel
theorem dX11_copy_48 : decode cX11_copy 48 = .ok (.ireturn, 1) := by decide +kernel
theorem dX11_copy_49 : decode cX11_copy 49 = .ok (.aload 6, 2) := by decide +kernel
theorem dX11_copy_51 : decode cX11_copy 51 = .ok (.invokevirtual 278, 3) := by decide +kernel
theorem dX11_copy_54 : decode cX11_copy 54 = .ok (.aload 7, 2) := by decide +kernel
theorem dX11_copy_56 : decode cX11_copy 56 = .ok (.invokevirtual 278, 3) := by decide +kernel
theorem dX11_copy_59 : decode cX11_copy 59 = .ok (.if_icmp .eq 9, 3) := by decide +kernel
theorem dX11_copy_62 : decode cX11_copy 62 = .ok (.aload_n 0, 1) := by decide +kernel
theorem dX11_copy_63 : decode cX11_copy 63 = .ok (.iconst 4, 1) := by decide +kernel
theorem dX11_copy_64 : decode cX11_copy 64 = .ok (.invokevirtual 178, 3) := by decide +kernel
theorem dX11_copy_67 : decode cX11_copy 67 = .ok (.ireturn, 1) := by decide +kernel
theorem dX11_copy_68 : decode cX11_copy 68 = .ok (.aload 6, 2) := by decide +kernel
theorem dX11_copy_70 : decode cX11_copy 70 = .ok (.iload_n 2, 1) := by decide +kernel
theorem dX11_copy_71 : decode cX11_copy 71 = .ok (.iload 5, 2) := by decide +kernel
theorem dX11_copy_73 : decode cX11_copy 73 = .ok (.invokevirtual 281, 3) := by decide +kernel
theorem dX11_copy_76 : decode cX11_copy 76 = .ok (.ifCond .eq 15, 3) := by decide +kernel
theorem dX11_copy_79 : decode cX11_copy 79 = .ok (.aload 7, 2) := by decide +kernel
theorem dX11_copy_81 : decode cX11_copy 81 = .ok (.iload 4, 2) := by decide +kernel
theorem dX11_copy_83 : decode cX11_copy 83 = .ok (.iload 5, 2) := by decide +kernel
theorem dX11_copy_85 : decode cX11_copy 85 = .ok (.invokevirtual 281, 3) := by decide +kernel
theorem dX11_copy_88 : decode cX11_copy 88 = .ok (.ifCond .ne 9, 3) := by decide +kernel
theorem dX11_copy_91 : decode cX11_copy 91 = .ok (.aload_n 0, 1) := by decide +kernel
theorem dX11_copy_92 : decode cX11_copy 92 = .ok (.iconst 2, 1) := by decide +kernel
theorem dX11_copy_93 : decode cX11_copy 93 = .ok (.invokevirtual 178, 3) := by decide +kernel
theorem dX11_copy_96 : decode cX11_copy 96 = .ok (.ireturn, 1) := by decide +kernel
theorem dX11_copy_97 : decode cX11_copy 97 = .ok (.aload 7, 2) := by decide +kernel
theorem dX11_copy_99 : decode cX11_copy 99 = .ok (.iload 4, 2) := by decide +kernel
theorem dX11_copy_101 : decode cX11_copy 101 = .ok (.aload 6, 2) := by decide +kernel
theorem dX11_copy_103 : decode cX11_copy 103 = .ok (.iload_n 2, 1) := by decide +kernel
theorem dX11_copy_104 : decode cX11_copy 104 = .ok (.iload 5, 2) := by decide +kernel
theorem dX11_copy_106 : decode cX11_copy 106 = .ok (.invokevirtual 284, 3) := by decide +kernel
theorem dX11_copy_109 : decode cX11_copy 109 = .ok (.iconst 1, 1) := by decide +kernel
theorem dX11_copy_110 : decode cX11_copy 110 = .ok (.ireturn, 1) := by decide +kernel
theorem dX11_write_0 : decode cX11_write 0 = .ok (.aload_n 0, 1) := by decide +kernel
theorem dX11_write_1 : decode cX11_write 1 = .ok (.iload_n 2, 1) := by decide +kernel
theorem dX11_write_2 : decode cX11_write 2 = .ok (.invokevirtual 171, 3) := by decide +kernel
theorem dX11_write_5 : decode cX11_write 5 = .ok (.astore_n 3, 1) := by decide +kernel
theorem dX11_write_6 : decode cX11_write 6 = .ok (.aload_n 3, 1) := by decide +kernel
theorem dX11_write_7 : decode cX11_write 7 = .ok (.ifnull 11, 3) := by decide +kernel
theorem dX11_write_10 : decode cX11_write 10 = .ok (.aload_n 0, 1) := by decide +kernel
theorem dX11_write_11 : decode cX11_write 11 = .ok (.iload_n 1, 1) := by decide +kernel
theorem dX11_write_12 : decode cX11_write 12 = .ok (.invokevirtual 201, 3) := by decide +kernel
theorem dX11_write_15 : decode cX11_write 15 = .ok (.ifCond .ne 6, 3) := by decide +kernel
theorem dX11_write_18 : decode cX11_write 18 = .ok (.bipush (-2), 2) := by decide +kernel
theorem dX11_write_20 : decode cX11_write 20 = .ok (.ireturn, 1) := by decide +kernel
theorem dX11_write_21 : decode cX11_write 21 = .ok (.aload_n 3, 1) := by decide +kernel
theorem dX11_write_22 : decode cX11_write 22 = .ok (.invokevirtual 175, 3) := by decide +kernel
theorem dX11_write_25 : decode cX11_write 25 = .ok (.ifCond .eq 9, 3) := by decide +kernel
theorem dX11_write_28 : decode cX11_write 28 = .ok (.aload_n 0, 1) := by decide +kernel
theorem dX11_write_29 : decode cX11_write 29 = .ok (.iconst 1, 1) := by decide +kernel
theorem dX11_write_30 : decode cX11_write 30 = .ok (.invokevirtual 178, 3) := by decide +kernel
theorem dX11_write_33 : decode cX11_write 33 = .ok (.ireturn, 1) := by decide +kernel
theorem dX11_write_34 : decode cX11_write 34 = .ok (.aload_n 0, 1) := by decide +kernel
theorem dX11_write_35 : decode cX11_write 35 = .ok (.getfield 56, 3) := by decide +kernel
theorem dX11_write_38 : decode cX11_write 38 = .ok (.iload_n 1, 1) := by decide +kernel
theorem dX11_write_39 : decode cX11_write 39 = .ok (.iconst (-1), 1) := by decide +kernel
theorem dX11_write_40 : decode cX11_write 40 = .ok (.invokevirtual 190, 3) := by decide +kernel
theorem dX11_write_43 : decode cX11_write 43 = .ok (.aload_n 3, 1) := by decide +kernel
theorem dX11_write_44 : decode cX11_write 44 = .ok (.invokevirtual 181, 3) := by decide +kernel
theorem dX11_write_47 : decode cX11_write 47 = .ok (.aload_n 0, 1) := by decide +kernel
theorem dX11_write_48 : decode cX11_write 48 = .ok (.getfield 26, 3) := by decide +kernel
theorem dX11_write_51 : decode cX11_write 51 = .ok (.invokevirtual 288, 3) := by decide +kernel
theorem dX11_write_54 : decode cX11_write 54 = .ok (.invokestatic 289, 3) := by decide +kernel
theorem dX11_write_57 : decode cX11_write 57 = .ok (.istore 4, 2) := by decide +kernel
theorem dX11_write_59 : decode cX11_write 59 = .ok (.iconst 0, 1) := by decide +kernel
theorem dX11_write_60 : decode cX11_write 60 = .ok (.istore 5, 2) := by decide +kernel
theorem dX11_write_62 : decode cX11_write 62 = .ok (.iload 5, 2) := by decide +kernel
theorem dX11_write_64 : decode cX11_write 64 = .ok (.iload 4, 2) := by decide +kernel
theorem dX11_write_66 : decode cX11_write 66 = .ok (.if_icmp .ge 24, 3) := by decide +kernel
theorem dX11_write_69 : decode cX11_write 69 = .ok (.aload_n 3, 1) := by decide +kernel
theorem dX11_write_70 : decode cX11_write 70 = .ok (.iload 5, 2) := by decide +kernel
theorem dX11_write_72 : decode cX11_write 72 = .ok (.aload_n 0, 1) := by decide +kernel
theorem dX11_write_73 : decode cX11_write 73 = .ok (.getfield 56, 3) := by decide +kernel
theorem dX11_write_76 : decode cX11_write 76 = .ok (.iload 5, 2) := by decide +kernel
theorem dX11_write_78 : decode cX11_write 78 = .ok (.invokevirtual 204, 3) := by decide +kernel
theorem dX11_write_81 : decode cX11_write 81 = .ok (.invokevirtual 274, 3) := by decide +kernel
theorem dX11_write_84 : decode cX11_write 84 = .ok (.iinc 5 1, 3) := by decide +kernel
theorem dX11_write_87 : decode cX11_write 87 = .ok (.goto (-25), 3) := by decide +kernel
theorem dX11_write_90 : decode cX11_write 90 = .ok (.iload 4, 2) := by decide +kernel
theorem dX11_write_92 : decode cX11_write 92 = .ok (.ireturn, 1) := by decide +kernel
theorem dX11_count_0 : decode cX11_count 0 = .ok (.iload_n 1, 1) := by decide +kernel
theorem dX11_count_1 : decode cX11_count 1 = .ok (.tableswitch 135 0 8 #[51, 59, 67, 75, 83, 91, 114, 122, 130], 51) := by decide +kernel
theorem dX11_count_52 : decode cX11_count 52 = .ok (.aload_n 0, 1) := by decide +kernel
theorem dX11_count_53 : decode cX11_count 53 = .ok (.getfield 26, 3) := by decide +kernel
theorem dX11_count_56 : decode cX11_count 56 = .ok (.invokevirtual 288, 3) := by decide +kernel
theorem dX11_count_59 : decode cX11_count 59 = .ok (.ireturn, 1) := by decide +kernel
theorem dX11_count_60 : decode cX11_count 60 = .ok (.aload_n 0, 1) := by decide +kernel
theorem dX11_count_61 : decode cX11_count 61 = .ok (.getfield 33, 3) := by decide +kernel
theorem dX11_count_64 : decode cX11_count 64 = .ok (.invokevirtual 225, 3) := by decide +kernel
theorem dX11_count_67 : decode cX11_count 67 = .ok (.ireturn, 1) := by decide +kernel
theorem dX11_count_68 : decode cX11_count 68 = .ok (.aload_n 0, 1) := by decide +kernel
theorem dX11_count_69 : decode cX11_count 69 = .ok (.getfield 16, 3) := by decide +kernel
theorem dX11_count_72 : decode cX11_count 72 = .ok (.invokevirtual 112, 3) := by decide +kernel
theorem dX11_count_75 : decode cX11_count 75 = .ok (.ireturn, 1) := by decide +kernel
theorem dX11_count_76 : decode cX11_count 76 = .ok (.aload_n 0, 1) := by decide +kernel
theorem dX11_count_77 : decode cX11_count 77 = .ok (.getfield 20, 3) := by decide +kernel
theorem dX11_count_80 : decode cX11_count 80 = .ok (.invokevirtual 112, 3) := by decide +kernel
theorem dX11_count_83 : decode cX11_count 83 = .ok (.ireturn, 1) := by decide +kernel
theorem dX11_count_84 : decode cX11_count 84 = .ok (.aload_n 0, 1) := by decide +kernel
theorem dX11_count_85 : decode cX11_count 85 = .ok (.getfield 47, 3) := by decide +kernel
theorem dX11_count_88 : decode cX11_count 88 = .ok (.invokevirtual 165, 3) := by decide +kernel
theorem dX11_count_91 : decode cX11_count 91 = .ok (.ireturn, 1) := by decide +kernel
theorem dX11_count_92 : decode cX11_count 92 = .ok (.aload_n 0, 1) := by decide +kernel
theorem dX11_count_93 : decode cX11_count 93 = .ok (.getfield 56, 3) := by decide +kernel
theorem dX11_count_96 : decode cX11_count 96 = .ok (.aload_n 0, 1) := by decide +kernel
theorem dX11_count_97 : decode cX11_count 97 = .ok (.getfield 47, 3) := by decide +kernel
theorem dX11_count_100 : decode cX11_count 100 = .ok (.invokevirtual 165, 3) := by decide +kernel
theorem dX11_count_103 : decode cX11_count 103 = .ok (.iconst (-1), 1) := by decide +kernel
theorem dX11_count_104 : decode cX11_count 104 = .ok (.invokevirtual 190, 3) := by decide +kernel
theorem dX11_count_107 : decode cX11_count 107 = .ok (.aload_n 0, 1) := by decide +kernel
theorem dX11_count_108 : decode cX11_count 108 = .ok (.getfield 56, 3) := by decide +kernel
theorem dX11_count_111 : decode cX11_count 111 = .ok (.invokevirtual 292, 3) := by decide +kernel
theorem dX11_count_114 : decode cX11_count 114 = .ok (.ireturn, 1) := by decide +kernel
theorem dX11_count_115 : decode cX11_count 115 = .ok (.aload_n 0, 1) := by decide +kernel
theorem dX11_count_116 : decode cX11_count 116 = .ok (.getfield 40, 3) := by decide +kernel
theorem dX11_count_119 : decode cX11_count 119 = .ok (.invokevirtual 295, 3) := by decide +kernel
theorem dX11_count_122 : decode cX11_count 122 = .ok (.ireturn, 1) := by decide +kernel
theorem dX11_count_123 : decode cX11_count 123 = .ok (.aload_n 0, 1) := by decide +kernel
theorem dX11_count_124 : decode cX11_count 124 = .ok (.getfield 79, 3) := by decide +kernel
theorem dX11_count_127 : decode cX11_count 127 = .ok (.invokevirtual 234, 3) := by decide +kernel
theorem dX11_count_130 : decode cX11_count 130 = .ok (.ireturn, 1) := by decide +kernel
theorem dX11_count_131 : decode cX11_count 131 = .ok (.aload_n 0, 1) := by decide +kernel
theorem dX11_count_132 : decode cX11_count 132 = .ok (.getfield 89, 3) := by decide +kernel
theorem dX11_count_135 : decode cX11_count 135 = .ok (.ireturn, 1) := by decide +kernel
theorem dX11_count_136 : decode cX11_count 136 = .ok (.bipush (-2), 2) := by decide +kernel
theorem dX11_count_138 : decode cX11_count 138 = .ok (.ireturn, 1) := by decide +kernel
theorem dX11_digest_0 : decode cX11_digest 0 = .ok (.ldc2_w 298, 3) := by decide +kernel
theorem dX11_digest_3 : decode cX11_digest 3 = .ok (.lstore_n 1, 1) := by decide +kernel
theorem dX11_digest_4 : decode cX11_digest 4 = .ok (.iconst 0, 1) := by decide +kernel
theorem dX11_digest_5 : decode cX11_digest 5 = .ok (.istore_n 3, 1) := by decide +kernel
theorem dX11_digest_6 : decode cX11_digest 6 = .ok (.iload_n 3, 1) := by decide +kernel
theorem dX11_digest_7 : decode cX11_digest 7 = .ok (.bipush 7, 2) := by decide +kernel
theorem dX11_digest_9 : decode cX11_digest 9 = .ok (.if_icmp .gt 22, 3) := by decide +kernel
theorem dX11_digest_12 : decode cX11_digest 12 = .ok (.ldc2_w 300, 3) := by decide +kernel
theorem dX11_digest_15 : decode cX11_digest 15 = .ok (.lload_n 1, 1) := by decide +kernel
theorem dX11_digest_16 : decode cX11_digest 16 = .ok (.lmul, 1) := by decide +kernel
theorem dX11_digest_17 : decode cX11_digest 17 = .ok (.aload_n 0, 1) := by decide +kernel
theorem dX11_digest_18 : decode cX11_digest 18 = .ok (.iload_n 3, 1) := by decide +kernel
theorem dX11_digest_19 : decode cX11_digest 19 = .ok (.invokevirtual 302, 3) := by decide +kernel
theorem dX11_digest_22 : decode cX11_digest 22 = .ok (.i2l, 1) := by decide +kernel
theorem dX11_digest_23 : decode cX11_digest 23 = .ok (.ladd, 1) := by decide +kernel
theorem dX11_digest_24 : decode cX11_digest 24 = .ok (.lstore_n 1, 1) := by decide +kernel
theorem dX11_digest_25 : decode cX11_digest 25 = .ok (.iinc 3 1, 3) := by decide +kernel
theorem dX11_digest_28 : decode cX11_digest 28 = .ok (.goto (-22), 3) := by decide +kernel
theorem dX11_digest_31 : decode cX11_digest 31 = .ok (.ldc2_w 300, 3) := by decide +kernel
theorem dX11_digest_34 : decode cX11_digest 34 = .ok (.lload_n 1, 1) := by decide +kernel
theorem dX11_digest_35 : decode cX11_digest 35 = .ok (.lmul, 1) := by decide +kernel
theorem dX11_digest_36 : decode cX11_digest 36 = .ok (.aload_n 0, 1) := by decide +kernel
theorem dX11_digest_37 : decode cX11_digest 37 = .ok (.iconst 0, 1) := by decide +kernel
theorem dX11_digest_38 : decode cX11_digest 38 = .ok (.invokevirtual 305, 3) := by decide +kernel
theorem dX11_digest_41 : decode cX11_digest 41 = .ok (.i2l, 1) := by decide +kernel
theorem dX11_digest_42 : decode cX11_digest 42 = .ok (.ladd, 1) := by decide +kernel
theorem dX11_digest_43 : decode cX11_digest 43 = .ok (.lstore_n 1, 1) := by decide +kernel
theorem dX11_digest_44 : decode cX11_digest 44 = .ok (.ldc2_w 300, 3) := by decide +kernel
theorem dX11_digest_47 : decode cX11_digest 47 = .ok (.lload_n 1, 1) := by decide +kernel
theorem dX11_digest_48 : decode cX11_digest 48 = .ok (.lmul, 1) := by decide +kernel
theorem dX11_digest_49 : decode cX11_digest 49 = .ok (.aload_n 0, 1) := by decide +kernel
theorem dX11_digest_50 : decode cX11_digest 50 = .ok (.iconst 1, 1) := by decide +kernel
theorem dX11_digest_51 : decode cX11_digest 51 = .ok (.invokevirtual 305, 3) := by decide +kernel
theorem dX11_digest_54 : decode cX11_digest 54 = .ok (.i2l, 1) := by decide +kernel
theorem dX11_digest_55 : decode cX11_digest 55 = .ok (.ladd, 1) := by decide +kernel
theorem dX11_digest_56 : decode cX11_digest 56 = .ok (.lstore_n 1, 1) := by decide +kernel
theorem dX11_digest_57 : decode cX11_digest 57 = .ok (.ldc2_w 300, 3) := by decide +kernel
theorem dX11_digest_60 : decode cX11_digest 60 = .ok (.lload_n 1, 1) := by decide +kernel
theorem dX11_digest_61 : decode cX11_digest 61 = .ok (.lmul, 1) := by decide +kernel
theorem dX11_digest_62 : decode cX11_digest 62 = .ok (.aload_n 0, 1) := by decide +kernel
theorem dX11_digest_63 : decode cX11_digest 63 = .ok (.invokevirtual 308, 3) := by decide +kernel
theorem dX11_digest_66 : decode cX11_digest 66 = .ok (.i2l, 1) := by decide +kernel
theorem dX11_digest_67 : decode cX11_digest 67 = .ok (.ladd, 1) := by decide +kernel
theorem dX11_digest_68 : decode cX11_digest 68 = .ok (.lstore_n 1, 1) := by decide +kernel
theorem dX11_digest_69 : decode cX11_digest 69 = .ok (.iconst 0, 1) := by decide +kernel
theorem dX11_digest_70 : decode cX11_digest 70 = .ok (.istore_n 3, 1) := by decide +kernel
theorem dX11_digest_71 : decode cX11_digest 71 = .ok (.iload_n 3, 1) := by decide +kernel
theorem dX11_digest_72 : decode cX11_digest 72 = .ok (.aload_n 0, 1) := by decide +kernel
theorem dX11_digest_73 : decode cX11_digest 73 = .ok (.getfield 47, 3) := by decide +kernel
theorem dX11_digest_76 : decode cX11_digest 76 = .ok (.invokevirtual 165, 3) := by decide +kernel
theorem dX11_digest_79 : decode cX11_digest 79 = .ok (.if_icmp .ge 36, 3) := by decide +kernel
theorem dX11_digest_82 : decode cX11_digest 82 = .ok (.ldc2_w 300, 3) := by decide +kernel
theorem dX11_digest_85 : decode cX11_digest 85 = .ok (.lload_n 1, 1) := by decide +kernel
theorem dX11_digest_86 : decode cX11_digest 86 = .ok (.lmul, 1) := by decide +kernel
theorem dX11_digest_87 : decode cX11_digest 87 = .ok (.aload_n 0, 1) := by decide +kernel
theorem dX11_digest_88 : decode cX11_digest 88 = .ok (.iload_n 3, 1) := by decide +kernel
theorem dX11_digest_89 : decode cX11_digest 89 = .ok (.invokevirtual 311, 3) := by decide +kernel
theorem dX11_digest_92 : decode cX11_digest 92 = .ok (.i2l, 1) := by decide +kernel
theorem dX11_digest_93 : decode cX11_digest 93 = .ok (.ladd, 1) := by decide +kernel
theorem dX11_digest_94 : decode cX11_digest 94 = .ok (.lstore_n 1, 1) := by decide +kernel
theorem dX11_digest_95 : decode cX11_digest 95 = .ok (.ldc2_w 300, 3) := by decide +kernel
theorem dX11_digest_98 : decode cX11_digest 98 = .ok (.lload_n 1, 1) := by decide +kernel
theorem dX11_digest_99 : decode cX11_digest 99 = .ok (.lmul, 1) := by decide +kernel
theorem dX11_digest_100 : decode cX11_digest 100 = .ok (.aload_n 0, 1) := by decide +kernel
theorem dX11_digest_101 : decode cX11_digest 101 = .ok (.iload_n 3, 1) := by decide +kernel
theorem dX11_digest_102 : decode cX11_digest 102 = .ok (.iconst 0, 1) := by decide +kernel
theorem dX11_digest_103 : decode cX11_digest 103 = .ok (.invokevirtual 314, 3) := by decide +kernel
theorem dX11_digest_106 : decode cX11_digest 106 = .ok (.i2l, 1) := by decide +kernel
theorem dX11_digest_107 : decode cX11_digest 107 = .ok (.ladd, 1) := by decide +kernel
theorem dX11_digest_108 : decode cX11_digest 108 = .ok (.lstore_n 1, 1) := by decide +kernel
theorem dX11_digest_109 : decode cX11_digest 109 = .ok (.iinc 3 1, 3) := by decide +kernel
theorem dX11_digest_112 : decode cX11_digest 112 = .ok (.goto (-41), 3) := by decide +kernel
theorem dX11_digest_115 : decode cX11_digest 115 = .ok (.iconst 0, 1) := by decide +kernel
theorem dX11_digest_116 : decode cX11_digest 116 = .ok (.istore_n 3, 1) := by decide +kernel
theorem dX11_digest_117 : decode cX11_digest 117 = .ok (.iload_n 3, 1) := by decide +kernel
theorem dX11_digest_118 : decode cX11_digest 118 = .ok (.aload_n 0, 1) := by decide +kernel
theorem dX11_digest_119 : decode cX11_digest 119 = .ok (.getfield 26, 3) := by decide +kernel
theorem dX11_digest_122 : decode cX11_digest 122 = .ok (.invokevirtual 288, 3) := by decide +kernel
theorem dX11_digest_125 : decode cX11_digest 125 = .ok (.if_icmp .ge 106, 3) := by decide +kernel
theorem dX11_digest_128 : decode cX11_digest 128 = .ok (.ldc2_w 300, 3) := by decide +kernel
theorem dX11_digest_131 : decode cX11_digest 131 = .ok (.lload_n 1, 1) := by decide +kernel
theorem dX11_digest_132 : decode cX11_digest 132 = .ok (.lmul, 1) := by decide +kernel
theorem dX11_digest_133 : decode cX11_digest 133 = .ok (.aload_n 0, 1) := by decide +kernel
theorem dX11_digest_134 : decode cX11_digest 134 = .ok (.iload_n 3, 1) := by decide +kernel
theorem dX11_digest_135 : decode cX11_digest 135 = .ok (.aload_n 0, 1) := by decide +kernel
theorem dX11_digest_136 : decode cX11_digest 136 = .ok (.getfield 47, 3) := by decide +kernel
theorem dX11_digest_139 : decode cX11_digest 139 = .ok (.invokevirtual 165, 3) := by decide +kernel
theorem dX11_digest_142 : decode cX11_digest 142 = .ok (.invokevirtual 317, 3) := by decide +kernel
theorem dX11_digest_145 : decode cX11_digest 145 = .ok (.i2l, 1) := by decide +kernel
theorem dX11_digest_146 : decode cX11_digest 146 = .ok (.ladd, 1) := by decide +kernel
theorem dX11_digest_147 : decode cX11_digest 147 = .ok (.lstore_n 1, 1) := by decide +kernel
theorem dX11_digest_148 : decode cX11_digest 148 = .ok (.ldc2_w 300, 3) := by decide +kernel
theorem dX11_digest_151 : decode cX11_digest 151 = .ok (.lload_n 1, 1) := by decide +kernel
theorem dX11_digest_152 : decode cX11_digest 152 = .ok (.lmul, 1) := by decide +kernel
theorem dX11_digest_153 : decode cX11_digest 153 = .ok (.aload_n 0, 1) := by decide +kernel
theorem dX11_digest_154 : decode cX11_digest 154 = .ok (.iload_n 3, 1) := by decide +kernel
theorem dX11_digest_155 : decode cX11_digest 155 = .ok (.sipush 150, 3) := by decide +kernel
theorem dX11_digest_158 : decode cX11_digest 158 = .ok (.invokevirtual 320, 3) := by decide +kernel
theorem dX11_digest_161 : decode cX11_digest 161 = .ok (.i2l, 1) := by decide +kernel
theorem dX11_digest_162 : decode cX11_digest 162 = .ok (.ladd, 1) := by decide +kernel
theorem dX11_digest_163 : decode cX11_digest 163 = .ok (.lstore_n 1, 1) := by decide +kernel
theorem dX11_digest_164 : decode cX11_digest 164 = .ok (.ldc2_w 300, 3) := by decide +kernel
theorem dX11_digest_167 : decode cX11_digest 167 = .ok (.lload_n 1, 1) := by decide +kernel
theorem dX11_digest_168 : decode cX11_digest 168 = .ok (.lmul, 1) := by decide +kernel
theorem dX11_digest_169 : decode cX11_digest 169 = .ok (.aload_n 0, 1) := by decide +kernel
theorem dX11_digest_170 : decode cX11_digest 170 = .ok (.iload_n 3, 1) := by decide +kernel
theorem dX11_digest_171 : decode cX11_digest 171 = .ok (.iconst 2, 1) := by decide +kernel
theorem dX11_digest_172 : decode cX11_digest 172 = .ok (.invokevirtual 323, 3) := by decide +kernel
theorem dX11_digest_175 : decode cX11_digest 175 = .ok (.i2l, 1) := by decide +kernel
theorem dX11_digest_176 : decode cX11_digest 176 = .ok (.ladd, 1) := by decide +kernel
theorem dX11_digest_177 : decode cX11_digest 177 = .ok (.lstore_n 1, 1) := by decide +kernel
theorem dX11_digest_178 : decode cX11_digest 178 = .ok (.ldc2_w 300, 3) := by decide +kernel
theorem dX11_digest_181 : decode cX11_digest 181 = .ok (.lload_n 1, 1) := by decide +kernel
theorem dX11_digest_182 : decode cX11_digest 182 = .ok (.lmul, 1) := by decide +kernel
theorem dX11_digest_183 : decode cX11_digest 183 = .ok (.aload_n 0, 1) := by decide +kernel
theorem dX11_digest_184 : decode cX11_digest 184 = .ok (.iload_n 3, 1) := by decide +kernel
theorem dX11_digest_185 : decode cX11_digest 185 = .ok (.invokevirtual 326, 3) := by decide +kernel
theorem dX11_digest_188 : decode cX11_digest 188 = .ok (.i2l, 1) := by decide +kernel
theorem dX11_digest_189 : decode cX11_digest 189 = .ok (.ladd, 1) := by decide +kernel
theorem dX11_digest_190 : decode cX11_digest 190 = .ok (.lstore_n 1, 1) := by decide +kernel
theorem dX11_digest_191 : decode cX11_digest 191 = .ok (.ldc2_w 300, 3) := by decide +kernel
theorem dX11_digest_194 : decode cX11_digest 194 = .ok (.lload_n 1, 1) := by decide +kernel
theorem dX11_digest_195 : decode cX11_digest 195 = .ok (.lmul, 1) := by decide +kernel
theorem dX11_digest_196 : decode cX11_digest 196 = .ok (.aload_n 0, 1) := by decide +kernel
theorem dX11_digest_197 : decode cX11_digest 197 = .ok (.iload_n 3, 1) := by decide +kernel
theorem dX11_digest_198 : decode cX11_digest 198 = .ok (.iload_n 3, 1) := by decide +kernel
theorem dX11_digest_199 : decode cX11_digest 199 = .ok (.iconst 1, 1) := by decide +kernel
theorem dX11_digest_200 : decode cX11_digest 200 = .ok (.iadd, 1) := by decide +kernel
theorem dX11_digest_201 : decode cX11_digest 201 = .ok (.iconst 0, 1) := by decide +kernel
theorem dX11_digest_202 : decode cX11_digest 202 = .ok (.invokevirtual 329, 3) := by decide +kernel
theorem dX11_digest_205 : decode cX11_digest 205 = .ok (.i2l, 1) := by decide +kernel
theorem dX11_digest_206 : decode cX11_digest 206 = .ok (.ladd, 1) := by decide +kernel
theorem dX11_digest_207 : decode cX11_digest 207 = .ok (.lstore_n 1, 1) := by decide +kernel
theorem dX11_digest_208 : decode cX11_digest 208 = .ok (.ldc2_w 300, 3) := by decide +kernel
theorem dX11_digest_211 : decode cX11_digest 211 = .ok (.lload_n 1, 1) := by decide +kernel
theorem dX11_digest_212 : decode cX11_digest 212 = .ok (.lmul, 1) := by decide +kernel
theorem dX11_digest_213 : decode cX11_digest 213 = .ok (.aload_n 0, 1) := by decide +kernel
theorem dX11_digest_214 : decode cX11_digest 214 = .ok (.iload_n 3, 1) := by decide +kernel
theorem dX11_digest_215 : decode cX11_digest 215 = .ok (.iload_n 3, 1) := by decide +kernel
theorem dX11_digest_216 : decode cX11_digest 216 = .ok (.iconst 1, 1) := by decide +kernel
theorem dX11_digest_217 : decode cX11_digest 217 = .ok (.iadd, 1) := by decide +kernel
theorem dX11_digest_218 : decode cX11_digest 218 = .ok (.iconst 1, 1) := by decide +kernel
theorem dX11_digest_219 : decode cX11_digest 219 = .ok (.invokevirtual 329, 3) := by decide +kernel
theorem dX11_digest_222 : decode cX11_digest 222 = .ok (.i2l, 1) := by decide +kernel
theorem dX11_digest_223 : decode cX11_digest 223 = .ok (.ladd, 1) := by decide +kernel
theorem dX11_digest_224 : decode cX11_digest 224 = .ok (.lstore_n 1, 1) := by decide +kernel
theorem dX11_digest_225 : decode cX11_digest 225 = .ok (.iinc 3 1, 3) := by decide +kernel
theorem dX11_digest_228 : decode cX11_digest 228 = .ok (.goto (-111), 3) := by decide +kernel
theorem dX11_digest_231 : decode cX11_digest 231 = .ok (.iconst 0, 1) := by decide +kernel
theorem dX11_digest_232 : decode cX11_digest 232 = .ok (.istore_n 3, 1) := by decide +kernel
theorem dX11_digest_233 : decode cX11_digest 233 = .ok (.iload_n 3, 1) := by decide +kernel
theorem dX11_digest_234 : decode cX11_digest 234 = .ok (.aload_n 0, 1) := by decide +kernel
theorem dX11_digest_235 : decode cX11_digest 235 = .ok (.getfield 33, 3) := by decide +kernel
theorem dX11_digest_238 : decode cX11_digest 238 = .ok (.invokevirtual 225, 3) := by decide +kernel
theorem dX11_digest_241 : decode cX11_digest 241 = .ok (.if_icmp .ge 104, 3) := by decide +kernel
theorem dX11_digest_244 : decode cX11_digest 244 = .ok (.iconst 0, 1) := by decide +kernel
theorem dX11_digest_245 : decode cX11_digest 245 = .ok (.istore 4, 2) := by decide +kernel
theorem dX11_digest_247 : decode cX11_digest 247 = .ok (.iload 4, 2) := by decide +kernel
theorem dX11_digest_249 : decode cX11_digest 249 = .ok (.iconst 3, 1) := by decide +kernel
theorem dX11_digest_250 : decode cX11_digest 250 = .ok (.if_icmp .gt 24, 3) := by decide +kernel
theorem dX11_digest_253 : decode cX11_digest 253 = .ok (.ldc2_w 300, 3) := by decide +kernel
theorem dX11_digest_256 : decode cX11_digest 256 = .ok (.lload_n 1, 1) := by decide +kernel
theorem dX11_digest_257 : decode cX11_digest 257 = .ok (.lmul, 1) := by decide +kernel
theorem dX11_digest_258 : decode cX11_digest 258 = .ok (.aload_n 0, 1) := by decide +kernel
theorem dX11_digest_259 : decode cX11_digest 259 = .ok (.iload_n 3, 1) := by decide +kernel
theorem dX11_digest_260 : decode cX11_digest 260 = .ok (.iload 4, 2) := by decide +kernel
theorem dX11_digest_262 : decode cX11_digest 262 = .ok (.invokevirtual 333, 3) := by decide +kernel
theorem dX11_digest_265 : decode cX11_digest 265 = .ok (.i2l, 1) := by decide +kernel
theorem dX11_digest_266 : decode cX11_digest 266 = .ok (.ladd, 1) := by decide +kernel
theorem dX11_digest_267 : decode cX11_digest 267 = .ok (.lstore_n 1, 1) := by decide +kernel
theorem dX11_digest_268 : decode cX11_digest 268 = .ok (.iinc 4 1, 3) := by decide +kernel
theorem dX11_digest_271 : decode cX11_digest 271 = .ok (.goto (-24), 3) := by decide +kernel
theorem dX11_digest_274 : decode cX11_digest 274 = .ok (.ldc2_w 300, 3) := by decide +kernel
theorem dX11_digest_277 : decode cX11_digest 277 = .ok (.lload_n 1, 1) := by decide +kernel
theorem dX11_digest_278 : decode cX11_digest 278 = .ok (.lmul, 1) := by decide +kernel
theorem dX11_digest_279 : decode cX11_digest 279 = .ok (.aload_n 0, 1) := by decide +kernel
theorem dX11_digest_280 : decode cX11_digest 280 = .ok (.iload_n 3, 1) := by decide +kernel
theorem dX11_digest_281 : decode cX11_digest 281 = .ok (.bipush 6, 2) := by decide +kernel
theorem dX11_digest_283 : decode cX11_digest 283 = .ok (.invokevirtual 336, 3) := by decide +kernel
theorem dX11_digest_286 : decode cX11_digest 286 = .ok (.i2l, 1) := by decide +kernel
theorem dX11_digest_287 : decode cX11_digest 287 = .ok (.ladd, 1) := by decide +kernel
theorem dX11_digest_288 : decode cX11_digest 288 = .ok (.lstore_n 1, 1) := by decide +kernel
theorem dX11_digest_289 : decode cX11_digest 289 = .ok (.iconst 0, 1) := by decide +kernel
theorem dX11_digest_290 : decode cX11_digest 290 = .ok (.istore 4, 2) := by decide +kernel
theorem dX11_digest_292 : decode cX11_digest 292 = .ok (.iload 4, 2) := by decide +kernel
theorem dX11_digest_294 : decode cX11_digest 294 = .ok (.iconst 2, 1) := by decide +kernel
theorem dX11_digest_295 : decode cX11_digest 295 = .ok (.if_icmp .gt 31, 3) := by decide +kernel
theorem dX11_digest_298 : decode cX11_digest 298 = .ok (.ldc2_w 300, 3) := by decide +kernel
theorem dX11_digest_301 : decode cX11_digest 301 = .ok (.lload_n 1, 1) := by decide +kernel
theorem dX11_digest_302 : decode cX11_digest 302 = .ok (.lmul, 1) := by decide +kernel
theorem dX11_digest_303 : decode cX11_digest 303 = .ok (.aload_n 0, 1) := by decide +kernel
theorem dX11_digest_304 : decode cX11_digest 304 = .ok (.iload_n 3, 1) := by decide +kernel
theorem dX11_digest_305 : decode cX11_digest 305 = .ok (.aload_n 0, 1) := by decide +kernel
theorem dX11_digest_306 : decode cX11_digest 306 = .ok (.getfield 47, 3) := by decide +kernel
theorem dX11_digest_309 : decode cX11_digest 309 = .ok (.invokevirtual 165, 3) := by decide +kernel
theorem dX11_digest_312 : decode cX11_digest 312 = .ok (.iload 4, 2) := by decide +kernel
theorem dX11_digest_314 : decode cX11_digest 314 = .ok (.invokevirtual 339, 3) := by decide +kernel
theorem dX11_digest_317 : decode cX11_digest 317 = .ok (.i2l, 1) := by decide +kernel
theorem dX11_digest_318 : decode cX11_digest 318 = .ok (.ladd, 1) := by decide +kernel
theorem dX11_digest_319 : decode cX11_digest 319 = .ok (.lstore_n 1, 1) := by decide +kernel
theorem dX11_digest_320 : decode cX11_digest 320 = .ok (.iinc 4 1, 3) := by decide +kernel
theorem dX11_digest_323 : decode cX11_digest 323 = .ok (.goto (-31), 3) := by decide +kernel
theorem dX11_digest_326 : decode cX11_digest 326 = .ok (.ldc2_w 300, 3) := by decide +kernel
theorem dX11_digest_329 : decode cX11_digest 329 = .ok (.lload_n 1, 1) := by decide +kernel
theorem dX11_digest_330 : decode cX11_digest 330 = .ok (.lmul, 1) := by decide +kernel
theorem dX11_digest_331 : decode cX11_digest 331 = .ok (.aload_n 0, 1) := by decide +kernel
theorem dX11_digest_332 : decode cX11_digest 332 = .ok (.iload_n 3, 1) := by decide +kernel
theorem dX11_digest_333 : decode cX11_digest 333 = .ok (.invokevirtual 342, 3) := by decide +kernel
theorem dX11_digest_336 : decode cX11_digest 336 = .ok (.i2l, 1) := by decide +kernel
theorem dX11_digest_337 : decode cX11_digest 337 = .ok (.ladd, 1) := by decide +kernel
theorem dX11_digest_338 : decode cX11_digest 338 = .ok (.lstore_n 1, 1) := by decide +kernel
theorem dX11_digest_339 : decode cX11_digest 339 = .ok (.iinc 3 1, 3) := by decide +kernel
theorem dX11_digest_342 : decode cX11_digest 342 = .ok (.goto (-109), 3) := by decide +kernel
theorem dX11_digest_345 : decode cX11_digest 345 = .ok (.ldc2_w 300, 3) := by decide +kernel
theorem dX11_digest_348 : decode cX11_digest 348 = .ok (.lload_n 1, 1) := by decide +kernel
theorem dX11_digest_349 : decode cX11_digest 349 = .ok (.lmul, 1) := by decide +kernel
theorem dX11_digest_350 : decode cX11_digest 350 = .ok (.aload_n 0, 1) := by decide +kernel
theorem dX11_digest_351 : decode cX11_digest 351 = .ok (.aload_n 0, 1) := by decide +kernel
theorem dX11_digest_352 : decode cX11_digest 352 = .ok (.getfield 47, 3) := by decide +kernel
theorem dX11_digest_355 : decode cX11_digest 355 = .ok (.invokevirtual 165, 3) := by decide +kernel
theorem dX11_digest_358 : decode cX11_digest 358 = .ok (.invokevirtual 345, 3) := by decide +kernel
theorem dX11_digest_361 : decode cX11_digest 361 = .ok (.i2l, 1) := by decide +kernel
theorem dX11_digest_362 : decode cX11_digest 362 = .ok (.ladd, 1) := by decide +kernel
theorem dX11_digest_363 : decode cX11_digest 363 = .ok (.lstore_n 1, 1) := by decide +kernel
theorem dX11_digest_364 : decode cX11_digest 364 = .ok (.ldc2_w 300, 3) := by decide +kernel
theorem dX11_digest_367 : decode cX11_digest 367 = .ok (.lload_n 1, 1) := by decide +kernel
theorem dX11_digest_368 : decode cX11_digest 368 = .ok (.lmul, 1) := by decide +kernel
theorem dX11_digest_369 : decode cX11_digest 369 = .ok (.aload_n 0, 1) := by decide +kernel
theorem dX11_digest_370 : decode cX11_digest 370 = .ok (.invokevirtual 348, 3) := by decide +kernel
theorem dX11_digest_373 : decode cX11_digest 373 = .ok (.i2l, 1) := by decide +kernel
theorem dX11_digest_374 : decode cX11_digest 374 = .ok (.ladd, 1) := by decide +kernel
theorem dX11_digest_375 : decode cX11_digest 375 = .ok (.lstore_n 1, 1) := by decide +kernel
theorem dX11_digest_376 : decode cX11_digest 376 = .ok (.ldc2_w 300, 3) := by decide +kernel
theorem dX11_digest_379 : decode cX11_digest 379 = .ok (.lload_n 1, 1) := by decide +kernel
theorem dX11_digest_380 : decode cX11_digest 380 = .ok (.lmul, 1) := by decide +kernel
theorem dX11_digest_381 : decode cX11_digest 381 = .ok (.aload_n 0, 1) := by decide +kernel
theorem dX11_digest_382 : decode cX11_digest 382 = .ok (.invokevirtual 351, 3) := by decide +kernel
theorem dX11_digest_385 : decode cX11_digest 385 = .ok (.i2l, 1) := by decide +kernel
theorem dX11_digest_386 : decode cX11_digest 386 = .ok (.ladd, 1) := by decide +kernel
theorem dX11_digest_387 : decode cX11_digest 387 = .ok (.lreturn, 1) := by decide +kernel
theorem dX11_isWithin_0 : decode cX11_isWithin 0 = .ok (.iload_n 0, 1) := by decide +kernel
theorem dX11_isWithin_1 : decode cX11_isWithin 1 = .ok (.iload_n 1, 1) := by decide +kernel
theorem dX11_isWithin_2 : decode cX11_isWithin 2 = .ok (.if_icmp .lt 12, 3) := by decide +kernel
theorem dX11_isWithin_5 : decode cX11_isWithin 5 = .ok (.iload_n 0, 1) := by decide +kernel
theorem dX11_isWithin_6 : decode cX11_isWithin 6 = .ok (.iload_n 2, 1) := by decide +kernel
theorem dX11_isWithin_7 : decode cX11_isWithin 7 = .ok (.if_icmp .gt 7, 3) := by decide +kernel
theorem dX11_isWithin_10 : decode cX11_isWithin 10 = .ok (.iconst 1, 1) := by decide +kernel
theorem dX11_isWithin_11 : decode cX11_isWithin 11 = .ok (.goto 4, 3) := by decide +kernel
theorem dX11_isWithin_14 : decode cX11_isWithin 14 = .ok (.iconst 0, 1) := by decide +kernel
theorem dX11_isWithin_15 : decode cX11_isWithin 15 = .ok (.ireturn, 1) := by decide +kernel
theorem dX11_isHour_0 : decode cX11_isHour 0 = .ok (.iload_n 0, 1) := by decide +kernel
theorem dX11_isHour_1 : decode cX11_isHour 1 = .ok (.bipush 6, 2) := by decide +kernel
theorem dX11_isHour_3 : decode cX11_isHour 3 = .ok (.bipush 18, 2) := by decide +kernel
theorem dX11_isHour_5 : decode cX11_isHour 5 = .ok (.invokestatic 98, 3) := by decide +kernel
theorem dX11_isHour_8 : decode cX11_isHour 8 = .ok (.ireturn, 1) := by decide +kernel
theorem dX11_isPersonNumber_0 : decode cX11_isPersonNumber 0 = .ok (.iload_n 0, 1) := by decide +kernel
theorem dX11_isPersonNumber_1 : decode cX11_isPersonNumber 1 = .ok (.iconst 0, 1) := by decide +kernel
theorem dX11_isPersonNumber_2 : decode cX11_isPersonNumber 2 = .ok (.bipush 11, 2) := by decide +kernel
theorem dX11_isPersonNumber_4 : decode cX11_isPersonNumber 4 = .ok (.invokestatic 98, 3) := by decide +kernel
theorem dX11_isPersonNumber_7 : decode cX11_isPersonNumber 7 = .ok (.ireturn, 1) := by decide +kernel
theorem dX11_isForm_0 : decode cX11_isForm 0 = .ok (.iload_n 0, 1) := by decide +kernel
theorem dX11_isForm_1 : decode cX11_isForm 1 = .ok (.iconst 0, 1) := by decide +kernel
theorem dX11_isForm_2 : decode cX11_isForm 2 = .ok (.iconst 2, 1) := by decide +kernel
theorem dX11_isForm_3 : decode cX11_isForm 3 = .ok (.invokestatic 98, 3) := by decide +kernel
theorem dX11_isForm_6 : decode cX11_isForm 6 = .ok (.ireturn, 1) := by decide +kernel
theorem dX11_mayBeWedding_0 : decode cX11_mayBeWedding 0 = .ok (.iload_n 0, 1) := by decide +kernel
theorem dX11_mayBeWedding_1 : decode cX11_mayBeWedding 1 = .ok (.invokestatic 168, 3) := by decide +kernel
theorem dX11_mayBeWedding_4 : decode cX11_mayBeWedding 4 = .ok (.ifCond .eq 21, 3) := by decide +kernel
theorem dX11_mayBeWedding_7 : decode cX11_mayBeWedding 7 = .ok (.iload_n 1, 1) := by decide +kernel
theorem dX11_mayBeWedding_8 : decode cX11_mayBeWedding 8 = .ok (.invokestatic 168, 3) := by decide +kernel
theorem dX11_mayBeWedding_11 : decode cX11_mayBeWedding 11 = .ok (.ifCond .eq 14, 3) := by decide +kernel
theorem dX11_mayBeWedding_14 : decode cX11_mayBeWedding 14 = .ok (.iload_n 2, 1) := by decide +kernel
theorem dX11_mayBeWedding_15 : decode cX11_mayBeWedding 15 = .ok (.invokestatic 140, 3) := by decide +kernel
theorem dX11_mayBeWedding_18 : decode cX11_mayBeWedding 18 = .ok (.ifCond .eq 7, 3) := by decide +kernel
theorem dX11_mayBeWedding_21 : decode cX11_mayBeWedding 21 = .ok (.iconst 1, 1) := by decide +kernel
theorem dX11_mayBeWedding_22 : decode cX11_mayBeWedding 22 = .ok (.goto 4, 3) := by decide +kernel
theorem dX11_mayBeWedding_25 : decode cX11_mayBeWedding 25 = .ok (.iconst 0, 1) := by decide +kernel
theorem dX11_mayBeWedding_26 : decode cX11_mayBeWedding 26 = .ok (.ireturn, 1) := by decide +kernel
theorem dX11_mayBeBehind_0 : decode cX11_mayBeBehind 0 = .ok (.iload_n 1, 1) := by decide +kernel
theorem dX11_mayBeBehind_1 : decode cX11_mayBeBehind 1 = .ok (.iconst 0, 1) := by decide +kernel
theorem dX11_mayBeBehind_2 : decode cX11_mayBeBehind 2 = .ok (.aload_n 0, 1) := by decide +kernel
theorem dX11_mayBeBehind_3 : decode cX11_mayBeBehind 3 = .ok (.getfield 47, 3) := by decide +kernel
theorem dX11_mayBeBehind_6 : decode cX11_mayBeBehind 6 = .ok (.invokevirtual 165, 3) := by decide +kernel
theorem dX11_mayBeBehind_9 : decode cX11_mayBeBehind 9 = .ok (.invokestatic 98, 3) := by decide +kernel
theorem dX11_mayBeBehind_12 : decode cX11_mayBeBehind 12 = .ok (.ireturn, 1) := by decide +kernel
theorem dX11_textAt_0 : decode cX11_textAt 0 = .ok (.iload_n 1, 1) := by decide +kernel
theorem dX11_textAt_1 : decode cX11_textAt 1 = .ok (.ifCond .ne 8, 3) := by decide +kernel
theorem dX11_textAt_4 : decode cX11_textAt 4 = .ok (.aload_n 0, 1) := by decide +kernel
theorem dX11_textAt_5 : decode cX11_textAt 5 = .ok (.getfield 16, 3) := by decide +kernel
theorem dX11_textAt_8 : decode cX11_textAt 8 = .ok (.areturn, 1) := by decide +kernel
theorem dX11_textAt_9 : decode cX11_textAt 9 = .ok (.iload_n 1, 1) := by decide +kernel
theorem dX11_textAt_10 : decode cX11_textAt 10 = .ok (.iconst 1, 1) := by decide +kernel
theorem dX11_textAt_11 : decode cX11_textAt 11 = .ok (.if_icmp .ne 10, 3) := by decide +kernel
theorem dX11_textAt_14 : decode cX11_textAt 14 = .ok (.aload_n 0, 1) := by decide +kernel
theorem dX11_textAt_15 : decode cX11_textAt 15 = .ok (.getfield 20, 3) := by decide +kernel
theorem dX11_textAt_18 : decode cX11_textAt 18 = .ok (.goto 4, 3) := by decide +kernel
theorem dX11_textAt_21 : decode cX11_textAt 21 = .ok (.aconst_null, 1) := by decide +kernel
theorem dX11_textAt_22 : decode cX11_textAt 22 = .ok (.areturn, 1) := by decide +kernel
theorem dX11_sheetAt_0 : decode cX11_sheetAt 0 = .ok (.iload_n 1, 1) := by decide +kernel
theorem dX11_sheetAt_1 : decode cX11_sheetAt 1 = .ok (.iconst 0, 1) := by decide +kernel
theorem dX11_sheetAt_2 : decode cX11_sheetAt 2 = .ok (.iconst 3, 1) := by decide +kernel
theorem dX11_sheetAt_3 : decode cX11_sheetAt 3 = .ok (.invokestatic 98, 3) := by decide +kernel
theorem dX11_sheetAt_6 : decode cX11_sheetAt 6 = .ok (.ifCond .eq 12, 3) := by decide +kernel
theorem dX11_sheetAt_9 : decode cX11_sheetAt 9 = .ok (.aload_n 0, 1) := by decide +kernel
theorem dX11_sheetAt_10 : decode cX11_sheetAt 10 = .ok (.getfield 85, 3) := by decide +kernel
theorem dX11_sheetAt_13 : decode cX11_sheetAt 13 = .ok (.iload_n 1, 1) := by decide +kernel
theorem dX11_sheetAt_14 : decode cX11_sheetAt 14 = .ok (.aaload, 1) := by decide +kernel
theorem dX11_sheetAt_15 : decode cX11_sheetAt 15 = .ok (.goto 4, 3) := by decide +kernel
theorem dX11_sheetAt_18 : decode cX11_sheetAt 18 = .ok (.aconst_null, 1) := by decide +kernel
theorem dX11_sheetAt_19 : decode cX11_sheetAt 19 = .ok (.areturn, 1) := by decide +kernel
theorem dX11_parseTexts_0 : decode cX11_parseTexts 0 = .ok (.aload_n 0, 1) := by decide +kernel
theorem dX11_parseTexts_1 : decode cX11_parseTexts 1 = .ok (.getfield 26, 3) := by decide +kernel
theorem dX11_parseTexts_4 : decode cX11_parseTexts 4 = .ok (.aload_n 0, 1) := by decide +kernel
theorem dX11_parseTexts_5 : decode cX11_parseTexts 5 = .ok (.getfield 16, 3) := by decide +kernel
theorem dX11_parseTexts_8 : decode cX11_parseTexts 8 = .ok (.invokevirtual 354, 3) := by decide +kernel
theorem dX11_parseTexts_11 : decode cX11_parseTexts 11 = .ok (.aload_n 0, 1) := by decide +kernel
theorem dX11_parseTexts_12 : decode cX11_parseTexts 12 = .ok (.getfield 33, 3) := by decide +kernel
theorem dX11_parseTexts_15 : decode cX11_parseTexts 15 = .ok (.aload_n 0, 1) := by decide +kernel
theorem dX11_parseTexts_16 : decode cX11_parseTexts 16 = .ok (.getfield 20, 3) := by decide +kernel
theorem dX11_parseTexts_19 : decode cX11_parseTexts 19 = .ok (.aload_n 0, 1) := by decide +kernel
theorem dX11_parseTexts_20 : decode cX11_parseTexts 20 = .ok (.getfield 26, 3) := by decide +kernel
theorem dX11_parseTexts_23 : decode cX11_parseTexts 23 = .ok (.invokevirtual 288, 3) := by decide +kernel
theorem dX11_parseTexts_26 : decode cX11_parseTexts 26 = .ok (.invokevirtual 358, 3) := by decide +kernel
theorem dX11_parseTexts_29 : decode cX11_parseTexts 29 = .ok (.return_, 1) := by decide +kernel
theorem dX11_wouldLeave_0 : decode cX11_wouldLeave 0 = .ok (.aload_n 0, 1) := by decide +kernel
theorem dX11_wouldLeave_1 : decode cX11_wouldLeave 1 = .ok (.getfield 56, 3) := by decide +kernel
theorem dX11_wouldLeave_4 : decode cX11_wouldLeave 4 = .ok (.iload_n 1, 1) := by decide +kernel
theorem dX11_wouldLeave_5 : decode cX11_wouldLeave 5 = .ok (.invokevirtual 207, 3) := by decide +kernel
theorem dX11_wouldLeave_8 : decode cX11_wouldLeave 8 = .ok (.istore_n 3, 1) := by decide +kernel
theorem dX11_wouldLeave_9 : decode cX11_wouldLeave 9 = .ok (.aload_n 0, 1) := by decide +kernel
theorem dX11_wouldLeave_10 : decode cX11_wouldLeave 10 = .ok (.getfield 56, 3) := by decide +kernel
theorem dX11_wouldLeave_13 : decode cX11_wouldLeave 13 = .ok (.iload_n 2, 1) := by decide +kernel
theorem dX11_wouldLeave_14 : decode cX11_wouldLeave 14 = .ok (.invokevirtual 207, 3) := by decide +kernel
theorem dX11_wouldLeave_17 : decode cX11_wouldLeave 17 = .ok (.istore 4, 2) := by decide +kernel
theorem dX11_wouldLeave_19 : decode cX11_wouldLeave 19 = .ok (.iload_n 3, 1) := by decide +kernel
theorem dX11_wouldLeave_20 : decode cX11_wouldLeave 20 = .ok (.iconst (-1), 1) := by decide +kernel
theorem dX11_wouldLeave_21 : decode cX11_wouldLeave 21 = .ok (.if_icmp .eq 69, 3) := by decide +kernel
theorem dX11_wouldLeave_24 : decode cX11_wouldLeave 24 = .ok (.iload 4, 2) := by decide +kernel
theorem dX11_wouldLeave_26 : decode cX11_wouldLeave 26 = .ok (.iconst (-1), 1) := by decide +kernel
theorem dX11_wouldLeave_27 : decode cX11_wouldLeave 27 = .ok (.if_icmp .eq 63, 3) := by decide +kernel
theorem dX11_wouldLeave_30 : decode cX11_wouldLeave 30 = .ok (.iload_n 3, 1) := by decide +kernel
theorem dX11_wouldLeave_31 : decode cX11_wouldLeave 31 = .ok (.iload_n 2, 1) := by decide +kernel
theorem dX11_wouldLeave_32 : decode cX11_wouldLeave 32 = .ok (.if_icmp .eq 58, 3) := by decide +kernel
theorem dX11_wouldLeave_35 : decode cX11_wouldLeave 35 = .ok (.aload_n 0, 1) := by decide +kernel
theorem dX11_wouldLeave_36 : decode cX11_wouldLeave 36 = .ok (.getfield 33, 3) := by decide +kernel
theorem dX11_wouldLeave_39 : decode cX11_wouldLeave 39 = .ok (.iload_n 1, 1) := by decide +kernel
theorem dX11_wouldLeave_40 : decode cX11_wouldLeave 40 = .ok (.iload_n 2, 1) := by decide +kernel
theorem dX11_wouldLeave_41 : decode cX11_wouldLeave 41 = .ok (.invokevirtual 361, 3) := by decide +kernel
theorem dX11_wouldLeave_44 : decode cX11_wouldLeave 44 = .ok (.ifCond .eq 46, 3) := by decide +kernel
theorem dX11_wouldLeave_47 : decode cX11_wouldLeave 47 = .ok (.aload_n 0, 1) := by decide +kernel
theorem dX11_wouldLeave_48 : decode cX11_wouldLeave 48 = .ok (.getfield 33, 3) := by decide +kernel
theorem dX11_wouldLeave_51 : decode cX11_wouldLeave 51 = .ok (.iload_n 1, 1) := by decide +kernel
theorem dX11_wouldLeave_52 : decode cX11_wouldLeave 52 = .ok (.invokevirtual 134, 3) := by decide +kernel
theorem dX11_wouldLeave_55 : decode cX11_wouldLeave 55 = .ok (.aload_n 0, 1) := by decide +kernel
theorem dX11_wouldLeave_56 : decode cX11_wouldLeave 56 = .ok (.getfield 33, 3) := by decide +kernel
theorem dX11_wouldLeave_59 : decode cX11_wouldLeave 59 = .ok (.iload 4, 2) := by decide +kernel
theorem dX11_wouldLeave_61 : decode cX11_wouldLeave 61 = .ok (.invokevirtual 134, 3) := by decide +kernel
theorem dX11_wouldLeave_64 : decode cX11_wouldLeave 64 = .ok (.if_icmp .ge 26, 3) := by decide +kernel
theorem dX11_wouldLeave_67 : decode cX11_wouldLeave 67 = .ok (.aload_n 0, 1) := by decide +kernel
theorem dX11_wouldLeave_68 : decode cX11_wouldLeave 68 = .ok (.getfield 33, 3) := by decide +kernel
theorem dX11_wouldLeave_71 : decode cX11_wouldLeave 71 = .ok (.iload_n 2, 1) := by decide +kernel
theorem dX11_wouldLeave_72 : decode cX11_wouldLeave 72 = .ok (.invokevirtual 134, 3) := by decide +kernel
theorem dX11_wouldLeave_75 : decode cX11_wouldLeave 75 = .ok (.aload_n 0, 1) := by decide +kernel
theorem dX11_wouldLeave_76 : decode cX11_wouldLeave 76 = .ok (.getfield 33, 3) := by decide +kernel
theorem dX11_wouldLeave_79 : decode cX11_wouldLeave 79 = .ok (.iload_n 3, 1) := by decide +kernel
theorem dX11_wouldLeave_80 : decode cX11_wouldLeave 80 = .ok (.invokevirtual 134, 3) := by decide +kernel
theorem dX11_wouldLeave_83 : decode cX11_wouldLeave 83 = .ok (.if_icmp .ge 7, 3) := by decide +kernel
theorem dX11_wouldLeave_86 : decode cX11_wouldLeave 86 = .ok (.iconst 1, 1) := by decide +kernel
theorem dX11_wouldLeave_87 : decode cX11_wouldLeave 87 = .ok (.goto 4, 3) := by decide +kernel
theorem dX11_wouldLeave_90 : decode cX11_wouldLeave 90 = .ok (.iconst 0, 1) := by decide +kernel
theorem dX11_wouldLeave_91 : decode cX11_wouldLeave 91 = .ok (.ireturn, 1) := by decide +kernel
theorem dX11_itemRefusal_0 : decode cX11_itemRefusal 0 = .ok (.aload_n 1, 1) := by decide +kernel
theorem dX11_itemRefusal_1 : decode cX11_itemRefusal 1 = .ok (.invokevirtual 175, 3) := by decide +kernel
theorem dX11_itemRefusal_4 : decode cX11_itemRefusal 4 = .ok (.ifCond .eq 9, 3) := by decide +kernel
theorem dX11_itemRefusal_7 : decode cX11_itemRefusal 7 = .ok (.aload_n 0, 1) := by decide +kernel
theorem dX11_itemRefusal_8 : decode cX11_itemRefusal 8 = .ok (.iconst 1, 1) := by decide +kernel
theorem dX11_itemRefusal_9 : decode cX11_itemRefusal 9 = .ok (.invokevirtual 178, 3) := by decide +kernel
theorem dX11_itemRefusal_12 : decode cX11_itemRefusal 12 = .ok (.ireturn, 1) := by decide +kernel
theorem dX11_itemRefusal_13 : decode cX11_itemRefusal 13 = .ok (.aload_n 1, 1) := by decide +kernel
theorem dX11_itemRefusal_14 : decode cX11_itemRefusal 14 = .ok (.invokevirtual 278, 3) := by decide +kernel
theorem dX11_itemRefusal_17 : decode cX11_itemRefusal 17 = .ok (.iload_n 2, 1) := by decide +kernel
theorem dX11_itemRefusal_18 : decode cX11_itemRefusal 18 = .ok (.if_icmp .eq 9, 3) := by decide +kernel
theorem dX11_itemRefusal_21 : decode cX11_itemRefusal 21 = .ok (.aload_n 0, 1) := by decide +kernel
theorem dX11_itemRefusal_22 : decode cX11_itemRefusal 22 = .ok (.iconst 3, 1) := by decide +kernel
theorem dX11_itemRefusal_23 : decode cX11_itemRefusal 23 = .ok (.invokevirtual 178, 3) := by decide +kernel
theorem dX11_itemRefusal_26 : decode cX11_itemRefusal 26 = .ok (.ireturn, 1) := by decide +kernel
theorem dX11_itemRefusal_27 : decode cX11_itemRefusal 27 = .ok (.aload_n 1, 1) := by decide +kernel
theorem dX11_itemRefusal_28 : decode cX11_itemRefusal 28 = .ok (.iload_n 3, 1) := by decide +kernel
theorem dX11_itemRefusal_29 : decode cX11_itemRefusal 29 = .ok (.invokevirtual 364, 3) := by decide +kernel
theorem dX11_itemRefusal_32 : decode cX11_itemRefusal 32 = .ok (.ifCond .eq 7, 3) := by decide +kernel
theorem dX11_itemRefusal_35 : decode cX11_itemRefusal 35 = .ok (.iconst 0, 1) := by decide +kernel
theorem dX11_itemRefusal_36 : decode cX11_itemRefusal 36 = .ok (.goto 8, 3) := by decide +kernel
theorem dX11_itemRefusal_39 : decode cX11_itemRefusal 39 = .ok (.aload_n 0, 1) := by decide +kernel
theorem dX11_itemRefusal_40 : decode cX11_itemRefusal 40 = .ok (.iconst 2, 1) := by decide +kernel
theorem dX11_itemRefusal_41 : decode cX11_itemRefusal 41 = .ok (.invokevirtual 178, 3) := by decide +kernel
theorem dX11_itemRefusal_44 : decode cX11_itemRefusal 44 = .ok (.ireturn, 1) := by decide +kernel
theorem dX11_finding_0 : decode cX11_finding 0 = .ok (.aload_n 0, 1) := by decide +kernel
theorem dX11_finding_1 : decode cX11_finding 1 = .ok (.iload_n 1, 1) := by decide +kernel
theorem dX11_finding_2 : decode cX11_finding 2 = .ok (.putfield 89, 3) := by decide +kernel
theorem dX11_finding_5 : decode cX11_finding 5 = .ok (.bipush (-10), 2) := by decide +kernel
theorem dX11_finding_7 : decode cX11_finding 7 = .ok (.iload_n 1, 1) := by decide +kernel
theorem dX11_finding_8 : decode cX11_finding 8 = .ok (.isub, 1) := by decide +kernel
theorem dX11_finding_9 : decode cX11_finding 9 = .ok (.ireturn, 1) := by decide +kernel
