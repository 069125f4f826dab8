theorem dX0_init_0 : decode cX0_init 0 = .ok (.aload_n 0, 1) := by decide +kernel
theorem dX0_init_1 : decode cX0_init 1 = .ok (.invokespecial 3, 3) := by decide +kernel
theorem dX0_init_4 : decode cX0_init 4 = .ok (.aload_n 0, 1) := by decide +kernel
theorem dX0_init_5 : decode cX0_init 5 = .ok (.bipush 36, 2) := by decide +kernel
theorem dX0_init_7 : decode cX0_init 7 = .ok (.newarray .int, 2) := by decide +kernel
theorem dX0_init_9 : decode cX0_init 9 = .ok (.putfield 9, 3) := by decide +kernel
theorem dX0_init_12 : decode cX0_init 12 = .ok (.aload_n 0, 1) := by decide +kernel
theorem dX0_init_13 : decode cX0_init 13 = .ok (.bipush 36, 2) := by decide +kernel
theorem dX0_init_15 : decode cX0_init 15 = .ok (.newarray .int, 2) := by decide +kernel
theorem dX0_init_17 : decode cX0_init 17 = .ok (.putfield 15, 3) := by decide +kernel
theorem dX0_init_20 : decode cX0_init 20 = .ok (.aload_n 0, 1) := by decide +kernel
theorem dX0_init_21 : decode cX0_init 21 = .ok (.iconst 0, 1) := by decide +kernel
theorem dX0_init_22 : decode cX0_init 22 = .ok (.putfield 18, 3) := by decide +kernel
theorem dX0_init_25 : decode cX0_init 25 = .ok (.aload_n 0, 1) := by decide +kernel
theorem dX0_init_26 : decode cX0_init 26 = .ok (.aload_n 1, 1) := by decide +kernel
theorem dX0_init_27 : decode cX0_init 27 = .ok (.putfield 22, 3) := by decide +kernel
theorem dX0_init_30 : decode cX0_init 30 = .ok (.aload_n 0, 1) := by decide +kernel
theorem dX0_init_31 : decode cX0_init 31 = .ok (.aload_n 2, 1) := by decide +kernel
theorem dX0_init_32 : decode cX0_init 32 = .ok (.putfield 26, 3) := by decide +kernel
theorem dX0_init_35 : decode cX0_init 35 = .ok (.return_, 1) := by decide +kernel
theorem dX0_number_0 : decode cX0_number 0 = .ok (.aload_n 0, 1) := by decide +kernel
theorem dX0_number_1 : decode cX0_number 1 = .ok (.getfield 18, 3) := by decide +kernel
theorem dX0_number_4 : decode cX0_number 4 = .ok (.ireturn, 1) := by decide +kernel
theorem dX0_clear_0 : decode cX0_clear 0 = .ok (.aload_n 0, 1) := by decide +kernel
theorem dX0_clear_1 : decode cX0_clear 1 = .ok (.iconst 0, 1) := by decide +kernel
theorem dX0_clear_2 : decode cX0_clear 2 = .ok (.putfield 18, 3) := by decide +kernel
theorem dX0_clear_5 : decode cX0_clear 5 = .ok (.return_, 1) := by decide +kernel
theorem dX0_gather_0 : decode cX0_gather 0 = .ok (.iconst 0, 1) := by decide +kernel
theorem dX0_gather_1 : decode cX0_gather 1 = .ok (.istore_n 3, 1) := by decide +kernel
theorem dX0_gather_2 : decode cX0_gather 2 = .ok (.iload_n 3, 1) := by decide +kernel
theorem dX0_gather_3 : decode cX0_gather 3 = .ok (.aload_n 0, 1) := by decide +kernel
theorem dX0_gather_4 : decode cX0_gather 4 = .ok (.getfield 26, 3) := by decide +kernel
theorem dX0_gather_7 : decode cX0_gather 7 = .ok (.invokevirtual 30, 3) := by decide +kernel
theorem dX0_gather_10 : decode cX0_gather 10 = .ok (.if_icmp .ge 108, 3) := by decide +kernel
theorem dX0_gather_13 : decode cX0_gather 13 = .ok (.iconst 0, 1) := by decide +kernel
theorem dX0_gather_14 : decode cX0_gather 14 = .ok (.istore 4, 2) := by decide +kernel
theorem dX0_gather_16 : decode cX0_gather 16 = .ok (.iload 4, 2) := by decide +kernel
theorem dX0_gather_18 : decode cX0_gather 18 = .ok (.aload_n 0, 1) := by decide +kernel
theorem dX0_gather_19 : decode cX0_gather 19 = .ok (.getfield 26, 3) := by decide +kernel
theorem dX0_gather_22 : decode cX0_gather 22 = .ok (.invokevirtual 30, 3) := by decide +kernel
theorem dX0_gather_25 : decode cX0_gather 25 = .ok (.if_icmp .ge 87, 3) := by decide +kernel
theorem dX0_gather_28 : decode cX0_gather 28 = .ok (.aload_n 0, 1) := by decide +kernel
theorem dX0_gather_29 : decode cX0_gather 29 = .ok (.getfield 26, 3) := by decide +kernel
theorem dX0_gather_32 : decode cX0_gather 32 = .ok (.iload_n 3, 1) := by decide +kernel
theorem dX0_gather_33 : decode cX0_gather 33 = .ok (.invokevirtual 35, 3) := by decide +kernel
theorem dX0_gather_36 : decode cX0_gather 36 = .ok (.iload_n 1, 1) := by decide +kernel
theorem dX0_gather_37 : decode cX0_gather 37 = .ok (.if_icmp .ne 69, 3) := by decide +kernel
theorem dX0_gather_40 : decode cX0_gather 40 = .ok (.aload_n 0, 1) := by decide +kernel
theorem dX0_gather_41 : decode cX0_gather 41 = .ok (.getfield 26, 3) := by decide +kernel
theorem dX0_gather_44 : decode cX0_gather 44 = .ok (.iload 4, 2) := by decide +kernel
theorem dX0_gather_46 : decode cX0_gather 46 = .ok (.invokevirtual 35, 3) := by decide +kernel
theorem dX0_gather_49 : decode cX0_gather 49 = .ok (.iload_n 2, 1) := by decide +kernel
theorem dX0_gather_50 : decode cX0_gather 50 = .ok (.if_icmp .ne 56, 3) := by decide +kernel
theorem dX0_gather_53 : decode cX0_gather 53 = .ok (.aload_n 0, 1) := by decide +kernel
theorem dX0_gather_54 : decode cX0_gather 54 = .ok (.getfield 22, 3) := by decide +kernel
theorem dX0_gather_57 : decode cX0_gather 57 = .ok (.iload_n 3, 1) := by decide +kernel
theorem dX0_gather_58 : decode cX0_gather 58 = .ok (.iload 4, 2) := by decide +kernel
theorem dX0_gather_60 : decode cX0_gather 60 = .ok (.invokevirtual 39, 3) := by decide +kernel
theorem dX0_gather_63 : decode cX0_gather 63 = .ok (.ifCond .eq 43, 3) := by decide +kernel
theorem dX0_gather_66 : decode cX0_gather 66 = .ok (.aload_n 0, 1) := by decide +kernel
theorem dX0_gather_67 : decode cX0_gather 67 = .ok (.getfield 18, 3) := by decide +kernel
theorem dX0_gather_70 : decode cX0_gather 70 = .ok (.bipush 36, 2) := by decide +kernel
theorem dX0_gather_72 : decode cX0_gather 72 = .ok (.if_icmp .ge 34, 3) := by decide +kernel
theorem dX0_gather_75 : decode cX0_gather 75 = .ok (.aload_n 0, 1) := by decide +kernel
theorem dX0_gather_76 : decode cX0_gather 76 = .ok (.getfield 9, 3) := by decide +kernel
theorem dX0_gather_79 : decode cX0_gather 79 = .ok (.aload_n 0, 1) := by decide +kernel
theorem dX0_gather_80 : decode cX0_gather 80 = .ok (.getfield 18, 3) := by decide +kernel
theorem dX0_gather_83 : decode cX0_gather 83 = .ok (.iload_n 3, 1) := by decide +kernel
theorem dX0_gather_84 : decode cX0_gather 84 = .ok (.iastore, 1) := by decide +kernel
theorem dX0_gather_85 : decode cX0_gather 85 = .ok (.aload_n 0, 1) := by decide +kernel
theorem dX0_gather_86 : decode cX0_gather 86 = .ok (.getfield 15, 3) := by decide +kernel
theorem dX0_gather_89 : decode cX0_gather 89 = .ok (.aload_n 0, 1) := by decide +kernel
theorem dX0_gather_90 : decode cX0_gather 90 = .ok (.getfield 18, 3) := by decide +kernel
theorem dX0_gather_93 : decode cX0_gather 93 = .ok (.iload 4, 2) := by decide +kernel
theorem dX0_gather_95 : decode cX0_gather 95 = .ok (.iastore, 1) := by decide +kernel
theorem dX0_gather_96 : decode cX0_gather 96 = .ok (.aload_n 0, 1) := by decide +kernel
theorem dX0_gather_97 : decode cX0_gather 97 = .ok (.dup, 1) := by decide +kernel
theorem dX0_gather_98 : decode cX0_gather 98 = .ok (.getfield 18, 3) := by decide +kernel
theorem dX0_gather_101 : decode cX0_gather 101 = .ok (.iconst 1, 1) := by decide +kernel
theorem dX0_gather_102 : decode cX0_gather 102 = .ok (.iadd, 1) := by decide +kernel
theorem dX0_gather_103 : decode cX0_gather 103 = .ok (.putfield 18, 3) := by decide +kernel
theorem dX0_gather_106 : decode cX0_gather 106 = .ok (.iinc 4 1, 3) := by decide +kernel
theorem dX0_gather_109 : decode cX0_gather 109 = .ok (.goto (-93), 3) := by decide +kernel
theorem dX0_gather_112 : decode cX0_gather 112 = .ok (.iinc 3 1, 3) := by decide +kernel
theorem dX0_gather_115 : decode cX0_gather 115 = .ok (.goto (-113), 3) := by decide +kernel
theorem dX0_gather_118 : decode cX0_gather 118 = .ok (.return_, 1) := by decide +kernel
theorem dX0_has_0 : decode cX0_has 0 = .ok (.iload_n 1, 1) := by decide +kernel
theorem dX0_has_1 : decode cX0_has 1 = .ok (.ifCond .lt 15, 3) := by decide +kernel
theorem dX0_has_4 : decode cX0_has 4 = .ok (.iload_n 1, 1) := by decide +kernel
theorem dX0_has_5 : decode cX0_has 5 = .ok (.aload_n 0, 1) := by decide +kernel
theorem dX0_has_6 : decode cX0_has 6 = .ok (.getfield 18, 3) := by decide +kernel
theorem dX0_has_9 : decode cX0_has 9 = .ok (.if_icmp .ge 7, 3) := by decide +kernel
theorem dX0_has_12 : decode cX0_has 12 = .ok (.iconst 1, 1) := by decide +kernel
theorem dX0_has_13 : decode cX0_has 13 = .ok (.goto 4, 3) := by decide +kernel
theorem dX0_has_16 : decode cX0_has 16 = .ok (.iconst 0, 1) := by decide +kernel
theorem dX0_has_17 : decode cX0_has 17 = .ok (.ireturn, 1) := by decide +kernel
theorem dX0_oneOf_0 : decode cX0_oneOf 0 = .ok (.aload_n 0, 1) := by decide +kernel
theorem dX0_oneOf_1 : decode cX0_oneOf 1 = .ok (.iload_n 1, 1) := by decide +kernel
theorem dX0_oneOf_2 : decode cX0_oneOf 2 = .ok (.invokevirtual 45, 3) := by decide +kernel
theorem dX0_oneOf_5 : decode cX0_oneOf 5 = .ok (.ifCond .eq 12, 3) := by decide +kernel
theorem dX0_oneOf_8 : decode cX0_oneOf 8 = .ok (.aload_n 0, 1) := by decide +kernel
theorem dX0_oneOf_9 : decode cX0_oneOf 9 = .ok (.getfield 9, 3) := by decide +kernel
theorem dX0_oneOf_12 : decode cX0_oneOf 12 = .ok (.iload_n 1, 1) := by decide +kernel
theorem dX0_oneOf_13 : decode cX0_oneOf 13 = .ok (.iaload, 1) := by decide +kernel
theorem dX0_oneOf_14 : decode cX0_oneOf 14 = .ok (.goto 4, 3) := by decide +kernel
theorem dX0_oneOf_17 : decode cX0_oneOf 17 = .ok (.iconst (-1), 1) := by decide +kernel
theorem dX0_oneOf_18 : decode cX0_oneOf 18 = .ok (.ireturn, 1) := by decide +kernel
theorem dX0_otherOf_0 : decode cX0_otherOf 0 = .ok (.aload_n 0, 1) := by decide +kernel
theorem dX0_otherOf_1 : decode cX0_otherOf 1 = .ok (.iload_n 1, 1) := by decide +kernel
theorem dX0_otherOf_2 : decode cX0_otherOf 2 = .ok (.invokevirtual 45, 3) := by decide +kernel
theorem dX0_otherOf_5 : decode cX0_otherOf 5 = .ok (.ifCond .eq 12, 3) := by decide +kernel
theorem dX0_otherOf_8 : decode cX0_otherOf 8 = .ok (.aload_n 0, 1) := by decide +kernel
theorem dX0_otherOf_9 : decode cX0_otherOf 9 = .ok (.getfield 15, 3) := by decide +kernel
theorem dX0_otherOf_12 : decode cX0_otherOf 12 = .ok (.iload_n 1, 1) := by decide +kernel
theorem dX0_otherOf_13 : decode cX0_otherOf 13 = .ok (.iaload, 1) := by decide +kernel
theorem dX0_otherOf_14 : decode cX0_otherOf 14 = .ok (.goto 4, 3) := by decide +kernel
theorem dX0_otherOf_17 : decode cX0_otherOf 17 = .ok (.iconst (-1), 1) := by decide +kernel
theorem dX0_otherOf_18 : decode cX0_otherOf 18 = .ok (.ireturn, 1) := by decide +kernel
theorem dX0_bitsOf_0 : decode cX0_bitsOf 0 = .ok (.aload_n 0, 1) := by decide +kernel
theorem dX0_bitsOf_1 : decode cX0_bitsOf 1 = .ok (.iload_n 1, 1) := by decide +kernel
theorem dX0_bitsOf_2 : decode cX0_bitsOf 2 = .ok (.invokevirtual 45, 3) := by decide +kernel
theorem dX0_bitsOf_5 : decode cX0_bitsOf 5 = .ok (.ifCond .eq 23, 3) := by decide +kernel
theorem dX0_bitsOf_8 : decode cX0_bitsOf 8 = .ok (.iconst 1, 1) := by decide +kernel
theorem dX0_bitsOf_9 : decode cX0_bitsOf 9 = .ok (.aload_n 0, 1) := by decide +kernel
theorem dX0_bitsOf_10 : decode cX0_bitsOf 10 = .ok (.getfield 9, 3) := by decide +kernel
theorem dX0_bitsOf_13 : decode cX0_bitsOf 13 = .ok (.iload_n 1, 1) := by decide +kernel
theorem dX0_bitsOf_14 : decode cX0_bitsOf 14 = .ok (.iaload, 1) := by decide +kernel
theorem dX0_bitsOf_15 : decode cX0_bitsOf 15 = .ok (.ishl, 1) := by decide +kernel
theorem dX0_bitsOf_16 : decode cX0_bitsOf 16 = .ok (.iconst 1, 1) := by decide +kernel
theorem dX0_bitsOf_17 : decode cX0_bitsOf 17 = .ok (.aload_n 0, 1) := by decide +kernel
theorem dX0_bitsOf_18 : decode cX0_bitsOf 18 = .ok (.getfield 15, 3) := by decide +kernel
theorem dX0_bitsOf_21 : decode cX0_bitsOf 21 = .ok (.iload_n 1, 1) := by decide +kernel
theorem dX0_bitsOf_22 : decode cX0_bitsOf 22 = .ok (.iaload, 1) := by decide +kernel
theorem dX0_bitsOf_23 : decode cX0_bitsOf 23 = .ok (.ishl, 1) := by decide +kernel
theorem dX0_bitsOf_24 : decode cX0_bitsOf 24 = .ok (.ior, 1) := by decide +kernel
theorem dX0_bitsOf_25 : decode cX0_bitsOf 25 = .ok (.goto 4, 3) := by decide +kernel
theorem dX0_bitsOf_28 : decode cX0_bitsOf 28 = .ok (.iconst 0, 1) := by decide +kernel
theorem dX0_bitsOf_29 : decode cX0_bitsOf 29 = .ok (.ireturn, 1) := by decide +kernel
theorem dX0_differenceOf_0 : decode cX0_differenceOf 0 = .ok (.aload_n 0, 1) := by decide +kernel
theorem dX0_differenceOf_1 : decode cX0_differenceOf 1 = .ok (.getfield 26, 3) := by decide +kernel
theorem dX0_differenceOf_4 : decode cX0_differenceOf 4 = .ok (.aload_n 0, 1) := by decide +kernel
theorem dX0_differenceOf_5 : decode cX0_differenceOf 5 = .ok (.iload_n 1, 1) := by decide +kernel
theorem dX0_differenceOf_6 : decode cX0_differenceOf 6 = .ok (.invokevirtual 49, 3) := by decide +kernel
theorem dX0_differenceOf_9 : decode cX0_differenceOf 9 = .ok (.bipush 6, 2) := by decide +kernel
theorem dX0_differenceOf_11 : decode cX0_differenceOf 11 = .ok (.invokevirtual 52, 3) := by decide +kernel
theorem dX0_differenceOf_14 : decode cX0_differenceOf 14 = .ok (.aload_n 0, 1) := by decide +kernel
theorem dX0_differenceOf_15 : decode cX0_differenceOf 15 = .ok (.getfield 26, 3) := by decide +kernel
theorem dX0_differenceOf_18 : decode cX0_differenceOf 18 = .ok (.aload_n 0, 1) := by decide +kernel
theorem dX0_differenceOf_19 : decode cX0_differenceOf 19 = .ok (.iload_n 1, 1) := by decide +kernel
theorem dX0_differenceOf_20 : decode cX0_differenceOf 20 = .ok (.invokevirtual 56, 3) := by decide +kernel
theorem dX0_differenceOf_23 : decode cX0_differenceOf 23 = .ok (.bipush 6, 2) := by decide +kernel
theorem dX0_differenceOf_25 : decode cX0_differenceOf 25 = .ok (.invokevirtual 52, 3) := by decide +kernel
theorem dX0_differenceOf_28 : decode cX0_differenceOf 28 = .ok (.isub, 1) := by decide +kernel
theorem dX0_differenceOf_29 : decode cX0_differenceOf 29 = .ok (.ireturn, 1) := by decide +kernel
theorem dX1_init_0 : decode cX1_init 0 = .ok (.aload_n 0, 1) := by decide +kernel
theorem dX1_init_1 : decode cX1_init 1 = .ok (.invokespecial 3, 3) := by decide +kernel
theorem dX1_init_4 : decode cX1_init 4 = .ok (.aload_n 0, 1) := by decide +kernel
theorem dX1_init_5 : decode cX1_init 5 = .ok (.bipush 36, 2) := by decide +kernel
theorem dX1_init_7 : decode cX1_init 7 = .ok (.newarray .int, 2) := by decide +kernel
theorem dX1_init_9 : decode cX1_init 9 = .ok (.putfield 9, 3) := by decide +kernel
theorem dX1_init_12 : decode cX1_init 12 = .ok (.aload_n 0, 1) := by decide +kernel
theorem dX1_init_13 : decode cX1_init 13 = .ok (.bipush 36, 2) := by decide +kernel
theorem dX1_init_15 : decode cX1_init 15 = .ok (.newarray .int, 2) := by decide +kernel
theorem dX1_init_17 : decode cX1_init 17 = .ok (.putfield 15, 3) := by decide +kernel
theorem dX1_init_20 : decode cX1_init 20 = .ok (.aload_n 0, 1) := by decide +kernel
theorem dX1_init_21 : decode cX1_init 21 = .ok (.bipush 7, 2) := by decide +kernel
theorem dX1_init_23 : decode cX1_init 23 = .ok (.newarray .int, 2) := by decide +kernel
theorem dX1_init_25 : decode cX1_init 25 = .ok (.putfield 18, 3) := by decide +kernel
theorem dX1_init_28 : decode cX1_init 28 = .ok (.aload_n 0, 1) := by decide +kernel
theorem dX1_init_29 : decode cX1_init 29 = .ok (.iconst 0, 1) := by decide +kernel
theorem dX1_init_30 : decode cX1_init 30 = .ok (.putfield 21, 3) := by decide +kernel
theorem dX1_init_33 : decode cX1_init 33 = .ok (.aload_n 0, 1) := by decide +kernel
theorem dX1_init_34 : decode cX1_init 34 = .ok (.iconst 0, 1) := by decide +kernel
theorem dX1_init_35 : decode cX1_init 35 = .ok (.putfield 25, 3) := by decide +kernel
theorem dX1_init_38 : decode cX1_init 38 = .ok (.aload_n 0, 1) := by decide +kernel
theorem dX1_init_39 : decode cX1_init 39 = .ok (.iconst 0, 1) := by decide +kernel
theorem dX1_init_40 : decode cX1_init 40 = .ok (.putfield 28, 3) := by decide +kernel
theorem dX1_init_43 : decode cX1_init 43 = .ok (.aload_n 0, 1) := by decide +kernel
theorem dX1_init_44 : decode cX1_init 44 = .ok (.iconst 0, 1) := by decide +kernel
theorem dX1_init_45 : decode cX1_init 45 = .ok (.putfield 31, 3) := by decide +kernel
theorem dX1_init_48 : decode cX1_init 48 = .ok (.aload_n 0, 1) := by decide +kernel
theorem dX1_init_49 : decode cX1_init 49 = .ok (.iconst 0, 1) := by decide +kernel
theorem dX1_init_50 : decode cX1_init 50 = .ok (.putfield 34, 3) := by decide +kernel
theorem dX1_init_53 : decode cX1_init 53 = .ok (.aload_n 0, 1) := by decide +kernel
theorem dX1_init_54 : decode cX1_init 54 = .ok (.aload_n 1, 1) := by decide +kernel
theorem dX1_init_55 : decode cX1_init 55 = .ok (.putfield 37, 3) := by decide +kernel
theorem dX1_init_58 : decode cX1_init 58 = .ok (.aload_n 0, 1) := by decide +kernel
theorem dX1_init_59 : decode cX1_init 59 = .ok (.new 41, 3) := by decide +kernel
theorem dX1_init_62 : decode cX1_init 62 = .ok (.dup, 1) := by decide +kernel
theorem dX1_init_63 : decode cX1_init 63 = .ok (.aload_n 1, 1) := by decide +kernel
theorem dX1_init_64 : decode cX1_init 64 = .ok (.aload_n 2, 1) := by decide +kernel
theorem dX1_init_65 : decode cX1_init 65 = .ok (.invokespecial 43, 3) := by decide +kernel
theorem dX1_init_68 : decode cX1_init 68 = .ok (.putfield 46, 3) := by decide +kernel
theorem dX1_init_71 : decode cX1_init 71 = .ok (.return_, 1) := by decide +kernel
theorem dX1_fewestFor_0 : decode cX1_fewestFor 0 = .ok (.aload_n 0, 1) := by decide +kernel
theorem dX1_fewestFor_1 : decode cX1_fewestFor 1 = .ok (.iload_n 1, 1) := by decide +kernel
theorem dX1_fewestFor_2 : decode cX1_fewestFor 2 = .ok (.bipush 6, 2) := by decide +kernel
theorem dX1_fewestFor_4 : decode cX1_fewestFor 4 = .ok (.invokevirtual 50, 3) := by decide +kernel
theorem dX1_fewestFor_7 : decode cX1_fewestFor 7 = .ok (.iconst 0, 1) := by decide +kernel
theorem dX1_fewestFor_8 : decode cX1_fewestFor 8 = .ok (.istore_n 3, 1) := by decide +kernel
theorem dX1_fewestFor_9 : decode cX1_fewestFor 9 = .ok (.iload_n 3, 1) := by decide +kernel
theorem dX1_fewestFor_10 : decode cX1_fewestFor 10 = .ok (.bipush 6, 2) := by decide +kernel
theorem dX1_fewestFor_12 : decode cX1_fewestFor 12 = .ok (.if_icmp .gt 21, 3) := by decide +kernel
theorem dX1_fewestFor_15 : decode cX1_fewestFor 15 = .ok (.aload_n 0, 1) := by decide +kernel
theorem dX1_fewestFor_16 : decode cX1_fewestFor 16 = .ok (.getfield 18, 3) := by decide +kernel
theorem dX1_fewestFor_19 : decode cX1_fewestFor 19 = .ok (.iload_n 3, 1) := by decide +kernel
theorem dX1_fewestFor_20 : decode cX1_fewestFor 20 = .ok (.iaload, 1) := by decide +kernel
theorem dX1_fewestFor_21 : decode cX1_fewestFor 21 = .ok (.iload_n 2, 1) := by decide +kernel
theorem dX1_fewestFor_22 : decode cX1_fewestFor 22 = .ok (.if_icmp .lt 5, 3) := by decide +kernel
theorem dX1_fewestFor_25 : decode cX1_fewestFor 25 = .ok (.iload_n 3, 1) := by decide +kernel
theorem dX1_fewestFor_26 : decode cX1_fewestFor 26 = .ok (.ireturn, 1) := by decide +kernel
theorem dX1_fewestFor_27 : decode cX1_fewestFor 27 = .ok (.iinc 3 1, 3) := by decide +kernel
theorem dX1_fewestFor_30 : decode cX1_fewestFor 30 = .ok (.goto (-21), 3) := by decide +kernel
theorem dX1_fewestFor_33 : decode cX1_fewestFor 33 = .ok (.iconst (-1), 1) := by decide +kernel
theorem dX1_fewestFor_34 : decode cX1_fewestFor 34 = .ok (.ireturn, 1) := by decide +kernel
theorem dX1_widestBy_0 : decode cX1_widestBy 0 = .ok (.aload_n 0, 1) := by decide +kernel
theorem dX1_widestBy_1 : decode cX1_widestBy 1 = .ok (.iload_n 1, 1) := by decide +kernel
theorem dX1_widestBy_2 : decode cX1_widestBy 2 = .ok (.iload_n 2, 1) := by decide +kernel
theorem dX1_widestBy_3 : decode cX1_widestBy 3 = .ok (.invokevirtual 50, 3) := by decide +kernel
theorem dX1_widestBy_6 : decode cX1_widestBy 6 = .ok (.iconst (-1), 1) := by decide +kernel
theorem dX1_widestBy_7 : decode cX1_widestBy 7 = .ok (.istore_n 3, 1) := by decide +kernel
theorem dX1_widestBy_8 : decode cX1_widestBy 8 = .ok (.aload_n 0, 1) := by decide +kernel
theorem dX1_widestBy_9 : decode cX1_widestBy 9 = .ok (.getfield 18, 3) := by decide +kernel
theorem dX1_widestBy_12 : decode cX1_widestBy 12 = .ok (.astore 4, 2) := by decide +kernel
theorem dX1_widestBy_14 : decode cX1_widestBy 14 = .ok (.aload 4, 2) := by decide +kernel
theorem dX1_widestBy_16 : decode cX1_widestBy 16 = .ok (.arraylength, 1) := by decide +kernel
theorem dX1_widestBy_17 : decode cX1_widestBy 17 = .ok (.istore 5, 2) := by decide +kernel
theorem dX1_widestBy_19 : decode cX1_widestBy 19 = .ok (.iconst 0, 1) := by decide +kernel
theorem dX1_widestBy_20 : decode cX1_widestBy 20 = .ok (.istore 6, 2) := by decide +kernel
theorem dX1_widestBy_22 : decode cX1_widestBy 22 = .ok (.iload 6, 2) := by decide +kernel
theorem dX1_widestBy_24 : decode cX1_widestBy 24 = .ok (.iload 5, 2) := by decide +kernel
theorem dX1_widestBy_26 : decode cX1_widestBy 26 = .ok (.if_icmp .ge 23, 3) := by decide +kernel
theorem dX1_widestBy_29 : decode cX1_widestBy 29 = .ok (.aload 4, 2) := by decide +kernel
theorem dX1_widestBy_31 : decode cX1_widestBy 31 = .ok (.iload 6, 2) := by decide +kernel
theorem dX1_widestBy_33 : decode cX1_widestBy 33 = .ok (.iaload, 1) := by decide +kernel
theorem dX1_widestBy_34 : decode cX1_widestBy 34 = .ok (.istore 7, 2) := by decide +kernel
theorem dX1_widestBy_36 : decode cX1_widestBy 36 = .ok (.iload_n 3, 1) := by decide +kernel
theorem dX1_widestBy_37 : decode cX1_widestBy 37 = .ok (.iload 7, 2) := by decide +kernel
theorem dX1_widestBy_39 : decode cX1_widestBy 39 = .ok (.invokestatic 54, 3) := by decide +kernel
theorem dX1_widestBy_42 : decode cX1_widestBy 42 = .ok (.istore_n 3, 1) := by decide +kernel
theorem dX1_widestBy_43 : decode cX1_widestBy 43 = .ok (.iinc 6 1, 3) := by decide +kernel
theorem dX1_widestBy_46 : decode cX1_widestBy 46 = .ok (.goto (-24), 3) := by decide +kernel
theorem dX1_widestBy_49 : decode cX1_widestBy 49 = .ok (.iload_n 3, 1) := by decide +kernel
theorem dX1_widestBy_50 : decode cX1_widestBy 50 = .ok (.ireturn, 1) := by decide +kernel
theorem dX1_search_0 : decode cX1_search 0 = .ok (.aload_n 0, 1) := by decide +kernel
theorem dX1_search_1 : decode cX1_search 1 = .ok (.aload_n 0, 1) := by decide +kernel
theorem dX1_search_2 : decode cX1_search 2 = .ok (.getfield 37, 3) := by decide +kernel
theorem dX1_search_5 : decode cX1_search 5 = .ok (.iload_n 1, 1) := by decide +kernel
theorem dX1_search_6 : decode cX1_search 6 = .ok (.invokevirtual 60, 3) := by decide +kernel
theorem dX1_search_9 : decode cX1_search 9 = .ok (.putfield 21, 3) := by decide +kernel
theorem dX1_search_12 : decode cX1_search 12 = .ok (.aload_n 0, 1) := by decide +kernel
theorem dX1_search_13 : decode cX1_search 13 = .ok (.aload_n 0, 1) := by decide +kernel
theorem dX1_search_14 : decode cX1_search 14 = .ok (.getfield 37, 3) := by decide +kernel
theorem dX1_search_17 : decode cX1_search 17 = .ok (.iload_n 1, 1) := by decide +kernel
theorem dX1_search_18 : decode cX1_search 18 = .ok (.iconst 1, 1) := by decide +kernel
theorem dX1_search_19 : decode cX1_search 19 = .ok (.isub, 1) := by decide +kernel
theorem dX1_search_20 : decode cX1_search 20 = .ok (.invokevirtual 60, 3) := by decide +kernel
theorem dX1_search_23 : decode cX1_search 23 = .ok (.putfield 25, 3) := by decide +kernel
theorem dX1_search_26 : decode cX1_search 26 = .ok (.aload_n 0, 1) := by decide +kernel
theorem dX1_search_27 : decode cX1_search 27 = .ok (.aload_n 0, 1) := by decide +kernel
theorem dX1_search_28 : decode cX1_search 28 = .ok (.getfield 37, 3) := by decide +kernel
theorem dX1_search_31 : decode cX1_search 31 = .ok (.iload_n 1, 1) := by decide +kernel
theorem dX1_search_32 : decode cX1_search 32 = .ok (.iconst 1, 1) := by decide +kernel
theorem dX1_search_33 : decode cX1_search 33 = .ok (.iadd, 1) := by decide +kernel
theorem dX1_search_34 : decode cX1_search 34 = .ok (.invokevirtual 60, 3) := by decide +kernel
theorem dX1_search_37 : decode cX1_search 37 = .ok (.putfield 28, 3) := by decide +kernel
theorem dX1_search_40 : decode cX1_search 40 = .ok (.aload_n 0, 1) := by decide +kernel
theorem dX1_search_41 : decode cX1_search 41 = .ok (.iload_n 2, 1) := by decide +kernel
theorem dX1_search_42 : decode cX1_search 42 = .ok (.bipush 6, 2) := by decide +kernel
theorem dX1_search_44 : decode cX1_search 44 = .ok (.invokestatic 66, 3) := by decide +kernel
theorem dX1_search_47 : decode cX1_search 47 = .ok (.putfield 34, 3) := by decide +kernel
theorem dX1_search_50 : decode cX1_search 50 = .ok (.aload_n 0, 1) := by decide +kernel
theorem dX1_search_51 : decode cX1_search 51 = .ok (.getfield 46, 3) := by decide +kernel
theorem dX1_search_54 : decode cX1_search 54 = .ok (.invokevirtual 69, 3) := by decide +kernel
theorem dX1_search_57 : decode cX1_search 57 = .ok (.aload_n 0, 1) := by decide +kernel
theorem dX1_search_58 : decode cX1_search 58 = .ok (.getfield 46, 3) := by decide +kernel
theorem dX1_search_61 : decode cX1_search 61 = .ok (.iload_n 1, 1) := by decide +kernel
theorem dX1_search_62 : decode cX1_search 62 = .ok (.iload_n 1, 1) := by decide +kernel
theorem dX1_search_63 : decode cX1_search 63 = .ok (.iconst 1, 1) := by decide +kernel
theorem dX1_search_64 : decode cX1_search 64 = .ok (.isub, 1) := by decide +kernel
theorem dX1_search_65 : decode cX1_search 65 = .ok (.invokevirtual 72, 3) := by decide +kernel
theorem dX1_search_68 : decode cX1_search 68 = .ok (.aload_n 0, 1) := by decide +kernel
theorem dX1_search_69 : decode cX1_search 69 = .ok (.aload_n 0, 1) := by decide +kernel
theorem dX1_search_70 : decode cX1_search 70 = .ok (.getfield 46, 3) := by decide +kernel
theorem dX1_search_73 : decode cX1_search 73 = .ok (.invokevirtual 75, 3) := by decide +kernel
theorem dX1_search_76 : decode cX1_search 76 = .ok (.putfield 31, 3) := by decide +kernel
theorem dX1_search_79 : decode cX1_search 79 = .ok (.aload_n 0, 1) := by decide +kernel
theorem dX1_search_80 : decode cX1_search 80 = .ok (.getfield 46, 3) := by decide +kernel
theorem dX1_search_83 : decode cX1_search 83 = .ok (.iload_n 1, 1) := by decide +kernel
theorem dX1_search_84 : decode cX1_search 84 = .ok (.iload_n 1, 1) := by decide +kernel
theorem dX1_search_85 : decode cX1_search 85 = .ok (.iconst 1, 1) := by decide +kernel
theorem dX1_search_86 : decode cX1_search 86 = .ok (.iadd, 1) := by decide +kernel
theorem dX1_search_87 : decode cX1_search 87 = .ok (.invokevirtual 72, 3) := by decide +kernel
theorem dX1_search_90 : decode cX1_search 90 = .ok (.iconst 0, 1) := by decide +kernel
theorem dX1_search_91 : decode cX1_search 91 = .ok (.istore_n 3, 1) := by decide +kernel
theorem dX1_search_92 : decode cX1_search 92 = .ok (.iload_n 3, 1) := by decide +kernel
theorem dX1_search_93 : decode cX1_search 93 = .ok (.aload_n 0, 1) := by decide +kernel
theorem dX1_search_94 : decode cX1_search 94 = .ok (.getfield 46, 3) := by decide +kernel
theorem dX1_search_97 : decode cX1_search 97 = .ok (.invokevirtual 75, 3) := by decide +kernel
theorem dX1_search_100 : decode cX1_search 100 = .ok (.if_icmp .ge 43, 3) := by decide +kernel
theorem dX1_search_103 : decode cX1_search 103 = .ok (.iload_n 3, 1) := by decide +kernel
theorem dX1_search_104 : decode cX1_search 104 = .ok (.bipush 36, 2) := by decide +kernel
theorem dX1_search_106 : decode cX1_search 106 = .ok (.if_icmp .ge 37, 3) := by decide +kernel
theorem dX1_search_109 : decode cX1_search 109 = .ok (.aload_n 0, 1) := by decide +kernel
theorem dX1_search_110 : decode cX1_search 110 = .ok (.getfield 9, 3) := by decide +kernel
theorem dX1_search_113 : decode cX1_search 113 = .ok (.iload_n 3, 1) := by decide +kernel
theorem dX1_search_114 : decode cX1_search 114 = .ok (.aload_n 0, 1) := by decide +kernel
theorem dX1_search_115 : decode cX1_search 115 = .ok (.getfield 46, 3) := by decide +kernel
theorem dX1_search_118 : decode cX1_search 118 = .ok (.iload_n 3, 1) := by decide +kernel
theorem dX1_search_119 : decode cX1_search 119 = .ok (.invokevirtual 79, 3) := by decide +kernel
theorem dX1_search_122 : decode cX1_search 122 = .ok (.iastore, 1) := by decide +kernel
theorem dX1_search_123 : decode cX1_search 123 = .ok (.aload_n 0, 1) := by decide +kernel
theorem dX1_search_124 : decode cX1_search 124 = .ok (.getfield 15, 3) := by decide +kernel
theorem dX1_search_127 : decode cX1_search 127 = .ok (.iload_n 3, 1) := by decide +kernel
theorem dX1_search_128 : decode cX1_search 128 = .ok (.aload_n 0, 1) := by decide +kernel
theorem dX1_search_129 : decode cX1_search 129 = .ok (.getfield 46, 3) := by decide +kernel
theorem dX1_search_132 : decode cX1_search 132 = .ok (.iload_n 3, 1) := by decide +kernel
theorem dX1_search_133 : decode cX1_search 133 = .ok (.invokevirtual 82, 3) := by decide +kernel
theorem dX1_search_136 : decode cX1_search 136 = .ok (.iastore, 1) := by decide +kernel
theorem dX1_search_137 : decode cX1_search 137 = .ok (.iinc 3 1, 3) := by decide +kernel
theorem dX1_search_140 : decode cX1_search 140 = .ok (.goto (-48), 3) := by decide +kernel
theorem dX1_search_143 : decode cX1_search 143 = .ok (.aload_n 0, 1) := by decide +kernel
theorem dX1_search_144 : decode cX1_search 144 = .ok (.getfield 18, 3) := by decide +kernel
theorem dX1_search_147 : decode cX1_search 147 = .ok (.iconst (-1), 1) := by decide +kernel
theorem dX1_search_148 : decode cX1_search 148 = .ok (.invokestatic 85, 3) := by decide +kernel
theorem dX1_search_151 : decode cX1_search 151 = .ok (.aload_n 0, 1) := by decide +kernel
theorem dX1_search_152 : decode cX1_search 152 = .ok (.iconst 0, 1) := by decide +kernel
theorem dX1_search_153 : decode cX1_search 153 = .ok (.iconst 0, 1) := by decide +kernel
theorem dX1_search_154 : decode cX1_search 154 = .ok (.iconst 0, 1) := by decide +kernel
theorem dX1_search_155 : decode cX1_search 155 = .ok (.iconst 0, 1) := by decide +kernel
theorem dX1_search_156 : decode cX1_search 156 = .ok (.iconst 0, 1) := by decide +kernel
theorem dX1_search_157 : decode cX1_search 157 = .ok (.invokestatic 91, 3) := by decide +kernel
theorem dX1_search_160 : decode cX1_search 160 = .ok (.return_, 1) := by decide +kernel
theorem dX1_court_0 : decode cX1_court 0 = .ok (.aload_n 0, 1) := by decide +kernel
theorem dX1_court_1 : decode cX1_court 1 = .ok (.iload_n 2, 1) := by decide +kernel
theorem dX1_court_2 : decode cX1_court 2 = .ok (.iload 4, 2) := by decide +kernel
theorem dX1_court_4 : decode cX1_court 4 = .ok (.iload 5, 2) := by decide +kernel
theorem dX1_court_6 : decode cX1_court 6 = .ok (.invokevirtual 95, 3) := by decide +kernel
theorem dX1_court_9 : decode cX1_court 9 = .ok (.iload_n 2, 1) := by decide +kernel
theorem dX1_court_10 : decode cX1_court 10 = .ok (.aload_n 0, 1) := by decide +kernel
theorem dX1_court_11 : decode cX1_court 11 = .ok (.getfield 34, 3) := by decide +kernel
theorem dX1_court_14 : decode cX1_court 14 = .ok (.if_icmp .ge 14, 3) := by decide +kernel
theorem dX1_court_17 : decode cX1_court 17 = .ok (.aload_n 0, 1) := by decide +kernel
theorem dX1_court_18 : decode cX1_court 18 = .ok (.iload 4, 2) := by decide +kernel
theorem dX1_court_20 : decode cX1_court 20 = .ok (.iload 5, 2) := by decide +kernel
theorem dX1_court_22 : decode cX1_court 22 = .ok (.invokevirtual 99, 3) := by decide +kernel
theorem dX1_court_25 : decode cX1_court 25 = .ok (.ifCond .eq 4, 3) := by decide +kernel
theorem dX1_court_28 : decode cX1_court 28 = .ok (.return_, 1) := by decide +kernel
theorem dX1_court_29 : decode cX1_court 29 = .ok (.aload_n 0, 1) := by decide +kernel
theorem dX1_court_30 : decode cX1_court 30 = .ok (.getfield 46, 3) := by decide +kernel
theorem dX1_court_33 : decode cX1_court 33 = .ok (.invokevirtual 75, 3) := by decide +kernel
theorem dX1_court_36 : decode cX1_court 36 = .ok (.bipush 36, 2) := by decide +kernel
theorem dX1_court_38 : decode cX1_court 38 = .ok (.invokestatic 66, 3) := by decide +kernel
theorem dX1_court_41 : decode cX1_court 41 = .ok (.istore 6, 2) := by decide +kernel
theorem dX1_court_43 : decode cX1_court 43 = .ok (.iload_n 1, 1) := by decide +kernel
theorem dX1_court_44 : decode cX1_court 44 = .ok (.iconst 0, 1) := by decide +kernel
theorem dX1_court_45 : decode cX1_court 45 = .ok (.invokestatic 54, 3) := by decide +kernel
theorem dX1_court_48 : decode cX1_court 48 = .ok (.istore 7, 2) := by decide +kernel
theorem dX1_court_50 : decode cX1_court 50 = .ok (.iload 7, 2) := by decide +kernel
theorem dX1_court_52 : decode cX1_court 52 = .ok (.iload 6, 2) := by decide +kernel
theorem dX1_court_54 : decode cX1_court 54 = .ok (.if_icmp .ge 101, 3) := by decide +kernel
theorem dX1_court_57 : decode cX1_court 57 = .ok (.aload_n 0, 1) := by decide +kernel
theorem dX1_court_58 : decode cX1_court 58 = .ok (.getfield 9, 3) := by decide +kernel
theorem dX1_court_61 : decode cX1_court 61 = .ok (.iload 7, 2) := by decide +kernel
theorem dX1_court_63 : decode cX1_court 63 = .ok (.iaload, 1) := by decide +kernel
theorem dX1_court_64 : decode cX1_court 64 = .ok (.istore 8, 2) := by decide +kernel
theorem dX1_court_66 : decode cX1_court 66 = .ok (.iload 8, 2) := by decide +kernel
theorem dX1_court_68 : decode cX1_court 68 = .ok (.ifCond .le 81, 3) := by decide +kernel
theorem dX1_court_71 : decode cX1_court 71 = .ok (.iload_n 3, 1) := by decide +kernel
theorem dX1_court_72 : decode cX1_court 72 = .ok (.aload_n 0, 1) := by decide +kernel
theorem dX1_court_73 : decode cX1_court 73 = .ok (.getfield 15, 3) := by decide +kernel
theorem dX1_court_76 : decode cX1_court 76 = .ok (.iload 7, 2) := by decide +kernel
theorem dX1_court_78 : decode cX1_court 78 = .ok (.iaload, 1) := by decide +kernel
theorem dX1_court_79 : decode cX1_court 79 = .ok (.iand, 1) := by decide +kernel
theorem dX1_court_80 : decode cX1_court 80 = .ok (.ifCond .ne 69, 3) := by decide +kernel
theorem dX1_court_83 : decode cX1_court 83 = .ok (.iload 7, 2) := by decide +kernel
theorem dX1_court_85 : decode cX1_court 85 = .ok (.aload_n 0, 1) := by decide +kernel
theorem dX1_court_86 : decode cX1_court 86 = .ok (.getfield 31, 3) := by decide +kernel
theorem dX1_court_89 : decode cX1_court 89 = .ok (.if_icmp .lt 7, 3) := by decide +kernel
theorem dX1_court_92 : decode cX1_court 92 = .ok (.iconst 1, 1) := by decide +kernel
theorem dX1_court_93 : decode cX1_court 93 = .ok (.goto 4, 3) := by decide +kernel
theorem dX1_court_96 : decode cX1_court 96 = .ok (.iconst 0, 1) := by decide +kernel
theorem dX1_court_97 : decode cX1_court 97 = .ok (.istore 9, 2) := by decide +kernel
theorem dX1_court_99 : decode cX1_court 99 = .ok (.aload_n 0, 1) := by decide +kernel
theorem dX1_court_100 : decode cX1_court 100 = .ok (.iload 7, 2) := by decide +kernel
theorem dX1_court_102 : decode cX1_court 102 = .ok (.iconst 1, 1) := by decide +kernel
theorem dX1_court_103 : decode cX1_court 103 = .ok (.iadd, 1) := by decide +kernel
theorem dX1_court_104 : decode cX1_court 104 = .ok (.iload_n 2, 1) := by decide +kernel
theorem dX1_court_105 : decode cX1_court 105 = .ok (.iconst 1, 1) := by decide +kernel
theorem dX1_court_106 : decode cX1_court 106 = .ok (.iadd, 1) := by decide +kernel
theorem dX1_court_107 : decode cX1_court 107 = .ok (.iload_n 3, 1) := by decide +kernel
theorem dX1_court_108 : decode cX1_court 108 = .ok (.aload_n 0, 1) := by decide +kernel
theorem dX1_court_109 : decode cX1_court 109 = .ok (.getfield 15, 3) := by decide +kernel
theorem dX1_court_112 : decode cX1_court 112 = .ok (.iload 7, 2) := by decide +kernel
theorem dX1_court_114 : decode cX1_court 114 = .ok (.iaload, 1) := by decide +kernel
theorem dX1_court_115 : decode cX1_court 115 = .ok (.ior, 1) := by decide +kernel
theorem dX1_court_116 : decode cX1_court 116 = .ok (.iload 9, 2) := by decide +kernel
theorem dX1_court_118 : decode cX1_court 118 = .ok (.ifCond .eq 8, 3) := by decide +kernel
theorem dX1_court_121 : decode cX1_court 121 = .ok (.iload 4, 2) := by decide +kernel
theorem dX1_court_123 : decode cX1_court 123 = .ok (.goto 8, 3) := by decide +kernel
theorem dX1_court_126 : decode cX1_court 126 = .ok (.iload 4, 2) := by decide +kernel
theorem dX1_court_128 : decode cX1_court 128 = .ok (.iload 8, 2) := by decide +kernel
theorem dX1_court_130 : decode cX1_court 130 = .ok (.iadd, 1) := by decide +kernel
theorem dX1_court_131 : decode cX1_court 131 = .ok (.iload 9, 2) := by decide +kernel
theorem dX1_court_133 : decode cX1_court 133 = .ok (.ifCond .eq 11, 3) := by decide +kernel
theorem dX1_court_136 : decode cX1_court 136 = .ok (.iload 5, 2) := by decide +kernel
theorem dX1_court_138 : decode cX1_court 138 = .ok (.iload 8, 2) := by decide +kernel
theorem dX1_court_140 : decode cX1_court 140 = .ok (.iadd, 1) := by decide +kernel
theorem dX1_court_141 : decode cX1_court 141 = .ok (.goto 5, 3) := by decide +kernel
theorem dX1_court_144 : decode cX1_court 144 = .ok (.iload 5, 2) := by decide +kernel
theorem dX1_court_146 : decode cX1_court 146 = .ok (.invokestatic 91, 3) := by decide +kernel
theorem dX1_court_149 : decode cX1_court 149 = .ok (.iinc 7 1, 3) := by decide +kernel
theorem dX1_court_152 : decode cX1_court 152 = .ok (.goto (-102), 3) := by decide +kernel
theorem dX1_court_155 : decode cX1_court 155 = .ok (.return_, 1) := by decide +kernel
theorem dX1_hasAll_0 : decode cX1_hasAll 0 = .ok (.iload_n 1, 1) := by decide +kernel
theorem dX1_hasAll_1 : decode cX1_hasAll 1 = .ok (.aload_n 0, 1) := by decide +kernel
theorem dX1_hasAll_2 : decode cX1_hasAll 2 = .ok (.getfield 25, 3) := by decide +kernel
theorem dX1_hasAll_5 : decode cX1_hasAll 5 = .ok (.if_icmp .lt 15, 3) := by decide +kernel
theorem dX1_hasAll_8 : decode cX1_hasAll 8 = .ok (.iload_n 2, 1) := by decide +kernel
theorem dX1_hasAll_9 : decode cX1_hasAll 9 = .ok (.aload_n 0, 1) := by decide +kernel
theorem dX1_hasAll_10 : decode cX1_hasAll 10 = .ok (.getfield 28, 3) := by decide +kernel
theorem dX1_hasAll_13 : decode cX1_hasAll 13 = .ok (.if_icmp .lt 7, 3) := by decide +kernel
theorem dX1_hasAll_16 : decode cX1_hasAll 16 = .ok (.iconst 1, 1) := by decide +kernel
theorem dX1_hasAll_17 : decode cX1_hasAll 17 = .ok (.goto 4, 3) := by decide +kernel
theorem dX1_hasAll_20 : decode cX1_hasAll 20 = .ok (.iconst 0, 1) := by decide +kernel
theorem dX1_hasAll_21 : decode cX1_hasAll 21 = .ok (.ireturn, 1) := by decide +kernel
theorem dX1_note_0 : decode cX1_note 0 = .ok (.aload_n 0, 1) := by decide +kernel
theorem dX1_note_1 : decode cX1_note 1 = .ok (.getfield 21, 3) := by decide +kernel
theorem dX1_note_4 : decode cX1_note 4 = .ok (.iload_n 2, 1) := by decide +kernel
theorem dX1_note_5 : decode cX1_note 5 = .ok (.aload_n 0, 1) := by decide +kernel
theorem dX1_note_6 : decode cX1_note 6 = .ok (.getfield 25, 3) := by decide +kernel
theorem dX1_note_9 : decode cX1_note 9 = .ok (.invokestatic 66, 3) := by decide +kernel
theorem dX1_note_12 : decode cX1_note 12 = .ok (.iadd, 1) := by decide +kernel
theorem dX1_note_13 : decode cX1_note 13 = .ok (.iload_n 3, 1) := by decide +kernel
theorem dX1_note_14 : decode cX1_note 14 = .ok (.aload_n 0, 1) := by decide +kernel
theorem dX1_note_15 : decode cX1_note 15 = .ok (.getfield 28, 3) := by decide +kernel
theorem dX1_note_18 : decode cX1_note 18 = .ok (.invokestatic 66, 3) := by decide +kernel
theorem dX1_note_21 : decode cX1_note 21 = .ok (.iadd, 1) := by decide +kernel
theorem dX1_note_22 : decode cX1_note 22 = .ok (.istore 4, 2) := by decide +kernel
theorem dX1_note_24 : decode cX1_note 24 = .ok (.iload_n 1, 1) := by decide +kernel
theorem dX1_note_25 : decode cX1_note 25 = .ok (.ifCond .lt 26, 3) := by decide +kernel
theorem dX1_note_28 : decode cX1_note 28 = .ok (.iload_n 1, 1) := by decide +kernel
theorem dX1_note_29 : decode cX1_note 29 = .ok (.bipush 6, 2) := by decide +kernel
theorem dX1_note_31 : decode cX1_note 31 = .ok (.if_icmp .gt 20, 3) := by decide +kernel
theorem dX1_note_34 : decode cX1_note 34 = .ok (.aload_n 0, 1) := by decide +kernel
theorem dX1_note_35 : decode cX1_note 35 = .ok (.getfield 18, 3) := by decide +kernel
theorem dX1_note_38 : decode cX1_note 38 = .ok (.iload_n 1, 1) := by decide +kernel
theorem dX1_note_39 : decode cX1_note 39 = .ok (.aload_n 0, 1) := by decide +kernel
theorem dX1_note_40 : decode cX1_note 40 = .ok (.getfield 18, 3) := by decide +kernel
theorem dX1_note_43 : decode cX1_note 43 = .ok (.iload_n 1, 1) := by decide +kernel
theorem dX1_note_44 : decode cX1_note 44 = .ok (.iaload, 1) := by decide +kernel
theorem dX1_note_45 : decode cX1_note 45 = .ok (.iload 4, 2) := by decide +kernel
theorem dX1_note_47 : decode cX1_note 47 = .ok (.invokestatic 54, 3) := by decide +kernel
theorem dX1_note_50 : decode cX1_note 50 = .ok (.iastore, 1) := by decide +kernel
theorem dX1_note_51 : decode cX1_note 51 = .ok (.return_, 1) := by decide +kernel
theorem dX2_init_0 : decode cX2_init 0 = .ok (.aload_n 0, 1) := by decide +kernel
theorem dX2_init_1 : decode cX2_init 1 = .ok (.invokespecial 3, 3) := by decide +kernel
theorem dX2_init_4 : decode cX2_init 4 = .ok (.aload_n 0, 1) := by decide +kernel
theorem dX2_init_5 : decode cX2_init 5 = .ok (.bipush 24, 2) := by decide +kernel
theorem dX2_init_7 : decode cX2_init 7 = .ok (.newarray .int, 2) := by decide +kernel
theorem dX2_init_9 : decode cX2_init 9 = .ok (.putfield 9, 3) := by decide +kernel
theorem dX2_init_12 : decode cX2_init 12 = .ok (.aload_n 0, 1) := by decide +kernel
theorem dX2_init_13 : decode cX2_init 13 = .ok (.bipush 24, 2) := by decide +kernel
theorem dX2_init_15 : decode cX2_init 15 = .ok (.newarray .int, 2) := by decide +kernel
theorem dX2_init_17 : decode cX2_init 17 = .ok (.putfield 15, 3) := by decide +kernel
theorem dX2_init_20 : decode cX2_init 20 = .ok (.aload_n 0, 1) := by decide +kernel
theorem dX2_init_21 : decode cX2_init 21 = .ok (.bipush 24, 2) := by decide +kernel
theorem dX2_init_23 : decode cX2_init 23 = .ok (.newarray .int, 2) := by decide +kernel
theorem dX2_init_25 : decode cX2_init 25 = .ok (.putfield 18, 3) := by decide +kernel
theorem dX2_init_28 : decode cX2_init 28 = .ok (.aload_n 0, 1) := by decide +kernel
theorem dX2_init_29 : decode cX2_init 29 = .ok (.bipush 24, 2) := by decide +kernel
theorem dX2_init_31 : decode cX2_init 31 = .ok (.newarray .int, 2) := by decide +kernel
theorem dX2_init_33 : decode cX2_init 33 = .ok (.putfield 21, 3) := by decide +kernel
theorem dX2_init_36 : decode cX2_init 36 = .ok (.aload_n 0, 1) := by decide +kernel
theorem dX2_init_37 : decode cX2_init 37 = .ok (.bipush 24, 2) := by decide +kernel
theorem dX2_init_39 : decode cX2_init 39 = .ok (.newarray .int, 2) := by decide +kernel
theorem dX2_init_41 : decode cX2_init 41 = .ok (.putfield 24, 3) := by decide +kernel
theorem dX2_init_44 : decode cX2_init 44 = .ok (.aload_n 0, 1) := by decide +kernel
theorem dX2_init_45 : decode cX2_init 45 = .ok (.iconst 0, 1) := by decide +kernel
theorem dX2_init_46 : decode cX2_init 46 = .ok (.putfield 27, 3) := by decide +kernel
theorem dX2_init_49 : decode cX2_init 49 = .ok (.return_, 1) := by decide +kernel
theorem dX2_number_0 : decode cX2_number 0 = .ok (.aload_n 0, 1) := by decide +kernel
theorem dX2_number_1 : decode cX2_number 1 = .ok (.getfield 27, 3) := by decide +kernel
theorem dX2_number_4 : decode cX2_number 4 = .ok (.ireturn, 1) := by decide +kernel
theorem dX2_has_0 : decode cX2_has 0 = .ok (.iload_n 1, 1) := by decide +kernel
theorem dX2_has_1 : decode cX2_has 1 = .ok (.ifCond .lt 15, 3) := by decide +kernel
theorem dX2_has_4 : decode cX2_has 4 = .ok (.iload_n 1, 1) := by decide +kernel
theorem dX2_has_5 : decode cX2_has 5 = .ok (.aload_n 0, 1) := by decide +kernel
theorem dX2_has_6 : decode cX2_has 6 = .ok (.getfield 27, 3) := by decide +kernel
theorem dX2_has_9 : decode cX2_has 9 = .ok (.if_icmp .ge 7, 3) := by decide +kernel
theorem dX2_has_12 : decode cX2_has 12 = .ok (.iconst 1, 1) := by decide +kernel
theorem dX2_has_13 : decode cX2_has 13 = .ok (.goto 4, 3) := by decide +kernel
theorem dX2_has_16 : decode cX2_has 16 = .ok (.iconst 0, 1) := by decide +kernel
theorem dX2_has_17 : decode cX2_has 17 = .ok (.ireturn, 1) := by decide +kernel
theorem dX2_isFull_0 : decode cX2_isFull 0 = .ok (.aload_n 0, 1) := by decide +kernel
theorem dX2_isFull_1 : decode cX2_isFull 1 = .ok (.getfield 27, 3) := by decide +kernel
theorem dX2_isFull_4 : decode cX2_isFull 4 = .ok (.bipush 24, 2) := by decide +kernel
theorem dX2_isFull_6 : decode cX2_isFull 6 = .ok (.if_icmp .lt 7, 3) := by decide +kernel
theorem dX2_isFull_9 : decode cX2_isFull 9 = .ok (.iconst 1, 1) := by decide +kernel
theorem dX2_isFull_10 : decode cX2_isFull 10 = .ok (.goto 4, 3) := by decide +kernel
theorem dX2_isFull_13 : decode cX2_isFull 13 = .ok (.iconst 0, 1) := by decide +kernel
theorem dX2_isFull_14 : decode cX2_isFull 14 = .ok (.ireturn, 1) := by decide +kernel
theorem dX2_mayComeIn_0 : decode cX2_mayComeIn 0 = .ok (.iload_n 1, 1) := by decide +kernel
theorem dX2_mayComeIn_1 : decode cX2_mayComeIn 1 = .ok (.aload_n 0, 1) := by decide +kernel
theorem dX2_mayComeIn_2 : decode cX2_mayComeIn 2 = .ok (.aload_n 0, 1) := by decide +kernel
theorem dX2_mayComeIn_3 : decode cX2_mayComeIn 3 = .ok (.getfield 27, 3) := by decide +kernel
theorem dX2_mayComeIn_6 : decode cX2_mayComeIn 6 = .ok (.iconst 1, 1) := by decide +kernel
theorem dX2_mayComeIn_7 : decode cX2_mayComeIn 7 = .ok (.isub, 1) := by decide +kernel
theorem dX2_mayComeIn_8 : decode cX2_mayComeIn 8 = .ok (.invokevirtual 31, 3) := by decide +kernel
theorem dX2_mayComeIn_11 : decode cX2_mayComeIn 11 = .ok (.iconst 0, 1) := by decide +kernel
theorem dX2_mayComeIn_12 : decode cX2_mayComeIn 12 = .ok (.invokestatic 35, 3) := by decide +kernel
theorem dX2_mayComeIn_15 : decode cX2_mayComeIn 15 = .ok (.bipush 51, 2) := by decide +kernel
theorem dX2_mayComeIn_17 : decode cX2_mayComeIn 17 = .ok (.invokestatic 41, 3) := by decide +kernel
theorem dX2_mayComeIn_20 : decode cX2_mayComeIn 20 = .ok (.ireturn, 1) := by decide +kernel
theorem dX2_add_0 : decode cX2_add 0 = .ok (.aload_n 0, 1) := by decide +kernel
theorem dX2_add_1 : decode cX2_add 1 = .ok (.invokevirtual 45, 3) := by decide +kernel
theorem dX2_add_4 : decode cX2_add 4 = .ok (.ifCond .eq 4, 3) := by decide +kernel
theorem dX2_add_7 : decode cX2_add 7 = .ok (.return_, 1) := by decide +kernel
theorem dX2_add_8 : decode cX2_add 8 = .ok (.aload_n 0, 1) := by decide +kernel
theorem dX2_add_9 : decode cX2_add 9 = .ok (.getfield 9, 3) := by decide +kernel
theorem dX2_add_12 : decode cX2_add 12 = .ok (.aload_n 0, 1) := by decide +kernel
theorem dX2_add_13 : decode cX2_add 13 = .ok (.getfield 27, 3) := by decide +kernel
theorem dX2_add_16 : decode cX2_add 16 = .ok (.iload_n 1, 1) := by decide +kernel
theorem dX2_add_17 : decode cX2_add 17 = .ok (.iastore, 1) := by decide +kernel
theorem dX2_add_18 : decode cX2_add 18 = .ok (.aload_n 0, 1) := by decide +kernel
theorem dX2_add_19 : decode cX2_add 19 = .ok (.getfield 15, 3) := by decide +kernel
theorem dX2_add_22 : decode cX2_add 22 = .ok (.aload_n 0, 1) := by decide +kernel
theorem dX2_add_23 : decode cX2_add 23 = .ok (.getfield 27, 3) := by decide +kernel
theorem dX2_add_26 : decode cX2_add 26 = .ok (.iload_n 2, 1) := by decide +kernel
theorem dX2_add_27 : decode cX2_add 27 = .ok (.iastore, 1) := by decide +kernel
theorem dX2_add_28 : decode cX2_add 28 = .ok (.aload_n 0, 1) := by decide +kernel
theorem dX2_add_29 : decode cX2_add 29 = .ok (.getfield 18, 3) := by decide +kernel
theorem dX2_add_32 : decode cX2_add 32 = .ok (.aload_n 0, 1) := by decide +kernel
theorem dX2_add_33 : decode cX2_add 33 = .ok (.getfield 27, 3) := by decide +kernel
theorem dX2_add_36 : decode cX2_add 36 = .ok (.iload_n 3, 1) := by decide +kernel
theorem dX2_add_37 : decode cX2_add 37 = .ok (.iastore, 1) := by decide +kernel
theorem dX2_add_38 : decode cX2_add 38 = .ok (.aload_n 0, 1) := by decide +kernel
theorem dX2_add_39 : decode cX2_add 39 = .ok (.getfield 21, 3) := by decide +kernel
theorem dX2_add_42 : decode cX2_add 42 = .ok (.aload_n 0, 1) := by decide +kernel
theorem dX2_add_43 : decode cX2_add 43 = .ok (.getfield 27, 3) := by decide +kernel
theorem dX2_add_46 : decode cX2_add 46 = .ok (.iload 4, 2) := by decide +kernel
theorem dX2_add_48 : decode cX2_add 48 = .ok (.iastore, 1) := by decide +kernel
theorem dX2_add_49 : decode cX2_add 49 = .ok (.aload_n 0, 1) := by decide +kernel
theorem dX2_add_50 : decode cX2_add 50 = .ok (.getfield 24, 3) := by decide +kernel
theorem dX2_add_53 : decode cX2_add 53 = .ok (.aload_n 0, 1) := by decide +kernel
theorem dX2_add_54 : decode cX2_add 54 = .ok (.getfield 27, 3) := by decide +kernel
theorem dX2_add_57 : decode cX2_add 57 = .ok (.iload 5, 2) := by decide +kernel
theorem dX2_add_59 : decode cX2_add 59 = .ok (.iastore, 1) := by decide +kernel
theorem dX2_add_60 : decode cX2_add 60 = .ok (.aload_n 0, 1) := by decide +kernel
theorem dX2_add_61 : decode cX2_add 61 = .ok (.dup, 1) := by decide +kernel
theorem dX2_add_62 : decode cX2_add 62 = .ok (.getfield 27, 3) := by decide +kernel
theorem dX2_add_65 : decode cX2_add 65 = .ok (.iconst 1, 1) := by decide +kernel
theorem dX2_add_66 : decode cX2_add 66 = .ok (.iadd, 1) := by decide +kernel
theorem dX2_add_67 : decode cX2_add 67 = .ok (.putfield 27, 3) := by decide +kernel
theorem dX2_add_70 : decode cX2_add 70 = .ok (.return_, 1) := by decide +kernel
theorem dX2_dropLast_0 : decode cX2_dropLast 0 = .ok (.aload_n 0, 1) := by decide +kernel
theorem dX2_dropLast_1 : decode cX2_dropLast 1 = .ok (.aload_n 0, 1) := by decide +kernel
theorem dX2_dropLast_2 : decode cX2_dropLast 2 = .ok (.getfield 27, 3) := by decide +kernel
theorem dX2_dropLast_5 : decode cX2_dropLast 5 = .ok (.iconst 1, 1) := by decide +kernel
theorem dX2_dropLast_6 : decode cX2_dropLast 6 = .ok (.isub, 1) := by decide +kernel
theorem dX2_dropLast_7 : decode cX2_dropLast 7 = .ok (.iconst 0, 1) := by decide +kernel
theorem dX2_dropLast_8 : decode cX2_dropLast 8 = .ok (.invokestatic 35, 3) := by decide +kernel
theorem dX2_dropLast_11 : decode cX2_dropLast 11 = .ok (.putfield 27, 3) := by decide +kernel
theorem dX2_dropLast_14 : decode cX2_dropLast 14 = .ok (.return_, 1) := by decide +kernel
theorem dX2_weekOf_0 : decode cX2_weekOf 0 = .ok (.aload_n 0, 1) := by decide +kernel
theorem dX2_weekOf_1 : decode cX2_weekOf 1 = .ok (.iload_n 1, 1) := by decide +kernel
theorem dX2_weekOf_2 : decode cX2_weekOf 2 = .ok (.invokevirtual 49, 3) := by decide +kernel
theorem dX2_weekOf_5 : decode cX2_weekOf 5 = .ok (.ifCond .eq 12, 3) := by decide +kernel
theorem dX2_weekOf_8 : decode cX2_weekOf 8 = .ok (.aload_n 0, 1) := by decide +kernel
theorem dX2_weekOf_9 : decode cX2_weekOf 9 = .ok (.getfield 9, 3) := by decide +kernel
theorem dX2_weekOf_12 : decode cX2_weekOf 12 = .ok (.iload_n 1, 1) := by decide +kernel
theorem dX2_weekOf_13 : decode cX2_weekOf 13 = .ok (.iaload, 1) := by decide +kernel
theorem dX2_weekOf_14 : decode cX2_weekOf 14 = .ok (.goto 4, 3) := by decide +kernel
theorem dX2_weekOf_17 : decode cX2_weekOf 17 = .ok (.iconst (-1), 1) := by decide +kernel
theorem dX2_weekOf_18 : decode cX2_weekOf 18 = .ok (.ireturn, 1) := by decide +kernel
theorem dX2_kindOf_0 : decode cX2_kindOf 0 = .ok (.aload_n 0, 1) := by decide +kernel
theorem dX2_kindOf_1 : decode cX2_kindOf 1 = .ok (.iload_n 1, 1) := by decide +kernel
theorem dX2_kindOf_2 : decode cX2_kindOf 2 = .ok (.invokevirtual 49, 3) := by decide +kernel
theorem dX2_kindOf_5 : decode cX2_kindOf 5 = .ok (.ifCond .eq 12, 3) := by decide +kernel
theorem dX2_kindOf_8 : decode cX2_kindOf 8 = .ok (.aload_n 0, 1) := by decide +kernel
theorem dX2_kindOf_9 : decode cX2_kindOf 9 = .ok (.getfield 15, 3) := by decide +kernel
theorem dX2_kindOf_12 : decode cX2_kindOf 12 = .ok (.iload_n 1, 1) := by decide +kernel
theorem dX2_kindOf_13 : decode cX2_kindOf 13 = .ok (.iaload, 1) := by decide +kernel
theorem dX2_kindOf_14 : decode cX2_kindOf 14 = .ok (.goto 4, 3) := by decide +kernel
theorem dX2_kindOf_17 : decode cX2_kindOf 17 = .ok (.iconst (-1), 1) := by decide +kernel
theorem dX2_kindOf_18 : decode cX2_kindOf 18 = .ok (.ireturn, 1) := by decide +kernel
theorem dX2_oneOf_0 : decode cX2_oneOf 0 = .ok (.aload_n 0, 1) := by decide +kernel
theorem dX2_oneOf_1 : decode cX2_oneOf 1 = .ok (.iload_n 1, 1) := by decide +kernel
theorem dX2_oneOf_2 : decode cX2_oneOf 2 = .ok (.invokevirtual 49, 3) := by decide +kernel
theorem dX2_oneOf_5 : decode cX2_oneOf 5 = .ok (.ifCond .eq 12, 3) := by decide +kernel
theorem dX2_oneOf_8 : decode cX2_oneOf 8 = .ok (.aload_n 0, 1) := by decide +kernel
theorem dX2_oneOf_9 : decode cX2_oneOf 9 = .ok (.getfield 18, 3) := by decide +kernel
theorem dX2_oneOf_12 : decode cX2_oneOf 12 = .ok (.iload_n 1, 1) := by decide +kernel
theorem dX2_oneOf_13 : decode cX2_oneOf 13 = .ok (.iaload, 1) := by decide +kernel
theorem dX2_oneOf_14 : decode cX2_oneOf 14 = .ok (.goto 4, 3) := by decide +kernel
theorem dX2_oneOf_17 : decode cX2_oneOf 17 = .ok (.iconst (-1), 1) := by decide +kernel
theorem dX2_oneOf_18 : decode cX2_oneOf 18 = .ok (.ireturn, 1) := by decide +kernel
theorem dX2_otherOf_0 : decode cX2_otherOf 0 = .ok (.aload_n 0, 1) := by decide +kernel
theorem dX2_otherOf_1 : decode cX2_otherOf 1 = .ok (.iload_n 1, 1) := by decide +kernel
theorem dX2_otherOf_2 : decode cX2_otherOf 2 = .ok (.invokevirtual 49, 3) := by decide +kernel
theorem dX2_otherOf_5 : decode cX2_otherOf 5 = .ok (.ifCond .eq 12, 3) := by decide +kernel
theorem dX2_otherOf_8 : decode cX2_otherOf 8 = .ok (.aload_n 0, 1) := by decide +kernel
theorem dX2_otherOf_9 : decode cX2_otherOf 9 = .ok (.getfield 21, 3) := by decide +kernel
theorem dX2_otherOf_12 : decode cX2_otherOf 12 = .ok (.iload_n 1, 1) := by decide +kernel
theorem dX2_otherOf_13 : decode cX2_otherOf 13 = .ok (.iaload, 1) := by decide +kernel
theorem dX2_otherOf_14 : decode cX2_otherOf 14 = .ok (.goto 4, 3) := by decide +kernel
theorem dX2_otherOf_17 : decode cX2_otherOf 17 = .ok (.iconst (-1), 1) := by decide +kernel
theorem dX2_otherOf_18 : decode cX2_otherOf 18 = .ok (.ireturn, 1) := by decide +kernel
theorem dX2_hourOf_0 : decode cX2_hourOf 0 = .ok (.aload_n 0, 1) := by decide +kernel
theorem dX2_hourOf_1 : decode cX2_hourOf 1 = .ok (.iload_n 1, 1) := by decide +kernel
theorem dX2_hourOf_2 : decode cX2_hourOf 2 = .ok (.invokevirtual 49, 3) := by decide +kernel
theorem dX2_hourOf_5 : decode cX2_hourOf 5 = .ok (.ifCond .eq 12, 3) := by decide +kernel
theorem dX2_hourOf_8 : decode cX2_hourOf 8 = .ok (.aload_n 0, 1) := by decide +kernel
theorem dX2_hourOf_9 : decode cX2_hourOf 9 = .ok (.getfield 24, 3) := by decide +kernel
theorem dX2_hourOf_12 : decode cX2_hourOf 12 = .ok (.iload_n 1, 1) := by decide +kernel
theorem dX2_hourOf_13 : decode cX2_hourOf 13 = .ok (.iaload, 1) := by decide +kernel
theorem dX2_hourOf_14 : decode cX2_hourOf 14 = .ok (.goto 5, 3) := by decide +kernel
theorem dX2_hourOf_17 : decode cX2_hourOf 17 = .ok (.bipush 12, 2) := by decide +kernel
theorem dX2_hourOf_19 : decode cX2_hourOf 19 = .ok (.ireturn, 1) := by decide +kernel
theorem dX3_init_0 : decode cX3_init 0 = .ok (.aload_n 0, 1) := by decide +kernel
theorem dX3_init_1 : decode cX3_init 1 = .ok (.invokespecial 3, 3) := by decide +kernel
theorem dX3_init_4 : decode cX3_init 4 = .ok (.aload_n 0, 1) := by decide +kernel
theorem dX3_init_5 : decode cX3_init 5 = .ok (.bipush 6, 2) := by decide +kernel
theorem dX3_init_7 : decode cX3_init 7 = .ok (.newarray .int, 2) := by decide +kernel
theorem dX3_init_9 : decode cX3_init 9 = .ok (.putfield 9, 3) := by decide +kernel
theorem dX3_init_12 : decode cX3_init 12 = .ok (.aload_n 0, 1) := by decide +kernel
theorem dX3_init_13 : decode cX3_init 13 = .ok (.iconst 0, 1) := by decide +kernel
theorem dX3_init_14 : decode cX3_init 14 = .ok (.putfield 15, 3) := by decide +kernel
theorem dX3_init_17 : decode cX3_init 17 = .ok (.aload_n 0, 1) := by decide +kernel
theorem dX3_init_18 : decode cX3_init 18 = .ok (.iconst (-1), 1) := by decide +kernel
theorem dX3_init_19 : decode cX3_init 19 = .ok (.putfield 19, 3) := by decide +kernel
theorem dX3_init_22 : decode cX3_init 22 = .ok (.return_, 1) := by decide +kernel
theorem dX3_number_0 : decode cX3_number 0 = .ok (.aload_n 0, 1) := by decide +kernel
theorem dX3_number_1 : decode cX3_number 1 = .ok (.getfield 15, 3) := by decide +kernel
theorem dX3_number_4 : decode cX3_number 4 = .ok (.ireturn, 1) := by decide +kernel
theorem dX3_faultAt_0 : decode cX3_faultAt 0 = .ok (.aload_n 0, 1) := by decide +kernel
theorem dX3_faultAt_1 : decode cX3_faultAt 1 = .ok (.getfield 19, 3) := by decide +kernel
theorem dX3_faultAt_4 : decode cX3_faultAt 4 = .ok (.ireturn, 1) := by decide +kernel
theorem dX3_has_0 : decode cX3_has 0 = .ok (.iload_n 1, 1) := by decide +kernel
theorem dX3_has_1 : decode cX3_has 1 = .ok (.ifCond .lt 15, 3) := by decide +kernel
theorem dX3_has_4 : decode cX3_has 4 = .ok (.iload_n 1, 1) := by decide +kernel
theorem dX3_has_5 : decode cX3_has 5 = .ok (.aload_n 0, 1) := by decide +kernel
theorem dX3_has_6 : decode cX3_has 6 = .ok (.getfield 15, 3) := by decide +kernel
theorem dX3_has_9 : decode cX3_has 9 = .ok (.if_icmp .ge 7, 3) := by decide +kernel
theorem dX3_has_12 : decode cX3_has 12 = .ok (.iconst 1, 1) := by decide +kernel
theorem dX3_has_13 : decode cX3_has 13 = .ok (.goto 4, 3) := by decide +kernel
theorem dX3_has_16 : decode cX3_has 16 = .ok (.iconst 0, 1) := by decide +kernel
theorem dX3_has_17 : decode cX3_has 17 = .ok (.ireturn, 1) := by decide +kernel
theorem dX3_toldWidth_0 : decode cX3_toldWidth 0 = .ok (.aload_n 0, 1) := by decide +kernel
theorem dX3_toldWidth_1 : decode cX3_toldWidth 1 = .ok (.iload_n 1, 1) := by decide +kernel
theorem dX3_toldWidth_2 : decode cX3_toldWidth 2 = .ok (.invokevirtual 22, 3) := by decide +kernel
theorem dX3_toldWidth_5 : decode cX3_toldWidth 5 = .ok (.ifCond .eq 12, 3) := by decide +kernel
theorem dX3_toldWidth_8 : decode cX3_toldWidth 8 = .ok (.aload_n 0, 1) := by decide +kernel
theorem dX3_toldWidth_9 : decode cX3_toldWidth 9 = .ok (.getfield 9, 3) := by decide +kernel
theorem dX3_toldWidth_12 : decode cX3_toldWidth 12 = .ok (.iload_n 1, 1) := by decide +kernel
theorem dX3_toldWidth_13 : decode cX3_toldWidth 13 = .ok (.iaload, 1) := by decide +kernel
theorem dX3_toldWidth_14 : decode cX3_toldWidth 14 = .ok (.goto 4, 3) := by decide +kernel
theorem dX3_toldWidth_17 : decode cX3_toldWidth 17 = .ok (.iconst 0, 1) := by decide +kernel
theorem dX3_toldWidth_18 : decode cX3_toldWidth 18 = .ok (.ireturn, 1) := by decide +kernel
theorem dX3_parse_0 : decode cX3_parse 0 = .ok (.aload_n 0, 1) := by decide +kernel
theorem dX3_parse_1 : decode cX3_parse 1 = .ok (.aload_n 1, 1) := by decide +kernel
theorem dX3_parse_2 : decode cX3_parse 2 = .ok (.invokestatic 26, 3) := by decide +kernel
theorem dX3_parse_5 : decode cX3_parse 5 = .ok (.putfield 19, 3) := by decide +kernel
theorem dX3_parse_8 : decode cX3_parse 8 = .ok (.aload_n 0, 1) := by decide +kernel
theorem dX3_parse_9 : decode cX3_parse 9 = .ok (.aload_n 0, 1) := by decide +kernel
theorem dX3_parse_10 : decode cX3_parse 10 = .ok (.getfield 19, 3) := by decide +kernel
theorem dX3_parse_13 : decode cX3_parse 13 = .ok (.iconst (-1), 1) := by decide +kernel
theorem dX3_parse_14 : decode cX3_parse 14 = .ok (.if_icmp .ne 19, 3) := by decide +kernel
theorem dX3_parse_17 : decode cX3_parse 17 = .ok (.aload_n 1, 1) := by decide +kernel
theorem dX3_parse_18 : decode cX3_parse 18 = .ok (.invokevirtual 30, 3) := by decide +kernel
theorem dX3_parse_21 : decode cX3_parse 21 = .ok (.iconst 1, 1) := by decide +kernel
theorem dX3_parse_22 : decode cX3_parse 22 = .ok (.iadd, 1) := by decide +kernel
theorem dX3_parse_23 : decode cX3_parse 23 = .ok (.iconst 3, 1) := by decide +kernel
theorem dX3_parse_24 : decode cX3_parse 24 = .ok (.idiv, 1) := by decide +kernel
theorem dX3_parse_25 : decode cX3_parse 25 = .ok (.bipush 6, 2) := by decide +kernel
theorem dX3_parse_27 : decode cX3_parse 27 = .ok (.invokestatic 36, 3) := by decide +kernel
theorem dX3_parse_30 : decode cX3_parse 30 = .ok (.goto 4, 3) := by decide +kernel
theorem dX3_parse_33 : decode cX3_parse 33 = .ok (.iconst 0, 1) := by decide +kernel
theorem dX3_parse_34 : decode cX3_parse 34 = .ok (.putfield 15, 3) := by decide +kernel
theorem dX3_parse_37 : decode cX3_parse 37 = .ok (.iconst 0, 1) := by decide +kernel
theorem dX3_parse_38 : decode cX3_parse 38 = .ok (.istore_n 2, 1) := by decide +kernel
theorem dX3_parse_39 : decode cX3_parse 39 = .ok (.iload_n 2, 1) := by decide +kernel
theorem dX3_parse_40 : decode cX3_parse 40 = .ok (.aload_n 0, 1) := by decide +kernel
theorem dX3_parse_41 : decode cX3_parse 41 = .ok (.getfield 15, 3) := by decide +kernel
theorem dX3_parse_44 : decode cX3_parse 44 = .ok (.if_icmp .ge 35, 3) := by decide +kernel
theorem dX3_parse_47 : decode cX3_parse 47 = .ok (.iconst 3, 1) := by decide +kernel
theorem dX3_parse_48 : decode cX3_parse 48 = .ok (.iload_n 2, 1) := by decide +kernel
theorem dX3_parse_49 : decode cX3_parse 49 = .ok (.imul, 1) := by decide +kernel
theorem dX3_parse_50 : decode cX3_parse 50 = .ok (.istore_n 3, 1) := by decide +kernel
theorem dX3_parse_51 : decode cX3_parse 51 = .ok (.aload_n 0, 1) := by decide +kernel
theorem dX3_parse_52 : decode cX3_parse 52 = .ok (.getfield 9, 3) := by decide +kernel
theorem dX3_parse_55 : decode cX3_parse 55 = .ok (.iload_n 2, 1) := by decide +kernel
theorem dX3_parse_56 : decode cX3_parse 56 = .ok (.bipush 10, 2) := by decide +kernel
theorem dX3_parse_58 : decode cX3_parse 58 = .ok (.aload_n 1, 1) := by decide +kernel
theorem dX3_parse_59 : decode cX3_parse 59 = .ok (.iload_n 3, 1) := by decide +kernel
theorem dX3_parse_60 : decode cX3_parse 60 = .ok (.invokevirtual 42, 3) := by decide +kernel
theorem dX3_parse_63 : decode cX3_parse 63 = .ok (.imul, 1) := by decide +kernel
theorem dX3_parse_64 : decode cX3_parse 64 = .ok (.aload_n 1, 1) := by decide +kernel
theorem dX3_parse_65 : decode cX3_parse 65 = .ok (.iload_n 3, 1) := by decide +kernel
theorem dX3_parse_66 : decode cX3_parse 66 = .ok (.iconst 1, 1) := by decide +kernel
theorem dX3_parse_67 : decode cX3_parse 67 = .ok (.iadd, 1) := by decide +kernel
theorem dX3_parse_68 : decode cX3_parse 68 = .ok (.invokevirtual 42, 3) := by decide +kernel
theorem dX3_parse_71 : decode cX3_parse 71 = .ok (.iadd, 1) := by decide +kernel
theorem dX3_parse_72 : decode cX3_parse 72 = .ok (.iastore, 1) := by decide +kernel
theorem dX3_parse_73 : decode cX3_parse 73 = .ok (.iinc 2 1, 3) := by decide +kernel
theorem dX3_parse_76 : decode cX3_parse 76 = .ok (.goto (-37), 3) := by decide +kernel
theorem dX3_parse_79 : decode cX3_parse 79 = .ok (.return_, 1) := by decide +kernel
theorem dX3_firstFault_0 : decode cX3_firstFault 0 = .ok (.aload_n 0, 1) := by decide +kernel
theorem dX3_firstFault_1 : decode cX3_firstFault 1 = .ok (.invokevirtual 30, 3) := by decide +kernel
theorem dX3_firstFault_4 : decode cX3_firstFault 4 = .ok (.istore_n 1, 1) := by decide +kernel
theorem dX3_firstFault_5 : decode cX3_firstFault 5 = .ok (.iconst 0, 1) := by decide +kernel
theorem dX3_firstFault_6 : decode cX3_firstFault 6 = .ok (.istore_n 2, 1) := by decide +kernel
theorem dX3_firstFault_7 : decode cX3_firstFault 7 = .ok (.iload_n 2, 1) := by decide +kernel
theorem dX3_firstFault_8 : decode cX3_firstFault 8 = .ok (.iload_n 1, 1) := by decide +kernel
theorem dX3_firstFault_9 : decode cX3_firstFault 9 = .ok (.if_icmp .ge 19, 3) := by decide +kernel
theorem dX3_firstFault_12 : decode cX3_firstFault 12 = .ok (.aload_n 0, 1) := by decide +kernel
theorem dX3_firstFault_13 : decode cX3_firstFault 13 = .ok (.iload_n 2, 1) := by decide +kernel
theorem dX3_firstFault_14 : decode cX3_firstFault 14 = .ok (.invokestatic 46, 3) := by decide +kernel
theorem dX3_firstFault_17 : decode cX3_firstFault 17 = .ok (.ifCond .ne 5, 3) := by decide +kernel
theorem dX3_firstFault_20 : decode cX3_firstFault 20 = .ok (.iload_n 2, 1) := by decide +kernel
theorem dX3_firstFault_21 : decode cX3_firstFault 21 = .ok (.ireturn, 1) := by decide +kernel
theorem dX3_firstFault_22 : decode cX3_firstFault 22 = .ok (.iinc 2 1, 3) := by decide +kernel
theorem dX3_firstFault_25 : decode cX3_firstFault 25 = .ok (.goto (-18), 3) := by decide +kernel
theorem dX3_firstFault_28 : decode cX3_firstFault 28 = .ok (.iload_n 1, 1) := by decide +kernel
theorem dX3_firstFault_29 : decode cX3_firstFault 29 = .ok (.ifCond .eq 10, 3) := by decide +kernel
theorem dX3_firstFault_32 : decode cX3_firstFault 32 = .ok (.iload_n 1, 1) := by decide +kernel
theorem dX3_firstFault_33 : decode cX3_firstFault 33 = .ok (.iconst 3, 1) := by decide +kernel
theorem dX3_firstFault_34 : decode cX3_firstFault 34 = .ok (.irem, 1) := by decide +kernel
theorem dX3_firstFault_35 : decode cX3_firstFault 35 = .ok (.iconst 2, 1) := by decide +kernel
theorem dX3_firstFault_36 : decode cX3_firstFault 36 = .ok (.if_icmp .ne 7, 3) := by decide +kernel
theorem dX3_firstFault_39 : decode cX3_firstFault 39 = .ok (.iconst (-1), 1) := by decide +kernel
theorem dX3_firstFault_40 : decode cX3_firstFault 40 = .ok (.goto 4, 3) := by decide +kernel
theorem dX3_firstFault_43 : decode cX3_firstFault 43 = .ok (.iload_n 1, 1) := by decide +kernel
theorem dX3_firstFault_44 : decode cX3_firstFault 44 = .ok (.ireturn, 1) := by decide +kernel
theorem dX3_goesOn_0 : decode cX3_goesOn 0 = .ok (.iload_n 1, 1) := by decide +kernel
theorem dX3_goesOn_1 : decode cX3_goesOn 1 = .ok (.iconst 3, 1) := by decide +kernel
theorem dX3_goesOn_2 : decode cX3_goesOn 2 = .ok (.irem, 1) := by decide +kernel
theorem dX3_goesOn_3 : decode cX3_goesOn 3 = .ok (.iconst 2, 1) := by decide +kernel
theorem dX3_goesOn_4 : decode cX3_goesOn 4 = .ok (.if_icmp .ne 19, 3) := by decide +kernel
theorem dX3_goesOn_7 : decode cX3_goesOn 7 = .ok (.aload_n 0, 1) := by decide +kernel
theorem dX3_goesOn_8 : decode cX3_goesOn 8 = .ok (.iload_n 1, 1) := by decide +kernel
theorem dX3_goesOn_9 : decode cX3_goesOn 9 = .ok (.invokevirtual 50, 3) := by decide +kernel
theorem dX3_goesOn_12 : decode cX3_goesOn 12 = .ok (.bipush 59, 2) := by decide +kernel
theorem dX3_goesOn_14 : decode cX3_goesOn 14 = .ok (.if_icmp .ne 7, 3) := by decide +kernel
theorem dX3_goesOn_17 : decode cX3_goesOn 17 = .ok (.iconst 1, 1) := by decide +kernel
theorem dX3_goesOn_18 : decode cX3_goesOn 18 = .ok (.goto 4, 3) := by decide +kernel
theorem dX3_goesOn_21 : decode cX3_goesOn 21 = .ok (.iconst 0, 1) := by decide +kernel
theorem dX3_goesOn_22 : decode cX3_goesOn 22 = .ok (.ireturn, 1) := by decide +kernel
theorem dX3_goesOn_23 : decode cX3_goesOn 23 = .ok (.iload_n 1, 1) := by decide +kernel
theorem dX3_goesOn_24 : decode cX3_goesOn 24 = .ok (.iconst 3, 1) := by decide +kernel
theorem dX3_goesOn_25 : decode cX3_goesOn 25 = .ok (.idiv, 1) := by decide +kernel
theorem dX3_goesOn_26 : decode cX3_goesOn 26 = .ok (.bipush 6, 2) := by decide +kernel
theorem dX3_goesOn_28 : decode cX3_goesOn 28 = .ok (.if_icmp .ge 16, 3) := by decide +kernel
theorem dX3_goesOn_31 : decode cX3_goesOn 31 = .ok (.aload_n 0, 1) := by decide +kernel
theorem dX3_goesOn_32 : decode cX3_goesOn 32 = .ok (.iload_n 1, 1) := by decide +kernel
theorem dX3_goesOn_33 : decode cX3_goesOn 33 = .ok (.invokevirtual 42, 3) := by decide +kernel
theorem dX3_goesOn_36 : decode cX3_goesOn 36 = .ok (.iconst (-1), 1) := by decide +kernel
theorem dX3_goesOn_37 : decode cX3_goesOn 37 = .ok (.if_icmp .eq 7, 3) := by decide +kernel
theorem dX3_goesOn_40 : decode cX3_goesOn 40 = .ok (.iconst 1, 1) := by decide +kernel
theorem dX3_goesOn_41 : decode cX3_goesOn 41 = .ok (.goto 4, 3) := by decide +kernel
theorem dX3_goesOn_44 : decode cX3_goesOn 44 = .ok (.iconst 0, 1) := by decide +kernel
theorem dX3_goesOn_45 : decode cX3_goesOn 45 = .ok (.ireturn, 1) := by decide +kernel
theorem dX4_init_0 : decode cX4_init 0 = .ok (.aload_n 0, 1) := by decide +kernel
theorem dX4_init_1 : decode cX4_init 1 = .ok (.invokespecial 3, 3) := by decide +kernel
theorem dX4_init_4 : decode cX4_init 4 = .ok (.aload_n 0, 1) := by decide +kernel
theorem dX4_init_5 : decode cX4_init 5 = .ok (.bipush 12, 2) := by decide +kernel
theorem dX4_init_7 : decode cX4_init 7 = .ok (.newarray .int, 2) := by decide +kernel
theorem dX4_init_9 : decode cX4_init 9 = .ok (.putfield 9, 3) := by decide +kernel
theorem dX4_init_12 : decode cX4_init 12 = .ok (.aload_n 0, 1) := by decide +kernel
theorem dX4_init_13 : decode cX4_init 13 = .ok (.bipush 12, 2) := by decide +kernel
theorem dX4_init_15 : decode cX4_init 15 = .ok (.newarray .int, 2) := by decide +kernel
theorem dX4_init_17 : decode cX4_init 17 = .ok (.putfield 15, 3) := by decide +kernel
theorem dX4_init_20 : decode cX4_init 20 = .ok (.aload_n 0, 1) := by decide +kernel
theorem dX4_init_21 : decode cX4_init 21 = .ok (.bipush 12, 2) := by decide +kernel
theorem dX4_init_23 : decode cX4_init 23 = .ok (.newarray .int, 2) := by decide +kernel
theorem dX4_init_25 : decode cX4_init 25 = .ok (.putfield 18, 3) := by decide +kernel
theorem dX4_init_28 : decode cX4_init 28 = .ok (.aload_n 0, 1) := by decide +kernel
theorem dX4_init_29 : decode cX4_init 29 = .ok (.bipush 12, 2) := by decide +kernel
theorem dX4_init_31 : decode cX4_init 31 = .ok (.newarray .int, 2) := by decide +kernel
theorem dX4_init_33 : decode cX4_init 33 = .ok (.putfield 21, 3) := by decide +kernel
theorem dX4_init_36 : decode cX4_init 36 = .ok (.aload_n 0, 1) := by decide +kernel
theorem dX4_init_37 : decode cX4_init 37 = .ok (.iconst 0, 1) := by decide +kernel
theorem dX4_init_38 : decode cX4_init 38 = .ok (.putfield 24, 3) := by decide +kernel
theorem dX4_init_41 : decode cX4_init 41 = .ok (.aload_n 0, 1) := by decide +kernel
theorem dX4_init_42 : decode cX4_init 42 = .ok (.iconst (-1), 1) := by decide +kernel
theorem dX4_init_43 : decode cX4_init 43 = .ok (.putfield 28, 3) := by decide +kernel
theorem dX4_init_46 : decode cX4_init 46 = .ok (.return_, 1) := by decide +kernel
theorem dX4_number_0 : decode cX4_number 0 = .ok (.aload_n 0, 1) := by decide +kernel
theorem dX4_number_1 : decode cX4_number 1 = .ok (.getfield 24, 3) := by decide +kernel
theorem dX4_number_4 : decode cX4_number 4 = .ok (.ireturn, 1) := by decide +kernel
theorem dX4_faultAt_0 : decode cX4_faultAt 0 = .ok (.aload_n 0, 1) := by decide +kernel
theorem dX4_faultAt_1 : decode cX4_faultAt 1 = .ok (.getfield 28, 3) := by decide +kernel
theorem dX4_faultAt_4 : decode cX4_faultAt 4 = .ok (.ireturn, 1) := by decide +kernel
theorem dX4_has_0 : decode cX4_has 0 = .ok (.iload_n 1, 1) := by decide +kernel
theorem dX4_has_1 : decode cX4_has 1 = .ok (.ifCond .lt 15, 3) := by decide +kernel
theorem dX4_has_4 : decode cX4_has 4 = .ok (.iload_n 1, 1) := by decide +kernel
theorem dX4_has_5 : decode cX4_has 5 = .ok (.aload_n 0, 1) := by decide +kernel
theorem dX4_has_6 : decode cX4_has 6 = .ok (.getfield 24, 3) := by decide +kernel
theorem dX4_has_9 : decode cX4_has 9 = .ok (.if_icmp .ge 7, 3) := by decide +kernel
theorem dX4_has_12 : decode cX4_has 12 = .ok (.iconst 1, 1) := by decide +kernel
theorem dX4_has_13 : decode cX4_has 13 = .ok (.goto 4, 3) := by decide +kernel
theorem dX4_has_16 : decode cX4_has 16 = .ok (.iconst 0, 1) := by decide +kernel
theorem dX4_has_17 : decode cX4_has 17 = .ok (.ireturn, 1) := by decide +kernel
theorem dX4_sexOf_0 : decode cX4_sexOf 0 = .ok (.aload_n 0, 1) := by decide +kernel
theorem dX4_sexOf_1 : decode cX4_sexOf 1 = .ok (.iload_n 1, 1) := by decide +kernel
theorem dX4_sexOf_2 : decode cX4_sexOf 2 = .ok (.invokevirtual 31, 3) := by decide +kernel
theorem dX4_sexOf_5 : decode cX4_sexOf 5 = .ok (.ifCond .eq 12, 3) := by decide +kernel
theorem dX4_sexOf_8 : decode cX4_sexOf 8 = .ok (.aload_n 0, 1) := by decide +kernel
theorem dX4_sexOf_9 : decode cX4_sexOf 9 = .ok (.getfield 9, 3) := by decide +kernel
theorem dX4_sexOf_12 : decode cX4_sexOf 12 = .ok (.iload_n 1, 1) := by decide +kernel
theorem dX4_sexOf_13 : decode cX4_sexOf 13 = .ok (.iaload, 1) := by decide +kernel
theorem dX4_sexOf_14 : decode cX4_sexOf 14 = .ok (.goto 4, 3) := by decide +kernel
theorem dX4_sexOf_17 : decode cX4_sexOf 17 = .ok (.iconst (-1), 1) := by decide +kernel
theorem dX4_sexOf_18 : decode cX4_sexOf 18 = .ok (.ireturn, 1) := by decide +kernel
theorem dX4_homeOf_0 : decode cX4_homeOf 0 = .ok (.aload_n 0, 1) := by decide +kernel
theorem dX4_homeOf_1 : decode cX4_homeOf 1 = .ok (.iload_n 1, 1) := by decide +kernel
theorem dX4_homeOf_2 : decode cX4_homeOf 2 = .ok (.invokevirtual 31, 3) := by decide +kernel
theorem dX4_homeOf_5 : decode cX4_homeOf 5 = .ok (.ifCond .eq 12, 3) := by decide +kernel
theorem dX4_homeOf_8 : decode cX4_homeOf 8 = .ok (.aload_n 0, 1) := by decide +kernel
theorem dX4_homeOf_9 : decode cX4_homeOf 9 = .ok (.getfield 15, 3) := by decide +kernel
theorem dX4_homeOf_12 : decode cX4_homeOf 12 = .ok (.iload_n 1, 1) := by decide +kernel
theorem dX4_homeOf_13 : decode cX4_homeOf 13 = .ok (.iaload, 1) := by decide +kernel
theorem dX4_homeOf_14 : decode cX4_homeOf 14 = .ok (.goto 4, 3) := by decide +kernel
theorem dX4_homeOf_17 : decode cX4_homeOf 17 = .ok (.iconst (-1), 1) := by decide +kernel
theorem dX4_homeOf_18 : decode cX4_homeOf 18 = .ok (.ireturn, 1) := by decide +kernel
theorem dX4_heightOf_0 : decode cX4_heightOf 0 = .ok (.aload_n 0, 1) := by decide +kernel
theorem dX4_heightOf_1 : decode cX4_heightOf 1 = .ok (.iload_n 1, 1) := by decide +kernel
theorem dX4_heightOf_2 : decode cX4_heightOf 2 = .ok (.invokevirtual 31, 3) := by decide +kernel
theorem dX4_heightOf_5 : decode cX4_heightOf 5 = .ok (.ifCond .eq 12, 3) := by decide +kernel
theorem dX4_heightOf_8 : decode cX4_heightOf 8 = .ok (.aload_n 0, 1) := by decide +kernel
theorem dX4_heightOf_9 : decode cX4_heightOf 9 = .ok (.getfield 18, 3) := by decide +kernel
theorem dX4_heightOf_12 : decode cX4_heightOf 12 = .ok (.iload_n 1, 1) := by decide +kernel
theorem dX4_heightOf_13 : decode cX4_heightOf 13 = .ok (.iaload, 1) := by decide +kernel
theorem dX4_heightOf_14 : decode cX4_heightOf 14 = .ok (.goto 4, 3) := by decide +kernel
theorem dX4_heightOf_17 : decode cX4_heightOf 17 = .ok (.iconst 0, 1) := by decide +kernel
theorem dX4_heightOf_18 : decode cX4_heightOf 18 = .ok (.ireturn, 1) := by decide +kernel
theorem dX4_hatOf_0 : decode cX4_hatOf 0 = .ok (.aload_n 0, 1) := by decide +kernel
theorem dX4_hatOf_1 : decode cX4_hatOf 1 = .ok (.iload_n 1, 1) := by decide +kernel
theorem dX4_hatOf_2 : decode cX4_hatOf 2 = .ok (.invokevirtual 31, 3) := by decide +kernel
theorem dX4_hatOf_5 : decode cX4_hatOf 5 = .ok (.ifCond .eq 12, 3) := by decide +kernel
theorem dX4_hatOf_8 : decode cX4_hatOf 8 = .ok (.aload_n 0, 1) := by decide +kernel
theorem dX4_hatOf_9 : decode cX4_hatOf 9 = .ok (.getfield 21, 3) := by decide +kernel
theorem dX4_hatOf_12 : decode cX4_hatOf 12 = .ok (.iload_n 1, 1) := by decide +kernel
theorem dX4_hatOf_13 : decode cX4_hatOf 13 = .ok (.iaload, 1) := by decide +kernel
theorem dX4_hatOf_14 : decode cX4_hatOf 14 = .ok (.goto 4, 3) := by decide +kernel
theorem dX4_hatOf_17 : decode cX4_hatOf 17 = .ok (.iconst 0, 1) := by decide +kernel
theorem dX4_hatOf_18 : decode cX4_hatOf 18 = .ok (.ireturn, 1) := by decide +kernel
theorem dX4_setHeight_0 : decode cX4_setHeight 0 = .ok (.aload_n 0, 1) := by decide +kernel
theorem dX4_setHeight_1 : decode cX4_setHeight 1 = .ok (.iload_n 1, 1) := by decide +kernel
theorem dX4_setHeight_2 : decode cX4_setHeight 2 = .ok (.invokevirtual 31, 3) := by decide +kernel
theorem dX4_setHeight_5 : decode cX4_setHeight 5 = .ok (.ifCond .eq 10, 3) := by decide +kernel
theorem dX4_setHeight_8 : decode cX4_setHeight 8 = .ok (.aload_n 0, 1) := by decide +kernel
theorem dX4_setHeight_9 : decode cX4_setHeight 9 = .ok (.getfield 18, 3) := by decide +kernel
theorem dX4_setHeight_12 : decode cX4_setHeight 12 = .ok (.iload_n 1, 1) := by decide +kernel
theorem dX4_setHeight_13 : decode cX4_setHeight 13 = .ok (.iload_n 2, 1) := by decide +kernel
theorem dX4_setHeight_14 : decode cX4_setHeight 14 = .ok (.iastore, 1) := by decide +kernel
theorem dX4_setHeight_15 : decode cX4_setHeight 15 = .ok (.return_, 1) := by decide +kernel
theorem dX4_shadowOf_0 : decode cX4_shadowOf 0 = .ok (.aload_n 0, 1) := by decide +kernel
theorem dX4_shadowOf_1 : decode cX4_shadowOf 1 = .ok (.iload_n 1, 1) := by decide +kernel
theorem dX4_shadowOf_2 : decode cX4_shadowOf 2 = .ok (.invokevirtual 31, 3) := by decide +kernel
theorem dX4_shadowOf_5 : decode cX4_shadowOf 5 = .ok (.ifCond .eq 29, 3) := by decide +kernel
theorem dX4_shadowOf_8 : decode cX4_shadowOf 8 = .ok (.aload_n 0, 1) := by decide +kernel
theorem dX4_shadowOf_9 : decode cX4_shadowOf 9 = .ok (.getfield 18, 3) := by decide +kernel
theorem dX4_shadowOf_12 : decode cX4_shadowOf 12 = .ok (.iload_n 1, 1) := by decide +kernel
theorem dX4_shadowOf_13 : decode cX4_shadowOf 13 = .ok (.iaload, 1) := by decide +kernel
theorem dX4_shadowOf_14 : decode cX4_shadowOf 14 = .ok (.aload_n 0, 1) := by decide +kernel
theorem dX4_shadowOf_15 : decode cX4_shadowOf 15 = .ok (.getfield 21, 3) := by decide +kernel
theorem dX4_shadowOf_18 : decode cX4_shadowOf 18 = .ok (.iload_n 1, 1) := by decide +kernel
theorem dX4_shadowOf_19 : decode cX4_shadowOf 19 = .ok (.iaload, 1) := by decide +kernel
theorem dX4_shadowOf_20 : decode cX4_shadowOf 20 = .ok (.iadd, 1) := by decide +kernel
theorem dX4_shadowOf_21 : decode cX4_shadowOf 21 = .ok (.iconst 1, 1) := by decide +kernel
theorem dX4_shadowOf_22 : decode cX4_shadowOf 22 = .ok (.iload_n 2, 1) := by decide +kernel
theorem dX4_shadowOf_23 : decode cX4_shadowOf 23 = .ok (.bipush 12, 2) := by decide +kernel
theorem dX4_shadowOf_25 : decode cX4_shadowOf 25 = .ok (.isub, 1) := by decide +kernel
theorem dX4_shadowOf_26 : decode cX4_shadowOf 26 = .ok (.invokestatic 35, 3) := by decide +kernel
theorem dX4_shadowOf_29 : decode cX4_shadowOf 29 = .ok (.iadd, 1) := by decide +kernel
theorem dX4_shadowOf_30 : decode cX4_shadowOf 30 = .ok (.imul, 1) := by decide +kernel
theorem dX4_shadowOf_31 : decode cX4_shadowOf 31 = .ok (.goto 4, 3) := by decide +kernel
theorem dX4_shadowOf_34 : decode cX4_shadowOf 34 = .ok (.iconst 0, 1) := by decide +kernel
theorem dX4_shadowOf_35 : decode cX4_shadowOf 35 = .ok (.ireturn, 1) := by decide +kernel
theorem dX4_areMatch_0 : decode cX4_areMatch 0 = .ok (.iload_n 1, 1) := by decide +kernel
theorem dX4_areMatch_1 : decode cX4_areMatch 1 = .ok (.ifCond .lt 23, 3) := by decide +kernel
theorem dX4_areMatch_4 : decode cX4_areMatch 4 = .ok (.iload_n 1, 1) := by decide +kernel
theorem dX4_areMatch_5 : decode cX4_areMatch 5 = .ok (.aload_n 0, 1) := by decide +kernel
theorem dX4_areMatch_6 : decode cX4_areMatch 6 = .ok (.getfield 24, 3) := by decide +kernel
theorem dX4_areMatch_9 : decode cX4_areMatch 9 = .ok (.if_icmp .ge 15, 3) := by decide +kernel
theorem dX4_areMatch_12 : decode cX4_areMatch 12 = .ok (.iload_n 2, 1) := by decide +kernel
theorem dX4_areMatch_13 : decode cX4_areMatch 13 = .ok (.ifCond .lt 11, 3) := by decide +kernel
theorem dX4_areMatch_16 : decode cX4_areMatch 16 = .ok (.iload_n 2, 1) := by decide +kernel
theorem dX4_areMatch_17 : decode cX4_areMatch 17 = .ok (.aload_n 0, 1) := by decide +kernel
theorem dX4_areMatch_18 : decode cX4_areMatch 18 = .ok (.getfield 24, 3) := by decide +kernel
theorem dX4_areMatch_21 : decode cX4_areMatch 21 = .ok (.if_icmp .lt 5, 3) := by decide +kernel
theorem dX4_areMatch_24 : decode cX4_areMatch 24 = .ok (.iconst 0, 1) := by decide +kernel
theorem dX4_areMatch_25 : decode cX4_areMatch 25 = .ok (.ireturn, 1) := by decide +kernel
theorem dX4_areMatch_26 : decode cX4_areMatch 26 = .ok (.aload_n 0, 1) := by decide +kernel
theorem dX4_areMatch_27 : decode cX4_areMatch 27 = .ok (.getfield 15, 3) := by decide +kernel
theorem dX4_areMatch_30 : decode cX4_areMatch 30 = .ok (.iload_n 1, 1) := by decide +kernel
theorem dX4_areMatch_31 : decode cX4_areMatch 31 = .ok (.iaload, 1) := by decide +kernel
theorem dX4_areMatch_32 : decode cX4_areMatch 32 = .ok (.aload_n 0, 1) := by decide +kernel
theorem dX4_areMatch_33 : decode cX4_areMatch 33 = .ok (.getfield 15, 3) := by decide +kernel
theorem dX4_areMatch_36 : decode cX4_areMatch 36 = .ok (.iload_n 2, 1) := by decide +kernel
theorem dX4_areMatch_37 : decode cX4_areMatch 37 = .ok (.iaload, 1) := by decide +kernel
theorem dX4_areMatch_38 : decode cX4_areMatch 38 = .ok (.isub, 1) := by decide +kernel
theorem dX4_areMatch_39 : decode cX4_areMatch 39 = .ok (.istore_n 3, 1) := by decide +kernel
theorem dX4_areMatch_40 : decode cX4_areMatch 40 = .ok (.aload_n 0, 1) := by decide +kernel
theorem dX4_areMatch_41 : decode cX4_areMatch 41 = .ok (.getfield 9, 3) := by decide +kernel
theorem dX4_areMatch_44 : decode cX4_areMatch 44 = .ok (.iload_n 1, 1) := by decide +kernel
theorem dX4_areMatch_45 : decode cX4_areMatch 45 = .ok (.iaload, 1) := by decide +kernel
theorem dX4_areMatch_46 : decode cX4_areMatch 46 = .ok (.aload_n 0, 1) := by decide +kernel
theorem dX4_areMatch_47 : decode cX4_areMatch 47 = .ok (.getfield 9, 3) := by decide +kernel
theorem dX4_areMatch_50 : decode cX4_areMatch 50 = .ok (.iload_n 2, 1) := by decide +kernel
theorem dX4_areMatch_51 : decode cX4_areMatch 51 = .ok (.iaload, 1) := by decide +kernel
theorem dX4_areMatch_52 : decode cX4_areMatch 52 = .ok (.if_icmp .eq 17, 3) := by decide +kernel
theorem dX4_areMatch_55 : decode cX4_areMatch 55 = .ok (.iload_n 3, 1) := by decide +kernel
theorem dX4_areMatch_56 : decode cX4_areMatch 56 = .ok (.iconst 1, 1) := by decide +kernel
theorem dX4_areMatch_57 : decode cX4_areMatch 57 = .ok (.if_icmp .eq 8, 3) := by decide +kernel
theorem dX4_areMatch_60 : decode cX4_areMatch 60 = .ok (.iload_n 3, 1) := by decide +kernel
theorem dX4_areMatch_61 : decode cX4_areMatch 61 = .ok (.iconst (-1), 1) := by decide +kernel
theorem dX4_areMatch_62 : decode cX4_areMatch 62 = .ok (.if_icmp .ne 7, 3) := by decide +kernel
theorem dX4_areMatch_65 : decode cX4_areMatch 65 = .ok (.iconst 1, 1) := by decide +kernel
theorem dX4_areMatch_66 : decode cX4_areMatch 66 = .ok (.goto 4, 3) := by decide +kernel
theorem dX4_areMatch_69 : decode cX4_areMatch 69 = .ok (.iconst 0, 1) := by decide +kernel
theorem dX4_areMatch_70 : decode cX4_areMatch 70 = .ok (.ireturn, 1) := by decide +kernel
theorem dX4_parse_0 : decode cX4_parse 0 = .ok (.aload_n 0, 1) := by decide +kernel
theorem dX4_parse_1 : decode cX4_parse 1 = .ok (.aload_n 1, 1) := by decide +kernel
theorem dX4_parse_2 : decode cX4_parse 2 = .ok (.iload_n 2, 1) := by decide +kernel
theorem dX4_parse_3 : decode cX4_parse 3 = .ok (.invokestatic 41, 3) := by decide +kernel
theorem dX4_parse_6 : decode cX4_parse 6 = .ok (.putfield 28, 3) := by decide +kernel
theorem dX4_parse_9 : decode cX4_parse 9 = .ok (.aload_n 0, 1) := by decide +kernel
theorem dX4_parse_10 : decode cX4_parse 10 = .ok (.aload_n 0, 1) := by decide +kernel
theorem dX4_parse_11 : decode cX4_parse 11 = .ok (.getfield 28, 3) := by decide +kernel
theorem dX4_parse_14 : decode cX4_parse 14 = .ok (.iconst (-1), 1) := by decide +kernel
theorem dX4_parse_15 : decode cX4_parse 15 = .ok (.if_icmp .ne 19, 3) := by decide +kernel
theorem dX4_parse_18 : decode cX4_parse 18 = .ok (.aload_n 1, 1) := by decide +kernel
theorem dX4_parse_19 : decode cX4_parse 19 = .ok (.invokevirtual 45, 3) := by decide +kernel
theorem dX4_parse_22 : decode cX4_parse 22 = .ok (.iconst 1, 1) := by decide +kernel
theorem dX4_parse_23 : decode cX4_parse 23 = .ok (.iadd, 1) := by decide +kernel
theorem dX4_parse_24 : decode cX4_parse 24 = .ok (.iconst 5, 1) := by decide +kernel
theorem dX4_parse_25 : decode cX4_parse 25 = .ok (.idiv, 1) := by decide +kernel
theorem dX4_parse_26 : decode cX4_parse 26 = .ok (.bipush 12, 2) := by decide +kernel
theorem dX4_parse_28 : decode cX4_parse 28 = .ok (.invokestatic 51, 3) := by decide +kernel
theorem dX4_parse_31 : decode cX4_parse 31 = .ok (.goto 4, 3) := by decide +kernel
theorem dX4_parse_34 : decode cX4_parse 34 = .ok (.iconst 0, 1) := by decide +kernel
theorem dX4_parse_35 : decode cX4_parse 35 = .ok (.putfield 24, 3) := by decide +kernel
theorem dX4_parse_38 : decode cX4_parse 38 = .ok (.iconst 0, 1) := by decide +kernel
theorem dX4_parse_39 : decode cX4_parse 39 = .ok (.istore_n 3, 1) := by decide +kernel
theorem dX4_parse_40 : decode cX4_parse 40 = .ok (.iload_n 3, 1) := by decide +kernel
theorem dX4_parse_41 : decode cX4_parse 41 = .ok (.aload_n 0, 1) := by decide +kernel
theorem dX4_parse_42 : decode cX4_parse 42 = .ok (.getfield 24, 3) := by decide +kernel
theorem dX4_parse_45 : decode cX4_parse 45 = .ok (.if_icmp .ge 78, 3) := by decide +kernel
theorem dX4_parse_48 : decode cX4_parse 48 = .ok (.iconst 5, 1) := by decide +kernel
theorem dX4_parse_49 : decode cX4_parse 49 = .ok (.iload_n 3, 1) := by decide +kernel
theorem dX4_parse_50 : decode cX4_parse 50 = .ok (.imul, 1) := by decide +kernel
theorem dX4_parse_51 : decode cX4_parse 51 = .ok (.istore 4, 2) := by decide +kernel
theorem dX4_parse_53 : decode cX4_parse 53 = .ok (.aload_n 0, 1) := by decide +kernel
theorem dX4_parse_54 : decode cX4_parse 54 = .ok (.getfield 9, 3) := by decide +kernel
theorem dX4_parse_57 : decode cX4_parse 57 = .ok (.iload_n 3, 1) := by decide +kernel
theorem dX4_parse_58 : decode cX4_parse 58 = .ok (.aload_n 1, 1) := by decide +kernel
theorem dX4_parse_59 : decode cX4_parse 59 = .ok (.iload 4, 2) := by decide +kernel
theorem dX4_parse_61 : decode cX4_parse 61 = .ok (.invokevirtual 55, 3) := by decide +kernel
theorem dX4_parse_64 : decode cX4_parse 64 = .ok (.bipush 109, 2) := by decide +kernel
theorem dX4_parse_66 : decode cX4_parse 66 = .ok (.if_icmp .ne 7, 3) := by decide +kernel
theorem dX4_parse_69 : decode cX4_parse 69 = .ok (.iconst 0, 1) := by decide +kernel
theorem dX4_parse_70 : decode cX4_parse 70 = .ok (.goto 4, 3) := by decide +kernel
theorem dX4_parse_73 : decode cX4_parse 73 = .ok (.iconst 1, 1) := by decide +kernel
theorem dX4_parse_74 : decode cX4_parse 74 = .ok (.iastore, 1) := by decide +kernel
theorem dX4_parse_75 : decode cX4_parse 75 = .ok (.aload_n 0, 1) := by decide +kernel
theorem dX4_parse_76 : decode cX4_parse 76 = .ok (.getfield 15, 3) := by decide +kernel
theorem dX4_parse_79 : decode cX4_parse 79 = .ok (.iload_n 3, 1) := by decide +kernel
theorem dX4_parse_80 : decode cX4_parse 80 = .ok (.aload_n 1, 1) := by decide +kernel
theorem dX4_parse_81 : decode cX4_parse 81 = .ok (.iload 4, 2) := by decide +kernel
theorem dX4_parse_83 : decode cX4_parse 83 = .ok (.iconst 1, 1) := by decide +kernel
theorem dX4_parse_84 : decode cX4_parse 84 = .ok (.iadd, 1) := by decide +kernel
theorem dX4_parse_85 : decode cX4_parse 85 = .ok (.invokevirtual 58, 3) := by decide +kernel
theorem dX4_parse_88 : decode cX4_parse 88 = .ok (.iastore, 1) := by decide +kernel
theorem dX4_parse_89 : decode cX4_parse 89 = .ok (.aload_n 0, 1) := by decide +kernel
theorem dX4_parse_90 : decode cX4_parse 90 = .ok (.getfield 18, 3) := by decide +kernel
theorem dX4_parse_93 : decode cX4_parse 93 = .ok (.iload_n 3, 1) := by decide +kernel
theorem dX4_parse_94 : decode cX4_parse 94 = .ok (.aload_n 1, 1) := by decide +kernel
theorem dX4_parse_95 : decode cX4_parse 95 = .ok (.iload 4, 2) := by decide +kernel
theorem dX4_parse_97 : decode cX4_parse 97 = .ok (.iconst 2, 1) := by decide +kernel
theorem dX4_parse_98 : decode cX4_parse 98 = .ok (.iadd, 1) := by decide +kernel
theorem dX4_parse_99 : decode cX4_parse 99 = .ok (.invokevirtual 58, 3) := by decide +kernel
theorem dX4_parse_102 : decode cX4_parse 102 = .ok (.iastore, 1) := by decide +kernel
theorem dX4_parse_103 : decode cX4_parse 103 = .ok (.aload_n 0, 1) := by decide +kernel
theorem dX4_parse_104 : decode cX4_parse 104 = .ok (.getfield 21, 3) := by decide +kernel
theorem dX4_parse_107 : decode cX4_parse 107 = .ok (.iload_n 3, 1) := by decide +kernel
theorem dX4_parse_108 : decode cX4_parse 108 = .ok (.aload_n 1, 1) := by decide +kernel
theorem dX4_parse_109 : decode cX4_parse 109 = .ok (.iload 4, 2) := by decide +kernel
theorem dX4_parse_111 : decode cX4_parse 111 = .ok (.iconst 3, 1) := by decide +kernel
theorem dX4_parse_112 : decode cX4_parse 112 = .ok (.iadd, 1) := by decide +kernel
theorem dX4_parse_113 : decode cX4_parse 113 = .ok (.invokevirtual 58, 3) := by decide +kernel
theorem dX4_parse_116 : decode cX4_parse 116 = .ok (.iastore, 1) := by decide +kernel
theorem dX4_parse_117 : decode cX4_parse 117 = .ok (.iinc 3 1, 3) := by decide +kernel
theorem dX4_parse_120 : decode cX4_parse 120 = .ok (.goto (-80), 3) := by decide +kernel
theorem dX4_parse_123 : decode cX4_parse 123 = .ok (.return_, 1) := by decide +kernel
theorem dX4_firstFault_0 : decode cX4_firstFault 0 = .ok (.aload_n 0, 1) := by decide +kernel
theorem dX4_firstFault_1 : decode cX4_firstFault 1 = .ok (.invokevirtual 45, 3) := by decide +kernel
theorem dX4_firstFault_4 : decode cX4_firstFault 4 = .ok (.istore_n 2, 1) := by decide +kernel
theorem dX4_firstFault_5 : decode cX4_firstFault 5 = .ok (.iconst 0, 1) := by decide +kernel
theorem dX4_firstFault_6 : decode cX4_firstFault 6 = .ok (.istore_n 3, 1) := by decide +kernel
theorem dX4_firstFault_7 : decode cX4_firstFault 7 = .ok (.iload_n 3, 1) := by decide +kernel
theorem dX4_firstFault_8 : decode cX4_firstFault 8 = .ok (.iload_n 2, 1) := by decide +kernel
theorem dX4_firstFault_9 : decode cX4_firstFault 9 = .ok (.if_icmp .ge 20, 3) := by decide +kernel
theorem dX4_firstFault_12 : decode cX4_firstFault 12 = .ok (.aload_n 0, 1) := by decide +kernel
theorem dX4_firstFault_13 : decode cX4_firstFault 13 = .ok (.iload_n 3, 1) := by decide +kernel
theorem dX4_firstFault_14 : decode cX4_firstFault 14 = .ok (.iload_n 1, 1) := by decide +kernel
theorem dX4_firstFault_15 : decode cX4_firstFault 15 = .ok (.invokestatic 61, 3) := by decide +kernel
theorem dX4_firstFault_18 : decode cX4_firstFault 18 = .ok (.ifCond .ne 5, 3) := by decide +kernel
theorem dX4_firstFault_21 : decode cX4_firstFault 21 = .ok (.iload_n 3, 1) := by decide +kernel
theorem dX4_firstFault_22 : decode cX4_firstFault 22 = .ok (.ireturn, 1) := by decide +kernel
theorem dX4_firstFault_23 : decode cX4_firstFault 23 = .ok (.iinc 3 1, 3) := by decide +kernel
theorem dX4_firstFault_26 : decode cX4_firstFault 26 = .ok (.goto (-19), 3) := by decide +kernel
theorem dX4_firstFault_29 : decode cX4_firstFault 29 = .ok (.iload_n 2, 1) := by decide +kernel
theorem dX4_firstFault_30 : decode cX4_firstFault 30 = .ok (.ifCond .eq 10, 3) := by decide +kernel
theorem dX4_firstFault_33 : decode cX4_firstFault 33 = .ok (.iload_n 2, 1) := by decide +kernel
theorem dX4_firstFault_34 : decode cX4_firstFault 34 = .ok (.iconst 5, 1) := by decide +kernel
theorem dX4_firstFault_35 : decode cX4_firstFault 35 = .ok (.irem, 1) := by decide +kernel
theorem dX4_firstFault_36 : decode cX4_firstFault 36 = .ok (.iconst 4, 1) := by decide +kernel
theorem dX4_firstFault_37 : decode cX4_firstFault 37 = .ok (.if_icmp .ne 7, 3) := by decide +kernel
theorem dX4_firstFault_40 : decode cX4_firstFault 40 = .ok (.iconst (-1), 1) := by decide +kernel
theorem dX4_firstFault_41 : decode cX4_firstFault 41 = .ok (.goto 4, 3) := by decide +kernel
theorem dX4_firstFault_44 : decode cX4_firstFault 44 = .ok (.iload_n 2, 1) := by decide +kernel
theorem dX4_firstFault_45 : decode cX4_firstFault 45 = .ok (.ireturn, 1) := by decide +kernel
theorem dX4_goesOn_0 : decode cX4_goesOn 0 = .ok (.aload_n 0, 1) := by decide +kernel
theorem dX4_goesOn_1 : decode cX4_goesOn 1 = .ok (.iload_n 1, 1) := by decide +kernel
theorem dX4_goesOn_2 : decode cX4_goesOn 2 = .ok (.invokevirtual 58, 3) := by decide +kernel
theorem dX4_goesOn_5 : decode cX4_goesOn 5 = .ok (.istore_n 3, 1) := by decide +kernel
theorem dX4_goesOn_6 : decode cX4_goesOn 6 = .ok (.iload_n 1, 1) := by decide +kernel
theorem dX4_goesOn_7 : decode cX4_goesOn 7 = .ok (.iconst 5, 1) := by decide +kernel
theorem dX4_goesOn_8 : decode cX4_goesOn 8 = .ok (.irem, 1) := by decide +kernel
theorem dX4_goesOn_9 : decode cX4_goesOn 9 = .ok (.tableswitch 103 0 3 #[31, 65, 81, 92], 31) := by decide +kernel
theorem dX4_goesOn_40 : decode cX4_goesOn 40 = .ok (.iload_n 1, 1) := by decide +kernel
theorem dX4_goesOn_41 : decode cX4_goesOn 41 = .ok (.iconst 5, 1) := by decide +kernel
theorem dX4_goesOn_42 : decode cX4_goesOn 42 = .ok (.idiv, 1) := by decide +kernel
theorem dX4_goesOn_43 : decode cX4_goesOn 43 = .ok (.bipush 12, 2) := by decide +kernel
theorem dX4_goesOn_45 : decode cX4_goesOn 45 = .ok (.if_icmp .ge 27, 3) := by decide +kernel
theorem dX4_goesOn_48 : decode cX4_goesOn 48 = .ok (.aload_n 0, 1) := by decide +kernel
theorem dX4_goesOn_49 : decode cX4_goesOn 49 = .ok (.iload_n 1, 1) := by decide +kernel
theorem dX4_goesOn_50 : decode cX4_goesOn 50 = .ok (.invokevirtual 55, 3) := by decide +kernel
theorem dX4_goesOn_53 : decode cX4_goesOn 53 = .ok (.bipush 109, 2) := by decide +kernel
theorem dX4_goesOn_55 : decode cX4_goesOn 55 = .ok (.if_icmp .eq 13, 3) := by decide +kernel
theorem dX4_goesOn_58 : decode cX4_goesOn 58 = .ok (.aload_n 0, 1) := by decide +kernel
theorem dX4_goesOn_59 : decode cX4_goesOn 59 = .ok (.iload_n 1, 1) := by decide +kernel
theorem dX4_goesOn_60 : decode cX4_goesOn 60 = .ok (.invokevirtual 55, 3) := by decide +kernel
theorem dX4_goesOn_63 : decode cX4_goesOn 63 = .ok (.bipush 119, 2) := by decide +kernel
theorem dX4_goesOn_65 : decode cX4_goesOn 65 = .ok (.if_icmp .ne 7, 3) := by decide +kernel
theorem dX4_goesOn_68 : decode cX4_goesOn 68 = .ok (.iconst 1, 1) := by decide +kernel
theorem dX4_goesOn_69 : decode cX4_goesOn 69 = .ok (.goto 4, 3) := by decide +kernel
theorem dX4_goesOn_72 : decode cX4_goesOn 72 = .ok (.iconst 0, 1) := by decide +kernel
theorem dX4_goesOn_73 : decode cX4_goesOn 73 = .ok (.ireturn, 1) := by decide +kernel
theorem dX4_goesOn_74 : decode cX4_goesOn 74 = .ok (.iload_n 3, 1) := by decide +kernel
theorem dX4_goesOn_75 : decode cX4_goesOn 75 = .ok (.iconst (-1), 1) := by decide +kernel
theorem dX4_goesOn_76 : decode cX4_goesOn 76 = .ok (.if_icmp .eq 12, 3) := by decide +kernel
theorem dX4_goesOn_79 : decode cX4_goesOn 79 = .ok (.iload_n 3, 1) := by decide +kernel
theorem dX4_goesOn_80 : decode cX4_goesOn 80 = .ok (.iload_n 2, 1) := by decide +kernel
theorem dX4_goesOn_81 : decode cX4_goesOn 81 = .ok (.if_icmp .ge 7, 3) := by decide +kernel
theorem dX4_goesOn_84 : decode cX4_goesOn 84 = .ok (.iconst 1, 1) := by decide +kernel
theorem dX4_goesOn_85 : decode cX4_goesOn 85 = .ok (.goto 4, 3) := by decide +kernel
theorem dX4_goesOn_88 : decode cX4_goesOn 88 = .ok (.iconst 0, 1) := by decide +kernel
theorem dX4_goesOn_89 : decode cX4_goesOn 89 = .ok (.ireturn, 1) := by decide +kernel
theorem dX4_goesOn_90 : decode cX4_goesOn 90 = .ok (.iload_n 3, 1) := by decide +kernel
theorem dX4_goesOn_91 : decode cX4_goesOn 91 = .ok (.iconst 1, 1) := by decide +kernel
theorem dX4_goesOn_92 : decode cX4_goesOn 92 = .ok (.if_icmp .lt 7, 3) := by decide +kernel
theorem dX4_goesOn_95 : decode cX4_goesOn 95 = .ok (.iconst 1, 1) := by decide +kernel
theorem dX4_goesOn_96 : decode cX4_goesOn 96 = .ok (.goto 4, 3) := by decide +kernel
theorem dX4_goesOn_99 : decode cX4_goesOn 99 = .ok (.iconst 0, 1) := by decide +kernel
theorem dX4_goesOn_100 : decode cX4_goesOn 100 = .ok (.ireturn, 1) := by decide +kernel
theorem dX4_goesOn_101 : decode cX4_goesOn 101 = .ok (.iload_n 3, 1) := by decide +kernel
theorem dX4_goesOn_102 : decode cX4_goesOn 102 = .ok (.iconst (-1), 1) := by decide +kernel
theorem dX4_goesOn_103 : decode cX4_goesOn 103 = .ok (.if_icmp .eq 7, 3) := by decide +kernel
theorem dX4_goesOn_106 : decode cX4_goesOn 106 = .ok (.iconst 1, 1) := by decide +kernel
theorem dX4_goesOn_107 : decode cX4_goesOn 107 = .ok (.goto 4, 3) := by decide +kernel
theorem dX4_goesOn_110 : decode cX4_goesOn 110 = .ok (.iconst 0, 1) := by decide +kernel
theorem dX4_goesOn_111 : decode cX4_goesOn 111 = .ok (.ireturn, 1) := by decide +kernel
theorem dX4_goesOn_112 : decode cX4_goesOn 112 = .ok (.aload_n 0, 1) := by decide +kernel
theorem dX4_goesOn_113 : decode cX4_goesOn 113 = .ok (.iload_n 1, 1) := by decide +kernel
theorem dX4_goesOn_114 : decode cX4_goesOn 114 = .ok (.invokevirtual 55, 3) := by decide +kernel
theorem dX4_goesOn_117 : decode cX4_goesOn 117 = .ok (.bipush 59, 2) := by decide +kernel
theorem dX4_goesOn_119 : decode cX4_goesOn 119 = .ok (.if_icmp .ne 7, 3) := by decide +kernel
theorem dX4_goesOn_122 : decode cX4_goesOn 122 = .ok (.iconst 1, 1) := by decide +kernel
theorem dX4_goesOn_123 : decode cX4_goesOn 123 = .ok (.goto 4, 3) := by decide +kernel
theorem dX4_goesOn_126 : decode cX4_goesOn 126 = .ok (.iconst 0, 1) := by decide +kernel
theorem dX4_goesOn_127 : decode cX4_goesOn 127 = .ok (.ireturn, 1) := by decide +kernel
theorem dX5_init_0 : decode cX5_init 0 = .ok (.aload_n 0, 1) := by decide +kernel
theorem dX5_init_1 : decode cX5_init 1 = .ok (.invokespecial 3, 3) := by decide +kernel
theorem dX5_init_4 : decode cX5_init 4 = .ok (.aload_n 0, 1) := by decide +kernel
theorem dX5_init_5 : decode cX5_init 5 = .ok (.bipush 60, 2) := by decide +kernel
theorem dX5_init_7 : decode cX5_init 7 = .ok (.newarray .int, 2) := by decide +kernel
theorem dX5_init_9 : decode cX5_init 9 = .ok (.putfield 9, 3) := by decide +kernel
theorem dX5_init_12 : decode cX5_init 12 = .ok (.aload_n 0, 1) := by decide +kernel
theorem dX5_init_13 : decode cX5_init 13 = .ok (.iconst 0, 1) := by decide +kernel
theorem dX5_init_14 : decode cX5_init 14 = .ok (.putfield 15, 3) := by decide +kernel
theorem dX5_init_17 : decode cX5_init 17 = .ok (.aload_n 0, 1) := by decide +kernel
theorem dX5_init_18 : decode cX5_init 18 = .ok (.iconst (-1), 1) := by decide +kernel
theorem dX5_init_19 : decode cX5_init 19 = .ok (.putfield 19, 3) := by decide +kernel
theorem dX5_init_22 : decode cX5_init 22 = .ok (.return_, 1) := by decide +kernel
theorem dX5_isLost_0 : decode cX5_isLost 0 = .ok (.aload_n 0, 1) := by decide +kernel
theorem dX5_isLost_1 : decode cX5_isLost 1 = .ok (.getfield 19, 3) := by decide +kernel
theorem dX5_isLost_4 : decode cX5_isLost 4 = .ok (.iconst (-1), 1) := by decide +kernel
theorem dX5_isLost_5 : decode cX5_isLost 5 = .ok (.if_icmp .ne 7, 3) := by decide +kernel
theorem dX5_isLost_8 : decode cX5_isLost 8 = .ok (.iconst 1, 1) := by decide +kernel
theorem dX5_isLost_9 : decode cX5_isLost 9 = .ok (.goto 4, 3) := by decide +kernel
theorem dX5_isLost_12 : decode cX5_isLost 12 = .ok (.iconst 0, 1) := by decide +kernel
theorem dX5_isLost_13 : decode cX5_isLost 13 = .ok (.ireturn, 1) := by decide +kernel
theorem dX5_size_0 : decode cX5_size 0 = .ok (.aload_n 0, 1) := by decide +kernel
theorem dX5_size_1 : decode cX5_size 1 = .ok (.getfield 19, 3) := by decide +kernel
theorem dX5_size_4 : decode cX5_size 4 = .ok (.ireturn, 1) := by decide +kernel
theorem dX5_form_0 : decode cX5_form 0 = .ok (.aload_n 0, 1) := by decide +kernel
theorem dX5_form_1 : decode cX5_form 1 = .ok (.getfield 15, 3) := by decide +kernel
theorem dX5_form_4 : decode cX5_form 4 = .ok (.ireturn, 1) := by decide +kernel
theorem dX5_hasItem_0 : decode cX5_hasItem 0 = .ok (.iload_n 1, 1) := by decide +kernel
theorem dX5_hasItem_1 : decode cX5_hasItem 1 = .ok (.ifCond .lt 21, 3) := by decide +kernel
theorem dX5_hasItem_4 : decode cX5_hasItem 4 = .ok (.iload_n 1, 1) := by decide +kernel
theorem dX5_hasItem_5 : decode cX5_hasItem 5 = .ok (.aload_n 0, 1) := by decide +kernel
theorem dX5_hasItem_6 : decode cX5_hasItem 6 = .ok (.getfield 19, 3) := by decide +kernel
theorem dX5_hasItem_9 : decode cX5_hasItem 9 = .ok (.if_icmp .ge 13, 3) := by decide +kernel
theorem dX5_hasItem_12 : decode cX5_hasItem 12 = .ok (.iload_n 1, 1) := by decide +kernel
theorem dX5_hasItem_13 : decode cX5_hasItem 13 = .ok (.bipush 60, 2) := by decide +kernel
theorem dX5_hasItem_15 : decode cX5_hasItem 15 = .ok (.if_icmp .ge 7, 3) := by decide +kernel
theorem dX5_hasItem_18 : decode cX5_hasItem 18 = .ok (.iconst 1, 1) := by decide +kernel
theorem dX5_hasItem_19 : decode cX5_hasItem 19 = .ok (.goto 4, 3) := by decide +kernel
theorem dX5_hasItem_22 : decode cX5_hasItem 22 = .ok (.iconst 0, 1) := by decide +kernel
theorem dX5_hasItem_23 : decode cX5_hasItem 23 = .ok (.ireturn, 1) := by decide +kernel
theorem dX5_hasSpan_0 : decode cX5_hasSpan 0 = .ok (.iload_n 1, 1) := by decide +kernel
theorem dX5_hasSpan_1 : decode cX5_hasSpan 1 = .ok (.ifCond .lt 21, 3) := by decide +kernel
theorem dX5_hasSpan_4 : decode cX5_hasSpan 4 = .ok (.iload_n 2, 1) := by decide +kernel
theorem dX5_hasSpan_5 : decode cX5_hasSpan 5 = .ok (.ifCond .lt 17, 3) := by decide +kernel
theorem dX5_hasSpan_8 : decode cX5_hasSpan 8 = .ok (.iload_n 2, 1) := by decide +kernel
theorem dX5_hasSpan_9 : decode cX5_hasSpan 9 = .ok (.aload_n 0, 1) := by decide +kernel
theorem dX5_hasSpan_10 : decode cX5_hasSpan 10 = .ok (.getfield 19, 3) := by decide +kernel
theorem dX5_hasSpan_13 : decode cX5_hasSpan 13 = .ok (.iload_n 1, 1) := by decide +kernel
theorem dX5_hasSpan_14 : decode cX5_hasSpan 14 = .ok (.isub, 1) := by decide +kernel
theorem dX5_hasSpan_15 : decode cX5_hasSpan 15 = .ok (.if_icmp .gt 7, 3) := by decide +kernel
theorem dX5_hasSpan_18 : decode cX5_hasSpan 18 = .ok (.iconst 1, 1) := by decide +kernel
theorem dX5_hasSpan_19 : decode cX5_hasSpan 19 = .ok (.goto 4, 3) := by decide +kernel
theorem dX5_hasSpan_22 : decode cX5_hasSpan 22 = .ok (.iconst 0, 1) := by decide +kernel
theorem dX5_hasSpan_23 : decode cX5_hasSpan 23 = .ok (.ireturn, 1) := by decide +kernel
theorem dX5_renew_0 : decode cX5_renew 0 = .ok (.aload_n 0, 1) := by decide +kernel
theorem dX5_renew_1 : decode cX5_renew 1 = .ok (.iload_n 1, 1) := by decide +kernel
theorem dX5_renew_2 : decode cX5_renew 2 = .ok (.putfield 15, 3) := by decide +kernel
theorem dX5_renew_5 : decode cX5_renew 5 = .ok (.aload_n 0, 1) := by decide +kernel
theorem dX5_renew_6 : decode cX5_renew 6 = .ok (.iconst 0, 1) := by decide +kernel
theorem dX5_renew_7 : decode cX5_renew 7 = .ok (.iload_n 2, 1) := by decide +kernel
theorem dX5_renew_8 : decode cX5_renew 8 = .ok (.bipush 60, 2) := by decide +kernel
theorem dX5_renew_10 : decode cX5_renew 10 = .ok (.invokestatic 22, 3) := by decide +kernel
theorem dX5_renew_13 : decode cX5_renew 13 = .ok (.invokestatic 28, 3) := by decide +kernel
theorem dX5_renew_16 : decode cX5_renew 16 = .ok (.putfield 19, 3) := by decide +kernel
theorem dX5_renew_19 : decode cX5_renew 19 = .ok (.aload_n 0, 1) := by decide +kernel
theorem dX5_renew_20 : decode cX5_renew 20 = .ok (.getfield 9, 3) := by decide +kernel
theorem dX5_renew_23 : decode cX5_renew 23 = .ok (.iconst 0, 1) := by decide +kernel
theorem dX5_renew_24 : decode cX5_renew 24 = .ok (.invokestatic 31, 3) := by decide +kernel
theorem dX5_renew_27 : decode cX5_renew 27 = .ok (.return_, 1) := by decide +kernel
theorem dX5_drop_0 : decode cX5_drop 0 = .ok (.aload_n 0, 1) := by decide +kernel
theorem dX5_drop_1 : decode cX5_drop 1 = .ok (.iconst (-1), 1) := by decide +kernel
theorem dX5_drop_2 : decode cX5_drop 2 = .ok (.putfield 19, 3) := by decide +kernel
theorem dX5_drop_5 : decode cX5_drop 5 = .ok (.return_, 1) := by decide +kernel
theorem dX5_itemAt_0 : decode cX5_itemAt 0 = .ok (.aload_n 0, 1) := by decide +kernel
theorem dX5_itemAt_1 : decode cX5_itemAt 1 = .ok (.iload_n 1, 1) := by decide +kernel
theorem dX5_itemAt_2 : decode cX5_itemAt 2 = .ok (.invokevirtual 37, 3) := by decide +kernel
theorem dX5_itemAt_5 : decode cX5_itemAt 5 = .ok (.ifCond .eq 12, 3) := by decide +kernel
theorem dX5_itemAt_8 : decode cX5_itemAt 8 = .ok (.aload_n 0, 1) := by decide +kernel
theorem dX5_itemAt_9 : decode cX5_itemAt 9 = .ok (.getfield 9, 3) := by decide +kernel
theorem dX5_itemAt_12 : decode cX5_itemAt 12 = .ok (.iload_n 1, 1) := by decide +kernel
theorem dX5_itemAt_13 : decode cX5_itemAt 13 = .ok (.iaload, 1) := by decide +kernel
theorem dX5_itemAt_14 : decode cX5_itemAt 14 = .ok (.goto 4, 3) := by decide +kernel
theorem dX5_itemAt_17 : decode cX5_itemAt 17 = .ok (.iconst 0, 1) := by decide +kernel
theorem dX5_itemAt_18 : decode cX5_itemAt 18 = .ok (.ireturn, 1) := by decide +kernel
theorem dX5_put_0 : decode cX5_put 0 = .ok (.aload_n 0, 1) := by decide +kernel
theorem dX5_put_1 : decode cX5_put 1 = .ok (.iload_n 1, 1) := by decide +kernel
theorem dX5_put_2 : decode cX5_put 2 = .ok (.invokevirtual 37, 3) := by decide +kernel
theorem dX5_put_5 : decode cX5_put 5 = .ok (.ifCond .eq 14, 3) := by decide +kernel
theorem dX5_put_8 : decode cX5_put 8 = .ok (.aload_n 0, 1) := by decide +kernel
theorem dX5_put_9 : decode cX5_put 9 = .ok (.getfield 9, 3) := by decide +kernel
theorem dX5_put_12 : decode cX5_put 12 = .ok (.iload_n 1, 1) := by decide +kernel
theorem dX5_put_13 : decode cX5_put 13 = .ok (.aload_n 0, 1) := by decide +kernel
theorem dX5_put_14 : decode cX5_put 14 = .ok (.iload_n 2, 1) := by decide +kernel
theorem dX5_put_15 : decode cX5_put 15 = .ok (.invokevirtual 41, 3) := by decide +kernel
theorem dX5_put_18 : decode cX5_put 18 = .ok (.iastore, 1) := by decide +kernel
theorem dX5_put_19 : decode cX5_put 19 = .ok (.return_, 1) := by decide +kernel
theorem dX5_take_0 : decode cX5_take 0 = .ok (.aload_n 0, 1) := by decide +kernel
theorem dX5_take_1 : decode cX5_take 1 = .ok (.iload_n 1, 1) := by decide +kernel
theorem dX5_take_2 : decode cX5_take 2 = .ok (.iload 4, 2) := by decide +kernel
theorem dX5_take_4 : decode cX5_take 4 = .ok (.invokevirtual 45, 3) := by decide +kernel
theorem dX5_take_7 : decode cX5_take 7 = .ok (.ifCond .eq 28, 3) := by decide +kernel
theorem dX5_take_10 : decode cX5_take 10 = .ok (.aload_n 2, 1) := by decide +kernel
theorem dX5_take_11 : decode cX5_take 11 = .ok (.iload_n 3, 1) := by decide +kernel
theorem dX5_take_12 : decode cX5_take 12 = .ok (.iload 4, 2) := by decide +kernel
theorem dX5_take_14 : decode cX5_take 14 = .ok (.invokevirtual 45, 3) := by decide +kernel
theorem dX5_take_17 : decode cX5_take 17 = .ok (.ifCond .eq 18, 3) := by decide +kernel
theorem dX5_take_20 : decode cX5_take 20 = .ok (.aload_n 2, 1) := by decide +kernel
theorem dX5_take_21 : decode cX5_take 21 = .ok (.getfield 9, 3) := by decide +kernel
theorem dX5_take_24 : decode cX5_take 24 = .ok (.iload_n 3, 1) := by decide +kernel
theorem dX5_take_25 : decode cX5_take 25 = .ok (.aload_n 0, 1) := by decide +kernel
theorem dX5_take_26 : decode cX5_take 26 = .ok (.getfield 9, 3) := by decide +kernel
theorem dX5_take_29 : decode cX5_take 29 = .ok (.iload_n 1, 1) := by decide +kernel
theorem dX5_take_30 : decode cX5_take 30 = .ok (.iload 4, 2) := by decide +kernel
theorem dX5_take_32 : decode cX5_take 32 = .ok (.invokestatic 49, 3) := by decide +kernel
theorem dX5_take_35 : decode cX5_take 35 = .ok (.return_, 1) := by decide +kernel
theorem dX5_fitted_0 : decode cX5_fitted 0 = .ok (.aload_n 0, 1) := by decide +kernel
theorem dX5_fitted_1 : decode cX5_fitted 1 = .ok (.getfield 15, 3) := by decide +kernel
theorem dX5_fitted_4 : decode cX5_fitted 4 = .ok (.ifCond .ne 6, 3) := by decide +kernel
theorem dX5_fitted_7 : decode cX5_fitted 7 = .ok (.iload_n 1, 1) := by decide +kernel
theorem dX5_fitted_8 : decode cX5_fitted 8 = .ok (.i2b, 1) := by decide +kernel
theorem dX5_fitted_9 : decode cX5_fitted 9 = .ok (.ireturn, 1) := by decide +kernel
theorem dX5_fitted_10 : decode cX5_fitted 10 = .ok (.aload_n 0, 1) := by decide +kernel
theorem dX5_fitted_11 : decode cX5_fitted 11 = .ok (.getfield 15, 3) := by decide +kernel
theorem dX5_fitted_14 : decode cX5_fitted 14 = .ok (.iconst 1, 1) := by decide +kernel
theorem dX5_fitted_15 : decode cX5_fitted 15 = .ok (.if_icmp .ne 8, 3) := by decide +kernel
theorem dX5_fitted_18 : decode cX5_fitted 18 = .ok (.iload_n 1, 1) := by decide +kernel
theorem dX5_fitted_19 : decode cX5_fitted 19 = .ok (.i2s, 1) := by decide +kernel
theorem dX5_fitted_20 : decode cX5_fitted 20 = .ok (.goto 4, 3) := by decide +kernel
theorem dX5_fitted_23 : decode cX5_fitted 23 = .ok (.iload_n 1, 1) := by decide +kernel
theorem dX5_fitted_24 : decode cX5_fitted 24 = .ok (.ireturn, 1) := by decide +kernel
theorem dX6_init_0 : decode cX6_init 0 = .ok (.aload_n 0, 1) := by decide +kernel
theorem dX6_init_1 : decode cX6_init 1 = .ok (.invokespecial 3, 3) := by decide +kernel
theorem dX6_init_4 : decode cX6_init 4 = .ok (.aload_n 0, 1) := by decide +kernel
theorem dX6_init_5 : decode cX6_init 5 = .ok (.bipush 52, 2) := by decide +kernel
theorem dX6_init_7 : decode cX6_init 7 = .ok (.newarray .int, 2) := by decide +kernel
theorem dX6_init_9 : decode cX6_init 9 = .ok (.putfield 9, 3) := by decide +kernel
theorem dX6_init_12 : decode cX6_init 12 = .ok (.return_, 1) := by decide +kernel
theorem dX6_cloudsIn_0 : decode cX6_cloudsIn 0 = .ok (.iload_n 1, 1) := by decide +kernel
theorem dX6_cloudsIn_1 : decode cX6_cloudsIn 1 = .ok (.iconst 0, 1) := by decide +kernel
theorem dX6_cloudsIn_2 : decode cX6_cloudsIn 2 = .ok (.bipush 51, 2) := by decide +kernel
theorem dX6_cloudsIn_4 : decode cX6_cloudsIn 4 = .ok (.invokestatic 15, 3) := by decide +kernel
theorem dX6_cloudsIn_7 : decode cX6_cloudsIn 7 = .ok (.ifCond .eq 12, 3) := by decide +kernel
theorem dX6_cloudsIn_10 : decode cX6_cloudsIn 10 = .ok (.aload_n 0, 1) := by decide +kernel
theorem dX6_cloudsIn_11 : decode cX6_cloudsIn 11 = .ok (.getfield 9, 3) := by decide +kernel
theorem dX6_cloudsIn_14 : decode cX6_cloudsIn 14 = .ok (.iload_n 1, 1) := by decide +kernel
theorem dX6_cloudsIn_15 : decode cX6_cloudsIn 15 = .ok (.iaload, 1) := by decide +kernel
theorem dX6_cloudsIn_16 : decode cX6_cloudsIn 16 = .ok (.goto 4, 3) := by decide +kernel
theorem dX6_cloudsIn_19 : decode cX6_cloudsIn 19 = .ok (.iconst 0, 1) := by decide +kernel
theorem dX6_cloudsIn_20 : decode cX6_cloudsIn 20 = .ok (.ireturn, 1) := by decide +kernel
theorem dX6_setClouds_0 : decode cX6_setClouds 0 = .ok (.iload_n 1, 1) := by decide +kernel
theorem dX6_setClouds_1 : decode cX6_setClouds 1 = .ok (.iconst 0, 1) := by decide +kernel
theorem dX6_setClouds_2 : decode cX6_setClouds 2 = .ok (.bipush 51, 2) := by decide +kernel
theorem dX6_setClouds_4 : decode cX6_setClouds 4 = .ok (.invokestatic 15, 3) := by decide +kernel
theorem dX6_setClouds_7 : decode cX6_setClouds 7 = .ok (.ifCond .eq 10, 3) := by decide +kernel
theorem dX6_setClouds_10 : decode cX6_setClouds 10 = .ok (.aload_n 0, 1) := by decide +kernel
theorem dX6_setClouds_11 : decode cX6_setClouds 11 = .ok (.getfield 9, 3) := by decide +kernel
theorem dX6_setClouds_14 : decode cX6_setClouds 14 = .ok (.iload_n 1, 1) := by decide +kernel
theorem dX6_setClouds_15 : decode cX6_setClouds 15 = .ok (.iload_n 2, 1) := by decide +kernel
theorem dX6_setClouds_16 : decode cX6_setClouds 16 = .ok (.iastore, 1) := by decide +kernel
theorem dX6_setClouds_17 : decode cX6_setClouds 17 = .ok (.return_, 1) := by decide +kernel
theorem dX6_cloudedWeeks_0 : decode cX6_cloudedWeeks 0 = .ok (.iconst 0, 1) := by decide +kernel
theorem dX6_cloudedWeeks_1 : decode cX6_cloudedWeeks 1 = .ok (.istore_n 1, 1) := by decide +kernel
theorem dX6_cloudedWeeks_2 : decode cX6_cloudedWeeks 2 = .ok (.aload_n 0, 1) := by decide +kernel
theorem dX6_cloudedWeeks_3 : decode cX6_cloudedWeeks 3 = .ok (.getfield 9, 3) := by decide +kernel
theorem dX6_cloudedWeeks_6 : decode cX6_cloudedWeeks 6 = .ok (.astore_n 2, 1) := by decide +kernel
theorem dX6_cloudedWeeks_7 : decode cX6_cloudedWeeks 7 = .ok (.aload_n 2, 1) := by decide +kernel
theorem dX6_cloudedWeeks_8 : decode cX6_cloudedWeeks 8 = .ok (.arraylength, 1) := by decide +kernel
theorem dX6_cloudedWeeks_9 : decode cX6_cloudedWeeks 9 = .ok (.istore_n 3, 1) := by decide +kernel
theorem dX6_cloudedWeeks_10 : decode cX6_cloudedWeeks 10 = .ok (.iconst 0, 1) := by decide +kernel
theorem dX6_cloudedWeeks_11 : decode cX6_cloudedWeeks 11 = .ok (.istore 4, 2) := by decide +kernel
theorem dX6_cloudedWeeks_13 : decode cX6_cloudedWeeks 13 = .ok (.iload 4, 2) := by decide +kernel
theorem dX6_cloudedWeeks_15 : decode cX6_cloudedWeeks 15 = .ok (.iload_n 3, 1) := by decide +kernel
theorem dX6_cloudedWeeks_16 : decode cX6_cloudedWeeks 16 = .ok (.if_icmp .ge 20, 3) := by decide +kernel
theorem dX6_cloudedWeeks_19 : decode cX6_cloudedWeeks 19 = .ok (.aload_n 2, 1) := by decide +kernel
theorem dX6_cloudedWeeks_20 : decode cX6_cloudedWeeks 20 = .ok (.iload 4, 2) := by decide +kernel
theorem dX6_cloudedWeeks_22 : decode cX6_cloudedWeeks 22 = .ok (.iaload, 1) := by decide +kernel
theorem dX6_cloudedWeeks_23 : decode cX6_cloudedWeeks 23 = .ok (.istore 5, 2) := by decide +kernel
theorem dX6_cloudedWeeks_25 : decode cX6_cloudedWeeks 25 = .ok (.iload_n 1, 1) := by decide +kernel
theorem dX6_cloudedWeeks_26 : decode cX6_cloudedWeeks 26 = .ok (.iload 5, 2) := by decide +kernel
theorem dX6_cloudedWeeks_28 : decode cX6_cloudedWeeks 28 = .ok (.iadd, 1) := by decide +kernel
theorem dX6_cloudedWeeks_29 : decode cX6_cloudedWeeks 29 = .ok (.istore_n 1, 1) := by decide +kernel
theorem dX6_cloudedWeeks_30 : decode cX6_cloudedWeeks 30 = .ok (.iinc 4 1, 3) := by decide +kernel
theorem dX6_cloudedWeeks_33 : decode cX6_cloudedWeeks 33 = .ok (.goto (-20), 3) := by decide +kernel
theorem dX6_cloudedWeeks_36 : decode cX6_cloudedWeeks 36 = .ok (.iload_n 1, 1) := by decide +kernel
theorem dX6_cloudedWeeks_37 : decode cX6_cloudedWeeks 37 = .ok (.ireturn, 1) := by decide +kernel
theorem dX7_init_0 : decode cX7_init 0 = .ok (.aload_n 0, 1) := by decide +kernel
theorem dX7_init_1 : decode cX7_init 1 = .ok (.invokespecial 3, 3) := by decide +kernel
theorem dX7_init_4 : decode cX7_init 4 = .ok (.aload_n 0, 1) := by decide +kernel
theorem dX7_init_5 : decode cX7_init 5 = .ok (.bipush 8, 2) := by decide +kernel
theorem dX7_init_7 : decode cX7_init 7 = .ok (.newarray .int, 2) := by decide +kernel
theorem dX7_init_9 : decode cX7_init 9 = .ok (.putfield 9, 3) := by decide +kernel
theorem dX7_init_12 : decode cX7_init 12 = .ok (.aload_n 0, 1) := by decide +kernel
theorem dX7_init_13 : decode cX7_init 13 = .ok (.bipush 8, 2) := by decide +kernel
theorem dX7_init_15 : decode cX7_init 15 = .ok (.newarray .int, 2) := by decide +kernel
theorem dX7_init_17 : decode cX7_init 17 = .ok (.putfield 15, 3) := by decide +kernel
theorem dX7_init_20 : decode cX7_init 20 = .ok (.aload_n 0, 1) := by decide +kernel
theorem dX7_init_21 : decode cX7_init 21 = .ok (.bipush 8, 2) := by decide +kernel
theorem dX7_init_23 : decode cX7_init 23 = .ok (.newarray .int, 2) := by decide +kernel
theorem dX7_init_25 : decode cX7_init 25 = .ok (.putfield 18, 3) := by decide +kernel
theorem dX7_init_28 : decode cX7_init 28 = .ok (.aload_n 0, 1) := by decide +kernel
theorem dX7_init_29 : decode cX7_init 29 = .ok (.iconst 0, 1) := by decide +kernel
theorem dX7_init_30 : decode cX7_init 30 = .ok (.putfield 21, 3) := by decide +kernel
theorem dX7_init_33 : decode cX7_init 33 = .ok (.return_, 1) := by decide +kernel
theorem dX7_number_0 : decode cX7_number 0 = .ok (.aload_n 0, 1) := by decide +kernel
theorem dX7_number_1 : decode cX7_number 1 = .ok (.getfield 21, 3) := by decide +kernel
theorem dX7_number_4 : decode cX7_number 4 = .ok (.ireturn, 1) := by decide +kernel
theorem dX7_isFull_0 : decode cX7_isFull 0 = .ok (.aload_n 0, 1) := by decide +kernel
theorem dX7_isFull_1 : decode cX7_isFull 1 = .ok (.getfield 21, 3) := by decide +kernel
theorem dX7_isFull_4 : decode cX7_isFull 4 = .ok (.bipush 8, 2) := by decide +kernel
theorem dX7_isFull_6 : decode cX7_isFull 6 = .ok (.if_icmp .lt 7, 3) := by decide +kernel
theorem dX7_isFull_9 : decode cX7_isFull 9 = .ok (.iconst 1, 1) := by decide +kernel
theorem dX7_isFull_10 : decode cX7_isFull 10 = .ok (.goto 4, 3) := by decide +kernel
theorem dX7_isFull_13 : decode cX7_isFull 13 = .ok (.iconst 0, 1) := by decide +kernel
theorem dX7_isFull_14 : decode cX7_isFull 14 = .ok (.ireturn, 1) := by decide +kernel
theorem dX7_add_0 : decode cX7_add 0 = .ok (.aload_n 0, 1) := by decide +kernel
theorem dX7_add_1 : decode cX7_add 1 = .ok (.invokevirtual 25, 3) := by decide +kernel
theorem dX7_add_4 : decode cX7_add 4 = .ok (.ifCond .eq 4, 3) := by decide +kernel
theorem dX7_add_7 : decode cX7_add 7 = .ok (.return_, 1) := by decide +kernel
theorem dX7_add_8 : decode cX7_add 8 = .ok (.aload_n 0, 1) := by decide +kernel
theorem dX7_add_9 : decode cX7_add 9 = .ok (.getfield 9, 3) := by decide +kernel
theorem dX7_add_12 : decode cX7_add 12 = .ok (.aload_n 0, 1) := by decide +kernel
theorem dX7_add_13 : decode cX7_add 13 = .ok (.getfield 21, 3) := by decide +kernel
theorem dX7_add_16 : decode cX7_add 16 = .ok (.iload_n 1, 1) := by decide +kernel
theorem dX7_add_17 : decode cX7_add 17 = .ok (.iastore, 1) := by decide +kernel
theorem dX7_add_18 : decode cX7_add 18 = .ok (.aload_n 0, 1) := by decide +kernel
theorem dX7_add_19 : decode cX7_add 19 = .ok (.getfield 15, 3) := by decide +kernel
theorem dX7_add_22 : decode cX7_add 22 = .ok (.aload_n 0, 1) := by decide +kernel
theorem dX7_add_23 : decode cX7_add 23 = .ok (.getfield 21, 3) := by decide +kernel
theorem dX7_add_26 : decode cX7_add 26 = .ok (.iload_n 2, 1) := by decide +kernel
theorem dX7_add_27 : decode cX7_add 27 = .ok (.iastore, 1) := by decide +kernel
theorem dX7_add_28 : decode cX7_add 28 = .ok (.aload_n 0, 1) := by decide +kernel
theorem dX7_add_29 : decode cX7_add 29 = .ok (.getfield 18, 3) := by decide +kernel
theorem dX7_add_32 : decode cX7_add 32 = .ok (.aload_n 0, 1) := by decide +kernel
theorem dX7_add_33 : decode cX7_add 33 = .ok (.getfield 21, 3) := by decide +kernel
theorem dX7_add_36 : decode cX7_add 36 = .ok (.iload_n 3, 1) := by decide +kernel
theorem dX7_add_37 : decode cX7_add 37 = .ok (.iastore, 1) := by decide +kernel
theorem dX7_add_38 : decode cX7_add 38 = .ok (.aload_n 0, 1) := by decide +kernel
theorem dX7_add_39 : decode cX7_add 39 = .ok (.dup, 1) := by decide +kernel
theorem dX7_add_40 : decode cX7_add 40 = .ok (.getfield 21, 3) := by decide +kernel
theorem dX7_add_43 : decode cX7_add 43 = .ok (.iconst 1, 1) := by decide +kernel
theorem dX7_add_44 : decode cX7_add 44 = .ok (.iadd, 1) := by decide +kernel
theorem dX7_add_45 : decode cX7_add 45 = .ok (.putfield 21, 3) := by decide +kernel
theorem dX7_add_48 : decode cX7_add 48 = .ok (.return_, 1) := by decide +kernel
theorem dX7_clear_0 : decode cX7_clear 0 = .ok (.aload_n 0, 1) := by decide +kernel
theorem dX7_clear_1 : decode cX7_clear 1 = .ok (.iconst 0, 1) := by decide +kernel
theorem dX7_clear_2 : decode cX7_clear 2 = .ok (.putfield 21, 3) := by decide +kernel
theorem dX7_clear_5 : decode cX7_clear 5 = .ok (.return_, 1) := by decide +kernel
theorem dX7_unaskable_0 : decode cX7_unaskable 0 = .ok (.iconst 0, 1) := by decide +kernel
theorem dX7_unaskable_1 : decode cX7_unaskable 1 = .ok (.istore_n 3, 1) := by decide +kernel
theorem dX7_unaskable_2 : decode cX7_unaskable 2 = .ok (.iconst 0, 1) := by decide +kernel
theorem dX7_unaskable_3 : decode cX7_unaskable 3 = .ok (.istore 4, 2) := by decide +kernel
theorem dX7_unaskable_5 : decode cX7_unaskable 5 = .ok (.iload 4, 2) := by decide +kernel
theorem dX7_unaskable_7 : decode cX7_unaskable 7 = .ok (.aload_n 0, 1) := by decide +kernel
theorem dX7_unaskable_8 : decode cX7_unaskable 8 = .ok (.getfield 21, 3) := by decide +kernel
theorem dX7_unaskable_11 : decode cX7_unaskable 11 = .ok (.if_icmp .ge 47, 3) := by decide +kernel
theorem dX7_unaskable_14 : decode cX7_unaskable 14 = .ok (.iload 4, 2) := by decide +kernel
theorem dX7_unaskable_16 : decode cX7_unaskable 16 = .ok (.bipush 8, 2) := by decide +kernel
theorem dX7_unaskable_18 : decode cX7_unaskable 18 = .ok (.if_icmp .ge 40, 3) := by decide +kernel
theorem dX7_unaskable_21 : decode cX7_unaskable 21 = .ok (.aload_n 1, 1) := by decide +kernel
theorem dX7_unaskable_22 : decode cX7_unaskable 22 = .ok (.aload_n 0, 1) := by decide +kernel
theorem dX7_unaskable_23 : decode cX7_unaskable 23 = .ok (.getfield 9, 3) := by decide +kernel
theorem dX7_unaskable_26 : decode cX7_unaskable 26 = .ok (.iload 4, 2) := by decide +kernel
theorem dX7_unaskable_28 : decode cX7_unaskable 28 = .ok (.iaload, 1) := by decide +kernel
theorem dX7_unaskable_29 : decode cX7_unaskable 29 = .ok (.invokevirtual 29, 3) := by decide +kernel
theorem dX7_unaskable_32 : decode cX7_unaskable 32 = .ok (.ifCond .eq 17, 3) := by decide +kernel
theorem dX7_unaskable_35 : decode cX7_unaskable 35 = .ok (.aload_n 0, 1) := by decide +kernel
theorem dX7_unaskable_36 : decode cX7_unaskable 36 = .ok (.getfield 15, 3) := by decide +kernel
theorem dX7_unaskable_39 : decode cX7_unaskable 39 = .ok (.iload 4, 2) := by decide +kernel
theorem dX7_unaskable_41 : decode cX7_unaskable 41 = .ok (.iaload, 1) := by decide +kernel
theorem dX7_unaskable_42 : decode cX7_unaskable 42 = .ok (.aload_n 2, 1) := by decide +kernel
theorem dX7_unaskable_43 : decode cX7_unaskable 43 = .ok (.invokevirtual 35, 3) := by decide +kernel
theorem dX7_unaskable_46 : decode cX7_unaskable 46 = .ok (.if_icmp .le 6, 3) := by decide +kernel
theorem dX7_unaskable_49 : decode cX7_unaskable 49 = .ok (.iinc 3 1, 3) := by decide +kernel
theorem dX7_unaskable_52 : decode cX7_unaskable 52 = .ok (.iinc 4 1, 3) := by decide +kernel
theorem dX7_unaskable_55 : decode cX7_unaskable 55 = .ok (.goto (-50), 3) := by decide +kernel
theorem dX7_unaskable_58 : decode cX7_unaskable 58 = .ok (.iload_n 3, 1) := by decide +kernel
theorem dX7_unaskable_59 : decode cX7_unaskable 59 = .ok (.ireturn, 1) := by decide +kernel
theorem dX7_otherwiseIn_0 : decode cX7_otherwiseIn 0 = .ok (.iconst 0, 1) := by decide +kernel
theorem dX7_otherwiseIn_1 : decode cX7_otherwiseIn 1 = .ok (.istore 4, 2) := by decide +kernel
theorem dX7_otherwiseIn_3 : decode cX7_otherwiseIn 3 = .ok (.aload_n 1, 1) := by decide +kernel
theorem dX7_otherwiseIn_4 : decode cX7_otherwiseIn 4 = .ok (.invokevirtual 40, 3) := by decide +kernel
theorem dX7_otherwiseIn_7 : decode cX7_otherwiseIn 7 = .ok (.iconst 0, 1) := by decide +kernel
theorem dX7_otherwiseIn_8 : decode cX7_otherwiseIn 8 = .ok (.istore 5, 2) := by decide +kernel
theorem dX7_otherwiseIn_10 : decode cX7_otherwiseIn 10 = .ok (.iload 5, 2) := by decide +kernel
theorem dX7_otherwiseIn_12 : decode cX7_otherwiseIn 12 = .ok (.aload_n 3, 1) := by decide +kernel
theorem dX7_otherwiseIn_13 : decode cX7_otherwiseIn 13 = .ok (.invokevirtual 35, 3) := by decide +kernel
theorem dX7_otherwiseIn_16 : decode cX7_otherwiseIn 16 = .ok (.if_icmp .gt 99, 3) := by decide +kernel
theorem dX7_otherwiseIn_19 : decode cX7_otherwiseIn 19 = .ok (.iconst 0, 1) := by decide +kernel
theorem dX7_otherwiseIn_20 : decode cX7_otherwiseIn 20 = .ok (.istore 6, 2) := by decide +kernel
theorem dX7_otherwiseIn_22 : decode cX7_otherwiseIn 22 = .ok (.iload 6, 2) := by decide +kernel
theorem dX7_otherwiseIn_24 : decode cX7_otherwiseIn 24 = .ok (.aload_n 0, 1) := by decide +kernel
theorem dX7_otherwiseIn_25 : decode cX7_otherwiseIn 25 = .ok (.getfield 21, 3) := by decide +kernel
theorem dX7_otherwiseIn_28 : decode cX7_otherwiseIn 28 = .ok (.if_icmp .ge 66, 3) := by decide +kernel
theorem dX7_otherwiseIn_31 : decode cX7_otherwiseIn 31 = .ok (.iload 6, 2) := by decide +kernel
theorem dX7_otherwiseIn_33 : decode cX7_otherwiseIn 33 = .ok (.bipush 8, 2) := by decide +kernel
theorem dX7_otherwiseIn_35 : decode cX7_otherwiseIn 35 = .ok (.if_icmp .ge 59, 3) := by decide +kernel
theorem dX7_otherwiseIn_38 : decode cX7_otherwiseIn 38 = .ok (.aload_n 0, 1) := by decide +kernel
theorem dX7_otherwiseIn_39 : decode cX7_otherwiseIn 39 = .ok (.getfield 15, 3) := by decide +kernel
theorem dX7_otherwiseIn_42 : decode cX7_otherwiseIn 42 = .ok (.iload 6, 2) := by decide +kernel
theorem dX7_otherwiseIn_44 : decode cX7_otherwiseIn 44 = .ok (.iaload, 1) := by decide +kernel
theorem dX7_otherwiseIn_45 : decode cX7_otherwiseIn 45 = .ok (.iload 5, 2) := by decide +kernel
theorem dX7_otherwiseIn_47 : decode cX7_otherwiseIn 47 = .ok (.if_icmp .ne 41, 3) := by decide +kernel
theorem dX7_otherwiseIn_50 : decode cX7_otherwiseIn 50 = .ok (.aload_n 2, 1) := by decide +kernel
theorem dX7_otherwiseIn_51 : decode cX7_otherwiseIn 51 = .ok (.aload_n 0, 1) := by decide +kernel
theorem dX7_otherwiseIn_52 : decode cX7_otherwiseIn 52 = .ok (.getfield 9, 3) := by decide +kernel
theorem dX7_otherwiseIn_55 : decode cX7_otherwiseIn 55 = .ok (.iload 6, 2) := by decide +kernel
theorem dX7_otherwiseIn_57 : decode cX7_otherwiseIn 57 = .ok (.iaload, 1) := by decide +kernel
theorem dX7_otherwiseIn_58 : decode cX7_otherwiseIn 58 = .ok (.invokevirtual 29, 3) := by decide +kernel
theorem dX7_otherwiseIn_61 : decode cX7_otherwiseIn 61 = .ok (.ifCond .eq 27, 3) := by decide +kernel
theorem dX7_otherwiseIn_64 : decode cX7_otherwiseIn 64 = .ok (.aload_n 1, 1) := by decide +kernel
theorem dX7_otherwiseIn_65 : decode cX7_otherwiseIn 65 = .ok (.aload_n 0, 1) := by decide +kernel
theorem dX7_otherwiseIn_66 : decode cX7_otherwiseIn 66 = .ok (.getfield 9, 3) := by decide +kernel
theorem dX7_otherwiseIn_69 : decode cX7_otherwiseIn 69 = .ok (.iload 6, 2) := by decide +kernel
theorem dX7_otherwiseIn_71 : decode cX7_otherwiseIn 71 = .ok (.iaload, 1) := by decide +kernel
theorem dX7_otherwiseIn_72 : decode cX7_otherwiseIn 72 = .ok (.invokevirtual 45, 3) := by decide +kernel
theorem dX7_otherwiseIn_75 : decode cX7_otherwiseIn 75 = .ok (.aload_n 0, 1) := by decide +kernel
theorem dX7_otherwiseIn_76 : decode cX7_otherwiseIn 76 = .ok (.getfield 18, 3) := by decide +kernel
theorem dX7_otherwiseIn_79 : decode cX7_otherwiseIn 79 = .ok (.iload 6, 2) := by decide +kernel
theorem dX7_otherwiseIn_81 : decode cX7_otherwiseIn 81 = .ok (.iaload, 1) := by decide +kernel
theorem dX7_otherwiseIn_82 : decode cX7_otherwiseIn 82 = .ok (.if_icmp .eq 6, 3) := by decide +kernel
theorem dX7_otherwiseIn_85 : decode cX7_otherwiseIn 85 = .ok (.iinc 4 1, 3) := by decide +kernel
theorem dX7_otherwiseIn_88 : decode cX7_otherwiseIn 88 = .ok (.iinc 6 1, 3) := by decide +kernel
theorem dX7_otherwiseIn_91 : decode cX7_otherwiseIn 91 = .ok (.goto (-69), 3) := by decide +kernel
theorem dX7_otherwiseIn_94 : decode cX7_otherwiseIn 94 = .ok (.aload_n 3, 1) := by decide +kernel
theorem dX7_otherwiseIn_95 : decode cX7_otherwiseIn 95 = .ok (.iload 5, 2) := by decide +kernel
theorem dX7_otherwiseIn_97 : decode cX7_otherwiseIn 97 = .ok (.invokevirtual 49, 3) := by decide +kernel
theorem dX7_otherwiseIn_100 : decode cX7_otherwiseIn 100 = .ok (.ifCond .eq 9, 3) := by decide +kernel
theorem dX7_otherwiseIn_103 : decode cX7_otherwiseIn 103 = .ok (.aload_n 1, 1) := by decide +kernel
theorem dX7_otherwiseIn_104 : decode cX7_otherwiseIn 104 = .ok (.iload 5, 2) := by decide +kernel
theorem dX7_otherwiseIn_106 : decode cX7_otherwiseIn 106 = .ok (.invokevirtual 50, 3) := by decide +kernel
theorem dX7_otherwiseIn_109 : decode cX7_otherwiseIn 109 = .ok (.iinc 5 1, 3) := by decide +kernel
theorem dX7_otherwiseIn_112 : decode cX7_otherwiseIn 112 = .ok (.goto (-102), 3) := by decide +kernel
theorem dX7_otherwiseIn_115 : decode cX7_otherwiseIn 115 = .ok (.iload 4, 2) := by decide +kernel
theorem dX7_otherwiseIn_117 : decode cX7_otherwiseIn 117 = .ok (.ireturn, 1) := by decide +kernel
theorem dX8_init_0 : decode cX8_init 0 = .ok (.aload_n 0, 1) := by decide +kernel
theorem dX8_init_1 : decode cX8_init 1 = .ok (.invokespecial 3, 3) := by decide +kernel
theorem dX8_init_4 : decode cX8_init 4 = .ok (.aload_n 0, 1) := by decide +kernel
theorem dX8_init_5 : decode cX8_init 5 = .ok (.iconst 0, 1) := by decide +kernel
theorem dX8_init_6 : decode cX8_init 6 = .ok (.putfield 9, 3) := by decide +kernel
theorem dX8_init_9 : decode cX8_init 9 = .ok (.aload_n 0, 1) := by decide +kernel
theorem dX8_init_10 : decode cX8_init 10 = .ok (.iload_n 1, 1) := by decide +kernel
theorem dX8_init_11 : decode cX8_init 11 = .ok (.iconst 0, 1) := by decide +kernel
theorem dX8_init_12 : decode cX8_init 12 = .ok (.invokestatic 15, 3) := by decide +kernel
theorem dX8_init_15 : decode cX8_init 15 = .ok (.newarray .int, 2) := by decide +kernel
theorem dX8_init_17 : decode cX8_init 17 = .ok (.putfield 21, 3) := by decide +kernel
theorem dX8_init_20 : decode cX8_init 20 = .ok (.return_, 1) := by decide +kernel
theorem dX8_length_0 : decode cX8_length 0 = .ok (.aload_n 0, 1) := by decide +kernel
theorem dX8_length_1 : decode cX8_length 1 = .ok (.getfield 9, 3) := by decide +kernel
theorem dX8_length_4 : decode cX8_length 4 = .ok (.ireturn, 1) := by decide +kernel
theorem dX8_isFull_0 : decode cX8_isFull 0 = .ok (.aload_n 0, 1) := by decide +kernel
theorem dX8_isFull_1 : decode cX8_isFull 1 = .ok (.getfield 9, 3) := by decide +kernel
theorem dX8_isFull_4 : decode cX8_isFull 4 = .ok (.aload_n 0, 1) := by decide +kernel
theorem dX8_isFull_5 : decode cX8_isFull 5 = .ok (.getfield 21, 3) := by decide +kernel
theorem dX8_isFull_8 : decode cX8_isFull 8 = .ok (.arraylength, 1) := by decide +kernel
theorem dX8_isFull_9 : decode cX8_isFull 9 = .ok (.if_icmp .lt 7, 3) := by decide +kernel
theorem dX8_isFull_12 : decode cX8_isFull 12 = .ok (.iconst 1, 1) := by decide +kernel
theorem dX8_isFull_13 : decode cX8_isFull 13 = .ok (.goto 4, 3) := by decide +kernel
theorem dX8_isFull_16 : decode cX8_isFull 16 = .ok (.iconst 0, 1) := by decide +kernel
theorem dX8_isFull_17 : decode cX8_isFull 17 = .ok (.ireturn, 1) := by decide +kernel
theorem dX8_append_0 : decode cX8_append 0 = .ok (.aload_n 0, 1) := by decide +kernel
theorem dX8_append_1 : decode cX8_append 1 = .ok (.invokevirtual 25, 3) := by decide +kernel
theorem dX8_append_4 : decode cX8_append 4 = .ok (.ifCond .ne 23, 3) := by decide +kernel
theorem dX8_append_7 : decode cX8_append 7 = .ok (.aload_n 0, 1) := by decide +kernel
theorem dX8_append_8 : decode cX8_append 8 = .ok (.getfield 21, 3) := by decide +kernel
theorem dX8_append_11 : decode cX8_append 11 = .ok (.aload_n 0, 1) := by decide +kernel
theorem dX8_append_12 : decode cX8_append 12 = .ok (.getfield 9, 3) := by decide +kernel
theorem dX8_append_15 : decode cX8_append 15 = .ok (.iload_n 1, 1) := by decide +kernel
theorem dX8_append_16 : decode cX8_append 16 = .ok (.iastore, 1) := by decide +kernel
theorem dX8_append_17 : decode cX8_append 17 = .ok (.aload_n 0, 1) := by decide +kernel
theorem dX8_append_18 : decode cX8_append 18 = .ok (.dup, 1) := by decide +kernel
theorem dX8_append_19 : decode cX8_append 19 = .ok (.getfield 9, 3) := by decide +kernel
theorem dX8_append_22 : decode cX8_append 22 = .ok (.iconst 1, 1) := by decide +kernel
theorem dX8_append_23 : decode cX8_append 23 = .ok (.iadd, 1) := by decide +kernel
theorem dX8_append_24 : decode cX8_append 24 = .ok (.putfield 9, 3) := by decide +kernel
theorem dX8_append_27 : decode cX8_append 27 = .ok (.return_, 1) := by decide +kernel
theorem dX8_clear_0 : decode cX8_clear 0 = .ok (.aload_n 0, 1) := by decide +kernel
theorem dX8_clear_1 : decode cX8_clear 1 = .ok (.iconst 0, 1) := by decide +kernel
theorem dX8_clear_2 : decode cX8_clear 2 = .ok (.putfield 9, 3) := by decide +kernel
theorem dX8_clear_5 : decode cX8_clear 5 = .ok (.return_, 1) := by decide +kernel
theorem dX8_at_0 : decode cX8_at 0 = .ok (.iload_n 1, 1) := by decide +kernel
theorem dX8_at_1 : decode cX8_at 1 = .ok (.ifCond .lt 20, 3) := by decide +kernel
theorem dX8_at_4 : decode cX8_at 4 = .ok (.iload_n 1, 1) := by decide +kernel
theorem dX8_at_5 : decode cX8_at 5 = .ok (.aload_n 0, 1) := by decide +kernel
theorem dX8_at_6 : decode cX8_at 6 = .ok (.getfield 9, 3) := by decide +kernel
theorem dX8_at_9 : decode cX8_at 9 = .ok (.if_icmp .ge 12, 3) := by decide +kernel
theorem dX8_at_12 : decode cX8_at 12 = .ok (.aload_n 0, 1) := by decide +kernel
theorem dX8_at_13 : decode cX8_at 13 = .ok (.getfield 21, 3) := by decide +kernel
theorem dX8_at_16 : decode cX8_at 16 = .ok (.iload_n 1, 1) := by decide +kernel
theorem dX8_at_17 : decode cX8_at 17 = .ok (.iaload, 1) := by decide +kernel
theorem dX8_at_18 : decode cX8_at 18 = .ok (.goto 4, 3) := by decide +kernel
theorem dX8_at_21 : decode cX8_at 21 = .ok (.iconst (-1), 1) := by decide +kernel
theorem dX8_at_22 : decode cX8_at 22 = .ok (.ireturn, 1) := by decide +kernel
theorem dX8_figureAt_0 : decode cX8_figureAt 0 = .ok (.aload_n 0, 1) := by decide +kernel
theorem dX8_figureAt_1 : decode cX8_figureAt 1 = .ok (.iload_n 1, 1) := by decide +kernel
theorem dX8_figureAt_2 : decode cX8_figureAt 2 = .ok (.invokevirtual 29, 3) := by decide +kernel
theorem dX8_figureAt_5 : decode cX8_figureAt 5 = .ok (.istore_n 2, 1) := by decide +kernel
theorem dX8_figureAt_6 : decode cX8_figureAt 6 = .ok (.iload_n 2, 1) := by decide +kernel
theorem dX8_figureAt_7 : decode cX8_figureAt 7 = .ok (.bipush 48, 2) := by decide +kernel
theorem dX8_figureAt_9 : decode cX8_figureAt 9 = .ok (.if_icmp .lt 16, 3) := by decide +kernel
theorem dX8_figureAt_12 : decode cX8_figureAt 12 = .ok (.iload_n 2, 1) := by decide +kernel
theorem dX8_figureAt_13 : decode cX8_figureAt 13 = .ok (.bipush 57, 2) := by decide +kernel
theorem dX8_figureAt_15 : decode cX8_figureAt 15 = .ok (.if_icmp .gt 10, 3) := by decide +kernel
theorem dX8_figureAt_18 : decode cX8_figureAt 18 = .ok (.iload_n 2, 1) := by decide +kernel
theorem dX8_figureAt_19 : decode cX8_figureAt 19 = .ok (.bipush 48, 2) := by decide +kernel
theorem dX8_figureAt_21 : decode cX8_figureAt 21 = .ok (.isub, 1) := by decide +kernel
theorem dX8_figureAt_22 : decode cX8_figureAt 22 = .ok (.goto 4, 3) := by decide +kernel
theorem dX8_figureAt_25 : decode cX8_figureAt 25 = .ok (.iconst (-1), 1) := by decide +kernel
theorem dX8_figureAt_26 : decode cX8_figureAt 26 = .ok (.ireturn, 1) := by decide +kernel
theorem dX9_init_0 : decode cX9_init 0 = .ok (.aload_n 0, 1) := by decide +kernel
theorem dX9_init_1 : decode cX9_init 1 = .ok (.invokespecial 3, 3) := by decide +kernel
theorem dX9_init_4 : decode cX9_init 4 = .ok (.aload_n 0, 1) := by decide +kernel
theorem dX9_init_5 : decode cX9_init 5 = .ok (.iconst (-1), 1) := by decide +kernel
theorem dX9_init_6 : decode cX9_init 6 = .ok (.putfield 9, 3) := by decide +kernel
theorem dX9_init_9 : decode cX9_init 9 = .ok (.aload_n 0, 1) := by decide +kernel
theorem dX9_init_10 : decode cX9_init 10 = .ok (.aload_n 1, 1) := by decide +kernel
theorem dX9_init_11 : decode cX9_init 11 = .ok (.putfield 15, 3) := by decide +kernel
theorem dX9_init_14 : decode cX9_init 14 = .ok (.aload_n 0, 1) := by decide +kernel
theorem dX9_init_15 : decode cX9_init 15 = .ok (.new 19, 3) := by decide +kernel
theorem dX9_init_18 : decode cX9_init 18 = .ok (.dup, 1) := by decide +kernel
theorem dX9_init_19 : decode cX9_init 19 = .ok (.aload_n 1, 1) := by decide +kernel
theorem dX9_init_20 : decode cX9_init 20 = .ok (.aload_n 2, 1) := by decide +kernel
theorem dX9_init_21 : decode cX9_init 21 = .ok (.invokespecial 21, 3) := by decide +kernel
theorem dX9_init_24 : decode cX9_init 24 = .ok (.putfield 24, 3) := by decide +kernel
theorem dX9_init_27 : decode cX9_init 27 = .ok (.return_, 1) := by decide +kernel
theorem dX9_playOut_0 : decode cX9_playOut 0 = .ok (.aload_n 0, 1) := by decide +kernel
theorem dX9_playOut_1 : decode cX9_playOut 1 = .ok (.getfield 24, 3) := by decide +kernel
theorem dX9_playOut_4 : decode cX9_playOut 4 = .ok (.invokevirtual 28, 3) := by decide +kernel
theorem dX9_playOut_7 : decode cX9_playOut 7 = .ok (.aload_n 0, 1) := by decide +kernel
theorem dX9_playOut_8 : decode cX9_playOut 8 = .ok (.getfield 24, 3) := by decide +kernel
theorem dX9_playOut_11 : decode cX9_playOut 11 = .ok (.iload_n 1, 1) := by decide +kernel
theorem dX9_playOut_12 : decode cX9_playOut 12 = .ok (.iload_n 2, 1) := by decide +kernel
theorem dX9_playOut_13 : decode cX9_playOut 13 = .ok (.invokevirtual 31, 3) := by decide +kernel
theorem dX9_playOut_16 : decode cX9_playOut 16 = .ok (.aload_n 0, 1) := by decide +kernel
theorem dX9_playOut_17 : decode cX9_playOut 17 = .ok (.iconst (-1), 1) := by decide +kernel
theorem dX9_playOut_18 : decode cX9_playOut 18 = .ok (.putfield 9, 3) := by decide +kernel
theorem dX9_playOut_21 : decode cX9_playOut 21 = .ok (.aload_n 0, 1) := by decide +kernel
theorem dX9_playOut_22 : decode cX9_playOut 22 = .ok (.iconst 0, 1) := by decide +kernel
theorem dX9_playOut_23 : decode cX9_playOut 23 = .ok (.iconst 0, 1) := by decide +kernel
theorem dX9_playOut_24 : decode cX9_playOut 24 = .ok (.aload_n 0, 1) := by decide +kernel
theorem dX9_playOut_25 : decode cX9_playOut 25 = .ok (.getfield 15, 3) := by decide +kernel
theorem dX9_playOut_28 : decode cX9_playOut 28 = .ok (.iload_n 1, 1) := by decide +kernel
theorem dX9_playOut_29 : decode cX9_playOut 29 = .ok (.invokevirtual 35, 3) := by decide +kernel
theorem dX9_playOut_32 : decode cX9_playOut 32 = .ok (.aload_n 0, 1) := by decide +kernel
theorem dX9_playOut_33 : decode cX9_playOut 33 = .ok (.getfield 15, 3) := by decide +kernel
theorem dX9_playOut_36 : decode cX9_playOut 36 = .ok (.iload_n 2, 1) := by decide +kernel
theorem dX9_playOut_37 : decode cX9_playOut 37 = .ok (.invokevirtual 35, 3) := by decide +kernel
theorem dX9_playOut_40 : decode cX9_playOut 40 = .ok (.invokestatic 41, 3) := by decide +kernel
theorem dX9_playOut_43 : decode cX9_playOut 43 = .ok (.ireturn, 1) := by decide +kernel
theorem dX9_firstWedding_0 : decode cX9_firstWedding 0 = .ok (.aload_n 0, 1) := by decide +kernel
theorem dX9_firstWedding_1 : decode cX9_firstWedding 1 = .ok (.getfield 9, 3) := by decide +kernel
theorem dX9_firstWedding_4 : decode cX9_firstWedding 4 = .ok (.ireturn, 1) := by decide +kernel
theorem dX9_takeTurn_0 : decode cX9_takeTurn 0 = .ok (.iload_n 3, 1) := by decide +kernel
theorem dX9_takeTurn_1 : decode cX9_takeTurn 1 = .ok (.iload 4, 2) := by decide +kernel
theorem dX9_takeTurn_3 : decode cX9_takeTurn 3 = .ok (.isub, 1) := by decide +kernel
theorem dX9_takeTurn_4 : decode cX9_takeTurn 4 = .ok (.istore 5, 2) := by decide +kernel
theorem dX9_takeTurn_6 : decode cX9_takeTurn 6 = .ok (.iload_n 1, 1) := by decide +kernel
theorem dX9_takeTurn_7 : decode cX9_takeTurn 7 = .ok (.iconst 4, 1) := by decide +kernel
theorem dX9_takeTurn_8 : decode cX9_takeTurn 8 = .ok (.if_icmp .lt 6, 3) := by decide +kernel
theorem dX9_takeTurn_11 : decode cX9_takeTurn 11 = .ok (.iload 5, 2) := by decide +kernel
theorem dX9_takeTurn_13 : decode cX9_takeTurn 13 = .ok (.ireturn, 1) := by decide +kernel
theorem dX9_takeTurn_14 : decode cX9_takeTurn 14 = .ok (.iload_n 1, 1) := by decide +kernel
theorem dX9_takeTurn_15 : decode cX9_takeTurn 15 = .ok (.iconst 2, 1) := by decide +kernel
theorem dX9_takeTurn_16 : decode cX9_takeTurn 16 = .ok (.irem, 1) := by decide +kernel
theorem dX9_takeTurn_17 : decode cX9_takeTurn 17 = .ok (.ifCond .ne 7, 3) := by decide +kernel
theorem dX9_takeTurn_20 : decode cX9_takeTurn 20 = .ok (.iconst 1, 1) := by decide +kernel
theorem dX9_takeTurn_21 : decode cX9_takeTurn 21 = .ok (.goto 4, 3) := by decide +kernel
theorem dX9_takeTurn_24 : decode cX9_takeTurn 24 = .ok (.iconst 0, 1) := by decide +kernel
theorem dX9_takeTurn_25 : decode cX9_takeTurn 25 = .ok (.istore 6, 2) := by decide +kernel
theorem dX9_takeTurn_27 : decode cX9_takeTurn 27 = .ok (.iconst 0, 1) := by decide +kernel
theorem dX9_takeTurn_28 : decode cX9_takeTurn 28 = .ok (.istore 7, 2) := by decide +kernel
theorem dX9_takeTurn_30 : decode cX9_takeTurn 30 = .ok (.iconst 0, 1) := by decide +kernel
theorem dX9_takeTurn_31 : decode cX9_takeTurn 31 = .ok (.istore 8, 2) := by decide +kernel
theorem dX9_takeTurn_33 : decode cX9_takeTurn 33 = .ok (.iload 8, 2) := by decide +kernel
theorem dX9_takeTurn_35 : decode cX9_takeTurn 35 = .ok (.aload_n 0, 1) := by decide +kernel
theorem dX9_takeTurn_36 : decode cX9_takeTurn 36 = .ok (.getfield 24, 3) := by decide +kernel
theorem dX9_takeTurn_39 : decode cX9_takeTurn 39 = .ok (.invokevirtual 45, 3) := by decide +kernel
theorem dX9_takeTurn_42 : decode cX9_takeTurn 42 = .ok (.if_icmp .ge 110, 3) := by decide +kernel
theorem dX9_takeTurn_45 : decode cX9_takeTurn 45 = .ok (.aload_n 0, 1) := by decide +kernel
theorem dX9_takeTurn_46 : decode cX9_takeTurn 46 = .ok (.getfield 24, 3) := by decide +kernel
theorem dX9_takeTurn_49 : decode cX9_takeTurn 49 = .ok (.iload 8, 2) := by decide +kernel
theorem dX9_takeTurn_51 : decode cX9_takeTurn 51 = .ok (.invokevirtual 49, 3) := by decide +kernel
theorem dX9_takeTurn_54 : decode cX9_takeTurn 54 = .ok (.istore 9, 2) := by decide +kernel
theorem dX9_takeTurn_56 : decode cX9_takeTurn 56 = .ok (.iload_n 2, 1) := by decide +kernel
theorem dX9_takeTurn_57 : decode cX9_takeTurn 57 = .ok (.iload 9, 2) := by decide +kernel
theorem dX9_takeTurn_59 : decode cX9_takeTurn 59 = .ok (.iand, 1) := by decide +kernel
theorem dX9_takeTurn_60 : decode cX9_takeTurn 60 = .ok (.ifCond .eq 6, 3) := by decide +kernel
theorem dX9_takeTurn_63 : decode cX9_takeTurn 63 = .ok (.goto 83, 3) := by decide +kernel
theorem dX9_takeTurn_66 : decode cX9_takeTurn 66 = .ok (.aload_n 0, 1) := by decide +kernel
theorem dX9_takeTurn_67 : decode cX9_takeTurn 67 = .ok (.getfield 24, 3) := by decide +kernel
theorem dX9_takeTurn_70 : decode cX9_takeTurn 70 = .ok (.iload 8, 2) := by decide +kernel
theorem dX9_takeTurn_72 : decode cX9_takeTurn 72 = .ok (.invokevirtual 52, 3) := by decide +kernel
theorem dX9_takeTurn_75 : decode cX9_takeTurn 75 = .ok (.iload_n 3, 1) := by decide +kernel
theorem dX9_takeTurn_76 : decode cX9_takeTurn 76 = .ok (.iload 4, 2) := by decide +kernel
theorem dX9_takeTurn_78 : decode cX9_takeTurn 78 = .ok (.invokestatic 55, 3) := by decide +kernel
theorem dX9_takeTurn_81 : decode cX9_takeTurn 81 = .ok (.istore 10, 2) := by decide +kernel
theorem dX9_takeTurn_83 : decode cX9_takeTurn 83 = .ok (.aload_n 0, 1) := by decide +kernel
theorem dX9_takeTurn_84 : decode cX9_takeTurn 84 = .ok (.iload_n 1, 1) := by decide +kernel
theorem dX9_takeTurn_85 : decode cX9_takeTurn 85 = .ok (.iconst 1, 1) := by decide +kernel
theorem dX9_takeTurn_86 : decode cX9_takeTurn 86 = .ok (.iadd, 1) := by decide +kernel
theorem dX9_takeTurn_87 : decode cX9_takeTurn 87 = .ok (.iload_n 2, 1) := by decide +kernel
theorem dX9_takeTurn_88 : decode cX9_takeTurn 88 = .ok (.iload 9, 2) := by decide +kernel
theorem dX9_takeTurn_90 : decode cX9_takeTurn 90 = .ok (.ior, 1) := by decide +kernel
theorem dX9_takeTurn_91 : decode cX9_takeTurn 91 = .ok (.iload_n 3, 1) := by decide +kernel
theorem dX9_takeTurn_92 : decode cX9_takeTurn 92 = .ok (.iload 10, 2) := by decide +kernel
theorem dX9_takeTurn_94 : decode cX9_takeTurn 94 = .ok (.iadd, 1) := by decide +kernel
theorem dX9_takeTurn_95 : decode cX9_takeTurn 95 = .ok (.iload 4, 2) := by decide +kernel
theorem dX9_takeTurn_97 : decode cX9_takeTurn 97 = .ok (.iload 10, 2) := by decide +kernel
theorem dX9_takeTurn_99 : decode cX9_takeTurn 99 = .ok (.isub, 1) := by decide +kernel
theorem dX9_takeTurn_100 : decode cX9_takeTurn 100 = .ok (.invokestatic 41, 3) := by decide +kernel
theorem dX9_takeTurn_103 : decode cX9_takeTurn 103 = .ok (.istore 11, 2) := by decide +kernel
theorem dX9_takeTurn_105 : decode cX9_takeTurn 105 = .ok (.iload 7, 2) := by decide +kernel
theorem dX9_takeTurn_107 : decode cX9_takeTurn 107 = .ok (.ifCond .eq 25, 3) := by decide +kernel
theorem dX9_takeTurn_110 : decode cX9_takeTurn 110 = .ok (.iload 6, 2) := by decide +kernel
theorem dX9_takeTurn_112 : decode cX9_takeTurn 112 = .ok (.ifCond .eq 13, 3) := by decide +kernel
theorem dX9_takeTurn_115 : decode cX9_takeTurn 115 = .ok (.iload 11, 2) := by decide +kernel
theorem dX9_takeTurn_117 : decode cX9_takeTurn 117 = .ok (.iload 5, 2) := by decide +kernel
theorem dX9_takeTurn_119 : decode cX9_takeTurn 119 = .ok (.if_icmp .le 27, 3) := by decide +kernel
theorem dX9_takeTurn_122 : decode cX9_takeTurn 122 = .ok (.goto 10, 3) := by decide +kernel
theorem dX9_takeTurn_125 : decode cX9_takeTurn 125 = .ok (.iload 11, 2) := by decide +kernel
theorem dX9_takeTurn_127 : decode cX9_takeTurn 127 = .ok (.iload 5, 2) := by decide +kernel
theorem dX9_takeTurn_129 : decode cX9_takeTurn 129 = .ok (.if_icmp .ge 17, 3) := by decide +kernel
theorem dX9_takeTurn_132 : decode cX9_takeTurn 132 = .ok (.iload 11, 2) := by decide +kernel
theorem dX9_takeTurn_134 : decode cX9_takeTurn 134 = .ok (.istore 5, 2) := by decide +kernel
theorem dX9_takeTurn_136 : decode cX9_takeTurn 136 = .ok (.iconst 1, 1) := by decide +kernel
theorem dX9_takeTurn_137 : decode cX9_takeTurn 137 = .ok (.istore 7, 2) := by decide +kernel
theorem dX9_takeTurn_139 : decode cX9_takeTurn 139 = .ok (.aload_n 0, 1) := by decide +kernel
theorem dX9_takeTurn_140 : decode cX9_takeTurn 140 = .ok (.iload_n 1, 1) := by decide +kernel
theorem dX9_takeTurn_141 : decode cX9_takeTurn 141 = .ok (.iload 8, 2) := by decide +kernel
theorem dX9_takeTurn_143 : decode cX9_takeTurn 143 = .ok (.invokevirtual 59, 3) := by decide +kernel
theorem dX9_takeTurn_146 : decode cX9_takeTurn 146 = .ok (.iinc 8 1, 3) := by decide +kernel
theorem dX9_takeTurn_149 : decode cX9_takeTurn 149 = .ok (.goto (-116), 3) := by decide +kernel
theorem dX9_takeTurn_152 : decode cX9_takeTurn 152 = .ok (.iload 5, 2) := by decide +kernel
theorem dX9_takeTurn_154 : decode cX9_takeTurn 154 = .ok (.ireturn, 1) := by decide +kernel
theorem dX9_noteFirst_0 : decode cX9_noteFirst 0 = .ok (.iload_n 1, 1) := by decide +kernel
theorem dX9_noteFirst_1 : decode cX9_noteFirst 1 = .ok (.ifCond .ne 27, 3) := by decide +kernel
theorem dX9_noteFirst_4 : decode cX9_noteFirst 4 = .ok (.aload_n 0, 1) := by decide +kernel
theorem dX9_noteFirst_5 : decode cX9_noteFirst 5 = .ok (.bipush 12, 2) := by decide +kernel
theorem dX9_noteFirst_7 : decode cX9_noteFirst 7 = .ok (.aload_n 0, 1) := by decide +kernel
theorem dX9_noteFirst_8 : decode cX9_noteFirst 8 = .ok (.getfield 24, 3) := by decide +kernel
theorem dX9_noteFirst_11 : decode cX9_noteFirst 11 = .ok (.iload_n 2, 1) := by decide +kernel
theorem dX9_noteFirst_12 : decode cX9_noteFirst 12 = .ok (.invokevirtual 62, 3) := by decide +kernel
theorem dX9_noteFirst_15 : decode cX9_noteFirst 15 = .ok (.imul, 1) := by decide +kernel
theorem dX9_noteFirst_16 : decode cX9_noteFirst 16 = .ok (.aload_n 0, 1) := by decide +kernel
theorem dX9_noteFirst_17 : decode cX9_noteFirst 17 = .ok (.getfield 24, 3) := by decide +kernel
theorem dX9_noteFirst_20 : decode cX9_noteFirst 20 = .ok (.iload_n 2, 1) := by decide +kernel
theorem dX9_noteFirst_21 : decode cX9_noteFirst 21 = .ok (.invokevirtual 65, 3) := by decide +kernel
theorem dX9_noteFirst_24 : decode cX9_noteFirst 24 = .ok (.iadd, 1) := by decide +kernel
theorem dX9_noteFirst_25 : decode cX9_noteFirst 25 = .ok (.putfield 9, 3) := by decide +kernel
theorem dX9_noteFirst_28 : decode cX9_noteFirst 28 = .ok (.return_, 1) := by decide +kernel
theorem dX10_init_0 : decode cX10_init 0 = .ok (.aload_n 0, 1) := by decide +kernel
theorem dX10_init_1 : decode cX10_init 1 = .ok (.invokespecial 3, 3) := by decide +kernel
theorem dX10_init_4 : decode cX10_init 4 = .ok (.aload_n 0, 1) := by decide +kernel
theorem dX10_init_5 : decode cX10_init 5 = .ok (.bipush 6, 2) := by decide +kernel
theorem dX10_init_7 : decode cX10_init 7 = .ok (.newarray .int, 2) := by decide +kernel
theorem dX10_init_9 : decode cX10_init 9 = .ok (.putfield 9, 3) := by decide +kernel
theorem dX10_init_12 : decode cX10_init 12 = .ok (.aload_n 0, 1) := by decide +kernel
theorem dX10_init_13 : decode cX10_init 13 = .ok (.bipush 12, 2) := by decide +kernel
theorem dX10_init_15 : decode cX10_init 15 = .ok (.newarray .int, 2) := by decide +kernel
theorem dX10_init_17 : decode cX10_init 17 = .ok (.putfield 15, 3) := by decide +kernel
theorem dX10_init_20 : decode cX10_init 20 = .ok (.aload_n 0, 1) := by decide +kernel
theorem dX10_init_21 : decode cX10_init 21 = .ok (.bipush 12, 2) := by decide +kernel
theorem dX10_init_23 : decode cX10_init 23 = .ok (.newarray .int, 2) := by decide +kernel
theorem dX10_init_25 : decode cX10_init 25 = .ok (.putfield 18, 3) := by decide +kernel
theorem dX10_init_28 : decode cX10_init 28 = .ok (.aload_n 0, 1) := by decide +kernel
theorem dX10_init_29 : decode cX10_init 29 = .ok (.bipush 12, 2) := by decide +kernel
theorem dX10_init_31 : decode cX10_init 31 = .ok (.newarray .boolean, 2) := by decide +kernel
theorem dX10_init_33 : decode cX10_init 33 = .ok (.putfield 21, 3) := by decide +kernel
theorem dX10_init_36 : decode cX10_init 36 = .ok (.aload_n 0, 1) := by decide +kernel
theorem dX10_init_37 : decode cX10_init 37 = .ok (.bipush 12, 2) := by decide +kernel
theorem dX10_init_39 : decode cX10_init 39 = .ok (.newarray .int, 2) := by decide +kernel
theorem dX10_init_41 : decode cX10_init 41 = .ok (.putfield 25, 3) := by decide +kernel
theorem dX10_init_44 : decode cX10_init 44 = .ok (.aload_n 0, 1) := by decide +kernel
theorem dX10_init_45 : decode cX10_init 45 = .ok (.bipush 12, 2) := by decide +kernel
theorem dX10_init_47 : decode cX10_init 47 = .ok (.newarray .int, 2) := by decide +kernel
theorem dX10_init_49 : decode cX10_init 49 = .ok (.putfield 28, 3) := by decide +kernel
theorem dX10_init_52 : decode cX10_init 52 = .ok (.aload_n 0, 1) := by decide +kernel
theorem dX10_init_53 : decode cX10_init 53 = .ok (.iconst 0, 1) := by decide +kernel
theorem dX10_init_54 : decode cX10_init 54 = .ok (.putfield 31, 3) := by decide +kernel
theorem dX10_init_57 : decode cX10_init 57 = .ok (.aload_n 0, 1) := by decide +kernel
theorem dX10_init_58 : decode cX10_init 58 = .ok (.iconst 0, 1) := by decide +kernel
theorem dX10_init_59 : decode cX10_init 59 = .ok (.putfield 35, 3) := by decide +kernel
theorem dX10_init_62 : decode cX10_init 62 = .ok (.aload_n 0, 1) := by decide +kernel
theorem dX10_init_63 : decode cX10_init 63 = .ok (.iconst 0, 1) := by decide +kernel
theorem dX10_init_64 : decode cX10_init 64 = .ok (.putfield 38, 3) := by decide +kernel
theorem dX10_init_67 : decode cX10_init 67 = .ok (.aload_n 0, 1) := by decide +kernel
theorem dX10_init_68 : decode cX10_init 68 = .ok (.iconst (-1), 1) := by decide +kernel
theorem dX10_init_69 : decode cX10_init 69 = .ok (.putfield 41, 3) := by decide +kernel
theorem dX10_init_72 : decode cX10_init 72 = .ok (.aload_n 0, 1) := by decide +kernel
theorem dX10_init_73 : decode cX10_init 73 = .ok (.aload_n 1, 1) := by decide +kernel
theorem dX10_init_74 : decode cX10_init 74 = .ok (.putfield 44, 3) := by decide +kernel
theorem dX10_init_77 : decode cX10_init 77 = .ok (.aload_n 0, 1) := by decide +kernel
theorem dX10_init_78 : decode cX10_init 78 = .ok (.aload_n 2, 1) := by decide +kernel
theorem dX10_init_79 : decode cX10_init 79 = .ok (.putfield 48, 3) := by decide +kernel
theorem dX10_init_82 : decode cX10_init 82 = .ok (.aload_n 0, 1) := by decide +kernel
theorem dX10_init_83 : decode cX10_init 83 = .ok (.aload_n 3, 1) := by decide +kernel
theorem dX10_init_84 : decode cX10_init 84 = .ok (.putfield 52, 3) := by decide +kernel
theorem dX10_init_87 : decode cX10_init 87 = .ok (.aload_n 0, 1) := by decide +kernel
theorem dX10_init_88 : decode cX10_init 88 = .ok (.aload 4, 2) := by decide +kernel
theorem dX10_init_90 : decode cX10_init 90 = .ok (.putfield 56, 3) := by decide +kernel
theorem dX10_init_93 : decode cX10_init 93 = .ok (.return_, 1) := by decide +kernel
theorem dX10_widthOf_0 : decode cX10_widthOf 0 = .ok (.aload_n 0, 1) := by decide +kernel
theorem dX10_widthOf_1 : decode cX10_widthOf 1 = .ok (.getfield 44, 3) := by decide +kernel
theorem dX10_widthOf_4 : decode cX10_widthOf 4 = .ok (.iload_n 1, 1) := by decide +kernel
theorem dX10_widthOf_5 : decode cX10_widthOf 5 = .ok (.invokevirtual 60, 3) := by decide +kernel
theorem dX10_widthOf_8 : decode cX10_widthOf 8 = .ok (.ifCond .eq 12, 3) := by decide +kernel
theorem dX10_widthOf_11 : decode cX10_widthOf 11 = .ok (.aload_n 0, 1) := by decide +kernel
theorem dX10_widthOf_12 : decode cX10_widthOf 12 = .ok (.getfield 9, 3) := by decide +kernel
theorem dX10_widthOf_15 : decode cX10_widthOf 15 = .ok (.iload_n 1, 1) := by decide +kernel
theorem dX10_widthOf_16 : decode cX10_widthOf 16 = .ok (.iaload, 1) := by decide +kernel
theorem dX10_widthOf_17 : decode cX10_widthOf 17 = .ok (.goto 4, 3) := by decide +kernel
theorem dX10_widthOf_20 : decode cX10_widthOf 20 = .ok (.iconst 0, 1) := by decide +kernel
theorem dX10_widthOf_21 : decode cX10_widthOf 21 = .ok (.ireturn, 1) := by decide +kernel
theorem dX10_partnerOf_0 : decode cX10_partnerOf 0 = .ok (.aload_n 0, 1) := by decide +kernel
theorem dX10_partnerOf_1 : decode cX10_partnerOf 1 = .ok (.getfield 48, 3) := by decide +kernel
theorem dX10_partnerOf_4 : decode cX10_partnerOf 4 = .ok (.iload_n 1, 1) := by decide +kernel
theorem dX10_partnerOf_5 : decode cX10_partnerOf 5 = .ok (.invokevirtual 66, 3) := by decide +kernel
theorem dX10_partnerOf_8 : decode cX10_partnerOf 8 = .ok (.ifCond .eq 12, 3) := by decide +kernel
theorem dX10_partnerOf_11 : decode cX10_partnerOf 11 = .ok (.aload_n 0, 1) := by decide +kernel
theorem dX10_partnerOf_12 : decode cX10_partnerOf 12 = .ok (.getfield 15, 3) := by decide +kernel
theorem dX10_partnerOf_15 : decode cX10_partnerOf 15 = .ok (.iload_n 1, 1) := by decide +kernel
theorem dX10_partnerOf_16 : decode cX10_partnerOf 16 = .ok (.iaload, 1) := by decide +kernel
theorem dX10_partnerOf_17 : decode cX10_partnerOf 17 = .ok (.goto 4, 3) := by decide +kernel
theorem dX10_partnerOf_20 : decode cX10_partnerOf 20 = .ok (.iconst (-1), 1) := by decide +kernel
theorem dX10_partnerOf_21 : decode cX10_partnerOf 21 = .ok (.ireturn, 1) := by decide +kernel
theorem dX10_provinceOf_0 : decode cX10_provinceOf 0 = .ok (.aload_n 0, 1) := by decide +kernel
theorem dX10_provinceOf_1 : decode cX10_provinceOf 1 = .ok (.getfield 48, 3) := by decide +kernel
theorem dX10_provinceOf_4 : decode cX10_provinceOf 4 = .ok (.iload_n 1, 1) := by decide +kernel
theorem dX10_provinceOf_5 : decode cX10_provinceOf 5 = .ok (.invokevirtual 66, 3) := by decide +kernel
theorem dX10_provinceOf_8 : decode cX10_provinceOf 8 = .ok (.ifCond .eq 12, 3) := by decide +kernel
theorem dX10_provinceOf_11 : decode cX10_provinceOf 11 = .ok (.aload_n 0, 1) := by decide +kernel
theorem dX10_provinceOf_12 : decode cX10_provinceOf 12 = .ok (.getfield 18, 3) := by decide +kernel
theorem dX10_provinceOf_15 : decode cX10_provinceOf 15 = .ok (.iload_n 1, 1) := by decide +kernel
theorem dX10_provinceOf_16 : decode cX10_provinceOf 16 = .ok (.iaload, 1) := by decide +kernel
theorem dX10_provinceOf_17 : decode cX10_provinceOf 17 = .ok (.goto 4, 3) := by decide +kernel
theorem dX10_provinceOf_20 : decode cX10_provinceOf 20 = .ok (.iconst 0, 1) := by decide +kernel
theorem dX10_provinceOf_21 : decode cX10_provinceOf 21 = .ok (.ireturn, 1) := by decide +kernel
theorem dX10_isAlive_0 : decode cX10_isAlive 0 = .ok (.aload_n 0, 1) := by decide +kernel
theorem dX10_isAlive_1 : decode cX10_isAlive 1 = .ok (.getfield 48, 3) := by decide +kernel
theorem dX10_isAlive_4 : decode cX10_isAlive 4 = .ok (.iload_n 1, 1) := by decide +kernel
theorem dX10_isAlive_5 : decode cX10_isAlive 5 = .ok (.invokevirtual 66, 3) := by decide +kernel
theorem dX10_isAlive_8 : decode cX10_isAlive 8 = .ok (.ifCond .eq 16, 3) := by decide +kernel
theorem dX10_isAlive_11 : decode cX10_isAlive 11 = .ok (.aload_n 0, 1) := by decide +kernel
theorem dX10_isAlive_12 : decode cX10_isAlive 12 = .ok (.getfield 21, 3) := by decide +kernel
theorem dX10_isAlive_15 : decode cX10_isAlive 15 = .ok (.iload_n 1, 1) := by decide +kernel
theorem dX10_isAlive_16 : decode cX10_isAlive 16 = .ok (.baload, 1) := by decide +kernel
theorem dX10_isAlive_17 : decode cX10_isAlive 17 = .ok (.ifCond .eq 7, 3) := by decide +kernel
theorem dX10_isAlive_20 : decode cX10_isAlive 20 = .ok (.iconst 1, 1) := by decide +kernel
theorem dX10_isAlive_21 : decode cX10_isAlive 21 = .ok (.goto 4, 3) := by decide +kernel
theorem dX10_isAlive_24 : decode cX10_isAlive 24 = .ok (.iconst 0, 1) := by decide +kernel
theorem dX10_isAlive_25 : decode cX10_isAlive 25 = .ok (.ireturn, 1) := by decide +kernel
theorem dX10_isFree_0 : decode cX10_isFree 0 = .ok (.aload_n 0, 1) := by decide +kernel
theorem dX10_isFree_1 : decode cX10_isFree 1 = .ok (.getfield 48, 3) := by decide +kernel
theorem dX10_isFree_4 : decode cX10_isFree 4 = .ok (.iload_n 1, 1) := by decide +kernel
theorem dX10_isFree_5 : decode cX10_isFree 5 = .ok (.invokevirtual 66, 3) := by decide +kernel
theorem dX10_isFree_8 : decode cX10_isFree 8 = .ok (.ifCond .eq 26, 3) := by decide +kernel
theorem dX10_isFree_11 : decode cX10_isFree 11 = .ok (.aload_n 0, 1) := by decide +kernel
theorem dX10_isFree_12 : decode cX10_isFree 12 = .ok (.getfield 21, 3) := by decide +kernel
theorem dX10_isFree_15 : decode cX10_isFree 15 = .ok (.iload_n 1, 1) := by decide +kernel
theorem dX10_isFree_16 : decode cX10_isFree 16 = .ok (.baload, 1) := by decide +kernel
theorem dX10_isFree_17 : decode cX10_isFree 17 = .ok (.ifCond .eq 17, 3) := by decide +kernel
theorem dX10_isFree_20 : decode cX10_isFree 20 = .ok (.aload_n 0, 1) := by decide +kernel
theorem dX10_isFree_21 : decode cX10_isFree 21 = .ok (.getfield 15, 3) := by decide +kernel
theorem dX10_isFree_24 : decode cX10_isFree 24 = .ok (.iload_n 1, 1) := by decide +kernel
theorem dX10_isFree_25 : decode cX10_isFree 25 = .ok (.iaload, 1) := by decide +kernel
theorem dX10_isFree_26 : decode cX10_isFree 26 = .ok (.iconst (-1), 1) := by decide +kernel
theorem dX10_isFree_27 : decode cX10_isFree 27 = .ok (.if_icmp .ne 7, 3) := by decide +kernel
theorem dX10_isFree_30 : decode cX10_isFree 30 = .ok (.iconst 1, 1) := by decide +kernel
theorem dX10_isFree_31 : decode cX10_isFree 31 = .ok (.goto 4, 3) := by decide +kernel
theorem dX10_isFree_34 : decode cX10_isFree 34 = .ok (.iconst 0, 1) := by decide +kernel
theorem dX10_isFree_35 : decode cX10_isFree 35 = .ok (.ireturn, 1) := by decide +kernel
theorem dX10_mayMarry_0 : decode cX10_mayMarry 0 = .ok (.aload_n 0, 1) := by decide +kernel
theorem dX10_mayMarry_1 : decode cX10_mayMarry 1 = .ok (.getfield 48, 3) := by decide +kernel
theorem dX10_mayMarry_4 : decode cX10_mayMarry 4 = .ok (.iload_n 1, 1) := by decide +kernel
theorem dX10_mayMarry_5 : decode cX10_mayMarry 5 = .ok (.iload_n 2, 1) := by decide +kernel
theorem dX10_mayMarry_6 : decode cX10_mayMarry 6 = .ok (.invokevirtual 69, 3) := by decide +kernel
theorem dX10_mayMarry_9 : decode cX10_mayMarry 9 = .ok (.ifCond .eq 45, 3) := by decide +kernel
theorem dX10_mayMarry_12 : decode cX10_mayMarry 12 = .ok (.aload_n 0, 1) := by decide +kernel
theorem dX10_mayMarry_13 : decode cX10_mayMarry 13 = .ok (.getfield 21, 3) := by decide +kernel
theorem dX10_mayMarry_16 : decode cX10_mayMarry 16 = .ok (.iload_n 1, 1) := by decide +kernel
theorem dX10_mayMarry_17 : decode cX10_mayMarry 17 = .ok (.baload, 1) := by decide +kernel
theorem dX10_mayMarry_18 : decode cX10_mayMarry 18 = .ok (.ifCond .eq 36, 3) := by decide +kernel
theorem dX10_mayMarry_21 : decode cX10_mayMarry 21 = .ok (.aload_n 0, 1) := by decide +kernel
theorem dX10_mayMarry_22 : decode cX10_mayMarry 22 = .ok (.getfield 21, 3) := by decide +kernel
theorem dX10_mayMarry_25 : decode cX10_mayMarry 25 = .ok (.iload_n 2, 1) := by decide +kernel
theorem dX10_mayMarry_26 : decode cX10_mayMarry 26 = .ok (.baload, 1) := by decide +kernel
theorem dX10_mayMarry_27 : decode cX10_mayMarry 27 = .ok (.ifCond .eq 27, 3) := by decide +kernel
theorem dX10_mayMarry_30 : decode cX10_mayMarry 30 = .ok (.aload_n 0, 1) := by decide +kernel
theorem dX10_mayMarry_31 : decode cX10_mayMarry 31 = .ok (.getfield 15, 3) := by decide +kernel
theorem dX10_mayMarry_34 : decode cX10_mayMarry 34 = .ok (.iload_n 1, 1) := by decide +kernel
theorem dX10_mayMarry_35 : decode cX10_mayMarry 35 = .ok (.iaload, 1) := by decide +kernel
theorem dX10_mayMarry_36 : decode cX10_mayMarry 36 = .ok (.iconst (-1), 1) := by decide +kernel
theorem dX10_mayMarry_37 : decode cX10_mayMarry 37 = .ok (.if_icmp .ne 17, 3) := by decide +kernel
theorem dX10_mayMarry_40 : decode cX10_mayMarry 40 = .ok (.aload_n 0, 1) := by decide +kernel
theorem dX10_mayMarry_41 : decode cX10_mayMarry 41 = .ok (.getfield 15, 3) := by decide +kernel
theorem dX10_mayMarry_44 : decode cX10_mayMarry 44 = .ok (.iload_n 2, 1) := by decide +kernel
theorem dX10_mayMarry_45 : decode cX10_mayMarry 45 = .ok (.iaload, 1) := by decide +kernel
theorem dX10_mayMarry_46 : decode cX10_mayMarry 46 = .ok (.iconst (-1), 1) := by decide +kernel
theorem dX10_mayMarry_47 : decode cX10_mayMarry 47 = .ok (.if_icmp .ne 7, 3) := by decide +kernel
theorem dX10_mayMarry_50 : decode cX10_mayMarry 50 = .ok (.iconst 1, 1) := by decide +kernel
theorem dX10_mayMarry_51 : decode cX10_mayMarry 51 = .ok (.goto 4, 3) := by decide +kernel
theorem dX10_mayMarry_54 : decode cX10_mayMarry 54 = .ok (.iconst 0, 1) := by decide +kernel
theorem dX10_mayMarry_55 : decode cX10_mayMarry 55 = .ok (.ireturn, 1) := by decide +kernel
theorem dX10_freeIn_0 : decode cX10_freeIn 0 = .ok (.iconst 0, 1) := by decide +kernel
theorem dX10_freeIn_1 : decode cX10_freeIn 1 = .ok (.istore_n 2, 1) := by decide +kernel
theorem dX10_freeIn_2 : decode cX10_freeIn 2 = .ok (.iconst 0, 1) := by decide +kernel
theorem dX10_freeIn_3 : decode cX10_freeIn 3 = .ok (.istore_n 3, 1) := by decide +kernel
theorem dX10_freeIn_4 : decode cX10_freeIn 4 = .ok (.iload_n 3, 1) := by decide +kernel
theorem dX10_freeIn_5 : decode cX10_freeIn 5 = .ok (.aload_n 0, 1) := by decide +kernel
theorem dX10_freeIn_6 : decode cX10_freeIn 6 = .ok (.getfield 48, 3) := by decide +kernel
theorem dX10_freeIn_9 : decode cX10_freeIn 9 = .ok (.invokevirtual 73, 3) := by decide +kernel
theorem dX10_freeIn_12 : decode cX10_freeIn 12 = .ok (.if_icmp .ge 32, 3) := by decide +kernel
theorem dX10_freeIn_15 : decode cX10_freeIn 15 = .ok (.aload_n 0, 1) := by decide +kernel
theorem dX10_freeIn_16 : decode cX10_freeIn 16 = .ok (.getfield 48, 3) := by decide +kernel
theorem dX10_freeIn_19 : decode cX10_freeIn 19 = .ok (.iload_n 3, 1) := by decide +kernel
theorem dX10_freeIn_20 : decode cX10_freeIn 20 = .ok (.invokevirtual 77, 3) := by decide +kernel
theorem dX10_freeIn_23 : decode cX10_freeIn 23 = .ok (.iload_n 1, 1) := by decide +kernel
theorem dX10_freeIn_24 : decode cX10_freeIn 24 = .ok (.if_icmp .ne 14, 3) := by decide +kernel
theorem dX10_freeIn_27 : decode cX10_freeIn 27 = .ok (.aload_n 0, 1) := by decide +kernel
theorem dX10_freeIn_28 : decode cX10_freeIn 28 = .ok (.iload_n 3, 1) := by decide +kernel
theorem dX10_freeIn_29 : decode cX10_freeIn 29 = .ok (.invokevirtual 81, 3) := by decide +kernel
theorem dX10_freeIn_32 : decode cX10_freeIn 32 = .ok (.ifCond .eq 6, 3) := by decide +kernel
theorem dX10_freeIn_35 : decode cX10_freeIn 35 = .ok (.iinc 2 1, 3) := by decide +kernel
theorem dX10_freeIn_38 : decode cX10_freeIn 38 = .ok (.iinc 3 1, 3) := by decide +kernel
theorem dX10_freeIn_41 : decode cX10_freeIn 41 = .ok (.goto (-37), 3) := by decide +kernel
theorem dX10_freeIn_44 : decode cX10_freeIn 44 = .ok (.iload_n 2, 1) := by decide +kernel
theorem dX10_freeIn_45 : decode cX10_freeIn 45 = .ok (.ireturn, 1) := by decide +kernel
theorem dX10_nobodys_0 : decode cX10_nobodys 0 = .ok (.aload_n 0, 1) := by decide +kernel
theorem dX10_nobodys_1 : decode cX10_nobodys 1 = .ok (.getfield 31, 3) := by decide +kernel
theorem dX10_nobodys_4 : decode cX10_nobodys 4 = .ok (.ireturn, 1) := by decide +kernel
theorem dX10_movedLast_0 : decode cX10_movedLast 0 = .ok (.aload_n 0, 1) := by decide +kernel
theorem dX10_movedLast_1 : decode cX10_movedLast 1 = .ok (.getfield 35, 3) := by decide +kernel
theorem dX10_movedLast_4 : decode cX10_movedLast 4 = .ok (.ireturn, 1) := by decide +kernel
theorem dX10_againstLaw_0 : decode cX10_againstLaw 0 = .ok (.aload_n 0, 1) := by decide +kernel
theorem dX10_againstLaw_1 : decode cX10_againstLaw 1 = .ok (.getfield 38, 3) := by decide +kernel
theorem dX10_againstLaw_4 : decode cX10_againstLaw 4 = .ok (.ireturn, 1) := by decide +kernel
theorem dX10_firstAgainstLaw_0 : decode cX10_firstAgainstLaw 0 = .ok (.aload_n 0, 1) := by decide +kernel
theorem dX10_firstAgainstLaw_1 : decode cX10_firstAgainstLaw 1 = .ok (.getfield 41, 3) := by decide +kernel
theorem dX10_firstAgainstLaw_4 : decode cX10_firstAgainstLaw 4 = .ok (.ireturn, 1) := by decide +kernel
theorem dX10_play_0 : decode cX10_play 0 = .ok (.aload_n 0, 1) := by decide +kernel
theorem dX10_play_1 : decode cX10_play 1 = .ok (.invokevirtual 84, 3) := by decide +kernel
theorem dX10_play_4 : decode cX10_play 4 = .ok (.iconst 0, 1) := by decide +kernel
theorem dX10_play_5 : decode cX10_play 5 = .ok (.istore_n 3, 1) := by decide +kernel
theorem dX10_play_6 : decode cX10_play 6 = .ok (.iload_n 3, 1) := by decide +kernel
theorem dX10_play_7 : decode cX10_play 7 = .ok (.iload_n 1, 1) := by decide +kernel
theorem dX10_play_8 : decode cX10_play 8 = .ok (.if_icmp .ge 30, 3) := by decide +kernel
theorem dX10_play_11 : decode cX10_play 11 = .ok (.iload_n 3, 1) := by decide +kernel
theorem dX10_play_12 : decode cX10_play 12 = .ok (.aload_n 0, 1) := by decide +kernel
theorem dX10_play_13 : decode cX10_play 13 = .ok (.getfield 56, 3) := by decide +kernel
theorem dX10_play_16 : decode cX10_play 16 = .ok (.invokevirtual 87, 3) := by decide +kernel
theorem dX10_play_19 : decode cX10_play 19 = .ok (.if_icmp .ge 19, 3) := by decide +kernel
theorem dX10_play_22 : decode cX10_play 22 = .ok (.iload_n 3, 1) := by decide +kernel
theorem dX10_play_23 : decode cX10_play 23 = .ok (.iload_n 2, 1) := by decide +kernel
theorem dX10_play_24 : decode cX10_play 24 = .ok (.if_icmp .eq 8, 3) := by decide +kernel
theorem dX10_play_27 : decode cX10_play 27 = .ok (.aload_n 0, 1) := by decide +kernel
theorem dX10_play_28 : decode cX10_play 28 = .ok (.iload_n 3, 1) := by decide +kernel
theorem dX10_play_29 : decode cX10_play 29 = .ok (.invokevirtual 90, 3) := by decide +kernel
theorem dX10_play_32 : decode cX10_play 32 = .ok (.iinc 3 1, 3) := by decide +kernel
theorem dX10_play_35 : decode cX10_play 35 = .ok (.goto (-29), 3) := by decide +kernel
theorem dX10_play_38 : decode cX10_play 38 = .ok (.return_, 1) := by decide +kernel
theorem dX10_begin_0 : decode cX10_begin 0 = .ok (.iconst 0, 1) := by decide +kernel
theorem dX10_begin_1 : decode cX10_begin 1 = .ok (.istore_n 1, 1) := by decide +kernel
theorem dX10_begin_2 : decode cX10_begin 2 = .ok (.iload_n 1, 1) := by decide +kernel
theorem dX10_begin_3 : decode cX10_begin 3 = .ok (.bipush 6, 2) := by decide +kernel
theorem dX10_begin_5 : decode cX10_begin 5 = .ok (.if_icmp .ge 23, 3) := by decide +kernel
theorem dX10_begin_8 : decode cX10_begin 8 = .ok (.aload_n 0, 1) := by decide +kernel
theorem dX10_begin_9 : decode cX10_begin 9 = .ok (.getfield 9, 3) := by decide +kernel
theorem dX10_begin_12 : decode cX10_begin 12 = .ok (.iload_n 1, 1) := by decide +kernel
theorem dX10_begin_13 : decode cX10_begin 13 = .ok (.aload_n 0, 1) := by decide +kernel
theorem dX10_begin_14 : decode cX10_begin 14 = .ok (.getfield 44, 3) := by decide +kernel
theorem dX10_begin_17 : decode cX10_begin 17 = .ok (.iload_n 1, 1) := by decide +kernel
theorem dX10_begin_18 : decode cX10_begin 18 = .ok (.invokevirtual 94, 3) := by decide +kernel
theorem dX10_begin_21 : decode cX10_begin 21 = .ok (.iastore, 1) := by decide +kernel
theorem dX10_begin_22 : decode cX10_begin 22 = .ok (.iinc 1 1, 3) := by decide +kernel
theorem dX10_begin_25 : decode cX10_begin 25 = .ok (.goto (-23), 3) := by decide +kernel
theorem dX10_begin_28 : decode cX10_begin 28 = .ok (.iconst 0, 1) := by decide +kernel
theorem dX10_begin_29 : decode cX10_begin 29 = .ok (.istore_n 1, 1) := by decide +kernel
theorem dX10_begin_30 : decode cX10_begin 30 = .ok (.iload_n 1, 1) := by decide +kernel
theorem dX10_begin_31 : decode cX10_begin 31 = .ok (.bipush 12, 2) := by decide +kernel
theorem dX10_begin_33 : decode cX10_begin 33 = .ok (.if_icmp .ge 30, 3) := by decide +kernel
theorem dX10_begin_36 : decode cX10_begin 36 = .ok (.aload_n 0, 1) := by decide +kernel
theorem dX10_begin_37 : decode cX10_begin 37 = .ok (.getfield 15, 3) := by decide +kernel
theorem dX10_begin_40 : decode cX10_begin 40 = .ok (.iload_n 1, 1) := by decide +kernel
theorem dX10_begin_41 : decode cX10_begin 41 = .ok (.iconst (-1), 1) := by decide +kernel
theorem dX10_begin_42 : decode cX10_begin 42 = .ok (.iastore, 1) := by decide +kernel
theorem dX10_begin_43 : decode cX10_begin 43 = .ok (.aload_n 0, 1) := by decide +kernel
theorem dX10_begin_44 : decode cX10_begin 44 = .ok (.getfield 18, 3) := by decide +kernel
theorem dX10_begin_47 : decode cX10_begin 47 = .ok (.iload_n 1, 1) := by decide +kernel
theorem dX10_begin_48 : decode cX10_begin 48 = .ok (.iconst 0, 1) := by decide +kernel
theorem dX10_begin_49 : decode cX10_begin 49 = .ok (.iastore, 1) := by decide +kernel
theorem dX10_begin_50 : decode cX10_begin 50 = .ok (.aload_n 0, 1) := by decide +kernel
theorem dX10_begin_51 : decode cX10_begin 51 = .ok (.getfield 21, 3) := by decide +kernel
theorem dX10_begin_54 : decode cX10_begin 54 = .ok (.iload_n 1, 1) := by decide +kernel
theorem dX10_begin_55 : decode cX10_begin 55 = .ok (.iconst 1, 1) := by decide +kernel
theorem dX10_begin_56 : decode cX10_begin 56 = .ok (.bastore, 1) := by decide +kernel
theorem dX10_begin_57 : decode cX10_begin 57 = .ok (.iinc 1 1, 3) := by decide +kernel
theorem dX10_begin_60 : decode cX10_begin 60 = .ok (.goto (-30), 3) := by decide +kernel
theorem dX10_begin_63 : decode cX10_begin 63 = .ok (.aload_n 0, 1) := by decide +kernel
theorem dX10_begin_64 : decode cX10_begin 64 = .ok (.iconst 0, 1) := by decide +kernel
theorem dX10_begin_65 : decode cX10_begin 65 = .ok (.putfield 31, 3) := by decide +kernel
theorem dX10_begin_68 : decode cX10_begin 68 = .ok (.aload_n 0, 1) := by decide +kernel
theorem dX10_begin_69 : decode cX10_begin 69 = .ok (.iconst 0, 1) := by decide +kernel
theorem dX10_begin_70 : decode cX10_begin 70 = .ok (.putfield 35, 3) := by decide +kernel
theorem dX10_begin_73 : decode cX10_begin 73 = .ok (.aload_n 0, 1) := by decide +kernel
theorem dX10_begin_74 : decode cX10_begin 74 = .ok (.iconst 0, 1) := by decide +kernel
theorem dX10_begin_75 : decode cX10_begin 75 = .ok (.putfield 38, 3) := by decide +kernel
theorem dX10_begin_78 : decode cX10_begin 78 = .ok (.aload_n 0, 1) := by decide +kernel
theorem dX10_begin_79 : decode cX10_begin 79 = .ok (.iconst (-1), 1) := by decide +kernel
theorem dX10_begin_80 : decode cX10_begin 80 = .ok (.putfield 41, 3) := by decide +kernel
theorem dX10_begin_83 : decode cX10_begin 83 = .ok (.return_, 1) := by decide +kernel
theorem dX10_playOne_0 : decode cX10_playOne 0 = .ok (.aload_n 0, 1) := by decide +kernel
theorem dX10_playOne_1 : decode cX10_playOne 1 = .ok (.iconst 0, 1) := by decide +kernel
theorem dX10_playOne_2 : decode cX10_playOne 2 = .ok (.putfield 35, 3) := by decide +kernel
theorem dX10_playOne_5 : decode cX10_playOne 5 = .ok (.iconst 0, 1) := by decide +kernel
theorem dX10_playOne_6 : decode cX10_playOne 6 = .ok (.istore_n 2, 1) := by decide +kernel
theorem dX10_playOne_7 : decode cX10_playOne 7 = .ok (.aload_n 0, 1) := by decide +kernel
theorem dX10_playOne_8 : decode cX10_playOne 8 = .ok (.getfield 56, 3) := by decide +kernel
theorem dX10_playOne_11 : decode cX10_playOne 11 = .ok (.iload_n 1, 1) := by decide +kernel
theorem dX10_playOne_12 : decode cX10_playOne 12 = .ok (.invokevirtual 97, 3) := by decide +kernel
theorem dX10_playOne_15 : decode cX10_playOne 15 = .ok (.lookupswitch 70 #[(0, 25), (1, 54)], 25) := by decide +kernel
theorem dX10_playOne_40 : decode cX10_playOne 40 = .ok (.aload_n 0, 1) := by decide +kernel
theorem dX10_playOne_41 : decode cX10_playOne 41 = .ok (.aload_n 0, 1) := by decide +kernel
theorem dX10_playOne_42 : decode cX10_playOne 42 = .ok (.getfield 56, 3) := by decide +kernel
theorem dX10_playOne_45 : decode cX10_playOne 45 = .ok (.iload_n 1, 1) := by decide +kernel
theorem dX10_playOne_46 : decode cX10_playOne 46 = .ok (.invokevirtual 100, 3) := by decide +kernel
theorem dX10_playOne_49 : decode cX10_playOne 49 = .ok (.aload_n 0, 1) := by decide +kernel
theorem dX10_playOne_50 : decode cX10_playOne 50 = .ok (.getfield 56, 3) := by decide +kernel
theorem dX10_playOne_53 : decode cX10_playOne 53 = .ok (.iload_n 1, 1) := by decide +kernel
theorem dX10_playOne_54 : decode cX10_playOne 54 = .ok (.invokevirtual 103, 3) := by decide +kernel
theorem dX10_playOne_57 : decode cX10_playOne 57 = .ok (.aload_n 0, 1) := by decide +kernel
theorem dX10_playOne_58 : decode cX10_playOne 58 = .ok (.iload_n 1, 1) := by decide +kernel
theorem dX10_playOne_59 : decode cX10_playOne 59 = .ok (.invokevirtual 106, 3) := by decide +kernel
theorem dX10_playOne_62 : decode cX10_playOne 62 = .ok (.invokevirtual 109, 3) := by decide +kernel
theorem dX10_playOne_65 : decode cX10_playOne 65 = .ok (.istore_n 2, 1) := by decide +kernel
theorem dX10_playOne_66 : decode cX10_playOne 66 = .ok (.goto 32, 3) := by decide +kernel
theorem dX10_playOne_69 : decode cX10_playOne 69 = .ok (.aload_n 0, 1) := by decide +kernel
theorem dX10_playOne_70 : decode cX10_playOne 70 = .ok (.aload_n 0, 1) := by decide +kernel
theorem dX10_playOne_71 : decode cX10_playOne 71 = .ok (.getfield 56, 3) := by decide +kernel
theorem dX10_playOne_74 : decode cX10_playOne 74 = .ok (.iload_n 1, 1) := by decide +kernel
theorem dX10_playOne_75 : decode cX10_playOne 75 = .ok (.invokevirtual 100, 3) := by decide +kernel
theorem dX10_playOne_78 : decode cX10_playOne 78 = .ok (.invokevirtual 113, 3) := by decide +kernel
theorem dX10_playOne_81 : decode cX10_playOne 81 = .ok (.istore_n 2, 1) := by decide +kernel
theorem dX10_playOne_82 : decode cX10_playOne 82 = .ok (.goto 16, 3) := by decide +kernel
theorem dX10_playOne_85 : decode cX10_playOne 85 = .ok (.aload_n 0, 1) := by decide +kernel
theorem dX10_playOne_86 : decode cX10_playOne 86 = .ok (.aload_n 0, 1) := by decide +kernel
theorem dX10_playOne_87 : decode cX10_playOne 87 = .ok (.getfield 56, 3) := by decide +kernel
theorem dX10_playOne_90 : decode cX10_playOne 90 = .ok (.iload_n 1, 1) := by decide +kernel
theorem dX10_playOne_91 : decode cX10_playOne 91 = .ok (.invokevirtual 100, 3) := by decide +kernel
theorem dX10_playOne_94 : decode cX10_playOne 94 = .ok (.invokevirtual 116, 3) := by decide +kernel
theorem dX10_playOne_97 : decode cX10_playOne 97 = .ok (.istore_n 2, 1) := by decide +kernel
theorem dX10_playOne_98 : decode cX10_playOne 98 = .ok (.iload_n 2, 1) := by decide +kernel
theorem dX10_playOne_99 : decode cX10_playOne 99 = .ok (.ifCond .ne 13, 3) := by decide +kernel
theorem dX10_playOne_102 : decode cX10_playOne 102 = .ok (.aload_n 0, 1) := by decide +kernel
theorem dX10_playOne_103 : decode cX10_playOne 103 = .ok (.dup, 1) := by decide +kernel
theorem dX10_playOne_104 : decode cX10_playOne 104 = .ok (.getfield 38, 3) := by decide +kernel
theorem dX10_playOne_107 : decode cX10_playOne 107 = .ok (.iconst 1, 1) := by decide +kernel
theorem dX10_playOne_108 : decode cX10_playOne 108 = .ok (.iadd, 1) := by decide +kernel
theorem dX10_playOne_109 : decode cX10_playOne 109 = .ok (.putfield 38, 3) := by decide +kernel
theorem dX10_playOne_112 : decode cX10_playOne 112 = .ok (.iload_n 2, 1) := by decide +kernel
theorem dX10_playOne_113 : decode cX10_playOne 113 = .ok (.ifCond .ne 16, 3) := by decide +kernel
theorem dX10_playOne_116 : decode cX10_playOne 116 = .ok (.aload_n 0, 1) := by decide +kernel
theorem dX10_playOne_117 : decode cX10_playOne 117 = .ok (.getfield 41, 3) := by decide +kernel
theorem dX10_playOne_120 : decode cX10_playOne 120 = .ok (.iconst (-1), 1) := by decide +kernel
theorem dX10_playOne_121 : decode cX10_playOne 121 = .ok (.if_icmp .ne 8, 3) := by decide +kernel
theorem dX10_playOne_124 : decode cX10_playOne 124 = .ok (.aload_n 0, 1) := by decide +kernel
theorem dX10_playOne_125 : decode cX10_playOne 125 = .ok (.iload_n 1, 1) := by decide +kernel
theorem dX10_playOne_126 : decode cX10_playOne 126 = .ok (.putfield 41, 3) := by decide +kernel
theorem dX10_playOne_129 : decode cX10_playOne 129 = .ok (.return_, 1) := by decide +kernel
theorem dX10_gain_0 : decode cX10_gain 0 = .ok (.iload_n 0, 1) := by decide +kernel
theorem dX10_gain_1 : decode cX10_gain 1 = .ok (.ifCond .lt 11, 3) := by decide +kernel
theorem dX10_gain_4 : decode cX10_gain 4 = .ok (.iload_n 0, 1) := by decide +kernel
theorem dX10_gain_5 : decode cX10_gain 5 = .ok (.iload_n 2, 1) := by decide +kernel
theorem dX10_gain_6 : decode cX10_gain 6 = .ok (.invokestatic 119, 3) := by decide +kernel
theorem dX10_gain_9 : decode cX10_gain 9 = .ok (.goto 10, 3) := by decide +kernel
theorem dX10_gain_12 : decode cX10_gain 12 = .ok (.iload_n 0, 1) := by decide +kernel
theorem dX10_gain_13 : decode cX10_gain 13 = .ok (.ineg, 1) := by decide +kernel
theorem dX10_gain_14 : decode cX10_gain 14 = .ok (.iload_n 1, 1) := by decide +kernel
theorem dX10_gain_15 : decode cX10_gain 15 = .ok (.invokestatic 119, 3) := by decide +kernel
theorem dX10_gain_18 : decode cX10_gain 18 = .ok (.ineg, 1) := by decide +kernel
theorem dX10_gain_19 : decode cX10_gain 19 = .ok (.ireturn, 1) := by decide +kernel
theorem dX10_marry_0 : decode cX10_marry 0 = .ok (.aload_n 0, 1) := by decide +kernel
theorem dX10_marry_1 : decode cX10_marry 1 = .ok (.getfield 48, 3) := by decide +kernel
theorem dX10_marry_4 : decode cX10_marry 4 = .ok (.iload_n 1, 1) := by decide +kernel
theorem dX10_marry_5 : decode cX10_marry 5 = .ok (.invokevirtual 77, 3) := by decide +kernel
theorem dX10_marry_8 : decode cX10_marry 8 = .ok (.istore 4, 2) := by decide +kernel
theorem dX10_marry_10 : decode cX10_marry 10 = .ok (.aload_n 0, 1) := by decide +kernel
theorem dX10_marry_11 : decode cX10_marry 11 = .ok (.getfield 48, 3) := by decide +kernel
theorem dX10_marry_14 : decode cX10_marry 14 = .ok (.iload_n 2, 1) := by decide +kernel
theorem dX10_marry_15 : decode cX10_marry 15 = .ok (.invokevirtual 77, 3) := by decide +kernel
theorem dX10_marry_18 : decode cX10_marry 18 = .ok (.istore 5, 2) := by decide +kernel
theorem dX10_marry_20 : decode cX10_marry 20 = .ok (.aload_n 0, 1) := by decide +kernel
theorem dX10_marry_21 : decode cX10_marry 21 = .ok (.iload_n 1, 1) := by decide +kernel
theorem dX10_marry_22 : decode cX10_marry 22 = .ok (.iload_n 2, 1) := by decide +kernel
theorem dX10_marry_23 : decode cX10_marry 23 = .ok (.invokevirtual 125, 3) := by decide +kernel
theorem dX10_marry_26 : decode cX10_marry 26 = .ok (.ifCond .eq 27, 3) := by decide +kernel
theorem dX10_marry_29 : decode cX10_marry 29 = .ok (.aload_n 0, 1) := by decide +kernel
theorem dX10_marry_30 : decode cX10_marry 30 = .ok (.getfield 44, 3) := by decide +kernel
theorem dX10_marry_33 : decode cX10_marry 33 = .ok (.iload 4, 2) := by decide +kernel
theorem dX10_marry_35 : decode cX10_marry 35 = .ok (.invokevirtual 60, 3) := by decide +kernel
theorem dX10_marry_38 : decode cX10_marry 38 = .ok (.ifCond .eq 15, 3) := by decide +kernel
theorem dX10_marry_41 : decode cX10_marry 41 = .ok (.aload_n 0, 1) := by decide +kernel
theorem dX10_marry_42 : decode cX10_marry 42 = .ok (.getfield 44, 3) := by decide +kernel
theorem dX10_marry_45 : decode cX10_marry 45 = .ok (.iload 5, 2) := by decide +kernel
theorem dX10_marry_47 : decode cX10_marry 47 = .ok (.invokevirtual 60, 3) := by decide +kernel
theorem dX10_marry_50 : decode cX10_marry 50 = .ok (.ifCond .ne 5, 3) := by decide +kernel
theorem dX10_marry_53 : decode cX10_marry 53 = .ok (.iconst 0, 1) := by decide +kernel
theorem dX10_marry_54 : decode cX10_marry 54 = .ok (.ireturn, 1) := by decide +kernel
theorem dX10_marry_55 : decode cX10_marry 55 = .ok (.iload_n 3, 1) := by decide +kernel
theorem dX10_marry_56 : decode cX10_marry 56 = .ok (.aload_n 0, 1) := by decide +kernel
theorem dX10_marry_57 : decode cX10_marry 57 = .ok (.getfield 9, 3) := by decide +kernel
theorem dX10_marry_60 : decode cX10_marry 60 = .ok (.iload 4, 2) := by decide +kernel
theorem dX10_marry_62 : decode cX10_marry 62 = .ok (.iaload, 1) := by decide +kernel
theorem dX10_marry_63 : decode cX10_marry 63 = .ok (.aload_n 0, 1) := by decide +kernel
theorem dX10_marry_64 : decode cX10_marry 64 = .ok (.getfield 9, 3) := by decide +kernel
theorem dX10_marry_67 : decode cX10_marry 67 = .ok (.iload 5, 2) := by decide +kernel
theorem dX10_marry_69 : decode cX10_marry 69 = .ok (.iaload, 1) := by decide +kernel
theorem dX10_marry_70 : decode cX10_marry 70 = .ok (.invokestatic 128, 3) := by decide +kernel
theorem dX10_marry_73 : decode cX10_marry 73 = .ok (.istore 6, 2) := by decide +kernel
theorem dX10_marry_75 : decode cX10_marry 75 = .ok (.aload_n 0, 1) := by decide +kernel
theorem dX10_marry_76 : decode cX10_marry 76 = .ok (.getfield 9, 3) := by decide +kernel
theorem dX10_marry_79 : decode cX10_marry 79 = .ok (.iload 4, 2) := by decide +kernel
theorem dX10_marry_81 : decode cX10_marry 81 = .ok (.dup2, 1) := by decide +kernel
theorem dX10_marry_82 : decode cX10_marry 82 = .ok (.iaload, 1) := by decide +kernel
theorem dX10_marry_83 : decode cX10_marry 83 = .ok (.iload 6, 2) := by decide +kernel
theorem dX10_marry_85 : decode cX10_marry 85 = .ok (.iadd, 1) := by decide +kernel
theorem dX10_marry_86 : decode cX10_marry 86 = .ok (.iastore, 1) := by decide +kernel
theorem dX10_marry_87 : decode cX10_marry 87 = .ok (.aload_n 0, 1) := by decide +kernel
theorem dX10_marry_88 : decode cX10_marry 88 = .ok (.getfield 9, 3) := by decide +kernel
theorem dX10_marry_91 : decode cX10_marry 91 = .ok (.iload 5, 2) := by decide +kernel
theorem dX10_marry_93 : decode cX10_marry 93 = .ok (.dup2, 1) := by decide +kernel
theorem dX10_marry_94 : decode cX10_marry 94 = .ok (.iaload, 1) := by decide +kernel
theorem dX10_marry_95 : decode cX10_marry 95 = .ok (.iload 6, 2) := by decide +kernel
theorem dX10_marry_97 : decode cX10_marry 97 = .ok (.isub, 1) := by decide +kernel
theorem dX10_marry_98 : decode cX10_marry 98 = .ok (.iastore, 1) := by decide +kernel
theorem dX10_marry_99 : decode cX10_marry 99 = .ok (.aload_n 0, 1) := by decide +kernel
theorem dX10_marry_100 : decode cX10_marry 100 = .ok (.iload 4, 2) := by decide +kernel
theorem dX10_marry_102 : decode cX10_marry 102 = .ok (.iload 5, 2) := by decide +kernel
theorem dX10_marry_104 : decode cX10_marry 104 = .ok (.if_icmp .ge 8, 3) := by decide +kernel
theorem dX10_marry_107 : decode cX10_marry 107 = .ok (.iload 6, 2) := by decide +kernel
theorem dX10_marry_109 : decode cX10_marry 109 = .ok (.goto 6, 3) := by decide +kernel
theorem dX10_marry_112 : decode cX10_marry 112 = .ok (.iload 6, 2) := by decide +kernel
theorem dX10_marry_114 : decode cX10_marry 114 = .ok (.ineg, 1) := by decide +kernel
theorem dX10_marry_115 : decode cX10_marry 115 = .ok (.putfield 35, 3) := by decide +kernel
theorem dX10_marry_118 : decode cX10_marry 118 = .ok (.iload 6, 2) := by decide +kernel
theorem dX10_marry_120 : decode cX10_marry 120 = .ok (.ifCond .le 8, 3) := by decide +kernel
theorem dX10_marry_123 : decode cX10_marry 123 = .ok (.iload 4, 2) := by decide +kernel
theorem dX10_marry_125 : decode cX10_marry 125 = .ok (.goto 5, 3) := by decide +kernel
theorem dX10_marry_128 : decode cX10_marry 128 = .ok (.iload 5, 2) := by decide +kernel
theorem dX10_marry_130 : decode cX10_marry 130 = .ok (.istore 7, 2) := by decide +kernel
theorem dX10_marry_132 : decode cX10_marry 132 = .ok (.aload_n 0, 1) := by decide +kernel
theorem dX10_marry_133 : decode cX10_marry 133 = .ok (.iload_n 1, 1) := by decide +kernel
theorem dX10_marry_134 : decode cX10_marry 134 = .ok (.iload_n 2, 1) := by decide +kernel
theorem dX10_marry_135 : decode cX10_marry 135 = .ok (.iload 6, 2) := by decide +kernel
theorem dX10_marry_137 : decode cX10_marry 137 = .ok (.invokestatic 132, 3) := by decide +kernel
theorem dX10_marry_140 : decode cX10_marry 140 = .ok (.iload 7, 2) := by decide +kernel
theorem dX10_marry_142 : decode cX10_marry 142 = .ok (.invokevirtual 135, 3) := by decide +kernel
theorem dX10_marry_145 : decode cX10_marry 145 = .ok (.aload_n 0, 1) := by decide +kernel
theorem dX10_marry_146 : decode cX10_marry 146 = .ok (.iload_n 2, 1) := by decide +kernel
theorem dX10_marry_147 : decode cX10_marry 147 = .ok (.iload_n 1, 1) := by decide +kernel
theorem dX10_marry_148 : decode cX10_marry 148 = .ok (.iload 6, 2) := by decide +kernel
theorem dX10_marry_150 : decode cX10_marry 150 = .ok (.invokestatic 132, 3) := by decide +kernel
theorem dX10_marry_153 : decode cX10_marry 153 = .ok (.iload 7, 2) := by decide +kernel
theorem dX10_marry_155 : decode cX10_marry 155 = .ok (.invokevirtual 135, 3) := by decide +kernel
theorem dX10_marry_158 : decode cX10_marry 158 = .ok (.iconst 1, 1) := by decide +kernel
theorem dX10_marry_159 : decode cX10_marry 159 = .ok (.ireturn, 1) := by decide +kernel
theorem dX10_part_0 : decode cX10_part 0 = .ok (.aload_n 0, 1) := by decide +kernel
theorem dX10_part_1 : decode cX10_part 1 = .ok (.iload_n 1, 1) := by decide +kernel
theorem dX10_part_2 : decode cX10_part 2 = .ok (.invokevirtual 139, 3) := by decide +kernel
theorem dX10_part_5 : decode cX10_part 5 = .ok (.iconst (-1), 1) := by decide +kernel
theorem dX10_part_6 : decode cX10_part 6 = .ok (.if_icmp .ne 5, 3) := by decide +kernel
theorem dX10_part_9 : decode cX10_part 9 = .ok (.iconst 0, 1) := by decide +kernel
theorem dX10_part_10 : decode cX10_part 10 = .ok (.ireturn, 1) := by decide +kernel
theorem dX10_part_11 : decode cX10_part 11 = .ok (.aload_n 0, 1) := by decide +kernel
theorem dX10_part_12 : decode cX10_part 12 = .ok (.aload_n 0, 1) := by decide +kernel
theorem dX10_part_13 : decode cX10_part 13 = .ok (.iload_n 1, 1) := by decide +kernel
theorem dX10_part_14 : decode cX10_part 14 = .ok (.invokevirtual 142, 3) := by decide +kernel
theorem dX10_part_17 : decode cX10_part 17 = .ok (.putfield 35, 3) := by decide +kernel
theorem dX10_part_20 : decode cX10_part 20 = .ok (.aload_n 0, 1) := by decide +kernel
theorem dX10_part_21 : decode cX10_part 21 = .ok (.dup, 1) := by decide +kernel
theorem dX10_part_22 : decode cX10_part 22 = .ok (.getfield 31, 3) := by decide +kernel
theorem dX10_part_25 : decode cX10_part 25 = .ok (.aload_n 0, 1) := by decide +kernel
theorem dX10_part_26 : decode cX10_part 26 = .ok (.getfield 35, 3) := by decide +kernel
theorem dX10_part_29 : decode cX10_part 29 = .ok (.iadd, 1) := by decide +kernel
theorem dX10_part_30 : decode cX10_part 30 = .ok (.putfield 31, 3) := by decide +kernel
theorem dX10_part_33 : decode cX10_part 33 = .ok (.iconst 1, 1) := by decide +kernel
theorem dX10_part_34 : decode cX10_part 34 = .ok (.ireturn, 1) := by decide +kernel
theorem dX10_die_0 : decode cX10_die 0 = .ok (.aload_n 0, 1) := by decide +kernel
theorem dX10_die_1 : decode cX10_die 1 = .ok (.iload_n 1, 1) := by decide +kernel
theorem dX10_die_2 : decode cX10_die 2 = .ok (.invokevirtual 145, 3) := by decide +kernel
theorem dX10_die_5 : decode cX10_die 5 = .ok (.ifCond .ne 5, 3) := by decide +kernel
theorem dX10_die_8 : decode cX10_die 8 = .ok (.iconst 0, 1) := by decide +kernel
theorem dX10_die_9 : decode cX10_die 9 = .ok (.ireturn, 1) := by decide +kernel
theorem dX10_die_10 : decode cX10_die 10 = .ok (.aload_n 0, 1) := by decide +kernel
theorem dX10_die_11 : decode cX10_die 11 = .ok (.getfield 15, 3) := by decide +kernel
theorem dX10_die_14 : decode cX10_die 14 = .ok (.iload_n 1, 1) := by decide +kernel
theorem dX10_die_15 : decode cX10_die 15 = .ok (.iaload, 1) := by decide +kernel
theorem dX10_die_16 : decode cX10_die 16 = .ok (.istore_n 2, 1) := by decide +kernel
theorem dX10_die_17 : decode cX10_die 17 = .ok (.aload_n 0, 1) := by decide +kernel
theorem dX10_die_18 : decode cX10_die 18 = .ok (.getfield 21, 3) := by decide +kernel
theorem dX10_die_21 : decode cX10_die 21 = .ok (.iload_n 1, 1) := by decide +kernel
theorem dX10_die_22 : decode cX10_die 22 = .ok (.iconst 0, 1) := by decide +kernel
theorem dX10_die_23 : decode cX10_die 23 = .ok (.bastore, 1) := by decide +kernel
theorem dX10_die_24 : decode cX10_die 24 = .ok (.aload_n 0, 1) := by decide +kernel
theorem dX10_die_25 : decode cX10_die 25 = .ok (.getfield 48, 3) := by decide +kernel
theorem dX10_die_28 : decode cX10_die 28 = .ok (.iload_n 2, 1) := by decide +kernel
theorem dX10_die_29 : decode cX10_die 29 = .ok (.invokevirtual 66, 3) := by decide +kernel
theorem dX10_die_32 : decode cX10_die 32 = .ok (.ifCond .eq 25, 3) := by decide +kernel
theorem dX10_die_35 : decode cX10_die 35 = .ok (.aload_n 0, 1) := by decide +kernel
theorem dX10_die_36 : decode cX10_die 36 = .ok (.aload_n 0, 1) := by decide +kernel
theorem dX10_die_37 : decode cX10_die 37 = .ok (.iload_n 1, 1) := by decide +kernel
theorem dX10_die_38 : decode cX10_die 38 = .ok (.invokevirtual 142, 3) := by decide +kernel
theorem dX10_die_41 : decode cX10_die 41 = .ok (.putfield 35, 3) := by decide +kernel
theorem dX10_die_44 : decode cX10_die 44 = .ok (.aload_n 0, 1) := by decide +kernel
theorem dX10_die_45 : decode cX10_die 45 = .ok (.getfield 18, 3) := by decide +kernel
theorem dX10_die_48 : decode cX10_die 48 = .ok (.iload_n 2, 1) := by decide +kernel
theorem dX10_die_49 : decode cX10_die 49 = .ok (.dup2, 1) := by decide +kernel
theorem dX10_die_50 : decode cX10_die 50 = .ok (.iaload, 1) := by decide +kernel
theorem dX10_die_51 : decode cX10_die 51 = .ok (.aload_n 0, 1) := by decide +kernel
theorem dX10_die_52 : decode cX10_die 52 = .ok (.getfield 35, 3) := by decide +kernel
theorem dX10_die_55 : decode cX10_die 55 = .ok (.iadd, 1) := by decide +kernel
theorem dX10_die_56 : decode cX10_die 56 = .ok (.iastore, 1) := by decide +kernel
theorem dX10_die_57 : decode cX10_die 57 = .ok (.iconst 1, 1) := by decide +kernel
theorem dX10_die_58 : decode cX10_die 58 = .ok (.ireturn, 1) := by decide +kernel
theorem dX10_differenceAt_0 : decode cX10_differenceAt 0 = .ok (.aload_n 0, 1) := by decide +kernel
theorem dX10_differenceAt_1 : decode cX10_differenceAt 1 = .ok (.getfield 52, 3) := by decide +kernel
theorem dX10_differenceAt_4 : decode cX10_differenceAt 4 = .ok (.aload_n 0, 1) := by decide +kernel
theorem dX10_differenceAt_5 : decode cX10_differenceAt 5 = .ok (.getfield 56, 3) := by decide +kernel
theorem dX10_differenceAt_8 : decode cX10_differenceAt 8 = .ok (.iload_n 1, 1) := by decide +kernel
theorem dX10_differenceAt_9 : decode cX10_differenceAt 9 = .ok (.invokevirtual 148, 3) := by decide +kernel
theorem dX10_differenceAt_12 : decode cX10_differenceAt 12 = .ok (.invokevirtual 151, 3) := by decide +kernel
theorem dX10_differenceAt_15 : decode cX10_differenceAt 15 = .ok (.iconst 1, 1) := by decide +kernel
theorem dX10_differenceAt_16 : decode cX10_differenceAt 16 = .ok (.if_icmp .ne 5, 3) := by decide +kernel
theorem dX10_differenceAt_19 : decode cX10_differenceAt 19 = .ok (.iconst 0, 1) := by decide +kernel
theorem dX10_differenceAt_20 : decode cX10_differenceAt 20 = .ok (.ireturn, 1) := by decide +kernel
theorem dX10_differenceAt_21 : decode cX10_differenceAt 21 = .ok (.aload_n 0, 1) := by decide +kernel
theorem dX10_differenceAt_22 : decode cX10_differenceAt 22 = .ok (.getfield 56, 3) := by decide +kernel
theorem dX10_differenceAt_25 : decode cX10_differenceAt 25 = .ok (.iload_n 1, 1) := by decide +kernel
theorem dX10_differenceAt_26 : decode cX10_differenceAt 26 = .ok (.invokevirtual 156, 3) := by decide +kernel
theorem dX10_differenceAt_29 : decode cX10_differenceAt 29 = .ok (.istore_n 2, 1) := by decide +kernel
theorem dX10_differenceAt_30 : decode cX10_differenceAt 30 = .ok (.aload_n 0, 1) := by decide +kernel
theorem dX10_differenceAt_31 : decode cX10_differenceAt 31 = .ok (.getfield 48, 3) := by decide +kernel
theorem dX10_differenceAt_34 : decode cX10_differenceAt 34 = .ok (.aload_n 0, 1) := by decide +kernel
theorem dX10_differenceAt_35 : decode cX10_differenceAt 35 = .ok (.getfield 56, 3) := by decide +kernel
theorem dX10_differenceAt_38 : decode cX10_differenceAt 38 = .ok (.iload_n 1, 1) := by decide +kernel
theorem dX10_differenceAt_39 : decode cX10_differenceAt 39 = .ok (.invokevirtual 100, 3) := by decide +kernel
theorem dX10_differenceAt_42 : decode cX10_differenceAt 42 = .ok (.iload_n 2, 1) := by decide +kernel
theorem dX10_differenceAt_43 : decode cX10_differenceAt 43 = .ok (.invokevirtual 159, 3) := by decide +kernel
theorem dX10_differenceAt_46 : decode cX10_differenceAt 46 = .ok (.aload_n 0, 1) := by decide +kernel
theorem dX10_differenceAt_47 : decode cX10_differenceAt 47 = .ok (.getfield 48, 3) := by decide +kernel
theorem dX10_differenceAt_50 : decode cX10_differenceAt 50 = .ok (.aload_n 0, 1) := by decide +kernel
theorem dX10_differenceAt_51 : decode cX10_differenceAt 51 = .ok (.getfield 56, 3) := by decide +kernel
theorem dX10_differenceAt_54 : decode cX10_differenceAt 54 = .ok (.iload_n 1, 1) := by decide +kernel
theorem dX10_differenceAt_55 : decode cX10_differenceAt 55 = .ok (.invokevirtual 103, 3) := by decide +kernel
theorem dX10_differenceAt_58 : decode cX10_differenceAt 58 = .ok (.iload_n 2, 1) := by decide +kernel
theorem dX10_differenceAt_59 : decode cX10_differenceAt 59 = .ok (.invokevirtual 159, 3) := by decide +kernel
theorem dX10_differenceAt_62 : decode cX10_differenceAt 62 = .ok (.isub, 1) := by decide +kernel
theorem dX10_differenceAt_63 : decode cX10_differenceAt 63 = .ok (.ireturn, 1) := by decide +kernel
theorem dX10_bind_0 : decode cX10_bind 0 = .ok (.aload_n 0, 1) := by decide +kernel
theorem dX10_bind_1 : decode cX10_bind 1 = .ok (.getfield 48, 3) := by decide +kernel
theorem dX10_bind_4 : decode cX10_bind 4 = .ok (.iload_n 1, 1) := by decide +kernel
theorem dX10_bind_5 : decode cX10_bind 5 = .ok (.invokevirtual 66, 3) := by decide +kernel
theorem dX10_bind_8 : decode cX10_bind 8 = .ok (.ifCond .eq 25, 3) := by decide +kernel
theorem dX10_bind_11 : decode cX10_bind 11 = .ok (.aload_n 0, 1) := by decide +kernel
theorem dX10_bind_12 : decode cX10_bind 12 = .ok (.getfield 15, 3) := by decide +kernel
theorem dX10_bind_15 : decode cX10_bind 15 = .ok (.iload_n 1, 1) := by decide +kernel
theorem dX10_bind_16 : decode cX10_bind 16 = .ok (.iload_n 2, 1) := by decide +kernel
theorem dX10_bind_17 : decode cX10_bind 17 = .ok (.iastore, 1) := by decide +kernel
theorem dX10_bind_18 : decode cX10_bind 18 = .ok (.aload_n 0, 1) := by decide +kernel
theorem dX10_bind_19 : decode cX10_bind 19 = .ok (.getfield 25, 3) := by decide +kernel
theorem dX10_bind_22 : decode cX10_bind 22 = .ok (.iload_n 1, 1) := by decide +kernel
theorem dX10_bind_23 : decode cX10_bind 23 = .ok (.iload_n 3, 1) := by decide +kernel
theorem dX10_bind_24 : decode cX10_bind 24 = .ok (.iastore, 1) := by decide +kernel
theorem dX10_bind_25 : decode cX10_bind 25 = .ok (.aload_n 0, 1) := by decide +kernel
theorem dX10_bind_26 : decode cX10_bind 26 = .ok (.getfield 28, 3) := by decide +kernel
theorem dX10_bind_29 : decode cX10_bind 29 = .ok (.iload_n 1, 1) := by decide +kernel
theorem dX10_bind_30 : decode cX10_bind 30 = .ok (.iload 4, 2) := by decide +kernel
theorem dX10_bind_32 : decode cX10_bind 32 = .ok (.iastore, 1) := by decide +kernel
theorem dX10_bind_33 : decode cX10_bind 33 = .ok (.return_, 1) := by decide +kernel
theorem dX10_dissolve_0 : decode cX10_dissolve 0 = .ok (.aload_n 0, 1) := by decide +kernel
theorem dX10_dissolve_1 : decode cX10_dissolve 1 = .ok (.getfield 48, 3) := by decide +kernel
theorem dX10_dissolve_4 : decode cX10_dissolve 4 = .ok (.iload_n 1, 1) := by decide +kernel
theorem dX10_dissolve_5 : decode cX10_dissolve 5 = .ok (.invokevirtual 66, 3) := by decide +kernel
theorem dX10_dissolve_8 : decode cX10_dissolve 8 = .ok (.ifCond .eq 35, 3) := by decide +kernel
theorem dX10_dissolve_11 : decode cX10_dissolve 11 = .ok (.aload_n 0, 1) := by decide +kernel
theorem dX10_dissolve_12 : decode cX10_dissolve 12 = .ok (.getfield 48, 3) := by decide +kernel
theorem dX10_dissolve_15 : decode cX10_dissolve 15 = .ok (.aload_n 0, 1) := by decide +kernel
theorem dX10_dissolve_16 : decode cX10_dissolve 16 = .ok (.getfield 15, 3) := by decide +kernel
theorem dX10_dissolve_19 : decode cX10_dissolve 19 = .ok (.iload_n 1, 1) := by decide +kernel
theorem dX10_dissolve_20 : decode cX10_dissolve 20 = .ok (.iaload, 1) := by decide +kernel
theorem dX10_dissolve_21 : decode cX10_dissolve 21 = .ok (.invokevirtual 66, 3) := by decide +kernel
theorem dX10_dissolve_24 : decode cX10_dissolve 24 = .ok (.ifCond .eq 19, 3) := by decide +kernel
theorem dX10_dissolve_27 : decode cX10_dissolve 27 = .ok (.aload_n 0, 1) := by decide +kernel
theorem dX10_dissolve_28 : decode cX10_dissolve 28 = .ok (.getfield 44, 3) := by decide +kernel
theorem dX10_dissolve_31 : decode cX10_dissolve 31 = .ok (.aload_n 0, 1) := by decide +kernel
theorem dX10_dissolve_32 : decode cX10_dissolve 32 = .ok (.getfield 28, 3) := by decide +kernel
theorem dX10_dissolve_35 : decode cX10_dissolve 35 = .ok (.iload_n 1, 1) := by decide +kernel
theorem dX10_dissolve_36 : decode cX10_dissolve 36 = .ok (.iaload, 1) := by decide +kernel
theorem dX10_dissolve_37 : decode cX10_dissolve 37 = .ok (.invokevirtual 60, 3) := by decide +kernel
theorem dX10_dissolve_40 : decode cX10_dissolve 40 = .ok (.ifCond .ne 5, 3) := by decide +kernel
theorem dX10_dissolve_43 : decode cX10_dissolve 43 = .ok (.iconst 0, 1) := by decide +kernel
theorem dX10_dissolve_44 : decode cX10_dissolve 44 = .ok (.ireturn, 1) := by decide +kernel
theorem dX10_dissolve_45 : decode cX10_dissolve 45 = .ok (.aload_n 0, 1) := by decide +kernel
theorem dX10_dissolve_46 : decode cX10_dissolve 46 = .ok (.getfield 28, 3) := by decide +kernel
theorem dX10_dissolve_49 : decode cX10_dissolve 49 = .ok (.iload_n 1, 1) := by decide +kernel
theorem dX10_dissolve_50 : decode cX10_dissolve 50 = .ok (.iaload, 1) := by decide +kernel
theorem dX10_dissolve_51 : decode cX10_dissolve 51 = .ok (.istore_n 2, 1) := by decide +kernel
theorem dX10_dissolve_52 : decode cX10_dissolve 52 = .ok (.aload_n 0, 1) := by decide +kernel
theorem dX10_dissolve_53 : decode cX10_dissolve 53 = .ok (.getfield 25, 3) := by decide +kernel
theorem dX10_dissolve_56 : decode cX10_dissolve 56 = .ok (.iload_n 1, 1) := by decide +kernel
theorem dX10_dissolve_57 : decode cX10_dissolve 57 = .ok (.iaload, 1) := by decide +kernel
theorem dX10_dissolve_58 : decode cX10_dissolve 58 = .ok (.aload_n 0, 1) := by decide +kernel
theorem dX10_dissolve_59 : decode cX10_dissolve 59 = .ok (.getfield 9, 3) := by decide +kernel
theorem dX10_dissolve_62 : decode cX10_dissolve 62 = .ok (.iload_n 2, 1) := by decide +kernel
theorem dX10_dissolve_63 : decode cX10_dissolve 63 = .ok (.iaload, 1) := by decide +kernel
theorem dX10_dissolve_64 : decode cX10_dissolve 64 = .ok (.invokestatic 119, 3) := by decide +kernel
theorem dX10_dissolve_67 : decode cX10_dissolve 67 = .ok (.istore_n 3, 1) := by decide +kernel
theorem dX10_dissolve_68 : decode cX10_dissolve 68 = .ok (.aload_n 0, 1) := by decide +kernel
theorem dX10_dissolve_69 : decode cX10_dissolve 69 = .ok (.getfield 9, 3) := by decide +kernel
theorem dX10_dissolve_72 : decode cX10_dissolve 72 = .ok (.iload_n 2, 1) := by decide +kernel
theorem dX10_dissolve_73 : decode cX10_dissolve 73 = .ok (.dup2, 1) := by decide +kernel
theorem dX10_dissolve_74 : decode cX10_dissolve 74 = .ok (.iaload, 1) := by decide +kernel
theorem dX10_dissolve_75 : decode cX10_dissolve 75 = .ok (.iload_n 3, 1) := by decide +kernel
theorem dX10_dissolve_76 : decode cX10_dissolve 76 = .ok (.isub, 1) := by decide +kernel
theorem dX10_dissolve_77 : decode cX10_dissolve 77 = .ok (.iastore, 1) := by decide +kernel
theorem dX10_dissolve_78 : decode cX10_dissolve 78 = .ok (.aload_n 0, 1) := by decide +kernel
theorem dX10_dissolve_79 : decode cX10_dissolve 79 = .ok (.getfield 15, 3) := by decide +kernel
theorem dX10_dissolve_82 : decode cX10_dissolve 82 = .ok (.aload_n 0, 1) := by decide +kernel
theorem dX10_dissolve_83 : decode cX10_dissolve 83 = .ok (.getfield 15, 3) := by decide +kernel
theorem dX10_dissolve_86 : decode cX10_dissolve 86 = .ok (.iload_n 1, 1) := by decide +kernel
theorem dX10_dissolve_87 : decode cX10_dissolve 87 = .ok (.iaload, 1) := by decide +kernel
theorem dX10_dissolve_88 : decode cX10_dissolve 88 = .ok (.iconst (-1), 1) := by decide +kernel
theorem dX10_dissolve_89 : decode cX10_dissolve 89 = .ok (.iastore, 1) := by decide +kernel
theorem dX10_dissolve_90 : decode cX10_dissolve 90 = .ok (.aload_n 0, 1) := by decide +kernel
theorem dX10_dissolve_91 : decode cX10_dissolve 91 = .ok (.getfield 15, 3) := by decide +kernel
theorem dX10_dissolve_94 : decode cX10_dissolve 94 = .ok (.iload_n 1, 1) := by decide +kernel
theorem dX10_dissolve_95 : decode cX10_dissolve 95 = .ok (.iconst (-1), 1) := by decide +kernel
theorem dX10_dissolve_96 : decode cX10_dissolve 96 = .ok (.iastore, 1) := by decide +kernel
theorem dX10_dissolve_97 : decode cX10_dissolve 97 = .ok (.iload_n 3, 1) := by decide +kernel
theorem dX10_dissolve_98 : decode cX10_dissolve 98 = .ok (.ireturn, 1) := by decide +kernel
