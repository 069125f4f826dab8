theorem dX12_init_0 : decode cX12_init 0 = .ok (.aload_n 0, 1) := by decide +kernel
theorem dX12_init_1 : decode cX12_init 1 = .ok (.invokespecial 1, 3) := by decide +kernel
theorem dX12_init_4 : decode cX12_init 4 = .ok (.aload_n 0, 1) := by decide +kernel
theorem dX12_init_5 : decode cX12_init 5 = .ok (.iconst 4, 1) := by decide +kernel
theorem dX12_init_6 : decode cX12_init 6 = .ok (.newarray .int, 2) := by decide +kernel
theorem dX12_init_8 : decode cX12_init 8 = .ok (.putfield 7, 3) := by decide +kernel
theorem dX12_init_11 : decode cX12_init 11 = .ok (.aload_n 0, 1) := by decide +kernel
theorem dX12_init_12 : decode cX12_init 12 = .ok (.iconst 4, 1) := by decide +kernel
theorem dX12_init_13 : decode cX12_init 13 = .ok (.newarray .int, 2) := by decide +kernel
theorem dX12_init_15 : decode cX12_init 15 = .ok (.putfield 13, 3) := by decide +kernel
theorem dX12_init_18 : decode cX12_init 18 = .ok (.aload_n 0, 1) := by decide +kernel
theorem dX12_init_19 : decode cX12_init 19 = .ok (.sipush 240, 3) := by decide +kernel
theorem dX12_init_22 : decode cX12_init 22 = .ok (.newarray .int, 2) := by decide +kernel
theorem dX12_init_24 : decode cX12_init 24 = .ok (.putfield 16, 3) := by decide +kernel
theorem dX12_init_27 : decode cX12_init 27 = .ok (.aload_n 0, 1) := by decide +kernel
theorem dX12_init_28 : decode cX12_init 28 = .ok (.bipush 60, 2) := by decide +kernel
theorem dX12_init_30 : decode cX12_init 30 = .ok (.newarray .int, 2) := by decide +kernel
theorem dX12_init_32 : decode cX12_init 32 = .ok (.putfield 19, 3) := by decide +kernel
theorem dX12_init_35 : decode cX12_init 35 = .ok (.aload_n 0, 1) := by decide +kernel
theorem dX12_init_36 : decode cX12_init 36 = .ok (.bipush 80, 2) := by decide +kernel
theorem dX12_init_38 : decode cX12_init 38 = .ok (.newarray .int, 2) := by decide +kernel
theorem dX12_init_40 : decode cX12_init 40 = .ok (.putfield 22, 3) := by decide +kernel
theorem dX12_init_43 : decode cX12_init 43 = .ok (.aload_n 0, 1) := by decide +kernel
theorem dX12_init_44 : decode cX12_init 44 = .ok (.iconst 2, 1) := by decide +kernel
theorem dX12_init_45 : decode cX12_init 45 = .ok (.newarray .int, 2) := by decide +kernel
theorem dX12_init_47 : decode cX12_init 47 = .ok (.putfield 25, 3) := by decide +kernel
theorem dX12_init_50 : decode cX12_init 50 = .ok (.aload_n 0, 1) := by decide +kernel
theorem dX12_init_51 : decode cX12_init 51 = .ok (.bipush 6, 2) := by decide +kernel
theorem dX12_init_53 : decode cX12_init 53 = .ok (.newarray .int, 2) := by decide +kernel
theorem dX12_init_55 : decode cX12_init 55 = .ok (.putfield 28, 3) := by decide +kernel
theorem dX12_init_58 : decode cX12_init 58 = .ok (.aload_n 0, 1) := by decide +kernel
theorem dX12_init_59 : decode cX12_init 59 = .ok (.bipush 48, 2) := by decide +kernel
theorem dX12_init_61 : decode cX12_init 61 = .ok (.newarray .int, 2) := by decide +kernel
theorem dX12_init_63 : decode cX12_init 63 = .ok (.putfield 31, 3) := by decide +kernel
theorem dX12_init_66 : decode cX12_init 66 = .ok (.aload_n 0, 1) := by decide +kernel
theorem dX12_init_67 : decode cX12_init 67 = .ok (.bipush 52, 2) := by decide +kernel
theorem dX12_init_69 : decode cX12_init 69 = .ok (.newarray .int, 2) := by decide +kernel
theorem dX12_init_71 : decode cX12_init 71 = .ok (.putfield 34, 3) := by decide +kernel
theorem dX12_init_74 : decode cX12_init 74 = .ok (.aload_n 0, 1) := by decide +kernel
theorem dX12_init_75 : decode cX12_init 75 = .ok (.bipush 120, 2) := by decide +kernel
theorem dX12_init_77 : decode cX12_init 77 = .ok (.newarray .int, 2) := by decide +kernel
theorem dX12_init_79 : decode cX12_init 79 = .ok (.putfield 37, 3) := by decide +kernel
theorem dX12_init_82 : decode cX12_init 82 = .ok (.aload_n 0, 1) := by decide +kernel
theorem dX12_init_83 : decode cX12_init 83 = .ok (.bipush 6, 2) := by decide +kernel
theorem dX12_init_85 : decode cX12_init 85 = .ok (.newarray .int, 2) := by decide +kernel
theorem dX12_init_87 : decode cX12_init 87 = .ok (.putfield 40, 3) := by decide +kernel
theorem dX12_init_90 : decode cX12_init 90 = .ok (.aload_n 0, 1) := by decide +kernel
theorem dX12_init_91 : decode cX12_init 91 = .ok (.bipush 12, 2) := by decide +kernel
theorem dX12_init_93 : decode cX12_init 93 = .ok (.newarray .int, 2) := by decide +kernel
theorem dX12_init_95 : decode cX12_init 95 = .ok (.putfield 43, 3) := by decide +kernel
theorem dX12_init_98 : decode cX12_init 98 = .ok (.aload_n 0, 1) := by decide +kernel
theorem dX12_init_99 : decode cX12_init 99 = .ok (.bipush 12, 2) := by decide +kernel
theorem dX12_init_101 : decode cX12_init 101 = .ok (.newarray .int, 2) := by decide +kernel
theorem dX12_init_103 : decode cX12_init 103 = .ok (.putfield 46, 3) := by decide +kernel
theorem dX12_init_106 : decode cX12_init 106 = .ok (.aload_n 0, 1) := by decide +kernel
theorem dX12_init_107 : decode cX12_init 107 = .ok (.bipush 12, 2) := by decide +kernel
theorem dX12_init_109 : decode cX12_init 109 = .ok (.newarray .int, 2) := by decide +kernel
theorem dX12_init_111 : decode cX12_init 111 = .ok (.putfield 49, 3) := by decide +kernel
theorem dX12_init_114 : decode cX12_init 114 = .ok (.aload_n 0, 1) := by decide +kernel
theorem dX12_init_115 : decode cX12_init 115 = .ok (.bipush 12, 2) := by decide +kernel
theorem dX12_init_117 : decode cX12_init 117 = .ok (.newarray .int, 2) := by decide +kernel
theorem dX12_init_119 : decode cX12_init 119 = .ok (.putfield 52, 3) := by decide +kernel
theorem dX12_init_122 : decode cX12_init 122 = .ok (.aload_n 0, 1) := by decide +kernel
theorem dX12_init_123 : decode cX12_init 123 = .ok (.bipush 12, 2) := by decide +kernel
theorem dX12_init_125 : decode cX12_init 125 = .ok (.newarray .int, 2) := by decide +kernel
theorem dX12_init_127 : decode cX12_init 127 = .ok (.putfield 55, 3) := by decide +kernel
theorem dX12_init_130 : decode cX12_init 130 = .ok (.aload_n 0, 1) := by decide +kernel
theorem dX12_init_131 : decode cX12_init 131 = .ok (.bipush 24, 2) := by decide +kernel
theorem dX12_init_133 : decode cX12_init 133 = .ok (.newarray .int, 2) := by decide +kernel
theorem dX12_init_135 : decode cX12_init 135 = .ok (.putfield 58, 3) := by decide +kernel
theorem dX12_init_138 : decode cX12_init 138 = .ok (.aload_n 0, 1) := by decide +kernel
theorem dX12_init_139 : decode cX12_init 139 = .ok (.bipush 12, 2) := by decide +kernel
theorem dX12_init_141 : decode cX12_init 141 = .ok (.newarray .int, 2) := by decide +kernel
theorem dX12_init_143 : decode cX12_init 143 = .ok (.putfield 61, 3) := by decide +kernel
theorem dX12_init_146 : decode cX12_init 146 = .ok (.aload_n 0, 1) := by decide +kernel
theorem dX12_init_147 : decode cX12_init 147 = .ok (.bipush 13, 2) := by decide +kernel
theorem dX12_init_149 : decode cX12_init 149 = .ok (.newarray .int, 2) := by decide +kernel
theorem dX12_init_151 : decode cX12_init 151 = .ok (.putfield 64, 3) := by decide +kernel
theorem dX12_init_154 : decode cX12_init 154 = .ok (.aload_n 0, 1) := by decide +kernel
theorem dX12_init_155 : decode cX12_init 155 = .ok (.bipush 13, 2) := by decide +kernel
theorem dX12_init_157 : decode cX12_init 157 = .ok (.newarray .int, 2) := by decide +kernel
theorem dX12_init_159 : decode cX12_init 159 = .ok (.putfield 67, 3) := by decide +kernel
theorem dX12_init_162 : decode cX12_init 162 = .ok (.aload_n 0, 1) := by decide +kernel
theorem dX12_init_163 : decode cX12_init 163 = .ok (.bipush 24, 2) := by decide +kernel
theorem dX12_init_165 : decode cX12_init 165 = .ok (.newarray .int, 2) := by decide +kernel
theorem dX12_init_167 : decode cX12_init 167 = .ok (.putfield 70, 3) := by decide +kernel
theorem dX12_init_170 : decode cX12_init 170 = .ok (.aload_n 0, 1) := by decide +kernel
theorem dX12_init_171 : decode cX12_init 171 = .ok (.iconst 4, 1) := by decide +kernel
theorem dX12_init_172 : decode cX12_init 172 = .ok (.newarray .int, 2) := by decide +kernel
theorem dX12_init_174 : decode cX12_init 174 = .ok (.putfield 73, 3) := by decide +kernel
theorem dX12_init_177 : decode cX12_init 177 = .ok (.aload_n 0, 1) := by decide +kernel
theorem dX12_init_178 : decode cX12_init 178 = .ok (.iconst 4, 1) := by decide +kernel
theorem dX12_init_179 : decode cX12_init 179 = .ok (.newarray .int, 2) := by decide +kernel
theorem dX12_init_181 : decode cX12_init 181 = .ok (.putfield 76, 3) := by decide +kernel
theorem dX12_init_184 : decode cX12_init 184 = .ok (.aload_n 0, 1) := by decide +kernel
theorem dX12_init_185 : decode cX12_init 185 = .ok (.bipush 6, 2) := by decide +kernel
theorem dX12_init_187 : decode cX12_init 187 = .ok (.newarray .int, 2) := by decide +kernel
theorem dX12_init_189 : decode cX12_init 189 = .ok (.putfield 79, 3) := by decide +kernel
theorem dX12_init_192 : decode cX12_init 192 = .ok (.aload_n 0, 1) := by decide +kernel
theorem dX12_init_193 : decode cX12_init 193 = .ok (.bipush 6, 2) := by decide +kernel
theorem dX12_init_195 : decode cX12_init 195 = .ok (.newarray .int, 2) := by decide +kernel
theorem dX12_init_197 : decode cX12_init 197 = .ok (.putfield 82, 3) := by decide +kernel
theorem dX12_init_200 : decode cX12_init 200 = .ok (.aload_n 0, 1) := by decide +kernel
theorem dX12_init_201 : decode cX12_init 201 = .ok (.bipush 6, 2) := by decide +kernel
theorem dX12_init_203 : decode cX12_init 203 = .ok (.newarray .boolean, 2) := by decide +kernel
theorem dX12_init_205 : decode cX12_init 205 = .ok (.putfield 85, 3) := by decide +kernel
theorem dX12_init_208 : decode cX12_init 208 = .ok (.aload_n 0, 1) := by decide +kernel
theorem dX12_init_209 : decode cX12_init 209 = .ok (.bipush 6, 2) := by decide +kernel
theorem dX12_init_211 : decode cX12_init 211 = .ok (.newarray .int, 2) := by decide +kernel
theorem dX12_init_213 : decode cX12_init 213 = .ok (.putfield 89, 3) := by decide +kernel
theorem dX12_init_216 : decode cX12_init 216 = .ok (.aload_n 0, 1) := by decide +kernel
theorem dX12_init_217 : decode cX12_init 217 = .ok (.bipush 6, 2) := by decide +kernel
theorem dX12_init_219 : decode cX12_init 219 = .ok (.newarray .int, 2) := by decide +kernel
theorem dX12_init_221 : decode cX12_init 221 = .ok (.putfield 92, 3) := by decide +kernel
theorem dX12_init_224 : decode cX12_init 224 = .ok (.iconst 0, 1) := by decide +kernel
theorem dX12_init_225 : decode cX12_init 225 = .ok (.istore_n 1, 1) := by decide +kernel
theorem dX12_init_226 : decode cX12_init 226 = .ok (.iload_n 1, 1) := by decide +kernel
theorem dX12_init_227 : decode cX12_init 227 = .ok (.iconst 4, 1) := by decide +kernel
theorem dX12_init_228 : decode cX12_init 228 = .ok (.if_icmp .ge 16, 3) := by decide +kernel
theorem dX12_init_231 : decode cX12_init 231 = .ok (.aload_n 0, 1) := by decide +kernel
theorem dX12_init_232 : decode cX12_init 232 = .ok (.getfield 7, 3) := by decide +kernel
theorem dX12_init_235 : decode cX12_init 235 = .ok (.iload_n 1, 1) := by decide +kernel
theorem dX12_init_236 : decode cX12_init 236 = .ok (.iconst (-1), 1) := by decide +kernel
theorem dX12_init_237 : decode cX12_init 237 = .ok (.iastore, 1) := by decide +kernel
theorem dX12_init_238 : decode cX12_init 238 = .ok (.iinc 1 1, 3) := by decide +kernel
theorem dX12_init_241 : decode cX12_init 241 = .ok (.goto (-15), 3) := by decide +kernel
theorem dX12_init_244 : decode cX12_init 244 = .ok (.return_, 1) := by decide +kernel
theorem dX12_in_0 : decode cX12_in 0 = .ok (.lload_n 0, 1) := by decide +kernel
theorem dX12_in_1 : decode cX12_in 1 = .ok (.lload_n 2, 1) := by decide +kernel
theorem dX12_in_2 : decode cX12_in 2 = .ok (.lcmp, 1) := by decide +kernel
theorem dX12_in_3 : decode cX12_in 3 = .ok (.ifCond .lt 14, 3) := by decide +kernel
theorem dX12_in_6 : decode cX12_in 6 = .ok (.lload_n 0, 1) := by decide +kernel
theorem dX12_in_7 : decode cX12_in 7 = .ok (.lload 4, 2) := by decide +kernel
theorem dX12_in_9 : decode cX12_in 9 = .ok (.lcmp, 1) := by decide +kernel
theorem dX12_in_10 : decode cX12_in 10 = .ok (.ifCond .gt 7, 3) := by decide +kernel
theorem dX12_in_13 : decode cX12_in 13 = .ok (.iconst 1, 1) := by decide +kernel
theorem dX12_in_14 : decode cX12_in 14 = .ok (.goto 4, 3) := by decide +kernel
theorem dX12_in_17 : decode cX12_in 17 = .ok (.iconst 0, 1) := by decide +kernel
theorem dX12_in_18 : decode cX12_in 18 = .ok (.ireturn, 1) := by decide +kernel
theorem dX12_isTwo_0 : decode cX12_isTwo 0 = .ok (.iload_n 0, 1) := by decide +kernel
theorem dX12_isTwo_1 : decode cX12_isTwo 1 = .ok (.i2l, 1) := by decide +kernel
theorem dX12_isTwo_2 : decode cX12_isTwo 2 = .ok (.lconst 0, 1) := by decide +kernel
theorem dX12_isTwo_3 : decode cX12_isTwo 3 = .ok (.lconst 1, 1) := by decide +kernel
theorem dX12_isTwo_4 : decode cX12_isTwo 4 = .ok (.invokestatic 95, 3) := by decide +kernel
theorem dX12_isTwo_7 : decode cX12_isTwo 7 = .ok (.ireturn, 1) := by decide +kernel
theorem dX12_met_0 : decode cX12_met 0 = .ok (.aload_n 0, 1) := by decide +kernel
theorem dX12_met_1 : decode cX12_met 1 = .ok (.iload_n 1, 1) := by decide +kernel
theorem dX12_met_2 : decode cX12_met 2 = .ok (.putfield 99, 3) := by decide +kernel
theorem dX12_met_5 : decode cX12_met 5 = .ok (.bipush (-10), 2) := by decide +kernel
theorem dX12_met_7 : decode cX12_met 7 = .ok (.iload_n 1, 1) := by decide +kernel
theorem dX12_met_8 : decode cX12_met 8 = .ok (.isub, 1) := by decide +kernel
theorem dX12_met_9 : decode cX12_met 9 = .ok (.ireturn, 1) := by decide +kernel
theorem dX12_isSheet_0 : decode cX12_isSheet 0 = .ok (.iload_n 0, 1) := by decide +kernel
theorem dX12_isSheet_1 : decode cX12_isSheet 1 = .ok (.i2l, 1) := by decide +kernel
theorem dX12_isSheet_2 : decode cX12_isSheet 2 = .ok (.lconst 0, 1) := by decide +kernel
theorem dX12_isSheet_3 : decode cX12_isSheet 3 = .ok (.ldc2_w 103, 3) := by decide +kernel
theorem dX12_isSheet_6 : decode cX12_isSheet 6 = .ok (.invokestatic 95, 3) := by decide +kernel
theorem dX12_isSheet_9 : decode cX12_isSheet 9 = .ok (.ireturn, 1) := by decide +kernel
theorem dX12_sheet_0 : decode cX12_sheet 0 = .ok (.iload_n 1, 1) := by decide +kernel
theorem dX12_sheet_1 : decode cX12_sheet 1 = .ok (.invokestatic 105, 3) := by decide +kernel
theorem dX12_sheet_4 : decode cX12_sheet 4 = .ok (.ifCond .eq 21, 3) := by decide +kernel
theorem dX12_sheet_7 : decode cX12_sheet 7 = .ok (.iload_n 2, 1) := by decide +kernel
theorem dX12_sheet_8 : decode cX12_sheet 8 = .ok (.i2l, 1) := by decide +kernel
theorem dX12_sheet_9 : decode cX12_sheet 9 = .ok (.lconst 0, 1) := by decide +kernel
theorem dX12_sheet_10 : decode cX12_sheet 10 = .ok (.ldc2_w 109, 3) := by decide +kernel
theorem dX12_sheet_13 : decode cX12_sheet 13 = .ok (.invokestatic 95, 3) := by decide +kernel
theorem dX12_sheet_16 : decode cX12_sheet 16 = .ok (.ifCond .eq 9, 3) := by decide +kernel
theorem dX12_sheet_19 : decode cX12_sheet 19 = .ok (.iload_n 3, 1) := by decide +kernel
theorem dX12_sheet_20 : decode cX12_sheet 20 = .ok (.bipush 60, 2) := by decide +kernel
theorem dX12_sheet_22 : decode cX12_sheet 22 = .ok (.if_icmp .le 6, 3) := by decide +kernel
theorem dX12_sheet_25 : decode cX12_sheet 25 = .ok (.bipush (-2), 2) := by decide +kernel
theorem dX12_sheet_27 : decode cX12_sheet 27 = .ok (.ireturn, 1) := by decide +kernel
theorem dX12_sheet_28 : decode cX12_sheet 28 = .ok (.iload_n 3, 1) := by decide +kernel
theorem dX12_sheet_29 : decode cX12_sheet 29 = .ok (.ifCond .ge 9, 3) := by decide +kernel
theorem dX12_sheet_32 : decode cX12_sheet 32 = .ok (.aload_n 0, 1) := by decide +kernel
theorem dX12_sheet_33 : decode cX12_sheet 33 = .ok (.iconst 5, 1) := by decide +kernel
theorem dX12_sheet_34 : decode cX12_sheet 34 = .ok (.invokevirtual 111, 3) := by decide +kernel
theorem dX12_sheet_37 : decode cX12_sheet 37 = .ok (.ireturn, 1) := by decide +kernel
theorem dX12_sheet_38 : decode cX12_sheet 38 = .ok (.aload_n 0, 1) := by decide +kernel
theorem dX12_sheet_39 : decode cX12_sheet 39 = .ok (.getfield 7, 3) := by decide +kernel
theorem dX12_sheet_42 : decode cX12_sheet 42 = .ok (.iload_n 1, 1) := by decide +kernel
theorem dX12_sheet_43 : decode cX12_sheet 43 = .ok (.iload_n 2, 1) := by decide +kernel
theorem dX12_sheet_44 : decode cX12_sheet 44 = .ok (.iastore, 1) := by decide +kernel
theorem dX12_sheet_45 : decode cX12_sheet 45 = .ok (.aload_n 0, 1) := by decide +kernel
theorem dX12_sheet_46 : decode cX12_sheet 46 = .ok (.getfield 13, 3) := by decide +kernel
theorem dX12_sheet_49 : decode cX12_sheet 49 = .ok (.iload_n 1, 1) := by decide +kernel
theorem dX12_sheet_50 : decode cX12_sheet 50 = .ok (.iload_n 3, 1) := by decide +kernel
theorem dX12_sheet_51 : decode cX12_sheet 51 = .ok (.iastore, 1) := by decide +kernel
theorem dX12_sheet_52 : decode cX12_sheet 52 = .ok (.iconst 0, 1) := by decide +kernel
theorem dX12_sheet_53 : decode cX12_sheet 53 = .ok (.istore 4, 2) := by decide +kernel
theorem dX12_sheet_55 : decode cX12_sheet 55 = .ok (.iload 4, 2) := by decide +kernel
theorem dX12_sheet_57 : decode cX12_sheet 57 = .ok (.iload_n 3, 1) := by decide +kernel
theorem dX12_sheet_58 : decode cX12_sheet 58 = .ok (.if_icmp .ge 22, 3) := by decide +kernel
theorem dX12_sheet_61 : decode cX12_sheet 61 = .ok (.aload_n 0, 1) := by decide +kernel
theorem dX12_sheet_62 : decode cX12_sheet 62 = .ok (.getfield 16, 3) := by decide +kernel
theorem dX12_sheet_65 : decode cX12_sheet 65 = .ok (.bipush 60, 2) := by decide +kernel
theorem dX12_sheet_67 : decode cX12_sheet 67 = .ok (.iload_n 1, 1) := by decide +kernel
theorem dX12_sheet_68 : decode cX12_sheet 68 = .ok (.imul, 1) := by decide +kernel
theorem dX12_sheet_69 : decode cX12_sheet 69 = .ok (.iload 4, 2) := by decide +kernel
theorem dX12_sheet_71 : decode cX12_sheet 71 = .ok (.iadd, 1) := by decide +kernel
theorem dX12_sheet_72 : decode cX12_sheet 72 = .ok (.iconst 0, 1) := by decide +kernel
theorem dX12_sheet_73 : decode cX12_sheet 73 = .ok (.iastore, 1) := by decide +kernel
theorem dX12_sheet_74 : decode cX12_sheet 74 = .ok (.iinc 4 1, 3) := by decide +kernel
theorem dX12_sheet_77 : decode cX12_sheet 77 = .ok (.goto (-22), 3) := by decide +kernel
theorem dX12_sheet_80 : decode cX12_sheet 80 = .ok (.iload_n 3, 1) := by decide +kernel
theorem dX12_sheet_81 : decode cX12_sheet 81 = .ok (.ireturn, 1) := by decide +kernel
theorem dX12_lose_0 : decode cX12_lose 0 = .ok (.iload_n 1, 1) := by decide +kernel
theorem dX12_lose_1 : decode cX12_lose 1 = .ok (.invokestatic 105, 3) := by decide +kernel
theorem dX12_lose_4 : decode cX12_lose 4 = .ok (.ifCond .ne 6, 3) := by decide +kernel
theorem dX12_lose_7 : decode cX12_lose 7 = .ok (.bipush (-2), 2) := by decide +kernel
theorem dX12_lose_9 : decode cX12_lose 9 = .ok (.ireturn, 1) := by decide +kernel
theorem dX12_lose_10 : decode cX12_lose 10 = .ok (.aload_n 0, 1) := by decide +kernel
theorem dX12_lose_11 : decode cX12_lose 11 = .ok (.getfield 7, 3) := by decide +kernel
theorem dX12_lose_14 : decode cX12_lose 14 = .ok (.iload_n 1, 1) := by decide +kernel
theorem dX12_lose_15 : decode cX12_lose 15 = .ok (.iaload, 1) := by decide +kernel
theorem dX12_lose_16 : decode cX12_lose 16 = .ok (.ifCond .ge 9, 3) := by decide +kernel
theorem dX12_lose_19 : decode cX12_lose 19 = .ok (.aload_n 0, 1) := by decide +kernel
theorem dX12_lose_20 : decode cX12_lose 20 = .ok (.iconst 1, 1) := by decide +kernel
theorem dX12_lose_21 : decode cX12_lose 21 = .ok (.invokevirtual 111, 3) := by decide +kernel
theorem dX12_lose_24 : decode cX12_lose 24 = .ok (.ireturn, 1) := by decide +kernel
theorem dX12_lose_25 : decode cX12_lose 25 = .ok (.aload_n 0, 1) := by decide +kernel
theorem dX12_lose_26 : decode cX12_lose 26 = .ok (.getfield 7, 3) := by decide +kernel
theorem dX12_lose_29 : decode cX12_lose 29 = .ok (.iload_n 1, 1) := by decide +kernel
theorem dX12_lose_30 : decode cX12_lose 30 = .ok (.iconst (-1), 1) := by decide +kernel
theorem dX12_lose_31 : decode cX12_lose 31 = .ok (.iastore, 1) := by decide +kernel
theorem dX12_lose_32 : decode cX12_lose 32 = .ok (.aload_n 0, 1) := by decide +kernel
theorem dX12_lose_33 : decode cX12_lose 33 = .ok (.getfield 13, 3) := by decide +kernel
theorem dX12_lose_36 : decode cX12_lose 36 = .ok (.iload_n 1, 1) := by decide +kernel
theorem dX12_lose_37 : decode cX12_lose 37 = .ok (.iaload, 1) := by decide +kernel
theorem dX12_lose_38 : decode cX12_lose 38 = .ok (.ireturn, 1) := by decide +kernel
theorem dX12_lacks_0 : decode cX12_lacks 0 = .ok (.aload_n 0, 1) := by decide +kernel
theorem dX12_lacks_1 : decode cX12_lacks 1 = .ok (.getfield 7, 3) := by decide +kernel
theorem dX12_lacks_4 : decode cX12_lacks 4 = .ok (.iload_n 1, 1) := by decide +kernel
theorem dX12_lacks_5 : decode cX12_lacks 5 = .ok (.iaload, 1) := by decide +kernel
theorem dX12_lacks_6 : decode cX12_lacks 6 = .ok (.ifCond .ge 9, 3) := by decide +kernel
theorem dX12_lacks_9 : decode cX12_lacks 9 = .ok (.aload_n 0, 1) := by decide +kernel
theorem dX12_lacks_10 : decode cX12_lacks 10 = .ok (.iconst 1, 1) := by decide +kernel
theorem dX12_lacks_11 : decode cX12_lacks 11 = .ok (.invokevirtual 111, 3) := by decide +kernel
theorem dX12_lacks_14 : decode cX12_lacks 14 = .ok (.ireturn, 1) := by decide +kernel
theorem dX12_lacks_15 : decode cX12_lacks 15 = .ok (.aload_n 0, 1) := by decide +kernel
theorem dX12_lacks_16 : decode cX12_lacks 16 = .ok (.getfield 7, 3) := by decide +kernel
theorem dX12_lacks_19 : decode cX12_lacks 19 = .ok (.iload_n 1, 1) := by decide +kernel
theorem dX12_lacks_20 : decode cX12_lacks 20 = .ok (.iaload, 1) := by decide +kernel
theorem dX12_lacks_21 : decode cX12_lacks 21 = .ok (.iload_n 2, 1) := by decide +kernel
theorem dX12_lacks_22 : decode cX12_lacks 22 = .ok (.if_icmp .eq 9, 3) := by decide +kernel
theorem dX12_lacks_25 : decode cX12_lacks 25 = .ok (.aload_n 0, 1) := by decide +kernel
theorem dX12_lacks_26 : decode cX12_lacks 26 = .ok (.iconst 3, 1) := by decide +kernel
theorem dX12_lacks_27 : decode cX12_lacks 27 = .ok (.invokevirtual 111, 3) := by decide +kernel
theorem dX12_lacks_30 : decode cX12_lacks 30 = .ok (.ireturn, 1) := by decide +kernel
theorem dX12_lacks_31 : decode cX12_lacks 31 = .ok (.iload_n 3, 1) := by decide +kernel
theorem dX12_lacks_32 : decode cX12_lacks 32 = .ok (.i2l, 1) := by decide +kernel
theorem dX12_lacks_33 : decode cX12_lacks 33 = .ok (.lconst 0, 1) := by decide +kernel
theorem dX12_lacks_34 : decode cX12_lacks 34 = .ok (.aload_n 0, 1) := by decide +kernel
theorem dX12_lacks_35 : decode cX12_lacks 35 = .ok (.getfield 13, 3) := by decide +kernel
theorem dX12_lacks_38 : decode cX12_lacks 38 = .ok (.iload_n 1, 1) := by decide +kernel
theorem dX12_lacks_39 : decode cX12_lacks 39 = .ok (.iaload, 1) := by decide +kernel
theorem dX12_lacks_40 : decode cX12_lacks 40 = .ok (.iconst 1, 1) := by decide +kernel
theorem dX12_lacks_41 : decode cX12_lacks 41 = .ok (.isub, 1) := by decide +kernel
theorem dX12_lacks_42 : decode cX12_lacks 42 = .ok (.i2l, 1) := by decide +kernel
theorem dX12_lacks_43 : decode cX12_lacks 43 = .ok (.invokestatic 95, 3) := by decide +kernel
theorem dX12_lacks_46 : decode cX12_lacks 46 = .ok (.ifCond .eq 7, 3) := by decide +kernel
theorem dX12_lacks_49 : decode cX12_lacks 49 = .ok (.iconst 0, 1) := by decide +kernel
theorem dX12_lacks_50 : decode cX12_lacks 50 = .ok (.goto 8, 3) := by decide +kernel
theorem dX12_lacks_53 : decode cX12_lacks 53 = .ok (.aload_n 0, 1) := by decide +kernel
theorem dX12_lacks_54 : decode cX12_lacks 54 = .ok (.iconst 2, 1) := by decide +kernel
theorem dX12_lacks_55 : decode cX12_lacks 55 = .ok (.invokevirtual 111, 3) := by decide +kernel
theorem dX12_lacks_58 : decode cX12_lacks 58 = .ok (.ireturn, 1) := by decide +kernel
theorem dX12_cut_0 : decode cX12_cut 0 = .ok (.iload_n 0, 1) := by decide +kernel
theorem dX12_cut_1 : decode cX12_cut 1 = .ok (.ifCond .ne 8, 3) := by decide +kernel
theorem dX12_cut_4 : decode cX12_cut 4 = .ok (.iload_n 1, 1) := by decide +kernel
theorem dX12_cut_5 : decode cX12_cut 5 = .ok (.i2b, 1) := by decide +kernel
theorem dX12_cut_6 : decode cX12_cut 6 = .ok (.goto 14, 3) := by decide +kernel
theorem dX12_cut_9 : decode cX12_cut 9 = .ok (.iload_n 0, 1) := by decide +kernel
theorem dX12_cut_10 : decode cX12_cut 10 = .ok (.iconst 1, 1) := by decide +kernel
theorem dX12_cut_11 : decode cX12_cut 11 = .ok (.if_icmp .ne 8, 3) := by decide +kernel
theorem dX12_cut_14 : decode cX12_cut 14 = .ok (.iload_n 1, 1) := by decide +kernel
theorem dX12_cut_15 : decode cX12_cut 15 = .ok (.i2s, 1) := by decide +kernel
theorem dX12_cut_16 : decode cX12_cut 16 = .ok (.goto 4, 3) := by decide +kernel
theorem dX12_cut_19 : decode cX12_cut 19 = .ok (.iload_n 1, 1) := by decide +kernel
theorem dX12_cut_20 : decode cX12_cut 20 = .ok (.ireturn, 1) := by decide +kernel
theorem dX12_lay_0 : decode cX12_lay 0 = .ok (.iload_n 1, 1) := by decide +kernel
theorem dX12_lay_1 : decode cX12_lay 1 = .ok (.invokestatic 105, 3) := by decide +kernel
theorem dX12_lay_4 : decode cX12_lay 4 = .ok (.ifCond .eq 15, 3) := by decide +kernel
theorem dX12_lay_7 : decode cX12_lay 7 = .ok (.iload_n 2, 1) := by decide +kernel
theorem dX12_lay_8 : decode cX12_lay 8 = .ok (.i2l, 1) := by decide +kernel
theorem dX12_lay_9 : decode cX12_lay 9 = .ok (.lconst 0, 1) := by decide +kernel
theorem dX12_lay_10 : decode cX12_lay 10 = .ok (.ldc2_w 109, 3) := by decide +kernel
theorem dX12_lay_13 : decode cX12_lay 13 = .ok (.invokestatic 95, 3) := by decide +kernel
theorem dX12_lay_16 : decode cX12_lay 16 = .ok (.ifCond .ne 6, 3) := by decide +kernel
theorem dX12_lay_19 : decode cX12_lay 19 = .ok (.bipush (-2), 2) := by decide +kernel
theorem dX12_lay_21 : decode cX12_lay 21 = .ok (.ireturn, 1) := by decide +kernel
theorem dX12_lay_22 : decode cX12_lay 22 = .ok (.aload_n 0, 1) := by decide +kernel
theorem dX12_lay_23 : decode cX12_lay 23 = .ok (.iload_n 1, 1) := by decide +kernel
theorem dX12_lay_24 : decode cX12_lay 24 = .ok (.iload_n 2, 1) := by decide +kernel
theorem dX12_lay_25 : decode cX12_lay 25 = .ok (.iload_n 3, 1) := by decide +kernel
theorem dX12_lay_26 : decode cX12_lay 26 = .ok (.invokevirtual 115, 3) := by decide +kernel
theorem dX12_lay_29 : decode cX12_lay 29 = .ok (.istore 5, 2) := by decide +kernel
theorem dX12_lay_31 : decode cX12_lay 31 = .ok (.iload 5, 2) := by decide +kernel
theorem dX12_lay_33 : decode cX12_lay 33 = .ok (.ifCond .eq 6, 3) := by decide +kernel
theorem dX12_lay_36 : decode cX12_lay 36 = .ok (.iload 5, 2) := by decide +kernel
theorem dX12_lay_38 : decode cX12_lay 38 = .ok (.ireturn, 1) := by decide +kernel
theorem dX12_lay_39 : decode cX12_lay 39 = .ok (.aload_n 0, 1) := by decide +kernel
theorem dX12_lay_40 : decode cX12_lay 40 = .ok (.getfield 16, 3) := by decide +kernel
theorem dX12_lay_43 : decode cX12_lay 43 = .ok (.bipush 60, 2) := by decide +kernel
theorem dX12_lay_45 : decode cX12_lay 45 = .ok (.iload_n 1, 1) := by decide +kernel
theorem dX12_lay_46 : decode cX12_lay 46 = .ok (.imul, 1) := by decide +kernel
theorem dX12_lay_47 : decode cX12_lay 47 = .ok (.iload_n 3, 1) := by decide +kernel
theorem dX12_lay_48 : decode cX12_lay 48 = .ok (.iadd, 1) := by decide +kernel
theorem dX12_lay_49 : decode cX12_lay 49 = .ok (.iload_n 2, 1) := by decide +kernel
theorem dX12_lay_50 : decode cX12_lay 50 = .ok (.iload 4, 2) := by decide +kernel
theorem dX12_lay_52 : decode cX12_lay 52 = .ok (.invokestatic 119, 3) := by decide +kernel
theorem dX12_lay_55 : decode cX12_lay 55 = .ok (.iastore, 1) := by decide +kernel
theorem dX12_lay_56 : decode cX12_lay 56 = .ok (.iconst 1, 1) := by decide +kernel
theorem dX12_lay_57 : decode cX12_lay 57 = .ok (.ireturn, 1) := by decide +kernel
theorem dX12_get_0 : decode cX12_get 0 = .ok (.iload_n 1, 1) := by decide +kernel
theorem dX12_get_1 : decode cX12_get 1 = .ok (.invokestatic 105, 3) := by decide +kernel
theorem dX12_get_4 : decode cX12_get 4 = .ok (.ifCond .eq 25, 3) := by decide +kernel
theorem dX12_get_7 : decode cX12_get 7 = .ok (.iload_n 2, 1) := by decide +kernel
theorem dX12_get_8 : decode cX12_get 8 = .ok (.i2l, 1) := by decide +kernel
theorem dX12_get_9 : decode cX12_get 9 = .ok (.lconst 0, 1) := by decide +kernel
theorem dX12_get_10 : decode cX12_get 10 = .ok (.ldc2_w 109, 3) := by decide +kernel
theorem dX12_get_13 : decode cX12_get 13 = .ok (.invokestatic 95, 3) := by decide +kernel
theorem dX12_get_16 : decode cX12_get 16 = .ok (.ifCond .eq 13, 3) := by decide +kernel
theorem dX12_get_19 : decode cX12_get 19 = .ok (.aload_n 0, 1) := by decide +kernel
theorem dX12_get_20 : decode cX12_get 20 = .ok (.iload_n 1, 1) := by decide +kernel
theorem dX12_get_21 : decode cX12_get 21 = .ok (.iload_n 2, 1) := by decide +kernel
theorem dX12_get_22 : decode cX12_get 22 = .ok (.iload_n 3, 1) := by decide +kernel
theorem dX12_get_23 : decode cX12_get 23 = .ok (.invokevirtual 115, 3) := by decide +kernel
theorem dX12_get_26 : decode cX12_get 26 = .ok (.ifCond .eq 6, 3) := by decide +kernel
theorem dX12_get_29 : decode cX12_get 29 = .ok (.ldc 123, 2) := by decide +kernel
theorem dX12_get_31 : decode cX12_get 31 = .ok (.ireturn, 1) := by decide +kernel
theorem dX12_get_32 : decode cX12_get 32 = .ok (.aload_n 0, 1) := by decide +kernel
theorem dX12_get_33 : decode cX12_get 33 = .ok (.getfield 16, 3) := by decide +kernel
theorem dX12_get_36 : decode cX12_get 36 = .ok (.bipush 60, 2) := by decide +kernel
theorem dX12_get_38 : decode cX12_get 38 = .ok (.iload_n 1, 1) := by decide +kernel
theorem dX12_get_39 : decode cX12_get 39 = .ok (.imul, 1) := by decide +kernel
theorem dX12_get_40 : decode cX12_get 40 = .ok (.iload_n 3, 1) := by decide +kernel
theorem dX12_get_41 : decode cX12_get 41 = .ok (.iadd, 1) := by decide +kernel
theorem dX12_get_42 : decode cX12_get 42 = .ok (.iaload, 1) := by decide +kernel
theorem dX12_get_43 : decode cX12_get 43 = .ok (.ireturn, 1) := by decide +kernel
theorem dX12_copy_0 : decode cX12_copy 0 = .ok (.iload_n 1, 1) := by decide +kernel
theorem dX12_copy_1 : decode cX12_copy 1 = .ok (.invokestatic 105, 3) := by decide +kernel
theorem dX12_copy_4 : decode cX12_copy 4 = .ok (.ifCond .eq 10, 3) := by decide +kernel
theorem dX12_copy_7 : decode cX12_copy 7 = .ok (.iload_n 3, 1) := by decide +kernel
theorem dX12_copy_8 : decode cX12_copy 8 = .ok (.invokestatic 105, 3) := by decide +kernel
theorem dX12_copy_11 : decode cX12_copy 11 = .ok (.ifCond .ne 6, 3) := by decide +kernel
theorem dX12_copy_14 : decode cX12_copy 14 = .ok (.bipush (-2), 2) := by decide +kernel
theorem dX12_copy_16 : decode cX12_copy 16 = .ok (.ireturn, 1) := by decide +kernel
theorem dX12_copy_17 : decode cX12_copy 17 = .ok (.aload_n 0, 1) := by decide +kernel
theorem dX12_copy_18 : decode cX12_copy 18 = .ok (.getfield 7, 3) := by decide +kernel
theorem dX12_copy_21 : decode cX12_copy 21 = .ok (.iload_n 1, 1) := by decide +kernel
theorem dX12_copy_22 : decode cX12_copy 22 = .ok (.iaload, 1) := by decide +kernel
theorem dX12_copy_23 : decode cX12_copy 23 = .ok (.ifCond .lt 12, 3) := by decide +kernel
theorem dX12_copy_26 : decode cX12_copy 26 = .ok (.aload_n 0, 1) := by decide +kernel
theorem dX12_copy_27 : decode cX12_copy 27 = .ok (.getfield 7, 3) := by decide +kernel
theorem dX12_copy_30 : decode cX12_copy 30 = .ok (.iload_n 3, 1) := by decide +kernel
theorem dX12_copy_31 : decode cX12_copy 31 = .ok (.iaload, 1) := by decide +kernel
theorem dX12_copy_32 : decode cX12_copy 32 = .ok (.ifCond .ge 9, 3) := by decide +kernel
theorem dX12_copy_35 : decode cX12_copy 35 = .ok (.aload_n 0, 1) := by decide +kernel
theorem dX12_copy_36 : decode cX12_copy 36 = .ok (.iconst 1, 1) := by decide +kernel
theorem dX12_copy_37 : decode cX12_copy 37 = .ok (.invokevirtual 111, 3) := by decide +kernel
theorem dX12_copy_40 : decode cX12_copy 40 = .ok (.ireturn, 1) := by decide +kernel
theorem dX12_copy_41 : decode cX12_copy 41 = .ok (.aload_n 0, 1) := by decide +kernel
theorem dX12_copy_42 : decode cX12_copy 42 = .ok (.getfield 7, 3) := by decide +kernel
theorem dX12_copy_45 : decode cX12_copy 45 = .ok (.iload_n 1, 1) := by decide +kernel
theorem dX12_copy_46 : decode cX12_copy 46 = .ok (.iaload, 1) := by decide +kernel
theorem dX12_copy_47 : decode cX12_copy 47 = .ok (.aload_n 0, 1) := by decide +kernel
theorem dX12_copy_48 : decode cX12_copy 48 = .ok (.getfield 7, 3) := by decide +kernel
theorem dX12_copy_51 : decode cX12_copy 51 = .ok (.iload_n 3, 1) := by decide +kernel
theorem dX12_copy_52 : decode cX12_copy 52 = .ok (.iaload, 1) := by decide +kernel
theorem dX12_copy_53 : decode cX12_copy 53 = .ok (.if_icmp .eq 9, 3) := by decide +kernel
theorem dX12_copy_56 : decode cX12_copy 56 = .ok (.aload_n 0, 1) := by decide +kernel
theorem dX12_copy_57 : decode cX12_copy 57 = .ok (.iconst 4, 1) := by decide +kernel
theorem dX12_copy_58 : decode cX12_copy 58 = .ok (.invokevirtual 111, 3) := by decide +kernel
theorem dX12_copy_61 : decode cX12_copy 61 = .ok (.ireturn, 1) := by decide +kernel
theorem dX12_copy_62 : decode cX12_copy 62 = .ok (.iload_n 2, 1) := by decide +kernel
theorem dX12_copy_63 : decode cX12_copy 63 = .ok (.ifCond .lt 48, 3) := by decide +kernel
theorem dX12_copy_66 : decode cX12_copy 66 = .ok (.iload 4, 2) := by decide +kernel
theorem dX12_copy_68 : decode cX12_copy 68 = .ok (.ifCond .lt 43, 3) := by decide +kernel
theorem dX12_copy_71 : decode cX12_copy 71 = .ok (.iload 5, 2) := by decide +kernel
theorem dX12_copy_73 : decode cX12_copy 73 = .ok (.ifCond .lt 38, 3) := by decide +kernel
theorem dX12_copy_76 : decode cX12_copy 76 = .ok (.iload_n 2, 1) := by decide +kernel
theorem dX12_copy_77 : decode cX12_copy 77 = .ok (.i2l, 1) := by decide +kernel
theorem dX12_copy_78 : decode cX12_copy 78 = .ok (.iload 5, 2) := by decide +kernel
theorem dX12_copy_80 : decode cX12_copy 80 = .ok (.i2l, 1) := by decide +kernel
theorem dX12_copy_81 : decode cX12_copy 81 = .ok (.ladd, 1) := by decide +kernel
theorem dX12_copy_82 : decode cX12_copy 82 = .ok (.aload_n 0, 1) := by decide +kernel
theorem dX12_copy_83 : decode cX12_copy 83 = .ok (.getfield 13, 3) := by decide +kernel
theorem dX12_copy_86 : decode cX12_copy 86 = .ok (.iload_n 1, 1) := by decide +kernel
theorem dX12_copy_87 : decode cX12_copy 87 = .ok (.iaload, 1) := by decide +kernel
theorem dX12_copy_88 : decode cX12_copy 88 = .ok (.i2l, 1) := by decide +kernel
theorem dX12_copy_89 : decode cX12_copy 89 = .ok (.lcmp, 1) := by decide +kernel
theorem dX12_copy_90 : decode cX12_copy 90 = .ok (.ifCond .gt 21, 3) := by decide +kernel
theorem dX12_copy_93 : decode cX12_copy 93 = .ok (.iload 4, 2) := by decide +kernel
theorem dX12_copy_95 : decode cX12_copy 95 = .ok (.i2l, 1) := by decide +kernel
theorem dX12_copy_96 : decode cX12_copy 96 = .ok (.iload 5, 2) := by decide +kernel
theorem dX12_copy_98 : decode cX12_copy 98 = .ok (.i2l, 1) := by decide +kernel
theorem dX12_copy_99 : decode cX12_copy 99 = .ok (.ladd, 1) := by decide +kernel
theorem dX12_copy_100 : decode cX12_copy 100 = .ok (.aload_n 0, 1) := by decide +kernel
theorem dX12_copy_101 : decode cX12_copy 101 = .ok (.getfield 13, 3) := by decide +kernel
theorem dX12_copy_104 : decode cX12_copy 104 = .ok (.iload_n 3, 1) := by decide +kernel
theorem dX12_copy_105 : decode cX12_copy 105 = .ok (.iaload, 1) := by decide +kernel
theorem dX12_copy_106 : decode cX12_copy 106 = .ok (.i2l, 1) := by decide +kernel
theorem dX12_copy_107 : decode cX12_copy 107 = .ok (.lcmp, 1) := by decide +kernel
theorem dX12_copy_108 : decode cX12_copy 108 = .ok (.ifCond .le 9, 3) := by decide +kernel
theorem dX12_copy_111 : decode cX12_copy 111 = .ok (.aload_n 0, 1) := by decide +kernel
theorem dX12_copy_112 : decode cX12_copy 112 = .ok (.iconst 2, 1) := by decide +kernel
theorem dX12_copy_113 : decode cX12_copy 113 = .ok (.invokevirtual 111, 3) := by decide +kernel
theorem dX12_copy_116 : decode cX12_copy 116 = .ok (.ireturn, 1) := by decide +kernel
theorem dX12_copy_117 : decode cX12_copy 117 = .ok (.iconst 0, 1) := by decide +kernel
theorem dX12_copy_118 : decode cX12_copy 118 = .ok (.istore 6, 2) := by decide +kernel
theorem dX12_copy_120 : decode cX12_copy 120 = .ok (.iload 6, 2) := by decide +kernel
theorem dX12_copy_122 : decode cX12_copy 122 = .ok (.iload 5, 2) := by decide +kernel
theorem dX12_copy_124 : decode cX12_copy 124 = .ok (.if_icmp .ge 30, 3) := by decide +kernel
theorem dX12_copy_127 : decode cX12_copy 127 = .ok (.aload_n 0, 1) := by decide +kernel
theorem dX12_copy_128 : decode cX12_copy 128 = .ok (.getfield 19, 3) := by decide +kernel
theorem dX12_copy_131 : decode cX12_copy 131 = .ok (.iload 6, 2) := by decide +kernel
theorem dX12_copy_133 : decode cX12_copy 133 = .ok (.aload_n 0, 1) := by decide +kernel
theorem dX12_copy_134 : decode cX12_copy 134 = .ok (.getfield 16, 3) := by decide +kernel
theorem dX12_copy_137 : decode cX12_copy 137 = .ok (.bipush 60, 2) := by decide +kernel
theorem dX12_copy_139 : decode cX12_copy 139 = .ok (.iload_n 1, 1) := by decide +kernel
theorem dX12_copy_140 : decode cX12_copy 140 = .ok (.imul, 1) := by decide +kernel
theorem dX12_copy_141 : decode cX12_copy 141 = .ok (.iload_n 2, 1) := by decide +kernel
theorem dX12_copy_142 : decode cX12_copy 142 = .ok (.iadd, 1) := by decide +kernel
theorem dX12_copy_143 : decode cX12_copy 143 = .ok (.iload 6, 2) := by decide +kernel
theorem dX12_copy_145 : decode cX12_copy 145 = .ok (.iadd, 1) := by decide +kernel
theorem dX12_copy_146 : decode cX12_copy 146 = .ok (.iaload, 1) := by decide +kernel
theorem dX12_copy_147 : decode cX12_copy 147 = .ok (.iastore, 1) := by decide +kernel
theorem dX12_copy_148 : decode cX12_copy 148 = .ok (.iinc 6 1, 3) := by decide +kernel
theorem dX12_copy_151 : decode cX12_copy 151 = .ok (.goto (-31), 3) := by decide +kernel
theorem dX12_copy_154 : decode cX12_copy 154 = .ok (.iconst 0, 1) := by decide +kernel
theorem dX12_copy_155 : decode cX12_copy 155 = .ok (.istore 6, 2) := by decide +kernel
theorem dX12_copy_157 : decode cX12_copy 157 = .ok (.iload 6, 2) := by decide +kernel
theorem dX12_copy_159 : decode cX12_copy 159 = .ok (.iload 5, 2) := by decide +kernel
theorem dX12_copy_161 : decode cX12_copy 161 = .ok (.if_icmp .ge 31, 3) := by decide +kernel
theorem dX12_copy_164 : decode cX12_copy 164 = .ok (.aload_n 0, 1) := by decide +kernel
theorem dX12_copy_165 : decode cX12_copy 165 = .ok (.getfield 16, 3) := by decide +kernel
theorem dX12_copy_168 : decode cX12_copy 168 = .ok (.bipush 60, 2) := by decide +kernel
theorem dX12_copy_170 : decode cX12_copy 170 = .ok (.iload_n 3, 1) := by decide +kernel
theorem dX12_copy_171 : decode cX12_copy 171 = .ok (.imul, 1) := by decide +kernel
theorem dX12_copy_172 : decode cX12_copy 172 = .ok (.iload 4, 2) := by decide +kernel
theorem dX12_copy_174 : decode cX12_copy 174 = .ok (.iadd, 1) := by decide +kernel
theorem dX12_copy_175 : decode cX12_copy 175 = .ok (.iload 6, 2) := by decide +kernel
theorem dX12_copy_177 : decode cX12_copy 177 = .ok (.iadd, 1) := by decide +kernel
theorem dX12_copy_178 : decode cX12_copy 178 = .ok (.aload_n 0, 1) := by decide +kernel
theorem dX12_copy_179 : decode cX12_copy 179 = .ok (.getfield 19, 3) := by decide +kernel
theorem dX12_copy_182 : decode cX12_copy 182 = .ok (.iload 6, 2) := by decide +kernel
theorem dX12_copy_184 : decode cX12_copy 184 = .ok (.iaload, 1) := by decide +kernel
theorem dX12_copy_185 : decode cX12_copy 185 = .ok (.iastore, 1) := by decide +kernel
theorem dX12_copy_186 : decode cX12_copy 186 = .ok (.iinc 6 1, 3) := by decide +kernel
theorem dX12_copy_189 : decode cX12_copy 189 = .ok (.goto (-32), 3) := by decide +kernel
theorem dX12_copy_192 : decode cX12_copy 192 = .ok (.iconst 1, 1) := by decide +kernel
theorem dX12_copy_193 : decode cX12_copy 193 = .ok (.ireturn, 1) := by decide +kernel
theorem dX12_room_0 : decode cX12_room 0 = .ok (.iload_n 0, 1) := by decide +kernel
theorem dX12_room_1 : decode cX12_room 1 = .ok (.ifCond .ne 8, 3) := by decide +kernel
theorem dX12_room_4 : decode cX12_room 4 = .ok (.bipush 20, 2) := by decide +kernel
theorem dX12_room_6 : decode cX12_room 6 = .ok (.goto 5, 3) := by decide +kernel
theorem dX12_room_9 : decode cX12_room 9 = .ok (.bipush 60, 2) := by decide +kernel
theorem dX12_room_11 : decode cX12_room 11 = .ok (.ireturn, 1) := by decide +kernel
theorem dX12_type_0 : decode cX12_type 0 = .ok (.iload_n 1, 1) := by decide +kernel
theorem dX12_type_1 : decode cX12_type 1 = .ok (.invokestatic 124, 3) := by decide +kernel
theorem dX12_type_4 : decode cX12_type 4 = .ok (.ifCond .eq 15, 3) := by decide +kernel
theorem dX12_type_7 : decode cX12_type 7 = .ok (.iload_n 2, 1) := by decide +kernel
theorem dX12_type_8 : decode cX12_type 8 = .ok (.i2l, 1) := by decide +kernel
theorem dX12_type_9 : decode cX12_type 9 = .ok (.lconst 0, 1) := by decide +kernel
theorem dX12_type_10 : decode cX12_type 10 = .ok (.ldc2_w 127, 3) := by decide +kernel
theorem dX12_type_13 : decode cX12_type 13 = .ok (.invokestatic 95, 3) := by decide +kernel
theorem dX12_type_16 : decode cX12_type 16 = .ok (.ifCond .ne 6, 3) := by decide +kernel
theorem dX12_type_19 : decode cX12_type 19 = .ok (.bipush (-2), 2) := by decide +kernel
theorem dX12_type_21 : decode cX12_type 21 = .ok (.ireturn, 1) := by decide +kernel
theorem dX12_type_22 : decode cX12_type 22 = .ok (.aload_n 0, 1) := by decide +kernel
theorem dX12_type_23 : decode cX12_type 23 = .ok (.getfield 25, 3) := by decide +kernel
theorem dX12_type_26 : decode cX12_type 26 = .ok (.iload_n 1, 1) := by decide +kernel
theorem dX12_type_27 : decode cX12_type 27 = .ok (.iaload, 1) := by decide +kernel
theorem dX12_type_28 : decode cX12_type 28 = .ok (.iload_n 1, 1) := by decide +kernel
theorem dX12_type_29 : decode cX12_type 29 = .ok (.invokestatic 129, 3) := by decide +kernel
theorem dX12_type_32 : decode cX12_type 32 = .ok (.if_icmp .ne 6, 3) := by decide +kernel
theorem dX12_type_35 : decode cX12_type 35 = .ok (.bipush (-4), 2) := by decide +kernel
theorem dX12_type_37 : decode cX12_type 37 = .ok (.ireturn, 1) := by decide +kernel
theorem dX12_type_38 : decode cX12_type 38 = .ok (.aload_n 0, 1) := by decide +kernel
theorem dX12_type_39 : decode cX12_type 39 = .ok (.getfield 22, 3) := by decide +kernel
theorem dX12_type_42 : decode cX12_type 42 = .ok (.bipush 20, 2) := by decide +kernel
theorem dX12_type_44 : decode cX12_type 44 = .ok (.iload_n 1, 1) := by decide +kernel
theorem dX12_type_45 : decode cX12_type 45 = .ok (.imul, 1) := by decide +kernel
theorem dX12_type_46 : decode cX12_type 46 = .ok (.aload_n 0, 1) := by decide +kernel
theorem dX12_type_47 : decode cX12_type 47 = .ok (.getfield 25, 3) := by decide +kernel
theorem dX12_type_50 : decode cX12_type 50 = .ok (.iload_n 1, 1) := by decide +kernel
theorem dX12_type_51 : decode cX12_type 51 = .ok (.iaload, 1) := by decide +kernel
theorem dX12_type_52 : decode cX12_type 52 = .ok (.iadd, 1) := by decide +kernel
theorem dX12_type_53 : decode cX12_type 53 = .ok (.iload_n 2, 1) := by decide +kernel
theorem dX12_type_54 : decode cX12_type 54 = .ok (.iastore, 1) := by decide +kernel
theorem dX12_type_55 : decode cX12_type 55 = .ok (.aload_n 0, 1) := by decide +kernel
theorem dX12_type_56 : decode cX12_type 56 = .ok (.getfield 25, 3) := by decide +kernel
theorem dX12_type_59 : decode cX12_type 59 = .ok (.iload_n 1, 1) := by decide +kernel
theorem dX12_type_60 : decode cX12_type 60 = .ok (.dup2, 1) := by decide +kernel
theorem dX12_type_61 : decode cX12_type 61 = .ok (.iaload, 1) := by decide +kernel
theorem dX12_type_62 : decode cX12_type 62 = .ok (.iconst 1, 1) := by decide +kernel
theorem dX12_type_63 : decode cX12_type 63 = .ok (.iadd, 1) := by decide +kernel
theorem dX12_type_64 : decode cX12_type 64 = .ok (.iastore, 1) := by decide +kernel
theorem dX12_type_65 : decode cX12_type 65 = .ok (.aload_n 0, 1) := by decide +kernel
theorem dX12_type_66 : decode cX12_type 66 = .ok (.getfield 25, 3) := by decide +kernel
theorem dX12_type_69 : decode cX12_type 69 = .ok (.iload_n 1, 1) := by decide +kernel
theorem dX12_type_70 : decode cX12_type 70 = .ok (.iaload, 1) := by decide +kernel
theorem dX12_type_71 : decode cX12_type 71 = .ok (.ireturn, 1) := by decide +kernel
theorem dX12_wipe_0 : decode cX12_wipe 0 = .ok (.iload_n 1, 1) := by decide +kernel
theorem dX12_wipe_1 : decode cX12_wipe 1 = .ok (.invokestatic 124, 3) := by decide +kernel
theorem dX12_wipe_4 : decode cX12_wipe 4 = .ok (.ifCond .ne 6, 3) := by decide +kernel
theorem dX12_wipe_7 : decode cX12_wipe 7 = .ok (.bipush (-2), 2) := by decide +kernel
theorem dX12_wipe_9 : decode cX12_wipe 9 = .ok (.ireturn, 1) := by decide +kernel
theorem dX12_wipe_10 : decode cX12_wipe 10 = .ok (.aload_n 0, 1) := by decide +kernel
theorem dX12_wipe_11 : decode cX12_wipe 11 = .ok (.getfield 25, 3) := by decide +kernel
theorem dX12_wipe_14 : decode cX12_wipe 14 = .ok (.iload_n 1, 1) := by decide +kernel
theorem dX12_wipe_15 : decode cX12_wipe 15 = .ok (.iaload, 1) := by decide +kernel
theorem dX12_wipe_16 : decode cX12_wipe 16 = .ok (.istore_n 2, 1) := by decide +kernel
theorem dX12_wipe_17 : decode cX12_wipe 17 = .ok (.aload_n 0, 1) := by decide +kernel
theorem dX12_wipe_18 : decode cX12_wipe 18 = .ok (.getfield 25, 3) := by decide +kernel
theorem dX12_wipe_21 : decode cX12_wipe 21 = .ok (.iload_n 1, 1) := by decide +kernel
theorem dX12_wipe_22 : decode cX12_wipe 22 = .ok (.iconst 0, 1) := by decide +kernel
theorem dX12_wipe_23 : decode cX12_wipe 23 = .ok (.iastore, 1) := by decide +kernel
theorem dX12_wipe_24 : decode cX12_wipe 24 = .ok (.iload_n 2, 1) := by decide +kernel
theorem dX12_wipe_25 : decode cX12_wipe 25 = .ok (.ireturn, 1) := by decide +kernel
theorem dX12_here_0 : decode cX12_here 0 = .ok (.aload_n 0, 1) := by decide +kernel
theorem dX12_here_1 : decode cX12_here 1 = .ok (.getfield 132, 3) := by decide +kernel
theorem dX12_here_4 : decode cX12_here 4 = .ok (.aload_n 0, 1) := by decide +kernel
theorem dX12_here_5 : decode cX12_here 5 = .ok (.getfield 25, 3) := by decide +kernel
theorem dX12_here_8 : decode cX12_here 8 = .ok (.iload_n 1, 1) := by decide +kernel
theorem dX12_here_9 : decode cX12_here 9 = .ok (.iaload, 1) := by decide +kernel
theorem dX12_here_10 : decode cX12_here 10 = .ok (.if_icmp .ge 20, 3) := by decide +kernel
theorem dX12_here_13 : decode cX12_here 13 = .ok (.aload_n 0, 1) := by decide +kernel
theorem dX12_here_14 : decode cX12_here 14 = .ok (.getfield 22, 3) := by decide +kernel
theorem dX12_here_17 : decode cX12_here 17 = .ok (.bipush 20, 2) := by decide +kernel
theorem dX12_here_19 : decode cX12_here 19 = .ok (.iload_n 1, 1) := by decide +kernel
theorem dX12_here_20 : decode cX12_here 20 = .ok (.imul, 1) := by decide +kernel
theorem dX12_here_21 : decode cX12_here 21 = .ok (.aload_n 0, 1) := by decide +kernel
theorem dX12_here_22 : decode cX12_here 22 = .ok (.getfield 132, 3) := by decide +kernel
theorem dX12_here_25 : decode cX12_here 25 = .ok (.iadd, 1) := by decide +kernel
theorem dX12_here_26 : decode cX12_here 26 = .ok (.iaload, 1) := by decide +kernel
theorem dX12_here_27 : decode cX12_here 27 = .ok (.goto 4, 3) := by decide +kernel
theorem dX12_here_30 : decode cX12_here 30 = .ok (.iconst (-1), 1) := by decide +kernel
theorem dX12_here_31 : decode cX12_here 31 = .ok (.ireturn, 1) := by decide +kernel
theorem dX12_figure_0 : decode cX12_figure 0 = .ok (.aload_n 0, 1) := by decide +kernel
theorem dX12_figure_1 : decode cX12_figure 1 = .ok (.iload_n 1, 1) := by decide +kernel
theorem dX12_figure_2 : decode cX12_figure 2 = .ok (.invokevirtual 135, 3) := by decide +kernel
theorem dX12_figure_5 : decode cX12_figure 5 = .ok (.bipush 48, 2) := by decide +kernel
theorem dX12_figure_7 : decode cX12_figure 7 = .ok (.isub, 1) := by decide +kernel
theorem dX12_figure_8 : decode cX12_figure 8 = .ok (.istore 4, 2) := by decide +kernel
theorem dX12_figure_10 : decode cX12_figure 10 = .ok (.iload 4, 2) := by decide +kernel
theorem dX12_figure_12 : decode cX12_figure 12 = .ok (.i2l, 1) := by decide +kernel
theorem dX12_figure_13 : decode cX12_figure 13 = .ok (.iload_n 2, 1) := by decide +kernel
theorem dX12_figure_14 : decode cX12_figure 14 = .ok (.i2l, 1) := by decide +kernel
theorem dX12_figure_15 : decode cX12_figure 15 = .ok (.iload_n 3, 1) := by decide +kernel
theorem dX12_figure_16 : decode cX12_figure 16 = .ok (.i2l, 1) := by decide +kernel
theorem dX12_figure_17 : decode cX12_figure 17 = .ok (.invokestatic 95, 3) := by decide +kernel
theorem dX12_figure_20 : decode cX12_figure 20 = .ok (.ifCond .ne 5, 3) := by decide +kernel
theorem dX12_figure_23 : decode cX12_figure 23 = .ok (.iconst (-1), 1) := by decide +kernel
theorem dX12_figure_24 : decode cX12_figure 24 = .ok (.ireturn, 1) := by decide +kernel
theorem dX12_figure_25 : decode cX12_figure 25 = .ok (.aload_n 0, 1) := by decide +kernel
theorem dX12_figure_26 : decode cX12_figure 26 = .ok (.dup, 1) := by decide +kernel
theorem dX12_figure_27 : decode cX12_figure 27 = .ok (.getfield 132, 3) := by decide +kernel
theorem dX12_figure_30 : decode cX12_figure 30 = .ok (.iconst 1, 1) := by decide +kernel
theorem dX12_figure_31 : decode cX12_figure 31 = .ok (.iadd, 1) := by decide +kernel
theorem dX12_figure_32 : decode cX12_figure 32 = .ok (.putfield 132, 3) := by decide +kernel
theorem dX12_figure_35 : decode cX12_figure 35 = .ok (.iload 4, 2) := by decide +kernel
theorem dX12_figure_37 : decode cX12_figure 37 = .ok (.ireturn, 1) := by decide +kernel
theorem dX12_readsLand_0 : decode cX12_readsLand 0 = .ok (.aload_n 0, 1) := by decide +kernel
theorem dX12_readsLand_1 : decode cX12_readsLand 1 = .ok (.getfield 138, 3) := by decide +kernel
theorem dX12_readsLand_4 : decode cX12_readsLand 4 = .ok (.bipush 6, 2) := by decide +kernel
theorem dX12_readsLand_6 : decode cX12_readsLand 6 = .ok (.if_icmp .ne 5, 3) := by decide +kernel
theorem dX12_readsLand_9 : decode cX12_readsLand 9 = .ok (.iconst 0, 1) := by decide +kernel
theorem dX12_readsLand_10 : decode cX12_readsLand 10 = .ok (.ireturn, 1) := by decide +kernel
theorem dX12_readsLand_11 : decode cX12_readsLand 11 = .ok (.aload_n 0, 1) := by decide +kernel
theorem dX12_readsLand_12 : decode cX12_readsLand 12 = .ok (.iconst 0, 1) := by decide +kernel
theorem dX12_readsLand_13 : decode cX12_readsLand 13 = .ok (.iconst 0, 1) := by decide +kernel
theorem dX12_readsLand_14 : decode cX12_readsLand 14 = .ok (.bipush 9, 2) := by decide +kernel
theorem dX12_readsLand_16 : decode cX12_readsLand 16 = .ok (.invokevirtual 141, 3) := by decide +kernel
theorem dX12_readsLand_19 : decode cX12_readsLand 19 = .ok (.istore_n 1, 1) := by decide +kernel
theorem dX12_readsLand_20 : decode cX12_readsLand 20 = .ok (.iload_n 1, 1) := by decide +kernel
theorem dX12_readsLand_21 : decode cX12_readsLand 21 = .ok (.iconst (-1), 1) := by decide +kernel
theorem dX12_readsLand_22 : decode cX12_readsLand 22 = .ok (.if_icmp .ne 7, 3) := by decide +kernel
theorem dX12_readsLand_25 : decode cX12_readsLand 25 = .ok (.iconst (-1), 1) := by decide +kernel
theorem dX12_readsLand_26 : decode cX12_readsLand 26 = .ok (.goto 11, 3) := by decide +kernel
theorem dX12_readsLand_29 : decode cX12_readsLand 29 = .ok (.aload_n 0, 1) := by decide +kernel
theorem dX12_readsLand_30 : decode cX12_readsLand 30 = .ok (.iconst 0, 1) := by decide +kernel
theorem dX12_readsLand_31 : decode cX12_readsLand 31 = .ok (.iconst 0, 1) := by decide +kernel
theorem dX12_readsLand_32 : decode cX12_readsLand 32 = .ok (.bipush 9, 2) := by decide +kernel
theorem dX12_readsLand_34 : decode cX12_readsLand 34 = .ok (.invokevirtual 141, 3) := by decide +kernel
theorem dX12_readsLand_37 : decode cX12_readsLand 37 = .ok (.istore_n 2, 1) := by decide +kernel
theorem dX12_readsLand_38 : decode cX12_readsLand 38 = .ok (.iload_n 2, 1) := by decide +kernel
theorem dX12_readsLand_39 : decode cX12_readsLand 39 = .ok (.iconst (-1), 1) := by decide +kernel
theorem dX12_readsLand_40 : decode cX12_readsLand 40 = .ok (.if_icmp .ne 5, 3) := by decide +kernel
theorem dX12_readsLand_43 : decode cX12_readsLand 43 = .ok (.iconst 0, 1) := by decide +kernel
theorem dX12_readsLand_44 : decode cX12_readsLand 44 = .ok (.ireturn, 1) := by decide +kernel
theorem dX12_readsLand_45 : decode cX12_readsLand 45 = .ok (.aload_n 0, 1) := by decide +kernel
theorem dX12_readsLand_46 : decode cX12_readsLand 46 = .ok (.getfield 28, 3) := by decide +kernel
theorem dX12_readsLand_49 : decode cX12_readsLand 49 = .ok (.aload_n 0, 1) := by decide +kernel
theorem dX12_readsLand_50 : decode cX12_readsLand 50 = .ok (.getfield 138, 3) := by decide +kernel
theorem dX12_readsLand_53 : decode cX12_readsLand 53 = .ok (.bipush 10, 2) := by decide +kernel
theorem dX12_readsLand_55 : decode cX12_readsLand 55 = .ok (.iload_n 1, 1) := by decide +kernel
theorem dX12_readsLand_56 : decode cX12_readsLand 56 = .ok (.imul, 1) := by decide +kernel
theorem dX12_readsLand_57 : decode cX12_readsLand 57 = .ok (.iload_n 2, 1) := by decide +kernel
theorem dX12_readsLand_58 : decode cX12_readsLand 58 = .ok (.iadd, 1) := by decide +kernel
theorem dX12_readsLand_59 : decode cX12_readsLand 59 = .ok (.iastore, 1) := by decide +kernel
theorem dX12_readsLand_60 : decode cX12_readsLand 60 = .ok (.aload_n 0, 1) := by decide +kernel
theorem dX12_readsLand_61 : decode cX12_readsLand 61 = .ok (.dup, 1) := by decide +kernel
theorem dX12_readsLand_62 : decode cX12_readsLand 62 = .ok (.getfield 138, 3) := by decide +kernel
theorem dX12_readsLand_65 : decode cX12_readsLand 65 = .ok (.iconst 1, 1) := by decide +kernel
theorem dX12_readsLand_66 : decode cX12_readsLand 66 = .ok (.iadd, 1) := by decide +kernel
theorem dX12_readsLand_67 : decode cX12_readsLand 67 = .ok (.putfield 138, 3) := by decide +kernel
theorem dX12_readsLand_70 : decode cX12_readsLand 70 = .ok (.iconst 1, 1) := by decide +kernel
theorem dX12_readsLand_71 : decode cX12_readsLand 71 = .ok (.ireturn, 1) := by decide +kernel
theorem dX12_readsPerson_0 : decode cX12_readsPerson 0 = .ok (.aload_n 0, 1) := by decide +kernel
theorem dX12_readsPerson_1 : decode cX12_readsPerson 1 = .ok (.getfield 144, 3) := by decide +kernel
theorem dX12_readsPerson_4 : decode cX12_readsPerson 4 = .ok (.bipush 12, 2) := by decide +kernel
theorem dX12_readsPerson_6 : decode cX12_readsPerson 6 = .ok (.if_icmp .ne 5, 3) := by decide +kernel
theorem dX12_readsPerson_9 : decode cX12_readsPerson 9 = .ok (.iconst 0, 1) := by decide +kernel
theorem dX12_readsPerson_10 : decode cX12_readsPerson 10 = .ok (.ireturn, 1) := by decide +kernel
theorem dX12_readsPerson_11 : decode cX12_readsPerson 11 = .ok (.aload_n 0, 1) := by decide +kernel
theorem dX12_readsPerson_12 : decode cX12_readsPerson 12 = .ok (.iconst 1, 1) := by decide +kernel
theorem dX12_readsPerson_13 : decode cX12_readsPerson 13 = .ok (.invokevirtual 135, 3) := by decide +kernel
theorem dX12_readsPerson_16 : decode cX12_readsPerson 16 = .ok (.bipush 109, 2) := by decide +kernel
theorem dX12_readsPerson_18 : decode cX12_readsPerson 18 = .ok (.if_icmp .ne 7, 3) := by decide +kernel
theorem dX12_readsPerson_21 : decode cX12_readsPerson 21 = .ok (.iconst 0, 1) := by decide +kernel
theorem dX12_readsPerson_22 : decode cX12_readsPerson 22 = .ok (.goto 18, 3) := by decide +kernel
theorem dX12_readsPerson_25 : decode cX12_readsPerson 25 = .ok (.aload_n 0, 1) := by decide +kernel
theorem dX12_readsPerson_26 : decode cX12_readsPerson 26 = .ok (.iconst 1, 1) := by decide +kernel
theorem dX12_readsPerson_27 : decode cX12_readsPerson 27 = .ok (.invokevirtual 135, 3) := by decide +kernel
theorem dX12_readsPerson_30 : decode cX12_readsPerson 30 = .ok (.bipush 119, 2) := by decide +kernel
theorem dX12_readsPerson_32 : decode cX12_readsPerson 32 = .ok (.if_icmp .ne 7, 3) := by decide +kernel
theorem dX12_readsPerson_35 : decode cX12_readsPerson 35 = .ok (.iconst 1, 1) := by decide +kernel
theorem dX12_readsPerson_36 : decode cX12_readsPerson 36 = .ok (.goto 4, 3) := by decide +kernel
theorem dX12_readsPerson_39 : decode cX12_readsPerson 39 = .ok (.iconst (-1), 1) := by decide +kernel
theorem dX12_readsPerson_40 : decode cX12_readsPerson 40 = .ok (.istore_n 1, 1) := by decide +kernel
theorem dX12_readsPerson_41 : decode cX12_readsPerson 41 = .ok (.iload_n 1, 1) := by decide +kernel
theorem dX12_readsPerson_42 : decode cX12_readsPerson 42 = .ok (.iconst (-1), 1) := by decide +kernel
theorem dX12_readsPerson_43 : decode cX12_readsPerson 43 = .ok (.if_icmp .ne 5, 3) := by decide +kernel
theorem dX12_readsPerson_46 : decode cX12_readsPerson 46 = .ok (.iconst 0, 1) := by decide +kernel
theorem dX12_readsPerson_47 : decode cX12_readsPerson 47 = .ok (.ireturn, 1) := by decide +kernel
theorem dX12_readsPerson_48 : decode cX12_readsPerson 48 = .ok (.aload_n 0, 1) := by decide +kernel
theorem dX12_readsPerson_49 : decode cX12_readsPerson 49 = .ok (.dup, 1) := by decide +kernel
theorem dX12_readsPerson_50 : decode cX12_readsPerson 50 = .ok (.getfield 132, 3) := by decide +kernel
theorem dX12_readsPerson_53 : decode cX12_readsPerson 53 = .ok (.iconst 1, 1) := by decide +kernel
theorem dX12_readsPerson_54 : decode cX12_readsPerson 54 = .ok (.iadd, 1) := by decide +kernel
theorem dX12_readsPerson_55 : decode cX12_readsPerson 55 = .ok (.putfield 132, 3) := by decide +kernel
theorem dX12_readsPerson_58 : decode cX12_readsPerson 58 = .ok (.aload_n 0, 1) := by decide +kernel
theorem dX12_readsPerson_59 : decode cX12_readsPerson 59 = .ok (.getfield 31, 3) := by decide +kernel
theorem dX12_readsPerson_62 : decode cX12_readsPerson 62 = .ok (.iconst 4, 1) := by decide +kernel
theorem dX12_readsPerson_63 : decode cX12_readsPerson 63 = .ok (.aload_n 0, 1) := by decide +kernel
theorem dX12_readsPerson_64 : decode cX12_readsPerson 64 = .ok (.getfield 144, 3) := by decide +kernel
theorem dX12_readsPerson_67 : decode cX12_readsPerson 67 = .ok (.imul, 1) := by decide +kernel
theorem dX12_readsPerson_68 : decode cX12_readsPerson 68 = .ok (.iload_n 1, 1) := by decide +kernel
theorem dX12_readsPerson_69 : decode cX12_readsPerson 69 = .ok (.iastore, 1) := by decide +kernel
theorem dX12_readsPerson_70 : decode cX12_readsPerson 70 = .ok (.iconst 1, 1) := by decide +kernel
theorem dX12_readsPerson_71 : decode cX12_readsPerson 71 = .ok (.istore_n 2, 1) := by decide +kernel
theorem dX12_readsPerson_72 : decode cX12_readsPerson 72 = .ok (.iload_n 2, 1) := by decide +kernel
theorem dX12_readsPerson_73 : decode cX12_readsPerson 73 = .ok (.iconst 4, 1) := by decide +kernel
theorem dX12_readsPerson_74 : decode cX12_readsPerson 74 = .ok (.if_icmp .ge 62, 3) := by decide +kernel
theorem dX12_readsPerson_77 : decode cX12_readsPerson 77 = .ok (.aload_n 0, 1) := by decide +kernel
theorem dX12_readsPerson_78 : decode cX12_readsPerson 78 = .ok (.iconst 1, 1) := by decide +kernel
theorem dX12_readsPerson_79 : decode cX12_readsPerson 79 = .ok (.iload_n 2, 1) := by decide +kernel
theorem dX12_readsPerson_80 : decode cX12_readsPerson 80 = .ok (.iconst 2, 1) := by decide +kernel
theorem dX12_readsPerson_81 : decode cX12_readsPerson 81 = .ok (.if_icmp .ne 7, 3) := by decide +kernel
theorem dX12_readsPerson_84 : decode cX12_readsPerson 84 = .ok (.iconst 1, 1) := by decide +kernel
theorem dX12_readsPerson_85 : decode cX12_readsPerson 85 = .ok (.goto 4, 3) := by decide +kernel
theorem dX12_readsPerson_88 : decode cX12_readsPerson 88 = .ok (.iconst 0, 1) := by decide +kernel
theorem dX12_readsPerson_89 : decode cX12_readsPerson 89 = .ok (.iload_n 2, 1) := by decide +kernel
theorem dX12_readsPerson_90 : decode cX12_readsPerson 90 = .ok (.iconst 1, 1) := by decide +kernel
theorem dX12_readsPerson_91 : decode cX12_readsPerson 91 = .ok (.if_icmp .ne 12, 3) := by decide +kernel
theorem dX12_readsPerson_94 : decode cX12_readsPerson 94 = .ok (.aload_n 0, 1) := by decide +kernel
theorem dX12_readsPerson_95 : decode cX12_readsPerson 95 = .ok (.getfield 138, 3) := by decide +kernel
theorem dX12_readsPerson_98 : decode cX12_readsPerson 98 = .ok (.iconst 1, 1) := by decide +kernel
theorem dX12_readsPerson_99 : decode cX12_readsPerson 99 = .ok (.isub, 1) := by decide +kernel
theorem dX12_readsPerson_100 : decode cX12_readsPerson 100 = .ok (.goto 5, 3) := by decide +kernel
theorem dX12_readsPerson_103 : decode cX12_readsPerson 103 = .ok (.bipush 9, 2) := by decide +kernel
theorem dX12_readsPerson_105 : decode cX12_readsPerson 105 = .ok (.invokevirtual 141, 3) := by decide +kernel
theorem dX12_readsPerson_108 : decode cX12_readsPerson 108 = .ok (.istore_n 3, 1) := by decide +kernel
theorem dX12_readsPerson_109 : decode cX12_readsPerson 109 = .ok (.iload_n 3, 1) := by decide +kernel
theorem dX12_readsPerson_110 : decode cX12_readsPerson 110 = .ok (.iconst (-1), 1) := by decide +kernel
theorem dX12_readsPerson_111 : decode cX12_readsPerson 111 = .ok (.if_icmp .ne 5, 3) := by decide +kernel
theorem dX12_readsPerson_114 : decode cX12_readsPerson 114 = .ok (.iconst 0, 1) := by decide +kernel
theorem dX12_readsPerson_115 : decode cX12_readsPerson 115 = .ok (.ireturn, 1) := by decide +kernel
theorem dX12_readsPerson_116 : decode cX12_readsPerson 116 = .ok (.aload_n 0, 1) := by decide +kernel
theorem dX12_readsPerson_117 : decode cX12_readsPerson 117 = .ok (.getfield 31, 3) := by decide +kernel
theorem dX12_readsPerson_120 : decode cX12_readsPerson 120 = .ok (.iconst 4, 1) := by decide +kernel
theorem dX12_readsPerson_121 : decode cX12_readsPerson 121 = .ok (.aload_n 0, 1) := by decide +kernel
theorem dX12_readsPerson_122 : decode cX12_readsPerson 122 = .ok (.getfield 144, 3) := by decide +kernel
theorem dX12_readsPerson_125 : decode cX12_readsPerson 125 = .ok (.imul, 1) := by decide +kernel
theorem dX12_readsPerson_126 : decode cX12_readsPerson 126 = .ok (.iload_n 2, 1) := by decide +kernel
theorem dX12_readsPerson_127 : decode cX12_readsPerson 127 = .ok (.iadd, 1) := by decide +kernel
theorem dX12_readsPerson_128 : decode cX12_readsPerson 128 = .ok (.iload_n 3, 1) := by decide +kernel
theorem dX12_readsPerson_129 : decode cX12_readsPerson 129 = .ok (.iastore, 1) := by decide +kernel
theorem dX12_readsPerson_130 : decode cX12_readsPerson 130 = .ok (.iinc 2 1, 3) := by decide +kernel
theorem dX12_readsPerson_133 : decode cX12_readsPerson 133 = .ok (.goto (-61), 3) := by decide +kernel
theorem dX12_readsPerson_136 : decode cX12_readsPerson 136 = .ok (.aload_n 0, 1) := by decide +kernel
theorem dX12_readsPerson_137 : decode cX12_readsPerson 137 = .ok (.dup, 1) := by decide +kernel
theorem dX12_readsPerson_138 : decode cX12_readsPerson 138 = .ok (.getfield 144, 3) := by decide +kernel
theorem dX12_readsPerson_141 : decode cX12_readsPerson 141 = .ok (.iconst 1, 1) := by decide +kernel
theorem dX12_readsPerson_142 : decode cX12_readsPerson 142 = .ok (.iadd, 1) := by decide +kernel
theorem dX12_readsPerson_143 : decode cX12_readsPerson 143 = .ok (.putfield 144, 3) := by decide +kernel
theorem dX12_readsPerson_146 : decode cX12_readsPerson 146 = .ok (.iconst 1, 1) := by decide +kernel
theorem dX12_readsPerson_147 : decode cX12_readsPerson 147 = .ok (.ireturn, 1) := by decide +kernel
theorem dX12_fails_0 : decode cX12_fails 0 = .ok (.iload_n 1, 1) := by decide +kernel
theorem dX12_fails_1 : decode cX12_fails 1 = .ok (.ifCond .ne 11, 3) := by decide +kernel
theorem dX12_fails_4 : decode cX12_fails 4 = .ok (.aload_n 0, 1) := by decide +kernel
theorem dX12_fails_5 : decode cX12_fails 5 = .ok (.iconst 0, 1) := by decide +kernel
theorem dX12_fails_6 : decode cX12_fails 6 = .ok (.putfield 138, 3) := by decide +kernel
theorem dX12_fails_9 : decode cX12_fails 9 = .ok (.goto 8, 3) := by decide +kernel
theorem dX12_fails_12 : decode cX12_fails 12 = .ok (.aload_n 0, 1) := by decide +kernel
theorem dX12_fails_13 : decode cX12_fails 13 = .ok (.iconst 0, 1) := by decide +kernel
theorem dX12_fails_14 : decode cX12_fails 14 = .ok (.putfield 144, 3) := by decide +kernel
theorem dX12_fails_17 : decode cX12_fails 17 = .ok (.aload_n 0, 1) := by decide +kernel
theorem dX12_fails_18 : decode cX12_fails 18 = .ok (.getfield 132, 3) := by decide +kernel
theorem dX12_fails_21 : decode cX12_fails 21 = .ok (.ireturn, 1) := by decide +kernel
theorem dX12_reads_0 : decode cX12_reads 0 = .ok (.aload_n 0, 1) := by decide +kernel
theorem dX12_reads_1 : decode cX12_reads 1 = .ok (.iconst 0, 1) := by decide +kernel
theorem dX12_reads_2 : decode cX12_reads 2 = .ok (.putfield 132, 3) := by decide +kernel
theorem dX12_reads_5 : decode cX12_reads 5 = .ok (.iload_n 1, 1) := by decide +kernel
theorem dX12_reads_6 : decode cX12_reads 6 = .ok (.ifCond .ne 11, 3) := by decide +kernel
theorem dX12_reads_9 : decode cX12_reads 9 = .ok (.aload_n 0, 1) := by decide +kernel
theorem dX12_reads_10 : decode cX12_reads 10 = .ok (.iconst 0, 1) := by decide +kernel
theorem dX12_reads_11 : decode cX12_reads 11 = .ok (.putfield 138, 3) := by decide +kernel
theorem dX12_reads_14 : decode cX12_reads 14 = .ok (.goto 8, 3) := by decide +kernel
theorem dX12_reads_17 : decode cX12_reads 17 = .ok (.aload_n 0, 1) := by decide +kernel
theorem dX12_reads_18 : decode cX12_reads 18 = .ok (.iconst 0, 1) := by decide +kernel
theorem dX12_reads_19 : decode cX12_reads 19 = .ok (.putfield 144, 3) := by decide +kernel
theorem dX12_reads_22 : decode cX12_reads 22 = .ok (.aload_n 0, 1) := by decide +kernel
theorem dX12_reads_23 : decode cX12_reads 23 = .ok (.getfield 25, 3) := by decide +kernel
theorem dX12_reads_26 : decode cX12_reads 26 = .ok (.iload_n 1, 1) := by decide +kernel
theorem dX12_reads_27 : decode cX12_reads 27 = .ok (.iaload, 1) := by decide +kernel
theorem dX12_reads_28 : decode cX12_reads 28 = .ok (.ifCond .le 7, 3) := by decide +kernel
theorem dX12_reads_31 : decode cX12_reads 31 = .ok (.iconst 1, 1) := by decide +kernel
theorem dX12_reads_32 : decode cX12_reads 32 = .ok (.goto 4, 3) := by decide +kernel
theorem dX12_reads_35 : decode cX12_reads 35 = .ok (.iconst 0, 1) := by decide +kernel
theorem dX12_reads_36 : decode cX12_reads 36 = .ok (.istore_n 2, 1) := by decide +kernel
theorem dX12_reads_37 : decode cX12_reads 37 = .ok (.iload_n 2, 1) := by decide +kernel
theorem dX12_reads_38 : decode cX12_reads 38 = .ok (.ifCond .eq 89, 3) := by decide +kernel
theorem dX12_reads_41 : decode cX12_reads 41 = .ok (.iload_n 1, 1) := by decide +kernel
theorem dX12_reads_42 : decode cX12_reads 42 = .ok (.ifCond .ne 10, 3) := by decide +kernel
theorem dX12_reads_45 : decode cX12_reads 45 = .ok (.aload_n 0, 1) := by decide +kernel
theorem dX12_reads_46 : decode cX12_reads 46 = .ok (.invokevirtual 147, 3) := by decide +kernel
theorem dX12_reads_49 : decode cX12_reads 49 = .ok (.goto 7, 3) := by decide +kernel
theorem dX12_reads_52 : decode cX12_reads 52 = .ok (.aload_n 0, 1) := by decide +kernel
theorem dX12_reads_53 : decode cX12_reads 53 = .ok (.invokevirtual 151, 3) := by decide +kernel
theorem dX12_reads_56 : decode cX12_reads 56 = .ok (.istore_n 3, 1) := by decide +kernel
theorem dX12_reads_57 : decode cX12_reads 57 = .ok (.iload_n 3, 1) := by decide +kernel
theorem dX12_reads_58 : decode cX12_reads 58 = .ok (.ifCond .ne 9, 3) := by decide +kernel
theorem dX12_reads_61 : decode cX12_reads 61 = .ok (.aload_n 0, 1) := by decide +kernel
theorem dX12_reads_62 : decode cX12_reads 62 = .ok (.iload_n 1, 1) := by decide +kernel
theorem dX12_reads_63 : decode cX12_reads 63 = .ok (.invokevirtual 154, 3) := by decide +kernel
theorem dX12_reads_66 : decode cX12_reads 66 = .ok (.ireturn, 1) := by decide +kernel
theorem dX12_reads_67 : decode cX12_reads 67 = .ok (.aload_n 0, 1) := by decide +kernel
theorem dX12_reads_68 : decode cX12_reads 68 = .ok (.getfield 132, 3) := by decide +kernel
theorem dX12_reads_71 : decode cX12_reads 71 = .ok (.aload_n 0, 1) := by decide +kernel
theorem dX12_reads_72 : decode cX12_reads 72 = .ok (.getfield 25, 3) := by decide +kernel
theorem dX12_reads_75 : decode cX12_reads 75 = .ok (.iload_n 1, 1) := by decide +kernel
theorem dX12_reads_76 : decode cX12_reads 76 = .ok (.iaload, 1) := by decide +kernel
theorem dX12_reads_77 : decode cX12_reads 77 = .ok (.if_icmp .ge 7, 3) := by decide +kernel
theorem dX12_reads_80 : decode cX12_reads 80 = .ok (.iconst 1, 1) := by decide +kernel
theorem dX12_reads_81 : decode cX12_reads 81 = .ok (.goto 4, 3) := by decide +kernel
theorem dX12_reads_84 : decode cX12_reads 84 = .ok (.iconst 0, 1) := by decide +kernel
theorem dX12_reads_85 : decode cX12_reads 85 = .ok (.istore_n 2, 1) := by decide +kernel
theorem dX12_reads_86 : decode cX12_reads 86 = .ok (.iload_n 2, 1) := by decide +kernel
theorem dX12_reads_87 : decode cX12_reads 87 = .ok (.ifCond .eq 19, 3) := by decide +kernel
theorem dX12_reads_90 : decode cX12_reads 90 = .ok (.aload_n 0, 1) := by decide +kernel
theorem dX12_reads_91 : decode cX12_reads 91 = .ok (.iload_n 1, 1) := by decide +kernel
theorem dX12_reads_92 : decode cX12_reads 92 = .ok (.invokevirtual 135, 3) := by decide +kernel
theorem dX12_reads_95 : decode cX12_reads 95 = .ok (.bipush 59, 2) := by decide +kernel
theorem dX12_reads_97 : decode cX12_reads 97 = .ok (.if_icmp .eq 9, 3) := by decide +kernel
theorem dX12_reads_100 : decode cX12_reads 100 = .ok (.aload_n 0, 1) := by decide +kernel
theorem dX12_reads_101 : decode cX12_reads 101 = .ok (.iload_n 1, 1) := by decide +kernel
theorem dX12_reads_102 : decode cX12_reads 102 = .ok (.invokevirtual 154, 3) := by decide +kernel
theorem dX12_reads_105 : decode cX12_reads 105 = .ok (.ireturn, 1) := by decide +kernel
theorem dX12_reads_106 : decode cX12_reads 106 = .ok (.aload_n 0, 1) := by decide +kernel
theorem dX12_reads_107 : decode cX12_reads 107 = .ok (.dup, 1) := by decide +kernel
theorem dX12_reads_108 : decode cX12_reads 108 = .ok (.getfield 132, 3) := by decide +kernel
theorem dX12_reads_111 : decode cX12_reads 111 = .ok (.iload_n 2, 1) := by decide +kernel
theorem dX12_reads_112 : decode cX12_reads 112 = .ok (.ifCond .eq 7, 3) := by decide +kernel
theorem dX12_reads_115 : decode cX12_reads 115 = .ok (.iconst 1, 1) := by decide +kernel
theorem dX12_reads_116 : decode cX12_reads 116 = .ok (.goto 4, 3) := by decide +kernel
theorem dX12_reads_119 : decode cX12_reads 119 = .ok (.iconst 0, 1) := by decide +kernel
theorem dX12_reads_120 : decode cX12_reads 120 = .ok (.iadd, 1) := by decide +kernel
theorem dX12_reads_121 : decode cX12_reads 121 = .ok (.putfield 132, 3) := by decide +kernel
theorem dX12_reads_124 : decode cX12_reads 124 = .ok (.goto (-87), 3) := by decide +kernel
theorem dX12_reads_127 : decode cX12_reads 127 = .ok (.iconst (-1), 1) := by decide +kernel
theorem dX12_reads_128 : decode cX12_reads 128 = .ok (.ireturn, 1) := by decide +kernel
theorem dX12_find_0 : decode cX12_find 0 = .ok (.aload_n 0, 1) := by decide +kernel
theorem dX12_find_1 : decode cX12_find 1 = .ok (.iconst 0, 1) := by decide +kernel
theorem dX12_find_2 : decode cX12_find 2 = .ok (.invokevirtual 157, 3) := by decide +kernel
theorem dX12_find_5 : decode cX12_find 5 = .ok (.pop, 1) := by decide +kernel
theorem dX12_find_6 : decode cX12_find 6 = .ok (.aload_n 0, 1) := by decide +kernel
theorem dX12_find_7 : decode cX12_find 7 = .ok (.iconst 1, 1) := by decide +kernel
theorem dX12_find_8 : decode cX12_find 8 = .ok (.invokevirtual 157, 3) := by decide +kernel
theorem dX12_find_11 : decode cX12_find 11 = .ok (.pop, 1) := by decide +kernel
theorem dX12_find_12 : decode cX12_find 12 = .ok (.return_, 1) := by decide +kernel
theorem dX12_faultOf_0 : decode cX12_faultOf 0 = .ok (.aload_n 0, 1) := by decide +kernel
theorem dX12_faultOf_1 : decode cX12_faultOf 1 = .ok (.iconst 0, 1) := by decide +kernel
theorem dX12_faultOf_2 : decode cX12_faultOf 2 = .ok (.invokevirtual 157, 3) := by decide +kernel
theorem dX12_faultOf_5 : decode cX12_faultOf 5 = .ok (.istore_n 2, 1) := by decide +kernel
theorem dX12_faultOf_6 : decode cX12_faultOf 6 = .ok (.aload_n 0, 1) := by decide +kernel
theorem dX12_faultOf_7 : decode cX12_faultOf 7 = .ok (.iconst 1, 1) := by decide +kernel
theorem dX12_faultOf_8 : decode cX12_faultOf 8 = .ok (.invokevirtual 157, 3) := by decide +kernel
theorem dX12_faultOf_11 : decode cX12_faultOf 11 = .ok (.istore_n 3, 1) := by decide +kernel
theorem dX12_faultOf_12 : decode cX12_faultOf 12 = .ok (.iload_n 1, 1) := by decide +kernel
theorem dX12_faultOf_13 : decode cX12_faultOf 13 = .ok (.ifCond .ne 7, 3) := by decide +kernel
theorem dX12_faultOf_16 : decode cX12_faultOf 16 = .ok (.iload_n 2, 1) := by decide +kernel
theorem dX12_faultOf_17 : decode cX12_faultOf 17 = .ok (.goto 4, 3) := by decide +kernel
theorem dX12_faultOf_20 : decode cX12_faultOf 20 = .ok (.iload_n 3, 1) := by decide +kernel
theorem dX12_faultOf_21 : decode cX12_faultOf 21 = .ok (.ireturn, 1) := by decide +kernel
theorem dX12_fault_0 : decode cX12_fault 0 = .ok (.iload_n 1, 1) := by decide +kernel
theorem dX12_fault_1 : decode cX12_fault 1 = .ok (.invokestatic 124, 3) := by decide +kernel
theorem dX12_fault_4 : decode cX12_fault 4 = .ok (.ifCond .eq 11, 3) := by decide +kernel
theorem dX12_fault_7 : decode cX12_fault 7 = .ok (.aload_n 0, 1) := by decide +kernel
theorem dX12_fault_8 : decode cX12_fault 8 = .ok (.iload_n 1, 1) := by decide +kernel
theorem dX12_fault_9 : decode cX12_fault 9 = .ok (.invokevirtual 160, 3) := by decide +kernel
theorem dX12_fault_12 : decode cX12_fault 12 = .ok (.goto 5, 3) := by decide +kernel
theorem dX12_fault_15 : decode cX12_fault 15 = .ok (.bipush (-2), 2) := by decide +kernel
theorem dX12_fault_17 : decode cX12_fault 17 = .ok (.ireturn, 1) := by decide +kernel
theorem dX12_isLand_0 : decode cX12_isLand 0 = .ok (.aload_n 0, 1) := by decide +kernel
theorem dX12_isLand_1 : decode cX12_isLand 1 = .ok (.invokevirtual 163, 3) := by decide +kernel
theorem dX12_isLand_4 : decode cX12_isLand 4 = .ok (.iload_n 1, 1) := by decide +kernel
theorem dX12_isLand_5 : decode cX12_isLand 5 = .ok (.i2l, 1) := by decide +kernel
theorem dX12_isLand_6 : decode cX12_isLand 6 = .ok (.lconst 0, 1) := by decide +kernel
theorem dX12_isLand_7 : decode cX12_isLand 7 = .ok (.aload_n 0, 1) := by decide +kernel
theorem dX12_isLand_8 : decode cX12_isLand 8 = .ok (.getfield 138, 3) := by decide +kernel
theorem dX12_isLand_11 : decode cX12_isLand 11 = .ok (.iconst 1, 1) := by decide +kernel
theorem dX12_isLand_12 : decode cX12_isLand 12 = .ok (.isub, 1) := by decide +kernel
theorem dX12_isLand_13 : decode cX12_isLand 13 = .ok (.i2l, 1) := by decide +kernel
theorem dX12_isLand_14 : decode cX12_isLand 14 = .ok (.invokestatic 95, 3) := by decide +kernel
theorem dX12_isLand_17 : decode cX12_isLand 17 = .ok (.ireturn, 1) := by decide +kernel
theorem dX12_isPerson_0 : decode cX12_isPerson 0 = .ok (.aload_n 0, 1) := by decide +kernel
theorem dX12_isPerson_1 : decode cX12_isPerson 1 = .ok (.invokevirtual 163, 3) := by decide +kernel
theorem dX12_isPerson_4 : decode cX12_isPerson 4 = .ok (.iload_n 1, 1) := by decide +kernel
theorem dX12_isPerson_5 : decode cX12_isPerson 5 = .ok (.i2l, 1) := by decide +kernel
theorem dX12_isPerson_6 : decode cX12_isPerson 6 = .ok (.lconst 0, 1) := by decide +kernel
theorem dX12_isPerson_7 : decode cX12_isPerson 7 = .ok (.aload_n 0, 1) := by decide +kernel
theorem dX12_isPerson_8 : decode cX12_isPerson 8 = .ok (.getfield 144, 3) := by decide +kernel
theorem dX12_isPerson_11 : decode cX12_isPerson 11 = .ok (.iconst 1, 1) := by decide +kernel
theorem dX12_isPerson_12 : decode cX12_isPerson 12 = .ok (.isub, 1) := by decide +kernel
theorem dX12_isPerson_13 : decode cX12_isPerson 13 = .ok (.i2l, 1) := by decide +kernel
theorem dX12_isPerson_14 : decode cX12_isPerson 14 = .ok (.invokestatic 95, 3) := by decide +kernel
theorem dX12_isPerson_17 : decode cX12_isPerson 17 = .ok (.ireturn, 1) := by decide +kernel
theorem dX12_person_0 : decode cX12_person 0 = .ok (.aload_n 0, 1) := by decide +kernel
theorem dX12_person_1 : decode cX12_person 1 = .ok (.iload_n 1, 1) := by decide +kernel
theorem dX12_person_2 : decode cX12_person 2 = .ok (.invokevirtual 166, 3) := by decide +kernel
theorem dX12_person_5 : decode cX12_person 5 = .ok (.ifCond .eq 28, 3) := by decide +kernel
theorem dX12_person_8 : decode cX12_person 8 = .ok (.iload_n 2, 1) := by decide +kernel
theorem dX12_person_9 : decode cX12_person 9 = .ok (.i2l, 1) := by decide +kernel
theorem dX12_person_10 : decode cX12_person 10 = .ok (.lconst 0, 1) := by decide +kernel
theorem dX12_person_11 : decode cX12_person 11 = .ok (.ldc2_w 103, 3) := by decide +kernel
theorem dX12_person_14 : decode cX12_person 14 = .ok (.invokestatic 95, 3) := by decide +kernel
theorem dX12_person_17 : decode cX12_person 17 = .ok (.ifCond .eq 16, 3) := by decide +kernel
theorem dX12_person_20 : decode cX12_person 20 = .ok (.aload_n 0, 1) := by decide +kernel
theorem dX12_person_21 : decode cX12_person 21 = .ok (.getfield 31, 3) := by decide +kernel
theorem dX12_person_24 : decode cX12_person 24 = .ok (.iconst 4, 1) := by decide +kernel
theorem dX12_person_25 : decode cX12_person 25 = .ok (.iload_n 1, 1) := by decide +kernel
theorem dX12_person_26 : decode cX12_person 26 = .ok (.imul, 1) := by decide +kernel
theorem dX12_person_27 : decode cX12_person 27 = .ok (.iload_n 2, 1) := by decide +kernel
theorem dX12_person_28 : decode cX12_person 28 = .ok (.iadd, 1) := by decide +kernel
theorem dX12_person_29 : decode cX12_person 29 = .ok (.iaload, 1) := by decide +kernel
theorem dX12_person_30 : decode cX12_person 30 = .ok (.goto 5, 3) := by decide +kernel
theorem dX12_person_33 : decode cX12_person 33 = .ok (.bipush (-2), 2) := by decide +kernel
theorem dX12_person_35 : decode cX12_person 35 = .ok (.ireturn, 1) := by decide +kernel
theorem dX12_shadowOf_0 : decode cX12_shadowOf 0 = .ok (.iload_n 2, 1) := by decide +kernel
theorem dX12_shadowOf_1 : decode cX12_shadowOf 1 = .ok (.bipush 12, 2) := by decide +kernel
theorem dX12_shadowOf_3 : decode cX12_shadowOf 3 = .ok (.if_icmp .ge 10, 3) := by decide +kernel
theorem dX12_shadowOf_6 : decode cX12_shadowOf 6 = .ok (.bipush 12, 2) := by decide +kernel
theorem dX12_shadowOf_8 : decode cX12_shadowOf 8 = .ok (.iload_n 2, 1) := by decide +kernel
theorem dX12_shadowOf_9 : decode cX12_shadowOf 9 = .ok (.isub, 1) := by decide +kernel
theorem dX12_shadowOf_10 : decode cX12_shadowOf 10 = .ok (.goto 7, 3) := by decide +kernel
theorem dX12_shadowOf_13 : decode cX12_shadowOf 13 = .ok (.iload_n 2, 1) := by decide +kernel
theorem dX12_shadowOf_14 : decode cX12_shadowOf 14 = .ok (.bipush 12, 2) := by decide +kernel
theorem dX12_shadowOf_16 : decode cX12_shadowOf 16 = .ok (.isub, 1) := by decide +kernel
theorem dX12_shadowOf_17 : decode cX12_shadowOf 17 = .ok (.istore_n 3, 1) := by decide +kernel
theorem dX12_shadowOf_18 : decode cX12_shadowOf 18 = .ok (.aload_n 0, 1) := by decide +kernel
theorem dX12_shadowOf_19 : decode cX12_shadowOf 19 = .ok (.getfield 31, 3) := by decide +kernel
theorem dX12_shadowOf_22 : decode cX12_shadowOf 22 = .ok (.iconst 4, 1) := by decide +kernel
theorem dX12_shadowOf_23 : decode cX12_shadowOf 23 = .ok (.iload_n 1, 1) := by decide +kernel
theorem dX12_shadowOf_24 : decode cX12_shadowOf 24 = .ok (.imul, 1) := by decide +kernel
theorem dX12_shadowOf_25 : decode cX12_shadowOf 25 = .ok (.iconst 2, 1) := by decide +kernel
theorem dX12_shadowOf_26 : decode cX12_shadowOf 26 = .ok (.iadd, 1) := by decide +kernel
theorem dX12_shadowOf_27 : decode cX12_shadowOf 27 = .ok (.iaload, 1) := by decide +kernel
theorem dX12_shadowOf_28 : decode cX12_shadowOf 28 = .ok (.aload_n 0, 1) := by decide +kernel
theorem dX12_shadowOf_29 : decode cX12_shadowOf 29 = .ok (.getfield 31, 3) := by decide +kernel
theorem dX12_shadowOf_32 : decode cX12_shadowOf 32 = .ok (.iconst 4, 1) := by decide +kernel
theorem dX12_shadowOf_33 : decode cX12_shadowOf 33 = .ok (.iload_n 1, 1) := by decide +kernel
theorem dX12_shadowOf_34 : decode cX12_shadowOf 34 = .ok (.imul, 1) := by decide +kernel
theorem dX12_shadowOf_35 : decode cX12_shadowOf 35 = .ok (.iconst 3, 1) := by decide +kernel
theorem dX12_shadowOf_36 : decode cX12_shadowOf 36 = .ok (.iadd, 1) := by decide +kernel
theorem dX12_shadowOf_37 : decode cX12_shadowOf 37 = .ok (.iaload, 1) := by decide +kernel
theorem dX12_shadowOf_38 : decode cX12_shadowOf 38 = .ok (.iadd, 1) := by decide +kernel
theorem dX12_shadowOf_39 : decode cX12_shadowOf 39 = .ok (.iconst 1, 1) := by decide +kernel
theorem dX12_shadowOf_40 : decode cX12_shadowOf 40 = .ok (.iload_n 3, 1) := by decide +kernel
theorem dX12_shadowOf_41 : decode cX12_shadowOf 41 = .ok (.iadd, 1) := by decide +kernel
theorem dX12_shadowOf_42 : decode cX12_shadowOf 42 = .ok (.imul, 1) := by decide +kernel
theorem dX12_shadowOf_43 : decode cX12_shadowOf 43 = .ok (.ireturn, 1) := by decide +kernel
theorem dX12_isHour_0 : decode cX12_isHour 0 = .ok (.iload_n 0, 1) := by decide +kernel
theorem dX12_isHour_1 : decode cX12_isHour 1 = .ok (.i2l, 1) := by decide +kernel
theorem dX12_isHour_2 : decode cX12_isHour 2 = .ok (.ldc2_w 169, 3) := by decide +kernel
theorem dX12_isHour_5 : decode cX12_isHour 5 = .ok (.ldc2_w 171, 3) := by decide +kernel
theorem dX12_isHour_8 : decode cX12_isHour 8 = .ok (.invokestatic 95, 3) := by decide +kernel
theorem dX12_isHour_11 : decode cX12_isHour 11 = .ok (.ireturn, 1) := by decide +kernel
theorem dX12_shadow_0 : decode cX12_shadow 0 = .ok (.aload_n 0, 1) := by decide +kernel
theorem dX12_shadow_1 : decode cX12_shadow 1 = .ok (.iload_n 1, 1) := by decide +kernel
theorem dX12_shadow_2 : decode cX12_shadow 2 = .ok (.invokevirtual 166, 3) := by decide +kernel
theorem dX12_shadow_5 : decode cX12_shadow 5 = .ok (.ifCond .eq 19, 3) := by decide +kernel
theorem dX12_shadow_8 : decode cX12_shadow 8 = .ok (.iload_n 2, 1) := by decide +kernel
theorem dX12_shadow_9 : decode cX12_shadow 9 = .ok (.invokestatic 173, 3) := by decide +kernel
theorem dX12_shadow_12 : decode cX12_shadow 12 = .ok (.ifCond .eq 12, 3) := by decide +kernel
theorem dX12_shadow_15 : decode cX12_shadow 15 = .ok (.aload_n 0, 1) := by decide +kernel
theorem dX12_shadow_16 : decode cX12_shadow 16 = .ok (.iload_n 1, 1) := by decide +kernel
theorem dX12_shadow_17 : decode cX12_shadow 17 = .ok (.iload_n 2, 1) := by decide +kernel
theorem dX12_shadow_18 : decode cX12_shadow 18 = .ok (.invokevirtual 176, 3) := by decide +kernel
theorem dX12_shadow_21 : decode cX12_shadow 21 = .ok (.goto 5, 3) := by decide +kernel
theorem dX12_shadow_24 : decode cX12_shadow 24 = .ok (.bipush (-2), 2) := by decide +kernel
theorem dX12_shadow_26 : decode cX12_shadow 26 = .ok (.ireturn, 1) := by decide +kernel
theorem dX12_isWeek_0 : decode cX12_isWeek 0 = .ok (.iload_n 0, 1) := by decide +kernel
theorem dX12_isWeek_1 : decode cX12_isWeek 1 = .ok (.i2l, 1) := by decide +kernel
theorem dX12_isWeek_2 : decode cX12_isWeek 2 = .ok (.lconst 0, 1) := by decide +kernel
theorem dX12_isWeek_3 : decode cX12_isWeek 3 = .ok (.ldc2_w 179, 3) := by decide +kernel
theorem dX12_isWeek_6 : decode cX12_isWeek 6 = .ok (.invokestatic 95, 3) := by decide +kernel
theorem dX12_isWeek_9 : decode cX12_isWeek 9 = .ok (.ireturn, 1) := by decide +kernel
theorem dX12_cloud_0 : decode cX12_cloud 0 = .ok (.iload_n 1, 1) := by decide +kernel
theorem dX12_cloud_1 : decode cX12_cloud 1 = .ok (.invokestatic 181, 3) := by decide +kernel
theorem dX12_cloud_4 : decode cX12_cloud 4 = .ok (.ifCond .eq 10, 3) := by decide +kernel
theorem dX12_cloud_7 : decode cX12_cloud 7 = .ok (.iload_n 2, 1) := by decide +kernel
theorem dX12_cloud_8 : decode cX12_cloud 8 = .ok (.invokestatic 124, 3) := by decide +kernel
theorem dX12_cloud_11 : decode cX12_cloud 11 = .ok (.ifCond .ne 6, 3) := by decide +kernel
theorem dX12_cloud_14 : decode cX12_cloud 14 = .ok (.bipush (-2), 2) := by decide +kernel
theorem dX12_cloud_16 : decode cX12_cloud 16 = .ok (.ireturn, 1) := by decide +kernel
theorem dX12_cloud_17 : decode cX12_cloud 17 = .ok (.aload_n 0, 1) := by decide +kernel
theorem dX12_cloud_18 : decode cX12_cloud 18 = .ok (.getfield 34, 3) := by decide +kernel
theorem dX12_cloud_21 : decode cX12_cloud 21 = .ok (.iload_n 1, 1) := by decide +kernel
theorem dX12_cloud_22 : decode cX12_cloud 22 = .ok (.iaload, 1) := by decide +kernel
theorem dX12_cloud_23 : decode cX12_cloud 23 = .ok (.istore_n 3, 1) := by decide +kernel
theorem dX12_cloud_24 : decode cX12_cloud 24 = .ok (.aload_n 0, 1) := by decide +kernel
theorem dX12_cloud_25 : decode cX12_cloud 25 = .ok (.getfield 34, 3) := by decide +kernel
theorem dX12_cloud_28 : decode cX12_cloud 28 = .ok (.iload_n 1, 1) := by decide +kernel
theorem dX12_cloud_29 : decode cX12_cloud 29 = .ok (.iload_n 2, 1) := by decide +kernel
theorem dX12_cloud_30 : decode cX12_cloud 30 = .ok (.iastore, 1) := by decide +kernel
theorem dX12_cloud_31 : decode cX12_cloud 31 = .ok (.iload_n 3, 1) := by decide +kernel
theorem dX12_cloud_32 : decode cX12_cloud 32 = .ok (.ireturn, 1) := by decide +kernel
theorem dX12_isLate_0 : decode cX12_isLate 0 = .ok (.iload_n 1, 1) := by decide +kernel
theorem dX12_isLate_1 : decode cX12_isLate 1 = .ok (.i2l, 1) := by decide +kernel
theorem dX12_isLate_2 : decode cX12_isLate 2 = .ok (.aload_n 0, 1) := by decide +kernel
theorem dX12_isLate_3 : decode cX12_isLate 3 = .ok (.getfield 184, 3) := by decide +kernel
theorem dX12_isLate_6 : decode cX12_isLate 6 = .ok (.ifCond .ne 7, 3) := by decide +kernel
theorem dX12_isLate_9 : decode cX12_isLate 9 = .ok (.lconst 0, 1) := by decide +kernel
theorem dX12_isLate_10 : decode cX12_isLate 10 = .ok (.goto 17, 3) := by decide +kernel
theorem dX12_isLate_13 : decode cX12_isLate 13 = .ok (.aload_n 0, 1) := by decide +kernel
theorem dX12_isLate_14 : decode cX12_isLate 14 = .ok (.getfield 37, 3) := by decide +kernel
theorem dX12_isLate_17 : decode cX12_isLate 17 = .ok (.iconst 5, 1) := by decide +kernel
theorem dX12_isLate_18 : decode cX12_isLate 18 = .ok (.aload_n 0, 1) := by decide +kernel
theorem dX12_isLate_19 : decode cX12_isLate 19 = .ok (.getfield 184, 3) := by decide +kernel
theorem dX12_isLate_22 : decode cX12_isLate 22 = .ok (.imul, 1) := by decide +kernel
theorem dX12_isLate_23 : decode cX12_isLate 23 = .ok (.iconst 4, 1) := by decide +kernel
theorem dX12_isLate_24 : decode cX12_isLate 24 = .ok (.isub, 1) := by decide +kernel
theorem dX12_isLate_25 : decode cX12_isLate 25 = .ok (.iaload, 1) := by decide +kernel
theorem dX12_isLate_26 : decode cX12_isLate 26 = .ok (.i2l, 1) := by decide +kernel
theorem dX12_isLate_27 : decode cX12_isLate 27 = .ok (.ldc2_w 179, 3) := by decide +kernel
theorem dX12_isLate_30 : decode cX12_isLate 30 = .ok (.invokestatic 95, 3) := by decide +kernel
theorem dX12_isLate_33 : decode cX12_isLate 33 = .ok (.ireturn, 1) := by decide +kernel
theorem dX12_isAnyone_0 : decode cX12_isAnyone 0 = .ok (.iload_n 0, 1) := by decide +kernel
theorem dX12_isAnyone_1 : decode cX12_isAnyone 1 = .ok (.i2l, 1) := by decide +kernel
theorem dX12_isAnyone_2 : decode cX12_isAnyone 2 = .ok (.lconst 0, 1) := by decide +kernel
theorem dX12_isAnyone_3 : decode cX12_isAnyone 3 = .ok (.ldc2_w 187, 3) := by decide +kernel
theorem dX12_isAnyone_6 : decode cX12_isAnyone 6 = .ok (.invokestatic 95, 3) := by decide +kernel
theorem dX12_isAnyone_9 : decode cX12_isAnyone 9 = .ok (.ireturn, 1) := by decide +kernel
theorem dX12_tells_0 : decode cX12_tells 0 = .ok (.aload_n 0, 1) := by decide +kernel
theorem dX12_tells_1 : decode cX12_tells 1 = .ok (.getfield 184, 3) := by decide +kernel
theorem dX12_tells_4 : decode cX12_tells 4 = .ok (.bipush 24, 2) := by decide +kernel
theorem dX12_tells_6 : decode cX12_tells 6 = .ok (.if_icmp .ne 6, 3) := by decide +kernel
theorem dX12_tells_9 : decode cX12_tells 9 = .ok (.bipush (-4), 2) := by decide +kernel
theorem dX12_tells_11 : decode cX12_tells 11 = .ok (.ireturn, 1) := by decide +kernel
theorem dX12_tells_12 : decode cX12_tells 12 = .ok (.aload_n 0, 1) := by decide +kernel
theorem dX12_tells_13 : decode cX12_tells 13 = .ok (.getfield 37, 3) := by decide +kernel
theorem dX12_tells_16 : decode cX12_tells 16 = .ok (.iconst 5, 1) := by decide +kernel
theorem dX12_tells_17 : decode cX12_tells 17 = .ok (.aload_n 0, 1) := by decide +kernel
theorem dX12_tells_18 : decode cX12_tells 18 = .ok (.getfield 184, 3) := by decide +kernel
theorem dX12_tells_21 : decode cX12_tells 21 = .ok (.imul, 1) := by decide +kernel
theorem dX12_tells_22 : decode cX12_tells 22 = .ok (.iload_n 1, 1) := by decide +kernel
theorem dX12_tells_23 : decode cX12_tells 23 = .ok (.iastore, 1) := by decide +kernel
theorem dX12_tells_24 : decode cX12_tells 24 = .ok (.aload_n 0, 1) := by decide +kernel
theorem dX12_tells_25 : decode cX12_tells 25 = .ok (.getfield 37, 3) := by decide +kernel
theorem dX12_tells_28 : decode cX12_tells 28 = .ok (.iconst 5, 1) := by decide +kernel
theorem dX12_tells_29 : decode cX12_tells 29 = .ok (.aload_n 0, 1) := by decide +kernel
theorem dX12_tells_30 : decode cX12_tells 30 = .ok (.getfield 184, 3) := by decide +kernel
theorem dX12_tells_33 : decode cX12_tells 33 = .ok (.imul, 1) := by decide +kernel
theorem dX12_tells_34 : decode cX12_tells 34 = .ok (.iconst 1, 1) := by decide +kernel
theorem dX12_tells_35 : decode cX12_tells 35 = .ok (.iadd, 1) := by decide +kernel
theorem dX12_tells_36 : decode cX12_tells 36 = .ok (.iload_n 2, 1) := by decide +kernel
theorem dX12_tells_37 : decode cX12_tells 37 = .ok (.iastore, 1) := by decide +kernel
theorem dX12_tells_38 : decode cX12_tells 38 = .ok (.aload_n 0, 1) := by decide +kernel
theorem dX12_tells_39 : decode cX12_tells 39 = .ok (.getfield 37, 3) := by decide +kernel
theorem dX12_tells_42 : decode cX12_tells 42 = .ok (.iconst 5, 1) := by decide +kernel
theorem dX12_tells_43 : decode cX12_tells 43 = .ok (.aload_n 0, 1) := by decide +kernel
theorem dX12_tells_44 : decode cX12_tells 44 = .ok (.getfield 184, 3) := by decide +kernel
theorem dX12_tells_47 : decode cX12_tells 47 = .ok (.imul, 1) := by decide +kernel
theorem dX12_tells_48 : decode cX12_tells 48 = .ok (.iconst 2, 1) := by decide +kernel
theorem dX12_tells_49 : decode cX12_tells 49 = .ok (.iadd, 1) := by decide +kernel
theorem dX12_tells_50 : decode cX12_tells 50 = .ok (.iload_n 3, 1) := by decide +kernel
theorem dX12_tells_51 : decode cX12_tells 51 = .ok (.iastore, 1) := by decide +kernel
theorem dX12_tells_52 : decode cX12_tells 52 = .ok (.aload_n 0, 1) := by decide +kernel
theorem dX12_tells_53 : decode cX12_tells 53 = .ok (.getfield 37, 3) := by decide +kernel
theorem dX12_tells_56 : decode cX12_tells 56 = .ok (.iconst 5, 1) := by decide +kernel
theorem dX12_tells_57 : decode cX12_tells 57 = .ok (.aload_n 0, 1) := by decide +kernel
theorem dX12_tells_58 : decode cX12_tells 58 = .ok (.getfield 184, 3) := by decide +kernel
theorem dX12_tells_61 : decode cX12_tells 61 = .ok (.imul, 1) := by decide +kernel
theorem dX12_tells_62 : decode cX12_tells 62 = .ok (.iconst 3, 1) := by decide +kernel
theorem dX12_tells_63 : decode cX12_tells 63 = .ok (.iadd, 1) := by decide +kernel
theorem dX12_tells_64 : decode cX12_tells 64 = .ok (.iload 4, 2) := by decide +kernel
theorem dX12_tells_66 : decode cX12_tells 66 = .ok (.iastore, 1) := by decide +kernel
theorem dX12_tells_67 : decode cX12_tells 67 = .ok (.aload_n 0, 1) := by decide +kernel
theorem dX12_tells_68 : decode cX12_tells 68 = .ok (.getfield 37, 3) := by decide +kernel
theorem dX12_tells_71 : decode cX12_tells 71 = .ok (.iconst 5, 1) := by decide +kernel
theorem dX12_tells_72 : decode cX12_tells 72 = .ok (.aload_n 0, 1) := by decide +kernel
theorem dX12_tells_73 : decode cX12_tells 73 = .ok (.getfield 184, 3) := by decide +kernel
theorem dX12_tells_76 : decode cX12_tells 76 = .ok (.imul, 1) := by decide +kernel
theorem dX12_tells_77 : decode cX12_tells 77 = .ok (.iconst 4, 1) := by decide +kernel
theorem dX12_tells_78 : decode cX12_tells 78 = .ok (.iadd, 1) := by decide +kernel
theorem dX12_tells_79 : decode cX12_tells 79 = .ok (.iload 5, 2) := by decide +kernel
theorem dX12_tells_81 : decode cX12_tells 81 = .ok (.iastore, 1) := by decide +kernel
theorem dX12_tells_82 : decode cX12_tells 82 = .ok (.aload_n 0, 1) := by decide +kernel
theorem dX12_tells_83 : decode cX12_tells 83 = .ok (.dup, 1) := by decide +kernel
theorem dX12_tells_84 : decode cX12_tells 84 = .ok (.getfield 184, 3) := by decide +kernel
theorem dX12_tells_87 : decode cX12_tells 87 = .ok (.iconst 1, 1) := by decide +kernel
theorem dX12_tells_88 : decode cX12_tells 88 = .ok (.iadd, 1) := by decide +kernel
theorem dX12_tells_89 : decode cX12_tells 89 = .ok (.putfield 184, 3) := by decide +kernel
theorem dX12_tells_92 : decode cX12_tells 92 = .ok (.aload_n 0, 1) := by decide +kernel
theorem dX12_tells_93 : decode cX12_tells 93 = .ok (.getfield 184, 3) := by decide +kernel
theorem dX12_tells_96 : decode cX12_tells 96 = .ok (.ireturn, 1) := by decide +kernel
theorem dX12_wed_0 : decode cX12_wed 0 = .ok (.aload_n 0, 1) := by decide +kernel
theorem dX12_wed_1 : decode cX12_wed 1 = .ok (.iload_n 1, 1) := by decide +kernel
theorem dX12_wed_2 : decode cX12_wed 2 = .ok (.invokevirtual 189, 3) := by decide +kernel
theorem dX12_wed_5 : decode cX12_wed 5 = .ok (.ifCond .eq 38, 3) := by decide +kernel
theorem dX12_wed_8 : decode cX12_wed 8 = .ok (.iload_n 2, 1) := by decide +kernel
theorem dX12_wed_9 : decode cX12_wed 9 = .ok (.invokestatic 192, 3) := by decide +kernel
theorem dX12_wed_12 : decode cX12_wed 12 = .ok (.ifCond .eq 31, 3) := by decide +kernel
theorem dX12_wed_15 : decode cX12_wed 15 = .ok (.iload_n 3, 1) := by decide +kernel
theorem dX12_wed_16 : decode cX12_wed 16 = .ok (.invokestatic 192, 3) := by decide +kernel
theorem dX12_wed_19 : decode cX12_wed 19 = .ok (.ifCond .eq 24, 3) := by decide +kernel
theorem dX12_wed_22 : decode cX12_wed 22 = .ok (.iload 4, 2) := by decide +kernel
theorem dX12_wed_24 : decode cX12_wed 24 = .ok (.invokestatic 173, 3) := by decide +kernel
theorem dX12_wed_27 : decode cX12_wed 27 = .ok (.ifCond .eq 16, 3) := by decide +kernel
theorem dX12_wed_30 : decode cX12_wed 30 = .ok (.aload_n 0, 1) := by decide +kernel
theorem dX12_wed_31 : decode cX12_wed 31 = .ok (.iconst 0, 1) := by decide +kernel
theorem dX12_wed_32 : decode cX12_wed 32 = .ok (.iload_n 1, 1) := by decide +kernel
theorem dX12_wed_33 : decode cX12_wed 33 = .ok (.iload_n 2, 1) := by decide +kernel
theorem dX12_wed_34 : decode cX12_wed 34 = .ok (.iload_n 3, 1) := by decide +kernel
theorem dX12_wed_35 : decode cX12_wed 35 = .ok (.iload 4, 2) := by decide +kernel
theorem dX12_wed_37 : decode cX12_wed 37 = .ok (.invokevirtual 195, 3) := by decide +kernel
theorem dX12_wed_40 : decode cX12_wed 40 = .ok (.goto 5, 3) := by decide +kernel
theorem dX12_wed_43 : decode cX12_wed 43 = .ok (.bipush (-2), 2) := by decide +kernel
theorem dX12_wed_45 : decode cX12_wed 45 = .ok (.ireturn, 1) := by decide +kernel
theorem dX12_ends_0 : decode cX12_ends 0 = .ok (.aload_n 0, 1) := by decide +kernel
theorem dX12_ends_1 : decode cX12_ends 1 = .ok (.iload_n 1, 1) := by decide +kernel
theorem dX12_ends_2 : decode cX12_ends 2 = .ok (.invokevirtual 189, 3) := by decide +kernel
theorem dX12_ends_5 : decode cX12_ends 5 = .ok (.ifCond .eq 32, 3) := by decide +kernel
theorem dX12_ends_8 : decode cX12_ends 8 = .ok (.iload_n 2, 1) := by decide +kernel
theorem dX12_ends_9 : decode cX12_ends 9 = .ok (.invokestatic 124, 3) := by decide +kernel
theorem dX12_ends_12 : decode cX12_ends 12 = .ok (.ifCond .eq 25, 3) := by decide +kernel
theorem dX12_ends_15 : decode cX12_ends 15 = .ok (.iload_n 3, 1) := by decide +kernel
theorem dX12_ends_16 : decode cX12_ends 16 = .ok (.invokestatic 192, 3) := by decide +kernel
theorem dX12_ends_19 : decode cX12_ends 19 = .ok (.ifCond .eq 18, 3) := by decide +kernel
theorem dX12_ends_22 : decode cX12_ends 22 = .ok (.aload_n 0, 1) := by decide +kernel
theorem dX12_ends_23 : decode cX12_ends 23 = .ok (.iconst 1, 1) := by decide +kernel
theorem dX12_ends_24 : decode cX12_ends 24 = .ok (.iload_n 2, 1) := by decide +kernel
theorem dX12_ends_25 : decode cX12_ends 25 = .ok (.iadd, 1) := by decide +kernel
theorem dX12_ends_26 : decode cX12_ends 26 = .ok (.iload_n 1, 1) := by decide +kernel
theorem dX12_ends_27 : decode cX12_ends 27 = .ok (.iload_n 3, 1) := by decide +kernel
theorem dX12_ends_28 : decode cX12_ends 28 = .ok (.iload_n 3, 1) := by decide +kernel
theorem dX12_ends_29 : decode cX12_ends 29 = .ok (.bipush 12, 2) := by decide +kernel
theorem dX12_ends_31 : decode cX12_ends 31 = .ok (.invokevirtual 195, 3) := by decide +kernel
theorem dX12_ends_34 : decode cX12_ends 34 = .ok (.goto 5, 3) := by decide +kernel
theorem dX12_ends_37 : decode cX12_ends 37 = .ok (.bipush (-2), 2) := by decide +kernel
theorem dX12_ends_39 : decode cX12_ends 39 = .ok (.ireturn, 1) := by decide +kernel
theorem dX12_read_0 : decode cX12_read 0 = .ok (.iload_n 1, 1) := by decide +kernel
theorem dX12_read_1 : decode cX12_read 1 = .ok (.invokestatic 105, 3) := by decide +kernel
theorem dX12_read_4 : decode cX12_read 4 = .ok (.ifCond .eq 11, 3) := by decide +kernel
theorem dX12_read_7 : decode cX12_read 7 = .ok (.aload_n 0, 1) := by decide +kernel
theorem dX12_read_8 : decode cX12_read 8 = .ok (.iload_n 2, 1) := by decide +kernel
theorem dX12_read_9 : decode cX12_read 9 = .ok (.invokevirtual 189, 3) := by decide +kernel
theorem dX12_read_12 : decode cX12_read 12 = .ok (.ifCond .ne 6, 3) := by decide +kernel
theorem dX12_read_15 : decode cX12_read 15 = .ok (.bipush (-2), 2) := by decide +kernel
theorem dX12_read_17 : decode cX12_read 17 = .ok (.ireturn, 1) := by decide +kernel
theorem dX12_read_18 : decode cX12_read 18 = .ok (.aload_n 0, 1) := by decide +kernel
theorem dX12_read_19 : decode cX12_read 19 = .ok (.getfield 7, 3) := by decide +kernel
theorem dX12_read_22 : decode cX12_read 22 = .ok (.iload_n 1, 1) := by decide +kernel
theorem dX12_read_23 : decode cX12_read 23 = .ok (.iaload, 1) := by decide +kernel
theorem dX12_read_24 : decode cX12_read 24 = .ok (.ifCond .ge 9, 3) := by decide +kernel
theorem dX12_read_27 : decode cX12_read 27 = .ok (.aload_n 0, 1) := by decide +kernel
theorem dX12_read_28 : decode cX12_read 28 = .ok (.iconst 1, 1) := by decide +kernel
theorem dX12_read_29 : decode cX12_read 29 = .ok (.invokevirtual 111, 3) := by decide +kernel
theorem dX12_read_32 : decode cX12_read 32 = .ok (.ireturn, 1) := by decide +kernel
theorem dX12_read_33 : decode cX12_read 33 = .ok (.iconst 0, 1) := by decide +kernel
theorem dX12_read_34 : decode cX12_read 34 = .ok (.istore_n 3, 1) := by decide +kernel
theorem dX12_read_35 : decode cX12_read 35 = .ok (.iconst 1, 1) := by decide +kernel
theorem dX12_read_36 : decode cX12_read 36 = .ok (.istore 4, 2) := by decide +kernel
theorem dX12_read_38 : decode cX12_read 38 = .ok (.iload 4, 2) := by decide +kernel
theorem dX12_read_40 : decode cX12_read 40 = .ok (.ifCond .eq 83, 3) := by decide +kernel
theorem dX12_read_43 : decode cX12_read 43 = .ok (.iconst 3, 1) := by decide +kernel
theorem dX12_read_44 : decode cX12_read 44 = .ok (.iload_n 3, 1) := by decide +kernel
theorem dX12_read_45 : decode cX12_read 45 = .ok (.imul, 1) := by decide +kernel
theorem dX12_read_46 : decode cX12_read 46 = .ok (.iconst 3, 1) := by decide +kernel
theorem dX12_read_47 : decode cX12_read 47 = .ok (.iadd, 1) := by decide +kernel
theorem dX12_read_48 : decode cX12_read 48 = .ok (.aload_n 0, 1) := by decide +kernel
theorem dX12_read_49 : decode cX12_read 49 = .ok (.getfield 13, 3) := by decide +kernel
theorem dX12_read_52 : decode cX12_read 52 = .ok (.iload_n 1, 1) := by decide +kernel
theorem dX12_read_53 : decode cX12_read 53 = .ok (.iaload, 1) := by decide +kernel
theorem dX12_read_54 : decode cX12_read 54 = .ok (.if_icmp .gt 69, 3) := by decide +kernel
theorem dX12_read_57 : decode cX12_read 57 = .ok (.bipush 60, 2) := by decide +kernel
theorem dX12_read_59 : decode cX12_read 59 = .ok (.iload_n 1, 1) := by decide +kernel
theorem dX12_read_60 : decode cX12_read 60 = .ok (.imul, 1) := by decide +kernel
theorem dX12_read_61 : decode cX12_read 61 = .ok (.iconst 3, 1) := by decide +kernel
theorem dX12_read_62 : decode cX12_read 62 = .ok (.iload_n 3, 1) := by decide +kernel
theorem dX12_read_63 : decode cX12_read 63 = .ok (.imul, 1) := by decide +kernel
theorem dX12_read_64 : decode cX12_read 64 = .ok (.iadd, 1) := by decide +kernel
theorem dX12_read_65 : decode cX12_read 65 = .ok (.istore 5, 2) := by decide +kernel
theorem dX12_read_67 : decode cX12_read 67 = .ok (.aload_n 0, 1) := by decide +kernel
theorem dX12_read_68 : decode cX12_read 68 = .ok (.iload_n 2, 1) := by decide +kernel
theorem dX12_read_69 : decode cX12_read 69 = .ok (.aload_n 0, 1) := by decide +kernel
theorem dX12_read_70 : decode cX12_read 70 = .ok (.getfield 16, 3) := by decide +kernel
theorem dX12_read_73 : decode cX12_read 73 = .ok (.iload 5, 2) := by decide +kernel
theorem dX12_read_75 : decode cX12_read 75 = .ok (.iaload, 1) := by decide +kernel
theorem dX12_read_76 : decode cX12_read 76 = .ok (.aload_n 0, 1) := by decide +kernel
theorem dX12_read_77 : decode cX12_read 77 = .ok (.getfield 16, 3) := by decide +kernel
theorem dX12_read_80 : decode cX12_read 80 = .ok (.iload 5, 2) := by decide +kernel
theorem dX12_read_82 : decode cX12_read 82 = .ok (.iconst 1, 1) := by decide +kernel
theorem dX12_read_83 : decode cX12_read 83 = .ok (.iadd, 1) := by decide +kernel
theorem dX12_read_84 : decode cX12_read 84 = .ok (.iaload, 1) := by decide +kernel
theorem dX12_read_85 : decode cX12_read 85 = .ok (.aload_n 0, 1) := by decide +kernel
theorem dX12_read_86 : decode cX12_read 86 = .ok (.getfield 16, 3) := by decide +kernel
theorem dX12_read_89 : decode cX12_read 89 = .ok (.iload 5, 2) := by decide +kernel
theorem dX12_read_91 : decode cX12_read 91 = .ok (.iconst 2, 1) := by decide +kernel
theorem dX12_read_92 : decode cX12_read 92 = .ok (.iadd, 1) := by decide +kernel
theorem dX12_read_93 : decode cX12_read 93 = .ok (.iaload, 1) := by decide +kernel
theorem dX12_read_94 : decode cX12_read 94 = .ok (.invokevirtual 199, 3) := by decide +kernel
theorem dX12_read_97 : decode cX12_read 97 = .ok (.ifCond .lt 7, 3) := by decide +kernel
theorem dX12_read_100 : decode cX12_read 100 = .ok (.iconst 1, 1) := by decide +kernel
theorem dX12_read_101 : decode cX12_read 101 = .ok (.goto 4, 3) := by decide +kernel
theorem dX12_read_104 : decode cX12_read 104 = .ok (.iconst 0, 1) := by decide +kernel
theorem dX12_read_105 : decode cX12_read 105 = .ok (.istore 4, 2) := by decide +kernel
theorem dX12_read_107 : decode cX12_read 107 = .ok (.iload_n 3, 1) := by decide +kernel
theorem dX12_read_108 : decode cX12_read 108 = .ok (.iload 4, 2) := by decide +kernel
theorem dX12_read_110 : decode cX12_read 110 = .ok (.ifCond .eq 7, 3) := by decide +kernel
theorem dX12_read_113 : decode cX12_read 113 = .ok (.iconst 1, 1) := by decide +kernel
theorem dX12_read_114 : decode cX12_read 114 = .ok (.goto 4, 3) := by decide +kernel
theorem dX12_read_117 : decode cX12_read 117 = .ok (.iconst 0, 1) := by decide +kernel
theorem dX12_read_118 : decode cX12_read 118 = .ok (.iadd, 1) := by decide +kernel
theorem dX12_read_119 : decode cX12_read 119 = .ok (.istore_n 3, 1) := by decide +kernel
theorem dX12_read_120 : decode cX12_read 120 = .ok (.goto (-82), 3) := by decide +kernel
theorem dX12_read_123 : decode cX12_read 123 = .ok (.iload_n 3, 1) := by decide +kernel
theorem dX12_read_124 : decode cX12_read 124 = .ok (.ireturn, 1) := by decide +kernel
theorem dX12_undo_0 : decode cX12_undo 0 = .ok (.aload_n 0, 1) := by decide +kernel
theorem dX12_undo_1 : decode cX12_undo 1 = .ok (.getfield 184, 3) := by decide +kernel
theorem dX12_undo_4 : decode cX12_undo 4 = .ok (.ifCond .ne 6, 3) := by decide +kernel
theorem dX12_undo_7 : decode cX12_undo 7 = .ok (.bipush (-3), 2) := by decide +kernel
theorem dX12_undo_9 : decode cX12_undo 9 = .ok (.ireturn, 1) := by decide +kernel
theorem dX12_undo_10 : decode cX12_undo 10 = .ok (.aload_n 0, 1) := by decide +kernel
theorem dX12_undo_11 : decode cX12_undo 11 = .ok (.dup, 1) := by decide +kernel
theorem dX12_undo_12 : decode cX12_undo 12 = .ok (.getfield 184, 3) := by decide +kernel
theorem dX12_undo_15 : decode cX12_undo 15 = .ok (.iconst 1, 1) := by decide +kernel
theorem dX12_undo_16 : decode cX12_undo 16 = .ok (.isub, 1) := by decide +kernel
theorem dX12_undo_17 : decode cX12_undo 17 = .ok (.putfield 184, 3) := by decide +kernel
theorem dX12_undo_20 : decode cX12_undo 20 = .ok (.aload_n 0, 1) := by decide +kernel
theorem dX12_undo_21 : decode cX12_undo 21 = .ok (.getfield 184, 3) := by decide +kernel
theorem dX12_undo_24 : decode cX12_undo 24 = .ok (.ireturn, 1) := by decide +kernel
theorem dX12_begins_0 : decode cX12_begins 0 = .ok (.iconst 0, 1) := by decide +kernel
theorem dX12_begins_1 : decode cX12_begins 1 = .ok (.istore_n 1, 1) := by decide +kernel
theorem dX12_begins_2 : decode cX12_begins 2 = .ok (.iload_n 1, 1) := by decide +kernel
theorem dX12_begins_3 : decode cX12_begins 3 = .ok (.aload_n 0, 1) := by decide +kernel
theorem dX12_begins_4 : decode cX12_begins 4 = .ok (.getfield 138, 3) := by decide +kernel
theorem dX12_begins_7 : decode cX12_begins 7 = .ok (.if_icmp .ge 21, 3) := by decide +kernel
theorem dX12_begins_10 : decode cX12_begins 10 = .ok (.aload_n 0, 1) := by decide +kernel
theorem dX12_begins_11 : decode cX12_begins 11 = .ok (.getfield 40, 3) := by decide +kernel
theorem dX12_begins_14 : decode cX12_begins 14 = .ok (.iload_n 1, 1) := by decide +kernel
theorem dX12_begins_15 : decode cX12_begins 15 = .ok (.aload_n 0, 1) := by decide +kernel
theorem dX12_begins_16 : decode cX12_begins 16 = .ok (.getfield 28, 3) := by decide +kernel
theorem dX12_begins_19 : decode cX12_begins 19 = .ok (.iload_n 1, 1) := by decide +kernel
theorem dX12_begins_20 : decode cX12_begins 20 = .ok (.iaload, 1) := by decide +kernel
theorem dX12_begins_21 : decode cX12_begins 21 = .ok (.iastore, 1) := by decide +kernel
theorem dX12_begins_22 : decode cX12_begins 22 = .ok (.iinc 1 1, 3) := by decide +kernel
theorem dX12_begins_25 : decode cX12_begins 25 = .ok (.goto (-23), 3) := by decide +kernel
theorem dX12_begins_28 : decode cX12_begins 28 = .ok (.iconst 0, 1) := by decide +kernel
theorem dX12_begins_29 : decode cX12_begins 29 = .ok (.istore_n 1, 1) := by decide +kernel
theorem dX12_begins_30 : decode cX12_begins 30 = .ok (.iload_n 1, 1) := by decide +kernel
theorem dX12_begins_31 : decode cX12_begins 31 = .ok (.bipush 12, 2) := by decide +kernel
theorem dX12_begins_33 : decode cX12_begins 33 = .ok (.if_icmp .ge 44, 3) := by decide +kernel
theorem dX12_begins_36 : decode cX12_begins 36 = .ok (.aload_n 0, 1) := by decide +kernel
theorem dX12_begins_37 : decode cX12_begins 37 = .ok (.getfield 43, 3) := by decide +kernel
theorem dX12_begins_40 : decode cX12_begins 40 = .ok (.iload_n 1, 1) := by decide +kernel
theorem dX12_begins_41 : decode cX12_begins 41 = .ok (.iconst (-1), 1) := by decide +kernel
theorem dX12_begins_42 : decode cX12_begins 42 = .ok (.iastore, 1) := by decide +kernel
theorem dX12_begins_43 : decode cX12_begins 43 = .ok (.aload_n 0, 1) := by decide +kernel
theorem dX12_begins_44 : decode cX12_begins 44 = .ok (.getfield 46, 3) := by decide +kernel
theorem dX12_begins_47 : decode cX12_begins 47 = .ok (.iload_n 1, 1) := by decide +kernel
theorem dX12_begins_48 : decode cX12_begins 48 = .ok (.iconst 0, 1) := by decide +kernel
theorem dX12_begins_49 : decode cX12_begins 49 = .ok (.iastore, 1) := by decide +kernel
theorem dX12_begins_50 : decode cX12_begins 50 = .ok (.aload_n 0, 1) := by decide +kernel
theorem dX12_begins_51 : decode cX12_begins 51 = .ok (.getfield 49, 3) := by decide +kernel
theorem dX12_begins_54 : decode cX12_begins 54 = .ok (.iload_n 1, 1) := by decide +kernel
theorem dX12_begins_55 : decode cX12_begins 55 = .ok (.iconst (-1), 1) := by decide +kernel
theorem dX12_begins_56 : decode cX12_begins 56 = .ok (.iastore, 1) := by decide +kernel
theorem dX12_begins_57 : decode cX12_begins 57 = .ok (.aload_n 0, 1) := by decide +kernel
theorem dX12_begins_58 : decode cX12_begins 58 = .ok (.getfield 52, 3) := by decide +kernel
theorem dX12_begins_61 : decode cX12_begins 61 = .ok (.iload_n 1, 1) := by decide +kernel
theorem dX12_begins_62 : decode cX12_begins 62 = .ok (.iconst 0, 1) := by decide +kernel
theorem dX12_begins_63 : decode cX12_begins 63 = .ok (.iastore, 1) := by decide +kernel
theorem dX12_begins_64 : decode cX12_begins 64 = .ok (.aload_n 0, 1) := by decide +kernel
theorem dX12_begins_65 : decode cX12_begins 65 = .ok (.getfield 55, 3) := by decide +kernel
theorem dX12_begins_68 : decode cX12_begins 68 = .ok (.iload_n 1, 1) := by decide +kernel
theorem dX12_begins_69 : decode cX12_begins 69 = .ok (.iconst 1, 1) := by decide +kernel
theorem dX12_begins_70 : decode cX12_begins 70 = .ok (.iastore, 1) := by decide +kernel
theorem dX12_begins_71 : decode cX12_begins 71 = .ok (.iinc 1 1, 3) := by decide +kernel
theorem dX12_begins_74 : decode cX12_begins 74 = .ok (.goto (-44), 3) := by decide +kernel
theorem dX12_begins_77 : decode cX12_begins 77 = .ok (.aload_n 0, 1) := by decide +kernel
theorem dX12_begins_78 : decode cX12_begins 78 = .ok (.iconst 0, 1) := by decide +kernel
theorem dX12_begins_79 : decode cX12_begins 79 = .ok (.putfield 203, 3) := by decide +kernel
theorem dX12_begins_82 : decode cX12_begins 82 = .ok (.aload_n 0, 1) := by decide +kernel
theorem dX12_begins_83 : decode cX12_begins 83 = .ok (.iconst 0, 1) := by decide +kernel
theorem dX12_begins_84 : decode cX12_begins 84 = .ok (.putfield 206, 3) := by decide +kernel
theorem dX12_begins_87 : decode cX12_begins 87 = .ok (.aload_n 0, 1) := by decide +kernel
theorem dX12_begins_88 : decode cX12_begins 88 = .ok (.iconst (-1), 1) := by decide +kernel
theorem dX12_begins_89 : decode cX12_begins 89 = .ok (.putfield 209, 3) := by decide +kernel
theorem dX12_begins_92 : decode cX12_begins 92 = .ok (.return_, 1) := by decide +kernel
theorem dX12_isFree_0 : decode cX12_isFree 0 = .ok (.aload_n 0, 1) := by decide +kernel
theorem dX12_isFree_1 : decode cX12_isFree 1 = .ok (.getfield 55, 3) := by decide +kernel
theorem dX12_isFree_4 : decode cX12_isFree 4 = .ok (.iload_n 1, 1) := by decide +kernel
theorem dX12_isFree_5 : decode cX12_isFree 5 = .ok (.iaload, 1) := by decide +kernel
theorem dX12_isFree_6 : decode cX12_isFree 6 = .ok (.iconst 1, 1) := by decide +kernel
theorem dX12_isFree_7 : decode cX12_isFree 7 = .ok (.if_icmp .ne 17, 3) := by decide +kernel
theorem dX12_isFree_10 : decode cX12_isFree 10 = .ok (.aload_n 0, 1) := by decide +kernel
theorem dX12_isFree_11 : decode cX12_isFree 11 = .ok (.getfield 43, 3) := by decide +kernel
theorem dX12_isFree_14 : decode cX12_isFree 14 = .ok (.iload_n 1, 1) := by decide +kernel
theorem dX12_isFree_15 : decode cX12_isFree 15 = .ok (.iaload, 1) := by decide +kernel
theorem dX12_isFree_16 : decode cX12_isFree 16 = .ok (.iconst (-1), 1) := by decide +kernel
theorem dX12_isFree_17 : decode cX12_isFree 17 = .ok (.if_icmp .ne 7, 3) := by decide +kernel
theorem dX12_isFree_20 : decode cX12_isFree 20 = .ok (.iconst 1, 1) := by decide +kernel
theorem dX12_isFree_21 : decode cX12_isFree 21 = .ok (.goto 4, 3) := by decide +kernel
theorem dX12_isFree_24 : decode cX12_isFree 24 = .ok (.iconst 0, 1) := by decide +kernel
theorem dX12_isFree_25 : decode cX12_isFree 25 = .ok (.ireturn, 1) := by decide +kernel
theorem dX12_mayWed_0 : decode cX12_mayWed 0 = .ok (.iload_n 1, 1) := by decide +kernel
theorem dX12_mayWed_1 : decode cX12_mayWed 1 = .ok (.aload_n 0, 1) := by decide +kernel
theorem dX12_mayWed_2 : decode cX12_mayWed 2 = .ok (.getfield 144, 3) := by decide +kernel
theorem dX12_mayWed_5 : decode cX12_mayWed 5 = .ok (.if_icmp .ge 27, 3) := by decide +kernel
theorem dX12_mayWed_8 : decode cX12_mayWed 8 = .ok (.iload_n 2, 1) := by decide +kernel
theorem dX12_mayWed_9 : decode cX12_mayWed 9 = .ok (.aload_n 0, 1) := by decide +kernel
theorem dX12_mayWed_10 : decode cX12_mayWed 10 = .ok (.getfield 144, 3) := by decide +kernel
theorem dX12_mayWed_13 : decode cX12_mayWed 13 = .ok (.if_icmp .ge 19, 3) := by decide +kernel
theorem dX12_mayWed_16 : decode cX12_mayWed 16 = .ok (.aload_n 0, 1) := by decide +kernel
theorem dX12_mayWed_17 : decode cX12_mayWed 17 = .ok (.iload_n 1, 1) := by decide +kernel
theorem dX12_mayWed_18 : decode cX12_mayWed 18 = .ok (.invokevirtual 212, 3) := by decide +kernel
theorem dX12_mayWed_21 : decode cX12_mayWed 21 = .ok (.ifCond .eq 11, 3) := by decide +kernel
theorem dX12_mayWed_24 : decode cX12_mayWed 24 = .ok (.aload_n 0, 1) := by decide +kernel
theorem dX12_mayWed_25 : decode cX12_mayWed 25 = .ok (.iload_n 2, 1) := by decide +kernel
theorem dX12_mayWed_26 : decode cX12_mayWed 26 = .ok (.invokevirtual 212, 3) := by decide +kernel
theorem dX12_mayWed_29 : decode cX12_mayWed 29 = .ok (.ifCond .ne 5, 3) := by decide +kernel
theorem dX12_mayWed_32 : decode cX12_mayWed 32 = .ok (.iconst 0, 1) := by decide +kernel
theorem dX12_mayWed_33 : decode cX12_mayWed 33 = .ok (.ireturn, 1) := by decide +kernel
theorem dX12_mayWed_34 : decode cX12_mayWed 34 = .ok (.aload_n 0, 1) := by decide +kernel
theorem dX12_mayWed_35 : decode cX12_mayWed 35 = .ok (.getfield 31, 3) := by decide +kernel
theorem dX12_mayWed_38 : decode cX12_mayWed 38 = .ok (.iconst 4, 1) := by decide +kernel
theorem dX12_mayWed_39 : decode cX12_mayWed 39 = .ok (.iload_n 1, 1) := by decide +kernel
theorem dX12_mayWed_40 : decode cX12_mayWed 40 = .ok (.imul, 1) := by decide +kernel
theorem dX12_mayWed_41 : decode cX12_mayWed 41 = .ok (.iconst 1, 1) := by decide +kernel
theorem dX12_mayWed_42 : decode cX12_mayWed 42 = .ok (.iadd, 1) := by decide +kernel
theorem dX12_mayWed_43 : decode cX12_mayWed 43 = .ok (.iaload, 1) := by decide +kernel
theorem dX12_mayWed_44 : decode cX12_mayWed 44 = .ok (.aload_n 0, 1) := by decide +kernel
theorem dX12_mayWed_45 : decode cX12_mayWed 45 = .ok (.getfield 31, 3) := by decide +kernel
theorem dX12_mayWed_48 : decode cX12_mayWed 48 = .ok (.iconst 4, 1) := by decide +kernel
theorem dX12_mayWed_49 : decode cX12_mayWed 49 = .ok (.iload_n 2, 1) := by decide +kernel
theorem dX12_mayWed_50 : decode cX12_mayWed 50 = .ok (.imul, 1) := by decide +kernel
theorem dX12_mayWed_51 : decode cX12_mayWed 51 = .ok (.iconst 1, 1) := by decide +kernel
theorem dX12_mayWed_52 : decode cX12_mayWed 52 = .ok (.iadd, 1) := by decide +kernel
theorem dX12_mayWed_53 : decode cX12_mayWed 53 = .ok (.iaload, 1) := by decide +kernel
theorem dX12_mayWed_54 : decode cX12_mayWed 54 = .ok (.isub, 1) := by decide +kernel
theorem dX12_mayWed_55 : decode cX12_mayWed 55 = .ok (.istore_n 3, 1) := by decide +kernel
theorem dX12_mayWed_56 : decode cX12_mayWed 56 = .ok (.aload_n 0, 1) := by decide +kernel
theorem dX12_mayWed_57 : decode cX12_mayWed 57 = .ok (.getfield 31, 3) := by decide +kernel
theorem dX12_mayWed_60 : decode cX12_mayWed 60 = .ok (.iconst 4, 1) := by decide +kernel
theorem dX12_mayWed_61 : decode cX12_mayWed 61 = .ok (.iload_n 1, 1) := by decide +kernel
theorem dX12_mayWed_62 : decode cX12_mayWed 62 = .ok (.imul, 1) := by decide +kernel
theorem dX12_mayWed_63 : decode cX12_mayWed 63 = .ok (.iaload, 1) := by decide +kernel
theorem dX12_mayWed_64 : decode cX12_mayWed 64 = .ok (.aload_n 0, 1) := by decide +kernel
theorem dX12_mayWed_65 : decode cX12_mayWed 65 = .ok (.getfield 31, 3) := by decide +kernel
theorem dX12_mayWed_68 : decode cX12_mayWed 68 = .ok (.iconst 4, 1) := by decide +kernel
theorem dX12_mayWed_69 : decode cX12_mayWed 69 = .ok (.iload_n 2, 1) := by decide +kernel
theorem dX12_mayWed_70 : decode cX12_mayWed 70 = .ok (.imul, 1) := by decide +kernel
theorem dX12_mayWed_71 : decode cX12_mayWed 71 = .ok (.iaload, 1) := by decide +kernel
theorem dX12_mayWed_72 : decode cX12_mayWed 72 = .ok (.if_icmp .eq 17, 3) := by decide +kernel
theorem dX12_mayWed_75 : decode cX12_mayWed 75 = .ok (.iload_n 3, 1) := by decide +kernel
theorem dX12_mayWed_76 : decode cX12_mayWed 76 = .ok (.iconst 1, 1) := by decide +kernel
theorem dX12_mayWed_77 : decode cX12_mayWed 77 = .ok (.if_icmp .eq 8, 3) := by decide +kernel
theorem dX12_mayWed_80 : decode cX12_mayWed 80 = .ok (.iload_n 3, 1) := by decide +kernel
theorem dX12_mayWed_81 : decode cX12_mayWed 81 = .ok (.iconst (-1), 1) := by decide +kernel
theorem dX12_mayWed_82 : decode cX12_mayWed 82 = .ok (.if_icmp .ne 7, 3) := by decide +kernel
theorem dX12_mayWed_85 : decode cX12_mayWed 85 = .ok (.iconst 1, 1) := by decide +kernel
theorem dX12_mayWed_86 : decode cX12_mayWed 86 = .ok (.goto 4, 3) := by decide +kernel
theorem dX12_mayWed_89 : decode cX12_mayWed 89 = .ok (.iconst 0, 1) := by decide +kernel
theorem dX12_mayWed_90 : decode cX12_mayWed 90 = .ok (.ireturn, 1) := by decide +kernel
theorem dX12_isLawful_0 : decode cX12_isLawful 0 = .ok (.aload_n 0, 1) := by decide +kernel
theorem dX12_isLawful_1 : decode cX12_isLawful 1 = .ok (.getfield 37, 3) := by decide +kernel
theorem dX12_isLawful_4 : decode cX12_isLawful 4 = .ok (.iconst 5, 1) := by decide +kernel
theorem dX12_isLawful_5 : decode cX12_isLawful 5 = .ok (.iload_n 1, 1) := by decide +kernel
theorem dX12_isLawful_6 : decode cX12_isLawful 6 = .ok (.imul, 1) := by decide +kernel
theorem dX12_isLawful_7 : decode cX12_isLawful 7 = .ok (.iconst 2, 1) := by decide +kernel
theorem dX12_isLawful_8 : decode cX12_isLawful 8 = .ok (.iadd, 1) := by decide +kernel
theorem dX12_isLawful_9 : decode cX12_isLawful 9 = .ok (.iaload, 1) := by decide +kernel
theorem dX12_isLawful_10 : decode cX12_isLawful 10 = .ok (.istore_n 2, 1) := by decide +kernel
theorem dX12_isLawful_11 : decode cX12_isLawful 11 = .ok (.aload_n 0, 1) := by decide +kernel
theorem dX12_isLawful_12 : decode cX12_isLawful 12 = .ok (.getfield 37, 3) := by decide +kernel
theorem dX12_isLawful_15 : decode cX12_isLawful 15 = .ok (.iconst 5, 1) := by decide +kernel
theorem dX12_isLawful_16 : decode cX12_isLawful 16 = .ok (.iload_n 1, 1) := by decide +kernel
theorem dX12_isLawful_17 : decode cX12_isLawful 17 = .ok (.imul, 1) := by decide +kernel
theorem dX12_isLawful_18 : decode cX12_isLawful 18 = .ok (.iaload, 1) := by decide +kernel
theorem dX12_isLawful_19 : decode cX12_isLawful 19 = .ok (.ifCond .ne 19, 3) := by decide +kernel
theorem dX12_isLawful_22 : decode cX12_isLawful 22 = .ok (.aload_n 0, 1) := by decide +kernel
theorem dX12_isLawful_23 : decode cX12_isLawful 23 = .ok (.iload_n 2, 1) := by decide +kernel
theorem dX12_isLawful_24 : decode cX12_isLawful 24 = .ok (.aload_n 0, 1) := by decide +kernel
theorem dX12_isLawful_25 : decode cX12_isLawful 25 = .ok (.getfield 37, 3) := by decide +kernel
theorem dX12_isLawful_28 : decode cX12_isLawful 28 = .ok (.iconst 5, 1) := by decide +kernel
theorem dX12_isLawful_29 : decode cX12_isLawful 29 = .ok (.iload_n 1, 1) := by decide +kernel
theorem dX12_isLawful_30 : decode cX12_isLawful 30 = .ok (.imul, 1) := by decide +kernel
theorem dX12_isLawful_31 : decode cX12_isLawful 31 = .ok (.iconst 3, 1) := by decide +kernel
theorem dX12_isLawful_32 : decode cX12_isLawful 32 = .ok (.iadd, 1) := by decide +kernel
theorem dX12_isLawful_33 : decode cX12_isLawful 33 = .ok (.iaload, 1) := by decide +kernel
theorem dX12_isLawful_34 : decode cX12_isLawful 34 = .ok (.invokevirtual 215, 3) := by decide +kernel
theorem dX12_isLawful_37 : decode cX12_isLawful 37 = .ok (.ireturn, 1) := by decide +kernel
theorem dX12_isLawful_38 : decode cX12_isLawful 38 = .ok (.iload_n 2, 1) := by decide +kernel
theorem dX12_isLawful_39 : decode cX12_isLawful 39 = .ok (.aload_n 0, 1) := by decide +kernel
theorem dX12_isLawful_40 : decode cX12_isLawful 40 = .ok (.getfield 144, 3) := by decide +kernel
theorem dX12_isLawful_43 : decode cX12_isLawful 43 = .ok (.if_icmp .ge 42, 3) := by decide +kernel
theorem dX12_isLawful_46 : decode cX12_isLawful 46 = .ok (.aload_n 0, 1) := by decide +kernel
theorem dX12_isLawful_47 : decode cX12_isLawful 47 = .ok (.getfield 37, 3) := by decide +kernel
theorem dX12_isLawful_50 : decode cX12_isLawful 50 = .ok (.iconst 5, 1) := by decide +kernel
theorem dX12_isLawful_51 : decode cX12_isLawful 51 = .ok (.iload_n 1, 1) := by decide +kernel
theorem dX12_isLawful_52 : decode cX12_isLawful 52 = .ok (.imul, 1) := by decide +kernel
theorem dX12_isLawful_53 : decode cX12_isLawful 53 = .ok (.iaload, 1) := by decide +kernel
theorem dX12_isLawful_54 : decode cX12_isLawful 54 = .ok (.iconst 1, 1) := by decide +kernel
theorem dX12_isLawful_55 : decode cX12_isLawful 55 = .ok (.if_icmp .ne 16, 3) := by decide +kernel
theorem dX12_isLawful_58 : decode cX12_isLawful 58 = .ok (.aload_n 0, 1) := by decide +kernel
theorem dX12_isLawful_59 : decode cX12_isLawful 59 = .ok (.getfield 43, 3) := by decide +kernel
theorem dX12_isLawful_62 : decode cX12_isLawful 62 = .ok (.iload_n 2, 1) := by decide +kernel
theorem dX12_isLawful_63 : decode cX12_isLawful 63 = .ok (.iaload, 1) := by decide +kernel
theorem dX12_isLawful_64 : decode cX12_isLawful 64 = .ok (.iconst (-1), 1) := by decide +kernel
theorem dX12_isLawful_65 : decode cX12_isLawful 65 = .ok (.if_icmp .eq 20, 3) := by decide +kernel
theorem dX12_isLawful_68 : decode cX12_isLawful 68 = .ok (.goto 13, 3) := by decide +kernel
theorem dX12_isLawful_71 : decode cX12_isLawful 71 = .ok (.aload_n 0, 1) := by decide +kernel
theorem dX12_isLawful_72 : decode cX12_isLawful 72 = .ok (.getfield 55, 3) := by decide +kernel
theorem dX12_isLawful_75 : decode cX12_isLawful 75 = .ok (.iload_n 2, 1) := by decide +kernel
theorem dX12_isLawful_76 : decode cX12_isLawful 76 = .ok (.iaload, 1) := by decide +kernel
theorem dX12_isLawful_77 : decode cX12_isLawful 77 = .ok (.iconst 1, 1) := by decide +kernel
theorem dX12_isLawful_78 : decode cX12_isLawful 78 = .ok (.if_icmp .ne 7, 3) := by decide +kernel
theorem dX12_isLawful_81 : decode cX12_isLawful 81 = .ok (.iconst 1, 1) := by decide +kernel
theorem dX12_isLawful_82 : decode cX12_isLawful 82 = .ok (.goto 4, 3) := by decide +kernel
theorem dX12_isLawful_85 : decode cX12_isLawful 85 = .ok (.iconst 0, 1) := by decide +kernel
theorem dX12_isLawful_86 : decode cX12_isLawful 86 = .ok (.ireturn, 1) := by decide +kernel
theorem dX12_takes_0 : decode cX12_takes 0 = .ok (.aload_n 0, 1) := by decide +kernel
theorem dX12_takes_1 : decode cX12_takes 1 = .ok (.getfield 40, 3) := by decide +kernel
theorem dX12_takes_4 : decode cX12_takes 4 = .ok (.iload_n 1, 1) := by decide +kernel
theorem dX12_takes_5 : decode cX12_takes 5 = .ok (.iaload, 1) := by decide +kernel
theorem dX12_takes_6 : decode cX12_takes 6 = .ok (.iload_n 2, 1) := by decide +kernel
theorem dX12_takes_7 : decode cX12_takes 7 = .ok (.if_icmp .ge 12, 3) := by decide +kernel
theorem dX12_takes_10 : decode cX12_takes 10 = .ok (.aload_n 0, 1) := by decide +kernel
theorem dX12_takes_11 : decode cX12_takes 11 = .ok (.getfield 40, 3) := by decide +kernel
theorem dX12_takes_14 : decode cX12_takes 14 = .ok (.iload_n 1, 1) := by decide +kernel
theorem dX12_takes_15 : decode cX12_takes 15 = .ok (.iaload, 1) := by decide +kernel
theorem dX12_takes_16 : decode cX12_takes 16 = .ok (.goto 4, 3) := by decide +kernel
theorem dX12_takes_19 : decode cX12_takes 19 = .ok (.iload_n 2, 1) := by decide +kernel
theorem dX12_takes_20 : decode cX12_takes 20 = .ok (.istore_n 3, 1) := by decide +kernel
theorem dX12_takes_21 : decode cX12_takes 21 = .ok (.aload_n 0, 1) := by decide +kernel
theorem dX12_takes_22 : decode cX12_takes 22 = .ok (.getfield 40, 3) := by decide +kernel
theorem dX12_takes_25 : decode cX12_takes 25 = .ok (.iload_n 1, 1) := by decide +kernel
theorem dX12_takes_26 : decode cX12_takes 26 = .ok (.dup2, 1) := by decide +kernel
theorem dX12_takes_27 : decode cX12_takes 27 = .ok (.iaload, 1) := by decide +kernel
theorem dX12_takes_28 : decode cX12_takes 28 = .ok (.iload_n 3, 1) := by decide +kernel
theorem dX12_takes_29 : decode cX12_takes 29 = .ok (.isub, 1) := by decide +kernel
theorem dX12_takes_30 : decode cX12_takes 30 = .ok (.iastore, 1) := by decide +kernel
theorem dX12_takes_31 : decode cX12_takes 31 = .ok (.iload_n 3, 1) := by decide +kernel
theorem dX12_takes_32 : decode cX12_takes 32 = .ok (.ireturn, 1) := by decide +kernel
theorem dX12_weds_0 : decode cX12_weds 0 = .ok (.aload_n 0, 1) := by decide +kernel
theorem dX12_weds_1 : decode cX12_weds 1 = .ok (.getfield 37, 3) := by decide +kernel
theorem dX12_weds_4 : decode cX12_weds 4 = .ok (.iconst 5, 1) := by decide +kernel
theorem dX12_weds_5 : decode cX12_weds 5 = .ok (.iload_n 1, 1) := by decide +kernel
theorem dX12_weds_6 : decode cX12_weds 6 = .ok (.imul, 1) := by decide +kernel
theorem dX12_weds_7 : decode cX12_weds 7 = .ok (.iconst 2, 1) := by decide +kernel
theorem dX12_weds_8 : decode cX12_weds 8 = .ok (.iadd, 1) := by decide +kernel
theorem dX12_weds_9 : decode cX12_weds 9 = .ok (.iaload, 1) := by decide +kernel
theorem dX12_weds_10 : decode cX12_weds 10 = .ok (.istore_n 2, 1) := by decide +kernel
theorem dX12_weds_11 : decode cX12_weds 11 = .ok (.aload_n 0, 1) := by decide +kernel
theorem dX12_weds_12 : decode cX12_weds 12 = .ok (.getfield 37, 3) := by decide +kernel
theorem dX12_weds_15 : decode cX12_weds 15 = .ok (.iconst 5, 1) := by decide +kernel
theorem dX12_weds_16 : decode cX12_weds 16 = .ok (.iload_n 1, 1) := by decide +kernel
theorem dX12_weds_17 : decode cX12_weds 17 = .ok (.imul, 1) := by decide +kernel
theorem dX12_weds_18 : decode cX12_weds 18 = .ok (.iconst 3, 1) := by decide +kernel
theorem dX12_weds_19 : decode cX12_weds 19 = .ok (.iadd, 1) := by decide +kernel
theorem dX12_weds_20 : decode cX12_weds 20 = .ok (.iaload, 1) := by decide +kernel
theorem dX12_weds_21 : decode cX12_weds 21 = .ok (.istore_n 3, 1) := by decide +kernel
theorem dX12_weds_22 : decode cX12_weds 22 = .ok (.aload_n 0, 1) := by decide +kernel
theorem dX12_weds_23 : decode cX12_weds 23 = .ok (.getfield 34, 3) := by decide +kernel
theorem dX12_weds_26 : decode cX12_weds 26 = .ok (.aload_n 0, 1) := by decide +kernel
theorem dX12_weds_27 : decode cX12_weds 27 = .ok (.getfield 37, 3) := by decide +kernel
theorem dX12_weds_30 : decode cX12_weds 30 = .ok (.iconst 5, 1) := by decide +kernel
theorem dX12_weds_31 : decode cX12_weds 31 = .ok (.iload_n 1, 1) := by decide +kernel
theorem dX12_weds_32 : decode cX12_weds 32 = .ok (.imul, 1) := by decide +kernel
theorem dX12_weds_33 : decode cX12_weds 33 = .ok (.iconst 1, 1) := by decide +kernel
theorem dX12_weds_34 : decode cX12_weds 34 = .ok (.iadd, 1) := by decide +kernel
theorem dX12_weds_35 : decode cX12_weds 35 = .ok (.iaload, 1) := by decide +kernel
theorem dX12_weds_36 : decode cX12_weds 36 = .ok (.iaload, 1) := by decide +kernel
theorem dX12_weds_37 : decode cX12_weds 37 = .ok (.iconst 1, 1) := by decide +kernel
theorem dX12_weds_38 : decode cX12_weds 38 = .ok (.if_icmp .ne 7, 3) := by decide +kernel
theorem dX12_weds_41 : decode cX12_weds 41 = .ok (.iconst 1, 1) := by decide +kernel
theorem dX12_weds_42 : decode cX12_weds 42 = .ok (.goto 4, 3) := by decide +kernel
theorem dX12_weds_45 : decode cX12_weds 45 = .ok (.iconst 0, 1) := by decide +kernel
theorem dX12_weds_46 : decode cX12_weds 46 = .ok (.istore 4, 2) := by decide +kernel
theorem dX12_weds_48 : decode cX12_weds 48 = .ok (.iload 4, 2) := by decide +kernel
theorem dX12_weds_50 : decode cX12_weds 50 = .ok (.ifCond .eq 7, 3) := by decide +kernel
theorem dX12_weds_53 : decode cX12_weds 53 = .ok (.iconst 0, 1) := by decide +kernel
theorem dX12_weds_54 : decode cX12_weds 54 = .ok (.goto 34, 3) := by decide +kernel
theorem dX12_weds_57 : decode cX12_weds 57 = .ok (.aload_n 0, 1) := by decide +kernel
theorem dX12_weds_58 : decode cX12_weds 58 = .ok (.iload_n 2, 1) := by decide +kernel
theorem dX12_weds_59 : decode cX12_weds 59 = .ok (.aload_n 0, 1) := by decide +kernel
theorem dX12_weds_60 : decode cX12_weds 60 = .ok (.getfield 37, 3) := by decide +kernel
theorem dX12_weds_63 : decode cX12_weds 63 = .ok (.iconst 5, 1) := by decide +kernel
theorem dX12_weds_64 : decode cX12_weds 64 = .ok (.iload_n 1, 1) := by decide +kernel
theorem dX12_weds_65 : decode cX12_weds 65 = .ok (.imul, 1) := by decide +kernel
theorem dX12_weds_66 : decode cX12_weds 66 = .ok (.iconst 4, 1) := by decide +kernel
theorem dX12_weds_67 : decode cX12_weds 67 = .ok (.iadd, 1) := by decide +kernel
theorem dX12_weds_68 : decode cX12_weds 68 = .ok (.iaload, 1) := by decide +kernel
theorem dX12_weds_69 : decode cX12_weds 69 = .ok (.invokevirtual 176, 3) := by decide +kernel
theorem dX12_weds_72 : decode cX12_weds 72 = .ok (.aload_n 0, 1) := by decide +kernel
theorem dX12_weds_73 : decode cX12_weds 73 = .ok (.iload_n 3, 1) := by decide +kernel
theorem dX12_weds_74 : decode cX12_weds 74 = .ok (.aload_n 0, 1) := by decide +kernel
theorem dX12_weds_75 : decode cX12_weds 75 = .ok (.getfield 37, 3) := by decide +kernel
theorem dX12_weds_78 : decode cX12_weds 78 = .ok (.iconst 5, 1) := by decide +kernel
theorem dX12_weds_79 : decode cX12_weds 79 = .ok (.iload_n 1, 1) := by decide +kernel
theorem dX12_weds_80 : decode cX12_weds 80 = .ok (.imul, 1) := by decide +kernel
theorem dX12_weds_81 : decode cX12_weds 81 = .ok (.iconst 4, 1) := by decide +kernel
theorem dX12_weds_82 : decode cX12_weds 82 = .ok (.iadd, 1) := by decide +kernel
theorem dX12_weds_83 : decode cX12_weds 83 = .ok (.iaload, 1) := by decide +kernel
theorem dX12_weds_84 : decode cX12_weds 84 = .ok (.invokevirtual 176, 3) := by decide +kernel
theorem dX12_weds_87 : decode cX12_weds 87 = .ok (.isub, 1) := by decide +kernel
theorem dX12_weds_88 : decode cX12_weds 88 = .ok (.istore 5, 2) := by decide +kernel
theorem dX12_weds_90 : decode cX12_weds 90 = .ok (.iload 5, 2) := by decide +kernel
theorem dX12_weds_92 : decode cX12_weds 92 = .ok (.ifCond .le 16, 3) := by decide +kernel
theorem dX12_weds_95 : decode cX12_weds 95 = .ok (.aload_n 0, 1) := by decide +kernel
theorem dX12_weds_96 : decode cX12_weds 96 = .ok (.getfield 31, 3) := by decide +kernel
theorem dX12_weds_99 : decode cX12_weds 99 = .ok (.iconst 4, 1) := by decide +kernel
theorem dX12_weds_100 : decode cX12_weds 100 = .ok (.iload_n 2, 1) := by decide +kernel
theorem dX12_weds_101 : decode cX12_weds 101 = .ok (.imul, 1) := by decide +kernel
theorem dX12_weds_102 : decode cX12_weds 102 = .ok (.iconst 1, 1) := by decide +kernel
theorem dX12_weds_103 : decode cX12_weds 103 = .ok (.iadd, 1) := by decide +kernel
theorem dX12_weds_104 : decode cX12_weds 104 = .ok (.iaload, 1) := by decide +kernel
theorem dX12_weds_105 : decode cX12_weds 105 = .ok (.goto 22, 3) := by decide +kernel
theorem dX12_weds_108 : decode cX12_weds 108 = .ok (.iload 5, 2) := by decide +kernel
theorem dX12_weds_110 : decode cX12_weds 110 = .ok (.ifCond .ge 16, 3) := by decide +kernel
theorem dX12_weds_113 : decode cX12_weds 113 = .ok (.aload_n 0, 1) := by decide +kernel
theorem dX12_weds_114 : decode cX12_weds 114 = .ok (.getfield 31, 3) := by decide +kernel
theorem dX12_weds_117 : decode cX12_weds 117 = .ok (.iconst 4, 1) := by decide +kernel
theorem dX12_weds_118 : decode cX12_weds 118 = .ok (.iload_n 3, 1) := by decide +kernel
theorem dX12_weds_119 : decode cX12_weds 119 = .ok (.imul, 1) := by decide +kernel
theorem dX12_weds_120 : decode cX12_weds 120 = .ok (.iconst 1, 1) := by decide +kernel
theorem dX12_weds_121 : decode cX12_weds 121 = .ok (.iadd, 1) := by decide +kernel
theorem dX12_weds_122 : decode cX12_weds 122 = .ok (.iaload, 1) := by decide +kernel
theorem dX12_weds_123 : decode cX12_weds 123 = .ok (.goto 4, 3) := by decide +kernel
theorem dX12_weds_126 : decode cX12_weds 126 = .ok (.iconst (-1), 1) := by decide +kernel
theorem dX12_weds_127 : decode cX12_weds 127 = .ok (.istore 6, 2) := by decide +kernel
theorem dX12_weds_129 : decode cX12_weds 129 = .ok (.iload 5, 2) := by decide +kernel
theorem dX12_weds_131 : decode cX12_weds 131 = .ok (.ifCond .le 16, 3) := by decide +kernel
theorem dX12_weds_134 : decode cX12_weds 134 = .ok (.aload_n 0, 1) := by decide +kernel
theorem dX12_weds_135 : decode cX12_weds 135 = .ok (.getfield 31, 3) := by decide +kernel
theorem dX12_weds_138 : decode cX12_weds 138 = .ok (.iconst 4, 1) := by decide +kernel
theorem dX12_weds_139 : decode cX12_weds 139 = .ok (.iload_n 3, 1) := by decide +kernel
theorem dX12_weds_140 : decode cX12_weds 140 = .ok (.imul, 1) := by decide +kernel
theorem dX12_weds_141 : decode cX12_weds 141 = .ok (.iconst 1, 1) := by decide +kernel
theorem dX12_weds_142 : decode cX12_weds 142 = .ok (.iadd, 1) := by decide +kernel
theorem dX12_weds_143 : decode cX12_weds 143 = .ok (.iaload, 1) := by decide +kernel
theorem dX12_weds_144 : decode cX12_weds 144 = .ok (.goto 13, 3) := by decide +kernel
theorem dX12_weds_147 : decode cX12_weds 147 = .ok (.aload_n 0, 1) := by decide +kernel
theorem dX12_weds_148 : decode cX12_weds 148 = .ok (.getfield 31, 3) := by decide +kernel
theorem dX12_weds_151 : decode cX12_weds 151 = .ok (.iconst 4, 1) := by decide +kernel
theorem dX12_weds_152 : decode cX12_weds 152 = .ok (.iload_n 2, 1) := by decide +kernel
theorem dX12_weds_153 : decode cX12_weds 153 = .ok (.imul, 1) := by decide +kernel
theorem dX12_weds_154 : decode cX12_weds 154 = .ok (.iconst 1, 1) := by decide +kernel
theorem dX12_weds_155 : decode cX12_weds 155 = .ok (.iadd, 1) := by decide +kernel
theorem dX12_weds_156 : decode cX12_weds 156 = .ok (.iaload, 1) := by decide +kernel
theorem dX12_weds_157 : decode cX12_weds 157 = .ok (.istore 7, 2) := by decide +kernel
theorem dX12_weds_159 : decode cX12_weds 159 = .ok (.iload 6, 2) := by decide +kernel
theorem dX12_weds_161 : decode cX12_weds 161 = .ok (.iconst (-1), 1) := by decide +kernel
theorem dX12_weds_162 : decode cX12_weds 162 = .ok (.if_icmp .ne 7, 3) := by decide +kernel
theorem dX12_weds_165 : decode cX12_weds 165 = .ok (.iconst 0, 1) := by decide +kernel
theorem dX12_weds_166 : decode cX12_weds 166 = .ok (.goto 22, 3) := by decide +kernel
theorem dX12_weds_169 : decode cX12_weds 169 = .ok (.aload_n 0, 1) := by decide +kernel
theorem dX12_weds_170 : decode cX12_weds 170 = .ok (.iload 7, 2) := by decide +kernel
theorem dX12_weds_172 : decode cX12_weds 172 = .ok (.iload 5, 2) := by decide +kernel
theorem dX12_weds_174 : decode cX12_weds 174 = .ok (.ifCond .ge 9, 3) := by decide +kernel
theorem dX12_weds_177 : decode cX12_weds 177 = .ok (.iload 5, 2) := by decide +kernel
theorem dX12_weds_179 : decode cX12_weds 179 = .ok (.ineg, 1) := by decide +kernel
theorem dX12_weds_180 : decode cX12_weds 180 = .ok (.goto 5, 3) := by decide +kernel
theorem dX12_weds_183 : decode cX12_weds 183 = .ok (.iload 5, 2) := by decide +kernel
theorem dX12_weds_185 : decode cX12_weds 185 = .ok (.invokevirtual 219, 3) := by decide +kernel
theorem dX12_weds_188 : decode cX12_weds 188 = .ok (.istore 8, 2) := by decide +kernel
theorem dX12_weds_190 : decode cX12_weds 190 = .ok (.iload 6, 2) := by decide +kernel
theorem dX12_weds_192 : decode cX12_weds 192 = .ok (.iconst (-1), 1) := by decide +kernel
theorem dX12_weds_193 : decode cX12_weds 193 = .ok (.if_icmp .eq 36, 3) := by decide +kernel
theorem dX12_weds_196 : decode cX12_weds 196 = .ok (.aload_n 0, 1) := by decide +kernel
theorem dX12_weds_197 : decode cX12_weds 197 = .ok (.getfield 40, 3) := by decide +kernel
theorem dX12_weds_200 : decode cX12_weds 200 = .ok (.iload 6, 2) := by decide +kernel
theorem dX12_weds_202 : decode cX12_weds 202 = .ok (.dup2, 1) := by decide +kernel
theorem dX12_weds_203 : decode cX12_weds 203 = .ok (.iaload, 1) := by decide +kernel
theorem dX12_weds_204 : decode cX12_weds 204 = .ok (.iload 8, 2) := by decide +kernel
theorem dX12_weds_206 : decode cX12_weds 206 = .ok (.iadd, 1) := by decide +kernel
theorem dX12_weds_207 : decode cX12_weds 207 = .ok (.iastore, 1) := by decide +kernel
theorem dX12_weds_208 : decode cX12_weds 208 = .ok (.aload_n 0, 1) := by decide +kernel
theorem dX12_weds_209 : decode cX12_weds 209 = .ok (.getfield 58, 3) := by decide +kernel
theorem dX12_weds_212 : decode cX12_weds 212 = .ok (.iload_n 1, 1) := by decide +kernel
theorem dX12_weds_213 : decode cX12_weds 213 = .ok (.iload 6, 2) := by decide +kernel
theorem dX12_weds_215 : decode cX12_weds 215 = .ok (.iload 7, 2) := by decide +kernel
theorem dX12_weds_217 : decode cX12_weds 217 = .ok (.if_icmp .ge 8, 3) := by decide +kernel
theorem dX12_weds_220 : decode cX12_weds 220 = .ok (.iload 8, 2) := by decide +kernel
theorem dX12_weds_222 : decode cX12_weds 222 = .ok (.goto 6, 3) := by decide +kernel
theorem dX12_weds_225 : decode cX12_weds 225 = .ok (.iload 8, 2) := by decide +kernel
theorem dX12_weds_227 : decode cX12_weds 227 = .ok (.ineg, 1) := by decide +kernel
theorem dX12_weds_228 : decode cX12_weds 228 = .ok (.iastore, 1) := by decide +kernel
theorem dX12_weds_229 : decode cX12_weds 229 = .ok (.aload_n 0, 1) := by decide +kernel
theorem dX12_weds_230 : decode cX12_weds 230 = .ok (.getfield 43, 3) := by decide +kernel
theorem dX12_weds_233 : decode cX12_weds 233 = .ok (.iload_n 2, 1) := by decide +kernel
theorem dX12_weds_234 : decode cX12_weds 234 = .ok (.iload_n 3, 1) := by decide +kernel
theorem dX12_weds_235 : decode cX12_weds 235 = .ok (.iastore, 1) := by decide +kernel
theorem dX12_weds_236 : decode cX12_weds 236 = .ok (.aload_n 0, 1) := by decide +kernel
theorem dX12_weds_237 : decode cX12_weds 237 = .ok (.getfield 43, 3) := by decide +kernel
theorem dX12_weds_240 : decode cX12_weds 240 = .ok (.iload_n 3, 1) := by decide +kernel
theorem dX12_weds_241 : decode cX12_weds 241 = .ok (.iload_n 2, 1) := by decide +kernel
theorem dX12_weds_242 : decode cX12_weds 242 = .ok (.iastore, 1) := by decide +kernel
theorem dX12_weds_243 : decode cX12_weds 243 = .ok (.aload_n 0, 1) := by decide +kernel
theorem dX12_weds_244 : decode cX12_weds 244 = .ok (.getfield 46, 3) := by decide +kernel
theorem dX12_weds_247 : decode cX12_weds 247 = .ok (.iload_n 2, 1) := by decide +kernel
theorem dX12_weds_248 : decode cX12_weds 248 = .ok (.iload 8, 2) := by decide +kernel
theorem dX12_weds_250 : decode cX12_weds 250 = .ok (.iastore, 1) := by decide +kernel
theorem dX12_weds_251 : decode cX12_weds 251 = .ok (.aload_n 0, 1) := by decide +kernel
theorem dX12_weds_252 : decode cX12_weds 252 = .ok (.getfield 46, 3) := by decide +kernel
theorem dX12_weds_255 : decode cX12_weds 255 = .ok (.iload_n 3, 1) := by decide +kernel
theorem dX12_weds_256 : decode cX12_weds 256 = .ok (.iload 8, 2) := by decide +kernel
theorem dX12_weds_258 : decode cX12_weds 258 = .ok (.iastore, 1) := by decide +kernel
theorem dX12_weds_259 : decode cX12_weds 259 = .ok (.aload_n 0, 1) := by decide +kernel
theorem dX12_weds_260 : decode cX12_weds 260 = .ok (.getfield 49, 3) := by decide +kernel
theorem dX12_weds_263 : decode cX12_weds 263 = .ok (.iload_n 2, 1) := by decide +kernel
theorem dX12_weds_264 : decode cX12_weds 264 = .ok (.iload 6, 2) := by decide +kernel
theorem dX12_weds_266 : decode cX12_weds 266 = .ok (.iastore, 1) := by decide +kernel
theorem dX12_weds_267 : decode cX12_weds 267 = .ok (.aload_n 0, 1) := by decide +kernel
theorem dX12_weds_268 : decode cX12_weds 268 = .ok (.getfield 49, 3) := by decide +kernel
theorem dX12_weds_271 : decode cX12_weds 271 = .ok (.iload_n 3, 1) := by decide +kernel
theorem dX12_weds_272 : decode cX12_weds 272 = .ok (.iload 6, 2) := by decide +kernel
theorem dX12_weds_274 : decode cX12_weds 274 = .ok (.iastore, 1) := by decide +kernel
theorem dX12_weds_275 : decode cX12_weds 275 = .ok (.return_, 1) := by decide +kernel
theorem dX12_parts_0 : decode cX12_parts 0 = .ok (.aload_n 0, 1) := by decide +kernel
theorem dX12_parts_1 : decode cX12_parts 1 = .ok (.getfield 43, 3) := by decide +kernel
theorem dX12_parts_4 : decode cX12_parts 4 = .ok (.iload_n 1, 1) := by decide +kernel
theorem dX12_parts_5 : decode cX12_parts 5 = .ok (.iaload, 1) := by decide +kernel
theorem dX12_parts_6 : decode cX12_parts 6 = .ok (.istore_n 2, 1) := by decide +kernel
theorem dX12_parts_7 : decode cX12_parts 7 = .ok (.aload_n 0, 1) := by decide +kernel
theorem dX12_parts_8 : decode cX12_parts 8 = .ok (.getfield 49, 3) := by decide +kernel
theorem dX12_parts_11 : decode cX12_parts 11 = .ok (.iload_n 1, 1) := by decide +kernel
theorem dX12_parts_12 : decode cX12_parts 12 = .ok (.iaload, 1) := by decide +kernel
theorem dX12_parts_13 : decode cX12_parts 13 = .ok (.iconst (-1), 1) := by decide +kernel
theorem dX12_parts_14 : decode cX12_parts 14 = .ok (.if_icmp .ne 7, 3) := by decide +kernel
theorem dX12_parts_17 : decode cX12_parts 17 = .ok (.iconst 0, 1) := by decide +kernel
theorem dX12_parts_18 : decode cX12_parts 18 = .ok (.goto 19, 3) := by decide +kernel
theorem dX12_parts_21 : decode cX12_parts 21 = .ok (.aload_n 0, 1) := by decide +kernel
theorem dX12_parts_22 : decode cX12_parts 22 = .ok (.aload_n 0, 1) := by decide +kernel
theorem dX12_parts_23 : decode cX12_parts 23 = .ok (.getfield 49, 3) := by decide +kernel
theorem dX12_parts_26 : decode cX12_parts 26 = .ok (.iload_n 1, 1) := by decide +kernel
theorem dX12_parts_27 : decode cX12_parts 27 = .ok (.iaload, 1) := by decide +kernel
theorem dX12_parts_28 : decode cX12_parts 28 = .ok (.aload_n 0, 1) := by decide +kernel
theorem dX12_parts_29 : decode cX12_parts 29 = .ok (.getfield 46, 3) := by decide +kernel
theorem dX12_parts_32 : decode cX12_parts 32 = .ok (.iload_n 1, 1) := by decide +kernel
theorem dX12_parts_33 : decode cX12_parts 33 = .ok (.iaload, 1) := by decide +kernel
theorem dX12_parts_34 : decode cX12_parts 34 = .ok (.invokevirtual 219, 3) := by decide +kernel
theorem dX12_parts_37 : decode cX12_parts 37 = .ok (.istore_n 3, 1) := by decide +kernel
theorem dX12_parts_38 : decode cX12_parts 38 = .ok (.aload_n 0, 1) := by decide +kernel
theorem dX12_parts_39 : decode cX12_parts 39 = .ok (.getfield 43, 3) := by decide +kernel
theorem dX12_parts_42 : decode cX12_parts 42 = .ok (.iload_n 1, 1) := by decide +kernel
theorem dX12_parts_43 : decode cX12_parts 43 = .ok (.iconst (-1), 1) := by decide +kernel
theorem dX12_parts_44 : decode cX12_parts 44 = .ok (.iastore, 1) := by decide +kernel
theorem dX12_parts_45 : decode cX12_parts 45 = .ok (.aload_n 0, 1) := by decide +kernel
theorem dX12_parts_46 : decode cX12_parts 46 = .ok (.getfield 43, 3) := by decide +kernel
theorem dX12_parts_49 : decode cX12_parts 49 = .ok (.iload_n 2, 1) := by decide +kernel
theorem dX12_parts_50 : decode cX12_parts 50 = .ok (.iconst (-1), 1) := by decide +kernel
theorem dX12_parts_51 : decode cX12_parts 51 = .ok (.iastore, 1) := by decide +kernel
theorem dX12_parts_52 : decode cX12_parts 52 = .ok (.iload_n 3, 1) := by decide +kernel
theorem dX12_parts_53 : decode cX12_parts 53 = .ok (.ireturn, 1) := by decide +kernel
theorem dX12_does_0 : decode cX12_does 0 = .ok (.aload_n 0, 1) := by decide +kernel
theorem dX12_does_1 : decode cX12_does 1 = .ok (.getfield 37, 3) := by decide +kernel
theorem dX12_does_4 : decode cX12_does 4 = .ok (.iconst 5, 1) := by decide +kernel
theorem dX12_does_5 : decode cX12_does 5 = .ok (.iload_n 1, 1) := by decide +kernel
theorem dX12_does_6 : decode cX12_does 6 = .ok (.imul, 1) := by decide +kernel
theorem dX12_does_7 : decode cX12_does 7 = .ok (.iconst 2, 1) := by decide +kernel
theorem dX12_does_8 : decode cX12_does 8 = .ok (.iadd, 1) := by decide +kernel
theorem dX12_does_9 : decode cX12_does 9 = .ok (.iaload, 1) := by decide +kernel
theorem dX12_does_10 : decode cX12_does 10 = .ok (.istore_n 2, 1) := by decide +kernel
theorem dX12_does_11 : decode cX12_does 11 = .ok (.aload_n 0, 1) := by decide +kernel
theorem dX12_does_12 : decode cX12_does 12 = .ok (.getfield 37, 3) := by decide +kernel
theorem dX12_does_15 : decode cX12_does 15 = .ok (.iconst 5, 1) := by decide +kernel
theorem dX12_does_16 : decode cX12_does 16 = .ok (.iload_n 1, 1) := by decide +kernel
theorem dX12_does_17 : decode cX12_does 17 = .ok (.imul, 1) := by decide +kernel
theorem dX12_does_18 : decode cX12_does 18 = .ok (.iaload, 1) := by decide +kernel
theorem dX12_does_19 : decode cX12_does 19 = .ok (.ifCond .ne 11, 3) := by decide +kernel
theorem dX12_does_22 : decode cX12_does 22 = .ok (.aload_n 0, 1) := by decide +kernel
theorem dX12_does_23 : decode cX12_does 23 = .ok (.iload_n 1, 1) := by decide +kernel
theorem dX12_does_24 : decode cX12_does 24 = .ok (.invokevirtual 222, 3) := by decide +kernel
theorem dX12_does_27 : decode cX12_does 27 = .ok (.goto 89, 3) := by decide +kernel
theorem dX12_does_30 : decode cX12_does 30 = .ok (.aload_n 0, 1) := by decide +kernel
theorem dX12_does_31 : decode cX12_does 31 = .ok (.getfield 37, 3) := by decide +kernel
theorem dX12_does_34 : decode cX12_does 34 = .ok (.iconst 5, 1) := by decide +kernel
theorem dX12_does_35 : decode cX12_does 35 = .ok (.iload_n 1, 1) := by decide +kernel
theorem dX12_does_36 : decode cX12_does 36 = .ok (.imul, 1) := by decide +kernel
theorem dX12_does_37 : decode cX12_does 37 = .ok (.iaload, 1) := by decide +kernel
theorem dX12_does_38 : decode cX12_does 38 = .ok (.iconst 1, 1) := by decide +kernel
theorem dX12_does_39 : decode cX12_does 39 = .ok (.if_icmp .ne 32, 3) := by decide +kernel
theorem dX12_does_42 : decode cX12_does 42 = .ok (.aload_n 0, 1) := by decide +kernel
theorem dX12_does_43 : decode cX12_does 43 = .ok (.getfield 58, 3) := by decide +kernel
theorem dX12_does_46 : decode cX12_does 46 = .ok (.iload_n 1, 1) := by decide +kernel
theorem dX12_does_47 : decode cX12_does 47 = .ok (.aload_n 0, 1) := by decide +kernel
theorem dX12_does_48 : decode cX12_does 48 = .ok (.iload_n 2, 1) := by decide +kernel
theorem dX12_does_49 : decode cX12_does 49 = .ok (.invokevirtual 226, 3) := by decide +kernel
theorem dX12_does_52 : decode cX12_does 52 = .ok (.iastore, 1) := by decide +kernel
theorem dX12_does_53 : decode cX12_does 53 = .ok (.aload_n 0, 1) := by decide +kernel
theorem dX12_does_54 : decode cX12_does 54 = .ok (.dup, 1) := by decide +kernel
theorem dX12_does_55 : decode cX12_does 55 = .ok (.getfield 203, 3) := by decide +kernel
theorem dX12_does_58 : decode cX12_does 58 = .ok (.aload_n 0, 1) := by decide +kernel
theorem dX12_does_59 : decode cX12_does 59 = .ok (.getfield 58, 3) := by decide +kernel
theorem dX12_does_62 : decode cX12_does 62 = .ok (.iload_n 1, 1) := by decide +kernel
theorem dX12_does_63 : decode cX12_does 63 = .ok (.iaload, 1) := by decide +kernel
theorem dX12_does_64 : decode cX12_does 64 = .ok (.iadd, 1) := by decide +kernel
theorem dX12_does_65 : decode cX12_does 65 = .ok (.putfield 203, 3) := by decide +kernel
theorem dX12_does_68 : decode cX12_does 68 = .ok (.goto 48, 3) := by decide +kernel
theorem dX12_does_71 : decode cX12_does 71 = .ok (.aload_n 0, 1) := by decide +kernel
theorem dX12_does_72 : decode cX12_does 72 = .ok (.getfield 43, 3) := by decide +kernel
theorem dX12_does_75 : decode cX12_does 75 = .ok (.iload_n 2, 1) := by decide +kernel
theorem dX12_does_76 : decode cX12_does 76 = .ok (.iaload, 1) := by decide +kernel
theorem dX12_does_77 : decode cX12_does 77 = .ok (.istore_n 3, 1) := by decide +kernel
theorem dX12_does_78 : decode cX12_does 78 = .ok (.aload_n 0, 1) := by decide +kernel
theorem dX12_does_79 : decode cX12_does 79 = .ok (.getfield 55, 3) := by decide +kernel
theorem dX12_does_82 : decode cX12_does 82 = .ok (.iload_n 2, 1) := by decide +kernel
theorem dX12_does_83 : decode cX12_does 83 = .ok (.iconst 0, 1) := by decide +kernel
theorem dX12_does_84 : decode cX12_does 84 = .ok (.iastore, 1) := by decide +kernel
theorem dX12_does_85 : decode cX12_does 85 = .ok (.iload_n 3, 1) := by decide +kernel
theorem dX12_does_86 : decode cX12_does 86 = .ok (.iconst (-1), 1) := by decide +kernel
theorem dX12_does_87 : decode cX12_does 87 = .ok (.if_icmp .eq 29, 3) := by decide +kernel
theorem dX12_does_90 : decode cX12_does 90 = .ok (.aload_n 0, 1) := by decide +kernel
theorem dX12_does_91 : decode cX12_does 91 = .ok (.getfield 58, 3) := by decide +kernel
theorem dX12_does_94 : decode cX12_does 94 = .ok (.iload_n 1, 1) := by decide +kernel
theorem dX12_does_95 : decode cX12_does 95 = .ok (.aload_n 0, 1) := by decide +kernel
theorem dX12_does_96 : decode cX12_does 96 = .ok (.iload_n 2, 1) := by decide +kernel
theorem dX12_does_97 : decode cX12_does 97 = .ok (.invokevirtual 226, 3) := by decide +kernel
theorem dX12_does_100 : decode cX12_does 100 = .ok (.iastore, 1) := by decide +kernel
theorem dX12_does_101 : decode cX12_does 101 = .ok (.aload_n 0, 1) := by decide +kernel
theorem dX12_does_102 : decode cX12_does 102 = .ok (.getfield 52, 3) := by decide +kernel
theorem dX12_does_105 : decode cX12_does 105 = .ok (.iload_n 3, 1) := by decide +kernel
theorem dX12_does_106 : decode cX12_does 106 = .ok (.dup2, 1) := by decide +kernel
theorem dX12_does_107 : decode cX12_does 107 = .ok (.iaload, 1) := by decide +kernel
theorem dX12_does_108 : decode cX12_does 108 = .ok (.aload_n 0, 1) := by decide +kernel
theorem dX12_does_109 : decode cX12_does 109 = .ok (.getfield 58, 3) := by decide +kernel
theorem dX12_does_112 : decode cX12_does 112 = .ok (.iload_n 1, 1) := by decide +kernel
theorem dX12_does_113 : decode cX12_does 113 = .ok (.iaload, 1) := by decide +kernel
theorem dX12_does_114 : decode cX12_does 114 = .ok (.iadd, 1) := by decide +kernel
theorem dX12_does_115 : decode cX12_does 115 = .ok (.iastore, 1) := by decide +kernel
theorem dX12_does_116 : decode cX12_does 116 = .ok (.return_, 1) := by decide +kernel
theorem dX12_goes_0 : decode cX12_goes 0 = .ok (.aload_n 0, 1) := by decide +kernel
theorem dX12_goes_1 : decode cX12_goes 1 = .ok (.invokevirtual 229, 3) := by decide +kernel
theorem dX12_goes_4 : decode cX12_goes 4 = .ok (.iconst 0, 1) := by decide +kernel
theorem dX12_goes_5 : decode cX12_goes 5 = .ok (.istore_n 3, 1) := by decide +kernel
theorem dX12_goes_6 : decode cX12_goes 6 = .ok (.iload_n 3, 1) := by decide +kernel
theorem dX12_goes_7 : decode cX12_goes 7 = .ok (.iload_n 1, 1) := by decide +kernel
theorem dX12_goes_8 : decode cX12_goes 8 = .ok (.if_icmp .ge 67, 3) := by decide +kernel
theorem dX12_goes_11 : decode cX12_goes 11 = .ok (.aload_n 0, 1) := by decide +kernel
theorem dX12_goes_12 : decode cX12_goes 12 = .ok (.getfield 58, 3) := by decide +kernel
theorem dX12_goes_15 : decode cX12_goes 15 = .ok (.iload_n 3, 1) := by decide +kernel
theorem dX12_goes_16 : decode cX12_goes 16 = .ok (.iconst 0, 1) := by decide +kernel
theorem dX12_goes_17 : decode cX12_goes 17 = .ok (.iastore, 1) := by decide +kernel
theorem dX12_goes_18 : decode cX12_goes 18 = .ok (.iload_n 3, 1) := by decide +kernel
theorem dX12_goes_19 : decode cX12_goes 19 = .ok (.iload_n 2, 1) := by decide +kernel
theorem dX12_goes_20 : decode cX12_goes 20 = .ok (.if_icmp .eq 49, 3) := by decide +kernel
theorem dX12_goes_23 : decode cX12_goes 23 = .ok (.aload_n 0, 1) := by decide +kernel
theorem dX12_goes_24 : decode cX12_goes 24 = .ok (.iload_n 3, 1) := by decide +kernel
theorem dX12_goes_25 : decode cX12_goes 25 = .ok (.invokevirtual 232, 3) := by decide +kernel
theorem dX12_goes_28 : decode cX12_goes 28 = .ok (.ifCond .eq 11, 3) := by decide +kernel
theorem dX12_goes_31 : decode cX12_goes 31 = .ok (.aload_n 0, 1) := by decide +kernel
theorem dX12_goes_32 : decode cX12_goes 32 = .ok (.iload_n 3, 1) := by decide +kernel
theorem dX12_goes_33 : decode cX12_goes 33 = .ok (.invokevirtual 235, 3) := by decide +kernel
theorem dX12_goes_36 : decode cX12_goes 36 = .ok (.goto 33, 3) := by decide +kernel
theorem dX12_goes_39 : decode cX12_goes 39 = .ok (.aload_n 0, 1) := by decide +kernel
theorem dX12_goes_40 : decode cX12_goes 40 = .ok (.dup, 1) := by decide +kernel
theorem dX12_goes_41 : decode cX12_goes 41 = .ok (.getfield 206, 3) := by decide +kernel
theorem dX12_goes_44 : decode cX12_goes 44 = .ok (.iconst 1, 1) := by decide +kernel
theorem dX12_goes_45 : decode cX12_goes 45 = .ok (.iadd, 1) := by decide +kernel
theorem dX12_goes_46 : decode cX12_goes 46 = .ok (.putfield 206, 3) := by decide +kernel
theorem dX12_goes_49 : decode cX12_goes 49 = .ok (.aload_n 0, 1) := by decide +kernel
theorem dX12_goes_50 : decode cX12_goes 50 = .ok (.aload_n 0, 1) := by decide +kernel
theorem dX12_goes_51 : decode cX12_goes 51 = .ok (.getfield 209, 3) := by decide +kernel
theorem dX12_goes_54 : decode cX12_goes 54 = .ok (.iconst (-1), 1) := by decide +kernel
theorem dX12_goes_55 : decode cX12_goes 55 = .ok (.if_icmp .ne 7, 3) := by decide +kernel
theorem dX12_goes_58 : decode cX12_goes 58 = .ok (.iload_n 3, 1) := by decide +kernel
theorem dX12_goes_59 : decode cX12_goes 59 = .ok (.goto 7, 3) := by decide +kernel
theorem dX12_goes_62 : decode cX12_goes 62 = .ok (.aload_n 0, 1) := by decide +kernel
theorem dX12_goes_63 : decode cX12_goes 63 = .ok (.getfield 209, 3) := by decide +kernel
theorem dX12_goes_66 : decode cX12_goes 66 = .ok (.putfield 209, 3) := by decide +kernel
theorem dX12_goes_69 : decode cX12_goes 69 = .ok (.iinc 3 1, 3) := by decide +kernel
theorem dX12_goes_72 : decode cX12_goes 72 = .ok (.goto (-66), 3) := by decide +kernel
theorem dX12_goes_75 : decode cX12_goes 75 = .ok (.return_, 1) := by decide +kernel
theorem dX12_goesAll_0 : decode cX12_goesAll 0 = .ok (.aload_n 0, 1) := by decide +kernel
theorem dX12_goesAll_1 : decode cX12_goesAll 1 = .ok (.aload_n 0, 1) := by decide +kernel
theorem dX12_goesAll_2 : decode cX12_goesAll 2 = .ok (.getfield 184, 3) := by decide +kernel
theorem dX12_goesAll_5 : decode cX12_goesAll 5 = .ok (.iconst (-1), 1) := by decide +kernel
theorem dX12_goesAll_6 : decode cX12_goesAll 6 = .ok (.invokevirtual 238, 3) := by decide +kernel
theorem dX12_goesAll_9 : decode cX12_goesAll 9 = .ok (.return_, 1) := by decide +kernel
theorem dX12_judged_0 : decode cX12_judged 0 = .ok (.aload_n 0, 1) := by decide +kernel
theorem dX12_judged_1 : decode cX12_judged 1 = .ok (.invokevirtual 163, 3) := by decide +kernel
theorem dX12_judged_4 : decode cX12_judged 4 = .ok (.aload_n 0, 1) := by decide +kernel
theorem dX12_judged_5 : decode cX12_judged 5 = .ok (.invokevirtual 242, 3) := by decide +kernel
theorem dX12_judged_8 : decode cX12_judged 8 = .ok (.aload_n 0, 1) := by decide +kernel
theorem dX12_judged_9 : decode cX12_judged 9 = .ok (.getfield 209, 3) := by decide +kernel
theorem dX12_judged_12 : decode cX12_judged 12 = .ok (.ireturn, 1) := by decide +kernel
theorem dX12_moved_0 : decode cX12_moved 0 = .ok (.aload_n 0, 1) := by decide +kernel
theorem dX12_moved_1 : decode cX12_moved 1 = .ok (.invokevirtual 163, 3) := by decide +kernel
theorem dX12_moved_4 : decode cX12_moved 4 = .ok (.iload_n 1, 1) := by decide +kernel
theorem dX12_moved_5 : decode cX12_moved 5 = .ok (.i2l, 1) := by decide +kernel
theorem dX12_moved_6 : decode cX12_moved 6 = .ok (.lconst 0, 1) := by decide +kernel
theorem dX12_moved_7 : decode cX12_moved 7 = .ok (.aload_n 0, 1) := by decide +kernel
theorem dX12_moved_8 : decode cX12_moved 8 = .ok (.getfield 184, 3) := by decide +kernel
theorem dX12_moved_11 : decode cX12_moved 11 = .ok (.iconst 1, 1) := by decide +kernel
theorem dX12_moved_12 : decode cX12_moved 12 = .ok (.isub, 1) := by decide +kernel
theorem dX12_moved_13 : decode cX12_moved 13 = .ok (.i2l, 1) := by decide +kernel
theorem dX12_moved_14 : decode cX12_moved 14 = .ok (.invokestatic 95, 3) := by decide +kernel
theorem dX12_moved_17 : decode cX12_moved 17 = .ok (.ifCond .ne 7, 3) := by decide +kernel
theorem dX12_moved_20 : decode cX12_moved 20 = .ok (.sipush (-10002), 3) := by decide +kernel
theorem dX12_moved_23 : decode cX12_moved 23 = .ok (.ireturn, 1) := by decide +kernel
theorem dX12_moved_24 : decode cX12_moved 24 = .ok (.aload_n 0, 1) := by decide +kernel
theorem dX12_moved_25 : decode cX12_moved 25 = .ok (.invokevirtual 242, 3) := by decide +kernel
theorem dX12_moved_28 : decode cX12_moved 28 = .ok (.aload_n 0, 1) := by decide +kernel
theorem dX12_moved_29 : decode cX12_moved 29 = .ok (.getfield 58, 3) := by decide +kernel
theorem dX12_moved_32 : decode cX12_moved 32 = .ok (.iload_n 1, 1) := by decide +kernel
theorem dX12_moved_33 : decode cX12_moved 33 = .ok (.iaload, 1) := by decide +kernel
theorem dX12_moved_34 : decode cX12_moved 34 = .ok (.ireturn, 1) := by decide +kernel
theorem dX12_isSo_0 : decode cX12_isSo 0 = .ok (.iload_n 1, 1) := by decide +kernel
theorem dX12_isSo_1 : decode cX12_isSo 1 = .ok (.i2l, 1) := by decide +kernel
theorem dX12_isSo_2 : decode cX12_isSo 2 = .ok (.lconst 0, 1) := by decide +kernel
theorem dX12_isSo_3 : decode cX12_isSo 3 = .ok (.aload_n 0, 1) := by decide +kernel
theorem dX12_isSo_4 : decode cX12_isSo 4 = .ok (.getfield 184, 3) := by decide +kernel
theorem dX12_isSo_7 : decode cX12_isSo 7 = .ok (.i2l, 1) := by decide +kernel
theorem dX12_isSo_8 : decode cX12_isSo 8 = .ok (.invokestatic 95, 3) := by decide +kernel
theorem dX12_isSo_11 : decode cX12_isSo 11 = .ok (.ireturn, 1) := by decide +kernel
theorem dX12_widthOf_0 : decode cX12_widthOf 0 = .ok (.aload_n 0, 1) := by decide +kernel
theorem dX12_widthOf_1 : decode cX12_widthOf 1 = .ok (.iload_n 2, 1) := by decide +kernel
theorem dX12_widthOf_2 : decode cX12_widthOf 2 = .ok (.iload_n 3, 1) := by decide +kernel
theorem dX12_widthOf_3 : decode cX12_widthOf 3 = .ok (.invokevirtual 238, 3) := by decide +kernel
theorem dX12_widthOf_6 : decode cX12_widthOf 6 = .ok (.aload_n 0, 1) := by decide +kernel
theorem dX12_widthOf_7 : decode cX12_widthOf 7 = .ok (.getfield 40, 3) := by decide +kernel
theorem dX12_widthOf_10 : decode cX12_widthOf 10 = .ok (.iload_n 1, 1) := by decide +kernel
theorem dX12_widthOf_11 : decode cX12_widthOf 11 = .ok (.iaload, 1) := by decide +kernel
theorem dX12_widthOf_12 : decode cX12_widthOf 12 = .ok (.ireturn, 1) := by decide +kernel
theorem dX12_width_0 : decode cX12_width 0 = .ok (.aload_n 0, 1) := by decide +kernel
theorem dX12_width_1 : decode cX12_width 1 = .ok (.iload_n 1, 1) := by decide +kernel
theorem dX12_width_2 : decode cX12_width 2 = .ok (.invokevirtual 245, 3) := by decide +kernel
theorem dX12_width_5 : decode cX12_width 5 = .ok (.ifCond .eq 21, 3) := by decide +kernel
theorem dX12_width_8 : decode cX12_width 8 = .ok (.aload_n 0, 1) := by decide +kernel
theorem dX12_width_9 : decode cX12_width 9 = .ok (.iload_n 2, 1) := by decide +kernel
theorem dX12_width_10 : decode cX12_width 10 = .ok (.invokevirtual 248, 3) := by decide +kernel
theorem dX12_width_13 : decode cX12_width 13 = .ok (.ifCond .eq 13, 3) := by decide +kernel
theorem dX12_width_16 : decode cX12_width 16 = .ok (.aload_n 0, 1) := by decide +kernel
theorem dX12_width_17 : decode cX12_width 17 = .ok (.iload_n 1, 1) := by decide +kernel
theorem dX12_width_18 : decode cX12_width 18 = .ok (.iload_n 2, 1) := by decide +kernel
theorem dX12_width_19 : decode cX12_width 19 = .ok (.iconst (-1), 1) := by decide +kernel
theorem dX12_width_20 : decode cX12_width 20 = .ok (.invokevirtual 251, 3) := by decide +kernel
theorem dX12_width_23 : decode cX12_width 23 = .ok (.goto 5, 3) := by decide +kernel
theorem dX12_width_26 : decode cX12_width 26 = .ok (.bipush (-2), 2) := by decide +kernel
theorem dX12_width_28 : decode cX12_width 28 = .ok (.ireturn, 1) := by decide +kernel
theorem dX12_stateNow_0 : decode cX12_stateNow 0 = .ok (.iload_n 2, 1) := by decide +kernel
theorem dX12_stateNow_1 : decode cX12_stateNow 1 = .ok (.ifCond .ne 12, 3) := by decide +kernel
theorem dX12_stateNow_4 : decode cX12_stateNow 4 = .ok (.aload_n 0, 1) := by decide +kernel
theorem dX12_stateNow_5 : decode cX12_stateNow 5 = .ok (.getfield 43, 3) := by decide +kernel
theorem dX12_stateNow_8 : decode cX12_stateNow 8 = .ok (.iload_n 1, 1) := by decide +kernel
theorem dX12_stateNow_9 : decode cX12_stateNow 9 = .ok (.iaload, 1) := by decide +kernel
theorem dX12_stateNow_10 : decode cX12_stateNow 10 = .ok (.goto 23, 3) := by decide +kernel
theorem dX12_stateNow_13 : decode cX12_stateNow 13 = .ok (.iload_n 2, 1) := by decide +kernel
theorem dX12_stateNow_14 : decode cX12_stateNow 14 = .ok (.iconst 1, 1) := by decide +kernel
theorem dX12_stateNow_15 : decode cX12_stateNow 15 = .ok (.if_icmp .ne 12, 3) := by decide +kernel
theorem dX12_stateNow_18 : decode cX12_stateNow 18 = .ok (.aload_n 0, 1) := by decide +kernel
theorem dX12_stateNow_19 : decode cX12_stateNow 19 = .ok (.getfield 52, 3) := by decide +kernel
theorem dX12_stateNow_22 : decode cX12_stateNow 22 = .ok (.iload_n 1, 1) := by decide +kernel
theorem dX12_stateNow_23 : decode cX12_stateNow 23 = .ok (.iaload, 1) := by decide +kernel
theorem dX12_stateNow_24 : decode cX12_stateNow 24 = .ok (.goto 9, 3) := by decide +kernel
theorem dX12_stateNow_27 : decode cX12_stateNow 27 = .ok (.aload_n 0, 1) := by decide +kernel
theorem dX12_stateNow_28 : decode cX12_stateNow 28 = .ok (.getfield 55, 3) := by decide +kernel
theorem dX12_stateNow_31 : decode cX12_stateNow 31 = .ok (.iload_n 1, 1) := by decide +kernel
theorem dX12_stateNow_32 : decode cX12_stateNow 32 = .ok (.iaload, 1) := by decide +kernel
theorem dX12_stateNow_33 : decode cX12_stateNow 33 = .ok (.ireturn, 1) := by decide +kernel
theorem dX12_state_0 : decode cX12_state 0 = .ok (.aload_n 0, 1) := by decide +kernel
theorem dX12_state_1 : decode cX12_state 1 = .ok (.iload_n 1, 1) := by decide +kernel
theorem dX12_state_2 : decode cX12_state 2 = .ok (.invokevirtual 166, 3) := by decide +kernel
theorem dX12_state_5 : decode cX12_state 5 = .ok (.ifCond .eq 23, 3) := by decide +kernel
theorem dX12_state_8 : decode cX12_state 8 = .ok (.aload_n 0, 1) := by decide +kernel
theorem dX12_state_9 : decode cX12_state 9 = .ok (.iload_n 2, 1) := by decide +kernel
theorem dX12_state_10 : decode cX12_state 10 = .ok (.invokevirtual 248, 3) := by decide +kernel
theorem dX12_state_13 : decode cX12_state 13 = .ok (.ifCond .eq 15, 3) := by decide +kernel
theorem dX12_state_16 : decode cX12_state 16 = .ok (.iload_n 3, 1) := by decide +kernel
theorem dX12_state_17 : decode cX12_state 17 = .ok (.i2l, 1) := by decide +kernel
theorem dX12_state_18 : decode cX12_state 18 = .ok (.lconst 0, 1) := by decide +kernel
theorem dX12_state_19 : decode cX12_state 19 = .ok (.ldc2_w 109, 3) := by decide +kernel
theorem dX12_state_22 : decode cX12_state 22 = .ok (.invokestatic 95, 3) := by decide +kernel
theorem dX12_state_25 : decode cX12_state 25 = .ok (.ifCond .ne 6, 3) := by decide +kernel
theorem dX12_state_28 : decode cX12_state 28 = .ok (.bipush (-2), 2) := by decide +kernel
theorem dX12_state_30 : decode cX12_state 30 = .ok (.ireturn, 1) := by decide +kernel
theorem dX12_state_31 : decode cX12_state 31 = .ok (.aload_n 0, 1) := by decide +kernel
theorem dX12_state_32 : decode cX12_state 32 = .ok (.iload_n 2, 1) := by decide +kernel
theorem dX12_state_33 : decode cX12_state 33 = .ok (.iconst (-1), 1) := by decide +kernel
theorem dX12_state_34 : decode cX12_state 34 = .ok (.invokevirtual 238, 3) := by decide +kernel
theorem dX12_state_37 : decode cX12_state 37 = .ok (.aload_n 0, 1) := by decide +kernel
theorem dX12_state_38 : decode cX12_state 38 = .ok (.iload_n 1, 1) := by decide +kernel
theorem dX12_state_39 : decode cX12_state 39 = .ok (.iload_n 3, 1) := by decide +kernel
theorem dX12_state_40 : decode cX12_state 40 = .ok (.invokevirtual 254, 3) := by decide +kernel
theorem dX12_state_43 : decode cX12_state 43 = .ok (.ireturn, 1) := by decide +kernel
theorem dX12_nobody_0 : decode cX12_nobody 0 = .ok (.aload_n 0, 1) := by decide +kernel
theorem dX12_nobody_1 : decode cX12_nobody 1 = .ok (.invokevirtual 163, 3) := by decide +kernel
theorem dX12_nobody_4 : decode cX12_nobody 4 = .ok (.aload_n 0, 1) := by decide +kernel
theorem dX12_nobody_5 : decode cX12_nobody 5 = .ok (.iload_n 1, 1) := by decide +kernel
theorem dX12_nobody_6 : decode cX12_nobody 6 = .ok (.invokevirtual 248, 3) := by decide +kernel
theorem dX12_nobody_9 : decode cX12_nobody 9 = .ok (.ifCond .ne 6, 3) := by decide +kernel
theorem dX12_nobody_12 : decode cX12_nobody 12 = .ok (.bipush (-2), 2) := by decide +kernel
theorem dX12_nobody_14 : decode cX12_nobody 14 = .ok (.ireturn, 1) := by decide +kernel
theorem dX12_nobody_15 : decode cX12_nobody 15 = .ok (.aload_n 0, 1) := by decide +kernel
theorem dX12_nobody_16 : decode cX12_nobody 16 = .ok (.iload_n 1, 1) := by decide +kernel
theorem dX12_nobody_17 : decode cX12_nobody 17 = .ok (.iconst (-1), 1) := by decide +kernel
theorem dX12_nobody_18 : decode cX12_nobody 18 = .ok (.invokevirtual 238, 3) := by decide +kernel
theorem dX12_nobody_21 : decode cX12_nobody 21 = .ok (.aload_n 0, 1) := by decide +kernel
theorem dX12_nobody_22 : decode cX12_nobody 22 = .ok (.getfield 203, 3) := by decide +kernel
theorem dX12_nobody_25 : decode cX12_nobody 25 = .ok (.ireturn, 1) := by decide +kernel
theorem dX12_gain_0 : decode cX12_gain 0 = .ok (.aload_n 0, 1) := by decide +kernel
theorem dX12_gain_1 : decode cX12_gain 1 = .ok (.iload_n 1, 1) := by decide +kernel
theorem dX12_gain_2 : decode cX12_gain 2 = .ok (.bipush 6, 2) := by decide +kernel
theorem dX12_gain_4 : decode cX12_gain 4 = .ok (.invokevirtual 176, 3) := by decide +kernel
theorem dX12_gain_7 : decode cX12_gain 7 = .ok (.aload_n 0, 1) := by decide +kernel
theorem dX12_gain_8 : decode cX12_gain 8 = .ok (.iload_n 2, 1) := by decide +kernel
theorem dX12_gain_9 : decode cX12_gain 9 = .ok (.bipush 6, 2) := by decide +kernel
theorem dX12_gain_11 : decode cX12_gain 11 = .ok (.invokevirtual 176, 3) := by decide +kernel
theorem dX12_gain_14 : decode cX12_gain 14 = .ok (.isub, 1) := by decide +kernel
theorem dX12_gain_15 : decode cX12_gain 15 = .ok (.ireturn, 1) := by decide +kernel
theorem dX12_findMost_0 : decode cX12_findMost 0 = .ok (.aload_n 0, 1) := by decide +kernel
theorem dX12_findMost_1 : decode cX12_findMost 1 = .ok (.invokevirtual 242, 3) := by decide +kernel
theorem dX12_findMost_4 : decode cX12_findMost 4 = .ok (.aload_n 0, 1) := by decide +kernel
theorem dX12_findMost_5 : decode cX12_findMost 5 = .ok (.iconst 0, 1) := by decide +kernel
theorem dX12_findMost_6 : decode cX12_findMost 6 = .ok (.putfield 257, 3) := by decide +kernel
theorem dX12_findMost_9 : decode cX12_findMost 9 = .ok (.iconst 0, 1) := by decide +kernel
theorem dX12_findMost_10 : decode cX12_findMost 10 = .ok (.istore_n 2, 1) := by decide +kernel
theorem dX12_findMost_11 : decode cX12_findMost 11 = .ok (.iload_n 2, 1) := by decide +kernel
theorem dX12_findMost_12 : decode cX12_findMost 12 = .ok (.aload_n 0, 1) := by decide +kernel
theorem dX12_findMost_13 : decode cX12_findMost 13 = .ok (.getfield 144, 3) := by decide +kernel
theorem dX12_findMost_16 : decode cX12_findMost 16 = .ok (.if_icmp .ge 51, 3) := by decide +kernel
theorem dX12_findMost_19 : decode cX12_findMost 19 = .ok (.aload_n 0, 1) := by decide +kernel
theorem dX12_findMost_20 : decode cX12_findMost 20 = .ok (.getfield 31, 3) := by decide +kernel
theorem dX12_findMost_23 : decode cX12_findMost 23 = .ok (.iconst 4, 1) := by decide +kernel
theorem dX12_findMost_24 : decode cX12_findMost 24 = .ok (.iload_n 2, 1) := by decide +kernel
theorem dX12_findMost_25 : decode cX12_findMost 25 = .ok (.imul, 1) := by decide +kernel
theorem dX12_findMost_26 : decode cX12_findMost 26 = .ok (.iconst 1, 1) := by decide +kernel
theorem dX12_findMost_27 : decode cX12_findMost 27 = .ok (.iadd, 1) := by decide +kernel
theorem dX12_findMost_28 : decode cX12_findMost 28 = .ok (.iaload, 1) := by decide +kernel
theorem dX12_findMost_29 : decode cX12_findMost 29 = .ok (.iload_n 1, 1) := by decide +kernel
theorem dX12_findMost_30 : decode cX12_findMost 30 = .ok (.if_icmp .ne 31, 3) := by decide +kernel
theorem dX12_findMost_33 : decode cX12_findMost 33 = .ok (.aload_n 0, 1) := by decide +kernel
theorem dX12_findMost_34 : decode cX12_findMost 34 = .ok (.iload_n 2, 1) := by decide +kernel
theorem dX12_findMost_35 : decode cX12_findMost 35 = .ok (.invokevirtual 212, 3) := by decide +kernel
theorem dX12_findMost_38 : decode cX12_findMost 38 = .ok (.ifCond .eq 23, 3) := by decide +kernel
theorem dX12_findMost_41 : decode cX12_findMost 41 = .ok (.aload_n 0, 1) := by decide +kernel
theorem dX12_findMost_42 : decode cX12_findMost 42 = .ok (.getfield 61, 3) := by decide +kernel
theorem dX12_findMost_45 : decode cX12_findMost 45 = .ok (.aload_n 0, 1) := by decide +kernel
theorem dX12_findMost_46 : decode cX12_findMost 46 = .ok (.getfield 257, 3) := by decide +kernel
theorem dX12_findMost_49 : decode cX12_findMost 49 = .ok (.iload_n 2, 1) := by decide +kernel
theorem dX12_findMost_50 : decode cX12_findMost 50 = .ok (.iastore, 1) := by decide +kernel
theorem dX12_findMost_51 : decode cX12_findMost 51 = .ok (.aload_n 0, 1) := by decide +kernel
theorem dX12_findMost_52 : decode cX12_findMost 52 = .ok (.dup, 1) := by decide +kernel
theorem dX12_findMost_53 : decode cX12_findMost 53 = .ok (.getfield 257, 3) := by decide +kernel
theorem dX12_findMost_56 : decode cX12_findMost 56 = .ok (.iconst 1, 1) := by decide +kernel
theorem dX12_findMost_57 : decode cX12_findMost 57 = .ok (.iadd, 1) := by decide +kernel
theorem dX12_findMost_58 : decode cX12_findMost 58 = .ok (.putfield 257, 3) := by decide +kernel
theorem dX12_findMost_61 : decode cX12_findMost 61 = .ok (.iinc 2 1, 3) := by decide +kernel
theorem dX12_findMost_64 : decode cX12_findMost 64 = .ok (.goto (-53), 3) := by decide +kernel
theorem dX12_findMost_67 : decode cX12_findMost 67 = .ok (.iconst 0, 1) := by decide +kernel
theorem dX12_findMost_68 : decode cX12_findMost 68 = .ok (.istore_n 2, 1) := by decide +kernel
theorem dX12_findMost_69 : decode cX12_findMost 69 = .ok (.iload_n 2, 1) := by decide +kernel
theorem dX12_findMost_70 : decode cX12_findMost 70 = .ok (.bipush 13, 2) := by decide +kernel
theorem dX12_findMost_72 : decode cX12_findMost 72 = .ok (.if_icmp .ge 21, 3) := by decide +kernel
theorem dX12_findMost_75 : decode cX12_findMost 75 = .ok (.aload_n 0, 1) := by decide +kernel
theorem dX12_findMost_76 : decode cX12_findMost 76 = .ok (.getfield 67, 3) := by decide +kernel
theorem dX12_findMost_79 : decode cX12_findMost 79 = .ok (.iload_n 2, 1) := by decide +kernel
theorem dX12_findMost_80 : decode cX12_findMost 80 = .ok (.aload_n 0, 1) := by decide +kernel
theorem dX12_findMost_81 : decode cX12_findMost 81 = .ok (.getfield 40, 3) := by decide +kernel
theorem dX12_findMost_84 : decode cX12_findMost 84 = .ok (.iload_n 1, 1) := by decide +kernel
theorem dX12_findMost_85 : decode cX12_findMost 85 = .ok (.iaload, 1) := by decide +kernel
theorem dX12_findMost_86 : decode cX12_findMost 86 = .ok (.iastore, 1) := by decide +kernel
theorem dX12_findMost_87 : decode cX12_findMost 87 = .ok (.iinc 2 1, 3) := by decide +kernel
theorem dX12_findMost_90 : decode cX12_findMost 90 = .ok (.goto (-21), 3) := by decide +kernel
theorem dX12_findMost_93 : decode cX12_findMost 93 = .ok (.iconst 0, 1) := by decide +kernel
theorem dX12_findMost_94 : decode cX12_findMost 94 = .ok (.istore_n 2, 1) := by decide +kernel
theorem dX12_findMost_95 : decode cX12_findMost 95 = .ok (.iconst 0, 1) := by decide +kernel
theorem dX12_findMost_96 : decode cX12_findMost 96 = .ok (.istore_n 3, 1) := by decide +kernel
theorem dX12_findMost_97 : decode cX12_findMost 97 = .ok (.aload_n 0, 1) := by decide +kernel
theorem dX12_findMost_98 : decode cX12_findMost 98 = .ok (.getfield 64, 3) := by decide +kernel
theorem dX12_findMost_101 : decode cX12_findMost 101 = .ok (.iconst 0, 1) := by decide +kernel
theorem dX12_findMost_102 : decode cX12_findMost 102 = .ok (.bipush (-2), 2) := by decide +kernel
theorem dX12_findMost_104 : decode cX12_findMost 104 = .ok (.iastore, 1) := by decide +kernel
theorem dX12_findMost_105 : decode cX12_findMost 105 = .ok (.iload_n 2, 1) := by decide +kernel
theorem dX12_findMost_106 : decode cX12_findMost 106 = .ok (.ifCond .lt 170, 3) := by decide +kernel
theorem dX12_findMost_109 : decode cX12_findMost 109 = .ok (.iload_n 2, 1) := by decide +kernel
theorem dX12_findMost_110 : decode cX12_findMost 110 = .ok (.aload_n 0, 1) := by decide +kernel
theorem dX12_findMost_111 : decode cX12_findMost 111 = .ok (.getfield 257, 3) := by decide +kernel
theorem dX12_findMost_114 : decode cX12_findMost 114 = .ok (.if_icmp .ne 14, 3) := by decide +kernel
theorem dX12_findMost_117 : decode cX12_findMost 117 = .ok (.aload_n 0, 1) := by decide +kernel
theorem dX12_findMost_118 : decode cX12_findMost 118 = .ok (.iload_n 1, 1) := by decide +kernel
theorem dX12_findMost_119 : decode cX12_findMost 119 = .ok (.invokevirtual 260, 3) := by decide +kernel
theorem dX12_findMost_122 : decode cX12_findMost 122 = .ok (.iinc 2 (-1), 3) := by decide +kernel
theorem dX12_findMost_125 : decode cX12_findMost 125 = .ok (.goto (-20), 3) := by decide +kernel
theorem dX12_findMost_128 : decode cX12_findMost 128 = .ok (.iload_n 3, 1) := by decide +kernel
theorem dX12_findMost_129 : decode cX12_findMost 129 = .ok (.aload_n 0, 1) := by decide +kernel
theorem dX12_findMost_130 : decode cX12_findMost 130 = .ok (.getfield 64, 3) := by decide +kernel
theorem dX12_findMost_133 : decode cX12_findMost 133 = .ok (.iload_n 2, 1) := by decide +kernel
theorem dX12_findMost_134 : decode cX12_findMost 134 = .ok (.iaload, 1) := by decide +kernel
theorem dX12_findMost_135 : decode cX12_findMost 135 = .ok (.ifCond .lt 16, 3) := by decide +kernel
theorem dX12_findMost_138 : decode cX12_findMost 138 = .ok (.iconst 1, 1) := by decide +kernel
theorem dX12_findMost_139 : decode cX12_findMost 139 = .ok (.aload_n 0, 1) := by decide +kernel
theorem dX12_findMost_140 : decode cX12_findMost 140 = .ok (.getfield 64, 3) := by decide +kernel
theorem dX12_findMost_143 : decode cX12_findMost 143 = .ok (.iload_n 2, 1) := by decide +kernel
theorem dX12_findMost_144 : decode cX12_findMost 144 = .ok (.iaload, 1) := by decide +kernel
theorem dX12_findMost_145 : decode cX12_findMost 145 = .ok (.ishl, 1) := by decide +kernel
theorem dX12_findMost_146 : decode cX12_findMost 146 = .ok (.iconst (-1), 1) := by decide +kernel
theorem dX12_findMost_147 : decode cX12_findMost 147 = .ok (.ixor, 1) := by decide +kernel
theorem dX12_findMost_148 : decode cX12_findMost 148 = .ok (.goto 4, 3) := by decide +kernel
theorem dX12_findMost_151 : decode cX12_findMost 151 = .ok (.iconst (-1), 1) := by decide +kernel
theorem dX12_findMost_152 : decode cX12_findMost 152 = .ok (.iand, 1) := by decide +kernel
theorem dX12_findMost_153 : decode cX12_findMost 153 = .ok (.istore_n 3, 1) := by decide +kernel
theorem dX12_findMost_154 : decode cX12_findMost 154 = .ok (.aload_n 0, 1) := by decide +kernel
theorem dX12_findMost_155 : decode cX12_findMost 155 = .ok (.getfield 64, 3) := by decide +kernel
theorem dX12_findMost_158 : decode cX12_findMost 158 = .ok (.iload_n 2, 1) := by decide +kernel
theorem dX12_findMost_159 : decode cX12_findMost 159 = .ok (.dup2, 1) := by decide +kernel
theorem dX12_findMost_160 : decode cX12_findMost 160 = .ok (.iaload, 1) := by decide +kernel
theorem dX12_findMost_161 : decode cX12_findMost 161 = .ok (.iconst 1, 1) := by decide +kernel
theorem dX12_findMost_162 : decode cX12_findMost 162 = .ok (.iadd, 1) := by decide +kernel
theorem dX12_findMost_163 : decode cX12_findMost 163 = .ok (.iastore, 1) := by decide +kernel
theorem dX12_findMost_164 : decode cX12_findMost 164 = .ok (.aload_n 0, 1) := by decide +kernel
theorem dX12_findMost_165 : decode cX12_findMost 165 = .ok (.getfield 64, 3) := by decide +kernel
theorem dX12_findMost_168 : decode cX12_findMost 168 = .ok (.iload_n 2, 1) := by decide +kernel
theorem dX12_findMost_169 : decode cX12_findMost 169 = .ok (.iaload, 1) := by decide +kernel
theorem dX12_findMost_170 : decode cX12_findMost 170 = .ok (.ifCond .lt 49, 3) := by decide +kernel
theorem dX12_findMost_173 : decode cX12_findMost 173 = .ok (.aload_n 0, 1) := by decide +kernel
theorem dX12_findMost_174 : decode cX12_findMost 174 = .ok (.getfield 64, 3) := by decide +kernel
theorem dX12_findMost_177 : decode cX12_findMost 177 = .ok (.iload_n 2, 1) := by decide +kernel
theorem dX12_findMost_178 : decode cX12_findMost 178 = .ok (.iaload, 1) := by decide +kernel
theorem dX12_findMost_179 : decode cX12_findMost 179 = .ok (.aload_n 0, 1) := by decide +kernel
theorem dX12_findMost_180 : decode cX12_findMost 180 = .ok (.getfield 144, 3) := by decide +kernel
theorem dX12_findMost_183 : decode cX12_findMost 183 = .ok (.if_icmp .ge 36, 3) := by decide +kernel
theorem dX12_findMost_186 : decode cX12_findMost 186 = .ok (.aload_n 0, 1) := by decide +kernel
theorem dX12_findMost_187 : decode cX12_findMost 187 = .ok (.aload_n 0, 1) := by decide +kernel
theorem dX12_findMost_188 : decode cX12_findMost 188 = .ok (.getfield 61, 3) := by decide +kernel
theorem dX12_findMost_191 : decode cX12_findMost 191 = .ok (.iload_n 2, 1) := by decide +kernel
theorem dX12_findMost_192 : decode cX12_findMost 192 = .ok (.iaload, 1) := by decide +kernel
theorem dX12_findMost_193 : decode cX12_findMost 193 = .ok (.aload_n 0, 1) := by decide +kernel
theorem dX12_findMost_194 : decode cX12_findMost 194 = .ok (.getfield 64, 3) := by decide +kernel
theorem dX12_findMost_197 : decode cX12_findMost 197 = .ok (.iload_n 2, 1) := by decide +kernel
theorem dX12_findMost_198 : decode cX12_findMost 198 = .ok (.iaload, 1) := by decide +kernel
theorem dX12_findMost_199 : decode cX12_findMost 199 = .ok (.iload_n 3, 1) := by decide +kernel
theorem dX12_findMost_200 : decode cX12_findMost 200 = .ok (.invokevirtual 263, 3) := by decide +kernel
theorem dX12_findMost_203 : decode cX12_findMost 203 = .ok (.ifCond .ne 16, 3) := by decide +kernel
theorem dX12_findMost_206 : decode cX12_findMost 206 = .ok (.aload_n 0, 1) := by decide +kernel
theorem dX12_findMost_207 : decode cX12_findMost 207 = .ok (.getfield 64, 3) := by decide +kernel
theorem dX12_findMost_210 : decode cX12_findMost 210 = .ok (.iload_n 2, 1) := by decide +kernel
theorem dX12_findMost_211 : decode cX12_findMost 211 = .ok (.dup2, 1) := by decide +kernel
theorem dX12_findMost_212 : decode cX12_findMost 212 = .ok (.iaload, 1) := by decide +kernel
theorem dX12_findMost_213 : decode cX12_findMost 213 = .ok (.iconst 1, 1) := by decide +kernel
theorem dX12_findMost_214 : decode cX12_findMost 214 = .ok (.iadd, 1) := by decide +kernel
theorem dX12_findMost_215 : decode cX12_findMost 215 = .ok (.iastore, 1) := by decide +kernel
theorem dX12_findMost_216 : decode cX12_findMost 216 = .ok (.goto (-52), 3) := by decide +kernel
theorem dX12_findMost_219 : decode cX12_findMost 219 = .ok (.aload_n 0, 1) := by decide +kernel
theorem dX12_findMost_220 : decode cX12_findMost 220 = .ok (.getfield 64, 3) := by decide +kernel
theorem dX12_findMost_223 : decode cX12_findMost 223 = .ok (.iload_n 2, 1) := by decide +kernel
theorem dX12_findMost_224 : decode cX12_findMost 224 = .ok (.iaload, 1) := by decide +kernel
theorem dX12_findMost_225 : decode cX12_findMost 225 = .ok (.aload_n 0, 1) := by decide +kernel
theorem dX12_findMost_226 : decode cX12_findMost 226 = .ok (.getfield 144, 3) := by decide +kernel
theorem dX12_findMost_229 : decode cX12_findMost 229 = .ok (.if_icmp .lt 9, 3) := by decide +kernel
theorem dX12_findMost_232 : decode cX12_findMost 232 = .ok (.iinc 2 (-1), 3) := by decide +kernel
theorem dX12_findMost_235 : decode cX12_findMost 235 = .ok (.goto (-130), 3) := by decide +kernel
theorem dX12_findMost_238 : decode cX12_findMost 238 = .ok (.iload_n 3, 1) := by decide +kernel
theorem dX12_findMost_239 : decode cX12_findMost 239 = .ok (.aload_n 0, 1) := by decide +kernel
theorem dX12_findMost_240 : decode cX12_findMost 240 = .ok (.getfield 64, 3) := by decide +kernel
theorem dX12_findMost_243 : decode cX12_findMost 243 = .ok (.iload_n 2, 1) := by decide +kernel
theorem dX12_findMost_244 : decode cX12_findMost 244 = .ok (.iaload, 1) := by decide +kernel
theorem dX12_findMost_245 : decode cX12_findMost 245 = .ok (.ifCond .lt 14, 3) := by decide +kernel
theorem dX12_findMost_248 : decode cX12_findMost 248 = .ok (.iconst 1, 1) := by decide +kernel
theorem dX12_findMost_249 : decode cX12_findMost 249 = .ok (.aload_n 0, 1) := by decide +kernel
theorem dX12_findMost_250 : decode cX12_findMost 250 = .ok (.getfield 64, 3) := by decide +kernel
theorem dX12_findMost_253 : decode cX12_findMost 253 = .ok (.iload_n 2, 1) := by decide +kernel
theorem dX12_findMost_254 : decode cX12_findMost 254 = .ok (.iaload, 1) := by decide +kernel
theorem dX12_findMost_255 : decode cX12_findMost 255 = .ok (.ishl, 1) := by decide +kernel
theorem dX12_findMost_256 : decode cX12_findMost 256 = .ok (.goto 4, 3) := by decide +kernel
theorem dX12_findMost_259 : decode cX12_findMost 259 = .ok (.iconst 0, 1) := by decide +kernel
theorem dX12_findMost_260 : decode cX12_findMost 260 = .ok (.ior, 1) := by decide +kernel
theorem dX12_findMost_261 : decode cX12_findMost 261 = .ok (.istore_n 3, 1) := by decide +kernel
theorem dX12_findMost_262 : decode cX12_findMost 262 = .ok (.iinc 2 1, 3) := by decide +kernel
theorem dX12_findMost_265 : decode cX12_findMost 265 = .ok (.aload_n 0, 1) := by decide +kernel
theorem dX12_findMost_266 : decode cX12_findMost 266 = .ok (.getfield 64, 3) := by decide +kernel
theorem dX12_findMost_269 : decode cX12_findMost 269 = .ok (.iload_n 2, 1) := by decide +kernel
theorem dX12_findMost_270 : decode cX12_findMost 270 = .ok (.bipush (-2), 2) := by decide +kernel
theorem dX12_findMost_272 : decode cX12_findMost 272 = .ok (.iastore, 1) := by decide +kernel
theorem dX12_findMost_273 : decode cX12_findMost 273 = .ok (.goto (-168), 3) := by decide +kernel
theorem dX12_findMost_276 : decode cX12_findMost 276 = .ok (.iconst 1, 1) := by decide +kernel
theorem dX12_findMost_277 : decode cX12_findMost 277 = .ok (.istore 4, 2) := by decide +kernel
theorem dX12_findMost_279 : decode cX12_findMost 279 = .ok (.iload 4, 2) := by decide +kernel
theorem dX12_findMost_281 : decode cX12_findMost 281 = .ok (.bipush 13, 2) := by decide +kernel
theorem dX12_findMost_283 : decode cX12_findMost 283 = .ok (.if_icmp .ge 54, 3) := by decide +kernel
theorem dX12_findMost_286 : decode cX12_findMost 286 = .ok (.aload_n 0, 1) := by decide +kernel
theorem dX12_findMost_287 : decode cX12_findMost 287 = .ok (.getfield 67, 3) := by decide +kernel
theorem dX12_findMost_290 : decode cX12_findMost 290 = .ok (.iload 4, 2) := by decide +kernel
theorem dX12_findMost_292 : decode cX12_findMost 292 = .ok (.aload_n 0, 1) := by decide +kernel
theorem dX12_findMost_293 : decode cX12_findMost 293 = .ok (.getfield 67, 3) := by decide +kernel
theorem dX12_findMost_296 : decode cX12_findMost 296 = .ok (.iload 4, 2) := by decide +kernel
theorem dX12_findMost_298 : decode cX12_findMost 298 = .ok (.iconst 1, 1) := by decide +kernel
theorem dX12_findMost_299 : decode cX12_findMost 299 = .ok (.isub, 1) := by decide +kernel
theorem dX12_findMost_300 : decode cX12_findMost 300 = .ok (.iaload, 1) := by decide +kernel
theorem dX12_findMost_301 : decode cX12_findMost 301 = .ok (.aload_n 0, 1) := by decide +kernel
theorem dX12_findMost_302 : decode cX12_findMost 302 = .ok (.getfield 67, 3) := by decide +kernel
theorem dX12_findMost_305 : decode cX12_findMost 305 = .ok (.iload 4, 2) := by decide +kernel
theorem dX12_findMost_307 : decode cX12_findMost 307 = .ok (.iaload, 1) := by decide +kernel
theorem dX12_findMost_308 : decode cX12_findMost 308 = .ok (.if_icmp .le 15, 3) := by decide +kernel
theorem dX12_findMost_311 : decode cX12_findMost 311 = .ok (.aload_n 0, 1) := by decide +kernel
theorem dX12_findMost_312 : decode cX12_findMost 312 = .ok (.getfield 67, 3) := by decide +kernel
theorem dX12_findMost_315 : decode cX12_findMost 315 = .ok (.iload 4, 2) := by decide +kernel
theorem dX12_findMost_317 : decode cX12_findMost 317 = .ok (.iconst 1, 1) := by decide +kernel
theorem dX12_findMost_318 : decode cX12_findMost 318 = .ok (.isub, 1) := by decide +kernel
theorem dX12_findMost_319 : decode cX12_findMost 319 = .ok (.iaload, 1) := by decide +kernel
theorem dX12_findMost_320 : decode cX12_findMost 320 = .ok (.goto 10, 3) := by decide +kernel
theorem dX12_findMost_323 : decode cX12_findMost 323 = .ok (.aload_n 0, 1) := by decide +kernel
theorem dX12_findMost_324 : decode cX12_findMost 324 = .ok (.getfield 67, 3) := by decide +kernel
theorem dX12_findMost_327 : decode cX12_findMost 327 = .ok (.iload 4, 2) := by decide +kernel
theorem dX12_findMost_329 : decode cX12_findMost 329 = .ok (.iaload, 1) := by decide +kernel
theorem dX12_findMost_330 : decode cX12_findMost 330 = .ok (.iastore, 1) := by decide +kernel
theorem dX12_findMost_331 : decode cX12_findMost 331 = .ok (.iinc 4 1, 3) := by decide +kernel
theorem dX12_findMost_334 : decode cX12_findMost 334 = .ok (.goto (-55), 3) := by decide +kernel
theorem dX12_findMost_337 : decode cX12_findMost 337 = .ok (.return_, 1) := by decide +kernel
theorem dX12_isUseful_0 : decode cX12_isUseful 0 = .ok (.iload_n 3, 1) := by decide +kernel
theorem dX12_isUseful_1 : decode cX12_isUseful 1 = .ok (.iload_n 2, 1) := by decide +kernel
theorem dX12_isUseful_2 : decode cX12_isUseful 2 = .ok (.ishr, 1) := by decide +kernel
theorem dX12_isUseful_3 : decode cX12_isUseful 3 = .ok (.iconst 1, 1) := by decide +kernel
theorem dX12_isUseful_4 : decode cX12_isUseful 4 = .ok (.iand, 1) := by decide +kernel
theorem dX12_isUseful_5 : decode cX12_isUseful 5 = .ok (.ifCond .ne 25, 3) := by decide +kernel
theorem dX12_isUseful_8 : decode cX12_isUseful 8 = .ok (.aload_n 0, 1) := by decide +kernel
theorem dX12_isUseful_9 : decode cX12_isUseful 9 = .ok (.iload_n 1, 1) := by decide +kernel
theorem dX12_isUseful_10 : decode cX12_isUseful 10 = .ok (.iload_n 2, 1) := by decide +kernel
theorem dX12_isUseful_11 : decode cX12_isUseful 11 = .ok (.invokevirtual 215, 3) := by decide +kernel
theorem dX12_isUseful_14 : decode cX12_isUseful 14 = .ok (.ifCond .eq 16, 3) := by decide +kernel
theorem dX12_isUseful_17 : decode cX12_isUseful 17 = .ok (.aload_n 0, 1) := by decide +kernel
theorem dX12_isUseful_18 : decode cX12_isUseful 18 = .ok (.iload_n 1, 1) := by decide +kernel
theorem dX12_isUseful_19 : decode cX12_isUseful 19 = .ok (.iload_n 2, 1) := by decide +kernel
theorem dX12_isUseful_20 : decode cX12_isUseful 20 = .ok (.invokevirtual 267, 3) := by decide +kernel
theorem dX12_isUseful_23 : decode cX12_isUseful 23 = .ok (.ifCond .le 7, 3) := by decide +kernel
theorem dX12_isUseful_26 : decode cX12_isUseful 26 = .ok (.iconst 1, 1) := by decide +kernel
theorem dX12_isUseful_27 : decode cX12_isUseful 27 = .ok (.goto 4, 3) := by decide +kernel
theorem dX12_isUseful_30 : decode cX12_isUseful 30 = .ok (.iconst 0, 1) := by decide +kernel
theorem dX12_isUseful_31 : decode cX12_isUseful 31 = .ok (.ireturn, 1) := by decide +kernel
theorem dX12_keepsMost_0 : decode cX12_keepsMost 0 = .ok (.iconst 0, 1) := by decide +kernel
theorem dX12_keepsMost_1 : decode cX12_keepsMost 1 = .ok (.istore_n 2, 1) := by decide +kernel
theorem dX12_keepsMost_2 : decode cX12_keepsMost 2 = .ok (.iconst 0, 1) := by decide +kernel
theorem dX12_keepsMost_3 : decode cX12_keepsMost 3 = .ok (.istore_n 3, 1) := by decide +kernel
theorem dX12_keepsMost_4 : decode cX12_keepsMost 4 = .ok (.iconst 0, 1) := by decide +kernel
theorem dX12_keepsMost_5 : decode cX12_keepsMost 5 = .ok (.istore 4, 2) := by decide +kernel
theorem dX12_keepsMost_7 : decode cX12_keepsMost 7 = .ok (.iconst 0, 1) := by decide +kernel
theorem dX12_keepsMost_8 : decode cX12_keepsMost 8 = .ok (.istore 5, 2) := by decide +kernel
theorem dX12_keepsMost_10 : decode cX12_keepsMost 10 = .ok (.iload 5, 2) := by decide +kernel
theorem dX12_keepsMost_12 : decode cX12_keepsMost 12 = .ok (.aload_n 0, 1) := by decide +kernel
theorem dX12_keepsMost_13 : decode cX12_keepsMost 13 = .ok (.getfield 257, 3) := by decide +kernel
theorem dX12_keepsMost_16 : decode cX12_keepsMost 16 = .ok (.if_icmp .ge 109, 3) := by decide +kernel
theorem dX12_keepsMost_19 : decode cX12_keepsMost 19 = .ok (.aload_n 0, 1) := by decide +kernel
theorem dX12_keepsMost_20 : decode cX12_keepsMost 20 = .ok (.getfield 64, 3) := by decide +kernel
theorem dX12_keepsMost_23 : decode cX12_keepsMost 23 = .ok (.iload 5, 2) := by decide +kernel
theorem dX12_keepsMost_25 : decode cX12_keepsMost 25 = .ok (.iaload, 1) := by decide +kernel
theorem dX12_keepsMost_26 : decode cX12_keepsMost 26 = .ok (.ifCond .lt 93, 3) := by decide +kernel
theorem dX12_keepsMost_29 : decode cX12_keepsMost 29 = .ok (.aload_n 0, 1) := by decide +kernel
theorem dX12_keepsMost_30 : decode cX12_keepsMost 30 = .ok (.getfield 31, 3) := by decide +kernel
theorem dX12_keepsMost_33 : decode cX12_keepsMost 33 = .ok (.iconst 4, 1) := by decide +kernel
theorem dX12_keepsMost_34 : decode cX12_keepsMost 34 = .ok (.aload_n 0, 1) := by decide +kernel
theorem dX12_keepsMost_35 : decode cX12_keepsMost 35 = .ok (.getfield 64, 3) := by decide +kernel
theorem dX12_keepsMost_38 : decode cX12_keepsMost 38 = .ok (.iload 5, 2) := by decide +kernel
theorem dX12_keepsMost_40 : decode cX12_keepsMost 40 = .ok (.iaload, 1) := by decide +kernel
theorem dX12_keepsMost_41 : decode cX12_keepsMost 41 = .ok (.imul, 1) := by decide +kernel
theorem dX12_keepsMost_42 : decode cX12_keepsMost 42 = .ok (.iconst 1, 1) := by decide +kernel
theorem dX12_keepsMost_43 : decode cX12_keepsMost 43 = .ok (.iadd, 1) := by decide +kernel
theorem dX12_keepsMost_44 : decode cX12_keepsMost 44 = .ok (.iaload, 1) := by decide +kernel
theorem dX12_keepsMost_45 : decode cX12_keepsMost 45 = .ok (.iload_n 1, 1) := by decide +kernel
theorem dX12_keepsMost_46 : decode cX12_keepsMost 46 = .ok (.if_icmp .ge 7, 3) := by decide +kernel
theorem dX12_keepsMost_49 : decode cX12_keepsMost 49 = .ok (.iconst 1, 1) := by decide +kernel
theorem dX12_keepsMost_50 : decode cX12_keepsMost 50 = .ok (.goto 4, 3) := by decide +kernel
theorem dX12_keepsMost_53 : decode cX12_keepsMost 53 = .ok (.iconst 0, 1) := by decide +kernel
theorem dX12_keepsMost_54 : decode cX12_keepsMost 54 = .ok (.istore 6, 2) := by decide +kernel
theorem dX12_keepsMost_56 : decode cX12_keepsMost 56 = .ok (.iload_n 2, 1) := by decide +kernel
theorem dX12_keepsMost_57 : decode cX12_keepsMost 57 = .ok (.iload 6, 2) := by decide +kernel
theorem dX12_keepsMost_59 : decode cX12_keepsMost 59 = .ok (.ifCond .eq 24, 3) := by decide +kernel
theorem dX12_keepsMost_62 : decode cX12_keepsMost 62 = .ok (.aload_n 0, 1) := by decide +kernel
theorem dX12_keepsMost_63 : decode cX12_keepsMost 63 = .ok (.aload_n 0, 1) := by decide +kernel
theorem dX12_keepsMost_64 : decode cX12_keepsMost 64 = .ok (.getfield 61, 3) := by decide +kernel
theorem dX12_keepsMost_67 : decode cX12_keepsMost 67 = .ok (.iload 5, 2) := by decide +kernel
theorem dX12_keepsMost_69 : decode cX12_keepsMost 69 = .ok (.iaload, 1) := by decide +kernel
theorem dX12_keepsMost_70 : decode cX12_keepsMost 70 = .ok (.aload_n 0, 1) := by decide +kernel
theorem dX12_keepsMost_71 : decode cX12_keepsMost 71 = .ok (.getfield 64, 3) := by decide +kernel
theorem dX12_keepsMost_74 : decode cX12_keepsMost 74 = .ok (.iload 5, 2) := by decide +kernel
theorem dX12_keepsMost_76 : decode cX12_keepsMost 76 = .ok (.iaload, 1) := by decide +kernel
theorem dX12_keepsMost_77 : decode cX12_keepsMost 77 = .ok (.invokevirtual 267, 3) := by decide +kernel
theorem dX12_keepsMost_80 : decode cX12_keepsMost 80 = .ok (.goto 4, 3) := by decide +kernel
theorem dX12_keepsMost_83 : decode cX12_keepsMost 83 = .ok (.iconst 0, 1) := by decide +kernel
theorem dX12_keepsMost_84 : decode cX12_keepsMost 84 = .ok (.iadd, 1) := by decide +kernel
theorem dX12_keepsMost_85 : decode cX12_keepsMost 85 = .ok (.istore_n 2, 1) := by decide +kernel
theorem dX12_keepsMost_86 : decode cX12_keepsMost 86 = .ok (.iload_n 3, 1) := by decide +kernel
theorem dX12_keepsMost_87 : decode cX12_keepsMost 87 = .ok (.iload 6, 2) := by decide +kernel
theorem dX12_keepsMost_89 : decode cX12_keepsMost 89 = .ok (.ifCond .eq 7, 3) := by decide +kernel
theorem dX12_keepsMost_92 : decode cX12_keepsMost 92 = .ok (.iconst 0, 1) := by decide +kernel
theorem dX12_keepsMost_93 : decode cX12_keepsMost 93 = .ok (.goto 21, 3) := by decide +kernel
theorem dX12_keepsMost_96 : decode cX12_keepsMost 96 = .ok (.aload_n 0, 1) := by decide +kernel
theorem dX12_keepsMost_97 : decode cX12_keepsMost 97 = .ok (.aload_n 0, 1) := by decide +kernel
theorem dX12_keepsMost_98 : decode cX12_keepsMost 98 = .ok (.getfield 61, 3) := by decide +kernel
theorem dX12_keepsMost_101 : decode cX12_keepsMost 101 = .ok (.iload 5, 2) := by decide +kernel
theorem dX12_keepsMost_103 : decode cX12_keepsMost 103 = .ok (.iaload, 1) := by decide +kernel
theorem dX12_keepsMost_104 : decode cX12_keepsMost 104 = .ok (.aload_n 0, 1) := by decide +kernel
theorem dX12_keepsMost_105 : decode cX12_keepsMost 105 = .ok (.getfield 64, 3) := by decide +kernel
theorem dX12_keepsMost_108 : decode cX12_keepsMost 108 = .ok (.iload 5, 2) := by decide +kernel
theorem dX12_keepsMost_110 : decode cX12_keepsMost 110 = .ok (.iaload, 1) := by decide +kernel
theorem dX12_keepsMost_111 : decode cX12_keepsMost 111 = .ok (.invokevirtual 267, 3) := by decide +kernel
theorem dX12_keepsMost_114 : decode cX12_keepsMost 114 = .ok (.iadd, 1) := by decide +kernel
theorem dX12_keepsMost_115 : decode cX12_keepsMost 115 = .ok (.istore_n 3, 1) := by decide +kernel
theorem dX12_keepsMost_116 : decode cX12_keepsMost 116 = .ok (.iinc 4 1, 3) := by decide +kernel
theorem dX12_keepsMost_119 : decode cX12_keepsMost 119 = .ok (.iinc 5 1, 3) := by decide +kernel
theorem dX12_keepsMost_122 : decode cX12_keepsMost 122 = .ok (.goto (-112), 3) := by decide +kernel
theorem dX12_keepsMost_125 : decode cX12_keepsMost 125 = .ok (.aload_n 0, 1) := by decide +kernel
theorem dX12_keepsMost_126 : decode cX12_keepsMost 126 = .ok (.getfield 40, 3) := by decide +kernel
theorem dX12_keepsMost_129 : decode cX12_keepsMost 129 = .ok (.iload_n 1, 1) := by decide +kernel
theorem dX12_keepsMost_130 : decode cX12_keepsMost 130 = .ok (.iaload, 1) := by decide +kernel
theorem dX12_keepsMost_131 : decode cX12_keepsMost 131 = .ok (.istore 5, 2) := by decide +kernel
theorem dX12_keepsMost_133 : decode cX12_keepsMost 133 = .ok (.iload 5, 2) := by decide +kernel
theorem dX12_keepsMost_135 : decode cX12_keepsMost 135 = .ok (.iload_n 2, 1) := by decide +kernel
theorem dX12_keepsMost_136 : decode cX12_keepsMost 136 = .ok (.ifCond .ne 7, 3) := by decide +kernel
theorem dX12_keepsMost_139 : decode cX12_keepsMost 139 = .ok (.iconst 0, 1) := by decide +kernel
theorem dX12_keepsMost_140 : decode cX12_keepsMost 140 = .ok (.goto 27, 3) := by decide +kernel
theorem dX12_keepsMost_143 : decode cX12_keepsMost 143 = .ok (.iload_n 2, 1) := by decide +kernel
theorem dX12_keepsMost_144 : decode cX12_keepsMost 144 = .ok (.aload_n 0, 1) := by decide +kernel
theorem dX12_keepsMost_145 : decode cX12_keepsMost 145 = .ok (.getfield 40, 3) := by decide +kernel
theorem dX12_keepsMost_148 : decode cX12_keepsMost 148 = .ok (.iload_n 1, 1) := by decide +kernel
theorem dX12_keepsMost_149 : decode cX12_keepsMost 149 = .ok (.iconst 1, 1) := by decide +kernel
theorem dX12_keepsMost_150 : decode cX12_keepsMost 150 = .ok (.isub, 1) := by decide +kernel
theorem dX12_keepsMost_151 : decode cX12_keepsMost 151 = .ok (.iaload, 1) := by decide +kernel
theorem dX12_keepsMost_152 : decode cX12_keepsMost 152 = .ok (.if_icmp .ge 7, 3) := by decide +kernel
theorem dX12_keepsMost_155 : decode cX12_keepsMost 155 = .ok (.iload_n 2, 1) := by decide +kernel
theorem dX12_keepsMost_156 : decode cX12_keepsMost 156 = .ok (.goto 11, 3) := by decide +kernel
theorem dX12_keepsMost_159 : decode cX12_keepsMost 159 = .ok (.aload_n 0, 1) := by decide +kernel
theorem dX12_keepsMost_160 : decode cX12_keepsMost 160 = .ok (.getfield 40, 3) := by decide +kernel
theorem dX12_keepsMost_163 : decode cX12_keepsMost 163 = .ok (.iload_n 1, 1) := by decide +kernel
theorem dX12_keepsMost_164 : decode cX12_keepsMost 164 = .ok (.iconst 1, 1) := by decide +kernel
theorem dX12_keepsMost_165 : decode cX12_keepsMost 165 = .ok (.isub, 1) := by decide +kernel
theorem dX12_keepsMost_166 : decode cX12_keepsMost 166 = .ok (.iaload, 1) := by decide +kernel
theorem dX12_keepsMost_167 : decode cX12_keepsMost 167 = .ok (.iadd, 1) := by decide +kernel
theorem dX12_keepsMost_168 : decode cX12_keepsMost 168 = .ok (.istore 5, 2) := by decide +kernel
theorem dX12_keepsMost_170 : decode cX12_keepsMost 170 = .ok (.iload 5, 2) := by decide +kernel
theorem dX12_keepsMost_172 : decode cX12_keepsMost 172 = .ok (.iload_n 3, 1) := by decide +kernel
theorem dX12_keepsMost_173 : decode cX12_keepsMost 173 = .ok (.ifCond .ne 7, 3) := by decide +kernel
theorem dX12_keepsMost_176 : decode cX12_keepsMost 176 = .ok (.iconst 0, 1) := by decide +kernel
theorem dX12_keepsMost_177 : decode cX12_keepsMost 177 = .ok (.goto 27, 3) := by decide +kernel
theorem dX12_keepsMost_180 : decode cX12_keepsMost 180 = .ok (.iload_n 3, 1) := by decide +kernel
theorem dX12_keepsMost_181 : decode cX12_keepsMost 181 = .ok (.aload_n 0, 1) := by decide +kernel
theorem dX12_keepsMost_182 : decode cX12_keepsMost 182 = .ok (.getfield 40, 3) := by decide +kernel
theorem dX12_keepsMost_185 : decode cX12_keepsMost 185 = .ok (.iload_n 1, 1) := by decide +kernel
theorem dX12_keepsMost_186 : decode cX12_keepsMost 186 = .ok (.iconst 1, 1) := by decide +kernel
theorem dX12_keepsMost_187 : decode cX12_keepsMost 187 = .ok (.iadd, 1) := by decide +kernel
theorem dX12_keepsMost_188 : decode cX12_keepsMost 188 = .ok (.iaload, 1) := by decide +kernel
theorem dX12_keepsMost_189 : decode cX12_keepsMost 189 = .ok (.if_icmp .ge 7, 3) := by decide +kernel
theorem dX12_keepsMost_192 : decode cX12_keepsMost 192 = .ok (.iload_n 3, 1) := by decide +kernel
theorem dX12_keepsMost_193 : decode cX12_keepsMost 193 = .ok (.goto 11, 3) := by decide +kernel
theorem dX12_keepsMost_196 : decode cX12_keepsMost 196 = .ok (.aload_n 0, 1) := by decide +kernel
theorem dX12_keepsMost_197 : decode cX12_keepsMost 197 = .ok (.getfield 40, 3) := by decide +kernel
theorem dX12_keepsMost_200 : decode cX12_keepsMost 200 = .ok (.iload_n 1, 1) := by decide +kernel
theorem dX12_keepsMost_201 : decode cX12_keepsMost 201 = .ok (.iconst 1, 1) := by decide +kernel
theorem dX12_keepsMost_202 : decode cX12_keepsMost 202 = .ok (.iadd, 1) := by decide +kernel
theorem dX12_keepsMost_203 : decode cX12_keepsMost 203 = .ok (.iaload, 1) := by decide +kernel
theorem dX12_keepsMost_204 : decode cX12_keepsMost 204 = .ok (.iadd, 1) := by decide +kernel
theorem dX12_keepsMost_205 : decode cX12_keepsMost 205 = .ok (.istore 5, 2) := by decide +kernel
theorem dX12_keepsMost_207 : decode cX12_keepsMost 207 = .ok (.aload_n 0, 1) := by decide +kernel
theorem dX12_keepsMost_208 : decode cX12_keepsMost 208 = .ok (.getfield 67, 3) := by decide +kernel
theorem dX12_keepsMost_211 : decode cX12_keepsMost 211 = .ok (.iload 4, 2) := by decide +kernel
theorem dX12_keepsMost_213 : decode cX12_keepsMost 213 = .ok (.iload 5, 2) := by decide +kernel
theorem dX12_keepsMost_215 : decode cX12_keepsMost 215 = .ok (.aload_n 0, 1) := by decide +kernel
theorem dX12_keepsMost_216 : decode cX12_keepsMost 216 = .ok (.getfield 67, 3) := by decide +kernel
theorem dX12_keepsMost_219 : decode cX12_keepsMost 219 = .ok (.iload 4, 2) := by decide +kernel
theorem dX12_keepsMost_221 : decode cX12_keepsMost 221 = .ok (.iaload, 1) := by decide +kernel
theorem dX12_keepsMost_222 : decode cX12_keepsMost 222 = .ok (.if_icmp .le 8, 3) := by decide +kernel
theorem dX12_keepsMost_225 : decode cX12_keepsMost 225 = .ok (.iload 5, 2) := by decide +kernel
theorem dX12_keepsMost_227 : decode cX12_keepsMost 227 = .ok (.goto 10, 3) := by decide +kernel
theorem dX12_keepsMost_230 : decode cX12_keepsMost 230 = .ok (.aload_n 0, 1) := by decide +kernel
theorem dX12_keepsMost_231 : decode cX12_keepsMost 231 = .ok (.getfield 67, 3) := by decide +kernel
theorem dX12_keepsMost_234 : decode cX12_keepsMost 234 = .ok (.iload 4, 2) := by decide +kernel
theorem dX12_keepsMost_236 : decode cX12_keepsMost 236 = .ok (.iaload, 1) := by decide +kernel
theorem dX12_keepsMost_237 : decode cX12_keepsMost 237 = .ok (.iastore, 1) := by decide +kernel
theorem dX12_keepsMost_238 : decode cX12_keepsMost 238 = .ok (.return_, 1) := by decide +kernel
theorem dX12_reachOf_0 : decode cX12_reachOf 0 = .ok (.aload_n 0, 1) := by decide +kernel
theorem dX12_reachOf_1 : decode cX12_reachOf 1 = .ok (.iload_n 1, 1) := by decide +kernel
theorem dX12_reachOf_2 : decode cX12_reachOf 2 = .ok (.invokevirtual 270, 3) := by decide +kernel
theorem dX12_reachOf_5 : decode cX12_reachOf 5 = .ok (.iconst 0, 1) := by decide +kernel
theorem dX12_reachOf_6 : decode cX12_reachOf 6 = .ok (.istore_n 3, 1) := by decide +kernel
theorem dX12_reachOf_7 : decode cX12_reachOf 7 = .ok (.iload_n 3, 1) := by decide +kernel
theorem dX12_reachOf_8 : decode cX12_reachOf 8 = .ok (.bipush 13, 2) := by decide +kernel
theorem dX12_reachOf_10 : decode cX12_reachOf 10 = .ok (.if_icmp .ge 21, 3) := by decide +kernel
theorem dX12_reachOf_13 : decode cX12_reachOf 13 = .ok (.aload_n 0, 1) := by decide +kernel
theorem dX12_reachOf_14 : decode cX12_reachOf 14 = .ok (.getfield 67, 3) := by decide +kernel
theorem dX12_reachOf_17 : decode cX12_reachOf 17 = .ok (.iload_n 3, 1) := by decide +kernel
theorem dX12_reachOf_18 : decode cX12_reachOf 18 = .ok (.iaload, 1) := by decide +kernel
theorem dX12_reachOf_19 : decode cX12_reachOf 19 = .ok (.iload_n 2, 1) := by decide +kernel
theorem dX12_reachOf_20 : decode cX12_reachOf 20 = .ok (.if_icmp .lt 5, 3) := by decide +kernel
theorem dX12_reachOf_23 : decode cX12_reachOf 23 = .ok (.iload_n 3, 1) := by decide +kernel
theorem dX12_reachOf_24 : decode cX12_reachOf 24 = .ok (.ireturn, 1) := by decide +kernel
theorem dX12_reachOf_25 : decode cX12_reachOf 25 = .ok (.iinc 3 1, 3) := by decide +kernel
theorem dX12_reachOf_28 : decode cX12_reachOf 28 = .ok (.goto (-21), 3) := by decide +kernel
theorem dX12_reachOf_31 : decode cX12_reachOf 31 = .ok (.iconst (-1), 1) := by decide +kernel
theorem dX12_reachOf_32 : decode cX12_reachOf 32 = .ok (.ireturn, 1) := by decide +kernel
theorem dX12_reach_0 : decode cX12_reach 0 = .ok (.aload_n 0, 1) := by decide +kernel
theorem dX12_reach_1 : decode cX12_reach 1 = .ok (.iload_n 1, 1) := by decide +kernel
theorem dX12_reach_2 : decode cX12_reach 2 = .ok (.invokevirtual 245, 3) := by decide +kernel
theorem dX12_reach_5 : decode cX12_reach 5 = .ok (.ifCond .eq 24, 3) := by decide +kernel
theorem dX12_reach_8 : decode cX12_reach 8 = .ok (.iload_n 2, 1) := by decide +kernel
theorem dX12_reach_9 : decode cX12_reach 9 = .ok (.i2l, 1) := by decide +kernel
theorem dX12_reach_10 : decode cX12_reach 10 = .ok (.lconst 0, 1) := by decide +kernel
theorem dX12_reach_11 : decode cX12_reach 11 = .ok (.ldc2_w 273, 3) := by decide +kernel
theorem dX12_reach_14 : decode cX12_reach 14 = .ok (.invokestatic 95, 3) := by decide +kernel
theorem dX12_reach_17 : decode cX12_reach 17 = .ok (.ifCond .eq 12, 3) := by decide +kernel
theorem dX12_reach_20 : decode cX12_reach 20 = .ok (.aload_n 0, 1) := by decide +kernel
theorem dX12_reach_21 : decode cX12_reach 21 = .ok (.iload_n 1, 1) := by decide +kernel
theorem dX12_reach_22 : decode cX12_reach 22 = .ok (.iload_n 2, 1) := by decide +kernel
theorem dX12_reach_23 : decode cX12_reach 23 = .ok (.invokevirtual 275, 3) := by decide +kernel
theorem dX12_reach_26 : decode cX12_reach 26 = .ok (.goto 5, 3) := by decide +kernel
theorem dX12_reach_29 : decode cX12_reach 29 = .ok (.bipush (-2), 2) := by decide +kernel
theorem dX12_reach_31 : decode cX12_reach 31 = .ok (.ireturn, 1) := by decide +kernel
theorem dX12_growsOf_0 : decode cX12_growsOf 0 = .ok (.aload_n 0, 1) := by decide +kernel
theorem dX12_growsOf_1 : decode cX12_growsOf 1 = .ok (.iload_n 1, 1) := by decide +kernel
theorem dX12_growsOf_2 : decode cX12_growsOf 2 = .ok (.invokevirtual 270, 3) := by decide +kernel
theorem dX12_growsOf_5 : decode cX12_growsOf 5 = .ok (.aload_n 0, 1) := by decide +kernel
theorem dX12_growsOf_6 : decode cX12_growsOf 6 = .ok (.getfield 67, 3) := by decide +kernel
theorem dX12_growsOf_9 : decode cX12_growsOf 9 = .ok (.iload_n 2, 1) := by decide +kernel
theorem dX12_growsOf_10 : decode cX12_growsOf 10 = .ok (.iaload, 1) := by decide +kernel
theorem dX12_growsOf_11 : decode cX12_growsOf 11 = .ok (.ireturn, 1) := by decide +kernel
theorem dX12_grows_0 : decode cX12_grows 0 = .ok (.aload_n 0, 1) := by decide +kernel
theorem dX12_grows_1 : decode cX12_grows 1 = .ok (.iload_n 1, 1) := by decide +kernel
theorem dX12_grows_2 : decode cX12_grows 2 = .ok (.invokevirtual 245, 3) := by decide +kernel
theorem dX12_grows_5 : decode cX12_grows 5 = .ok (.ifCond .eq 24, 3) := by decide +kernel
theorem dX12_grows_8 : decode cX12_grows 8 = .ok (.iload_n 2, 1) := by decide +kernel
theorem dX12_grows_9 : decode cX12_grows 9 = .ok (.i2l, 1) := by decide +kernel
theorem dX12_grows_10 : decode cX12_grows 10 = .ok (.lconst 0, 1) := by decide +kernel
theorem dX12_grows_11 : decode cX12_grows 11 = .ok (.ldc2_w 278, 3) := by decide +kernel
theorem dX12_grows_14 : decode cX12_grows 14 = .ok (.invokestatic 95, 3) := by decide +kernel
theorem dX12_grows_17 : decode cX12_grows 17 = .ok (.ifCond .eq 12, 3) := by decide +kernel
theorem dX12_grows_20 : decode cX12_grows 20 = .ok (.aload_n 0, 1) := by decide +kernel
theorem dX12_grows_21 : decode cX12_grows 21 = .ok (.iload_n 1, 1) := by decide +kernel
theorem dX12_grows_22 : decode cX12_grows 22 = .ok (.iload_n 2, 1) := by decide +kernel
theorem dX12_grows_23 : decode cX12_grows 23 = .ok (.invokevirtual 280, 3) := by decide +kernel
theorem dX12_grows_26 : decode cX12_grows 26 = .ok (.goto 5, 3) := by decide +kernel
theorem dX12_grows_29 : decode cX12_grows 29 = .ok (.bipush (-2), 2) := by decide +kernel
theorem dX12_grows_31 : decode cX12_grows 31 = .ok (.ireturn, 1) := by decide +kernel
theorem dX12_wouldLeave_0 : decode cX12_wouldLeave 0 = .ok (.aload_n 0, 1) := by decide +kernel
theorem dX12_wouldLeave_1 : decode cX12_wouldLeave 1 = .ok (.getfield 31, 3) := by decide +kernel
theorem dX12_wouldLeave_4 : decode cX12_wouldLeave 4 = .ok (.iconst 4, 1) := by decide +kernel
theorem dX12_wouldLeave_5 : decode cX12_wouldLeave 5 = .ok (.iload_n 1, 1) := by decide +kernel
theorem dX12_wouldLeave_6 : decode cX12_wouldLeave 6 = .ok (.imul, 1) := by decide +kernel
theorem dX12_wouldLeave_7 : decode cX12_wouldLeave 7 = .ok (.iaload, 1) := by decide +kernel
theorem dX12_wouldLeave_8 : decode cX12_wouldLeave 8 = .ok (.ifCond .ne 45, 3) := by decide +kernel
theorem dX12_wouldLeave_11 : decode cX12_wouldLeave 11 = .ok (.aload_n 0, 1) := by decide +kernel
theorem dX12_wouldLeave_12 : decode cX12_wouldLeave 12 = .ok (.getfield 31, 3) := by decide +kernel
theorem dX12_wouldLeave_15 : decode cX12_wouldLeave 15 = .ok (.iconst 4, 1) := by decide +kernel
theorem dX12_wouldLeave_16 : decode cX12_wouldLeave 16 = .ok (.iload_n 2, 1) := by decide +kernel
theorem dX12_wouldLeave_17 : decode cX12_wouldLeave 17 = .ok (.imul, 1) := by decide +kernel
theorem dX12_wouldLeave_18 : decode cX12_wouldLeave 18 = .ok (.iaload, 1) := by decide +kernel
theorem dX12_wouldLeave_19 : decode cX12_wouldLeave 19 = .ok (.iconst 1, 1) := by decide +kernel
theorem dX12_wouldLeave_20 : decode cX12_wouldLeave 20 = .ok (.if_icmp .ne 33, 3) := by decide +kernel
theorem dX12_wouldLeave_23 : decode cX12_wouldLeave 23 = .ok (.aload_n 0, 1) := by decide +kernel
theorem dX12_wouldLeave_24 : decode cX12_wouldLeave 24 = .ok (.getfield 43, 3) := by decide +kernel
theorem dX12_wouldLeave_27 : decode cX12_wouldLeave 27 = .ok (.iload_n 1, 1) := by decide +kernel
theorem dX12_wouldLeave_28 : decode cX12_wouldLeave 28 = .ok (.iaload, 1) := by decide +kernel
theorem dX12_wouldLeave_29 : decode cX12_wouldLeave 29 = .ok (.iconst (-1), 1) := by decide +kernel
theorem dX12_wouldLeave_30 : decode cX12_wouldLeave 30 = .ok (.if_icmp .eq 23, 3) := by decide +kernel
theorem dX12_wouldLeave_33 : decode cX12_wouldLeave 33 = .ok (.aload_n 0, 1) := by decide +kernel
theorem dX12_wouldLeave_34 : decode cX12_wouldLeave 34 = .ok (.getfield 43, 3) := by decide +kernel
theorem dX12_wouldLeave_37 : decode cX12_wouldLeave 37 = .ok (.iload_n 2, 1) := by decide +kernel
theorem dX12_wouldLeave_38 : decode cX12_wouldLeave 38 = .ok (.iaload, 1) := by decide +kernel
theorem dX12_wouldLeave_39 : decode cX12_wouldLeave 39 = .ok (.iconst (-1), 1) := by decide +kernel
theorem dX12_wouldLeave_40 : decode cX12_wouldLeave 40 = .ok (.if_icmp .eq 13, 3) := by decide +kernel
theorem dX12_wouldLeave_43 : decode cX12_wouldLeave 43 = .ok (.aload_n 0, 1) := by decide +kernel
theorem dX12_wouldLeave_44 : decode cX12_wouldLeave 44 = .ok (.getfield 43, 3) := by decide +kernel
theorem dX12_wouldLeave_47 : decode cX12_wouldLeave 47 = .ok (.iload_n 1, 1) := by decide +kernel
theorem dX12_wouldLeave_48 : decode cX12_wouldLeave 48 = .ok (.iaload, 1) := by decide +kernel
theorem dX12_wouldLeave_49 : decode cX12_wouldLeave 49 = .ok (.iload_n 2, 1) := by decide +kernel
theorem dX12_wouldLeave_50 : decode cX12_wouldLeave 50 = .ok (.if_icmp .ne 5, 3) := by decide +kernel
theorem dX12_wouldLeave_53 : decode cX12_wouldLeave 53 = .ok (.iconst 0, 1) := by decide +kernel
theorem dX12_wouldLeave_54 : decode cX12_wouldLeave 54 = .ok (.ireturn, 1) := by decide +kernel
theorem dX12_wouldLeave_55 : decode cX12_wouldLeave 55 = .ok (.aload_n 0, 1) := by decide +kernel
theorem dX12_wouldLeave_56 : decode cX12_wouldLeave 56 = .ok (.getfield 31, 3) := by decide +kernel
theorem dX12_wouldLeave_59 : decode cX12_wouldLeave 59 = .ok (.iconst 4, 1) := by decide +kernel
theorem dX12_wouldLeave_60 : decode cX12_wouldLeave 60 = .ok (.iload_n 1, 1) := by decide +kernel
theorem dX12_wouldLeave_61 : decode cX12_wouldLeave 61 = .ok (.imul, 1) := by decide +kernel
theorem dX12_wouldLeave_62 : decode cX12_wouldLeave 62 = .ok (.iconst 1, 1) := by decide +kernel
theorem dX12_wouldLeave_63 : decode cX12_wouldLeave 63 = .ok (.iadd, 1) := by decide +kernel
theorem dX12_wouldLeave_64 : decode cX12_wouldLeave 64 = .ok (.iaload, 1) := by decide +kernel
theorem dX12_wouldLeave_65 : decode cX12_wouldLeave 65 = .ok (.aload_n 0, 1) := by decide +kernel
theorem dX12_wouldLeave_66 : decode cX12_wouldLeave 66 = .ok (.getfield 31, 3) := by decide +kernel
theorem dX12_wouldLeave_69 : decode cX12_wouldLeave 69 = .ok (.iconst 4, 1) := by decide +kernel
theorem dX12_wouldLeave_70 : decode cX12_wouldLeave 70 = .ok (.iload_n 2, 1) := by decide +kernel
theorem dX12_wouldLeave_71 : decode cX12_wouldLeave 71 = .ok (.imul, 1) := by decide +kernel
theorem dX12_wouldLeave_72 : decode cX12_wouldLeave 72 = .ok (.iconst 1, 1) := by decide +kernel
theorem dX12_wouldLeave_73 : decode cX12_wouldLeave 73 = .ok (.iadd, 1) := by decide +kernel
theorem dX12_wouldLeave_74 : decode cX12_wouldLeave 74 = .ok (.iaload, 1) := by decide +kernel
theorem dX12_wouldLeave_75 : decode cX12_wouldLeave 75 = .ok (.isub, 1) := by decide +kernel
theorem dX12_wouldLeave_76 : decode cX12_wouldLeave 76 = .ok (.istore_n 3, 1) := by decide +kernel
theorem dX12_wouldLeave_77 : decode cX12_wouldLeave 77 = .ok (.iload_n 3, 1) := by decide +kernel
theorem dX12_wouldLeave_78 : decode cX12_wouldLeave 78 = .ok (.iconst 1, 1) := by decide +kernel
theorem dX12_wouldLeave_79 : decode cX12_wouldLeave 79 = .ok (.if_icmp .eq 8, 3) := by decide +kernel
theorem dX12_wouldLeave_82 : decode cX12_wouldLeave 82 = .ok (.iload_n 3, 1) := by decide +kernel
theorem dX12_wouldLeave_83 : decode cX12_wouldLeave 83 = .ok (.iconst (-1), 1) := by decide +kernel
theorem dX12_wouldLeave_84 : decode cX12_wouldLeave 84 = .ok (.if_icmp .ne 7, 3) := by decide +kernel
theorem dX12_wouldLeave_87 : decode cX12_wouldLeave 87 = .ok (.iconst 1, 1) := by decide +kernel
theorem dX12_wouldLeave_88 : decode cX12_wouldLeave 88 = .ok (.goto 4, 3) := by decide +kernel
theorem dX12_wouldLeave_91 : decode cX12_wouldLeave 91 = .ok (.iconst 0, 1) := by decide +kernel
theorem dX12_wouldLeave_92 : decode cX12_wouldLeave 92 = .ok (.istore 4, 2) := by decide +kernel
theorem dX12_wouldLeave_94 : decode cX12_wouldLeave 94 = .ok (.iload 4, 2) := by decide +kernel
theorem dX12_wouldLeave_96 : decode cX12_wouldLeave 96 = .ok (.ifCond .eq 63, 3) := by decide +kernel
theorem dX12_wouldLeave_99 : decode cX12_wouldLeave 99 = .ok (.aload_n 0, 1) := by decide +kernel
theorem dX12_wouldLeave_100 : decode cX12_wouldLeave 100 = .ok (.getfield 31, 3) := by decide +kernel
theorem dX12_wouldLeave_103 : decode cX12_wouldLeave 103 = .ok (.iconst 4, 1) := by decide +kernel
theorem dX12_wouldLeave_104 : decode cX12_wouldLeave 104 = .ok (.iload_n 1, 1) := by decide +kernel
theorem dX12_wouldLeave_105 : decode cX12_wouldLeave 105 = .ok (.imul, 1) := by decide +kernel
theorem dX12_wouldLeave_106 : decode cX12_wouldLeave 106 = .ok (.iconst 2, 1) := by decide +kernel
theorem dX12_wouldLeave_107 : decode cX12_wouldLeave 107 = .ok (.iadd, 1) := by decide +kernel
theorem dX12_wouldLeave_108 : decode cX12_wouldLeave 108 = .ok (.iaload, 1) := by decide +kernel
theorem dX12_wouldLeave_109 : decode cX12_wouldLeave 109 = .ok (.aload_n 0, 1) := by decide +kernel
theorem dX12_wouldLeave_110 : decode cX12_wouldLeave 110 = .ok (.getfield 31, 3) := by decide +kernel
theorem dX12_wouldLeave_113 : decode cX12_wouldLeave 113 = .ok (.iconst 4, 1) := by decide +kernel
theorem dX12_wouldLeave_114 : decode cX12_wouldLeave 114 = .ok (.aload_n 0, 1) := by decide +kernel
theorem dX12_wouldLeave_115 : decode cX12_wouldLeave 115 = .ok (.getfield 43, 3) := by decide +kernel
theorem dX12_wouldLeave_118 : decode cX12_wouldLeave 118 = .ok (.iload_n 2, 1) := by decide +kernel
theorem dX12_wouldLeave_119 : decode cX12_wouldLeave 119 = .ok (.iaload, 1) := by decide +kernel
theorem dX12_wouldLeave_120 : decode cX12_wouldLeave 120 = .ok (.imul, 1) := by decide +kernel
theorem dX12_wouldLeave_121 : decode cX12_wouldLeave 121 = .ok (.iconst 2, 1) := by decide +kernel
theorem dX12_wouldLeave_122 : decode cX12_wouldLeave 122 = .ok (.iadd, 1) := by decide +kernel
theorem dX12_wouldLeave_123 : decode cX12_wouldLeave 123 = .ok (.iaload, 1) := by decide +kernel
theorem dX12_wouldLeave_124 : decode cX12_wouldLeave 124 = .ok (.if_icmp .ge 35, 3) := by decide +kernel
theorem dX12_wouldLeave_127 : decode cX12_wouldLeave 127 = .ok (.aload_n 0, 1) := by decide +kernel
theorem dX12_wouldLeave_128 : decode cX12_wouldLeave 128 = .ok (.getfield 31, 3) := by decide +kernel
theorem dX12_wouldLeave_131 : decode cX12_wouldLeave 131 = .ok (.iconst 4, 1) := by decide +kernel
theorem dX12_wouldLeave_132 : decode cX12_wouldLeave 132 = .ok (.iload_n 2, 1) := by decide +kernel
theorem dX12_wouldLeave_133 : decode cX12_wouldLeave 133 = .ok (.imul, 1) := by decide +kernel
theorem dX12_wouldLeave_134 : decode cX12_wouldLeave 134 = .ok (.iconst 2, 1) := by decide +kernel
theorem dX12_wouldLeave_135 : decode cX12_wouldLeave 135 = .ok (.iadd, 1) := by decide +kernel
theorem dX12_wouldLeave_136 : decode cX12_wouldLeave 136 = .ok (.iaload, 1) := by decide +kernel
theorem dX12_wouldLeave_137 : decode cX12_wouldLeave 137 = .ok (.aload_n 0, 1) := by decide +kernel
theorem dX12_wouldLeave_138 : decode cX12_wouldLeave 138 = .ok (.getfield 31, 3) := by decide +kernel
theorem dX12_wouldLeave_141 : decode cX12_wouldLeave 141 = .ok (.iconst 4, 1) := by decide +kernel
theorem dX12_wouldLeave_142 : decode cX12_wouldLeave 142 = .ok (.aload_n 0, 1) := by decide +kernel
theorem dX12_wouldLeave_143 : decode cX12_wouldLeave 143 = .ok (.getfield 43, 3) := by decide +kernel
theorem dX12_wouldLeave_146 : decode cX12_wouldLeave 146 = .ok (.iload_n 1, 1) := by decide +kernel
theorem dX12_wouldLeave_147 : decode cX12_wouldLeave 147 = .ok (.iaload, 1) := by decide +kernel
theorem dX12_wouldLeave_148 : decode cX12_wouldLeave 148 = .ok (.imul, 1) := by decide +kernel
theorem dX12_wouldLeave_149 : decode cX12_wouldLeave 149 = .ok (.iconst 2, 1) := by decide +kernel
theorem dX12_wouldLeave_150 : decode cX12_wouldLeave 150 = .ok (.iadd, 1) := by decide +kernel
theorem dX12_wouldLeave_151 : decode cX12_wouldLeave 151 = .ok (.iaload, 1) := by decide +kernel
theorem dX12_wouldLeave_152 : decode cX12_wouldLeave 152 = .ok (.if_icmp .ge 7, 3) := by decide +kernel
theorem dX12_wouldLeave_155 : decode cX12_wouldLeave 155 = .ok (.iconst 1, 1) := by decide +kernel
theorem dX12_wouldLeave_156 : decode cX12_wouldLeave 156 = .ok (.goto 4, 3) := by decide +kernel
theorem dX12_wouldLeave_159 : decode cX12_wouldLeave 159 = .ok (.iconst 0, 1) := by decide +kernel
theorem dX12_wouldLeave_160 : decode cX12_wouldLeave 160 = .ok (.ireturn, 1) := by decide +kernel
theorem dX12_leaveNow_0 : decode cX12_leaveNow 0 = .ok (.aload_n 0, 1) := by decide +kernel
theorem dX12_leaveNow_1 : decode cX12_leaveNow 1 = .ok (.invokevirtual 242, 3) := by decide +kernel
theorem dX12_leaveNow_4 : decode cX12_leaveNow 4 = .ok (.iconst 0, 1) := by decide +kernel
theorem dX12_leaveNow_5 : decode cX12_leaveNow 5 = .ok (.istore_n 1, 1) := by decide +kernel
theorem dX12_leaveNow_6 : decode cX12_leaveNow 6 = .ok (.iconst 0, 1) := by decide +kernel
theorem dX12_leaveNow_7 : decode cX12_leaveNow 7 = .ok (.istore_n 2, 1) := by decide +kernel
theorem dX12_leaveNow_8 : decode cX12_leaveNow 8 = .ok (.iload_n 2, 1) := by decide +kernel
theorem dX12_leaveNow_9 : decode cX12_leaveNow 9 = .ok (.aload_n 0, 1) := by decide +kernel
theorem dX12_leaveNow_10 : decode cX12_leaveNow 10 = .ok (.getfield 144, 3) := by decide +kernel
theorem dX12_leaveNow_13 : decode cX12_leaveNow 13 = .ok (.if_icmp .ge 42, 3) := by decide +kernel
theorem dX12_leaveNow_16 : decode cX12_leaveNow 16 = .ok (.iconst 0, 1) := by decide +kernel
theorem dX12_leaveNow_17 : decode cX12_leaveNow 17 = .ok (.istore_n 3, 1) := by decide +kernel
theorem dX12_leaveNow_18 : decode cX12_leaveNow 18 = .ok (.iload_n 3, 1) := by decide +kernel
theorem dX12_leaveNow_19 : decode cX12_leaveNow 19 = .ok (.aload_n 0, 1) := by decide +kernel
theorem dX12_leaveNow_20 : decode cX12_leaveNow 20 = .ok (.getfield 144, 3) := by decide +kernel
theorem dX12_leaveNow_23 : decode cX12_leaveNow 23 = .ok (.if_icmp .ge 26, 3) := by decide +kernel
theorem dX12_leaveNow_26 : decode cX12_leaveNow 26 = .ok (.iload_n 1, 1) := by decide +kernel
theorem dX12_leaveNow_27 : decode cX12_leaveNow 27 = .ok (.aload_n 0, 1) := by decide +kernel
theorem dX12_leaveNow_28 : decode cX12_leaveNow 28 = .ok (.iload_n 2, 1) := by decide +kernel
theorem dX12_leaveNow_29 : decode cX12_leaveNow 29 = .ok (.iload_n 3, 1) := by decide +kernel
theorem dX12_leaveNow_30 : decode cX12_leaveNow 30 = .ok (.invokevirtual 283, 3) := by decide +kernel
theorem dX12_leaveNow_33 : decode cX12_leaveNow 33 = .ok (.ifCond .eq 7, 3) := by decide +kernel
theorem dX12_leaveNow_36 : decode cX12_leaveNow 36 = .ok (.iconst 1, 1) := by decide +kernel
theorem dX12_leaveNow_37 : decode cX12_leaveNow 37 = .ok (.goto 4, 3) := by decide +kernel
theorem dX12_leaveNow_40 : decode cX12_leaveNow 40 = .ok (.iconst 0, 1) := by decide +kernel
theorem dX12_leaveNow_41 : decode cX12_leaveNow 41 = .ok (.iadd, 1) := by decide +kernel
theorem dX12_leaveNow_42 : decode cX12_leaveNow 42 = .ok (.istore_n 1, 1) := by decide +kernel
theorem dX12_leaveNow_43 : decode cX12_leaveNow 43 = .ok (.iinc 3 1, 3) := by decide +kernel
theorem dX12_leaveNow_46 : decode cX12_leaveNow 46 = .ok (.goto (-28), 3) := by decide +kernel
theorem dX12_leaveNow_49 : decode cX12_leaveNow 49 = .ok (.iinc 2 1, 3) := by decide +kernel
theorem dX12_leaveNow_52 : decode cX12_leaveNow 52 = .ok (.goto (-44), 3) := by decide +kernel
theorem dX12_leaveNow_55 : decode cX12_leaveNow 55 = .ok (.iload_n 1, 1) := by decide +kernel
theorem dX12_leaveNow_56 : decode cX12_leaveNow 56 = .ok (.ireturn, 1) := by decide +kernel
theorem dX12_leave_0 : decode cX12_leave 0 = .ok (.aload_n 0, 1) := by decide +kernel
theorem dX12_leave_1 : decode cX12_leave 1 = .ok (.invokevirtual 163, 3) := by decide +kernel
theorem dX12_leave_4 : decode cX12_leave 4 = .ok (.aload_n 0, 1) := by decide +kernel
theorem dX12_leave_5 : decode cX12_leave 5 = .ok (.invokevirtual 286, 3) := by decide +kernel
theorem dX12_leave_8 : decode cX12_leave 8 = .ok (.ireturn, 1) := by decide +kernel
theorem dX12_survey_0 : decode cX12_survey 0 = .ok (.iload_n 1, 1) := by decide +kernel
theorem dX12_survey_1 : decode cX12_survey 1 = .ok (.i2l, 1) := by decide +kernel
theorem dX12_survey_2 : decode cX12_survey 2 = .ok (.lconst 0, 1) := by decide +kernel
theorem dX12_survey_3 : decode cX12_survey 3 = .ok (.ldc2_w 290, 3) := by decide +kernel
theorem dX12_survey_6 : decode cX12_survey 6 = .ok (.invokestatic 95, 3) := by decide +kernel
theorem dX12_survey_9 : decode cX12_survey 9 = .ok (.ifCond .eq 27, 3) := by decide +kernel
theorem dX12_survey_12 : decode cX12_survey 12 = .ok (.iload_n 2, 1) := by decide +kernel
theorem dX12_survey_13 : decode cX12_survey 13 = .ok (.i2l, 1) := by decide +kernel
theorem dX12_survey_14 : decode cX12_survey 14 = .ok (.lconst 0, 1) := by decide +kernel
theorem dX12_survey_15 : decode cX12_survey 15 = .ok (.ldc2_w 292, 3) := by decide +kernel
theorem dX12_survey_18 : decode cX12_survey 18 = .ok (.invokestatic 95, 3) := by decide +kernel
theorem dX12_survey_21 : decode cX12_survey 21 = .ok (.ifCond .eq 15, 3) := by decide +kernel
theorem dX12_survey_24 : decode cX12_survey 24 = .ok (.iload_n 3, 1) := by decide +kernel
theorem dX12_survey_25 : decode cX12_survey 25 = .ok (.i2l, 1) := by decide +kernel
theorem dX12_survey_26 : decode cX12_survey 26 = .ok (.lconst 0, 1) := by decide +kernel
theorem dX12_survey_27 : decode cX12_survey 27 = .ok (.ldc2_w 273, 3) := by decide +kernel
theorem dX12_survey_30 : decode cX12_survey 30 = .ok (.invokestatic 95, 3) := by decide +kernel
theorem dX12_survey_33 : decode cX12_survey 33 = .ok (.ifCond .ne 6, 3) := by decide +kernel
theorem dX12_survey_36 : decode cX12_survey 36 = .ok (.bipush (-2), 2) := by decide +kernel
theorem dX12_survey_38 : decode cX12_survey 38 = .ok (.ireturn, 1) := by decide +kernel
theorem dX12_survey_39 : decode cX12_survey 39 = .ok (.aload_n 0, 1) := by decide +kernel
theorem dX12_survey_40 : decode cX12_survey 40 = .ok (.getfield 294, 3) := by decide +kernel
theorem dX12_survey_43 : decode cX12_survey 43 = .ok (.bipush 8, 2) := by decide +kernel
theorem dX12_survey_45 : decode cX12_survey 45 = .ok (.if_icmp .ne 6, 3) := by decide +kernel
theorem dX12_survey_48 : decode cX12_survey 48 = .ok (.bipush (-4), 2) := by decide +kernel
theorem dX12_survey_50 : decode cX12_survey 50 = .ok (.ireturn, 1) := by decide +kernel
theorem dX12_survey_51 : decode cX12_survey 51 = .ok (.aload_n 0, 1) := by decide +kernel
theorem dX12_survey_52 : decode cX12_survey 52 = .ok (.getfield 70, 3) := by decide +kernel
theorem dX12_survey_55 : decode cX12_survey 55 = .ok (.iconst 3, 1) := by decide +kernel
theorem dX12_survey_56 : decode cX12_survey 56 = .ok (.aload_n 0, 1) := by decide +kernel
theorem dX12_survey_57 : decode cX12_survey 57 = .ok (.getfield 294, 3) := by decide +kernel
theorem dX12_survey_60 : decode cX12_survey 60 = .ok (.imul, 1) := by decide +kernel
theorem dX12_survey_61 : decode cX12_survey 61 = .ok (.iload_n 1, 1) := by decide +kernel
theorem dX12_survey_62 : decode cX12_survey 62 = .ok (.iastore, 1) := by decide +kernel
theorem dX12_survey_63 : decode cX12_survey 63 = .ok (.aload_n 0, 1) := by decide +kernel
theorem dX12_survey_64 : decode cX12_survey 64 = .ok (.getfield 70, 3) := by decide +kernel
theorem dX12_survey_67 : decode cX12_survey 67 = .ok (.iconst 3, 1) := by decide +kernel
theorem dX12_survey_68 : decode cX12_survey 68 = .ok (.aload_n 0, 1) := by decide +kernel
theorem dX12_survey_69 : decode cX12_survey 69 = .ok (.getfield 294, 3) := by decide +kernel
theorem dX12_survey_72 : decode cX12_survey 72 = .ok (.imul, 1) := by decide +kernel
theorem dX12_survey_73 : decode cX12_survey 73 = .ok (.iconst 1, 1) := by decide +kernel
theorem dX12_survey_74 : decode cX12_survey 74 = .ok (.iadd, 1) := by decide +kernel
theorem dX12_survey_75 : decode cX12_survey 75 = .ok (.iload_n 2, 1) := by decide +kernel
theorem dX12_survey_76 : decode cX12_survey 76 = .ok (.iastore, 1) := by decide +kernel
theorem dX12_survey_77 : decode cX12_survey 77 = .ok (.aload_n 0, 1) := by decide +kernel
theorem dX12_survey_78 : decode cX12_survey 78 = .ok (.getfield 70, 3) := by decide +kernel
theorem dX12_survey_81 : decode cX12_survey 81 = .ok (.iconst 3, 1) := by decide +kernel
theorem dX12_survey_82 : decode cX12_survey 82 = .ok (.aload_n 0, 1) := by decide +kernel
theorem dX12_survey_83 : decode cX12_survey 83 = .ok (.getfield 294, 3) := by decide +kernel
theorem dX12_survey_86 : decode cX12_survey 86 = .ok (.imul, 1) := by decide +kernel
theorem dX12_survey_87 : decode cX12_survey 87 = .ok (.iconst 2, 1) := by decide +kernel
theorem dX12_survey_88 : decode cX12_survey 88 = .ok (.iadd, 1) := by decide +kernel
theorem dX12_survey_89 : decode cX12_survey 89 = .ok (.iload_n 3, 1) := by decide +kernel
theorem dX12_survey_90 : decode cX12_survey 90 = .ok (.iastore, 1) := by decide +kernel
theorem dX12_survey_91 : decode cX12_survey 91 = .ok (.aload_n 0, 1) := by decide +kernel
theorem dX12_survey_92 : decode cX12_survey 92 = .ok (.dup, 1) := by decide +kernel
theorem dX12_survey_93 : decode cX12_survey 93 = .ok (.getfield 294, 3) := by decide +kernel
theorem dX12_survey_96 : decode cX12_survey 96 = .ok (.iconst 1, 1) := by decide +kernel
theorem dX12_survey_97 : decode cX12_survey 97 = .ok (.iadd, 1) := by decide +kernel
theorem dX12_survey_98 : decode cX12_survey 98 = .ok (.putfield 294, 3) := by decide +kernel
theorem dX12_survey_101 : decode cX12_survey 101 = .ok (.aload_n 0, 1) := by decide +kernel
theorem dX12_survey_102 : decode cX12_survey 102 = .ok (.getfield 294, 3) := by decide +kernel
theorem dX12_survey_105 : decode cX12_survey 105 = .ok (.ireturn, 1) := by decide +kernel
theorem dX12_forget_0 : decode cX12_forget 0 = .ok (.aload_n 0, 1) := by decide +kernel
theorem dX12_forget_1 : decode cX12_forget 1 = .ok (.getfield 294, 3) := by decide +kernel
theorem dX12_forget_4 : decode cX12_forget 4 = .ok (.istore_n 1, 1) := by decide +kernel
theorem dX12_forget_5 : decode cX12_forget 5 = .ok (.aload_n 0, 1) := by decide +kernel
theorem dX12_forget_6 : decode cX12_forget 6 = .ok (.iconst 0, 1) := by decide +kernel
theorem dX12_forget_7 : decode cX12_forget 7 = .ok (.putfield 294, 3) := by decide +kernel
theorem dX12_forget_10 : decode cX12_forget 10 = .ok (.iload_n 1, 1) := by decide +kernel
theorem dX12_forget_11 : decode cX12_forget 11 = .ok (.ireturn, 1) := by decide +kernel
theorem dX12_canBeAsked_0 : decode cX12_canBeAsked 0 = .ok (.aload_n 0, 1) := by decide +kernel
theorem dX12_canBeAsked_1 : decode cX12_canBeAsked 1 = .ok (.getfield 70, 3) := by decide +kernel
theorem dX12_canBeAsked_4 : decode cX12_canBeAsked 4 = .ok (.iconst 3, 1) := by decide +kernel
theorem dX12_canBeAsked_5 : decode cX12_canBeAsked 5 = .ok (.iload_n 1, 1) := by decide +kernel
theorem dX12_canBeAsked_6 : decode cX12_canBeAsked 6 = .ok (.imul, 1) := by decide +kernel
theorem dX12_canBeAsked_7 : decode cX12_canBeAsked 7 = .ok (.iaload, 1) := by decide +kernel
theorem dX12_canBeAsked_8 : decode cX12_canBeAsked 8 = .ok (.aload_n 0, 1) := by decide +kernel
theorem dX12_canBeAsked_9 : decode cX12_canBeAsked 9 = .ok (.getfield 138, 3) := by decide +kernel
theorem dX12_canBeAsked_12 : decode cX12_canBeAsked 12 = .ok (.if_icmp .ge 24, 3) := by decide +kernel
theorem dX12_canBeAsked_15 : decode cX12_canBeAsked 15 = .ok (.aload_n 0, 1) := by decide +kernel
theorem dX12_canBeAsked_16 : decode cX12_canBeAsked 16 = .ok (.getfield 70, 3) := by decide +kernel
theorem dX12_canBeAsked_19 : decode cX12_canBeAsked 19 = .ok (.iconst 3, 1) := by decide +kernel
theorem dX12_canBeAsked_20 : decode cX12_canBeAsked 20 = .ok (.iload_n 1, 1) := by decide +kernel
theorem dX12_canBeAsked_21 : decode cX12_canBeAsked 21 = .ok (.imul, 1) := by decide +kernel
theorem dX12_canBeAsked_22 : decode cX12_canBeAsked 22 = .ok (.iconst 1, 1) := by decide +kernel
theorem dX12_canBeAsked_23 : decode cX12_canBeAsked 23 = .ok (.iadd, 1) := by decide +kernel
theorem dX12_canBeAsked_24 : decode cX12_canBeAsked 24 = .ok (.iaload, 1) := by decide +kernel
theorem dX12_canBeAsked_25 : decode cX12_canBeAsked 25 = .ok (.aload_n 0, 1) := by decide +kernel
theorem dX12_canBeAsked_26 : decode cX12_canBeAsked 26 = .ok (.getfield 184, 3) := by decide +kernel
theorem dX12_canBeAsked_29 : decode cX12_canBeAsked 29 = .ok (.if_icmp .gt 7, 3) := by decide +kernel
theorem dX12_canBeAsked_32 : decode cX12_canBeAsked 32 = .ok (.iconst 1, 1) := by decide +kernel
theorem dX12_canBeAsked_33 : decode cX12_canBeAsked 33 = .ok (.goto 4, 3) := by decide +kernel
theorem dX12_canBeAsked_36 : decode cX12_canBeAsked 36 = .ok (.iconst 0, 1) := by decide +kernel
theorem dX12_canBeAsked_37 : decode cX12_canBeAsked 37 = .ok (.ireturn, 1) := by decide +kernel
theorem dX12_isRight_0 : decode cX12_isRight 0 = .ok (.aload_n 0, 1) := by decide +kernel
theorem dX12_isRight_1 : decode cX12_isRight 1 = .ok (.aload_n 0, 1) := by decide +kernel
theorem dX12_isRight_2 : decode cX12_isRight 2 = .ok (.getfield 70, 3) := by decide +kernel
theorem dX12_isRight_5 : decode cX12_isRight 5 = .ok (.iconst 3, 1) := by decide +kernel
theorem dX12_isRight_6 : decode cX12_isRight 6 = .ok (.iload_n 1, 1) := by decide +kernel
theorem dX12_isRight_7 : decode cX12_isRight 7 = .ok (.imul, 1) := by decide +kernel
theorem dX12_isRight_8 : decode cX12_isRight 8 = .ok (.iaload, 1) := by decide +kernel
theorem dX12_isRight_9 : decode cX12_isRight 9 = .ok (.aload_n 0, 1) := by decide +kernel
theorem dX12_isRight_10 : decode cX12_isRight 10 = .ok (.getfield 70, 3) := by decide +kernel
theorem dX12_isRight_13 : decode cX12_isRight 13 = .ok (.iconst 3, 1) := by decide +kernel
theorem dX12_isRight_14 : decode cX12_isRight 14 = .ok (.iload_n 1, 1) := by decide +kernel
theorem dX12_isRight_15 : decode cX12_isRight 15 = .ok (.imul, 1) := by decide +kernel
theorem dX12_isRight_16 : decode cX12_isRight 16 = .ok (.iconst 1, 1) := by decide +kernel
theorem dX12_isRight_17 : decode cX12_isRight 17 = .ok (.iadd, 1) := by decide +kernel
theorem dX12_isRight_18 : decode cX12_isRight 18 = .ok (.iaload, 1) := by decide +kernel
theorem dX12_isRight_19 : decode cX12_isRight 19 = .ok (.iconst (-1), 1) := by decide +kernel
theorem dX12_isRight_20 : decode cX12_isRight 20 = .ok (.invokevirtual 251, 3) := by decide +kernel
theorem dX12_isRight_23 : decode cX12_isRight 23 = .ok (.aload_n 0, 1) := by decide +kernel
theorem dX12_isRight_24 : decode cX12_isRight 24 = .ok (.getfield 70, 3) := by decide +kernel
theorem dX12_isRight_27 : decode cX12_isRight 27 = .ok (.iconst 3, 1) := by decide +kernel
theorem dX12_isRight_28 : decode cX12_isRight 28 = .ok (.iload_n 1, 1) := by decide +kernel
theorem dX12_isRight_29 : decode cX12_isRight 29 = .ok (.imul, 1) := by decide +kernel
theorem dX12_isRight_30 : decode cX12_isRight 30 = .ok (.iconst 2, 1) := by decide +kernel
theorem dX12_isRight_31 : decode cX12_isRight 31 = .ok (.iadd, 1) := by decide +kernel
theorem dX12_isRight_32 : decode cX12_isRight 32 = .ok (.iaload, 1) := by decide +kernel
theorem dX12_isRight_33 : decode cX12_isRight 33 = .ok (.if_icmp .ne 7, 3) := by decide +kernel
theorem dX12_isRight_36 : decode cX12_isRight 36 = .ok (.iconst 1, 1) := by decide +kernel
theorem dX12_isRight_37 : decode cX12_isRight 37 = .ok (.goto 4, 3) := by decide +kernel
theorem dX12_isRight_40 : decode cX12_isRight 40 = .ok (.iconst 0, 1) := by decide +kernel
theorem dX12_isRight_41 : decode cX12_isRight 41 = .ok (.ireturn, 1) := by decide +kernel
theorem dX12_forgedOf_0 : decode cX12_forgedOf 0 = .ok (.aload_n 0, 1) := by decide +kernel
theorem dX12_forgedOf_1 : decode cX12_forgedOf 1 = .ok (.getfield 31, 3) := by decide +kernel
theorem dX12_forgedOf_4 : decode cX12_forgedOf 4 = .ok (.iconst 4, 1) := by decide +kernel
theorem dX12_forgedOf_5 : decode cX12_forgedOf 5 = .ok (.iload_n 1, 1) := by decide +kernel
theorem dX12_forgedOf_6 : decode cX12_forgedOf 6 = .ok (.imul, 1) := by decide +kernel
theorem dX12_forgedOf_7 : decode cX12_forgedOf 7 = .ok (.iconst 2, 1) := by decide +kernel
theorem dX12_forgedOf_8 : decode cX12_forgedOf 8 = .ok (.iadd, 1) := by decide +kernel
theorem dX12_forgedOf_9 : decode cX12_forgedOf 9 = .ok (.iaload, 1) := by decide +kernel
theorem dX12_forgedOf_10 : decode cX12_forgedOf 10 = .ok (.istore_n 2, 1) := by decide +kernel
theorem dX12_forgedOf_11 : decode cX12_forgedOf 11 = .ok (.iconst 0, 1) := by decide +kernel
theorem dX12_forgedOf_12 : decode cX12_forgedOf 12 = .ok (.istore_n 3, 1) := by decide +kernel
theorem dX12_forgedOf_13 : decode cX12_forgedOf 13 = .ok (.iconst 1, 1) := by decide +kernel
theorem dX12_forgedOf_14 : decode cX12_forgedOf 14 = .ok (.istore 4, 2) := by decide +kernel
theorem dX12_forgedOf_16 : decode cX12_forgedOf 16 = .ok (.iload 4, 2) := by decide +kernel
theorem dX12_forgedOf_18 : decode cX12_forgedOf 18 = .ok (.bipush 10, 2) := by decide +kernel
theorem dX12_forgedOf_20 : decode cX12_forgedOf 20 = .ok (.if_icmp .ge 90, 3) := by decide +kernel
theorem dX12_forgedOf_23 : decode cX12_forgedOf 23 = .ok (.aload_n 0, 1) := by decide +kernel
theorem dX12_forgedOf_24 : decode cX12_forgedOf 24 = .ok (.getfield 31, 3) := by decide +kernel
theorem dX12_forgedOf_27 : decode cX12_forgedOf 27 = .ok (.iconst 4, 1) := by decide +kernel
theorem dX12_forgedOf_28 : decode cX12_forgedOf 28 = .ok (.iload_n 1, 1) := by decide +kernel
theorem dX12_forgedOf_29 : decode cX12_forgedOf 29 = .ok (.imul, 1) := by decide +kernel
theorem dX12_forgedOf_30 : decode cX12_forgedOf 30 = .ok (.iconst 2, 1) := by decide +kernel
theorem dX12_forgedOf_31 : decode cX12_forgedOf 31 = .ok (.iadd, 1) := by decide +kernel
theorem dX12_forgedOf_32 : decode cX12_forgedOf 32 = .ok (.iload 4, 2) := by decide +kernel
theorem dX12_forgedOf_34 : decode cX12_forgedOf 34 = .ok (.iastore, 1) := by decide +kernel
theorem dX12_forgedOf_35 : decode cX12_forgedOf 35 = .ok (.iconst 1, 1) := by decide +kernel
theorem dX12_forgedOf_36 : decode cX12_forgedOf 36 = .ok (.istore 5, 2) := by decide +kernel
theorem dX12_forgedOf_38 : decode cX12_forgedOf 38 = .ok (.iconst 0, 1) := by decide +kernel
theorem dX12_forgedOf_39 : decode cX12_forgedOf 39 = .ok (.istore 6, 2) := by decide +kernel
theorem dX12_forgedOf_41 : decode cX12_forgedOf 41 = .ok (.iload 6, 2) := by decide +kernel
theorem dX12_forgedOf_43 : decode cX12_forgedOf 43 = .ok (.aload_n 0, 1) := by decide +kernel
theorem dX12_forgedOf_44 : decode cX12_forgedOf 44 = .ok (.getfield 294, 3) := by decide +kernel
theorem dX12_forgedOf_47 : decode cX12_forgedOf 47 = .ok (.if_icmp .ge 39, 3) := by decide +kernel
theorem dX12_forgedOf_50 : decode cX12_forgedOf 50 = .ok (.iload 5, 2) := by decide +kernel
theorem dX12_forgedOf_52 : decode cX12_forgedOf 52 = .ok (.ifCond .eq 25, 3) := by decide +kernel
theorem dX12_forgedOf_55 : decode cX12_forgedOf 55 = .ok (.aload_n 0, 1) := by decide +kernel
theorem dX12_forgedOf_56 : decode cX12_forgedOf 56 = .ok (.iload 6, 2) := by decide +kernel
theorem dX12_forgedOf_58 : decode cX12_forgedOf 58 = .ok (.invokevirtual 297, 3) := by decide +kernel
theorem dX12_forgedOf_61 : decode cX12_forgedOf 61 = .ok (.ifCond .eq 12, 3) := by decide +kernel
theorem dX12_forgedOf_64 : decode cX12_forgedOf 64 = .ok (.aload_n 0, 1) := by decide +kernel
theorem dX12_forgedOf_65 : decode cX12_forgedOf 65 = .ok (.iload 6, 2) := by decide +kernel
theorem dX12_forgedOf_67 : decode cX12_forgedOf 67 = .ok (.invokevirtual 300, 3) := by decide +kernel
theorem dX12_forgedOf_70 : decode cX12_forgedOf 70 = .ok (.ifCond .eq 7, 3) := by decide +kernel
theorem dX12_forgedOf_73 : decode cX12_forgedOf 73 = .ok (.iconst 1, 1) := by decide +kernel
theorem dX12_forgedOf_74 : decode cX12_forgedOf 74 = .ok (.goto 4, 3) := by decide +kernel
theorem dX12_forgedOf_77 : decode cX12_forgedOf 77 = .ok (.iconst 0, 1) := by decide +kernel
theorem dX12_forgedOf_78 : decode cX12_forgedOf 78 = .ok (.istore 5, 2) := by decide +kernel
theorem dX12_forgedOf_80 : decode cX12_forgedOf 80 = .ok (.iinc 6 1, 3) := by decide +kernel
theorem dX12_forgedOf_83 : decode cX12_forgedOf 83 = .ok (.goto (-42), 3) := by decide +kernel
theorem dX12_forgedOf_86 : decode cX12_forgedOf 86 = .ok (.iload_n 3, 1) := by decide +kernel
theorem dX12_forgedOf_87 : decode cX12_forgedOf 87 = .ok (.iload 5, 2) := by decide +kernel
theorem dX12_forgedOf_89 : decode cX12_forgedOf 89 = .ok (.ifCond .eq 12, 3) := by decide +kernel
theorem dX12_forgedOf_92 : decode cX12_forgedOf 92 = .ok (.iconst 1, 1) := by decide +kernel
theorem dX12_forgedOf_93 : decode cX12_forgedOf 93 = .ok (.iload 4, 2) := by decide +kernel
theorem dX12_forgedOf_95 : decode cX12_forgedOf 95 = .ok (.iconst 1, 1) := by decide +kernel
theorem dX12_forgedOf_96 : decode cX12_forgedOf 96 = .ok (.isub, 1) := by decide +kernel
theorem dX12_forgedOf_97 : decode cX12_forgedOf 97 = .ok (.ishl, 1) := by decide +kernel
theorem dX12_forgedOf_98 : decode cX12_forgedOf 98 = .ok (.goto 4, 3) := by decide +kernel
theorem dX12_forgedOf_101 : decode cX12_forgedOf 101 = .ok (.iconst 0, 1) := by decide +kernel
theorem dX12_forgedOf_102 : decode cX12_forgedOf 102 = .ok (.ior, 1) := by decide +kernel
theorem dX12_forgedOf_103 : decode cX12_forgedOf 103 = .ok (.istore_n 3, 1) := by decide +kernel
theorem dX12_forgedOf_104 : decode cX12_forgedOf 104 = .ok (.iinc 4 1, 3) := by decide +kernel
theorem dX12_forgedOf_107 : decode cX12_forgedOf 107 = .ok (.goto (-91), 3) := by decide +kernel
theorem dX12_forgedOf_110 : decode cX12_forgedOf 110 = .ok (.aload_n 0, 1) := by decide +kernel
theorem dX12_forgedOf_111 : decode cX12_forgedOf 111 = .ok (.getfield 31, 3) := by decide +kernel
theorem dX12_forgedOf_114 : decode cX12_forgedOf 114 = .ok (.iconst 4, 1) := by decide +kernel
theorem dX12_forgedOf_115 : decode cX12_forgedOf 115 = .ok (.iload_n 1, 1) := by decide +kernel
theorem dX12_forgedOf_116 : decode cX12_forgedOf 116 = .ok (.imul, 1) := by decide +kernel
theorem dX12_forgedOf_117 : decode cX12_forgedOf 117 = .ok (.iconst 2, 1) := by decide +kernel
theorem dX12_forgedOf_118 : decode cX12_forgedOf 118 = .ok (.iadd, 1) := by decide +kernel
theorem dX12_forgedOf_119 : decode cX12_forgedOf 119 = .ok (.iload_n 2, 1) := by decide +kernel
theorem dX12_forgedOf_120 : decode cX12_forgedOf 120 = .ok (.iastore, 1) := by decide +kernel
theorem dX12_forgedOf_121 : decode cX12_forgedOf 121 = .ok (.iload_n 3, 1) := by decide +kernel
theorem dX12_forgedOf_122 : decode cX12_forgedOf 122 = .ok (.ireturn, 1) := by decide +kernel
theorem dX12_forged_0 : decode cX12_forged 0 = .ok (.aload_n 0, 1) := by decide +kernel
theorem dX12_forged_1 : decode cX12_forged 1 = .ok (.iload_n 1, 1) := by decide +kernel
theorem dX12_forged_2 : decode cX12_forged 2 = .ok (.invokevirtual 166, 3) := by decide +kernel
theorem dX12_forged_5 : decode cX12_forged 5 = .ok (.ifCond .eq 11, 3) := by decide +kernel
theorem dX12_forged_8 : decode cX12_forged 8 = .ok (.aload_n 0, 1) := by decide +kernel
theorem dX12_forged_9 : decode cX12_forged 9 = .ok (.iload_n 1, 1) := by decide +kernel
theorem dX12_forged_10 : decode cX12_forged 10 = .ok (.invokevirtual 303, 3) := by decide +kernel
theorem dX12_forged_13 : decode cX12_forged 13 = .ok (.goto 5, 3) := by decide +kernel
theorem dX12_forged_16 : decode cX12_forged 16 = .ok (.bipush (-2), 2) := by decide +kernel
theorem dX12_forged_18 : decode cX12_forged 18 = .ok (.ireturn, 1) := by decide +kernel
theorem dX12_unlikeNow_0 : decode cX12_unlikeNow 0 = .ok (.iconst 0, 1) := by decide +kernel
theorem dX12_unlikeNow_1 : decode cX12_unlikeNow 1 = .ok (.istore_n 1, 1) := by decide +kernel
theorem dX12_unlikeNow_2 : decode cX12_unlikeNow 2 = .ok (.iconst 0, 1) := by decide +kernel
theorem dX12_unlikeNow_3 : decode cX12_unlikeNow 3 = .ok (.istore_n 2, 1) := by decide +kernel
theorem dX12_unlikeNow_4 : decode cX12_unlikeNow 4 = .ok (.iload_n 2, 1) := by decide +kernel
theorem dX12_unlikeNow_5 : decode cX12_unlikeNow 5 = .ok (.aload_n 0, 1) := by decide +kernel
theorem dX12_unlikeNow_6 : decode cX12_unlikeNow 6 = .ok (.getfield 294, 3) := by decide +kernel
theorem dX12_unlikeNow_9 : decode cX12_unlikeNow 9 = .ok (.if_icmp .ge 33, 3) := by decide +kernel
theorem dX12_unlikeNow_12 : decode cX12_unlikeNow 12 = .ok (.iload_n 1, 1) := by decide +kernel
theorem dX12_unlikeNow_13 : decode cX12_unlikeNow 13 = .ok (.aload_n 0, 1) := by decide +kernel
theorem dX12_unlikeNow_14 : decode cX12_unlikeNow 14 = .ok (.iload_n 2, 1) := by decide +kernel
theorem dX12_unlikeNow_15 : decode cX12_unlikeNow 15 = .ok (.invokevirtual 297, 3) := by decide +kernel
theorem dX12_unlikeNow_18 : decode cX12_unlikeNow 18 = .ok (.ifCond .eq 15, 3) := by decide +kernel
theorem dX12_unlikeNow_21 : decode cX12_unlikeNow 21 = .ok (.aload_n 0, 1) := by decide +kernel
theorem dX12_unlikeNow_22 : decode cX12_unlikeNow 22 = .ok (.iload_n 2, 1) := by decide +kernel
theorem dX12_unlikeNow_23 : decode cX12_unlikeNow 23 = .ok (.invokevirtual 300, 3) := by decide +kernel
theorem dX12_unlikeNow_26 : decode cX12_unlikeNow 26 = .ok (.ifCond .eq 7, 3) := by decide +kernel
theorem dX12_unlikeNow_29 : decode cX12_unlikeNow 29 = .ok (.iconst 0, 1) := by decide +kernel
theorem dX12_unlikeNow_30 : decode cX12_unlikeNow 30 = .ok (.goto 4, 3) := by decide +kernel
theorem dX12_unlikeNow_33 : decode cX12_unlikeNow 33 = .ok (.iconst 1, 1) := by decide +kernel
theorem dX12_unlikeNow_34 : decode cX12_unlikeNow 34 = .ok (.iadd, 1) := by decide +kernel
theorem dX12_unlikeNow_35 : decode cX12_unlikeNow 35 = .ok (.istore_n 1, 1) := by decide +kernel
theorem dX12_unlikeNow_36 : decode cX12_unlikeNow 36 = .ok (.iinc 2 1, 3) := by decide +kernel
theorem dX12_unlikeNow_39 : decode cX12_unlikeNow 39 = .ok (.goto (-35), 3) := by decide +kernel
theorem dX12_unlikeNow_42 : decode cX12_unlikeNow 42 = .ok (.iload_n 1, 1) := by decide +kernel
theorem dX12_unlikeNow_43 : decode cX12_unlikeNow 43 = .ok (.ireturn, 1) := by decide +kernel
theorem dX12_unlike_0 : decode cX12_unlike 0 = .ok (.aload_n 0, 1) := by decide +kernel
theorem dX12_unlike_1 : decode cX12_unlike 1 = .ok (.invokevirtual 163, 3) := by decide +kernel
theorem dX12_unlike_4 : decode cX12_unlike 4 = .ok (.aload_n 0, 1) := by decide +kernel
theorem dX12_unlike_5 : decode cX12_unlike 5 = .ok (.invokevirtual 306, 3) := by decide +kernel
theorem dX12_unlike_8 : decode cX12_unlike 8 = .ok (.ireturn, 1) := by decide +kernel
theorem dX12_withoutOf_0 : decode cX12_withoutOf 0 = .ok (.iload_n 2, 1) := by decide +kernel
theorem dX12_withoutOf_1 : decode cX12_withoutOf 1 = .ok (.i2l, 1) := by decide +kernel
theorem dX12_withoutOf_2 : decode cX12_withoutOf 2 = .ok (.lconst 0, 1) := by decide +kernel
theorem dX12_withoutOf_3 : decode cX12_withoutOf 3 = .ok (.aload_n 0, 1) := by decide +kernel
theorem dX12_withoutOf_4 : decode cX12_withoutOf 4 = .ok (.getfield 138, 3) := by decide +kernel
theorem dX12_withoutOf_7 : decode cX12_withoutOf 7 = .ok (.iconst 1, 1) := by decide +kernel
theorem dX12_withoutOf_8 : decode cX12_withoutOf 8 = .ok (.isub, 1) := by decide +kernel
theorem dX12_withoutOf_9 : decode cX12_withoutOf 9 = .ok (.i2l, 1) := by decide +kernel
theorem dX12_withoutOf_10 : decode cX12_withoutOf 10 = .ok (.invokestatic 95, 3) := by decide +kernel
theorem dX12_withoutOf_13 : decode cX12_withoutOf 13 = .ok (.ifCond .eq 16, 3) := by decide +kernel
theorem dX12_withoutOf_16 : decode cX12_withoutOf 16 = .ok (.aload_n 0, 1) := by decide +kernel
theorem dX12_withoutOf_17 : decode cX12_withoutOf 17 = .ok (.iload_n 2, 1) := by decide +kernel
theorem dX12_withoutOf_18 : decode cX12_withoutOf 18 = .ok (.aload_n 0, 1) := by decide +kernel
theorem dX12_withoutOf_19 : decode cX12_withoutOf 19 = .ok (.getfield 184, 3) := by decide +kernel
theorem dX12_withoutOf_22 : decode cX12_withoutOf 22 = .ok (.iload_n 1, 1) := by decide +kernel
theorem dX12_withoutOf_23 : decode cX12_withoutOf 23 = .ok (.invokevirtual 251, 3) := by decide +kernel
theorem dX12_withoutOf_26 : decode cX12_withoutOf 26 = .ok (.goto 5, 3) := by decide +kernel
theorem dX12_withoutOf_29 : decode cX12_withoutOf 29 = .ok (.bipush (-2), 2) := by decide +kernel
theorem dX12_withoutOf_31 : decode cX12_withoutOf 31 = .ok (.ireturn, 1) := by decide +kernel
theorem dX12_without_0 : decode cX12_without 0 = .ok (.aload_n 0, 1) := by decide +kernel
theorem dX12_without_1 : decode cX12_without 1 = .ok (.invokevirtual 163, 3) := by decide +kernel
theorem dX12_without_4 : decode cX12_without 4 = .ok (.iload_n 1, 1) := by decide +kernel
theorem dX12_without_5 : decode cX12_without 5 = .ok (.i2l, 1) := by decide +kernel
theorem dX12_without_6 : decode cX12_without 6 = .ok (.lconst 0, 1) := by decide +kernel
theorem dX12_without_7 : decode cX12_without 7 = .ok (.aload_n 0, 1) := by decide +kernel
theorem dX12_without_8 : decode cX12_without 8 = .ok (.getfield 184, 3) := by decide +kernel
theorem dX12_without_11 : decode cX12_without 11 = .ok (.iconst 1, 1) := by decide +kernel
theorem dX12_without_12 : decode cX12_without 12 = .ok (.isub, 1) := by decide +kernel
theorem dX12_without_13 : decode cX12_without 13 = .ok (.i2l, 1) := by decide +kernel
theorem dX12_without_14 : decode cX12_without 14 = .ok (.invokestatic 95, 3) := by decide +kernel
theorem dX12_without_17 : decode cX12_without 17 = .ok (.ifCond .eq 12, 3) := by decide +kernel
theorem dX12_without_20 : decode cX12_without 20 = .ok (.aload_n 0, 1) := by decide +kernel
theorem dX12_without_21 : decode cX12_without 21 = .ok (.iload_n 1, 1) := by decide +kernel
theorem dX12_without_22 : decode cX12_without 22 = .ok (.iload_n 2, 1) := by decide +kernel
theorem dX12_without_23 : decode cX12_without 23 = .ok (.invokevirtual 309, 3) := by decide +kernel
theorem dX12_without_26 : decode cX12_without 26 = .ok (.goto 5, 3) := by decide +kernel
theorem dX12_without_29 : decode cX12_without 29 = .ok (.bipush (-2), 2) := by decide +kernel
theorem dX12_without_31 : decode cX12_without 31 = .ok (.ireturn, 1) := by decide +kernel
theorem dX12_blameOf_0 : decode cX12_blameOf 0 = .ok (.iconst (-1), 1) := by decide +kernel
theorem dX12_blameOf_1 : decode cX12_blameOf 1 = .ok (.istore_n 2, 1) := by decide +kernel
theorem dX12_blameOf_2 : decode cX12_blameOf 2 = .ok (.aload_n 0, 1) := by decide +kernel
theorem dX12_blameOf_3 : decode cX12_blameOf 3 = .ok (.iload_n 1, 1) := by decide +kernel
theorem dX12_blameOf_4 : decode cX12_blameOf 4 = .ok (.aload_n 0, 1) := by decide +kernel
theorem dX12_blameOf_5 : decode cX12_blameOf 5 = .ok (.getfield 184, 3) := by decide +kernel
theorem dX12_blameOf_8 : decode cX12_blameOf 8 = .ok (.iconst (-1), 1) := by decide +kernel
theorem dX12_blameOf_9 : decode cX12_blameOf 9 = .ok (.invokevirtual 251, 3) := by decide +kernel
theorem dX12_blameOf_12 : decode cX12_blameOf 12 = .ok (.istore_n 3, 1) := by decide +kernel
theorem dX12_blameOf_13 : decode cX12_blameOf 13 = .ok (.iconst 0, 1) := by decide +kernel
theorem dX12_blameOf_14 : decode cX12_blameOf 14 = .ok (.istore 4, 2) := by decide +kernel
theorem dX12_blameOf_16 : decode cX12_blameOf 16 = .ok (.iload 4, 2) := by decide +kernel
theorem dX12_blameOf_18 : decode cX12_blameOf 18 = .ok (.aload_n 0, 1) := by decide +kernel
theorem dX12_blameOf_19 : decode cX12_blameOf 19 = .ok (.getfield 184, 3) := by decide +kernel
theorem dX12_blameOf_22 : decode cX12_blameOf 22 = .ok (.if_icmp .ge 48, 3) := by decide +kernel
theorem dX12_blameOf_25 : decode cX12_blameOf 25 = .ok (.aload_n 0, 1) := by decide +kernel
theorem dX12_blameOf_26 : decode cX12_blameOf 26 = .ok (.iload_n 1, 1) := by decide +kernel
theorem dX12_blameOf_27 : decode cX12_blameOf 27 = .ok (.aload_n 0, 1) := by decide +kernel
theorem dX12_blameOf_28 : decode cX12_blameOf 28 = .ok (.getfield 184, 3) := by decide +kernel
theorem dX12_blameOf_31 : decode cX12_blameOf 31 = .ok (.iload 4, 2) := by decide +kernel
theorem dX12_blameOf_33 : decode cX12_blameOf 33 = .ok (.invokevirtual 251, 3) := by decide +kernel
theorem dX12_blameOf_36 : decode cX12_blameOf 36 = .ok (.istore 5, 2) := by decide +kernel
theorem dX12_blameOf_38 : decode cX12_blameOf 38 = .ok (.iload 5, 2) := by decide +kernel
theorem dX12_blameOf_40 : decode cX12_blameOf 40 = .ok (.iload_n 3, 1) := by decide +kernel
theorem dX12_blameOf_41 : decode cX12_blameOf 41 = .ok (.if_icmp .le 8, 3) := by decide +kernel
theorem dX12_blameOf_44 : decode cX12_blameOf 44 = .ok (.iload 4, 2) := by decide +kernel
theorem dX12_blameOf_46 : decode cX12_blameOf 46 = .ok (.goto 4, 3) := by decide +kernel
theorem dX12_blameOf_49 : decode cX12_blameOf 49 = .ok (.iload_n 2, 1) := by decide +kernel
theorem dX12_blameOf_50 : decode cX12_blameOf 50 = .ok (.istore_n 2, 1) := by decide +kernel
theorem dX12_blameOf_51 : decode cX12_blameOf 51 = .ok (.iload 5, 2) := by decide +kernel
theorem dX12_blameOf_53 : decode cX12_blameOf 53 = .ok (.iload_n 3, 1) := by decide +kernel
theorem dX12_blameOf_54 : decode cX12_blameOf 54 = .ok (.if_icmp .le 8, 3) := by decide +kernel
theorem dX12_blameOf_57 : decode cX12_blameOf 57 = .ok (.iload 5, 2) := by decide +kernel
theorem dX12_blameOf_59 : decode cX12_blameOf 59 = .ok (.goto 4, 3) := by decide +kernel
theorem dX12_blameOf_62 : decode cX12_blameOf 62 = .ok (.iload_n 3, 1) := by decide +kernel
theorem dX12_blameOf_63 : decode cX12_blameOf 63 = .ok (.istore_n 3, 1) := by decide +kernel
theorem dX12_blameOf_64 : decode cX12_blameOf 64 = .ok (.iinc 4 1, 3) := by decide +kernel
theorem dX12_blameOf_67 : decode cX12_blameOf 67 = .ok (.goto (-51), 3) := by decide +kernel
theorem dX12_blameOf_70 : decode cX12_blameOf 70 = .ok (.iload_n 2, 1) := by decide +kernel
theorem dX12_blameOf_71 : decode cX12_blameOf 71 = .ok (.ireturn, 1) := by decide +kernel
theorem dX12_blame_0 : decode cX12_blame 0 = .ok (.aload_n 0, 1) := by decide +kernel
theorem dX12_blame_1 : decode cX12_blame 1 = .ok (.iload_n 1, 1) := by decide +kernel
theorem dX12_blame_2 : decode cX12_blame 2 = .ok (.invokevirtual 245, 3) := by decide +kernel
theorem dX12_blame_5 : decode cX12_blame 5 = .ok (.ifCond .eq 11, 3) := by decide +kernel
theorem dX12_blame_8 : decode cX12_blame 8 = .ok (.aload_n 0, 1) := by decide +kernel
theorem dX12_blame_9 : decode cX12_blame 9 = .ok (.iload_n 1, 1) := by decide +kernel
theorem dX12_blame_10 : decode cX12_blame 10 = .ok (.invokevirtual 312, 3) := by decide +kernel
theorem dX12_blame_13 : decode cX12_blame 13 = .ok (.goto 5, 3) := by decide +kernel
theorem dX12_blame_16 : decode cX12_blame 16 = .ok (.bipush (-2), 2) := by decide +kernel
theorem dX12_blame_18 : decode cX12_blame 18 = .ok (.ireturn, 1) := by decide +kernel
theorem dX12_freeOf_0 : decode cX12_freeOf 0 = .ok (.iconst 0, 1) := by decide +kernel
theorem dX12_freeOf_1 : decode cX12_freeOf 1 = .ok (.istore_n 3, 1) := by decide +kernel
theorem dX12_freeOf_2 : decode cX12_freeOf 2 = .ok (.iconst 0, 1) := by decide +kernel
theorem dX12_freeOf_3 : decode cX12_freeOf 3 = .ok (.istore 4, 2) := by decide +kernel
theorem dX12_freeOf_5 : decode cX12_freeOf 5 = .ok (.iload 4, 2) := by decide +kernel
theorem dX12_freeOf_7 : decode cX12_freeOf 7 = .ok (.aload_n 0, 1) := by decide +kernel
theorem dX12_freeOf_8 : decode cX12_freeOf 8 = .ok (.getfield 144, 3) := by decide +kernel
theorem dX12_freeOf_11 : decode cX12_freeOf 11 = .ok (.if_icmp .ge 46, 3) := by decide +kernel
theorem dX12_freeOf_14 : decode cX12_freeOf 14 = .ok (.aload_n 0, 1) := by decide +kernel
theorem dX12_freeOf_15 : decode cX12_freeOf 15 = .ok (.getfield 31, 3) := by decide +kernel
theorem dX12_freeOf_18 : decode cX12_freeOf 18 = .ok (.iconst 4, 1) := by decide +kernel
theorem dX12_freeOf_19 : decode cX12_freeOf 19 = .ok (.iload 4, 2) := by decide +kernel
theorem dX12_freeOf_21 : decode cX12_freeOf 21 = .ok (.imul, 1) := by decide +kernel
theorem dX12_freeOf_22 : decode cX12_freeOf 22 = .ok (.iconst 1, 1) := by decide +kernel
theorem dX12_freeOf_23 : decode cX12_freeOf 23 = .ok (.iadd, 1) := by decide +kernel
theorem dX12_freeOf_24 : decode cX12_freeOf 24 = .ok (.iaload, 1) := by decide +kernel
theorem dX12_freeOf_25 : decode cX12_freeOf 25 = .ok (.iload_n 1, 1) := by decide +kernel
theorem dX12_freeOf_26 : decode cX12_freeOf 26 = .ok (.if_icmp .ne 25, 3) := by decide +kernel
theorem dX12_freeOf_29 : decode cX12_freeOf 29 = .ok (.aload_n 0, 1) := by decide +kernel
theorem dX12_freeOf_30 : decode cX12_freeOf 30 = .ok (.iload 4, 2) := by decide +kernel
theorem dX12_freeOf_32 : decode cX12_freeOf 32 = .ok (.invokevirtual 212, 3) := by decide +kernel
theorem dX12_freeOf_35 : decode cX12_freeOf 35 = .ok (.ifCond .eq 16, 3) := by decide +kernel
theorem dX12_freeOf_38 : decode cX12_freeOf 38 = .ok (.iload_n 3, 1) := by decide +kernel
theorem dX12_freeOf_39 : decode cX12_freeOf 39 = .ok (.iconst 4, 1) := by decide +kernel
theorem dX12_freeOf_40 : decode cX12_freeOf 40 = .ok (.if_icmp .ge 8, 3) := by decide +kernel
theorem dX12_freeOf_43 : decode cX12_freeOf 43 = .ok (.aload_n 2, 1) := by decide +kernel
theorem dX12_freeOf_44 : decode cX12_freeOf 44 = .ok (.iload_n 3, 1) := by decide +kernel
theorem dX12_freeOf_45 : decode cX12_freeOf 45 = .ok (.iload 4, 2) := by decide +kernel
theorem dX12_freeOf_47 : decode cX12_freeOf 47 = .ok (.iastore, 1) := by decide +kernel
theorem dX12_freeOf_48 : decode cX12_freeOf 48 = .ok (.iinc 3 1, 3) := by decide +kernel
theorem dX12_freeOf_51 : decode cX12_freeOf 51 = .ok (.iinc 4 1, 3) := by decide +kernel
theorem dX12_freeOf_54 : decode cX12_freeOf 54 = .ok (.goto (-49), 3) := by decide +kernel
theorem dX12_freeOf_57 : decode cX12_freeOf 57 = .ok (.iload_n 3, 1) := by decide +kernel
theorem dX12_freeOf_58 : decode cX12_freeOf 58 = .ok (.ireturn, 1) := by decide +kernel
theorem dX12_mayPick_0 : decode cX12_mayPick 0 = .ok (.iload_n 2, 1) := by decide +kernel
theorem dX12_mayPick_1 : decode cX12_mayPick 1 = .ok (.iconst 4, 1) := by decide +kernel
theorem dX12_mayPick_2 : decode cX12_mayPick 2 = .ok (.idiv, 1) := by decide +kernel
theorem dX12_mayPick_3 : decode cX12_mayPick 3 = .ok (.istore_n 3, 1) := by decide +kernel
theorem dX12_mayPick_4 : decode cX12_mayPick 4 = .ok (.iload_n 2, 1) := by decide +kernel
theorem dX12_mayPick_5 : decode cX12_mayPick 5 = .ok (.iconst 4, 1) := by decide +kernel
theorem dX12_mayPick_6 : decode cX12_mayPick 6 = .ok (.irem, 1) := by decide +kernel
theorem dX12_mayPick_7 : decode cX12_mayPick 7 = .ok (.istore 4, 2) := by decide +kernel
theorem dX12_mayPick_9 : decode cX12_mayPick 9 = .ok (.iload_n 3, 1) := by decide +kernel
theorem dX12_mayPick_10 : decode cX12_mayPick 10 = .ok (.aload_n 0, 1) := by decide +kernel
theorem dX12_mayPick_11 : decode cX12_mayPick 11 = .ok (.getfield 315, 3) := by decide +kernel
theorem dX12_mayPick_14 : decode cX12_mayPick 14 = .ok (.if_icmp .ge 45, 3) := by decide +kernel
theorem dX12_mayPick_17 : decode cX12_mayPick 17 = .ok (.iload 4, 2) := by decide +kernel
theorem dX12_mayPick_19 : decode cX12_mayPick 19 = .ok (.aload_n 0, 1) := by decide +kernel
theorem dX12_mayPick_20 : decode cX12_mayPick 20 = .ok (.getfield 318, 3) := by decide +kernel
theorem dX12_mayPick_23 : decode cX12_mayPick 23 = .ok (.if_icmp .ge 36, 3) := by decide +kernel
theorem dX12_mayPick_26 : decode cX12_mayPick 26 = .ok (.aload_n 0, 1) := by decide +kernel
theorem dX12_mayPick_27 : decode cX12_mayPick 27 = .ok (.getfield 89, 3) := by decide +kernel
theorem dX12_mayPick_30 : decode cX12_mayPick 30 = .ok (.iload_n 1, 1) := by decide +kernel
theorem dX12_mayPick_31 : decode cX12_mayPick 31 = .ok (.iaload, 1) := by decide +kernel
theorem dX12_mayPick_32 : decode cX12_mayPick 32 = .ok (.iload_n 3, 1) := by decide +kernel
theorem dX12_mayPick_33 : decode cX12_mayPick 33 = .ok (.ishr, 1) := by decide +kernel
theorem dX12_mayPick_34 : decode cX12_mayPick 34 = .ok (.iconst 1, 1) := by decide +kernel
theorem dX12_mayPick_35 : decode cX12_mayPick 35 = .ok (.iand, 1) := by decide +kernel
theorem dX12_mayPick_36 : decode cX12_mayPick 36 = .ok (.ifCond .ne 23, 3) := by decide +kernel
theorem dX12_mayPick_39 : decode cX12_mayPick 39 = .ok (.aload_n 0, 1) := by decide +kernel
theorem dX12_mayPick_40 : decode cX12_mayPick 40 = .ok (.getfield 89, 3) := by decide +kernel
theorem dX12_mayPick_43 : decode cX12_mayPick 43 = .ok (.iload_n 1, 1) := by decide +kernel
theorem dX12_mayPick_44 : decode cX12_mayPick 44 = .ok (.iaload, 1) := by decide +kernel
theorem dX12_mayPick_45 : decode cX12_mayPick 45 = .ok (.iconst 4, 1) := by decide +kernel
theorem dX12_mayPick_46 : decode cX12_mayPick 46 = .ok (.iload 4, 2) := by decide +kernel
theorem dX12_mayPick_48 : decode cX12_mayPick 48 = .ok (.iadd, 1) := by decide +kernel
theorem dX12_mayPick_49 : decode cX12_mayPick 49 = .ok (.ishr, 1) := by decide +kernel
theorem dX12_mayPick_50 : decode cX12_mayPick 50 = .ok (.iconst 1, 1) := by decide +kernel
theorem dX12_mayPick_51 : decode cX12_mayPick 51 = .ok (.iand, 1) := by decide +kernel
theorem dX12_mayPick_52 : decode cX12_mayPick 52 = .ok (.ifCond .ne 7, 3) := by decide +kernel
theorem dX12_mayPick_55 : decode cX12_mayPick 55 = .ok (.iconst 1, 1) := by decide +kernel
theorem dX12_mayPick_56 : decode cX12_mayPick 56 = .ok (.goto 4, 3) := by decide +kernel
theorem dX12_mayPick_59 : decode cX12_mayPick 59 = .ok (.iconst 0, 1) := by decide +kernel
theorem dX12_mayPick_60 : decode cX12_mayPick 60 = .ok (.istore 5, 2) := by decide +kernel
theorem dX12_mayPick_62 : decode cX12_mayPick 62 = .ok (.iload 5, 2) := by decide +kernel
theorem dX12_mayPick_64 : decode cX12_mayPick 64 = .ok (.ifCond .eq 37, 3) := by decide +kernel
theorem dX12_mayPick_67 : decode cX12_mayPick 67 = .ok (.aload_n 0, 1) := by decide +kernel
theorem dX12_mayPick_68 : decode cX12_mayPick 68 = .ok (.getfield 31, 3) := by decide +kernel
theorem dX12_mayPick_71 : decode cX12_mayPick 71 = .ok (.iconst 4, 1) := by decide +kernel
theorem dX12_mayPick_72 : decode cX12_mayPick 72 = .ok (.aload_n 0, 1) := by decide +kernel
theorem dX12_mayPick_73 : decode cX12_mayPick 73 = .ok (.getfield 73, 3) := by decide +kernel
theorem dX12_mayPick_76 : decode cX12_mayPick 76 = .ok (.iload_n 3, 1) := by decide +kernel
theorem dX12_mayPick_77 : decode cX12_mayPick 77 = .ok (.iaload, 1) := by decide +kernel
theorem dX12_mayPick_78 : decode cX12_mayPick 78 = .ok (.imul, 1) := by decide +kernel
theorem dX12_mayPick_79 : decode cX12_mayPick 79 = .ok (.iaload, 1) := by decide +kernel
theorem dX12_mayPick_80 : decode cX12_mayPick 80 = .ok (.aload_n 0, 1) := by decide +kernel
theorem dX12_mayPick_81 : decode cX12_mayPick 81 = .ok (.getfield 31, 3) := by decide +kernel
theorem dX12_mayPick_84 : decode cX12_mayPick 84 = .ok (.iconst 4, 1) := by decide +kernel
theorem dX12_mayPick_85 : decode cX12_mayPick 85 = .ok (.aload_n 0, 1) := by decide +kernel
theorem dX12_mayPick_86 : decode cX12_mayPick 86 = .ok (.getfield 76, 3) := by decide +kernel
theorem dX12_mayPick_89 : decode cX12_mayPick 89 = .ok (.iload 4, 2) := by decide +kernel
theorem dX12_mayPick_91 : decode cX12_mayPick 91 = .ok (.iaload, 1) := by decide +kernel
theorem dX12_mayPick_92 : decode cX12_mayPick 92 = .ok (.imul, 1) := by decide +kernel
theorem dX12_mayPick_93 : decode cX12_mayPick 93 = .ok (.iaload, 1) := by decide +kernel
theorem dX12_mayPick_94 : decode cX12_mayPick 94 = .ok (.if_icmp .eq 7, 3) := by decide +kernel
theorem dX12_mayPick_97 : decode cX12_mayPick 97 = .ok (.iconst 1, 1) := by decide +kernel
theorem dX12_mayPick_98 : decode cX12_mayPick 98 = .ok (.goto 4, 3) := by decide +kernel
theorem dX12_mayPick_101 : decode cX12_mayPick 101 = .ok (.iconst 0, 1) := by decide +kernel
theorem dX12_mayPick_102 : decode cX12_mayPick 102 = .ok (.ireturn, 1) := by decide +kernel
theorem dX12_widthBehind_0 : decode cX12_widthBehind 0 = .ok (.aload_n 0, 1) := by decide +kernel
theorem dX12_widthBehind_1 : decode cX12_widthBehind 1 = .ok (.aload_n 0, 1) := by decide +kernel
theorem dX12_widthBehind_2 : decode cX12_widthBehind 2 = .ok (.getfield 73, 3) := by decide +kernel
theorem dX12_widthBehind_5 : decode cX12_widthBehind 5 = .ok (.iload_n 3, 1) := by decide +kernel
theorem dX12_widthBehind_6 : decode cX12_widthBehind 6 = .ok (.iconst 4, 1) := by decide +kernel
theorem dX12_widthBehind_7 : decode cX12_widthBehind 7 = .ok (.idiv, 1) := by decide +kernel
theorem dX12_widthBehind_8 : decode cX12_widthBehind 8 = .ok (.iaload, 1) := by decide +kernel
theorem dX12_widthBehind_9 : decode cX12_widthBehind 9 = .ok (.aload_n 0, 1) := by decide +kernel
theorem dX12_widthBehind_10 : decode cX12_widthBehind 10 = .ok (.getfield 76, 3) := by decide +kernel
theorem dX12_widthBehind_13 : decode cX12_widthBehind 13 = .ok (.iload_n 3, 1) := by decide +kernel
theorem dX12_widthBehind_14 : decode cX12_widthBehind 14 = .ok (.iconst 4, 1) := by decide +kernel
theorem dX12_widthBehind_15 : decode cX12_widthBehind 15 = .ok (.irem, 1) := by decide +kernel
theorem dX12_widthBehind_16 : decode cX12_widthBehind 16 = .ok (.iaload, 1) := by decide +kernel
theorem dX12_widthBehind_17 : decode cX12_widthBehind 17 = .ok (.invokevirtual 267, 3) := by decide +kernel
theorem dX12_widthBehind_20 : decode cX12_widthBehind 20 = .ok (.istore 4, 2) := by decide +kernel
theorem dX12_widthBehind_22 : decode cX12_widthBehind 22 = .ok (.iload_n 1, 1) := by decide +kernel
theorem dX12_widthBehind_23 : decode cX12_widthBehind 23 = .ok (.iload 4, 2) := by decide +kernel
theorem dX12_widthBehind_25 : decode cX12_widthBehind 25 = .ok (.iadd, 1) := by decide +kernel
theorem dX12_widthBehind_26 : decode cX12_widthBehind 26 = .ok (.istore 5, 2) := by decide +kernel
theorem dX12_widthBehind_28 : decode cX12_widthBehind 28 = .ok (.iload 5, 2) := by decide +kernel
theorem dX12_widthBehind_30 : decode cX12_widthBehind 30 = .ok (.ifCond .ge 7, 3) := by decide +kernel
theorem dX12_widthBehind_33 : decode cX12_widthBehind 33 = .ok (.iconst 0, 1) := by decide +kernel
theorem dX12_widthBehind_34 : decode cX12_widthBehind 34 = .ok (.goto 15, 3) := by decide +kernel
theorem dX12_widthBehind_37 : decode cX12_widthBehind 37 = .ok (.iload 5, 2) := by decide +kernel
theorem dX12_widthBehind_39 : decode cX12_widthBehind 39 = .ok (.iload_n 2, 1) := by decide +kernel
theorem dX12_widthBehind_40 : decode cX12_widthBehind 40 = .ok (.if_icmp .le 7, 3) := by decide +kernel
theorem dX12_widthBehind_43 : decode cX12_widthBehind 43 = .ok (.iload_n 2, 1) := by decide +kernel
theorem dX12_widthBehind_44 : decode cX12_widthBehind 44 = .ok (.goto 5, 3) := by decide +kernel
theorem dX12_widthBehind_47 : decode cX12_widthBehind 47 = .ok (.iload 5, 2) := by decide +kernel
theorem dX12_widthBehind_49 : decode cX12_widthBehind 49 = .ok (.ireturn, 1) := by decide +kernel
theorem dX12_turnsOf_0 : decode cX12_turnsOf 0 = .ok (.aload_n 0, 1) := by decide +kernel
theorem dX12_turnsOf_1 : decode cX12_turnsOf 1 = .ok (.invokevirtual 242, 3) := by decide +kernel
theorem dX12_turnsOf_4 : decode cX12_turnsOf 4 = .ok (.aload_n 0, 1) := by decide +kernel
theorem dX12_turnsOf_5 : decode cX12_turnsOf 5 = .ok (.aload_n 0, 1) := by decide +kernel
theorem dX12_turnsOf_6 : decode cX12_turnsOf 6 = .ok (.iload_n 1, 1) := by decide +kernel
theorem dX12_turnsOf_7 : decode cX12_turnsOf 7 = .ok (.aload_n 0, 1) := by decide +kernel
theorem dX12_turnsOf_8 : decode cX12_turnsOf 8 = .ok (.getfield 73, 3) := by decide +kernel
theorem dX12_turnsOf_11 : decode cX12_turnsOf 11 = .ok (.invokevirtual 321, 3) := by decide +kernel
theorem dX12_turnsOf_14 : decode cX12_turnsOf 14 = .ok (.putfield 315, 3) := by decide +kernel
theorem dX12_turnsOf_17 : decode cX12_turnsOf 17 = .ok (.aload_n 0, 1) := by decide +kernel
theorem dX12_turnsOf_18 : decode cX12_turnsOf 18 = .ok (.aload_n 0, 1) := by decide +kernel
theorem dX12_turnsOf_19 : decode cX12_turnsOf 19 = .ok (.iload_n 2, 1) := by decide +kernel
theorem dX12_turnsOf_20 : decode cX12_turnsOf 20 = .ok (.aload_n 0, 1) := by decide +kernel
theorem dX12_turnsOf_21 : decode cX12_turnsOf 21 = .ok (.getfield 76, 3) := by decide +kernel
theorem dX12_turnsOf_24 : decode cX12_turnsOf 24 = .ok (.invokevirtual 321, 3) := by decide +kernel
theorem dX12_turnsOf_27 : decode cX12_turnsOf 27 = .ok (.putfield 318, 3) := by decide +kernel
theorem dX12_turnsOf_30 : decode cX12_turnsOf 30 = .ok (.aload_n 0, 1) := by decide +kernel
theorem dX12_turnsOf_31 : decode cX12_turnsOf 31 = .ok (.getfield 315, 3) := by decide +kernel
theorem dX12_turnsOf_34 : decode cX12_turnsOf 34 = .ok (.iconst 4, 1) := by decide +kernel
theorem dX12_turnsOf_35 : decode cX12_turnsOf 35 = .ok (.if_icmp .gt 11, 3) := by decide +kernel
theorem dX12_turnsOf_38 : decode cX12_turnsOf 38 = .ok (.aload_n 0, 1) := by decide +kernel
theorem dX12_turnsOf_39 : decode cX12_turnsOf 39 = .ok (.getfield 318, 3) := by decide +kernel
theorem dX12_turnsOf_42 : decode cX12_turnsOf 42 = .ok (.iconst 4, 1) := by decide +kernel
theorem dX12_turnsOf_43 : decode cX12_turnsOf 43 = .ok (.if_icmp .le 7, 3) := by decide +kernel
theorem dX12_turnsOf_46 : decode cX12_turnsOf 46 = .ok (.sipush (-10004), 3) := by decide +kernel
theorem dX12_turnsOf_49 : decode cX12_turnsOf 49 = .ok (.ireturn, 1) := by decide +kernel
theorem dX12_turnsOf_50 : decode cX12_turnsOf 50 = .ok (.aload_n 0, 1) := by decide +kernel
theorem dX12_turnsOf_51 : decode cX12_turnsOf 51 = .ok (.getfield 40, 3) := by decide +kernel
theorem dX12_turnsOf_54 : decode cX12_turnsOf 54 = .ok (.iload_n 1, 1) := by decide +kernel
theorem dX12_turnsOf_55 : decode cX12_turnsOf 55 = .ok (.iaload, 1) := by decide +kernel
theorem dX12_turnsOf_56 : decode cX12_turnsOf 56 = .ok (.aload_n 0, 1) := by decide +kernel
theorem dX12_turnsOf_57 : decode cX12_turnsOf 57 = .ok (.getfield 40, 3) := by decide +kernel
theorem dX12_turnsOf_60 : decode cX12_turnsOf 60 = .ok (.iload_n 2, 1) := by decide +kernel
theorem dX12_turnsOf_61 : decode cX12_turnsOf 61 = .ok (.iaload, 1) := by decide +kernel
theorem dX12_turnsOf_62 : decode cX12_turnsOf 62 = .ok (.iadd, 1) := by decide +kernel
theorem dX12_turnsOf_63 : decode cX12_turnsOf 63 = .ok (.istore 4, 2) := by decide +kernel
theorem dX12_turnsOf_65 : decode cX12_turnsOf 65 = .ok (.aload_n 0, 1) := by decide +kernel
theorem dX12_turnsOf_66 : decode cX12_turnsOf 66 = .ok (.iconst (-1), 1) := by decide +kernel
theorem dX12_turnsOf_67 : decode cX12_turnsOf 67 = .ok (.putfield 325, 3) := by decide +kernel
theorem dX12_turnsOf_70 : decode cX12_turnsOf 70 = .ok (.iconst 0, 1) := by decide +kernel
theorem dX12_turnsOf_71 : decode cX12_turnsOf 71 = .ok (.istore 5, 2) := by decide +kernel
theorem dX12_turnsOf_73 : decode cX12_turnsOf 73 = .ok (.aload_n 0, 1) := by decide +kernel
theorem dX12_turnsOf_74 : decode cX12_turnsOf 74 = .ok (.iconst 0, 1) := by decide +kernel
theorem dX12_turnsOf_75 : decode cX12_turnsOf 75 = .ok (.iconst 0, 1) := by decide +kernel
theorem dX12_turnsOf_76 : decode cX12_turnsOf 76 = .ok (.aload_n 0, 1) := by decide +kernel
theorem dX12_turnsOf_77 : decode cX12_turnsOf 77 = .ok (.getfield 40, 3) := by decide +kernel
theorem dX12_turnsOf_80 : decode cX12_turnsOf 80 = .ok (.iload_n 1, 1) := by decide +kernel
theorem dX12_turnsOf_81 : decode cX12_turnsOf 81 = .ok (.iaload, 1) := by decide +kernel
theorem dX12_turnsOf_82 : decode cX12_turnsOf 82 = .ok (.invokevirtual 328, 3) := by decide +kernel
theorem dX12_turnsOf_85 : decode cX12_turnsOf 85 = .ok (.iconst 0, 1) := by decide +kernel
theorem dX12_turnsOf_86 : decode cX12_turnsOf 86 = .ok (.istore 6, 2) := by decide +kernel
theorem dX12_turnsOf_88 : decode cX12_turnsOf 88 = .ok (.iload 5, 2) := by decide +kernel
theorem dX12_turnsOf_90 : decode cX12_turnsOf 90 = .ok (.ifCond .lt 185, 3) := by decide +kernel
theorem dX12_turnsOf_93 : decode cX12_turnsOf 93 = .ok (.aload_n 0, 1) := by decide +kernel
theorem dX12_turnsOf_94 : decode cX12_turnsOf 94 = .ok (.getfield 79, 3) := by decide +kernel
theorem dX12_turnsOf_97 : decode cX12_turnsOf 97 = .ok (.iload 5, 2) := by decide +kernel
theorem dX12_turnsOf_99 : decode cX12_turnsOf 99 = .ok (.iaload, 1) := by decide +kernel
theorem dX12_turnsOf_100 : decode cX12_turnsOf 100 = .ok (.bipush 16, 2) := by decide +kernel
theorem dX12_turnsOf_102 : decode cX12_turnsOf 102 = .ok (.if_icmp .ge 33, 3) := by decide +kernel
theorem dX12_turnsOf_105 : decode cX12_turnsOf 105 = .ok (.aload_n 0, 1) := by decide +kernel
theorem dX12_turnsOf_106 : decode cX12_turnsOf 106 = .ok (.iload 5, 2) := by decide +kernel
theorem dX12_turnsOf_108 : decode cX12_turnsOf 108 = .ok (.aload_n 0, 1) := by decide +kernel
theorem dX12_turnsOf_109 : decode cX12_turnsOf 109 = .ok (.getfield 79, 3) := by decide +kernel
theorem dX12_turnsOf_112 : decode cX12_turnsOf 112 = .ok (.iload 5, 2) := by decide +kernel
theorem dX12_turnsOf_114 : decode cX12_turnsOf 114 = .ok (.iaload, 1) := by decide +kernel
theorem dX12_turnsOf_115 : decode cX12_turnsOf 115 = .ok (.invokevirtual 332, 3) := by decide +kernel
theorem dX12_turnsOf_118 : decode cX12_turnsOf 118 = .ok (.ifCond .ne 17, 3) := by decide +kernel
theorem dX12_turnsOf_121 : decode cX12_turnsOf 121 = .ok (.aload_n 0, 1) := by decide +kernel
theorem dX12_turnsOf_122 : decode cX12_turnsOf 122 = .ok (.getfield 79, 3) := by decide +kernel
theorem dX12_turnsOf_125 : decode cX12_turnsOf 125 = .ok (.iload 5, 2) := by decide +kernel
theorem dX12_turnsOf_127 : decode cX12_turnsOf 127 = .ok (.dup2, 1) := by decide +kernel
theorem dX12_turnsOf_128 : decode cX12_turnsOf 128 = .ok (.iaload, 1) := by decide +kernel
theorem dX12_turnsOf_129 : decode cX12_turnsOf 129 = .ok (.iconst 1, 1) := by decide +kernel
theorem dX12_turnsOf_130 : decode cX12_turnsOf 130 = .ok (.iadd, 1) := by decide +kernel
theorem dX12_turnsOf_131 : decode cX12_turnsOf 131 = .ok (.iastore, 1) := by decide +kernel
theorem dX12_turnsOf_132 : decode cX12_turnsOf 132 = .ok (.goto (-39), 3) := by decide +kernel
theorem dX12_turnsOf_135 : decode cX12_turnsOf 135 = .ok (.aload_n 0, 1) := by decide +kernel
theorem dX12_turnsOf_136 : decode cX12_turnsOf 136 = .ok (.getfield 79, 3) := by decide +kernel
theorem dX12_turnsOf_139 : decode cX12_turnsOf 139 = .ok (.iload 5, 2) := by decide +kernel
theorem dX12_turnsOf_141 : decode cX12_turnsOf 141 = .ok (.iaload, 1) := by decide +kernel
theorem dX12_turnsOf_142 : decode cX12_turnsOf 142 = .ok (.bipush 16, 2) := by decide +kernel
theorem dX12_turnsOf_144 : decode cX12_turnsOf 144 = .ok (.if_icmp .ge 67, 3) := by decide +kernel
theorem dX12_turnsOf_147 : decode cX12_turnsOf 147 = .ok (.aload_n 0, 1) := by decide +kernel
theorem dX12_turnsOf_148 : decode cX12_turnsOf 148 = .ok (.getfield 79, 3) := by decide +kernel
theorem dX12_turnsOf_151 : decode cX12_turnsOf 151 = .ok (.iload 5, 2) := by decide +kernel
theorem dX12_turnsOf_153 : decode cX12_turnsOf 153 = .ok (.iaload, 1) := by decide +kernel
theorem dX12_turnsOf_154 : decode cX12_turnsOf 154 = .ok (.istore 7, 2) := by decide +kernel
theorem dX12_turnsOf_156 : decode cX12_turnsOf 156 = .ok (.aload_n 0, 1) := by decide +kernel
theorem dX12_turnsOf_157 : decode cX12_turnsOf 157 = .ok (.aload_n 0, 1) := by decide +kernel
theorem dX12_turnsOf_158 : decode cX12_turnsOf 158 = .ok (.getfield 92, 3) := by decide +kernel
theorem dX12_turnsOf_161 : decode cX12_turnsOf 161 = .ok (.iload 5, 2) := by decide +kernel
theorem dX12_turnsOf_163 : decode cX12_turnsOf 163 = .ok (.iaload, 1) := by decide +kernel
theorem dX12_turnsOf_164 : decode cX12_turnsOf 164 = .ok (.iload 4, 2) := by decide +kernel
theorem dX12_turnsOf_166 : decode cX12_turnsOf 166 = .ok (.iload 7, 2) := by decide +kernel
theorem dX12_turnsOf_168 : decode cX12_turnsOf 168 = .ok (.invokevirtual 335, 3) := by decide +kernel
theorem dX12_turnsOf_171 : decode cX12_turnsOf 171 = .ok (.istore 8, 2) := by decide +kernel
theorem dX12_turnsOf_173 : decode cX12_turnsOf 173 = .ok (.aload_n 0, 1) := by decide +kernel
theorem dX12_turnsOf_174 : decode cX12_turnsOf 174 = .ok (.iload 5, 2) := by decide +kernel
theorem dX12_turnsOf_176 : decode cX12_turnsOf 176 = .ok (.iconst 1, 1) := by decide +kernel
theorem dX12_turnsOf_177 : decode cX12_turnsOf 177 = .ok (.iadd, 1) := by decide +kernel
theorem dX12_turnsOf_178 : decode cX12_turnsOf 178 = .ok (.aload_n 0, 1) := by decide +kernel
theorem dX12_turnsOf_179 : decode cX12_turnsOf 179 = .ok (.getfield 89, 3) := by decide +kernel
theorem dX12_turnsOf_182 : decode cX12_turnsOf 182 = .ok (.iload 5, 2) := by decide +kernel
theorem dX12_turnsOf_184 : decode cX12_turnsOf 184 = .ok (.iaload, 1) := by decide +kernel
theorem dX12_turnsOf_185 : decode cX12_turnsOf 185 = .ok (.iconst 1, 1) := by decide +kernel
theorem dX12_turnsOf_186 : decode cX12_turnsOf 186 = .ok (.iload 7, 2) := by decide +kernel
theorem dX12_turnsOf_188 : decode cX12_turnsOf 188 = .ok (.iconst 4, 1) := by decide +kernel
theorem dX12_turnsOf_189 : decode cX12_turnsOf 189 = .ok (.idiv, 1) := by decide +kernel
theorem dX12_turnsOf_190 : decode cX12_turnsOf 190 = .ok (.ishl, 1) := by decide +kernel
theorem dX12_turnsOf_191 : decode cX12_turnsOf 191 = .ok (.ior, 1) := by decide +kernel
theorem dX12_turnsOf_192 : decode cX12_turnsOf 192 = .ok (.bipush 16, 2) := by decide +kernel
theorem dX12_turnsOf_194 : decode cX12_turnsOf 194 = .ok (.iload 7, 2) := by decide +kernel
theorem dX12_turnsOf_196 : decode cX12_turnsOf 196 = .ok (.iconst 4, 1) := by decide +kernel
theorem dX12_turnsOf_197 : decode cX12_turnsOf 197 = .ok (.irem, 1) := by decide +kernel
theorem dX12_turnsOf_198 : decode cX12_turnsOf 198 = .ok (.ishl, 1) := by decide +kernel
theorem dX12_turnsOf_199 : decode cX12_turnsOf 199 = .ok (.ior, 1) := by decide +kernel
theorem dX12_turnsOf_200 : decode cX12_turnsOf 200 = .ok (.iload 8, 2) := by decide +kernel
theorem dX12_turnsOf_202 : decode cX12_turnsOf 202 = .ok (.invokevirtual 328, 3) := by decide +kernel
theorem dX12_turnsOf_205 : decode cX12_turnsOf 205 = .ok (.iinc 5 1, 3) := by decide +kernel
theorem dX12_turnsOf_208 : decode cX12_turnsOf 208 = .ok (.goto (-120), 3) := by decide +kernel
theorem dX12_turnsOf_211 : decode cX12_turnsOf 211 = .ok (.aload_n 0, 1) := by decide +kernel
theorem dX12_turnsOf_212 : decode cX12_turnsOf 212 = .ok (.getfield 85, 3) := by decide +kernel
theorem dX12_turnsOf_215 : decode cX12_turnsOf 215 = .ok (.iload 5, 2) := by decide +kernel
theorem dX12_turnsOf_217 : decode cX12_turnsOf 217 = .ok (.baload, 1) := by decide +kernel
theorem dX12_turnsOf_218 : decode cX12_turnsOf 218 = .ok (.ifCond .eq 13, 3) := by decide +kernel
theorem dX12_turnsOf_221 : decode cX12_turnsOf 221 = .ok (.aload_n 0, 1) := by decide +kernel
theorem dX12_turnsOf_222 : decode cX12_turnsOf 222 = .ok (.getfield 82, 3) := by decide +kernel
theorem dX12_turnsOf_225 : decode cX12_turnsOf 225 = .ok (.iload 5, 2) := by decide +kernel
theorem dX12_turnsOf_227 : decode cX12_turnsOf 227 = .ok (.iaload, 1) := by decide +kernel
theorem dX12_turnsOf_228 : decode cX12_turnsOf 228 = .ok (.goto 15, 3) := by decide +kernel
theorem dX12_turnsOf_231 : decode cX12_turnsOf 231 = .ok (.iconst 2, 1) := by decide +kernel
theorem dX12_turnsOf_232 : decode cX12_turnsOf 232 = .ok (.aload_n 0, 1) := by decide +kernel
theorem dX12_turnsOf_233 : decode cX12_turnsOf 233 = .ok (.getfield 92, 3) := by decide +kernel
theorem dX12_turnsOf_236 : decode cX12_turnsOf 236 = .ok (.iload 5, 2) := by decide +kernel
theorem dX12_turnsOf_238 : decode cX12_turnsOf 238 = .ok (.iaload, 1) := by decide +kernel
theorem dX12_turnsOf_239 : decode cX12_turnsOf 239 = .ok (.imul, 1) := by decide +kernel
theorem dX12_turnsOf_240 : decode cX12_turnsOf 240 = .ok (.iload 4, 2) := by decide +kernel
theorem dX12_turnsOf_242 : decode cX12_turnsOf 242 = .ok (.isub, 1) := by decide +kernel
theorem dX12_turnsOf_243 : decode cX12_turnsOf 243 = .ok (.istore 6, 2) := by decide +kernel
theorem dX12_turnsOf_245 : decode cX12_turnsOf 245 = .ok (.iinc 5 (-1), 3) := by decide +kernel
theorem dX12_turnsOf_248 : decode cX12_turnsOf 248 = .ok (.iload 5, 2) := by decide +kernel
theorem dX12_turnsOf_250 : decode cX12_turnsOf 250 = .ok (.ifCond .lt (-162), 3) := by decide +kernel
theorem dX12_turnsOf_253 : decode cX12_turnsOf 253 = .ok (.aload_n 0, 1) := by decide +kernel
theorem dX12_turnsOf_254 : decode cX12_turnsOf 254 = .ok (.iload 5, 2) := by decide +kernel
theorem dX12_turnsOf_256 : decode cX12_turnsOf 256 = .ok (.iload 6, 2) := by decide +kernel
theorem dX12_turnsOf_258 : decode cX12_turnsOf 258 = .ok (.invokevirtual 338, 3) := by decide +kernel
theorem dX12_turnsOf_261 : decode cX12_turnsOf 261 = .ok (.aload_n 0, 1) := by decide +kernel
theorem dX12_turnsOf_262 : decode cX12_turnsOf 262 = .ok (.getfield 79, 3) := by decide +kernel
theorem dX12_turnsOf_265 : decode cX12_turnsOf 265 = .ok (.iload 5, 2) := by decide +kernel
theorem dX12_turnsOf_267 : decode cX12_turnsOf 267 = .ok (.dup2, 1) := by decide +kernel
theorem dX12_turnsOf_268 : decode cX12_turnsOf 268 = .ok (.iaload, 1) := by decide +kernel
theorem dX12_turnsOf_269 : decode cX12_turnsOf 269 = .ok (.iconst 1, 1) := by decide +kernel
theorem dX12_turnsOf_270 : decode cX12_turnsOf 270 = .ok (.iadd, 1) := by decide +kernel
theorem dX12_turnsOf_271 : decode cX12_turnsOf 271 = .ok (.iastore, 1) := by decide +kernel
theorem dX12_turnsOf_272 : decode cX12_turnsOf 272 = .ok (.goto (-184), 3) := by decide +kernel
theorem dX12_turnsOf_275 : decode cX12_turnsOf 275 = .ok (.iload_n 3, 1) := by decide +kernel
theorem dX12_turnsOf_276 : decode cX12_turnsOf 276 = .ok (.ifCond .ne 8, 3) := by decide +kernel
theorem dX12_turnsOf_279 : decode cX12_turnsOf 279 = .ok (.iload 6, 2) := by decide +kernel
theorem dX12_turnsOf_281 : decode cX12_turnsOf 281 = .ok (.goto 7, 3) := by decide +kernel
theorem dX12_turnsOf_284 : decode cX12_turnsOf 284 = .ok (.aload_n 0, 1) := by decide +kernel
theorem dX12_turnsOf_285 : decode cX12_turnsOf 285 = .ok (.getfield 325, 3) := by decide +kernel
theorem dX12_turnsOf_288 : decode cX12_turnsOf 288 = .ok (.ireturn, 1) := by decide +kernel
theorem dX12_enters_0 : decode cX12_enters 0 = .ok (.aload_n 0, 1) := by decide +kernel
theorem dX12_enters_1 : decode cX12_enters 1 = .ok (.getfield 79, 3) := by decide +kernel
theorem dX12_enters_4 : decode cX12_enters 4 = .ok (.iload_n 1, 1) := by decide +kernel
theorem dX12_enters_5 : decode cX12_enters 5 = .ok (.iconst 0, 1) := by decide +kernel
theorem dX12_enters_6 : decode cX12_enters 6 = .ok (.iastore, 1) := by decide +kernel
theorem dX12_enters_7 : decode cX12_enters 7 = .ok (.aload_n 0, 1) := by decide +kernel
theorem dX12_enters_8 : decode cX12_enters 8 = .ok (.getfield 85, 3) := by decide +kernel
theorem dX12_enters_11 : decode cX12_enters 11 = .ok (.iload_n 1, 1) := by decide +kernel
theorem dX12_enters_12 : decode cX12_enters 12 = .ok (.iconst 0, 1) := by decide +kernel
theorem dX12_enters_13 : decode cX12_enters 13 = .ok (.bastore, 1) := by decide +kernel
theorem dX12_enters_14 : decode cX12_enters 14 = .ok (.aload_n 0, 1) := by decide +kernel
theorem dX12_enters_15 : decode cX12_enters 15 = .ok (.getfield 89, 3) := by decide +kernel
theorem dX12_enters_18 : decode cX12_enters 18 = .ok (.iload_n 1, 1) := by decide +kernel
theorem dX12_enters_19 : decode cX12_enters 19 = .ok (.iload_n 2, 1) := by decide +kernel
theorem dX12_enters_20 : decode cX12_enters 20 = .ok (.iastore, 1) := by decide +kernel
theorem dX12_enters_21 : decode cX12_enters 21 = .ok (.aload_n 0, 1) := by decide +kernel
theorem dX12_enters_22 : decode cX12_enters 22 = .ok (.getfield 92, 3) := by decide +kernel
theorem dX12_enters_25 : decode cX12_enters 25 = .ok (.iload_n 1, 1) := by decide +kernel
theorem dX12_enters_26 : decode cX12_enters 26 = .ok (.iload_n 3, 1) := by decide +kernel
theorem dX12_enters_27 : decode cX12_enters 27 = .ok (.iastore, 1) := by decide +kernel
theorem dX12_enters_28 : decode cX12_enters 28 = .ok (.return_, 1) := by decide +kernel
theorem dX12_keeps_0 : decode cX12_keeps 0 = .ok (.aload_n 0, 1) := by decide +kernel
theorem dX12_keeps_1 : decode cX12_keeps 1 = .ok (.getfield 85, 3) := by decide +kernel
theorem dX12_keeps_4 : decode cX12_keeps 4 = .ok (.iload_n 1, 1) := by decide +kernel
theorem dX12_keeps_5 : decode cX12_keeps 5 = .ok (.baload, 1) := by decide +kernel
theorem dX12_keeps_6 : decode cX12_keeps 6 = .ok (.ifCond .eq 32, 3) := by decide +kernel
theorem dX12_keeps_9 : decode cX12_keeps 9 = .ok (.iload_n 1, 1) := by decide +kernel
theorem dX12_keeps_10 : decode cX12_keeps 10 = .ok (.iconst 2, 1) := by decide +kernel
theorem dX12_keeps_11 : decode cX12_keeps 11 = .ok (.irem, 1) := by decide +kernel
theorem dX12_keeps_12 : decode cX12_keeps 12 = .ok (.ifCond .ne 16, 3) := by decide +kernel
theorem dX12_keeps_15 : decode cX12_keeps 15 = .ok (.iload_n 2, 1) := by decide +kernel
theorem dX12_keeps_16 : decode cX12_keeps 16 = .ok (.aload_n 0, 1) := by decide +kernel
theorem dX12_keeps_17 : decode cX12_keeps 17 = .ok (.getfield 82, 3) := by decide +kernel
theorem dX12_keeps_20 : decode cX12_keeps 20 = .ok (.iload_n 1, 1) := by decide +kernel
theorem dX12_keeps_21 : decode cX12_keeps 21 = .ok (.iaload, 1) := by decide +kernel
theorem dX12_keeps_22 : decode cX12_keeps 22 = .ok (.if_icmp .le 20, 3) := by decide +kernel
theorem dX12_keeps_25 : decode cX12_keeps 25 = .ok (.goto 13, 3) := by decide +kernel
theorem dX12_keeps_28 : decode cX12_keeps 28 = .ok (.iload_n 2, 1) := by decide +kernel
theorem dX12_keeps_29 : decode cX12_keeps 29 = .ok (.aload_n 0, 1) := by decide +kernel
theorem dX12_keeps_30 : decode cX12_keeps 30 = .ok (.getfield 82, 3) := by decide +kernel
theorem dX12_keeps_33 : decode cX12_keeps 33 = .ok (.iload_n 1, 1) := by decide +kernel
theorem dX12_keeps_34 : decode cX12_keeps 34 = .ok (.iaload, 1) := by decide +kernel
theorem dX12_keeps_35 : decode cX12_keeps 35 = .ok (.if_icmp .ge 7, 3) := by decide +kernel
theorem dX12_keeps_38 : decode cX12_keeps 38 = .ok (.iconst 1, 1) := by decide +kernel
theorem dX12_keeps_39 : decode cX12_keeps 39 = .ok (.goto 4, 3) := by decide +kernel
theorem dX12_keeps_42 : decode cX12_keeps 42 = .ok (.iconst 0, 1) := by decide +kernel
theorem dX12_keeps_43 : decode cX12_keeps 43 = .ok (.istore_n 3, 1) := by decide +kernel
theorem dX12_keeps_44 : decode cX12_keeps 44 = .ok (.iload_n 3, 1) := by decide +kernel
theorem dX12_keeps_45 : decode cX12_keeps 45 = .ok (.ifCond .eq 62, 3) := by decide +kernel
theorem dX12_keeps_48 : decode cX12_keeps 48 = .ok (.aload_n 0, 1) := by decide +kernel
theorem dX12_keeps_49 : decode cX12_keeps 49 = .ok (.getfield 82, 3) := by decide +kernel
theorem dX12_keeps_52 : decode cX12_keeps 52 = .ok (.iload_n 1, 1) := by decide +kernel
theorem dX12_keeps_53 : decode cX12_keeps 53 = .ok (.iload_n 2, 1) := by decide +kernel
theorem dX12_keeps_54 : decode cX12_keeps 54 = .ok (.iastore, 1) := by decide +kernel
theorem dX12_keeps_55 : decode cX12_keeps 55 = .ok (.aload_n 0, 1) := by decide +kernel
theorem dX12_keeps_56 : decode cX12_keeps 56 = .ok (.getfield 85, 3) := by decide +kernel
theorem dX12_keeps_59 : decode cX12_keeps 59 = .ok (.iload_n 1, 1) := by decide +kernel
theorem dX12_keeps_60 : decode cX12_keeps 60 = .ok (.iconst 1, 1) := by decide +kernel
theorem dX12_keeps_61 : decode cX12_keeps 61 = .ok (.bastore, 1) := by decide +kernel
theorem dX12_keeps_62 : decode cX12_keeps 62 = .ok (.aload_n 0, 1) := by decide +kernel
theorem dX12_keeps_63 : decode cX12_keeps 63 = .ok (.iload_n 1, 1) := by decide +kernel
theorem dX12_keeps_64 : decode cX12_keeps 64 = .ok (.ifCond .ne 36, 3) := by decide +kernel
theorem dX12_keeps_67 : decode cX12_keeps 67 = .ok (.bipush 12, 2) := by decide +kernel
theorem dX12_keeps_69 : decode cX12_keeps 69 = .ok (.aload_n 0, 1) := by decide +kernel
theorem dX12_keeps_70 : decode cX12_keeps 70 = .ok (.getfield 73, 3) := by decide +kernel
theorem dX12_keeps_73 : decode cX12_keeps 73 = .ok (.aload_n 0, 1) := by decide +kernel
theorem dX12_keeps_74 : decode cX12_keeps 74 = .ok (.getfield 79, 3) := by decide +kernel
theorem dX12_keeps_77 : decode cX12_keeps 77 = .ok (.iconst 0, 1) := by decide +kernel
theorem dX12_keeps_78 : decode cX12_keeps 78 = .ok (.iaload, 1) := by decide +kernel
theorem dX12_keeps_79 : decode cX12_keeps 79 = .ok (.iconst 4, 1) := by decide +kernel
theorem dX12_keeps_80 : decode cX12_keeps 80 = .ok (.idiv, 1) := by decide +kernel
theorem dX12_keeps_81 : decode cX12_keeps 81 = .ok (.iaload, 1) := by decide +kernel
theorem dX12_keeps_82 : decode cX12_keeps 82 = .ok (.imul, 1) := by decide +kernel
theorem dX12_keeps_83 : decode cX12_keeps 83 = .ok (.aload_n 0, 1) := by decide +kernel
theorem dX12_keeps_84 : decode cX12_keeps 84 = .ok (.getfield 76, 3) := by decide +kernel
theorem dX12_keeps_87 : decode cX12_keeps 87 = .ok (.aload_n 0, 1) := by decide +kernel
theorem dX12_keeps_88 : decode cX12_keeps 88 = .ok (.getfield 79, 3) := by decide +kernel
theorem dX12_keeps_91 : decode cX12_keeps 91 = .ok (.iconst 0, 1) := by decide +kernel
theorem dX12_keeps_92 : decode cX12_keeps 92 = .ok (.iaload, 1) := by decide +kernel
theorem dX12_keeps_93 : decode cX12_keeps 93 = .ok (.iconst 4, 1) := by decide +kernel
theorem dX12_keeps_94 : decode cX12_keeps 94 = .ok (.irem, 1) := by decide +kernel
theorem dX12_keeps_95 : decode cX12_keeps 95 = .ok (.iaload, 1) := by decide +kernel
theorem dX12_keeps_96 : decode cX12_keeps 96 = .ok (.iadd, 1) := by decide +kernel
theorem dX12_keeps_97 : decode cX12_keeps 97 = .ok (.goto 7, 3) := by decide +kernel
theorem dX12_keeps_100 : decode cX12_keeps 100 = .ok (.aload_n 0, 1) := by decide +kernel
theorem dX12_keeps_101 : decode cX12_keeps 101 = .ok (.getfield 325, 3) := by decide +kernel
theorem dX12_keeps_104 : decode cX12_keeps 104 = .ok (.putfield 325, 3) := by decide +kernel
theorem dX12_keeps_107 : decode cX12_keeps 107 = .ok (.return_, 1) := by decide +kernel
theorem dX12_turnsBy_0 : decode cX12_turnsBy 0 = .ok (.iload_n 1, 1) := by decide +kernel
theorem dX12_turnsBy_1 : decode cX12_turnsBy 1 = .ok (.i2l, 1) := by decide +kernel
theorem dX12_turnsBy_2 : decode cX12_turnsBy 2 = .ok (.lconst 0, 1) := by decide +kernel
theorem dX12_turnsBy_3 : decode cX12_turnsBy 3 = .ok (.aload_n 0, 1) := by decide +kernel
theorem dX12_turnsBy_4 : decode cX12_turnsBy 4 = .ok (.getfield 138, 3) := by decide +kernel
theorem dX12_turnsBy_7 : decode cX12_turnsBy 7 = .ok (.iconst 1, 1) := by decide +kernel
theorem dX12_turnsBy_8 : decode cX12_turnsBy 8 = .ok (.isub, 1) := by decide +kernel
theorem dX12_turnsBy_9 : decode cX12_turnsBy 9 = .ok (.i2l, 1) := by decide +kernel
theorem dX12_turnsBy_10 : decode cX12_turnsBy 10 = .ok (.invokestatic 95, 3) := by decide +kernel
theorem dX12_turnsBy_13 : decode cX12_turnsBy 13 = .ok (.ifCond .eq 37, 3) := by decide +kernel
theorem dX12_turnsBy_16 : decode cX12_turnsBy 16 = .ok (.iload_n 2, 1) := by decide +kernel
theorem dX12_turnsBy_17 : decode cX12_turnsBy 17 = .ok (.i2l, 1) := by decide +kernel
theorem dX12_turnsBy_18 : decode cX12_turnsBy 18 = .ok (.lconst 0, 1) := by decide +kernel
theorem dX12_turnsBy_19 : decode cX12_turnsBy 19 = .ok (.aload_n 0, 1) := by decide +kernel
theorem dX12_turnsBy_20 : decode cX12_turnsBy 20 = .ok (.getfield 138, 3) := by decide +kernel
theorem dX12_turnsBy_23 : decode cX12_turnsBy 23 = .ok (.iconst 1, 1) := by decide +kernel
theorem dX12_turnsBy_24 : decode cX12_turnsBy 24 = .ok (.isub, 1) := by decide +kernel
theorem dX12_turnsBy_25 : decode cX12_turnsBy 25 = .ok (.i2l, 1) := by decide +kernel
theorem dX12_turnsBy_26 : decode cX12_turnsBy 26 = .ok (.invokestatic 95, 3) := by decide +kernel
theorem dX12_turnsBy_29 : decode cX12_turnsBy 29 = .ok (.ifCond .eq 21, 3) := by decide +kernel
theorem dX12_turnsBy_32 : decode cX12_turnsBy 32 = .ok (.iload_n 1, 1) := by decide +kernel
theorem dX12_turnsBy_33 : decode cX12_turnsBy 33 = .ok (.iload_n 2, 1) := by decide +kernel
theorem dX12_turnsBy_34 : decode cX12_turnsBy 34 = .ok (.isub, 1) := by decide +kernel
theorem dX12_turnsBy_35 : decode cX12_turnsBy 35 = .ok (.iconst 1, 1) := by decide +kernel
theorem dX12_turnsBy_36 : decode cX12_turnsBy 36 = .ok (.if_icmp .eq 10, 3) := by decide +kernel
theorem dX12_turnsBy_39 : decode cX12_turnsBy 39 = .ok (.iload_n 2, 1) := by decide +kernel
theorem dX12_turnsBy_40 : decode cX12_turnsBy 40 = .ok (.iload_n 1, 1) := by decide +kernel
theorem dX12_turnsBy_41 : decode cX12_turnsBy 41 = .ok (.isub, 1) := by decide +kernel
theorem dX12_turnsBy_42 : decode cX12_turnsBy 42 = .ok (.iconst 1, 1) := by decide +kernel
theorem dX12_turnsBy_43 : decode cX12_turnsBy 43 = .ok (.if_icmp .ne 7, 3) := by decide +kernel
theorem dX12_turnsBy_46 : decode cX12_turnsBy 46 = .ok (.iconst 1, 1) := by decide +kernel
theorem dX12_turnsBy_47 : decode cX12_turnsBy 47 = .ok (.goto 4, 3) := by decide +kernel
theorem dX12_turnsBy_50 : decode cX12_turnsBy 50 = .ok (.iconst 0, 1) := by decide +kernel
theorem dX12_turnsBy_51 : decode cX12_turnsBy 51 = .ok (.istore 4, 2) := by decide +kernel
theorem dX12_turnsBy_53 : decode cX12_turnsBy 53 = .ok (.iload 4, 2) := by decide +kernel
theorem dX12_turnsBy_55 : decode cX12_turnsBy 55 = .ok (.ifCond .eq 13, 3) := by decide +kernel
theorem dX12_turnsBy_58 : decode cX12_turnsBy 58 = .ok (.aload_n 0, 1) := by decide +kernel
theorem dX12_turnsBy_59 : decode cX12_turnsBy 59 = .ok (.iload_n 1, 1) := by decide +kernel
theorem dX12_turnsBy_60 : decode cX12_turnsBy 60 = .ok (.iload_n 2, 1) := by decide +kernel
theorem dX12_turnsBy_61 : decode cX12_turnsBy 61 = .ok (.iload_n 3, 1) := by decide +kernel
theorem dX12_turnsBy_62 : decode cX12_turnsBy 62 = .ok (.invokevirtual 341, 3) := by decide +kernel
theorem dX12_turnsBy_65 : decode cX12_turnsBy 65 = .ok (.goto 6, 3) := by decide +kernel
theorem dX12_turnsBy_68 : decode cX12_turnsBy 68 = .ok (.sipush (-10002), 3) := by decide +kernel
theorem dX12_turnsBy_71 : decode cX12_turnsBy 71 = .ok (.ireturn, 1) := by decide +kernel
theorem dX12_lords_0 : decode cX12_lords 0 = .ok (.aload_n 0, 1) := by decide +kernel
theorem dX12_lords_1 : decode cX12_lords 1 = .ok (.invokevirtual 163, 3) := by decide +kernel
theorem dX12_lords_4 : decode cX12_lords 4 = .ok (.iload_n 3, 1) := by decide +kernel
theorem dX12_lords_5 : decode cX12_lords 5 = .ok (.invokestatic 124, 3) := by decide +kernel
theorem dX12_lords_8 : decode cX12_lords 8 = .ok (.ifCond .eq 13, 3) := by decide +kernel
theorem dX12_lords_11 : decode cX12_lords 11 = .ok (.aload_n 0, 1) := by decide +kernel
theorem dX12_lords_12 : decode cX12_lords 12 = .ok (.iload_n 1, 1) := by decide +kernel
theorem dX12_lords_13 : decode cX12_lords 13 = .ok (.iload_n 2, 1) := by decide +kernel
theorem dX12_lords_14 : decode cX12_lords 14 = .ok (.iload_n 3, 1) := by decide +kernel
theorem dX12_lords_15 : decode cX12_lords 15 = .ok (.invokevirtual 344, 3) := by decide +kernel
theorem dX12_lords_18 : decode cX12_lords 18 = .ok (.goto 6, 3) := by decide +kernel
theorem dX12_lords_21 : decode cX12_lords 21 = .ok (.sipush (-10002), 3) := by decide +kernel
theorem dX12_lords_24 : decode cX12_lords 24 = .ok (.ireturn, 1) := by decide +kernel
theorem dX12_write_0 : decode cX12_write 0 = .ok (.aload_n 0, 1) := by decide +kernel
theorem dX12_write_1 : decode cX12_write 1 = .ok (.iload_n 1, 1) := by decide +kernel
theorem dX12_write_2 : decode cX12_write 2 = .ok (.invokevirtual 248, 3) := by decide +kernel
theorem dX12_write_5 : decode cX12_write 5 = .ok (.ifCond .eq 10, 3) := by decide +kernel
theorem dX12_write_8 : decode cX12_write 8 = .ok (.iload_n 2, 1) := by decide +kernel
theorem dX12_write_9 : decode cX12_write 9 = .ok (.invokestatic 105, 3) := by decide +kernel
theorem dX12_write_12 : decode cX12_write 12 = .ok (.ifCond .ne 6, 3) := by decide +kernel
theorem dX12_write_15 : decode cX12_write 15 = .ok (.bipush (-2), 2) := by decide +kernel
theorem dX12_write_17 : decode cX12_write 17 = .ok (.ireturn, 1) := by decide +kernel
theorem dX12_write_18 : decode cX12_write 18 = .ok (.aload_n 0, 1) := by decide +kernel
theorem dX12_write_19 : decode cX12_write 19 = .ok (.getfield 7, 3) := by decide +kernel
theorem dX12_write_22 : decode cX12_write 22 = .ok (.iload_n 2, 1) := by decide +kernel
theorem dX12_write_23 : decode cX12_write 23 = .ok (.iaload, 1) := by decide +kernel
theorem dX12_write_24 : decode cX12_write 24 = .ok (.ifCond .ge 9, 3) := by decide +kernel
theorem dX12_write_27 : decode cX12_write 27 = .ok (.aload_n 0, 1) := by decide +kernel
theorem dX12_write_28 : decode cX12_write 28 = .ok (.iconst 1, 1) := by decide +kernel
theorem dX12_write_29 : decode cX12_write 29 = .ok (.invokevirtual 111, 3) := by decide +kernel
theorem dX12_write_32 : decode cX12_write 32 = .ok (.ireturn, 1) := by decide +kernel
theorem dX12_write_33 : decode cX12_write 33 = .ok (.aload_n 0, 1) := by decide +kernel
theorem dX12_write_34 : decode cX12_write 34 = .ok (.invokevirtual 163, 3) := by decide +kernel
theorem dX12_write_37 : decode cX12_write 37 = .ok (.aload_n 0, 1) := by decide +kernel
theorem dX12_write_38 : decode cX12_write 38 = .ok (.iload_n 1, 1) := by decide +kernel
theorem dX12_write_39 : decode cX12_write 39 = .ok (.iconst (-1), 1) := by decide +kernel
theorem dX12_write_40 : decode cX12_write 40 = .ok (.invokevirtual 238, 3) := by decide +kernel
theorem dX12_write_43 : decode cX12_write 43 = .ok (.aload_n 0, 1) := by decide +kernel
theorem dX12_write_44 : decode cX12_write 44 = .ok (.getfield 13, 3) := by decide +kernel
theorem dX12_write_47 : decode cX12_write 47 = .ok (.iload_n 2, 1) := by decide +kernel
theorem dX12_write_48 : decode cX12_write 48 = .ok (.iaload, 1) := by decide +kernel
theorem dX12_write_49 : decode cX12_write 49 = .ok (.aload_n 0, 1) := by decide +kernel
theorem dX12_write_50 : decode cX12_write 50 = .ok (.getfield 138, 3) := by decide +kernel
theorem dX12_write_53 : decode cX12_write 53 = .ok (.if_icmp .ge 12, 3) := by decide +kernel
theorem dX12_write_56 : decode cX12_write 56 = .ok (.aload_n 0, 1) := by decide +kernel
theorem dX12_write_57 : decode cX12_write 57 = .ok (.getfield 13, 3) := by decide +kernel
theorem dX12_write_60 : decode cX12_write 60 = .ok (.iload_n 2, 1) := by decide +kernel
theorem dX12_write_61 : decode cX12_write 61 = .ok (.iaload, 1) := by decide +kernel
theorem dX12_write_62 : decode cX12_write 62 = .ok (.goto 7, 3) := by decide +kernel
theorem dX12_write_65 : decode cX12_write 65 = .ok (.aload_n 0, 1) := by decide +kernel
theorem dX12_write_66 : decode cX12_write 66 = .ok (.getfield 138, 3) := by decide +kernel
theorem dX12_write_69 : decode cX12_write 69 = .ok (.istore_n 3, 1) := by decide +kernel
theorem dX12_write_70 : decode cX12_write 70 = .ok (.iconst 0, 1) := by decide +kernel
theorem dX12_write_71 : decode cX12_write 71 = .ok (.istore 4, 2) := by decide +kernel
theorem dX12_write_73 : decode cX12_write 73 = .ok (.iload 4, 2) := by decide +kernel
theorem dX12_write_75 : decode cX12_write 75 = .ok (.iload_n 3, 1) := by decide +kernel
theorem dX12_write_76 : decode cX12_write 76 = .ok (.if_icmp .ge 37, 3) := by decide +kernel
theorem dX12_write_79 : decode cX12_write 79 = .ok (.aload_n 0, 1) := by decide +kernel
theorem dX12_write_80 : decode cX12_write 80 = .ok (.getfield 16, 3) := by decide +kernel
theorem dX12_write_83 : decode cX12_write 83 = .ok (.bipush 60, 2) := by decide +kernel
theorem dX12_write_85 : decode cX12_write 85 = .ok (.iload_n 2, 1) := by decide +kernel
theorem dX12_write_86 : decode cX12_write 86 = .ok (.imul, 1) := by decide +kernel
theorem dX12_write_87 : decode cX12_write 87 = .ok (.iload 4, 2) := by decide +kernel
theorem dX12_write_89 : decode cX12_write 89 = .ok (.iadd, 1) := by decide +kernel
theorem dX12_write_90 : decode cX12_write 90 = .ok (.aload_n 0, 1) := by decide +kernel
theorem dX12_write_91 : decode cX12_write 91 = .ok (.getfield 7, 3) := by decide +kernel
theorem dX12_write_94 : decode cX12_write 94 = .ok (.iload_n 2, 1) := by decide +kernel
theorem dX12_write_95 : decode cX12_write 95 = .ok (.iaload, 1) := by decide +kernel
theorem dX12_write_96 : decode cX12_write 96 = .ok (.aload_n 0, 1) := by decide +kernel
theorem dX12_write_97 : decode cX12_write 97 = .ok (.getfield 40, 3) := by decide +kernel
theorem dX12_write_100 : decode cX12_write 100 = .ok (.iload 4, 2) := by decide +kernel
theorem dX12_write_102 : decode cX12_write 102 = .ok (.iaload, 1) := by decide +kernel
theorem dX12_write_103 : decode cX12_write 103 = .ok (.invokestatic 119, 3) := by decide +kernel
theorem dX12_write_106 : decode cX12_write 106 = .ok (.iastore, 1) := by decide +kernel
theorem dX12_write_107 : decode cX12_write 107 = .ok (.iinc 4 1, 3) := by decide +kernel
theorem dX12_write_110 : decode cX12_write 110 = .ok (.goto (-37), 3) := by decide +kernel
theorem dX12_write_113 : decode cX12_write 113 = .ok (.iload_n 3, 1) := by decide +kernel
theorem dX12_write_114 : decode cX12_write 114 = .ok (.ireturn, 1) := by decide +kernel
theorem dX12_count_0 : decode cX12_count 0 = .ok (.iconst 0, 1) := by decide +kernel
theorem dX12_count_1 : decode cX12_count 1 = .ok (.istore_n 2, 1) := by decide +kernel
theorem dX12_count_2 : decode cX12_count 2 = .ok (.aload_n 0, 1) := by decide +kernel
theorem dX12_count_3 : decode cX12_count 3 = .ok (.invokevirtual 163, 3) := by decide +kernel
theorem dX12_count_6 : decode cX12_count 6 = .ok (.iload_n 1, 1) := by decide +kernel
theorem dX12_count_7 : decode cX12_count 7 = .ok (.tableswitch 117 0 8 #[49, 54, 59, 59, 68, 73, 82, 107, 112], 49) := by decide +kernel
theorem dX12_count_56 : decode cX12_count 56 = .ok (.aload_n 0, 1) := by decide +kernel
theorem dX12_count_57 : decode cX12_count 57 = .ok (.getfield 138, 3) := by decide +kernel
theorem dX12_count_60 : decode cX12_count 60 = .ok (.ireturn, 1) := by decide +kernel
theorem dX12_count_61 : decode cX12_count 61 = .ok (.aload_n 0, 1) := by decide +kernel
theorem dX12_count_62 : decode cX12_count 62 = .ok (.getfield 144, 3) := by decide +kernel
theorem dX12_count_65 : decode cX12_count 65 = .ok (.ireturn, 1) := by decide +kernel
theorem dX12_count_66 : decode cX12_count 66 = .ok (.aload_n 0, 1) := by decide +kernel
theorem dX12_count_67 : decode cX12_count 67 = .ok (.getfield 25, 3) := by decide +kernel
theorem dX12_count_70 : decode cX12_count 70 = .ok (.iload_n 1, 1) := by decide +kernel
theorem dX12_count_71 : decode cX12_count 71 = .ok (.iconst 2, 1) := by decide +kernel
theorem dX12_count_72 : decode cX12_count 72 = .ok (.isub, 1) := by decide +kernel
theorem dX12_count_73 : decode cX12_count 73 = .ok (.iaload, 1) := by decide +kernel
theorem dX12_count_74 : decode cX12_count 74 = .ok (.ireturn, 1) := by decide +kernel
theorem dX12_count_75 : decode cX12_count 75 = .ok (.aload_n 0, 1) := by decide +kernel
theorem dX12_count_76 : decode cX12_count 76 = .ok (.getfield 184, 3) := by decide +kernel
theorem dX12_count_79 : decode cX12_count 79 = .ok (.ireturn, 1) := by decide +kernel
theorem dX12_count_80 : decode cX12_count 80 = .ok (.aload_n 0, 1) := by decide +kernel
theorem dX12_count_81 : decode cX12_count 81 = .ok (.invokevirtual 242, 3) := by decide +kernel
theorem dX12_count_84 : decode cX12_count 84 = .ok (.aload_n 0, 1) := by decide +kernel
theorem dX12_count_85 : decode cX12_count 85 = .ok (.getfield 206, 3) := by decide +kernel
theorem dX12_count_88 : decode cX12_count 88 = .ok (.ireturn, 1) := by decide +kernel
theorem dX12_count_89 : decode cX12_count 89 = .ok (.iconst 0, 1) := by decide +kernel
theorem dX12_count_90 : decode cX12_count 90 = .ok (.istore_n 3, 1) := by decide +kernel
theorem dX12_count_91 : decode cX12_count 91 = .ok (.iload_n 3, 1) := by decide +kernel
theorem dX12_count_92 : decode cX12_count 92 = .ok (.bipush 52, 2) := by decide +kernel
theorem dX12_count_94 : decode cX12_count 94 = .ok (.if_icmp .ge 18, 3) := by decide +kernel
theorem dX12_count_97 : decode cX12_count 97 = .ok (.iload_n 2, 1) := by decide +kernel
theorem dX12_count_98 : decode cX12_count 98 = .ok (.aload_n 0, 1) := by decide +kernel
theorem dX12_count_99 : decode cX12_count 99 = .ok (.getfield 34, 3) := by decide +kernel
theorem dX12_count_102 : decode cX12_count 102 = .ok (.iload_n 3, 1) := by decide +kernel
theorem dX12_count_103 : decode cX12_count 103 = .ok (.iaload, 1) := by decide +kernel
theorem dX12_count_104 : decode cX12_count 104 = .ok (.iadd, 1) := by decide +kernel
theorem dX12_count_105 : decode cX12_count 105 = .ok (.istore_n 2, 1) := by decide +kernel
theorem dX12_count_106 : decode cX12_count 106 = .ok (.iinc 3 1, 3) := by decide +kernel
theorem dX12_count_109 : decode cX12_count 109 = .ok (.goto (-18), 3) := by decide +kernel
theorem dX12_count_112 : decode cX12_count 112 = .ok (.iload_n 2, 1) := by decide +kernel
theorem dX12_count_113 : decode cX12_count 113 = .ok (.ireturn, 1) := by decide +kernel
theorem dX12_count_114 : decode cX12_count 114 = .ok (.aload_n 0, 1) := by decide +kernel
theorem dX12_count_115 : decode cX12_count 115 = .ok (.getfield 294, 3) := by decide +kernel
theorem dX12_count_118 : decode cX12_count 118 = .ok (.ireturn, 1) := by decide +kernel
theorem dX12_count_119 : decode cX12_count 119 = .ok (.aload_n 0, 1) := by decide +kernel
theorem dX12_count_120 : decode cX12_count 120 = .ok (.getfield 99, 3) := by decide +kernel
theorem dX12_count_123 : decode cX12_count 123 = .ok (.ireturn, 1) := by decide +kernel
theorem dX12_count_124 : decode cX12_count 124 = .ok (.bipush (-2), 2) := by decide +kernel
theorem dX12_count_126 : decode cX12_count 126 = .ok (.ireturn, 1) := by decide +kernel
theorem dX12_digest_0 : decode cX12_digest 0 = .ok (.ldc2_w 347, 3) := by decide +kernel
theorem dX12_digest_3 : decode cX12_digest 3 = .ok (.lstore_n 1, 1) := by decide +kernel
theorem dX12_digest_4 : decode cX12_digest 4 = .ok (.iconst 0, 1) := by decide +kernel
theorem dX12_digest_5 : decode cX12_digest 5 = .ok (.istore_n 3, 1) := by decide +kernel
theorem dX12_digest_6 : decode cX12_digest 6 = .ok (.iload_n 3, 1) := by decide +kernel
theorem dX12_digest_7 : decode cX12_digest 7 = .ok (.bipush 8, 2) := by decide +kernel
theorem dX12_digest_9 : decode cX12_digest 9 = .ok (.if_icmp .ge 22, 3) := by decide +kernel
theorem dX12_digest_12 : decode cX12_digest 12 = .ok (.ldc2_w 349, 3) := by decide +kernel
theorem dX12_digest_15 : decode cX12_digest 15 = .ok (.lload_n 1, 1) := by decide +kernel
theorem dX12_digest_16 : decode cX12_digest 16 = .ok (.lmul, 1) := by decide +kernel
theorem dX12_digest_17 : decode cX12_digest 17 = .ok (.aload_n 0, 1) := by decide +kernel
theorem dX12_digest_18 : decode cX12_digest 18 = .ok (.iload_n 3, 1) := by decide +kernel
theorem dX12_digest_19 : decode cX12_digest 19 = .ok (.invokevirtual 351, 3) := by decide +kernel
theorem dX12_digest_22 : decode cX12_digest 22 = .ok (.i2l, 1) := by decide +kernel
theorem dX12_digest_23 : decode cX12_digest 23 = .ok (.ladd, 1) := by decide +kernel
theorem dX12_digest_24 : decode cX12_digest 24 = .ok (.lstore_n 1, 1) := by decide +kernel
theorem dX12_digest_25 : decode cX12_digest 25 = .ok (.iinc 3 1, 3) := by decide +kernel
theorem dX12_digest_28 : decode cX12_digest 28 = .ok (.goto (-22), 3) := by decide +kernel
theorem dX12_digest_31 : decode cX12_digest 31 = .ok (.ldc2_w 349, 3) := by decide +kernel
theorem dX12_digest_34 : decode cX12_digest 34 = .ok (.lload_n 1, 1) := by decide +kernel
theorem dX12_digest_35 : decode cX12_digest 35 = .ok (.lmul, 1) := by decide +kernel
theorem dX12_digest_36 : decode cX12_digest 36 = .ok (.aload_n 0, 1) := by decide +kernel
theorem dX12_digest_37 : decode cX12_digest 37 = .ok (.iconst 0, 1) := by decide +kernel
theorem dX12_digest_38 : decode cX12_digest 38 = .ok (.invokevirtual 160, 3) := by decide +kernel
theorem dX12_digest_41 : decode cX12_digest 41 = .ok (.i2l, 1) := by decide +kernel
theorem dX12_digest_42 : decode cX12_digest 42 = .ok (.ladd, 1) := by decide +kernel
theorem dX12_digest_43 : decode cX12_digest 43 = .ok (.lstore_n 1, 1) := by decide +kernel
theorem dX12_digest_44 : decode cX12_digest 44 = .ok (.ldc2_w 349, 3) := by decide +kernel
theorem dX12_digest_47 : decode cX12_digest 47 = .ok (.lload_n 1, 1) := by decide +kernel
theorem dX12_digest_48 : decode cX12_digest 48 = .ok (.lmul, 1) := by decide +kernel
theorem dX12_digest_49 : decode cX12_digest 49 = .ok (.aload_n 0, 1) := by decide +kernel
theorem dX12_digest_50 : decode cX12_digest 50 = .ok (.iconst 1, 1) := by decide +kernel
theorem dX12_digest_51 : decode cX12_digest 51 = .ok (.invokevirtual 160, 3) := by decide +kernel
theorem dX12_digest_54 : decode cX12_digest 54 = .ok (.i2l, 1) := by decide +kernel
theorem dX12_digest_55 : decode cX12_digest 55 = .ok (.ladd, 1) := by decide +kernel
theorem dX12_digest_56 : decode cX12_digest 56 = .ok (.lstore_n 1, 1) := by decide +kernel
theorem dX12_digest_57 : decode cX12_digest 57 = .ok (.aload_n 0, 1) := by decide +kernel
theorem dX12_digest_58 : decode cX12_digest 58 = .ok (.invokevirtual 242, 3) := by decide +kernel
theorem dX12_digest_61 : decode cX12_digest 61 = .ok (.ldc2_w 349, 3) := by decide +kernel
theorem dX12_digest_64 : decode cX12_digest 64 = .ok (.lload_n 1, 1) := by decide +kernel
theorem dX12_digest_65 : decode cX12_digest 65 = .ok (.lmul, 1) := by decide +kernel
theorem dX12_digest_66 : decode cX12_digest 66 = .ok (.aload_n 0, 1) := by decide +kernel
theorem dX12_digest_67 : decode cX12_digest 67 = .ok (.getfield 209, 3) := by decide +kernel
theorem dX12_digest_70 : decode cX12_digest 70 = .ok (.i2l, 1) := by decide +kernel
theorem dX12_digest_71 : decode cX12_digest 71 = .ok (.ladd, 1) := by decide +kernel
theorem dX12_digest_72 : decode cX12_digest 72 = .ok (.lstore_n 1, 1) := by decide +kernel
theorem dX12_digest_73 : decode cX12_digest 73 = .ok (.iconst 0, 1) := by decide +kernel
theorem dX12_digest_74 : decode cX12_digest 74 = .ok (.istore_n 3, 1) := by decide +kernel
theorem dX12_digest_75 : decode cX12_digest 75 = .ok (.iload_n 3, 1) := by decide +kernel
theorem dX12_digest_76 : decode cX12_digest 76 = .ok (.aload_n 0, 1) := by decide +kernel
theorem dX12_digest_77 : decode cX12_digest 77 = .ok (.getfield 184, 3) := by decide +kernel
theorem dX12_digest_80 : decode cX12_digest 80 = .ok (.if_icmp .ge 41, 3) := by decide +kernel
theorem dX12_digest_83 : decode cX12_digest 83 = .ok (.aload_n 0, 1) := by decide +kernel
theorem dX12_digest_84 : decode cX12_digest 84 = .ok (.invokevirtual 242, 3) := by decide +kernel
theorem dX12_digest_87 : decode cX12_digest 87 = .ok (.ldc2_w 349, 3) := by decide +kernel
theorem dX12_digest_90 : decode cX12_digest 90 = .ok (.lload_n 1, 1) := by decide +kernel
theorem dX12_digest_91 : decode cX12_digest 91 = .ok (.lmul, 1) := by decide +kernel
theorem dX12_digest_92 : decode cX12_digest 92 = .ok (.aload_n 0, 1) := by decide +kernel
theorem dX12_digest_93 : decode cX12_digest 93 = .ok (.getfield 58, 3) := by decide +kernel
theorem dX12_digest_96 : decode cX12_digest 96 = .ok (.iload_n 3, 1) := by decide +kernel
theorem dX12_digest_97 : decode cX12_digest 97 = .ok (.iaload, 1) := by decide +kernel
theorem dX12_digest_98 : decode cX12_digest 98 = .ok (.i2l, 1) := by decide +kernel
theorem dX12_digest_99 : decode cX12_digest 99 = .ok (.ladd, 1) := by decide +kernel
theorem dX12_digest_100 : decode cX12_digest 100 = .ok (.lstore_n 1, 1) := by decide +kernel
theorem dX12_digest_101 : decode cX12_digest 101 = .ok (.ldc2_w 349, 3) := by decide +kernel
theorem dX12_digest_104 : decode cX12_digest 104 = .ok (.lload_n 1, 1) := by decide +kernel
theorem dX12_digest_105 : decode cX12_digest 105 = .ok (.lmul, 1) := by decide +kernel
theorem dX12_digest_106 : decode cX12_digest 106 = .ok (.aload_n 0, 1) := by decide +kernel
theorem dX12_digest_107 : decode cX12_digest 107 = .ok (.iload_n 3, 1) := by decide +kernel
theorem dX12_digest_108 : decode cX12_digest 108 = .ok (.iconst 0, 1) := by decide +kernel
theorem dX12_digest_109 : decode cX12_digest 109 = .ok (.invokevirtual 309, 3) := by decide +kernel
theorem dX12_digest_112 : decode cX12_digest 112 = .ok (.i2l, 1) := by decide +kernel
theorem dX12_digest_113 : decode cX12_digest 113 = .ok (.ladd, 1) := by decide +kernel
theorem dX12_digest_114 : decode cX12_digest 114 = .ok (.lstore_n 1, 1) := by decide +kernel
theorem dX12_digest_115 : decode cX12_digest 115 = .ok (.iinc 3 1, 3) := by decide +kernel
theorem dX12_digest_118 : decode cX12_digest 118 = .ok (.goto (-43), 3) := by decide +kernel
theorem dX12_digest_121 : decode cX12_digest 121 = .ok (.iconst 0, 1) := by decide +kernel
theorem dX12_digest_122 : decode cX12_digest 122 = .ok (.istore_n 3, 1) := by decide +kernel
theorem dX12_digest_123 : decode cX12_digest 123 = .ok (.iload_n 3, 1) := by decide +kernel
theorem dX12_digest_124 : decode cX12_digest 124 = .ok (.aload_n 0, 1) := by decide +kernel
theorem dX12_digest_125 : decode cX12_digest 125 = .ok (.getfield 138, 3) := by decide +kernel
theorem dX12_digest_128 : decode cX12_digest 128 = .ok (.if_icmp .ge 103, 3) := by decide +kernel
theorem dX12_digest_131 : decode cX12_digest 131 = .ok (.ldc2_w 349, 3) := by decide +kernel
theorem dX12_digest_134 : decode cX12_digest 134 = .ok (.lload_n 1, 1) := by decide +kernel
theorem dX12_digest_135 : decode cX12_digest 135 = .ok (.lmul, 1) := by decide +kernel
theorem dX12_digest_136 : decode cX12_digest 136 = .ok (.aload_n 0, 1) := by decide +kernel
theorem dX12_digest_137 : decode cX12_digest 137 = .ok (.iload_n 3, 1) := by decide +kernel
theorem dX12_digest_138 : decode cX12_digest 138 = .ok (.aload_n 0, 1) := by decide +kernel
theorem dX12_digest_139 : decode cX12_digest 139 = .ok (.getfield 184, 3) := by decide +kernel
theorem dX12_digest_142 : decode cX12_digest 142 = .ok (.iconst (-1), 1) := by decide +kernel
theorem dX12_digest_143 : decode cX12_digest 143 = .ok (.invokevirtual 251, 3) := by decide +kernel
theorem dX12_digest_146 : decode cX12_digest 146 = .ok (.i2l, 1) := by decide +kernel
theorem dX12_digest_147 : decode cX12_digest 147 = .ok (.ladd, 1) := by decide +kernel
theorem dX12_digest_148 : decode cX12_digest 148 = .ok (.lstore_n 1, 1) := by decide +kernel
theorem dX12_digest_149 : decode cX12_digest 149 = .ok (.ldc2_w 349, 3) := by decide +kernel
theorem dX12_digest_152 : decode cX12_digest 152 = .ok (.lload_n 1, 1) := by decide +kernel
theorem dX12_digest_153 : decode cX12_digest 153 = .ok (.lmul, 1) := by decide +kernel
theorem dX12_digest_154 : decode cX12_digest 154 = .ok (.aload_n 0, 1) := by decide +kernel
theorem dX12_digest_155 : decode cX12_digest 155 = .ok (.iload_n 3, 1) := by decide +kernel
theorem dX12_digest_156 : decode cX12_digest 156 = .ok (.sipush 150, 3) := by decide +kernel
theorem dX12_digest_159 : decode cX12_digest 159 = .ok (.invokevirtual 275, 3) := by decide +kernel
theorem dX12_digest_162 : decode cX12_digest 162 = .ok (.i2l, 1) := by decide +kernel
theorem dX12_digest_163 : decode cX12_digest 163 = .ok (.ladd, 1) := by decide +kernel
theorem dX12_digest_164 : decode cX12_digest 164 = .ok (.lstore_n 1, 1) := by decide +kernel
theorem dX12_digest_165 : decode cX12_digest 165 = .ok (.ldc2_w 349, 3) := by decide +kernel
theorem dX12_digest_168 : decode cX12_digest 168 = .ok (.lload_n 1, 1) := by decide +kernel
theorem dX12_digest_169 : decode cX12_digest 169 = .ok (.lmul, 1) := by decide +kernel
theorem dX12_digest_170 : decode cX12_digest 170 = .ok (.aload_n 0, 1) := by decide +kernel
theorem dX12_digest_171 : decode cX12_digest 171 = .ok (.iload_n 3, 1) := by decide +kernel
theorem dX12_digest_172 : decode cX12_digest 172 = .ok (.iconst 2, 1) := by decide +kernel
theorem dX12_digest_173 : decode cX12_digest 173 = .ok (.invokevirtual 280, 3) := by decide +kernel
theorem dX12_digest_176 : decode cX12_digest 176 = .ok (.i2l, 1) := by decide +kernel
theorem dX12_digest_177 : decode cX12_digest 177 = .ok (.ladd, 1) := by decide +kernel
theorem dX12_digest_178 : decode cX12_digest 178 = .ok (.lstore_n 1, 1) := by decide +kernel
theorem dX12_digest_179 : decode cX12_digest 179 = .ok (.ldc2_w 349, 3) := by decide +kernel
theorem dX12_digest_182 : decode cX12_digest 182 = .ok (.lload_n 1, 1) := by decide +kernel
theorem dX12_digest_183 : decode cX12_digest 183 = .ok (.lmul, 1) := by decide +kernel
theorem dX12_digest_184 : decode cX12_digest 184 = .ok (.aload_n 0, 1) := by decide +kernel
theorem dX12_digest_185 : decode cX12_digest 185 = .ok (.iload_n 3, 1) := by decide +kernel
theorem dX12_digest_186 : decode cX12_digest 186 = .ok (.invokevirtual 312, 3) := by decide +kernel
theorem dX12_digest_189 : decode cX12_digest 189 = .ok (.i2l, 1) := by decide +kernel
theorem dX12_digest_190 : decode cX12_digest 190 = .ok (.ladd, 1) := by decide +kernel
theorem dX12_digest_191 : decode cX12_digest 191 = .ok (.lstore_n 1, 1) := by decide +kernel
theorem dX12_digest_192 : decode cX12_digest 192 = .ok (.iconst 0, 1) := by decide +kernel
theorem dX12_digest_193 : decode cX12_digest 193 = .ok (.istore 4, 2) := by decide +kernel
theorem dX12_digest_195 : decode cX12_digest 195 = .ok (.iload 4, 2) := by decide +kernel
theorem dX12_digest_197 : decode cX12_digest 197 = .ok (.iconst 2, 1) := by decide +kernel
theorem dX12_digest_198 : decode cX12_digest 198 = .ok (.if_icmp .ge 27, 3) := by decide +kernel
theorem dX12_digest_201 : decode cX12_digest 201 = .ok (.ldc2_w 349, 3) := by decide +kernel
theorem dX12_digest_204 : decode cX12_digest 204 = .ok (.lload_n 1, 1) := by decide +kernel
theorem dX12_digest_205 : decode cX12_digest 205 = .ok (.lmul, 1) := by decide +kernel
theorem dX12_digest_206 : decode cX12_digest 206 = .ok (.aload_n 0, 1) := by decide +kernel
theorem dX12_digest_207 : decode cX12_digest 207 = .ok (.iload_n 3, 1) := by decide +kernel
theorem dX12_digest_208 : decode cX12_digest 208 = .ok (.iload_n 3, 1) := by decide +kernel
theorem dX12_digest_209 : decode cX12_digest 209 = .ok (.iconst 1, 1) := by decide +kernel
theorem dX12_digest_210 : decode cX12_digest 210 = .ok (.iadd, 1) := by decide +kernel
theorem dX12_digest_211 : decode cX12_digest 211 = .ok (.iload 4, 2) := by decide +kernel
theorem dX12_digest_213 : decode cX12_digest 213 = .ok (.invokevirtual 344, 3) := by decide +kernel
theorem dX12_digest_216 : decode cX12_digest 216 = .ok (.i2l, 1) := by decide +kernel
theorem dX12_digest_217 : decode cX12_digest 217 = .ok (.ladd, 1) := by decide +kernel
theorem dX12_digest_218 : decode cX12_digest 218 = .ok (.lstore_n 1, 1) := by decide +kernel
theorem dX12_digest_219 : decode cX12_digest 219 = .ok (.iinc 4 1, 3) := by decide +kernel
theorem dX12_digest_222 : decode cX12_digest 222 = .ok (.goto (-27), 3) := by decide +kernel
theorem dX12_digest_225 : decode cX12_digest 225 = .ok (.iinc 3 1, 3) := by decide +kernel
theorem dX12_digest_228 : decode cX12_digest 228 = .ok (.goto (-105), 3) := by decide +kernel
theorem dX12_digest_231 : decode cX12_digest 231 = .ok (.iconst 0, 1) := by decide +kernel
theorem dX12_digest_232 : decode cX12_digest 232 = .ok (.istore_n 3, 1) := by decide +kernel
theorem dX12_digest_233 : decode cX12_digest 233 = .ok (.iload_n 3, 1) := by decide +kernel
theorem dX12_digest_234 : decode cX12_digest 234 = .ok (.aload_n 0, 1) := by decide +kernel
theorem dX12_digest_235 : decode cX12_digest 235 = .ok (.getfield 144, 3) := by decide +kernel
theorem dX12_digest_238 : decode cX12_digest 238 = .ok (.if_icmp .ge 105, 3) := by decide +kernel
theorem dX12_digest_241 : decode cX12_digest 241 = .ok (.iconst 0, 1) := by decide +kernel
theorem dX12_digest_242 : decode cX12_digest 242 = .ok (.istore 4, 2) := by decide +kernel
theorem dX12_digest_244 : decode cX12_digest 244 = .ok (.iload 4, 2) := by decide +kernel
theorem dX12_digest_246 : decode cX12_digest 246 = .ok (.iconst 4, 1) := by decide +kernel
theorem dX12_digest_247 : decode cX12_digest 247 = .ok (.if_icmp .ge 28, 3) := by decide +kernel
theorem dX12_digest_250 : decode cX12_digest 250 = .ok (.ldc2_w 349, 3) := by decide +kernel
theorem dX12_digest_253 : decode cX12_digest 253 = .ok (.lload_n 1, 1) := by decide +kernel
theorem dX12_digest_254 : decode cX12_digest 254 = .ok (.lmul, 1) := by decide +kernel
theorem dX12_digest_255 : decode cX12_digest 255 = .ok (.aload_n 0, 1) := by decide +kernel
theorem dX12_digest_256 : decode cX12_digest 256 = .ok (.getfield 31, 3) := by decide +kernel
theorem dX12_digest_259 : decode cX12_digest 259 = .ok (.iconst 4, 1) := by decide +kernel
theorem dX12_digest_260 : decode cX12_digest 260 = .ok (.iload_n 3, 1) := by decide +kernel
theorem dX12_digest_261 : decode cX12_digest 261 = .ok (.imul, 1) := by decide +kernel
theorem dX12_digest_262 : decode cX12_digest 262 = .ok (.iload 4, 2) := by decide +kernel
theorem dX12_digest_264 : decode cX12_digest 264 = .ok (.iadd, 1) := by decide +kernel
theorem dX12_digest_265 : decode cX12_digest 265 = .ok (.iaload, 1) := by decide +kernel
theorem dX12_digest_266 : decode cX12_digest 266 = .ok (.i2l, 1) := by decide +kernel
theorem dX12_digest_267 : decode cX12_digest 267 = .ok (.ladd, 1) := by decide +kernel
theorem dX12_digest_268 : decode cX12_digest 268 = .ok (.lstore_n 1, 1) := by decide +kernel
theorem dX12_digest_269 : decode cX12_digest 269 = .ok (.iinc 4 1, 3) := by decide +kernel
theorem dX12_digest_272 : decode cX12_digest 272 = .ok (.goto (-28), 3) := by decide +kernel
theorem dX12_digest_275 : decode cX12_digest 275 = .ok (.ldc2_w 349, 3) := by decide +kernel
theorem dX12_digest_278 : decode cX12_digest 278 = .ok (.lload_n 1, 1) := by decide +kernel
theorem dX12_digest_279 : decode cX12_digest 279 = .ok (.lmul, 1) := by decide +kernel
theorem dX12_digest_280 : decode cX12_digest 280 = .ok (.aload_n 0, 1) := by decide +kernel
theorem dX12_digest_281 : decode cX12_digest 281 = .ok (.iload_n 3, 1) := by decide +kernel
theorem dX12_digest_282 : decode cX12_digest 282 = .ok (.bipush 6, 2) := by decide +kernel
theorem dX12_digest_284 : decode cX12_digest 284 = .ok (.invokevirtual 176, 3) := by decide +kernel
theorem dX12_digest_287 : decode cX12_digest 287 = .ok (.i2l, 1) := by decide +kernel
theorem dX12_digest_288 : decode cX12_digest 288 = .ok (.ladd, 1) := by decide +kernel
theorem dX12_digest_289 : decode cX12_digest 289 = .ok (.lstore_n 1, 1) := by decide +kernel
theorem dX12_digest_290 : decode cX12_digest 290 = .ok (.aload_n 0, 1) := by decide +kernel
theorem dX12_digest_291 : decode cX12_digest 291 = .ok (.invokevirtual 242, 3) := by decide +kernel
theorem dX12_digest_294 : decode cX12_digest 294 = .ok (.iconst 0, 1) := by decide +kernel
theorem dX12_digest_295 : decode cX12_digest 295 = .ok (.istore 4, 2) := by decide +kernel
theorem dX12_digest_297 : decode cX12_digest 297 = .ok (.iload 4, 2) := by decide +kernel
theorem dX12_digest_299 : decode cX12_digest 299 = .ok (.iconst 3, 1) := by decide +kernel
theorem dX12_digest_300 : decode cX12_digest 300 = .ok (.if_icmp .ge 24, 3) := by decide +kernel
theorem dX12_digest_303 : decode cX12_digest 303 = .ok (.ldc2_w 349, 3) := by decide +kernel
theorem dX12_digest_306 : decode cX12_digest 306 = .ok (.lload_n 1, 1) := by decide +kernel
theorem dX12_digest_307 : decode cX12_digest 307 = .ok (.lmul, 1) := by decide +kernel
theorem dX12_digest_308 : decode cX12_digest 308 = .ok (.aload_n 0, 1) := by decide +kernel
theorem dX12_digest_309 : decode cX12_digest 309 = .ok (.iload_n 3, 1) := by decide +kernel
theorem dX12_digest_310 : decode cX12_digest 310 = .ok (.iload 4, 2) := by decide +kernel
theorem dX12_digest_312 : decode cX12_digest 312 = .ok (.invokevirtual 254, 3) := by decide +kernel
theorem dX12_digest_315 : decode cX12_digest 315 = .ok (.i2l, 1) := by decide +kernel
theorem dX12_digest_316 : decode cX12_digest 316 = .ok (.ladd, 1) := by decide +kernel
theorem dX12_digest_317 : decode cX12_digest 317 = .ok (.lstore_n 1, 1) := by decide +kernel
theorem dX12_digest_318 : decode cX12_digest 318 = .ok (.iinc 4 1, 3) := by decide +kernel
theorem dX12_digest_321 : decode cX12_digest 321 = .ok (.goto (-24), 3) := by decide +kernel
theorem dX12_digest_324 : decode cX12_digest 324 = .ok (.ldc2_w 349, 3) := by decide +kernel
theorem dX12_digest_327 : decode cX12_digest 327 = .ok (.lload_n 1, 1) := by decide +kernel
theorem dX12_digest_328 : decode cX12_digest 328 = .ok (.lmul, 1) := by decide +kernel
theorem dX12_digest_329 : decode cX12_digest 329 = .ok (.aload_n 0, 1) := by decide +kernel
theorem dX12_digest_330 : decode cX12_digest 330 = .ok (.iload_n 3, 1) := by decide +kernel
theorem dX12_digest_331 : decode cX12_digest 331 = .ok (.invokevirtual 303, 3) := by decide +kernel
theorem dX12_digest_334 : decode cX12_digest 334 = .ok (.i2l, 1) := by decide +kernel
theorem dX12_digest_335 : decode cX12_digest 335 = .ok (.ladd, 1) := by decide +kernel
theorem dX12_digest_336 : decode cX12_digest 336 = .ok (.lstore_n 1, 1) := by decide +kernel
theorem dX12_digest_337 : decode cX12_digest 337 = .ok (.iinc 3 1, 3) := by decide +kernel
theorem dX12_digest_340 : decode cX12_digest 340 = .ok (.goto (-107), 3) := by decide +kernel
theorem dX12_digest_343 : decode cX12_digest 343 = .ok (.aload_n 0, 1) := by decide +kernel
theorem dX12_digest_344 : decode cX12_digest 344 = .ok (.invokevirtual 242, 3) := by decide +kernel
theorem dX12_digest_347 : decode cX12_digest 347 = .ok (.ldc2_w 349, 3) := by decide +kernel
theorem dX12_digest_350 : decode cX12_digest 350 = .ok (.lload_n 1, 1) := by decide +kernel
theorem dX12_digest_351 : decode cX12_digest 351 = .ok (.lmul, 1) := by decide +kernel
theorem dX12_digest_352 : decode cX12_digest 352 = .ok (.aload_n 0, 1) := by decide +kernel
theorem dX12_digest_353 : decode cX12_digest 353 = .ok (.getfield 203, 3) := by decide +kernel
theorem dX12_digest_356 : decode cX12_digest 356 = .ok (.i2l, 1) := by decide +kernel
theorem dX12_digest_357 : decode cX12_digest 357 = .ok (.ladd, 1) := by decide +kernel
theorem dX12_digest_358 : decode cX12_digest 358 = .ok (.lstore_n 1, 1) := by decide +kernel
theorem dX12_digest_359 : decode cX12_digest 359 = .ok (.ldc2_w 349, 3) := by decide +kernel
theorem dX12_digest_362 : decode cX12_digest 362 = .ok (.lload_n 1, 1) := by decide +kernel
theorem dX12_digest_363 : decode cX12_digest 363 = .ok (.lmul, 1) := by decide +kernel
theorem dX12_digest_364 : decode cX12_digest 364 = .ok (.aload_n 0, 1) := by decide +kernel
theorem dX12_digest_365 : decode cX12_digest 365 = .ok (.invokevirtual 286, 3) := by decide +kernel
theorem dX12_digest_368 : decode cX12_digest 368 = .ok (.i2l, 1) := by decide +kernel
theorem dX12_digest_369 : decode cX12_digest 369 = .ok (.ladd, 1) := by decide +kernel
theorem dX12_digest_370 : decode cX12_digest 370 = .ok (.lstore_n 1, 1) := by decide +kernel
theorem dX12_digest_371 : decode cX12_digest 371 = .ok (.ldc2_w 349, 3) := by decide +kernel
theorem dX12_digest_374 : decode cX12_digest 374 = .ok (.lload_n 1, 1) := by decide +kernel
theorem dX12_digest_375 : decode cX12_digest 375 = .ok (.lmul, 1) := by decide +kernel
theorem dX12_digest_376 : decode cX12_digest 376 = .ok (.aload_n 0, 1) := by decide +kernel
theorem dX12_digest_377 : decode cX12_digest 377 = .ok (.invokevirtual 306, 3) := by decide +kernel
theorem dX12_digest_380 : decode cX12_digest 380 = .ok (.i2l, 1) := by decide +kernel
theorem dX12_digest_381 : decode cX12_digest 381 = .ok (.ladd, 1) := by decide +kernel
theorem dX12_digest_382 : decode cX12_digest 382 = .ok (.lreturn, 1) := by decide +kernel
